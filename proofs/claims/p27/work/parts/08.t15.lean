def Lt_X12_worth : WL := []
def LRt_X12_worth : WL := []
set_option maxRecDepth 100000 in
set_option maxHeartbeats 4000000 in
theorem t_X12_worth (l : Launch) (D : va_G) (cy : Nat → ClassId) (tx : (Nat → Nat) × (Nat → Nat)) (base Z : Nat) (K N : Nat → Nat) (Ma : MT) (Ra : RT) (Ja : JT) (hTy : Ty Z K N Ma Ra) (a0 : Nat) (hz_a0 : a0 < Z) (hk_a0 : K a0 = 12) (a1 : Int32) (h_a1 : iv (-2147483648) 2147483647 a1) (a2 : Int32) (h_a2 : iv (-2147483648) 2147483647 a2) : Met l yX12_worth [Cond.code yX12_worth cX12_worth 3 (some .int)] (md_rm 2 0 0) (va_Pc [.ref (base + a0), .int a1, .int a2] (md_U D cy tx base Z K N Ma Ra Ja)) (mQi D cy tx base (fun r u => TP Z K N Lt_X12_worth LRt_X12_worth Ma Ra u ∧ (iv (-2147483648) 2147483647 r))) 0 0 (fun q => base ≤ q) := by
  refine tw_ofW (L := Lt_X12_worth) (LR := LRt_X12_worth) (by decide) (Nat.le_of_ble_eq_true rfl) hTy ?_
  intro p e s m args below meth c Q ls hx hb hr hlocks hown hml hW hK hT hS hQ hl
  have hl : lv_has ls 3 [(0, .ref (base + a0)), (1, .int a1), (2, .int a2)] := hl
  refine lv_aload_n hx hb dX12_worth_0 rfl (lv_at hl 0 rfl) ?_
  refine lv_iload_n hx hb dX12_worth_1 rfl (lv_at hl 1 rfl) ?_
  refine tw_goi hS (md_runV (As := [.int a1]) (rest := []) hx hb hml hown hW hK hT hS.1 (t_X12_isMember l D cy tx base Z K N Ma Ra Ja hS.2.1 a0 hz_a0 hk_a0 a1 h_a1) s_X12_319 ⟨rfl, rfl, ⟨Nat.le_of_ble_eq_true rfl, Nat.le_of_ble_eq_true rfl⟩, ⟨Nat.le_of_ble_eq_true rfl, Nat.le_of_ble_eq_true rfl⟩⟩ hz_a0 hk_a0 (by decide) rfl rfl hl.1 rfl (Nat.le_of_ble_eq_true rfl) dX12_worth_2) rfl rfl (fun x7 H locs M4 R5 J3 hS f1 g2 E6 => ?_)
  have eM4 := Fr.nil f1 rfl
  subst eM4
  have eR5 := Fr.nil g2 rfl
  subst eR5
  obtain ⟨h_x7, p8⟩ := E6
  refine lv_if_eq (tgt := 25) hx hb dX12_worth_5 (by decide) (fun c9 => ?_) (fun c9 => ?_)
  · have q10 : x7.toInt = 0 := ti_eq c9
    have h11 : iv 0 0 x7 := ⟨by have := (h_x7).1; have := ((iv_c (c := 0) (n := 0) (by decide))).1; omega, by have := (h_x7).2; have := ((iv_c (c := 0) (n := 0) (by decide))).2; omega⟩
    refine lv_sipush (v := (-1000)) hx hb dX12_worth_25 (by decide) ?_
    exact tw_endi hx hb hr hlocks hK hT hS hQ ((iv_mono (iv_c (c := (-1000)) (n := (-1000)) (by decide)) (by decide) (by decide))) dX12_worth_28
  · have q12 : ¬ x7.toInt = 0 := ti_ne c9
    have h13 : iv 1 1 x7 := ⟨by have := (h_x7).1; have := ((iv_c (c := 0) (n := 0) (by decide))).1; have := ((iv_c (c := 0) (n := 0) (by decide))).2; omega, by have := (h_x7).2; have := ((iv_c (c := 0) (n := 0) (by decide))).1; have := ((iv_c (c := 0) (n := 0) (by decide))).2; omega⟩
    have h14 : iv 0 9 a1 := ⟨by have := (p8 c9).1; have := (h_a1).1; omega, by have := (p8 c9).2; have := (h_a1).2; omega⟩
    refine lv_aload_n hx hb dX12_worth_8 rfl (lv_at hl 0 rfl) ?_
    refine lv_iload_n hx hb dX12_worth_9 rfl (lv_at hl 2 rfl) ?_
    refine tw_goi hS (md_runV (As := [.int a2]) (rest := []) hx hb hml hown hW hK hT hS.1 (t_X12_isPoint l D cy tx base Z K N Ma Ra J3 hS.2.1 a0 hz_a0 hk_a0 a2 h_a2) s_X12_327 ⟨rfl, rfl, ⟨Nat.le_of_ble_eq_true rfl, Nat.le_of_ble_eq_true rfl⟩, ⟨Nat.le_of_ble_eq_true rfl, Nat.le_of_ble_eq_true rfl⟩⟩ hz_a0 hk_a0 (by decide) rfl rfl hl.1 rfl (Nat.le_of_ble_eq_true rfl) dX12_worth_10) rfl rfl (fun x21 H locs M18 R19 J17 hS f15 g16 E20 => ?_)
    have eM18 := Fr.nil f15 rfl
    subst eM18
    have eR19 := Fr.nil g16 rfl
    subst eR19
    obtain ⟨h_x21, p22⟩ := E20
    refine lv_if_eq (tgt := 25) hx hb dX12_worth_13 (by decide) (fun c23 => ?_) (fun c23 => ?_)
    · have q24 : x21.toInt = 0 := ti_eq c23
      have h25 : iv 0 0 x21 := ⟨by have := (h_x21).1; have := ((iv_c (c := 0) (n := 0) (by decide))).1; omega, by have := (h_x21).2; have := ((iv_c (c := 0) (n := 0) (by decide))).2; omega⟩
      refine lv_sipush (v := (-1000)) hx hb dX12_worth_25 (by decide) ?_
      exact tw_endi hx hb hr hlocks hK hT hS hQ ((iv_mono (iv_c (c := (-1000)) (n := (-1000)) (by decide)) (by decide) (by decide))) dX12_worth_28
    · have q26 : ¬ x21.toInt = 0 := ti_ne c23
      have h27 : iv 1 1 x21 := ⟨by have := (h_x21).1; have := ((iv_c (c := 0) (n := 0) (by decide))).1; have := ((iv_c (c := 0) (n := 0) (by decide))).2; omega, by have := (h_x21).2; have := ((iv_c (c := 0) (n := 0) (by decide))).1; have := ((iv_c (c := 0) (n := 0) (by decide))).2; omega⟩
      have h28 : iv 0 11 a2 := ⟨by have := (p22 c23).1; have := (h_a2).1; omega, by have := (p22 c23).2; have := (h_a2).2; omega⟩
      refine lv_aload_n hx hb dX12_worth_16 rfl (lv_at hl 0 rfl) ?_
      refine lv_iload_n hx hb dX12_worth_17 rfl (lv_at hl 1 rfl) ?_
      refine lv_iload_n hx hb dX12_worth_18 rfl (lv_at hl 2 rfl) ?_
      refine tw_goi hS (md_runV (As := [.int a1, .int a2]) (rest := []) hx hb hml hown hW hK hT hS.1 (t_X12_worthOf l D cy tx base Z K N Ma Ra J17 hS.2.1 a0 hz_a0 hk_a0 a1 h14 a2 h28) s_X12_330 ⟨rfl, rfl, ⟨Nat.le_of_ble_eq_true rfl, Nat.le_of_ble_eq_true rfl⟩, ⟨Nat.le_of_ble_eq_true rfl, Nat.le_of_ble_eq_true rfl⟩⟩ hz_a0 hk_a0 (by decide) rfl rfl hl.1 rfl (Nat.le_of_ble_eq_true rfl) dX12_worth_19) rfl rfl (fun x35 H locs M32 R33 J31 hS f29 g30 E34 => ?_)
      have eM32 := Fr.nil f29 rfl
      subst eM32
      have eR33 := Fr.nil g30 rfl
      subst eR33
      have h_x35 := E34
      refine lv_goto (tgt := 28) hx hb dX12_worth_22 (by decide) ?_
      exact tw_endi hx hb hr hlocks hK hT hS hQ (h_x35) dX12_worth_28
def Lt_X12_year : WL := [(12, 23, 24), (12, 28, 29), (12, 30, 33), (12, 35, 37), (14, 0, 2000000), (30, 0, 2000000), (31, 0, 2000000)]
def LRt_X12_year : WL := []
set_option maxRecDepth 100000 in
set_option maxHeartbeats 4000000 in
theorem t_X12_year (l : Launch) (D : va_G) (cy : Nat → ClassId) (tx : (Nat → Nat) × (Nat → Nat)) (base Z : Nat) (K N : Nat → Nat) (Ma : MT) (Ra : RT) (Ja : JT) (hTy : Ty Z K N Ma Ra) (a0 : Nat) (hz_a0 : a0 < Z) (hk_a0 : K a0 = 12) (a1 : Int32) (h_a1 : iv (-2147483648) 2147483647 a1) (a2 : Int32) (h_a2 : iv (-2147483648) 2147483647 a2) (a3 : Int32) (h_a3 : iv (-2147483648) 2147483647 a3) (co_a0 : Codes Ma Ra a0) : Met l yX12_year [Cond.code yX12_year cX12_year 10 (some .int)] (md_rm 5 0 0) (va_Pc [.ref (base + a0), .int a1, .int a2, .int a3] (md_U D cy tx base Z K N Ma Ra Ja)) (mQi D cy tx base (fun r u => TP Z K N Lt_X12_year LRt_X12_year Ma Ra u ∧ (iv (-2147483648) 2147483647 r))) 0 0 (fun q => base ≤ q) := by
  refine tw_ofW (L := Lt_X12_year) (LR := LRt_X12_year) (by decide) (Nat.le_of_ble_eq_true rfl) hTy ?_
  intro p e s m args below meth c Q ls hx hb hr hlocks hown hml hW hK hT hS hQ hl
  have hl : lv_has ls 10 [(0, .ref (base + a0)), (1, .int a1), (2, .int a2), (3, .int a3)] := hl
  refine lv_aload_n hx hb dX12_year_0 rfl (lv_at hl 0 rfl) ?_
  refine tw_getr hx hb hW hown hK hS f_X12_45_11 hz_a0 hk_a0 (t := 23) (n := 226) rfl dX12_year_1 (fun b1 k2 hz_b1 hk_b1 hn_b1 => ?_)
  have hn_b1 := hn_b1 (by decide)
  refine lv_iconst (v := 1) hx hb dX12_year_4 (by decide) ?_
  refine tw_iald hx hb hK hS hz_b1 hk_b1 (Or.inr (by decide)) hn_b1 (lo := 0) (hi := 12) (iv_c (c := 1) (n := 1) (by decide)) ⟨by decide, by decide⟩ (rg_c (k0 := 1) rfl rfl rfl) dX12_year_5 (fun x5 k4 h3 => ?_)
  refine lv_if_eq (tgt := 41) hx hb dX12_year_6 (by decide) (fun c6 => ?_) (fun c6 => ?_)
  · have q7 : x5.toInt = 0 := ti_eq c6
    have h8 : iv 0 0 x5 := ⟨by have := (h3).1; have := ((iv_c (c := 0) (n := 0) (by decide))).1; omega, by have := (h3).2; have := ((iv_c (c := 0) (n := 0) (by decide))).2; omega⟩
    refine lv_ldcw hx hb hown (hW _ w_8_46 rfl) dX12_year_41 ?_
    exact tw_endi hx hb hr hlocks hK hT hS hQ ((iv_mono (iv_c (c := (-1000000)) (n := (-1000000)) (by decide)) (by decide) (by decide))) dX12_year_44
  · have q9 : ¬ x5.toInt = 0 := ti_ne c6
    have h10 : iv 1 12 x5 := ⟨by have := (h3).1; have := ((iv_c (c := 0) (n := 0) (by decide))).1; have := ((iv_c (c := 0) (n := 0) (by decide))).2; omega, by have := (h3).2; have := ((iv_c (c := 0) (n := 0) (by decide))).1; have := ((iv_c (c := 0) (n := 0) (by decide))).2; omega⟩
    refine lv_iload_n hx hb dX12_year_9 rfl (lv_at hl 1 rfl) ?_
    refine lv_i2l hx hb dX12_year_10 rfl ?_
    refine lv_lconst (v := 1) hx hb dX12_year_11 (by decide) ?_
    refine lv_ldc2 hx hb hown (hW _ w_8_178 rfl) dX12_year_12 ?_
    refine tw_goi hS (md_runS (As := [.long a1.toInt64, .long 1, .long 400]) (rest := []) hx hb hml hown hW hK hT hS.1 (t_X12_in l D cy tx base Z K N Ma Ra Ja hS.2.1 (a1.toInt64) (1) (400)) s_X12_155 ⟨rfl, rfl, ⟨Nat.le_of_ble_eq_true rfl, Nat.le_of_ble_eq_true rfl⟩, ⟨Nat.le_of_ble_eq_true rfl, Nat.le_of_ble_eq_true rfl⟩⟩ rfl hl.1 rfl (Nat.le_of_ble_eq_true rfl) dX12_year_15) rfl rfl (fun x17 H locs M14 R15 J13 hS f11 g12 E16 => ?_)
    have eM14 := Fr.nil f11 rfl
    subst eM14
    have eR15 := Fr.nil g12 rfl
    subst eR15
    obtain ⟨h_x17, p18⟩ := E16
    refine lv_if_eq (tgt := 41) hx hb dX12_year_18 (by decide) (fun c19 => ?_) (fun c19 => ?_)
    · have q20 : x17.toInt = 0 := ti_eq c19
      have h21 : iv 0 0 x17 := ⟨by have := (h_x17).1; have := ((iv_c (c := 0) (n := 0) (by decide))).1; omega, by have := (h_x17).2; have := ((iv_c (c := 0) (n := 0) (by decide))).2; omega⟩
      refine lv_ldcw hx hb hown (hW _ w_8_46 rfl) dX12_year_41 ?_
      exact tw_endi hx hb hr hlocks hK hT hS hQ ((iv_mono (iv_c (c := (-1000000)) (n := (-1000000)) (by decide)) (by decide) (by decide))) dX12_year_44
    · have q22 : ¬ x17.toInt = 0 := ti_ne c19
      have h23 : iv 1 1 x17 := ⟨by have := (h_x17).1; have := ((iv_c (c := 0) (n := 0) (by decide))).1; have := ((iv_c (c := 0) (n := 0) (by decide))).2; omega, by have := (h_x17).2; have := ((iv_c (c := 0) (n := 0) (by decide))).1; have := ((iv_c (c := 0) (n := 0) (by decide))).2; omega⟩
      have h24 : iv 1 400 a1 := in2iv (p18 c19) ((jv_c (x := 1) (n := 1) (by decide))).1 ((jv_c (x := 400) (n := 400) (by decide))).2
      refine lv_aload_n hx hb dX12_year_21 rfl (lv_at hl 0 rfl) ?_
      refine lv_iload_n hx hb dX12_year_22 rfl (lv_at hl 2 rfl) ?_
      refine tw_goi hS (md_runV (As := [.int a2]) (rest := []) hx hb hml hown hW hK hT hS.1 (t_X12_isMember l D cy tx base Z K N Ma Ra J13 hS.2.1 a0 hz_a0 hk_a0 a2 h_a2) s_X12_319 ⟨rfl, rfl, ⟨Nat.le_of_ble_eq_true rfl, Nat.le_of_ble_eq_true rfl⟩, ⟨Nat.le_of_ble_eq_true rfl, Nat.le_of_ble_eq_true rfl⟩⟩ hz_a0 hk_a0 (by decide) rfl rfl hl.1 rfl (Nat.le_of_ble_eq_true rfl) dX12_year_23) rfl rfl (fun x31 H locs M28 R29 J27 hS f25 g26 E30 => ?_)
      have eM28 := Fr.nil f25 rfl
      subst eM28
      have eR29 := Fr.nil g26 rfl
      subst eR29
      obtain ⟨h_x31, p32⟩ := E30
      refine lv_if_eq (tgt := 41) hx hb dX12_year_26 (by decide) (fun c33 => ?_) (fun c33 => ?_)
      · have q34 : x31.toInt = 0 := ti_eq c33
        have h35 : iv 0 0 x31 := ⟨by have := (h_x31).1; have := ((iv_c (c := 0) (n := 0) (by decide))).1; omega, by have := (h_x31).2; have := ((iv_c (c := 0) (n := 0) (by decide))).2; omega⟩
        refine lv_ldcw hx hb hown (hW _ w_8_46 rfl) dX12_year_41 ?_
        exact tw_endi hx hb hr hlocks hK hT hS hQ ((iv_mono (iv_c (c := (-1000000)) (n := (-1000000)) (by decide)) (by decide) (by decide))) dX12_year_44
      · have q36 : ¬ x31.toInt = 0 := ti_ne c33
        have h37 : iv 1 1 x31 := ⟨by have := (h_x31).1; have := ((iv_c (c := 0) (n := 0) (by decide))).1; have := ((iv_c (c := 0) (n := 0) (by decide))).2; omega, by have := (h_x31).2; have := ((iv_c (c := 0) (n := 0) (by decide))).1; have := ((iv_c (c := 0) (n := 0) (by decide))).2; omega⟩
        have h38 : iv 0 9 a2 := ⟨by have := (p32 c33).1; have := (h_a2).1; omega, by have := (p32 c33).2; have := (h_a2).2; omega⟩
        refine lv_iload_n hx hb dX12_year_29 rfl (lv_at hl 3 rfl) ?_
        refine lv_i2l hx hb dX12_year_30 rfl ?_
        refine lv_lconst (v := 0) hx hb dX12_year_31 (by decide) ?_
        refine lv_ldc2 hx hb hown (hW _ w_7_178 rfl) dX12_year_32 ?_
        refine tw_goi hS (md_runS (As := [.long a3.toInt64, .long 0, .long 2]) (rest := []) hx hb hml hown hW hK hT hS.1 (t_X12_in l D cy tx base Z K N Ma Ra J27 hS.2.1 (a3.toInt64) (0) (2)) s_X12_155 ⟨rfl, rfl, ⟨Nat.le_of_ble_eq_true rfl, Nat.le_of_ble_eq_true rfl⟩, ⟨Nat.le_of_ble_eq_true rfl, Nat.le_of_ble_eq_true rfl⟩⟩ rfl hl.1 rfl (Nat.le_of_ble_eq_true rfl) dX12_year_35) rfl rfl (fun x45 H locs M42 R43 J41 hS f39 g40 E44 => ?_)
        have eM42 := Fr.nil f39 rfl
        subst eM42
        have eR43 := Fr.nil g40 rfl
        subst eR43
        obtain ⟨h_x45, p46⟩ := E44
        refine lv_if_ne (tgt := 45) hx hb dX12_year_38 (by decide) (fun c47 => ?_) (fun c47 => ?_)
        · have q48 : ¬ x45.toInt = 0 := ti_ne c47
          have h49 : iv 1 1 x45 := ⟨by have := (h_x45).1; have := ((iv_c (c := 0) (n := 0) (by decide))).1; have := ((iv_c (c := 0) (n := 0) (by decide))).2; omega, by have := (h_x45).2; have := ((iv_c (c := 0) (n := 0) (by decide))).1; have := ((iv_c (c := 0) (n := 0) (by decide))).2; omega⟩
          have h50 : iv 0 2 a3 := in2iv (p46 c47) ((jv_c (x := 0) (n := 0) (by decide))).1 ((jv_c (x := 2) (n := 2) (by decide))).2
          refine lv_aload_n hx hb dX12_year_45 rfl (lv_at hl 0 rfl) ?_
          obtain ⟨x53, k51⟩ : ∃ x, Ma b1 (4 : Int32).toNatClampNeg = x := ⟨_, rfl⟩
          have h52 : iv 0 8 x53 := by rw [← k51]; exact hS.2.1.int hz_b1 hk_b1 (show rgI 23 (4 : Int32).toNatClampNeg = (0, 8) from rfl)
          refine tw_gov hS (md_runV (As := []) (rest := []) hx hb hml hown hW hK hT hS.1 (t_X12_begins l D cy tx base Z K N Ma Ra J41 hS.2.1 a0 hz_a0 hk_a0 b1 k2 x53 k51 (iv_mono h52 (by decide) (by decide))) s_X12_393 ⟨rfl, rfl, ⟨Nat.le_of_ble_eq_true rfl, Nat.le_of_ble_eq_true rfl⟩, ⟨Nat.le_of_ble_eq_true rfl, Nat.le_of_ble_eq_true rfl⟩⟩ hz_a0 hk_a0 (by decide) rfl rfl hl.1 rfl (Nat.le_of_ble_eq_true rfl) dX12_year_46) rfl rfl (fun H locs M57 R58 J56 hS f54 g55 E59 => ?_)
          have eR58 := Fr.nil g55 rfl
          subst eR58
          have p60 := E59
          have k61 : M57 a0 30 = x53 := p60
          refine lv_aload_n hx hb dX12_year_49 rfl (lv_at hl 0 rfl) ?_
          refine lv_iconst (v := 0) hx hb dX12_year_50 (by decide) ?_
          refine tw_puti hx hb hW hown hK hS f_X12_410_11 hz_a0 hk_a0 rfl rfl (lo := (-2147483648)) (hi := 2147483647) rfl (iv_mono (iv_c (c := 0) (n := 0) (by decide)) (by decide) (by decide)) rfl dX12_year_51 (fun H locs M64 hS k62 f63 => ?_)
          refine lv_aload_n hx hb dX12_year_54 rfl (lv_at hl 0 rfl) ?_
          refine lv_iconst (v := 0) hx hb dX12_year_55 (by decide) ?_
          refine tw_puti hx hb hW hown hK hS f_X12_407_11 hz_a0 hk_a0 rfl rfl (lo := (-2147483648)) (hi := 2147483647) rfl (iv_mono (iv_c (c := 0) (n := 0) (by decide)) (by decide) (by decide)) rfl dX12_year_56 (fun H locs M67 hS k65 f66 => ?_)
          refine lv_iconst (v := 0) hx hb dX12_year_59 (by decide) ?_
          refine lv_istore (lv' := [(4, .int 0), (0, .ref (base + a0)), (1, .int a1), (2, .int a2), (3, .int a3)]) hx hb dX12_year_60 hl (by decide) rfl (fun ls hl => ?_)
          refine lv_aload_n hx hb dX12_year_62 rfl (lv_at hl 1 rfl) ?_
          refine tw_getrk hx hb hW hown hK hS f_X12_45_11 hz_a0 hk_a0 (b := b1) k2 dX12_year_63 ?_
          refine lv_bipush (v := 6) hx hb dX12_year_66 (by decide) ?_
          refine tw_iald hx hb hK hS hz_b1 hk_b1 (Or.inr (by decide)) hn_b1 (lo := 0) (hi := 2147483647) (iv_c (c := 6) (n := 6) (by decide)) ⟨by decide, by decide⟩ (rg_c (k0 := 6) rfl rfl rfl) dX12_year_68 (fun x70 k69 h68 => ?_)
          refine lv_i2l hx hb dX12_year_69 rfl ?_
          refine lv_lstore (lv' := [(5, .long x70.toInt64), (4, .int 0), (0, .ref (base + a0)), (1, .int a1), (2, .int a2), (3, .int a3)]) hx hb dX12_year_70 hl (by decide) rfl (fun ls hl => ?_)
          refine lv_iconst (v := 0) hx hb dX12_year_72 (by decide) ?_
          refine lv_istore (lv' := [(7, .int 0), (5, .long x70.toInt64), (4, .int 0), (0, .ref (base + a0)), (1, .int a1), (2, .int a2), (3, .int a3)]) hx hb dX12_year_73 hl (by decide) rfl (fun ls hl => ?_)
          have W75_74 : ∀ (n_74 : Nat) (x71 : Int32) (x72 : Int64) (x73 : Int32) (M74 : MT) (R75 : RT) (J76 : JT) (H : Heap) (locs : List Loc) (ls : Array Slot) (h_x71 : iv 0 9999 x71) (h_x72 : jv 0 2147483647 x72) (h_x73 : iv 0 400 x73) (hm_74 : 400 - x73.toInt < (n_74 : Int)) (hS : SB D cy base Z K N Lt_X12_year LRt_X12_year Ma Ra M74 R75 J76 s H locs) (hl : lv_has ls 10 [(4, .int x71), (5, .long x72), (7, .int x73), (0, .ref (base + a0)), (1, .int a1), (2, .int a2), (3, .int a3)]), W p l e (md_rm 5 0 0) s m args below meth c H locs 0 0 Q (F0 m 75 ls []) := by
            intro n_74
            induction n_74 with
            | zero =>
              intro x71 x72 x73 M74 R75 J76 H locs ls h_x71 h_x72 h_x73 hm_74 hS hl
              exfalso
              have := (h24).1; have := (h24).2; have := (h38).1; have := (h38).2; have := (h50).1; have := (h50).2; have := (h_x73).1; have := (h_x73).2; omega
            | succ n_74 ih_74 =>
              intro x71 x72 x73 M74 R75 J76 H locs ls h_x71 h_x72 h_x73 hm_74 hS hl
              have f77 := hS.2.2.1
              have g78 := hS.2.2.2
              refine lv_iload hx hb dX12_year_75 (lv_at hl 2 rfl) ?_
              refine lv_iload_n hx hb dX12_year_77 rfl (lv_at hl 4 rfl) ?_
              refine lv_icmp_ge (tgt := 184) hx hb dX12_year_78 (by decide) (fun c79 => ?_) (fun c79 => ?_)
              · have q80 : a1.toInt ≤ x73.toInt := ti_le c79
                have h81 : iv 1 400 x73 := iv_geL (y := a1) h_x73 h24 q80 (by decide)
                refine lv_iload_n hx hb dX12_year_184 rfl (lv_at hl 6 rfl) ?_
                refine lv_if_ne (tgt := 195) hx hb dX12_year_185 (by decide) (fun c82 => ?_) (fun c82 => ?_)
                · have q83 : ¬ a3.toInt = 0 := ti_ne c82
                  have h84 : iv 1 2 a3 := ⟨by have := (h50).1; have := ((iv_c (c := 0) (n := 0) (by decide))).1; have := ((iv_c (c := 0) (n := 0) (by decide))).2; omega, by have := (h50).2; have := ((iv_c (c := 0) (n := 0) (by decide))).1; have := ((iv_c (c := 0) (n := 0) (by decide))).2; omega⟩
                  refine lv_iload_n hx hb dX12_year_195 rfl (lv_at hl 6 rfl) ?_
                  refine lv_iconst (v := 1) hx hb dX12_year_196 (by decide) ?_
                  refine lv_icmp_ne (tgt := 207) hx hb dX12_year_197 (by decide) (fun c85 => ?_) (fun c85 => ?_)
                  · have q86 : ¬ a3.toInt = 1 := ti_ne c85
                    have h87 : iv 2 2 a3 := ⟨by have := (h84).1; have := ((iv_c (c := 1) (n := 1) (by decide))).1; have := ((iv_c (c := 1) (n := 1) (by decide))).2; omega, by have := (h84).2; have := ((iv_c (c := 1) (n := 1) (by decide))).1; have := ((iv_c (c := 1) (n := 1) (by decide))).2; omega⟩
                    refine lv_iload hx hb dX12_year_207 (lv_at hl 0 rfl) ?_
                    exact tw_endi hx hb hr hlocks hK hT hS hQ ((iv_mono h_x71 (by decide) (by decide))) dX12_year_209
                  · have q88 : a3.toInt = 1 := ti_eq c85
                    have h89 : iv 1 1 a3 := ⟨by have := (h84).1; have := ((iv_c (c := 1) (n := 1) (by decide))).1; omega, by have := (h84).2; have := ((iv_c (c := 1) (n := 1) (by decide))).2; omega⟩
                    refine lv_aload_n hx hb dX12_year_200 rfl (lv_at hl 3 rfl) ?_
                    refine tw_geti hx hb hW hown hK hS f_X12_407_11 hz_a0 hk_a0 (lo := (-2147483648)) (hi := 2147483647) rfl dX12_year_201 (fun x92 k91 h90 => ?_)
                    refine lv_goto (tgt := 209) hx hb dX12_year_204 (by decide) ?_
                    exact tw_endi hx hb hr hlocks hK hT hS hQ (h90) dX12_year_209
                · have q93 : a3.toInt = 0 := ti_eq c82
                  have h94 : iv 0 0 a3 := ⟨by have := (h50).1; have := ((iv_c (c := 0) (n := 0) (by decide))).1; omega, by have := (h50).2; have := ((iv_c (c := 0) (n := 0) (by decide))).2; omega⟩
                  refine lv_aload_n hx hb dX12_year_188 rfl (lv_at hl 3 rfl) ?_
                  refine tw_geti hx hb hW hown hK hS f_X12_410_11 hz_a0 hk_a0 (lo := (-2147483648)) (hi := 2147483647) rfl dX12_year_189 (fun x97 k96 h95 => ?_)
                  refine lv_goto (tgt := 209) hx hb dX12_year_192 (by decide) ?_
                  exact tw_endi hx hb hr hlocks hK hT hS hQ (h95) dX12_year_209
              · have q98 : x73.toInt < a1.toInt := ti_nle c79
                have h99 : iv 0 399 x73 := iv_ltL (y := a1) h_x73 h24 q98 (by decide)
                refine lv_lload hx hb dX12_year_81 (lv_at hl 1 rfl) ?_
                refine lv_ldc2 hx hb hown (hW _ w_8_179 rfl) dX12_year_83 ?_
                refine lv_lmul hx hb dX12_year_86 ?_
                refine tw_tj (lo := 0) (hi := 2369780942852698515) (jv_mul h_x72 (jv_c (x := 1103515245) (n := 1103515245) (by decide)) ⟨by decide, by decide⟩ (by decide) ⟨by decide, by decide⟩) (fun x100 h101 => ?_)
                refine lv_ldc2 hx hb hown (hW _ w_8_180 rfl) dX12_year_87 ?_
                refine lv_ladd hx hb dX12_year_90 ?_
                refine tw_tj (lo := 12345) (hi := 2369780942852710860) (jv_add h101 (jv_c (x := 12345) (n := 12345) (by decide)) ⟨by decide, by decide⟩ ⟨by decide, by decide⟩) (fun x102 h103 => ?_)
                refine lv_ldc2 hx hb hown (hW _ w_8_181 rfl) dX12_year_91 ?_
                refine lv_lrem hx hb dX12_year_94 (by decide) ?_
                refine tw_tj (lo := 0) (hi := 2147483647) (jv_rem h103 (jv_c (x := 2147483648) (n := 2147483648) (by decide)) ⟨by decide, by decide⟩ ⟨by decide, by decide⟩) (fun x104 h105 => ?_)
                refine lv_lstore (lv' := [(5, .long x104), (4, .int x71), (7, .int x73), (0, .ref (base + a0)), (1, .int a1), (2, .int a2), (3, .int a3)]) hx hb dX12_year_95 hl (by decide) rfl (fun ls hl => ?_)
                refine lv_lload hx hb dX12_year_97 (lv_at hl 0 rfl) ?_
                refine lv_ldc2 hx hb hown (hW _ w_8_182 rfl) dX12_year_99 ?_
                refine lv_ldiv hx hb dX12_year_102 (by decide) ?_
                refine tw_tj (lo := 0) (hi := 32767) (jv_div h105 (jv_c (x := 65536) (n := 65536) (by decide)) ⟨by decide, by decide⟩ ⟨by decide, by decide⟩) (fun x106 h107 => ?_)
                refine lv_aload_n hx hb dX12_year_103 rfl (lv_at hl 3 rfl) ?_
                have k108 : R75 a0 25 = some b1 := (Fr.kp (k := 25) g78 hk_a0 rfl).trans k2
                refine tw_getrk hx hb hW hown hK hS f_X12_45_11 hz_a0 hk_a0 (b := b1) k108 dX12_year_104 ?_
                refine lv_iconst (v := 1) hx hb dX12_year_107 (by decide) ?_
                have k109 : M74 b1 (1 : Int32).toNatClampNeg = x5 := (Fr.kp (k := (1 : Int32).toNatClampNeg) f77 hk_b1 rfl).trans k4
                refine tw_ialk hx hb hK hS hz_b1 hk_b1 (Or.inr (by decide)) hn_b1 (iv_c (c := 1) (n := 1) (by decide)) ⟨by decide, by decide⟩ (v := x5) k109 dX12_year_108 ?_
                refine lv_i2l hx hb dX12_year_109 rfl ?_
                refine lv_lrem hx hb dX12_year_110 (lnz (jv_o h10) (by decide)) ?_
                refine tw_tj (lo := 0) (hi := 11) (jv_rem h107 (jv_o h10) ⟨by decide, by decide⟩ ⟨by decide, by decide⟩) (fun x110 h111 => ?_)
                refine lv_l2i hx hb dX12_year_111 rfl ?_
                refine tw_ti (jv_l2i h111 ⟨by decide, by decide⟩) (fun x113 h112 => ?_)
                refine lv_istore (lv' := [(8, .int x113), (5, .long x104), (4, .int x71), (7, .int x73), (0, .ref (base + a0)), (1, .int a1), (2, .int a2), (3, .int a3)]) hx hb dX12_year_112 hl (by decide) rfl (fun ls hl => ?_)
                refine lv_aload_n hx hb dX12_year_114 rfl (lv_at hl 4 rfl) ?_
                refine lv_iload hx hb dX12_year_115 (lv_at hl 0 rfl) ?_
                refine lv_iconst (v := (-1)) hx hb dX12_year_117 (by decide) ?_
                refine tw_gov hS (md_runV (As := [.int x113, .int (-1)]) (rest := []) hx hb hml hown hW hK hT hS.1 (t_X12_asks l D cy tx base Z K N M74 R75 J76 hS.2.1 a0 hz_a0 hk_a0 x113 h112 (-1) (iv_mono (iv_c (c := (-1)) (n := (-1)) (by decide)) (by decide) (by decide)) (Codes.fr co_a0 hTy hz_a0 hk_a0 hS.2.2.1 hS.2.2.2 rfl)) s_X12_396 ⟨rfl, rfl, ⟨Nat.le_of_ble_eq_true rfl, Nat.le_of_ble_eq_true rfl⟩, ⟨Nat.le_of_ble_eq_true rfl, Nat.le_of_ble_eq_true rfl⟩⟩ hz_a0 hk_a0 (by decide) rfl rfl hl.1 rfl (Nat.le_of_ble_eq_true rfl) dX12_year_118) rfl rfl (fun H locs M117 R118 J116 hS f114 g115 E119 => ?_)
                have eR118 := Fr.nil g115 rfl
                subst eR118
                refine lv_aload_n hx hb dX12_year_121 rfl (lv_at hl 4 rfl) ?_
                refine lv_iload_n hx hb dX12_year_122 rfl (lv_at hl 6 rfl) ?_
                refine lv_iload hx hb dX12_year_123 (lv_at hl 0 rfl) ?_
                refine lv_aload_n hx hb dX12_year_125 rfl (lv_at hl 4 rfl) ?_
                refine tw_goi hS (md_runV (As := []) (rest := [.int x113, .int a2, .ref (base + a0)]) hx hb hml hown hW hK hT hS.1 (t_X12_settles_ l D cy tx base Z K N M117 R75 J116 hS.2.1 a0 hz_a0 hk_a0) s_X12_399 ⟨rfl, rfl, ⟨Nat.le_of_ble_eq_true rfl, Nat.le_of_ble_eq_true rfl⟩, ⟨Nat.le_of_ble_eq_true rfl, Nat.le_of_ble_eq_true rfl⟩⟩ hz_a0 hk_a0 (by decide) rfl rfl hl.1 rfl (Nat.le_of_ble_eq_true rfl) dX12_year_126) rfl rfl (fun x126 H locs M123 R124 J122 hS f120 g121 E125 => ?_)
                have eR124 := Fr.nil g121 rfl
                subst eR124
                have h_x126 := E125
                refine tw_gov hS (md_runV (As := [.int a2, .int x113, .int x126]) (rest := []) hx hb hml hown hW hK hT hS.1 (t_X12_counts l D cy tx base Z K N M123 R75 J122 hS.2.1 a0 hz_a0 hk_a0 a2 h38 x113 h112 x126 h_x126) s_X12_413 ⟨rfl, rfl, ⟨Nat.le_of_ble_eq_true rfl, Nat.le_of_ble_eq_true rfl⟩, ⟨Nat.le_of_ble_eq_true rfl, Nat.le_of_ble_eq_true rfl⟩⟩ hz_a0 hk_a0 (by decide) rfl rfl hl.1 rfl (Nat.le_of_ble_eq_true rfl) dX12_year_129) rfl rfl (fun H locs M130 R131 J129 hS f127 g128 E132 => ?_)
                have eR131 := Fr.nil g128 rfl
                subst eR131
                refine lv_iconst (v := 0) hx hb dX12_year_132 (by decide) ?_
                refine lv_istore (lv' := [(9, .int 0), (8, .int x113), (5, .long x104), (4, .int x71), (7, .int x73), (0, .ref (base + a0)), (1, .int a1), (2, .int a2), (3, .int a3)]) hx hb dX12_year_133 hl (by decide) rfl (fun ls hl => ?_)
                have W135_135 : ∀ (n_135 : Nat) (x133 : Int32) (x134 : Int32) (M135 : MT) (R136 : RT) (J137 : JT) (H : Heap) (locs : List Loc) (ls : Array Slot) (h_x133 : iv 0 9999 x133) (h_x134 : iv 0 10 x134) (hm_135 : 10 - x134.toInt < (n_135 : Int)) (hS : SB D cy base Z K N Lt_X12_year LRt_X12_year Ma Ra M135 R136 J137 s H locs) (hl : lv_has ls 10 [(4, .int x133), (9, .int x134), (8, .int x113), (5, .long x104), (7, .int x73), (0, .ref (base + a0)), (1, .int a1), (2, .int a2), (3, .int a3)]), W p l e (md_rm 5 0 0) s m args below meth c H locs 0 0 Q (F0 m 135 ls []) := by
                  intro n_135
                  induction n_135 with
                  | zero =>
                    intro x133 x134 M135 R136 J137 H locs ls h_x133 h_x134 hm_135 hS hl
                    exfalso
                    have := (h24).1; have := (h24).2; have := (h38).1; have := (h38).2; have := (h50).1; have := (h50).2; have := (h_x134).1; have := (h_x134).2; omega
                  | succ n_135 ih_135 =>
                    intro x133 x134 M135 R136 J137 H locs ls h_x133 h_x134 hm_135 hS hl
                    have f138 := hS.2.2.1
                    have g139 := hS.2.2.2
                    refine lv_iload hx hb dX12_year_135 (lv_at hl 1 rfl) ?_
                    refine lv_aload_n hx hb dX12_year_137 rfl (lv_at hl 5 rfl) ?_
                    have k140 : R136 a0 25 = some b1 := (Fr.kp (k := 25) g139 hk_a0 rfl).trans k2
                    refine tw_getrk hx hb hW hown hK hS f_X12_45_11 hz_a0 hk_a0 (b := b1) k140 dX12_year_138 ?_
                    refine lv_iconst (v := 0) hx hb dX12_year_141 (by decide) ?_
                    refine tw_iald hx hb hK hS hz_b1 hk_b1 (Or.inr (by decide)) hn_b1 (lo := 0) (hi := 10) (iv_c (c := 0) (n := 0) (by decide)) ⟨by decide, by decide⟩ (rg_c (k0 := 0) rfl rfl rfl) dX12_year_142 (fun x143 k142 h141 => ?_)
                    refine lv_icmp_ge (tgt := 178) hx hb dX12_year_143 (by decide) (fun c144 => ?_) (fun c144 => ?_)
                    · have q145 : x143.toInt ≤ x134.toInt := ti_le c144
                      refine tw_iinc (lv' := fun x148 => [(7, .int x148), (4, .int x133), (9, .int x134), (8, .int x113), (5, .long x104), (0, .ref (base + a0)), (1, .int a1), (2, .int a2), (3, .int a3)]) (lo := 1) (hi := 400) hx hb dX12_year_178 hl (k := 4) rfl h99 (by decide) ⟨by decide, by decide⟩ ⟨by decide, by decide⟩ (by decide) (fun _ => rfl) (fun x148 ls e147 h146 hl => ?_)
                      refine lv_goto (tgt := 75) hx hb dX12_year_181 (by decide) ?_
                      have hm149 : 400 - x148.toInt < (n_74 : Int) := by
                        have := (h24).1; have := (h24).2; have := (h38).1; have := (h38).2; have := (h50).1; have := (h50).2; have := (h146).1; have := (h146).2; have := (h99).1; have := (h99).2; omega
                      exact ih_74 x133 (x104) x148 M135 R136 J137 H locs _ h_x133 (jv_mono h105 (by decide) (by decide)) (iv_mono h146 (by decide) (by decide)) hm149 hS (lv_sub hl [1, 4, 0, 5, 6, 7, 8] rfl)
                    · have q150 : x134.toInt < x143.toInt := ti_nle c144
                      have h151 : iv 0 9 x134 := iv_ltL (y := x143) h_x134 h141 q150 (by decide)
                      have h152 : iv 1 10 x143 := iv_gtL (y := x134) h141 h_x134 q150 (by decide)
                      refine lv_aload_n hx hb dX12_year_146 rfl (lv_at hl 5 rfl) ?_
                      refine tw_getr hx hb hW hown hK hS f_X12_51_11 hz_a0 hk_a0 (t := 30) (n := 10) rfl dX12_year_147 (fun b153 k154 hz_b153 hk_b153 hn_b153 => ?_)
                      have hn_b153 := hn_b153 (by decide)
                      refine lv_iload hx hb dX12_year_150 (lv_at hl 1 rfl) ?_
                      refine tw_iald hx hb hK hS hz_b153 hk_b153 (Or.inr (by decide)) hn_b153 (lo := 0) (hi := 9999) h151 ⟨by decide, by decide⟩ rg_u30 dX12_year_152 (fun x157 k156 h155 => ?_)
                      refine lv_iload hx hb dX12_year_153 (lv_at hl 0 rfl) ?_
                      refine lv_icmp_le (tgt := 168) hx hb dX12_year_155 (by decide) (fun c158 => ?_) (fun c158 => ?_)
                      · have q159 : x157.toInt ≤ x133.toInt := ti_le c158
                        refine lv_iload hx hb dX12_year_168 (lv_at hl 0 rfl) ?_
                        refine lv_istore (lv' := [(4, .int x133), (9, .int x134), (8, .int x113), (5, .long x104), (7, .int x73), (0, .ref (base + a0)), (1, .int a1), (2, .int a2), (3, .int a3)]) hx hb dX12_year_170 hl (by decide) rfl (fun ls hl => ?_)
                        refine tw_iinc (lv' := fun x162 => [(9, .int x162), (4, .int x133), (8, .int x113), (5, .long x104), (7, .int x73), (0, .ref (base + a0)), (1, .int a1), (2, .int a2), (3, .int a3)]) (lo := 1) (hi := 10) hx hb dX12_year_172 hl (k := 1) rfl h151 (by decide) ⟨by decide, by decide⟩ ⟨by decide, by decide⟩ (by decide) (fun _ => rfl) (fun x162 ls e161 h160 hl => ?_)
                        refine lv_goto (tgt := 135) hx hb dX12_year_175 (by decide) ?_
                        have hm163 : 10 - x162.toInt < (n_135 : Int) := by
                          have := (h24).1; have := (h24).2; have := (h38).1; have := (h38).2; have := (h50).1; have := (h50).2; have := (h151).1; have := (h151).2; have := (h160).1; have := (h160).2; omega
                        exact ih_135 x133 x162 M135 R136 J137 H locs _ h_x133 (iv_mono h160 (by decide) (by decide)) hm163 hS (lv_sub hl [1, 0, 2, 3, 4, 5, 6, 7, 8] rfl)
                      · have q164 : x133.toInt < x157.toInt := ti_nle c158
                        have h165 : iv 1 9999 x157 := iv_gtL (y := x133) h155 h_x133 q164 (by decide)
                        have h166 : iv 0 9998 x133 := iv_ltL (y := x157) h_x133 h155 q164 (by decide)
                        refine lv_aload_n hx hb dX12_year_158 rfl (lv_at hl 5 rfl) ?_
                        refine tw_getrk hx hb hW hown hK hS f_X12_51_11 hz_a0 hk_a0 (b := b153) k154 dX12_year_159 ?_
                        refine lv_iload hx hb dX12_year_162 (lv_at hl 1 rfl) ?_
                        refine tw_ialk hx hb hK hS hz_b153 hk_b153 (Or.inr (by decide)) hn_b153 h151 ⟨by decide, by decide⟩ (v := x157) k156 dX12_year_164 ?_
                        refine lv_goto (tgt := 170) hx hb dX12_year_165 (by decide) ?_
                        refine lv_istore (lv' := [(4, .int x157), (9, .int x134), (8, .int x113), (5, .long x104), (7, .int x73), (0, .ref (base + a0)), (1, .int a1), (2, .int a2), (3, .int a3)]) hx hb dX12_year_170 hl (by decide) rfl (fun ls hl => ?_)
                        refine tw_iinc (lv' := fun x169 => [(9, .int x169), (4, .int x157), (8, .int x113), (5, .long x104), (7, .int x73), (0, .ref (base + a0)), (1, .int a1), (2, .int a2), (3, .int a3)]) (lo := 1) (hi := 10) hx hb dX12_year_172 hl (k := 1) rfl h151 (by decide) ⟨by decide, by decide⟩ ⟨by decide, by decide⟩ (by decide) (fun _ => rfl) (fun x169 ls e168 h167 hl => ?_)
                        refine lv_goto (tgt := 135) hx hb dX12_year_175 (by decide) ?_
                        have hm170 : 10 - x169.toInt < (n_135 : Int) := by
                          have := (h24).1; have := (h24).2; have := (h38).1; have := (h38).2; have := (h50).1; have := (h50).2; have := (h151).1; have := (h151).2; have := (h167).1; have := (h167).2; omega
                        exact ih_135 x157 x169 M135 R136 J137 H locs _ (iv_mono h165 (by decide) (by decide)) (iv_mono h167 (by decide) (by decide)) hm170 hS (lv_sub hl [1, 0, 2, 3, 4, 5, 6, 7, 8] rfl)
                have hm171 : 10 - (0 : Int32).toInt < (((11 : Nat) : Int) : Int) := by
                  have := (h24).1; have := (h24).2; have := (h38).1; have := (h38).2; have := (h50).1; have := (h50).2; have : (0 : Int32).toInt = 0 := (by decide); omega
                exact W135_135 11 x71 0 M130 R75 J129 H locs _ h_x71 (iv_mono (iv_c (c := 0) (n := 0) (by decide)) (by decide) (by decide)) hm171 hS (lv_sub hl [3, 0, 1, 2, 4, 5, 6, 7, 8] rfl)
          have hm172 : 400 - (0 : Int32).toInt < (((401 : Nat) : Int) : Int) := by
            have := (h24).1; have := (h24).2; have := (h38).1; have := (h38).2; have := (h50).1; have := (h50).2; have : (0 : Int32).toInt = 0 := (by decide); omega
          exact W75_74 401 0 (x70.toInt64) 0 M67 Ra J56 H locs _ (iv_mono (iv_c (c := 0) (n := 0) (by decide)) (by decide) (by decide)) (jv_mono (jv_o h68) (by decide) (by decide)) (iv_mono (iv_c (c := 0) (n := 0) (by decide)) (by decide) (by decide)) hm172 hS (lv_sub hl [2, 1, 0, 3, 4, 5, 6] rfl)
        · have q173 : x45.toInt = 0 := ti_eq c47
          have h174 : iv 0 0 x45 := ⟨by have := (h_x45).1; have := ((iv_c (c := 0) (n := 0) (by decide))).1; omega, by have := (h_x45).2; have := ((iv_c (c := 0) (n := 0) (by decide))).2; omega⟩
          refine lv_ldcw hx hb hown (hW _ w_8_46 rfl) dX12_year_41 ?_
          exact tw_endi hx hb hr hlocks hK hT hS hQ ((iv_mono (iv_c (c := (-1000000)) (n := (-1000000)) (by decide)) (by decide) (by decide))) dX12_year_44
def Lt_X7_kindOf : WL := []
def LRt_X7_kindOf : WL := []
set_option maxRecDepth 100000 in
set_option maxHeartbeats 4000000 in
theorem t_X7_kindOf (l : Launch) (D : va_G) (cy : Nat → ClassId) (tx : (Nat → Nat) × (Nat → Nat)) (base Z : Nat) (K N : Nat → Nat) (Ma : MT) (Ra : RT) (Ja : JT) (hTy : Ty Z K N Ma Ra) (a0 : Int32) (h_a0 : iv (-2147483648) 2147483647 a0) : Met l yX7_kindOf [Cond.code yX7_kindOf cX7_kindOf 1 (some .int)] (md_rm 1 0 0) (va_Pc [.int a0] (md_U D cy tx base Z K N Ma Ra Ja)) (mQi D cy tx base (fun r u => TP Z K N Lt_X7_kindOf LRt_X7_kindOf Ma Ra u ∧ (iv 0 15 r))) 0 0 (fun q => base ≤ q) := by
  refine tw_ofW (L := Lt_X7_kindOf) (LR := LRt_X7_kindOf) (by decide) (Nat.le_of_ble_eq_true rfl) hTy ?_
  intro p e s m args below meth c Q ls hx hb hr hlocks hown hml hW hK hT hS hQ hl
  have hl : lv_has ls 1 [(0, .int a0)] := hl
  refine lv_iload_n hx hb dX7_kindOf_0 rfl (lv_at hl 0 rfl) ?_
  refine lv_bipush (v := 15) hx hb dX7_kindOf_1 (by decide) ?_
  refine tw_iand (hi := 15) hx hb (iv_mono (iv_c (c := 15) (n := 15) (by decide)) (lo := 0) (hi := 15) (by decide) (by decide)) (by decide) dX7_kindOf_3 (fun x3 h1 => ?_)
  exact tw_endi hx hb hr hlocks hK hT hS hQ (h1) dX7_kindOf_4
def Lt_X7_stepOf : WL := []
def LRt_X7_stepOf : WL := []
set_option maxRecDepth 100000 in
set_option maxHeartbeats 4000000 in
theorem t_X7_stepOf (l : Launch) (D : va_G) (cy : Nat → ClassId) (tx : (Nat → Nat) × (Nat → Nat)) (base Z : Nat) (K N : Nat → Nat) (Ma : MT) (Ra : RT) (Ja : JT) (hTy : Ty Z K N Ma Ra) (a0 : Int32) (h_a0 : iv 0 15 a0) (a1 : Int32) (h_a1 : iv (-2147483648) 2147483647 a1) : Met l yX7_stepOf [Cond.code yX7_stepOf cX7_stepOf 2 (some .int)] (md_rm 1 0 0) (va_Pc [.int a0, .int a1] (md_U D cy tx base Z K N Ma Ra Ja)) (mQi D cy tx base (fun r u => TP Z K N Lt_X7_stepOf LRt_X7_stepOf Ma Ra u ∧ (iv (-2147483648) 2147483647 r))) 0 0 (fun q => base ≤ q) := by
  refine tw_ofW (L := Lt_X7_stepOf) (LR := LRt_X7_stepOf) (by decide) (Nat.le_of_ble_eq_true rfl) hTy ?_
  intro p e s m args below meth c Q ls hx hb hr hlocks hown hml hW hK hT hS hQ hl
  have hl : lv_has ls 2 [(0, .int a0), (1, .int a1)] := hl
  refine lv_iload_n hx hb dX7_stepOf_0 rfl (lv_at hl 1 rfl) ?_
  refine lv_iconst (v := 4) hx hb dX7_stepOf_1 (by decide) ?_
  refine lv_ishl hx hb dX7_stepOf_2 ?_
  refine tw_top (fun x2 => ?_)
  have h1 := iv_any x2
  refine lv_iload_n hx hb dX7_stepOf_3 rfl (lv_at hl 0 rfl) ?_
  refine lv_ior hx hb dX7_stepOf_4 ?_
  refine tw_top (fun x4 => ?_)
  have h3 := iv_any x4
  exact tw_endi hx hb hr hlocks hK hT hS hQ (h3) dX7_stepOf_5
def Lt_X8_aim : WL := [(14, 0, 2000000)]
def LRt_X8_aim : WL := []
set_option maxRecDepth 100000 in
set_option maxHeartbeats 4000000 in
theorem t_X8_aim (l : Launch) (D : va_G) (cy : Nat → ClassId) (tx : (Nat → Nat) × (Nat → Nat)) (base Z : Nat) (K N : Nat → Nat) (Ma : MT) (Ra : RT) (Ja : JT) (hTy : Ty Z K N Ma Ra) (a0 : Nat) (hz_a0 : a0 < Z) (hk_a0 : K a0 = 9) (a1 : Int32) (h_a1 : iv (-1) 399 a1) : Met l yX8_aim [Cond.code yX8_aim cX8_aim 2 none] (md_rm 2 0 0) (va_Pc [.ref (base + a0), .int a1] (md_U D cy tx base Z K N Ma Ra Ja)) (mQv D cy tx base (fun u => TP Z K N Lt_X8_aim LRt_X8_aim Ma Ra u ∧ (True))) 0 0 (fun q => base ≤ q) := by
  refine tw_ofW (L := Lt_X8_aim) (LR := LRt_X8_aim) (by decide) (Nat.le_of_ble_eq_true rfl) hTy ?_
  intro p e s m args below meth c Q ls hx hb hr hlocks hown hml hW hK hT hS hQ hl
  have hl : lv_has ls 2 [(0, .ref (base + a0)), (1, .int a1)] := hl
  refine lv_iload_n hx hb dX8_aim_0 rfl (lv_at hl 1 rfl) ?_
  refine lv_if_lt (tgt := 34) hx hb dX8_aim_1 (by decide) (fun c1 => ?_) (fun c1 => ?_)
  · have q2 : a1.toInt < 0 := ti_lt c1
    have h3 : iv (-1) (-1) a1 := iv_ltL (y := 0) h_a1 (iv_c (c := 0) (n := 0) (by decide)) q2 (by decide)
    exact tw_endv hx hb hr hlocks hK hT hS hQ (trivial) dX8_aim_34
  · have q4 : 0 ≤ a1.toInt := ti_nlt c1
    have h5 : iv 0 399 a1 := iv_geL (y := 0) h_a1 (iv_c (c := 0) (n := 0) (by decide)) q4 (by decide)
    refine lv_iload_n hx hb dX8_aim_4 rfl (lv_at hl 1 rfl) ?_
    refine lv_aload_n hx hb dX8_aim_5 rfl (lv_at hl 0 rfl) ?_
    refine tw_geti hx hb hW hown hK hS f_X8_19_8 hz_a0 hk_a0 (lo := 0) (hi := 400) rfl dX8_aim_6 (fun x8 k7 h6 => ?_)
    refine lv_icmp_ge (tgt := 34) hx hb dX8_aim_9 (by decide) (fun c9 => ?_) (fun c9 => ?_)
    · have q10 : x8.toInt ≤ a1.toInt := ti_le c9
      have h11 : iv 0 399 x8 := iv_leL (y := a1) h6 h5 q10 (by decide)
      exact tw_endv hx hb hr hlocks hK hT hS hQ (trivial) dX8_aim_34
    · have q12 : a1.toInt < x8.toInt := ti_nle c9
      have h13 : iv 1 400 x8 := iv_gtL (y := a1) h6 h5 q12 (by decide)
      refine lv_aload_n hx hb dX8_aim_12 rfl (lv_at hl 0 rfl) ?_
      refine tw_getr hx hb hW hown hK hS f_X8_9_8 hz_a0 hk_a0 (t := 14) (n := 400) rfl dX8_aim_13 (fun b14 k15 hz_b14 hk_b14 hn_b14 => ?_)
      have hn_b14 := hn_b14 (by decide)
      refine lv_iload_n hx hb dX8_aim_16 rfl (lv_at hl 1 rfl) ?_
      refine lv_aload_n hx hb dX8_aim_17 rfl (lv_at hl 0 rfl) ?_
      refine tw_getrk hx hb hW hown hK hS f_X8_9_8 hz_a0 hk_a0 (b := b14) k15 dX8_aim_18 ?_
      refine lv_iload_n hx hb dX8_aim_21 rfl (lv_at hl 1 rfl) ?_
      refine tw_iald hx hb hK hS hz_b14 hk_b14 (Or.inl rfl) hn_b14 (lo := (-2147483648)) (hi := 2147483647) h5 ⟨by decide, by decide⟩ rg_u14 dX8_aim_22 (fun x18 k17 h16 => ?_)
      refine tw_goi hS (md_runS (As := [.int x18]) (rest := [.int a1, .ref (base + b14)]) hx hb hml hown hW hK hT hS.1 (t_X7_kindOf l D cy tx base Z K N Ma Ra Ja hS.2.1 x18 h16) s_X8_71 ⟨rfl, rfl, ⟨Nat.le_of_ble_eq_true rfl, Nat.le_of_ble_eq_true rfl⟩, ⟨Nat.le_of_ble_eq_true rfl, Nat.le_of_ble_eq_true rfl⟩⟩ rfl hl.1 rfl (Nat.le_of_ble_eq_true rfl) dX8_aim_23) rfl rfl (fun x25 H locs M22 R23 J21 hS f19 g20 E24 => ?_)
      have eM22 := Fr.nil f19 rfl
      subst eM22
      have eR23 := Fr.nil g20 rfl
      subst eR23
      have h_x25 := E24
      refine lv_aload_n hx hb dX8_aim_26 rfl (lv_at hl 0 rfl) ?_
      refine tw_getk hx hb hW hown hK hS f_X8_19_8 hz_a0 hk_a0 (v := x8) k7 dX8_aim_27 ?_
      refine tw_goi hS (md_runS (As := [.int x25, .int x8]) (rest := [.int a1, .ref (base + b14)]) hx hb hml hown hW hK hT hS.1 (t_X7_stepOf l D cy tx base Z K N Ma Ra J21 hS.2.1 x25 h_x25 x8 (iv_mono h13 (by decide) (by decide))) s_X8_68 ⟨rfl, rfl, ⟨Nat.le_of_ble_eq_true rfl, Nat.le_of_ble_eq_true rfl⟩, ⟨Nat.le_of_ble_eq_true rfl, Nat.le_of_ble_eq_true rfl⟩⟩ rfl hl.1 rfl (Nat.le_of_ble_eq_true rfl) dX8_aim_30) rfl rfl (fun x32 H locs M29 R30 J28 hS f26 g27 E31 => ?_)
      have eM29 := Fr.nil f26 rfl
      subst eM29
      have eR30 := Fr.nil g27 rfl
      subst eR30
      have h_x32 := E31
      refine tw_iast hx hb hK hS hz_b14 hk_b14 (Or.inl rfl) hn_b14 h5 ⟨by decide, by decide⟩ h_x32 (rg_s14 ⟨by decide, by decide⟩) (jl := 0) (jh := 1999999) ⟨by decide, by decide⟩ rfl dX8_aim_33 (fun H locs M35 hS k33 f34 => ?_)
      exact tw_endv hx hb hr hlocks hK hT hS hQ (trivial) dX8_aim_34
def Lt_X8_put : WL := [(9, 6, 7), (14, 0, 2000000)]
def LRt_X8_put : WL := []
set_option maxRecDepth 100000 in
set_option maxHeartbeats 4000000 in
theorem t_X8_put (l : Launch) (D : va_G) (cy : Nat → ClassId) (tx : (Nat → Nat) × (Nat → Nat)) (base Z : Nat) (K N : Nat → Nat) (Ma : MT) (Ra : RT) (Ja : JT) (hTy : Ty Z K N Ma Ra) (a0 : Nat) (hz_a0 : a0 < Z) (hk_a0 : K a0 = 9) (a1 : Int32) (h_a1 : iv 0 15 a1) (a2 : Int32) (h_a2 : iv (-2147483648) 2147483647 a2) : Met l yX8_put [Cond.code yX8_put cX8_put 3 (some .int)] (md_rm 2 0 0) (va_Pc [.ref (base + a0), .int a1, .int a2] (md_U D cy tx base Z K N Ma Ra Ja)) (mQi D cy tx base (fun r u => TP Z K N Lt_X8_put LRt_X8_put Ma Ra u ∧ (iv (-1) 399 r))) 0 0 (fun q => base ≤ q) := by
  refine tw_ofW (L := Lt_X8_put) (LR := LRt_X8_put) (by decide) (Nat.le_of_ble_eq_true rfl) hTy ?_
  intro p e s m args below meth c Q ls hx hb hr hlocks hown hml hW hK hT hS hQ hl
  have hl : lv_has ls 3 [(0, .ref (base + a0)), (1, .int a1), (2, .int a2)] := hl
  refine lv_aload_n hx hb dX8_put_0 rfl (lv_at hl 0 rfl) ?_
  refine tw_geti hx hb hW hown hK hS f_X8_19_8 hz_a0 hk_a0 (lo := 0) (hi := 400) rfl dX8_put_1 (fun x3 k2 h1 => ?_)
  refine lv_aload_n hx hb dX8_put_4 rfl (lv_at hl 0 rfl) ?_
  refine tw_getr hx hb hW hown hK hS f_X8_9_8 hz_a0 hk_a0 (t := 14) (n := 400) rfl dX8_put_5 (fun b4 k5 hz_b4 hk_b4 hn_b4 => ?_)
  have hn_b4 := hn_b4 (by decide)
  refine tw_alenk hx hb hK hS hz_b4 hk_b4 (by decide) hn_b4 (v := 400) (by decide) dX8_put_8 ?_
  refine lv_icmp_lt (tgt := 14) hx hb dX8_put_9 (by decide) (fun c6 => ?_) (fun c6 => ?_)
  · have q7 : x3.toInt < 400 := ti_lt c6
    have h8 : iv 0 399 x3 := iv_ltL (y := 400) h1 (iv_c (c := 400) (n := 400) (by decide)) q7 (by decide)
    refine lv_aload_n hx hb dX8_put_14 rfl (lv_at hl 0 rfl) ?_
    refine tw_getrk hx hb hW hown hK hS f_X8_9_8 hz_a0 hk_a0 (b := b4) k5 dX8_put_15 ?_
    refine lv_aload_n hx hb dX8_put_18 rfl (lv_at hl 0 rfl) ?_
    refine tw_getk hx hb hW hown hK hS f_X8_19_8 hz_a0 hk_a0 (v := x3) k2 dX8_put_19 ?_
    refine lv_iload_n hx hb dX8_put_22 rfl (lv_at hl 1 rfl) ?_
    refine lv_iload_n hx hb dX8_put_23 rfl (lv_at hl 2 rfl) ?_
    refine tw_goi hS (md_runS (As := [.int a1, .int a2]) (rest := [.int x3, .ref (base + b4)]) hx hb hml hown hW hK hT hS.1 (t_X7_stepOf l D cy tx base Z K N Ma Ra Ja hS.2.1 a1 h_a1 a2 h_a2) s_X8_68 ⟨rfl, rfl, ⟨Nat.le_of_ble_eq_true rfl, Nat.le_of_ble_eq_true rfl⟩, ⟨Nat.le_of_ble_eq_true rfl, Nat.le_of_ble_eq_true rfl⟩⟩ rfl hl.1 rfl (Nat.le_of_ble_eq_true rfl) dX8_put_24) rfl rfl (fun x15 H locs M12 R13 J11 hS f9 g10 E14 => ?_)
    have eM12 := Fr.nil f9 rfl
    subst eM12
    have eR13 := Fr.nil g10 rfl
    subst eR13
    have h_x15 := E14
    refine tw_iast hx hb hK hS hz_b4 hk_b4 (Or.inl rfl) hn_b4 h8 ⟨by decide, by decide⟩ h_x15 (rg_s14 ⟨by decide, by decide⟩) (jl := 0) (jh := 1999999) ⟨by decide, by decide⟩ rfl dX8_put_27 (fun H locs M18 hS k16 f17 => ?_)
    refine lv_aload_n hx hb dX8_put_28 rfl (lv_at hl 0 rfl) ?_
    refine lv_dup hx hb dX8_put_29 rfl ?_
    have k19 : M18 a0 6 = x3 := (Fr.kp (k := 6) f17 hk_a0 rfl).trans k2
    refine tw_getk hx hb hW hown hK hS f_X8_19_8 hz_a0 hk_a0 (v := x3) k19 dX8_put_30 ?_
    refine lv_iconst (v := 1) hx hb dX8_put_33 (by decide) ?_
    refine tw_iadd (lo := 1) (hi := 400) hx hb h8 (iv_c (c := 1) (n := 1) (by decide)) ⟨by decide, by decide⟩ ⟨by decide, by decide⟩ dX8_put_34 (fun x22 e21 h20 => ?_)
    have e21 : x22.toInt = x3.toInt + 1 := e21
    refine tw_puti hx hb hW hown hK hS f_X8_19_8 hz_a0 hk_a0 rfl rfl (lo := 0) (hi := 400) rfl (iv_mono h20 (by decide) (by decide)) rfl dX8_put_35 (fun H locs M25 hS k23 f24 => ?_)
    refine lv_aload_n hx hb dX8_put_38 rfl (lv_at hl 0 rfl) ?_
    refine tw_getk hx hb hW hown hK hS f_X8_19_8 hz_a0 hk_a0 (v := x22) k23 dX8_put_39 ?_
    refine lv_iconst (v := 1) hx hb dX8_put_42 (by decide) ?_
    refine tw_isub (lo := 0) (hi := 399) hx hb h20 (iv_c (c := 1) (n := 1) (by decide)) ⟨by decide, by decide⟩ ⟨by decide, by decide⟩ dX8_put_43 (fun x28 e27 h26 => ?_)
    have e27 : x28.toInt = x22.toInt - 1 := e27
    exact tw_endi hx hb hr hlocks hK hT hS hQ ((iv_mono h26 (by decide) (by decide))) dX8_put_44
  · have q29 : 400 ≤ x3.toInt := ti_nlt c6
    have h30 : iv 400 400 x3 := iv_geL (y := 400) h1 (iv_c (c := 400) (n := 400) (by decide)) q29 (by decide)
    refine lv_iconst (v := (-1)) hx hb dX8_put_12 (by decide) ?_
    exact tw_endi hx hb hr hlocks hK hT hS hQ ((iv_mono (iv_c (c := (-1)) (n := (-1)) (by decide)) (by decide) (by decide))) dX8_put_13
def Lt_X8_fact : WL := [(9, 2, 5), (9, 6, 8), (14, 0, 2000000)]
def LRt_X8_fact : WL := []
def Lt_X8_test : WL := [(9, 2, 5), (9, 6, 8), (14, 0, 2000000)]
def LRt_X8_test : WL := []
set_option maxRecDepth 100000 in
set_option maxHeartbeats 4000000 in
theorem t_X8_test (l : Launch) (D : va_G) (cy : Nat → ClassId) (tx : (Nat → Nat) × (Nat → Nat)) (base Z : Nat) (K N : Nat → Nat) (d : Nat) (ih : ∀ (Ma : MT) (Ra : RT) (Ja : JT) (hTy : Ty Z K N Ma Ra) (a0 : Nat) (hz_a0 : a0 < Z) (hk_a0 : K a0 = 9) (a1 : Int32) (h_a1 : iv 0 10 a1) (tb : Nat) (k_tb : Ra a0 0 = some tb) (ln : Int32) (k_ln : Ma a0 1 = ln) (h_ln : iv 0 400 ln) (pa : Int32) (k_pa : Ma a0 2 = pa) (h_pa : iv 0 400 pa) (fa : Int32) (k_fa : Ma a0 3 = fa) (h_fa : iv 0 0 fa) (hin : pa.toInt ≤ ln.toInt) (hmd : 10 - a1.toInt < (d : Int)), Met l yX8_fact [Cond.code yX8_fact cX8_fact 5 none] (md_rm (9 + 2 * d) 0 0) (va_Pc [.ref (base + a0), .int a1] (md_U D cy tx base Z K N Ma Ra Ja)) (mQv D cy tx base (fun u => TP Z K N Lt_X8_fact LRt_X8_fact Ma Ra u ∧ ((∃ x0 x1 : Int32, u.2.2.2.1 a0 2 = x0 ∧ u.2.2.2.1 a0 3 = x1 ∧ iv 0 420 x0 ∧ iv (-2147483648) 2147483647 x1 ∧ (x0.toInt ≤ 420 - a1.toInt ∧ (¬ x1.toInt = 0 ∨ x0.toInt ≤ ln.toInt)))))) 0 0 (fun q => base ≤ q)) (Ma : MT) (Ra : RT) (Ja : JT) (hTy : Ty Z K N Ma Ra) (a0 : Nat) (hz_a0 : a0 < Z) (hk_a0 : K a0 = 9) (a1 : Int32) (h_a1 : iv 0 10 a1) (tb : Nat) (k_tb : Ra a0 0 = some tb) (ln : Int32) (k_ln : Ma a0 1 = ln) (h_ln : iv 0 400 ln) (pa : Int32) (k_pa : Ma a0 2 = pa) (h_pa : iv 0 400 pa) (fa : Int32) (k_fa : Ma a0 3 = fa) (h_fa : iv 0 0 fa) (hin : pa.toInt ≤ ln.toInt) (hmd : 10 - a1.toInt < (d : Int)) : Met l yX8_test [Cond.code yX8_test cX8_test 7 none] (md_rm (10 + 2 * d) 0 0) (va_Pc [.ref (base + a0), .int a1] (md_U D cy tx base Z K N Ma Ra Ja)) (mQv D cy tx base (fun u => TP Z K N Lt_X8_test LRt_X8_test Ma Ra u ∧ ((∃ x0 x1 : Int32, u.2.2.2.1 a0 2 = x0 ∧ u.2.2.2.1 a0 3 = x1 ∧ iv 0 420 x0 ∧ iv (-2147483648) 2147483647 x1 ∧ (x0.toInt ≤ 420 - a1.toInt ∧ (¬ x1.toInt = 0 ∨ x0.toInt ≤ ln.toInt)))))) 0 0 (fun q => base ≤ q) := by
  refine tw_ofW (L := Lt_X8_test) (LR := LRt_X8_test) (by decide) (Nat.le_of_ble_eq_true rfl) hTy ?_
  intro p e s m args below meth c Q ls hx hb hr hlocks hown hml hW hK hT hS hQ hl
  have hl : lv_has ls 7 [(0, .ref (base + a0)), (1, .int a1)] := hl
  obtain ⟨hz_tb, hk_tb, hn_tb⟩ := hTy.refn hz_a0 hk_a0 (show rtR 9 0 = (13, 400, 1) from rfl) k_tb
  have hn_tb := hn_tb (by decide)
  refine lv_iconst (v := (-1)) hx hb dX8_test_0 (by decide) ?_
  refine lv_istore_n (lv' := [(2, .int (-1)), (0, .ref (base + a0)), (1, .int a1)]) hx hb dX8_test_1 rfl hl (by decide) rfl (fun ls hl => ?_)
  refine lv_iconst (v := 1) hx hb dX8_test_2 (by decide) ?_
  refine lv_istore_n (lv' := [(3, .int 1), (2, .int (-1)), (0, .ref (base + a0)), (1, .int a1)]) hx hb dX8_test_3 rfl hl (by decide) rfl (fun ls hl => ?_)
  refine lv_aload_n hx hb dX8_test_4 rfl (lv_at hl 2 rfl) ?_
  refine lv_iload_n hx hb dX8_test_5 rfl (lv_at hl 3 rfl) ?_
  have q1 : pa.toInt ≤ ln.toInt := by
    have := (h_a1).1; have := (h_a1).2; have := (h_fa).1; have := (h_fa).2; have := (h_ln).1; have := (h_ln).2; have := (h_pa).1; have := (h_pa).2; omega
  have hm2 : 10 - a1.toInt < (d : Int) := by
    have := (h_a1).1; have := (h_a1).2; have := (h_fa).1; have := (h_fa).2; have := (h_ln).1; have := (h_ln).2; have := (h_pa).1; have := (h_pa).2; omega
  refine tw_gov hS (md_runV (As := [.int a1]) (rest := []) hx hb hml hown hW hK hT hS.1 (ih Ma Ra Ja hS.2.1 a0 hz_a0 hk_a0 a1 h_a1 tb k_tb ln k_ln (iv_mono h_ln (by decide) (by decide)) pa k_pa (iv_mono h_pa (by decide) (by decide)) fa k_fa (iv_mono h_fa (by decide) (by decide)) q1 hm2) s_X8_75 ⟨rfl, rfl, ⟨by simp only [md_rm]; omega, by simp only [md_rm]; omega⟩, ⟨Nat.le_of_ble_eq_true rfl, Nat.le_of_ble_eq_true rfl⟩⟩ hz_a0 hk_a0 (by decide) rfl rfl hl.1 rfl (Nat.le_of_ble_eq_true rfl) dX8_test_6) rfl rfl (fun H locs M6 R7 J5 hS f3 g4 E8 => ?_)
  have eR7 := Fr.nil g4 rfl
  subst eR7
  have p9 := E8
  obtain ⟨x11, x13, k14, k15, h10, h12, q16⟩ := p9
  have k14 : M6 a0 2 = x11 := k14
  have k15 : M6 a0 3 = x13 := k15
  refine lv_iconst (v := 0) hx hb dX8_test_9 (by decide) ?_
  refine lv_istore (lv' := [(4, .int 0), (3, .int 1), (2, .int (-1)), (0, .ref (base + a0)), (1, .int a1)]) hx hb dX8_test_10 hl (by decide) rfl (fun ls hl => ?_)
  have W12_20 : ∀ (n_20 : Nat) (x17 : Int32) (x18 : Int32) (x19 : Int32) (x25 : Int32) (x27 : Int32) (M20 : MT) (R21 : RT) (J22 : JT) (H : Heap) (locs : List Loc) (ls : Array Slot) (h_x17 : iv (-1) 399 x17) (h_x18 : iv 0 1 x18) (h_x19 : iv 0 400 x19) (h_x25 : iv 0 420 x25) (k26 : M20 a0 2 = x25) (h_x27 : iv (-2147483648) 2147483647 x27) (k28 : M20 a0 3 = x27) (w0_20 : x25.toInt ≤ 420 - a1.toInt ∧ (¬ x27.toInt = 0 ∨ x25.toInt ≤ ln.toInt)) (hm_20 : 400 - x19.toInt < (n_20 : Int)) (hS : SB D cy base Z K N Lt_X8_test LRt_X8_test Ma Ra M20 R21 J22 s H locs) (hl : lv_has ls 7 [(2, .int x17), (3, .int x18), (4, .int x19), (0, .ref (base + a0)), (1, .int a1)]), W p l e (md_rm (10 + 2 * d) 0 0) s m args below meth c H locs 0 0 Q (F0 m 12 ls []) := by
    intro n_20
    induction n_20 with
    | zero =>
      intro x17 x18 x19 x25 x27 M20 R21 J22 H locs ls h_x17 h_x18 h_x19 h_x25 k26 h_x27 k28 w0_20 hm_20 hS hl
      exfalso
      have := (h_a1).1; have := (h_a1).2; have := (h_fa).1; have := (h_fa).2; have := (h_ln).1; have := (h_ln).2; have := (h_pa).1; have := (h_pa).2; have := (h_x19).1; have := (h_x19).2; omega
    | succ n_20 ih_20 =>
      intro x17 x18 x19 x25 x27 M20 R21 J22 H locs ls h_x17 h_x18 h_x19 h_x25 k26 h_x27 k28 w0_20 hm_20 hS hl
      have f23 := hS.2.2.1
      have g24 := hS.2.2.2
      refine lv_iload_n hx hb dX8_test_12 rfl (lv_at hl 1 rfl) ?_
      refine lv_if_eq (tgt := 122) hx hb dX8_test_13 (by decide) (fun c29 => ?_) (fun c29 => ?_)
      · have q30 : x18.toInt = 0 := ti_eq c29
        have h31 : iv 0 0 x18 := ⟨by have := (h_x18).1; have := ((iv_c (c := 0) (n := 0) (by decide))).1; omega, by have := (h_x18).2; have := ((iv_c (c := 0) (n := 0) (by decide))).2; omega⟩
        have q32 : x25.toInt ≤ 420 - a1.toInt ∧ (¬ x27.toInt = 0 ∨ x25.toInt ≤ ln.toInt) := by
          have := (h_a1).1; have := (h_a1).2; have := (h_fa).1; have := (h_fa).2; have := (h_ln).1; have := (h_ln).2; have := (h_pa).1; have := (h_pa).2; have := (h10).1; have := (h10).2; have := (h12).1; have := (h12).2; have := (h_x25).1; have := (h_x25).2; have := (h_x27).1; have := (h_x27).2; omega
        exact tw_endv hx hb hr hlocks hK hT hS hQ (⟨x25, x27, k26, k28, h_x25, h_x27, q32⟩) dX8_test_122
      · have q33 : ¬ x18.toInt = 0 := ti_ne c29
        have h34 : iv 1 1 x18 := ⟨by have := (h_x18).1; have := ((iv_c (c := 0) (n := 0) (by decide))).1; have := ((iv_c (c := 0) (n := 0) (by decide))).2; omega, by have := (h_x18).2; have := ((iv_c (c := 0) (n := 0) (by decide))).1; have := ((iv_c (c := 0) (n := 0) (by decide))).2; omega⟩
        refine lv_aload_n hx hb dX8_test_16 rfl (lv_at hl 3 rfl) ?_
        refine tw_getk hx hb hW hown hK hS f_X8_65_8 hz_a0 hk_a0 (v := x27) k28 dX8_test_17 ?_
        refine lv_if_ne (tgt := 122) hx hb dX8_test_20 (by decide) (fun c35 => ?_) (fun c35 => ?_)
        · have q36 : ¬ x27.toInt = 0 := ti_ne c35
          have q37 : x25.toInt ≤ 420 - a1.toInt ∧ (¬ x27.toInt = 0 ∨ x25.toInt ≤ ln.toInt) := by
            have := (h_a1).1; have := (h_a1).2; have := (h_fa).1; have := (h_fa).2; have := (h_ln).1; have := (h_ln).2; have := (h_pa).1; have := (h_pa).2; have := (h10).1; have := (h10).2; have := (h12).1; have := (h12).2; have := (h_x25).1; have := (h_x25).2; have := (h_x27).1; have := (h_x27).2; omega
          exact tw_endv hx hb hr hlocks hK hT hS hQ (⟨x25, x27, k26, k28, h_x25, h_x27, q37⟩) dX8_test_122
        · have q38 : x27.toInt = 0 := ti_eq c35
          have h39 : iv 0 0 x27 := ⟨by have := (h_x27).1; have := ((iv_c (c := 0) (n := 0) (by decide))).1; omega, by have := (h_x27).2; have := ((iv_c (c := 0) (n := 0) (by decide))).2; omega⟩
          refine lv_iload hx hb dX8_test_23 (lv_at hl 2 rfl) ?_
          refine lv_sipush (v := 400) hx hb dX8_test_25 (by decide) ?_
          refine lv_icmp_ge (tgt := 122) hx hb dX8_test_28 (by decide) (fun c40 => ?_) (fun c40 => ?_)
          · have q41 : 400 ≤ x19.toInt := ti_le c40
            have h42 : iv 400 400 x19 := iv_geL (y := 400) h_x19 (iv_c (c := 400) (n := 400) (by decide)) q41 (by decide)
            have q43 : x25.toInt ≤ 420 - a1.toInt ∧ (¬ x27.toInt = 0 ∨ x25.toInt ≤ ln.toInt) := by
              have := (h_a1).1; have := (h_a1).2; have := (h_fa).1; have := (h_fa).2; have := (h_ln).1; have := (h_ln).2; have := (h_pa).1; have := (h_pa).2; have := (h10).1; have := (h10).2; have := (h12).1; have := (h12).2; have := (h_x25).1; have := (h_x25).2; have := (h39).1; have := (h39).2; omega
            exact tw_endv hx hb hr hlocks hK hT hS hQ (⟨x25, x27, k26, k28, h_x25, (iv_mono h39 (by decide) (by decide)), q43⟩) dX8_test_122
          · have q44 : x19.toInt < 400 := ti_nle c40
            have h45 : iv 0 399 x19 := iv_ltL (y := 400) h_x19 (iv_c (c := 400) (n := 400) (by decide)) q44 (by decide)
            refine lv_aload_n hx hb dX8_test_31 rfl (lv_at hl 3 rfl) ?_
            have k46 : R21 a0 0 = some tb := (Fr.kp (k := 0) g24 hk_a0 rfl).trans k_tb
            have k47 : M20 a0 1 = ln := (Fr.kp (k := 1) f23 hk_a0 rfl).trans k_ln
            refine tw_goi hS (md_runU (As := []) (rest := []) hx hb hml hown hW hK hT hS.1 (t_X10_hereBehindBlanks l D cy tx base Z K N M20 R21 J22 hS.2.1 a0 hz_a0 hk_a0 tb k46 ln k47 (iv_mono h_ln (by decide) (by decide)) x25 k26 (iv_mono h_x25 (by decide) (by decide))) s_X8_26_X8 ⟨rfl, rfl, ⟨by simp only [md_rm]; omega, by simp only [md_rm]; omega⟩, ⟨Nat.le_of_ble_eq_true rfl, Nat.le_of_ble_eq_true rfl⟩⟩ hz_a0 hk_a0 (by decide) rfl rfl hl.1 rfl (Nat.le_of_ble_eq_true rfl) dX8_test_32) rfl rfl (fun x54 H locs M51 R52 J50 hS f48 g49 E53 => ?_)
            have eR52 := Fr.nil g49 rfl
            subst eR52
            obtain ⟨h_x54, p55⟩ := E53
            obtain ⟨x57, k58, h56, q59⟩ := p55
            have k58 : M51 a0 2 = x57 := k58
            have h60 : iv 0 420 x57 := by
              have := (h_a1).1; have := (h_a1).2; have := (h_fa).1; have := (h_fa).2; have := (h_ln).1; have := (h_ln).2; have := (h_pa).1; have := (h_pa).2; have := (h10).1; have := (h10).2; have := (h12).1; have := (h12).2; have := (h_x25).1; have := (h_x25).2; have := (h39).1; have := (h39).2; have := (h56).1; have := (h56).2; exact ⟨by omega, by omega⟩
            refine lv_pop hx hb dX8_test_35 rfl ?_
            refine lv_aload_n hx hb dX8_test_36 rfl (lv_at hl 3 rfl) ?_
            refine va_ldcS hx hb hown hT.2.1.2.2.2.2.1 dX8_test_37 ?_
            have k61 : R21 a0 0 = some tb := (Fr.kp (k := 0) g24 hk_a0 rfl).trans k_tb
            have k62 : M51 a0 1 = ln := ((Fr.kp (k := 1) f48 hk_a0 rfl).trans (Fr.kp (k := 1) f23 hk_a0 rfl)).trans k_ln
            refine tw_goi hS (md_runU (As := [.ref (tx.1 4)]) (rest := []) hx hb hml hown hW hK hT hS.1 (t_X10_whichWord l D cy tx base Z K N M51 R21 J50 hS.2.1 a0 hz_a0 hk_a0 4 (by decide) tb k61 ln k62 (iv_mono h_ln (by decide) (by decide)) x57 k58 (iv_mono h60 (by decide) (by decide))) s_X8_32_X8 ⟨rfl, rfl, ⟨by simp only [md_rm]; omega, by simp only [md_rm]; omega⟩, ⟨Nat.le_of_ble_eq_true rfl, Nat.le_of_ble_eq_true rfl⟩⟩ hz_a0 hk_a0 (by decide) rfl rfl hl.1 rfl (Nat.le_of_ble_eq_true rfl) dX8_test_39) rfl rfl (fun x69 H locs M66 R67 J65 hS f63 g64 E68 => ?_)
            have eR67 := Fr.nil g64 rfl
            subst eR67
            obtain ⟨h_x69, p70⟩ := E68
            obtain ⟨x72, k73, h71, q74⟩ := p70
            have k73 : M66 a0 4 = x72 := k73
            have h75 : iv 0 420 x72 := by
              have := (h_a1).1; have := (h_a1).2; have := (h_fa).1; have := (h_fa).2; have := (h_ln).1; have := (h_ln).2; have := (h_pa).1; have := (h_pa).2; have := (h10).1; have := (h10).2; have := (h12).1; have := (h12).2; have := (h_x25).1; have := (h_x25).2; have := (h39).1; have := (h39).2; have := (h60).1; have := (h60).2; have := (h71).1; have := (h71).2; exact ⟨by omega, by omega⟩
            refine lv_istore (lv' := [(5, .int x69), (2, .int x17), (3, .int x18), (4, .int x19), (0, .ref (base + a0)), (1, .int a1)]) hx hb dX8_test_42 hl (by decide) rfl (fun ls hl => ?_)
            refine lv_iload hx hb dX8_test_44 (lv_at hl 0 rfl) ?_
            refine lv_if_ne (tgt := 76) hx hb dX8_test_46 (by decide) (fun c76 => ?_) (fun c76 => ?_)
            · have q77 : ¬ x69.toInt = 0 := ti_ne c76
              refine lv_aload_n hx hb dX8_test_76 rfl (lv_at hl 4 rfl) ?_
              refine lv_iload_n hx hb dX8_test_77 rfl (lv_at hl 1 rfl) ?_
              refine tw_gov hS (md_runV (As := [.int x17]) (rest := []) hx hb hml hown hW hK hT hS.1 (t_X8_aim l D cy tx base Z K N M66 R21 J65 hS.2.1 a0 hz_a0 hk_a0 x17 h_x17) s_X8_58 ⟨rfl, rfl, ⟨by simp only [md_rm]; omega, by simp only [md_rm]; omega⟩, ⟨Nat.le_of_ble_eq_true rfl, Nat.le_of_ble_eq_true rfl⟩⟩ hz_a0 hk_a0 (by decide) rfl rfl hl.1 rfl (Nat.le_of_ble_eq_true rfl) dX8_test_78) rfl rfl (fun H locs M81 R82 J80 hS f78 g79 E83 => ?_)
              have eR82 := Fr.nil g79 rfl
              subst eR82
              refine lv_iconst (v := (-1)) hx hb dX8_test_81 (by decide) ?_
              refine lv_istore_n (lv' := [(2, .int (-1)), (5, .int x69), (3, .int x18), (4, .int x19), (0, .ref (base + a0)), (1, .int a1)]) hx hb dX8_test_82 rfl hl (by decide) rfl (fun ls hl => ?_)
              refine lv_iload hx hb dX8_test_83 (lv_at hl 1 rfl) ?_
              refine lv_iconst (v := 1) hx hb dX8_test_85 (by decide) ?_
              refine lv_icmp_ne (tgt := 93) hx hb dX8_test_86 (by decide) (fun c84 => ?_) (fun c84 => ?_)
              · have q85 : ¬ x69.toInt = 1 := ti_ne c84
                refine lv_iconst (v := 0) hx hb dX8_test_93 (by decide) ?_
                refine lv_istore_n (lv' := [(3, .int 0), (2, .int (-1)), (5, .int x69), (4, .int x19), (0, .ref (base + a0)), (1, .int a1)]) hx hb dX8_test_94 rfl hl (by decide) rfl (fun ls hl => ?_)
                refine lv_iload_n hx hb dX8_test_95 rfl (lv_at hl 0 rfl) ?_
                refine lv_if_eq (tgt := 116) hx hb dX8_test_96 (by decide) (fun _ => ?_) (fun h => absurd h (by decide))
                refine tw_iinc (lv' := fun x88 => [(4, .int x88), (3, .int 0), (2, .int (-1)), (5, .int x69), (0, .ref (base + a0)), (1, .int a1)]) (lo := 1) (hi := 400) hx hb dX8_test_116 hl (k := 3) rfl h45 (by decide) ⟨by decide, by decide⟩ ⟨by decide, by decide⟩ (by decide) (fun _ => rfl) (fun x88 ls e87 h86 hl => ?_)
                refine lv_goto (tgt := 12) hx hb dX8_test_119 (by decide) ?_
                have k89 : M81 a0 2 = x57 := ((Fr.kp (k := 2) f78 hk_a0 rfl).trans (Fr.kp (k := 2) f63 hk_a0 rfl)).trans k58
                have k90 : M81 a0 3 = x27 := ((Fr.kp (k := 3) f78 hk_a0 rfl).trans ((Fr.kp (k := 3) f63 hk_a0 rfl).trans (Fr.kp (k := 3) f48 hk_a0 rfl))).trans k28
                have w91 : x57.toInt ≤ 420 - a1.toInt ∧ (¬ x27.toInt = 0 ∨ x57.toInt ≤ ln.toInt) := by
                  have := (h_a1).1; have := (h_a1).2; have := (h_fa).1; have := (h_fa).2; have := (h_ln).1; have := (h_ln).2; have := (h_pa).1; have := (h_pa).2; have := (h10).1; have := (h10).2; have := (h12).1; have := (h12).2; have := (h_x25).1; have := (h_x25).2; have := (h39).1; have := (h39).2; have := (h60).1; have := (h60).2; have := (h75).1; have := (h75).2; omega
                have hm92 : 400 - x88.toInt < (n_20 : Int) := by
                  have := (h_a1).1; have := (h_a1).2; have := (h_fa).1; have := (h_fa).2; have := (h_ln).1; have := (h_ln).2; have := (h_pa).1; have := (h_pa).2; have := (h45).1; have := (h45).2; have := (h86).1; have := (h86).2; omega
                exact ih_20 (-1) 0 x88 x57 x27 M81 R21 J80 H locs _ (iv_mono (iv_c (c := (-1)) (n := (-1)) (by decide)) (by decide) (by decide)) (iv_mono (iv_c (c := 0) (n := 0) (by decide)) (by decide) (by decide)) (iv_mono h86 (by decide) (by decide)) h60 k89 (iv_mono h39 (by decide) (by decide)) k90 w91 hm92 hS (lv_sub hl [2, 1, 0, 4, 5] rfl)
              · have q93 : x69.toInt = 1 := ti_eq c84
                have h94 : iv 1 1 x69 := ⟨by have := (h_x69).1; have := ((iv_c (c := 1) (n := 1) (by decide))).1; omega, by have := (h_x69).2; have := ((iv_c (c := 1) (n := 1) (by decide))).2; omega⟩
                refine lv_iconst (v := 1) hx hb dX8_test_89 (by decide) ?_
                refine lv_goto (tgt := 94) hx hb dX8_test_90 (by decide) ?_
                refine lv_istore_n (lv' := [(3, .int 1), (2, .int (-1)), (5, .int x69), (4, .int x19), (0, .ref (base + a0)), (1, .int a1)]) hx hb dX8_test_94 rfl hl (by decide) rfl (fun ls hl => ?_)
                refine lv_iload_n hx hb dX8_test_95 rfl (lv_at hl 0 rfl) ?_
                refine lv_if_eq (tgt := 116) hx hb dX8_test_96 (by decide) (fun h => absurd h (by decide)) (fun _ => ?_)
                refine lv_aload_n hx hb dX8_test_99 rfl (lv_at hl 4 rfl) ?_
                have k95 : M81 a0 4 = x72 := (Fr.kp (k := 4) f78 hk_a0 rfl).trans k73
                refine tw_gov hS (md_runU (As := []) (rest := []) hx hb hml hown hW hK hT hS.1 (t_X10_passWord l D cy tx base Z K N M81 R21 J80 hS.2.1 a0 hz_a0 hk_a0 x72 k95 (iv_mono h75 (by decide) (by decide))) s_X8_43_X8 ⟨rfl, rfl, ⟨by simp only [md_rm]; omega, by simp only [md_rm]; omega⟩, ⟨Nat.le_of_ble_eq_true rfl, Nat.le_of_ble_eq_true rfl⟩⟩ hz_a0 hk_a0 (by decide) rfl rfl hl.1 rfl (Nat.le_of_ble_eq_true rfl) dX8_test_100) rfl rfl (fun H locs M99 R100 J98 hS f96 g97 E101 => ?_)
                have eR100 := Fr.nil g97 rfl
                subst eR100
                have p102 := E101
                have k103 : M99 a0 2 = x72 := p102
                refine lv_aload_n hx hb dX8_test_103 rfl (lv_at hl 4 rfl) ?_
                refine lv_bipush (v := 13) hx hb dX8_test_104 (by decide) ?_
                refine lv_iconst (v := 0) hx hb dX8_test_106 (by decide) ?_
                refine tw_goi hS (md_runV (As := [.int 13, .int 0]) (rest := []) hx hb hml hown hW hK hT hS.1 (t_X8_put l D cy tx base Z K N M99 R21 J98 hS.2.1 a0 hz_a0 hk_a0 13 (iv_mono (iv_c (c := 13) (n := 13) (by decide)) (by decide) (by decide)) 0 (iv_mono (iv_c (c := 0) (n := 0) (by decide)) (by decide) (by decide))) s_X8_54 ⟨rfl, rfl, ⟨by simp only [md_rm]; omega, by simp only [md_rm]; omega⟩, ⟨Nat.le_of_ble_eq_true rfl, Nat.le_of_ble_eq_true rfl⟩⟩ hz_a0 hk_a0 (by decide) rfl rfl hl.1 rfl (Nat.le_of_ble_eq_true rfl) dX8_test_107) rfl rfl (fun x110 H locs M107 R108 J106 hS f104 g105 E109 => ?_)
                have eR108 := Fr.nil g105 rfl
                subst eR108
                have h_x110 := E109
                refine lv_istore_n (lv' := [(2, .int x110), (3, .int 1), (5, .int x69), (4, .int x19), (0, .ref (base + a0)), (1, .int a1)]) hx hb dX8_test_110 rfl hl (by decide) rfl (fun ls hl => ?_)
                refine lv_aload_n hx hb dX8_test_111 rfl (lv_at hl 4 rfl) ?_
                refine lv_iload_n hx hb dX8_test_112 rfl (lv_at hl 5 rfl) ?_
                have k111 : R21 a0 0 = some tb := (Fr.kp (k := 0) g24 hk_a0 rfl).trans k_tb
                have k112 : M107 a0 1 = ln := ((Fr.kp (k := 1) f104 hk_a0 rfl).trans ((Fr.kp (k := 1) f96 hk_a0 rfl).trans ((Fr.kp (k := 1) f78 hk_a0 rfl).trans ((Fr.kp (k := 1) f63 hk_a0 rfl).trans ((Fr.kp (k := 1) f48 hk_a0 rfl).trans (Fr.kp (k := 1) f23 hk_a0 rfl)))))).trans k_ln
                have k113 : M107 a0 2 = x72 := (Fr.kp (k := 2) f104 hk_a0 rfl).trans k103
                have h114 : iv 0 400 x72 := by
                  have := (h_a1).1; have := (h_a1).2; have := (h_fa).1; have := (h_fa).2; have := (h_ln).1; have := (h_ln).2; have := (h_pa).1; have := (h_pa).2; have := (h10).1; have := (h10).2; have := (h12).1; have := (h12).2; have := (h_x25).1; have := (h_x25).2; have := (h39).1; have := (h39).2; have := (h60).1; have := (h60).2; have := (h75).1; have := (h75).2; exact ⟨by omega, by omega⟩
                have k115 : M107 a0 3 = x27 := ((Fr.kp (k := 3) f104 hk_a0 rfl).trans ((Fr.kp (k := 3) f96 hk_a0 rfl).trans ((Fr.kp (k := 3) f78 hk_a0 rfl).trans ((Fr.kp (k := 3) f63 hk_a0 rfl).trans (Fr.kp (k := 3) f48 hk_a0 rfl))))).trans k28
                have q116 : x72.toInt ≤ ln.toInt := by
                  have := (h_a1).1; have := (h_a1).2; have := (h_fa).1; have := (h_fa).2; have := (h_ln).1; have := (h_ln).2; have := (h_pa).1; have := (h_pa).2; have := (h10).1; have := (h10).2; have := (h12).1; have := (h12).2; have := (h_x25).1; have := (h_x25).2; have := (h39).1; have := (h39).2; have := (h60).1; have := (h60).2; have := (h75).1; have := (h75).2; omega
                have hm117 : 10 - a1.toInt < (d : Int) := by
                  have := (h_a1).1; have := (h_a1).2; have := (h_fa).1; have := (h_fa).2; have := (h_ln).1; have := (h_ln).2; have := (h_pa).1; have := (h_pa).2; have := (h10).1; have := (h10).2; have := (h12).1; have := (h12).2; have := (h_x25).1; have := (h_x25).2; have := (h39).1; have := (h39).2; have := (h60).1; have := (h60).2; have := (h75).1; have := (h75).2; omega
                refine tw_gov hS (md_runV (As := [.int a1]) (rest := []) hx hb hml hown hW hK hT hS.1 (ih M107 R21 J106 hS.2.1 a0 hz_a0 hk_a0 a1 h_a1 tb k111 ln k112 (iv_mono h_ln (by decide) (by decide)) x72 k113 h114 x27 k115 (iv_mono h39 (by decide) (by decide)) q116 hm117) s_X8_75 ⟨rfl, rfl, ⟨by simp only [md_rm]; omega, by simp only [md_rm]; omega⟩, ⟨Nat.le_of_ble_eq_true rfl, Nat.le_of_ble_eq_true rfl⟩⟩ hz_a0 hk_a0 (by decide) rfl rfl hl.1 rfl (Nat.le_of_ble_eq_true rfl) dX8_test_113) rfl rfl (fun H locs M121 R122 J120 hS f118 g119 E123 => ?_)
                have eR122 := Fr.nil g119 rfl
                subst eR122
                have p124 := E123
                obtain ⟨x126, x128, k129, k130, h125, h127, q131⟩ := p124
                have k129 : M121 a0 2 = x126 := k129
                have k130 : M121 a0 3 = x128 := k130
                refine tw_iinc (lv' := fun x134 => [(4, .int x134), (2, .int x110), (3, .int 1), (5, .int x69), (0, .ref (base + a0)), (1, .int a1)]) (lo := 1) (hi := 400) hx hb dX8_test_116 hl (k := 3) rfl h45 (by decide) ⟨by decide, by decide⟩ ⟨by decide, by decide⟩ (by decide) (fun _ => rfl) (fun x134 ls e133 h132 hl => ?_)
                refine lv_goto (tgt := 12) hx hb dX8_test_119 (by decide) ?_
                have w135 : x126.toInt ≤ 420 - a1.toInt ∧ (¬ x128.toInt = 0 ∨ x126.toInt ≤ ln.toInt) := by
                  have := (h_a1).1; have := (h_a1).2; have := (h_fa).1; have := (h_fa).2; have := (h_ln).1; have := (h_ln).2; have := (h_pa).1; have := (h_pa).2; have := (h10).1; have := (h10).2; have := (h125).1; have := (h125).2; have := (h127).1; have := (h127).2; have := (h12).1; have := (h12).2; have := (h_x25).1; have := (h_x25).2; have := (h39).1; have := (h39).2; have := (h60).1; have := (h60).2; have := (h75).1; have := (h75).2; omega
                have hm136 : 400 - x134.toInt < (n_20 : Int) := by
                  have := (h_a1).1; have := (h_a1).2; have := (h_fa).1; have := (h_fa).2; have := (h_ln).1; have := (h_ln).2; have := (h_pa).1; have := (h_pa).2; have := (h132).1; have := (h132).2; have := (h45).1; have := (h45).2; omega
                exact ih_20 x110 1 x134 x126 x128 M121 R21 J120 H locs _ h_x110 (iv_mono (iv_c (c := 1) (n := 1) (by decide)) (by decide) (by decide)) (iv_mono h132 (by decide) (by decide)) h125 k129 h127 k130 w135 hm136 hS (lv_sub hl [1, 2, 0, 4, 5] rfl)
            · have q137 : x69.toInt = 0 := ti_eq c76
              have h138 : iv 0 0 x69 := ⟨by have := (h_x69).1; have := ((iv_c (c := 0) (n := 0) (by decide))).1; omega, by have := (h_x69).2; have := ((iv_c (c := 0) (n := 0) (by decide))).2; omega⟩
              refine lv_aload_n hx hb dX8_test_49 rfl (lv_at hl 4 rfl) ?_
              refine tw_gov hS (md_runU (As := []) (rest := []) hx hb hml hown hW hK hT hS.1 (t_X10_passWord l D cy tx base Z K N M66 R21 J65 hS.2.1 a0 hz_a0 hk_a0 x72 k73 (iv_mono h75 (by decide) (by decide))) s_X8_43_X8 ⟨rfl, rfl, ⟨by simp only [md_rm]; omega, by simp only [md_rm]; omega⟩, ⟨Nat.le_of_ble_eq_true rfl, Nat.le_of_ble_eq_true rfl⟩⟩ hz_a0 hk_a0 (by decide) rfl rfl hl.1 rfl (Nat.le_of_ble_eq_true rfl) dX8_test_50) rfl rfl (fun H locs M142 R143 J141 hS f139 g140 E144 => ?_)
              have eR143 := Fr.nil g140 rfl
              subst eR143
              have p145 := E144
              have k146 : M142 a0 2 = x72 := p145
              refine lv_aload_n hx hb dX8_test_53 rfl (lv_at hl 4 rfl) ?_
              refine lv_bipush (v := 12) hx hb dX8_test_54 (by decide) ?_
              refine lv_iconst (v := 0) hx hb dX8_test_56 (by decide) ?_
              refine tw_goi hS (md_runV (As := [.int 12, .int 0]) (rest := []) hx hb hml hown hW hK hT hS.1 (t_X8_put l D cy tx base Z K N M142 R21 J141 hS.2.1 a0 hz_a0 hk_a0 12 (iv_mono (iv_c (c := 12) (n := 12) (by decide)) (by decide) (by decide)) 0 (iv_mono (iv_c (c := 0) (n := 0) (by decide)) (by decide) (by decide))) s_X8_54 ⟨rfl, rfl, ⟨by simp only [md_rm]; omega, by simp only [md_rm]; omega⟩, ⟨Nat.le_of_ble_eq_true rfl, Nat.le_of_ble_eq_true rfl⟩⟩ hz_a0 hk_a0 (by decide) rfl rfl hl.1 rfl (Nat.le_of_ble_eq_true rfl) dX8_test_57) rfl rfl (fun x153 H locs M150 R151 J149 hS f147 g148 E152 => ?_)
              have eR151 := Fr.nil g148 rfl
              subst eR151
              have h_x153 := E152
              refine lv_istore (lv' := [(6, .int x153), (5, .int x69), (2, .int x17), (3, .int x18), (4, .int x19), (0, .ref (base + a0)), (1, .int a1)]) hx hb dX8_test_60 hl (by decide) rfl (fun ls hl => ?_)
              refine lv_aload_n hx hb dX8_test_62 rfl (lv_at hl 5 rfl) ?_
              refine lv_iload_n hx hb dX8_test_63 rfl (lv_at hl 6 rfl) ?_
              have k154 : R21 a0 0 = some tb := (Fr.kp (k := 0) g24 hk_a0 rfl).trans k_tb
              have k155 : M150 a0 1 = ln := ((Fr.kp (k := 1) f147 hk_a0 rfl).trans ((Fr.kp (k := 1) f139 hk_a0 rfl).trans ((Fr.kp (k := 1) f63 hk_a0 rfl).trans ((Fr.kp (k := 1) f48 hk_a0 rfl).trans (Fr.kp (k := 1) f23 hk_a0 rfl))))).trans k_ln
              have k156 : M150 a0 2 = x72 := (Fr.kp (k := 2) f147 hk_a0 rfl).trans k146
              have h157 : iv 0 400 x72 := by
                have := (h_a1).1; have := (h_a1).2; have := (h_fa).1; have := (h_fa).2; have := (h_ln).1; have := (h_ln).2; have := (h_pa).1; have := (h_pa).2; have := (h10).1; have := (h10).2; have := (h12).1; have := (h12).2; have := (h_x25).1; have := (h_x25).2; have := (h39).1; have := (h39).2; have := (h60).1; have := (h60).2; have := (h75).1; have := (h75).2; exact ⟨by omega, by omega⟩
              have k158 : M150 a0 3 = x27 := ((Fr.kp (k := 3) f147 hk_a0 rfl).trans ((Fr.kp (k := 3) f139 hk_a0 rfl).trans ((Fr.kp (k := 3) f63 hk_a0 rfl).trans (Fr.kp (k := 3) f48 hk_a0 rfl)))).trans k28
              have q159 : x72.toInt ≤ ln.toInt := by
                have := (h_a1).1; have := (h_a1).2; have := (h_fa).1; have := (h_fa).2; have := (h_ln).1; have := (h_ln).2; have := (h_pa).1; have := (h_pa).2; have := (h10).1; have := (h10).2; have := (h12).1; have := (h12).2; have := (h_x25).1; have := (h_x25).2; have := (h39).1; have := (h39).2; have := (h60).1; have := (h60).2; have := (h75).1; have := (h75).2; omega
              have hm160 : 10 - a1.toInt < (d : Int) := by
                have := (h_a1).1; have := (h_a1).2; have := (h_fa).1; have := (h_fa).2; have := (h_ln).1; have := (h_ln).2; have := (h_pa).1; have := (h_pa).2; have := (h10).1; have := (h10).2; have := (h12).1; have := (h12).2; have := (h_x25).1; have := (h_x25).2; have := (h39).1; have := (h39).2; have := (h60).1; have := (h60).2; have := (h75).1; have := (h75).2; omega
              refine tw_gov hS (md_runV (As := [.int a1]) (rest := []) hx hb hml hown hW hK hT hS.1 (ih M150 R21 J149 hS.2.1 a0 hz_a0 hk_a0 a1 h_a1 tb k154 ln k155 (iv_mono h_ln (by decide) (by decide)) x72 k156 h157 x27 k158 (iv_mono h39 (by decide) (by decide)) q159 hm160) s_X8_75 ⟨rfl, rfl, ⟨by simp only [md_rm]; omega, by simp only [md_rm]; omega⟩, ⟨Nat.le_of_ble_eq_true rfl, Nat.le_of_ble_eq_true rfl⟩⟩ hz_a0 hk_a0 (by decide) rfl rfl hl.1 rfl (Nat.le_of_ble_eq_true rfl) dX8_test_64) rfl rfl (fun H locs M164 R165 J163 hS f161 g162 E166 => ?_)
              have eR165 := Fr.nil g162 rfl
              subst eR165
              have p167 := E166
              obtain ⟨x169, x171, k172, k173, h168, h170, q174⟩ := p167
              have k172 : M164 a0 2 = x169 := k172
              have k173 : M164 a0 3 = x171 := k173
              refine lv_aload_n hx hb dX8_test_67 rfl (lv_at hl 5 rfl) ?_
              refine lv_iload hx hb dX8_test_68 (lv_at hl 0 rfl) ?_
              refine tw_gov hS (md_runV (As := [.int x153]) (rest := []) hx hb hml hown hW hK hT hS.1 (t_X8_aim l D cy tx base Z K N M164 R21 J163 hS.2.1 a0 hz_a0 hk_a0 x153 h_x153) s_X8_58 ⟨rfl, rfl, ⟨by simp only [md_rm]; omega, by simp only [md_rm]; omega⟩, ⟨Nat.le_of_ble_eq_true rfl, Nat.le_of_ble_eq_true rfl⟩⟩ hz_a0 hk_a0 (by decide) rfl rfl hl.1 rfl (Nat.le_of_ble_eq_true rfl) dX8_test_70) rfl rfl (fun H locs M178 R179 J177 hS f175 g176 E180 => ?_)
              have eR179 := Fr.nil g176 rfl
              subst eR179
              refine lv_goto (tgt := 116) hx hb dX8_test_73 (by decide) ?_
              refine tw_iinc (lv' := fun x183 => [(4, .int x183), (6, .int x153), (5, .int x69), (2, .int x17), (3, .int x18), (0, .ref (base + a0)), (1, .int a1)]) (lo := 1) (hi := 400) hx hb dX8_test_116 hl (k := 4) rfl h45 (by decide) ⟨by decide, by decide⟩ ⟨by decide, by decide⟩ (by decide) (fun _ => rfl) (fun x183 ls e182 h181 hl => ?_)
              refine lv_goto (tgt := 12) hx hb dX8_test_119 (by decide) ?_
              have k184 : M178 a0 2 = x169 := (Fr.kp (k := 2) f175 hk_a0 rfl).trans k172
              have k185 : M178 a0 3 = x171 := (Fr.kp (k := 3) f175 hk_a0 rfl).trans k173
              have w186 : x169.toInt ≤ 420 - a1.toInt ∧ (¬ x171.toInt = 0 ∨ x169.toInt ≤ ln.toInt) := by
                have := (h_a1).1; have := (h_a1).2; have := (h_fa).1; have := (h_fa).2; have := (h_ln).1; have := (h_ln).2; have := (h_pa).1; have := (h_pa).2; have := (h10).1; have := (h10).2; have := (h12).1; have := (h12).2; have := (h168).1; have := (h168).2; have := (h170).1; have := (h170).2; have := (h_x25).1; have := (h_x25).2; have := (h39).1; have := (h39).2; have := (h60).1; have := (h60).2; have := (h75).1; have := (h75).2; omega
              have hm187 : 400 - x183.toInt < (n_20 : Int) := by
                have := (h_a1).1; have := (h_a1).2; have := (h_fa).1; have := (h_fa).2; have := (h_ln).1; have := (h_ln).2; have := (h_pa).1; have := (h_pa).2; have := (h181).1; have := (h181).2; have := (h45).1; have := (h45).2; omega
              exact ih_20 x17 x18 x183 x169 x171 M178 R21 J177 H locs _ h_x17 (iv_mono h34 (by decide) (by decide)) (iv_mono h181 (by decide) (by decide)) h168 k184 h170 k185 w186 hm187 hS (lv_sub hl [3, 4, 0, 5, 6] rfl)
  have w188 : x11.toInt ≤ 420 - a1.toInt ∧ (¬ x13.toInt = 0 ∨ x11.toInt ≤ ln.toInt) := by
    have := (h_a1).1; have := (h_a1).2; have := (h_fa).1; have := (h_fa).2; have := (h_ln).1; have := (h_ln).2; have := (h_pa).1; have := (h_pa).2; have := (h10).1; have := (h10).2; have := (h12).1; have := (h12).2; omega
  have hm189 : 400 - (0 : Int32).toInt < (((401 : Nat) : Int) : Int) := by
    have := (h_a1).1; have := (h_a1).2; have := (h_fa).1; have := (h_fa).2; have := (h_ln).1; have := (h_ln).2; have := (h_pa).1; have := (h_pa).2; have : (0 : Int32).toInt = 0 := (by decide); omega
  exact W12_20 401 (-1) 1 0 x11 x13 M6 Ra J5 H locs _ (iv_mono (iv_c (c := (-1)) (n := (-1)) (by decide)) (by decide) (by decide)) (iv_mono (iv_c (c := 1) (n := 1) (by decide)) (by decide) (by decide)) (iv_mono (iv_c (c := 0) (n := 0) (by decide)) (by decide) (by decide)) h10 k14 h12 k15 w188 hm189 hS (lv_sub hl [2, 1, 0, 3, 4] rfl)
def Lt_X8_weigh : WL := [(9, 3, 4), (9, 7, 8)]
def LRt_X8_weigh : WL := []
set_option maxRecDepth 100000 in
set_option maxHeartbeats 4000000 in
theorem t_X8_weigh (l : Launch) (D : va_G) (cy : Nat → ClassId) (tx : (Nat → Nat) × (Nat → Nat)) (base Z : Nat) (K N : Nat → Nat) (Ma : MT) (Ra : RT) (Ja : JT) (hTy : Ty Z K N Ma Ra) (a0 : Nat) (hz_a0 : a0 < Z) (hk_a0 : K a0 = 9) (a1 : Int32) (h_a1 : iv 0 1000 a1) (fa : Int32) (k_fa : Ma a0 3 = fa) (h_fa : iv (-2147483648) 2147483647 fa) : Met l yX8_weigh [Cond.code yX8_weigh cX8_weigh 2 none] (md_rm 2 0 0) (va_Pc [.ref (base + a0), .int a1] (md_U D cy tx base Z K N Ma Ra Ja)) (mQv D cy tx base (fun u => TP Z K N Lt_X8_weigh LRt_X8_weigh Ma Ra u ∧ ((∃ x0 : Int32, u.2.2.2.1 a0 3 = x0 ∧ iv (-2147483648) 2147483647 x0 ∧ (¬ x0.toInt = 0 ∨ fa.toInt = 0))))) 0 0 (fun q => base ≤ q) := by
  refine tw_ofW (L := Lt_X8_weigh) (LR := LRt_X8_weigh) (by decide) (Nat.le_of_ble_eq_true rfl) hTy ?_
  intro p e s m args below meth c Q ls hx hb hr hlocks hown hml hW hK hT hS hQ hl
  have hl : lv_has ls 2 [(0, .ref (base + a0)), (1, .int a1)] := hl
  refine lv_aload_n hx hb dX8_weigh_0 rfl (lv_at hl 0 rfl) ?_
  refine lv_dup hx hb dX8_weigh_1 rfl ?_
  refine tw_geti hx hb hW hown hK hS f_X8_23_8 hz_a0 hk_a0 (lo := (-2147483648)) (hi := 2147483647) rfl dX8_weigh_2 (fun x3 k2 h1 => ?_)
  refine lv_iconst (v := 1) hx hb dX8_weigh_5 (by decide) ?_
  refine lv_iadd hx hb dX8_weigh_6 ?_
  refine tw_top (fun x5 => ?_)
  have h4 := iv_any x5
  refine tw_puti hx hb hW hown hK hS f_X8_23_8 hz_a0 hk_a0 rfl rfl (lo := (-2147483648)) (hi := 2147483647) rfl h4 rfl dX8_weigh_7 (fun H locs M8 hS k6 f7 => ?_)
  refine lv_aload_n hx hb dX8_weigh_10 rfl (lv_at hl 0 rfl) ?_
  refine tw_getk hx hb hW hown hK hS f_X8_23_8 hz_a0 hk_a0 (v := x5) k6 dX8_weigh_11 ?_
  refine lv_bipush (v := 60) hx hb dX8_weigh_14 (by decide) ?_
  refine lv_icmp_le (tgt := 25) hx hb dX8_weigh_16 (by decide) (fun c9 => ?_) (fun c9 => ?_)
  · have q10 : x5.toInt ≤ 60 := ti_le c9
    have h11 : iv (-2147483648) 60 x5 := iv_leL (y := 60) h4 (iv_c (c := 60) (n := 60) (by decide)) q10 (by decide)
    have k12 : M8 a0 3 = fa := (Fr.kp (k := 3) f7 hk_a0 rfl).trans k_fa
    have q13 : ¬ fa.toInt = 0 ∨ fa.toInt = 0 := by
      have := (h_a1).1; have := (h_a1).2; have := (h_fa).1; have := (h_fa).2; omega
    exact tw_endv hx hb hr hlocks hK hT hS hQ (⟨fa, k12, h_fa, q13⟩) dX8_weigh_25
  · have q14 : 60 < x5.toInt := ti_nle c9
    have h15 : iv 61 2147483647 x5 := iv_gtL (y := 60) h4 (iv_c (c := 60) (n := 60) (by decide)) q14 (by decide)
    refine lv_aload_n hx hb dX8_weigh_19 rfl (lv_at hl 0 rfl) ?_
    refine lv_iload_n hx hb dX8_weigh_20 rfl (lv_at hl 1 rfl) ?_
    refine lv_iconst (v := 3) hx hb dX8_weigh_21 (by decide) ?_
    refine tw_gov hS (md_runU (As := [.int a1, .int 3]) (rest := []) hx hb hml hown hW hK hT hS.1 (t_X10_fail l D cy tx base Z K N M8 Ra Ja hS.2.1 a0 hz_a0 hk_a0 a1 h_a1 3 (iv_mono (iv_c (c := 3) (n := 3) (by decide)) (by decide) (by decide))) s_X8_39_X8 ⟨rfl, rfl, ⟨Nat.le_of_ble_eq_true rfl, Nat.le_of_ble_eq_true rfl⟩, ⟨Nat.le_of_ble_eq_true rfl, Nat.le_of_ble_eq_true rfl⟩⟩ hz_a0 hk_a0 (by decide) rfl rfl hl.1 rfl (Nat.le_of_ble_eq_true rfl) dX8_weigh_22) rfl rfl (fun H locs M19 R20 J18 hS f16 g17 E21 => ?_)
    have eR20 := Fr.nil g17 rfl
    subst eR20
    have p22 := E21
    obtain ⟨x24, k25, h23, q26⟩ := p22
    have k25 : M19 a0 3 = x24 := k25
    have q27 : ¬ x24.toInt = 0 ∨ fa.toInt = 0 := by
      have := (h_a1).1; have := (h_a1).2; have := (h_fa).1; have := (h_fa).2; have := (h23).1; have := (h23).2; omega
    exact tw_endv hx hb hr hlocks hK hT hS hQ (⟨x24, k25, h23, q27⟩) dX8_weigh_25
def Lt_X8_sign : WL := [(9, 2, 4), (9, 7, 8)]
def LRt_X8_sign : WL := []
set_option maxRecDepth 100000 in
set_option maxHeartbeats 4000000 in
theorem t_X8_sign (l : Launch) (D : va_G) (cy : Nat → ClassId) (tx : (Nat → Nat) × (Nat → Nat)) (base Z : Nat) (K N : Nat → Nat) (Ma : MT) (Ra : RT) (Ja : JT) (hTy : Ty Z K N Ma Ra) (a0 : Nat) (hz_a0 : a0 < Z) (hk_a0 : K a0 = 9) (tb : Nat) (k_tb : Ra a0 0 = some tb) (ln : Int32) (k_ln : Ma a0 1 = ln) (h_ln : iv 0 400 ln) (pa : Int32) (k_pa : Ma a0 2 = pa) (h_pa : iv 0 420 pa) (fa : Int32) (k_fa : Ma a0 3 = fa) (h_fa : iv (-2147483648) 2147483647 fa) (hg : ¬ fa.toInt = 0 ∨ pa.toInt ≤ ln.toInt) : Met l yX8_sign [Cond.code yX8_sign cX8_sign 6 (some .int)] (md_rm 3 0 0) (va_Pc [.ref (base + a0)] (md_U D cy tx base Z K N Ma Ra Ja)) (mQi D cy tx base (fun r u => TP Z K N Lt_X8_sign LRt_X8_sign Ma Ra u ∧ (iv 6 10 r ∧ (∃ x0 x1 : Int32, u.2.2.2.1 a0 2 = x0 ∧ u.2.2.2.1 a0 3 = x1 ∧ iv 0 421 x0 ∧ iv (-2147483648) 2147483647 x1 ∧ ((x0.toInt ≤ ln.toInt + 1 ∨ x0.toInt ≤ pa.toInt + 1) ∧ (¬ x1.toInt = 0 ∨ x0.toInt ≤ ln.toInt) ∧ (¬ x1.toInt = 0 ∨ fa.toInt = 0)))))) 0 0 (fun q => base ≤ q) := by
  refine tw_ofW (L := Lt_X8_sign) (LR := LRt_X8_sign) (by decide) (Nat.le_of_ble_eq_true rfl) hTy ?_
  intro p e s m args below meth c Q ls hx hb hr hlocks hown hml hW hK hT hS hQ hl
  have hl : lv_has ls 6 [(0, .ref (base + a0))] := hl
  obtain ⟨hz_tb, hk_tb, hn_tb⟩ := hTy.refn hz_a0 hk_a0 (show rtR 9 0 = (13, 400, 1) from rfl) k_tb
  have hn_tb := hn_tb (by decide)
  refine lv_aload_n hx hb dX8_sign_0 rfl (lv_at hl 0 rfl) ?_
  refine tw_goi hS (md_runU (As := []) (rest := []) hx hb hml hown hW hK hT hS.1 (t_X10_hereBehindBlanks l D cy tx base Z K N Ma Ra Ja hS.2.1 a0 hz_a0 hk_a0 tb k_tb ln k_ln (iv_mono h_ln (by decide) (by decide)) pa k_pa (iv_mono h_pa (by decide) (by decide))) s_X8_26_X8 ⟨rfl, rfl, ⟨Nat.le_of_ble_eq_true rfl, Nat.le_of_ble_eq_true rfl⟩, ⟨Nat.le_of_ble_eq_true rfl, Nat.le_of_ble_eq_true rfl⟩⟩ hz_a0 hk_a0 (by decide) rfl rfl hl.1 rfl (Nat.le_of_ble_eq_true rfl) dX8_sign_1) rfl rfl (fun x7 H locs M4 R5 J3 hS f1 g2 E6 => ?_)
  have eR5 := Fr.nil g2 rfl
  subst eR5
  obtain ⟨h_x7, p8⟩ := E6
  obtain ⟨x10, k11, h9, q12⟩ := p8
  have k11 : M4 a0 2 = x10 := k11
  have h13 : iv 0 420 x10 := by
    have := (h_fa).1; have := (h_fa).2; have := (h_ln).1; have := (h_ln).2; have := (h_pa).1; have := (h_pa).2; have := (h9).1; have := (h9).2; exact ⟨by omega, by omega⟩
  refine lv_istore_n (lv' := [(1, .int x7), (0, .ref (base + a0))]) hx hb dX8_sign_4 rfl hl (by decide) rfl (fun ls hl => ?_)
  refine lv_aload_n hx hb dX8_sign_5 rfl (lv_at hl 1 rfl) ?_
  refine tw_getk hx hb hW hown hK hS f_X8_36_8 hz_a0 hk_a0 (v := x10) k11 dX8_sign_6 ?_
  refine lv_istore_n (lv' := [(2, .int x10), (1, .int x7), (0, .ref (base + a0))]) hx hb dX8_sign_9 rfl hl (by decide) rfl (fun ls hl => ?_)
  refine lv_iload_n hx hb dX8_sign_10 rfl (lv_at hl 1 rfl) ?_
  refine lv_bipush (v := 60) hx hb dX8_sign_11 (by decide) ?_
  refine lv_icmp_ne (tgt := 20) hx hb dX8_sign_13 (by decide) (fun c14 => ?_) (fun c14 => ?_)
  · have q15 : ¬ x7.toInt = 60 := ti_ne c14
    refine lv_iconst (v := 0) hx hb dX8_sign_20 (by decide) ?_
    refine lv_istore_n (lv' := [(3, .int 0), (2, .int x10), (1, .int x7), (0, .ref (base + a0))]) hx hb dX8_sign_21 rfl hl (by decide) rfl (fun ls hl => ?_)
    refine lv_iload_n hx hb dX8_sign_22 rfl (lv_at hl 2 rfl) ?_
    refine lv_bipush (v := 62) hx hb dX8_sign_23 (by decide) ?_
    refine lv_icmp_ne (tgt := 32) hx hb dX8_sign_25 (by decide) (fun c16 => ?_) (fun c16 => ?_)
    · have q17 : ¬ x7.toInt = 62 := ti_ne c16
      refine lv_iconst (v := 0) hx hb dX8_sign_32 (by decide) ?_
      refine lv_istore (lv' := [(4, .int 0), (3, .int 0), (2, .int x10), (1, .int x7), (0, .ref (base + a0))]) hx hb dX8_sign_33 hl (by decide) rfl (fun ls hl => ?_)
      refine lv_iload_n hx hb dX8_sign_35 rfl (lv_at hl 1 rfl) ?_
      refine lv_if_ne (tgt := 59) hx hb dX8_sign_36 (by decide) (fun h => absurd h (by decide)) (fun _ => ?_)
      refine lv_iload hx hb dX8_sign_39 (lv_at hl 0 rfl) ?_
      refine lv_if_ne (tgt := 59) hx hb dX8_sign_41 (by decide) (fun h => absurd h (by decide)) (fun _ => ?_)
      refine lv_iload_n hx hb dX8_sign_44 rfl (lv_at hl 3 rfl) ?_
      refine lv_bipush (v := 61) hx hb dX8_sign_45 (by decide) ?_
      refine lv_icmp_eq (tgt := 59) hx hb dX8_sign_47 (by decide) (fun c18 => ?_) (fun c18 => ?_)
      · have q19 : x7.toInt = 61 := ti_eq c18
        have h20 : iv 61 61 x7 := ⟨by have := (h_x7).1; have := ((iv_c (c := 61) (n := 61) (by decide))).1; omega, by have := (h_x7).2; have := ((iv_c (c := 61) (n := 61) (by decide))).2; omega⟩
        refine lv_aload_n hx hb dX8_sign_59 rfl (lv_at hl 4 rfl) ?_
        refine lv_iload_n hx hb dX8_sign_60 rfl (lv_at hl 2 rfl) ?_
        have k21 : M4 a0 3 = fa := (Fr.kp (k := 3) f1 hk_a0 rfl).trans k_fa
        refine tw_gov hS (md_runV (As := [.int x10]) (rest := []) hx hb hml hown hW hK hT hS.1 (t_X8_weigh l D cy tx base Z K N M4 Ra J3 hS.2.1 a0 hz_a0 hk_a0 x10 (iv_mono h13 (by decide) (by decide)) fa k21 (iv_mono h_fa (by decide) (by decide))) s_X8_88 ⟨rfl, rfl, ⟨Nat.le_of_ble_eq_true rfl, Nat.le_of_ble_eq_true rfl⟩, ⟨Nat.le_of_ble_eq_true rfl, Nat.le_of_ble_eq_true rfl⟩⟩ hz_a0 hk_a0 (by decide) rfl rfl hl.1 rfl (Nat.le_of_ble_eq_true rfl) dX8_sign_61) rfl rfl (fun H locs M25 R26 J24 hS f22 g23 E27 => ?_)
        have eR26 := Fr.nil g23 rfl
        subst eR26
        have p28 := E27
        obtain ⟨x30, k31, h29, q32⟩ := p28
        have k31 : M25 a0 3 = x30 := k31
        refine lv_aload_n hx hb dX8_sign_64 rfl (lv_at hl 4 rfl) ?_
        refine lv_dup hx hb dX8_sign_65 rfl ?_
        have k33 : M25 a0 2 = x10 := (Fr.kp (k := 2) f22 hk_a0 rfl).trans k11
        refine tw_getk hx hb hW hown hK hS f_X8_36_8 hz_a0 hk_a0 (v := x10) k33 dX8_sign_66 ?_
        refine lv_iconst (v := 1) hx hb dX8_sign_69 (by decide) ?_
        refine tw_iadd (lo := 1) (hi := 421) hx hb h13 (iv_c (c := 1) (n := 1) (by decide)) ⟨by decide, by decide⟩ ⟨by decide, by decide⟩ dX8_sign_70 (fun x36 e35 h34 => ?_)
        have e35 : x36.toInt = x10.toInt + 1 := e35
        refine tw_puti hx hb hW hown hK hS f_X8_36_8 hz_a0 hk_a0 rfl rfl (lo := 0) (hi := 1000) rfl (iv_mono h34 (by decide) (by decide)) rfl dX8_sign_71 (fun H locs M39 hS k37 f38 => ?_)
        refine lv_iload_n hx hb dX8_sign_74 rfl (lv_at hl 1 rfl) ?_
        refine lv_if_ne (tgt := 83) hx hb dX8_sign_75 (by decide) (fun h => absurd h (by decide)) (fun _ => ?_)
        refine lv_iload hx hb dX8_sign_78 (lv_at hl 0 rfl) ?_
        refine lv_if_eq (tgt := 96) hx hb dX8_sign_80 (by decide) (fun _ => ?_) (fun h => absurd h (by decide))
        refine lv_iconst (v := 0) hx hb dX8_sign_96 (by decide) ?_
        refine lv_istore (lv' := [(5, .int 0), (4, .int 0), (3, .int 0), (2, .int x10), (1, .int x7), (0, .ref (base + a0))]) hx hb dX8_sign_97 hl (by decide) rfl (fun ls hl => ?_)
        refine lv_iload hx hb dX8_sign_99 (lv_at hl 0 rfl) ?_
        refine lv_if_eq (tgt := 126) hx hb dX8_sign_101 (by decide) (fun _ => ?_) (fun h => absurd h (by decide))
        refine lv_iload_n hx hb dX8_sign_126 rfl (lv_at hl 2 rfl) ?_
        refine lv_if_eq (tgt := 135) hx hb dX8_sign_127 (by decide) (fun _ => ?_) (fun h => absurd h (by decide))
        refine lv_iload hx hb dX8_sign_135 (lv_at hl 1 rfl) ?_
        refine lv_if_eq (tgt := 145) hx hb dX8_sign_137 (by decide) (fun _ => ?_) (fun h => absurd h (by decide))
        refine lv_bipush (v := 8) hx hb dX8_sign_145 (by decide) ?_
        have k40 : M39 a0 3 = x30 := (Fr.kp (k := 3) f38 hk_a0 rfl).trans k31
        have q41 : (x36.toInt ≤ ln.toInt + 1 ∨ x36.toInt ≤ pa.toInt + 1) ∧ (¬ x30.toInt = 0 ∨ x36.toInt ≤ ln.toInt) ∧ (¬ x30.toInt = 0 ∨ fa.toInt = 0) := by
          have := (h_fa).1; have := (h_fa).2; have := (h_ln).1; have := (h_ln).2; have := (h_pa).1; have := (h_pa).2; have := (h13).1; have := (h13).2; have := (h29).1; have := (h29).2; have := (h34).1; have := (h34).2; omega
        exact tw_endi hx hb hr hlocks hK hT hS hQ (⟨(iv_mono (iv_c (c := 8) (n := 8) (by decide)) (by decide) (by decide)), ⟨x36, x30, k37, k40, (iv_mono h34 (by decide) (by decide)), h29, q41⟩⟩) dX8_sign_147
      · have q42 : ¬ x7.toInt = 61 := ti_ne c18
        refine lv_aload_n hx hb dX8_sign_50 rfl (lv_at hl 4 rfl) ?_
        refine lv_aload_n hx hb dX8_sign_51 rfl (lv_at hl 4 rfl) ?_
        refine tw_getk hx hb hW hown hK hS f_X8_36_8 hz_a0 hk_a0 (v := x10) k11 dX8_sign_52 ?_
        refine lv_iconst (v := 0) hx hb dX8_sign_55 (by decide) ?_
        refine tw_gov hS (md_runU (As := [.int x10, .int 0]) (rest := []) hx hb hml hown hW hK hT hS.1 (t_X10_fail l D cy tx base Z K N M4 Ra J3 hS.2.1 a0 hz_a0 hk_a0 x10 (iv_mono h13 (by decide) (by decide)) 0 (iv_mono (iv_c (c := 0) (n := 0) (by decide)) (by decide) (by decide))) s_X8_39_X8 ⟨rfl, rfl, ⟨Nat.le_of_ble_eq_true rfl, Nat.le_of_ble_eq_true rfl⟩, ⟨Nat.le_of_ble_eq_true rfl, Nat.le_of_ble_eq_true rfl⟩⟩ hz_a0 hk_a0 (by decide) rfl rfl hl.1 rfl (Nat.le_of_ble_eq_true rfl) dX8_sign_56) rfl rfl (fun H locs M46 R47 J45 hS f43 g44 E48 => ?_)
        have eR47 := Fr.nil g44 rfl
        subst eR47
        have p49 := E48
        obtain ⟨x51, k52, h50, q53⟩ := p49
        have k52 : M46 a0 3 = x51 := k52
        refine lv_aload_n hx hb dX8_sign_59 rfl (lv_at hl 4 rfl) ?_
        refine lv_iload_n hx hb dX8_sign_60 rfl (lv_at hl 2 rfl) ?_
        refine tw_gov hS (md_runV (As := [.int x10]) (rest := []) hx hb hml hown hW hK hT hS.1 (t_X8_weigh l D cy tx base Z K N M46 Ra J45 hS.2.1 a0 hz_a0 hk_a0 x10 (iv_mono h13 (by decide) (by decide)) x51 k52 (iv_mono h50 (by decide) (by decide))) s_X8_88 ⟨rfl, rfl, ⟨Nat.le_of_ble_eq_true rfl, Nat.le_of_ble_eq_true rfl⟩, ⟨Nat.le_of_ble_eq_true rfl, Nat.le_of_ble_eq_true rfl⟩⟩ hz_a0 hk_a0 (by decide) rfl rfl hl.1 rfl (Nat.le_of_ble_eq_true rfl) dX8_sign_61) rfl rfl (fun H locs M57 R58 J56 hS f54 g55 E59 => ?_)
        have eR58 := Fr.nil g55 rfl
        subst eR58
        have p60 := E59
        obtain ⟨x62, k63, h61, q64⟩ := p60
        have k63 : M57 a0 3 = x62 := k63
        refine lv_aload_n hx hb dX8_sign_64 rfl (lv_at hl 4 rfl) ?_
        refine lv_dup hx hb dX8_sign_65 rfl ?_
        have k65 : M57 a0 2 = x10 := ((Fr.kp (k := 2) f54 hk_a0 rfl).trans (Fr.kp (k := 2) f43 hk_a0 rfl)).trans k11
        refine tw_getk hx hb hW hown hK hS f_X8_36_8 hz_a0 hk_a0 (v := x10) k65 dX8_sign_66 ?_
        refine lv_iconst (v := 1) hx hb dX8_sign_69 (by decide) ?_
        refine tw_iadd (lo := 1) (hi := 421) hx hb h13 (iv_c (c := 1) (n := 1) (by decide)) ⟨by decide, by decide⟩ ⟨by decide, by decide⟩ dX8_sign_70 (fun x68 e67 h66 => ?_)
        have e67 : x68.toInt = x10.toInt + 1 := e67
        refine tw_puti hx hb hW hown hK hS f_X8_36_8 hz_a0 hk_a0 rfl rfl (lo := 0) (hi := 1000) rfl (iv_mono h66 (by decide) (by decide)) rfl dX8_sign_71 (fun H locs M71 hS k69 f70 => ?_)
        refine lv_iload_n hx hb dX8_sign_74 rfl (lv_at hl 1 rfl) ?_
        refine lv_if_ne (tgt := 83) hx hb dX8_sign_75 (by decide) (fun h => absurd h (by decide)) (fun _ => ?_)
        refine lv_iload hx hb dX8_sign_78 (lv_at hl 0 rfl) ?_
        refine lv_if_eq (tgt := 96) hx hb dX8_sign_80 (by decide) (fun _ => ?_) (fun h => absurd h (by decide))
        refine lv_iconst (v := 0) hx hb dX8_sign_96 (by decide) ?_
        refine lv_istore (lv' := [(5, .int 0), (4, .int 0), (3, .int 0), (2, .int x10), (1, .int x7), (0, .ref (base + a0))]) hx hb dX8_sign_97 hl (by decide) rfl (fun ls hl => ?_)
        refine lv_iload hx hb dX8_sign_99 (lv_at hl 0 rfl) ?_
        refine lv_if_eq (tgt := 126) hx hb dX8_sign_101 (by decide) (fun _ => ?_) (fun h => absurd h (by decide))
        refine lv_iload_n hx hb dX8_sign_126 rfl (lv_at hl 2 rfl) ?_
        refine lv_if_eq (tgt := 135) hx hb dX8_sign_127 (by decide) (fun _ => ?_) (fun h => absurd h (by decide))
        refine lv_iload hx hb dX8_sign_135 (lv_at hl 1 rfl) ?_
        refine lv_if_eq (tgt := 145) hx hb dX8_sign_137 (by decide) (fun _ => ?_) (fun h => absurd h (by decide))
        refine lv_bipush (v := 8) hx hb dX8_sign_145 (by decide) ?_
        have k72 : M71 a0 3 = x62 := (Fr.kp (k := 3) f70 hk_a0 rfl).trans k63
        have q73 : (x68.toInt ≤ ln.toInt + 1 ∨ x68.toInt ≤ pa.toInt + 1) ∧ (¬ x62.toInt = 0 ∨ x68.toInt ≤ ln.toInt) ∧ (¬ x62.toInt = 0 ∨ fa.toInt = 0) := by
          have := (h_fa).1; have := (h_fa).2; have := (h_ln).1; have := (h_ln).2; have := (h_pa).1; have := (h_pa).2; have := (h13).1; have := (h13).2; have := (h50).1; have := (h50).2; have := (h61).1; have := (h61).2; have := (h66).1; have := (h66).2; omega
        exact tw_endi hx hb hr hlocks hK hT hS hQ (⟨(iv_mono (iv_c (c := 8) (n := 8) (by decide)) (by decide) (by decide)), ⟨x68, x62, k69, k72, (iv_mono h66 (by decide) (by decide)), h61, q73⟩⟩) dX8_sign_147
    · have q74 : x7.toInt = 62 := ti_eq c16
      have h75 : iv 62 62 x7 := ⟨by have := (h_x7).1; have := ((iv_c (c := 62) (n := 62) (by decide))).1; omega, by have := (h_x7).2; have := ((iv_c (c := 62) (n := 62) (by decide))).2; omega⟩
      refine lv_iconst (v := 1) hx hb dX8_sign_28 (by decide) ?_
      refine lv_goto (tgt := 33) hx hb dX8_sign_29 (by decide) ?_
      refine lv_istore (lv' := [(4, .int 1), (3, .int 0), (2, .int x10), (1, .int x7), (0, .ref (base + a0))]) hx hb dX8_sign_33 hl (by decide) rfl (fun ls hl => ?_)
      refine lv_iload_n hx hb dX8_sign_35 rfl (lv_at hl 1 rfl) ?_
      refine lv_if_ne (tgt := 59) hx hb dX8_sign_36 (by decide) (fun h => absurd h (by decide)) (fun _ => ?_)
      refine lv_iload hx hb dX8_sign_39 (lv_at hl 0 rfl) ?_
      refine lv_if_ne (tgt := 59) hx hb dX8_sign_41 (by decide) (fun _ => ?_) (fun h => absurd h (by decide))
      refine lv_aload_n hx hb dX8_sign_59 rfl (lv_at hl 4 rfl) ?_
      refine lv_iload_n hx hb dX8_sign_60 rfl (lv_at hl 2 rfl) ?_
      have k76 : M4 a0 3 = fa := (Fr.kp (k := 3) f1 hk_a0 rfl).trans k_fa
      refine tw_gov hS (md_runV (As := [.int x10]) (rest := []) hx hb hml hown hW hK hT hS.1 (t_X8_weigh l D cy tx base Z K N M4 Ra J3 hS.2.1 a0 hz_a0 hk_a0 x10 (iv_mono h13 (by decide) (by decide)) fa k76 (iv_mono h_fa (by decide) (by decide))) s_X8_88 ⟨rfl, rfl, ⟨Nat.le_of_ble_eq_true rfl, Nat.le_of_ble_eq_true rfl⟩, ⟨Nat.le_of_ble_eq_true rfl, Nat.le_of_ble_eq_true rfl⟩⟩ hz_a0 hk_a0 (by decide) rfl rfl hl.1 rfl (Nat.le_of_ble_eq_true rfl) dX8_sign_61) rfl rfl (fun H locs M80 R81 J79 hS f77 g78 E82 => ?_)
      have eR81 := Fr.nil g78 rfl
      subst eR81
      have p83 := E82
      obtain ⟨x85, k86, h84, q87⟩ := p83
      have k86 : M80 a0 3 = x85 := k86
      refine lv_aload_n hx hb dX8_sign_64 rfl (lv_at hl 4 rfl) ?_
      refine lv_dup hx hb dX8_sign_65 rfl ?_
      have k88 : M80 a0 2 = x10 := (Fr.kp (k := 2) f77 hk_a0 rfl).trans k11
      refine tw_getk hx hb hW hown hK hS f_X8_36_8 hz_a0 hk_a0 (v := x10) k88 dX8_sign_66 ?_
      refine lv_iconst (v := 1) hx hb dX8_sign_69 (by decide) ?_
      refine tw_iadd (lo := 1) (hi := 421) hx hb h13 (iv_c (c := 1) (n := 1) (by decide)) ⟨by decide, by decide⟩ ⟨by decide, by decide⟩ dX8_sign_70 (fun x91 e90 h89 => ?_)
      have e90 : x91.toInt = x10.toInt + 1 := e90
      refine tw_puti hx hb hW hown hK hS f_X8_36_8 hz_a0 hk_a0 rfl rfl (lo := 0) (hi := 1000) rfl (iv_mono h89 (by decide) (by decide)) rfl dX8_sign_71 (fun H locs M94 hS k92 f93 => ?_)
      refine lv_iload_n hx hb dX8_sign_74 rfl (lv_at hl 1 rfl) ?_
      refine lv_if_ne (tgt := 83) hx hb dX8_sign_75 (by decide) (fun h => absurd h (by decide)) (fun _ => ?_)
      refine lv_iload hx hb dX8_sign_78 (lv_at hl 0 rfl) ?_
      refine lv_if_eq (tgt := 96) hx hb dX8_sign_80 (by decide) (fun h => absurd h (by decide)) (fun _ => ?_)
      refine lv_aload_n hx hb dX8_sign_83 rfl (lv_at hl 4 rfl) ?_
      have k95 : M94 a0 1 = ln := ((Fr.kp (k := 1) f93 hk_a0 rfl).trans ((Fr.kp (k := 1) f77 hk_a0 rfl).trans (Fr.kp (k := 1) f1 hk_a0 rfl))).trans k_ln
      refine tw_goi hS (md_runU (As := []) (rest := []) hx hb hml hown hW hK hT hS.1 (t_X10_here l D cy tx base Z K N M94 Ra J79 hS.2.1 a0 hz_a0 hk_a0 tb k_tb ln k95 (iv_mono h_ln (by decide) (by decide)) x91 k92 (iv_mono h89 (by decide) (by decide))) s_X8_91_X8 ⟨rfl, rfl, ⟨Nat.le_of_ble_eq_true rfl, Nat.le_of_ble_eq_true rfl⟩, ⟨Nat.le_of_ble_eq_true rfl, Nat.le_of_ble_eq_true rfl⟩⟩ hz_a0 hk_a0 (by decide) rfl rfl hl.1 rfl (Nat.le_of_ble_eq_true rfl) dX8_sign_84) rfl rfl (fun x102 H locs M99 R100 J98 hS f96 g97 E101 => ?_)
      have eM99 := Fr.nil f96 rfl
      subst eM99
      have eR100 := Fr.nil g97 rfl
      subst eR100
      obtain ⟨h_x102, p103⟩ := E101
      refine lv_bipush (v := 61) hx hb dX8_sign_87 (by decide) ?_
      refine lv_icmp_ne (tgt := 96) hx hb dX8_sign_89 (by decide) (fun c104 => ?_) (fun c104 => ?_)
      · have q105 : ¬ x102.toInt = 61 := ti_ne c104
        refine lv_iconst (v := 0) hx hb dX8_sign_96 (by decide) ?_
        refine lv_istore (lv' := [(5, .int 0), (4, .int 1), (3, .int 0), (2, .int x10), (1, .int x7), (0, .ref (base + a0))]) hx hb dX8_sign_97 hl (by decide) rfl (fun ls hl => ?_)
        refine lv_iload hx hb dX8_sign_99 (lv_at hl 0 rfl) ?_
        refine lv_if_eq (tgt := 126) hx hb dX8_sign_101 (by decide) (fun _ => ?_) (fun h => absurd h (by decide))
        refine lv_iload_n hx hb dX8_sign_126 rfl (lv_at hl 2 rfl) ?_
        refine lv_if_eq (tgt := 135) hx hb dX8_sign_127 (by decide) (fun _ => ?_) (fun h => absurd h (by decide))
        refine lv_iload hx hb dX8_sign_135 (lv_at hl 1 rfl) ?_
        refine lv_if_eq (tgt := 145) hx hb dX8_sign_137 (by decide) (fun h => absurd h (by decide)) (fun _ => ?_)
        refine lv_bipush (v := 10) hx hb dX8_sign_140 (by decide) ?_
        refine lv_goto (tgt := 147) hx hb dX8_sign_142 (by decide) ?_
        have k106 : M94 a0 3 = x85 := (Fr.kp (k := 3) f93 hk_a0 rfl).trans k86
        have q107 : (x91.toInt ≤ ln.toInt + 1 ∨ x91.toInt ≤ pa.toInt + 1) ∧ (¬ x85.toInt = 0 ∨ x91.toInt ≤ ln.toInt) ∧ (¬ x85.toInt = 0 ∨ fa.toInt = 0) := by
          have := (h_fa).1; have := (h_fa).2; have := (h_ln).1; have := (h_ln).2; have := (h_pa).1; have := (h_pa).2; have := (h13).1; have := (h13).2; have := (h_x102).1; have := (h_x102).2; have := (h84).1; have := (h84).2; have := (h89).1; have := (h89).2; omega
        exact tw_endi hx hb hr hlocks hK hT hS hQ (⟨(iv_mono (iv_c (c := 10) (n := 10) (by decide)) (by decide) (by decide)), ⟨x91, x85, k92, k106, (iv_mono h89 (by decide) (by decide)), h84, q107⟩⟩) dX8_sign_147
      · have q108 : x102.toInt = 61 := ti_eq c104
        have h109 : iv 61 61 x102 := ⟨by have := (h_x102).1; have := ((iv_c (c := 61) (n := 61) (by decide))).1; omega, by have := (h_x102).2; have := ((iv_c (c := 61) (n := 61) (by decide))).2; omega⟩
        refine lv_iconst (v := 1) hx hb dX8_sign_92 (by decide) ?_
        refine lv_goto (tgt := 97) hx hb dX8_sign_93 (by decide) ?_
        refine lv_istore (lv' := [(5, .int 1), (4, .int 1), (3, .int 0), (2, .int x10), (1, .int x7), (0, .ref (base + a0))]) hx hb dX8_sign_97 hl (by decide) rfl (fun ls hl => ?_)
        refine lv_iload hx hb dX8_sign_99 (lv_at hl 0 rfl) ?_
        refine lv_if_eq (tgt := 126) hx hb dX8_sign_101 (by decide) (fun h => absurd h (by decide)) (fun _ => ?_)
        refine lv_aload_n hx hb dX8_sign_104 rfl (lv_at hl 5 rfl) ?_
        refine lv_dup hx hb dX8_sign_105 rfl ?_
        refine tw_getk hx hb hW hown hK hS f_X8_36_8 hz_a0 hk_a0 (v := x91) k92 dX8_sign_106 ?_
        refine lv_iconst (v := 1) hx hb dX8_sign_109 (by decide) ?_
        refine tw_iadd (lo := 2) (hi := 422) hx hb h89 (iv_c (c := 1) (n := 1) (by decide)) ⟨by decide, by decide⟩ ⟨by decide, by decide⟩ dX8_sign_110 (fun x112 e111 h110 => ?_)
        have e111 : x112.toInt = x91.toInt + 1 := e111
        refine tw_puti hx hb hW hown hK hS f_X8_36_8 hz_a0 hk_a0 rfl rfl (lo := 0) (hi := 1000) rfl (iv_mono h110 (by decide) (by decide)) rfl dX8_sign_111 (fun H locs M115 hS k113 f114 => ?_)
        refine lv_iload_n hx hb dX8_sign_114 rfl (lv_at hl 2 rfl) ?_
        refine lv_if_eq (tgt := 123) hx hb dX8_sign_115 (by decide) (fun _ => ?_) (fun h => absurd h (by decide))
        refine lv_bipush (v := 9) hx hb dX8_sign_123 (by decide) ?_
        have h116 : iv 0 421 x112 := by
          have := (h_fa).1; have := (h_fa).2; have := (h_ln).1; have := (h_ln).2; have := (h_pa).1; have := (h_pa).2; have := (h13).1; have := (h13).2; have := (h109).1; have := (h109).2; have := (h110).1; have := (h110).2; have := (h89).1; have := (h89).2; exact ⟨by omega, by omega⟩
        have k117 : M115 a0 3 = x85 := ((Fr.kp (k := 3) f114 hk_a0 rfl).trans (Fr.kp (k := 3) f93 hk_a0 rfl)).trans k86
        have q118 : (x112.toInt ≤ ln.toInt + 1 ∨ x112.toInt ≤ pa.toInt + 1) ∧ (¬ x85.toInt = 0 ∨ x112.toInt ≤ ln.toInt) ∧ (¬ x85.toInt = 0 ∨ fa.toInt = 0) := by
          have := (h_fa).1; have := (h_fa).2; have := (h_ln).1; have := (h_ln).2; have := (h_pa).1; have := (h_pa).2; have := (h13).1; have := (h13).2; have := (h109).1; have := (h109).2; have := (h110).1; have := (h110).2; have := (h84).1; have := (h84).2; have := (h89).1; have := (h89).2; omega
        exact tw_endi hx hb hr hlocks hK hT hS hQ (⟨(iv_mono (iv_c (c := 9) (n := 9) (by decide)) (by decide) (by decide)), ⟨x112, x85, k113, k117, h116, h84, q118⟩⟩) dX8_sign_125
  · have q119 : x7.toInt = 60 := ti_eq c14
    have h120 : iv 60 60 x7 := ⟨by have := (h_x7).1; have := ((iv_c (c := 60) (n := 60) (by decide))).1; omega, by have := (h_x7).2; have := ((iv_c (c := 60) (n := 60) (by decide))).2; omega⟩
    refine lv_iconst (v := 1) hx hb dX8_sign_16 (by decide) ?_
    refine lv_goto (tgt := 21) hx hb dX8_sign_17 (by decide) ?_
    refine lv_istore_n (lv' := [(3, .int 1), (2, .int x10), (1, .int x7), (0, .ref (base + a0))]) hx hb dX8_sign_21 rfl hl (by decide) rfl (fun ls hl => ?_)
    refine lv_iload_n hx hb dX8_sign_22 rfl (lv_at hl 2 rfl) ?_
    refine lv_bipush (v := 62) hx hb dX8_sign_23 (by decide) ?_
    refine lv_icmp_ne (tgt := 32) hx hb dX8_sign_25 (by decide) (fun c121 => ?_) (fun c121 => False.elim (by have q : x7.toInt = 62 := ti_eq c121; have := (h120).1; have := (h120).2; omega))
    have q122 : ¬ x7.toInt = 62 := ti_ne c121
    refine lv_iconst (v := 0) hx hb dX8_sign_32 (by decide) ?_
    refine lv_istore (lv' := [(4, .int 0), (3, .int 1), (2, .int x10), (1, .int x7), (0, .ref (base + a0))]) hx hb dX8_sign_33 hl (by decide) rfl (fun ls hl => ?_)
    refine lv_iload_n hx hb dX8_sign_35 rfl (lv_at hl 1 rfl) ?_
    refine lv_if_ne (tgt := 59) hx hb dX8_sign_36 (by decide) (fun _ => ?_) (fun h => absurd h (by decide))
    refine lv_aload_n hx hb dX8_sign_59 rfl (lv_at hl 4 rfl) ?_
    refine lv_iload_n hx hb dX8_sign_60 rfl (lv_at hl 2 rfl) ?_
    have k123 : M4 a0 3 = fa := (Fr.kp (k := 3) f1 hk_a0 rfl).trans k_fa
    refine tw_gov hS (md_runV (As := [.int x10]) (rest := []) hx hb hml hown hW hK hT hS.1 (t_X8_weigh l D cy tx base Z K N M4 Ra J3 hS.2.1 a0 hz_a0 hk_a0 x10 (iv_mono h13 (by decide) (by decide)) fa k123 (iv_mono h_fa (by decide) (by decide))) s_X8_88 ⟨rfl, rfl, ⟨Nat.le_of_ble_eq_true rfl, Nat.le_of_ble_eq_true rfl⟩, ⟨Nat.le_of_ble_eq_true rfl, Nat.le_of_ble_eq_true rfl⟩⟩ hz_a0 hk_a0 (by decide) rfl rfl hl.1 rfl (Nat.le_of_ble_eq_true rfl) dX8_sign_61) rfl rfl (fun H locs M127 R128 J126 hS f124 g125 E129 => ?_)
    have eR128 := Fr.nil g125 rfl
    subst eR128
    have p130 := E129
    obtain ⟨x132, k133, h131, q134⟩ := p130
    have k133 : M127 a0 3 = x132 := k133
    refine lv_aload_n hx hb dX8_sign_64 rfl (lv_at hl 4 rfl) ?_
    refine lv_dup hx hb dX8_sign_65 rfl ?_
    have k135 : M127 a0 2 = x10 := (Fr.kp (k := 2) f124 hk_a0 rfl).trans k11
    refine tw_getk hx hb hW hown hK hS f_X8_36_8 hz_a0 hk_a0 (v := x10) k135 dX8_sign_66 ?_
    refine lv_iconst (v := 1) hx hb dX8_sign_69 (by decide) ?_
    refine tw_iadd (lo := 1) (hi := 421) hx hb h13 (iv_c (c := 1) (n := 1) (by decide)) ⟨by decide, by decide⟩ ⟨by decide, by decide⟩ dX8_sign_70 (fun x138 e137 h136 => ?_)
    have e137 : x138.toInt = x10.toInt + 1 := e137
    refine tw_puti hx hb hW hown hK hS f_X8_36_8 hz_a0 hk_a0 rfl rfl (lo := 0) (hi := 1000) rfl (iv_mono h136 (by decide) (by decide)) rfl dX8_sign_71 (fun H locs M141 hS k139 f140 => ?_)
    refine lv_iload_n hx hb dX8_sign_74 rfl (lv_at hl 1 rfl) ?_
    refine lv_if_ne (tgt := 83) hx hb dX8_sign_75 (by decide) (fun _ => ?_) (fun h => absurd h (by decide))
    refine lv_aload_n hx hb dX8_sign_83 rfl (lv_at hl 4 rfl) ?_
    have k142 : M141 a0 1 = ln := ((Fr.kp (k := 1) f140 hk_a0 rfl).trans ((Fr.kp (k := 1) f124 hk_a0 rfl).trans (Fr.kp (k := 1) f1 hk_a0 rfl))).trans k_ln
    refine tw_goi hS (md_runU (As := []) (rest := []) hx hb hml hown hW hK hT hS.1 (t_X10_here l D cy tx base Z K N M141 Ra J126 hS.2.1 a0 hz_a0 hk_a0 tb k_tb ln k142 (iv_mono h_ln (by decide) (by decide)) x138 k139 (iv_mono h136 (by decide) (by decide))) s_X8_91_X8 ⟨rfl, rfl, ⟨Nat.le_of_ble_eq_true rfl, Nat.le_of_ble_eq_true rfl⟩, ⟨Nat.le_of_ble_eq_true rfl, Nat.le_of_ble_eq_true rfl⟩⟩ hz_a0 hk_a0 (by decide) rfl rfl hl.1 rfl (Nat.le_of_ble_eq_true rfl) dX8_sign_84) rfl rfl (fun x149 H locs M146 R147 J145 hS f143 g144 E148 => ?_)
    have eM146 := Fr.nil f143 rfl
    subst eM146
    have eR147 := Fr.nil g144 rfl
    subst eR147
    obtain ⟨h_x149, p150⟩ := E148
    refine lv_bipush (v := 61) hx hb dX8_sign_87 (by decide) ?_
    refine lv_icmp_ne (tgt := 96) hx hb dX8_sign_89 (by decide) (fun c151 => ?_) (fun c151 => ?_)
    · have q152 : ¬ x149.toInt = 61 := ti_ne c151
      refine lv_iconst (v := 0) hx hb dX8_sign_96 (by decide) ?_
      refine lv_istore (lv' := [(5, .int 0), (4, .int 0), (3, .int 1), (2, .int x10), (1, .int x7), (0, .ref (base + a0))]) hx hb dX8_sign_97 hl (by decide) rfl (fun ls hl => ?_)
      refine lv_iload hx hb dX8_sign_99 (lv_at hl 0 rfl) ?_
      refine lv_if_eq (tgt := 126) hx hb dX8_sign_101 (by decide) (fun _ => ?_) (fun h => absurd h (by decide))
      refine lv_iload_n hx hb dX8_sign_126 rfl (lv_at hl 2 rfl) ?_
      refine lv_if_eq (tgt := 135) hx hb dX8_sign_127 (by decide) (fun h => absurd h (by decide)) (fun _ => ?_)
      refine lv_bipush (v := 6) hx hb dX8_sign_130 (by decide) ?_
      refine lv_goto (tgt := 147) hx hb dX8_sign_132 (by decide) ?_
      have k153 : M141 a0 3 = x132 := (Fr.kp (k := 3) f140 hk_a0 rfl).trans k133
      have q154 : (x138.toInt ≤ ln.toInt + 1 ∨ x138.toInt ≤ pa.toInt + 1) ∧ (¬ x132.toInt = 0 ∨ x138.toInt ≤ ln.toInt) ∧ (¬ x132.toInt = 0 ∨ fa.toInt = 0) := by
        have := (h_fa).1; have := (h_fa).2; have := (h_ln).1; have := (h_ln).2; have := (h_pa).1; have := (h_pa).2; have := (h13).1; have := (h13).2; have := (h131).1; have := (h131).2; have := (h136).1; have := (h136).2; have := (h_x149).1; have := (h_x149).2; omega
      exact tw_endi hx hb hr hlocks hK hT hS hQ (⟨(iv_mono (iv_c (c := 6) (n := 6) (by decide)) (by decide) (by decide)), ⟨x138, x132, k139, k153, (iv_mono h136 (by decide) (by decide)), h131, q154⟩⟩) dX8_sign_147
    · have q155 : x149.toInt = 61 := ti_eq c151
      have h156 : iv 61 61 x149 := ⟨by have := (h_x149).1; have := ((iv_c (c := 61) (n := 61) (by decide))).1; omega, by have := (h_x149).2; have := ((iv_c (c := 61) (n := 61) (by decide))).2; omega⟩
      refine lv_iconst (v := 1) hx hb dX8_sign_92 (by decide) ?_
      refine lv_goto (tgt := 97) hx hb dX8_sign_93 (by decide) ?_
      refine lv_istore (lv' := [(5, .int 1), (4, .int 0), (3, .int 1), (2, .int x10), (1, .int x7), (0, .ref (base + a0))]) hx hb dX8_sign_97 hl (by decide) rfl (fun ls hl => ?_)
      refine lv_iload hx hb dX8_sign_99 (lv_at hl 0 rfl) ?_
      refine lv_if_eq (tgt := 126) hx hb dX8_sign_101 (by decide) (fun h => absurd h (by decide)) (fun _ => ?_)
      refine lv_aload_n hx hb dX8_sign_104 rfl (lv_at hl 5 rfl) ?_
      refine lv_dup hx hb dX8_sign_105 rfl ?_
      refine tw_getk hx hb hW hown hK hS f_X8_36_8 hz_a0 hk_a0 (v := x138) k139 dX8_sign_106 ?_
      refine lv_iconst (v := 1) hx hb dX8_sign_109 (by decide) ?_
      refine tw_iadd (lo := 2) (hi := 422) hx hb h136 (iv_c (c := 1) (n := 1) (by decide)) ⟨by decide, by decide⟩ ⟨by decide, by decide⟩ dX8_sign_110 (fun x159 e158 h157 => ?_)
      have e158 : x159.toInt = x138.toInt + 1 := e158
      refine tw_puti hx hb hW hown hK hS f_X8_36_8 hz_a0 hk_a0 rfl rfl (lo := 0) (hi := 1000) rfl (iv_mono h157 (by decide) (by decide)) rfl dX8_sign_111 (fun H locs M162 hS k160 f161 => ?_)
      refine lv_iload_n hx hb dX8_sign_114 rfl (lv_at hl 2 rfl) ?_
      refine lv_if_eq (tgt := 123) hx hb dX8_sign_115 (by decide) (fun h => absurd h (by decide)) (fun _ => ?_)
      refine lv_bipush (v := 7) hx hb dX8_sign_118 (by decide) ?_
      refine lv_goto (tgt := 125) hx hb dX8_sign_120 (by decide) ?_
      have h163 : iv 0 421 x159 := by
        have := (h_fa).1; have := (h_fa).2; have := (h_ln).1; have := (h_ln).2; have := (h_pa).1; have := (h_pa).2; have := (h13).1; have := (h13).2; have := (h136).1; have := (h136).2; have := (h156).1; have := (h156).2; have := (h157).1; have := (h157).2; exact ⟨by omega, by omega⟩
      have k164 : M162 a0 3 = x132 := ((Fr.kp (k := 3) f161 hk_a0 rfl).trans (Fr.kp (k := 3) f140 hk_a0 rfl)).trans k133
      have q165 : (x159.toInt ≤ ln.toInt + 1 ∨ x159.toInt ≤ pa.toInt + 1) ∧ (¬ x132.toInt = 0 ∨ x159.toInt ≤ ln.toInt) ∧ (¬ x132.toInt = 0 ∨ fa.toInt = 0) := by
        have := (h_fa).1; have := (h_fa).2; have := (h_ln).1; have := (h_ln).2; have := (h_pa).1; have := (h_pa).2; have := (h13).1; have := (h13).2; have := (h131).1; have := (h131).2; have := (h136).1; have := (h136).2; have := (h156).1; have := (h156).2; have := (h157).1; have := (h157).2; omega
      exact tw_endi hx hb hr hlocks hK hT hS hQ (⟨(iv_mono (iv_c (c := 7) (n := 7) (by decide)) (by decide) (by decide)), ⟨x159, x132, k160, k164, h163, h131, q165⟩⟩) dX8_sign_125
def Lt_X8_value : WL := [(9, 2, 5), (9, 6, 8), (14, 0, 2000000)]
def LRt_X8_value : WL := []
set_option maxRecDepth 100000 in
set_option maxHeartbeats 4000000 in
theorem t_X8_value (l : Launch) (D : va_G) (cy : Nat → ClassId) (tx : (Nat → Nat) × (Nat → Nat)) (base Z : Nat) (K N : Nat → Nat) (Ma : MT) (Ra : RT) (Ja : JT) (hTy : Ty Z K N Ma Ra) (a0 : Nat) (hz_a0 : a0 < Z) (hk_a0 : K a0 = 9) (tb : Nat) (k_tb : Ra a0 0 = some tb) (ln : Int32) (k_ln : Ma a0 1 = ln) (h_ln : iv 0 400 ln) (pa : Int32) (k_pa : Ma a0 2 = pa) (h_pa : iv 0 420 pa) (fa : Int32) (k_fa : Ma a0 3 = fa) (h_fa : iv (-2147483648) 2147483647 fa) (hg : ¬ fa.toInt = 0 ∨ pa.toInt ≤ ln.toInt) : Met l yX8_value [Cond.code yX8_value cX8_value 3 none] (md_rm 7 0 0) (va_Pc [.ref (base + a0)] (md_U D cy tx base Z K N Ma Ra Ja)) (mQv D cy tx base (fun u => TP Z K N Lt_X8_value LRt_X8_value Ma Ra u ∧ ((∃ x0 x1 : Int32, u.2.2.2.1 a0 2 = x0 ∧ u.2.2.2.1 a0 3 = x1 ∧ iv 0 420 x0 ∧ iv (-2147483648) 2147483647 x1 ∧ ((x0.toInt ≤ ln.toInt ∨ x0.toInt ≤ pa.toInt) ∧ (¬ x1.toInt = 0 ∨ x0.toInt ≤ ln.toInt) ∧ (¬ x1.toInt = 0 ∨ fa.toInt = 0)))))) 0 0 (fun q => base ≤ q) := by
  refine tw_ofW (L := Lt_X8_value) (LR := LRt_X8_value) (by decide) (Nat.le_of_ble_eq_true rfl) hTy ?_
  intro p e s m args below meth c Q ls hx hb hr hlocks hown hml hW hK hT hS hQ hl
  have hl : lv_has ls 3 [(0, .ref (base + a0))] := hl
  obtain ⟨hz_tb, hk_tb, hn_tb⟩ := hTy.refn hz_a0 hk_a0 (show rtR 9 0 = (13, 400, 1) from rfl) k_tb
  have hn_tb := hn_tb (by decide)
  refine lv_aload_n hx hb dX8_value_0 rfl (lv_at hl 0 rfl) ?_
  refine tw_goi hS (md_runU (As := []) (rest := []) hx hb hml hown hW hK hT hS.1 (t_X10_hereBehindBlanks l D cy tx base Z K N Ma Ra Ja hS.2.1 a0 hz_a0 hk_a0 tb k_tb ln k_ln (iv_mono h_ln (by decide) (by decide)) pa k_pa (iv_mono h_pa (by decide) (by decide))) s_X8_26_X8 ⟨rfl, rfl, ⟨Nat.le_of_ble_eq_true rfl, Nat.le_of_ble_eq_true rfl⟩, ⟨Nat.le_of_ble_eq_true rfl, Nat.le_of_ble_eq_true rfl⟩⟩ hz_a0 hk_a0 (by decide) rfl rfl hl.1 rfl (Nat.le_of_ble_eq_true rfl) dX8_value_1) rfl rfl (fun x7 H locs M4 R5 J3 hS f1 g2 E6 => ?_)
  have eR5 := Fr.nil g2 rfl
  subst eR5
  obtain ⟨h_x7, p8⟩ := E6
  obtain ⟨x10, k11, h9, q12⟩ := p8
  have k11 : M4 a0 2 = x10 := k11
  have h13 : iv 0 420 x10 := by
    have := (h_fa).1; have := (h_fa).2; have := (h_ln).1; have := (h_ln).2; have := (h_pa).1; have := (h_pa).2; have := (h9).1; have := (h9).2; exact ⟨by omega, by omega⟩
  refine lv_pop hx hb dX8_value_4 rfl ?_
  refine lv_aload_n hx hb dX8_value_5 rfl (lv_at hl 0 rfl) ?_
  refine tw_getk hx hb hW hown hK hS f_X8_36_8 hz_a0 hk_a0 (v := x10) k11 dX8_value_6 ?_
  refine lv_istore_n (lv' := [(1, .int x10), (0, .ref (base + a0))]) hx hb dX8_value_9 rfl hl (by decide) rfl (fun ls hl => ?_)
  refine lv_aload_n hx hb dX8_value_10 rfl (lv_at hl 1 rfl) ?_
  have k14 : M4 a0 1 = ln := (Fr.kp (k := 1) f1 hk_a0 rfl).trans k_ln
  refine tw_goi hS (md_runU (As := []) (rest := []) hx hb hml hown hW hK hT hS.1 (t_X10_isDigitHere l D cy tx base Z K N M4 Ra J3 hS.2.1 a0 hz_a0 hk_a0 tb k_tb ln k14 (iv_mono h_ln (by decide) (by decide)) x10 k11 (iv_mono h13 (by decide) (by decide))) s_X8_97_X8 ⟨rfl, rfl, ⟨Nat.le_of_ble_eq_true rfl, Nat.le_of_ble_eq_true rfl⟩, ⟨Nat.le_of_ble_eq_true rfl, Nat.le_of_ble_eq_true rfl⟩⟩ hz_a0 hk_a0 (by decide) rfl rfl hl.1 rfl (Nat.le_of_ble_eq_true rfl) dX8_value_11) rfl rfl (fun x21 H locs M18 R19 J17 hS f15 g16 E20 => ?_)
  have eM18 := Fr.nil f15 rfl
  subst eM18
  have eR19 := Fr.nil g16 rfl
  subst eR19
  obtain ⟨h_x21, p22⟩ := E20
  refine lv_if_eq (tgt := 33) hx hb dX8_value_14 (by decide) (fun c23 => ?_) (fun c23 => ?_)
  · have q24 : x21.toInt = 0 := ti_eq c23
    have h25 : iv 0 0 x21 := ⟨by have := (h_x21).1; have := ((iv_c (c := 0) (n := 0) (by decide))).1; omega, by have := (h_x21).2; have := ((iv_c (c := 0) (n := 0) (by decide))).2; omega⟩
    refine lv_aload_n hx hb dX8_value_33 rfl (lv_at hl 1 rfl) ?_
    refine va_ldcS hx hb hown hT.2.1.2.1 dX8_value_34 ?_
    have k26 : M4 a0 1 = ln := (Fr.kp (k := 1) f1 hk_a0 rfl).trans k_ln
    refine tw_goi hS (md_runU (As := [.ref (tx.1 1)]) (rest := []) hx hb hml hown hW hK hT hS.1 (t_X10_whichWord l D cy tx base Z K N M4 Ra J17 hS.2.1 a0 hz_a0 hk_a0 1 (by decide) tb k_tb ln k26 (iv_mono h_ln (by decide) (by decide)) x10 k11 (iv_mono h13 (by decide) (by decide))) s_X8_32_X8 ⟨rfl, rfl, ⟨Nat.le_of_ble_eq_true rfl, Nat.le_of_ble_eq_true rfl⟩, ⟨Nat.le_of_ble_eq_true rfl, Nat.le_of_ble_eq_true rfl⟩⟩ hz_a0 hk_a0 (by decide) rfl rfl hl.1 rfl (Nat.le_of_ble_eq_true rfl) dX8_value_36) rfl rfl (fun x33 H locs M30 R31 J29 hS f27 g28 E32 => ?_)
    have eR31 := Fr.nil g28 rfl
    subst eR31
    obtain ⟨h_x33, p34⟩ := E32
    obtain ⟨x36, k37, h35, q38⟩ := p34
    have k37 : M30 a0 4 = x36 := k37
    have h39 : iv 0 420 x36 := by
      have := (h_fa).1; have := (h_fa).2; have := (h_ln).1; have := (h_ln).2; have := (h_pa).1; have := (h_pa).2; have := (h13).1; have := (h13).2; have := (h35).1; have := (h35).2; exact ⟨by omega, by omega⟩
    refine lv_istore_n (lv' := [(2, .int x33), (1, .int x10), (0, .ref (base + a0))]) hx hb dX8_value_39 rfl hl (by decide) rfl (fun ls hl => ?_)
    refine lv_iload_n hx hb dX8_value_40 rfl (lv_at hl 0 rfl) ?_
    refine lv_iconst (v := (-1)) hx hb dX8_value_41 (by decide) ?_
    refine lv_icmp_ne (tgt := 54) hx hb dX8_value_42 (by decide) (fun c40 => ?_) (fun c40 => ?_)
    · have q41 : ¬ x33.toInt = (-1) := ti_ne c40
      refine lv_aload_n hx hb dX8_value_54 rfl (lv_at hl 2 rfl) ?_
      refine tw_gov hS (md_runU (As := []) (rest := []) hx hb hml hown hW hK hT hS.1 (t_X10_passWord l D cy tx base Z K N M30 Ra J29 hS.2.1 a0 hz_a0 hk_a0 x36 k37 (iv_mono h39 (by decide) (by decide))) s_X8_43_X8 ⟨rfl, rfl, ⟨Nat.le_of_ble_eq_true rfl, Nat.le_of_ble_eq_true rfl⟩, ⟨Nat.le_of_ble_eq_true rfl, Nat.le_of_ble_eq_true rfl⟩⟩ hz_a0 hk_a0 (by decide) rfl rfl hl.1 rfl (Nat.le_of_ble_eq_true rfl) dX8_value_55) rfl rfl (fun H locs M45 R46 J44 hS f42 g43 E47 => ?_)
      have eR46 := Fr.nil g43 rfl
      subst eR46
      have p48 := E47
      have k49 : M45 a0 2 = x36 := p48
      refine lv_aload_n hx hb dX8_value_58 rfl (lv_at hl 2 rfl) ?_
      refine lv_iconst (v := 1) hx hb dX8_value_59 (by decide) ?_
      refine lv_iload_n hx hb dX8_value_60 rfl (lv_at hl 0 rfl) ?_
      refine tw_goi hS (md_runV (As := [.int 1, .int x33]) (rest := []) hx hb hml hown hW hK hT hS.1 (t_X8_put l D cy tx base Z K N M45 Ra J44 hS.2.1 a0 hz_a0 hk_a0 1 (iv_mono (iv_c (c := 1) (n := 1) (by decide)) (by decide) (by decide)) x33 h_x33) s_X8_54 ⟨rfl, rfl, ⟨Nat.le_of_ble_eq_true rfl, Nat.le_of_ble_eq_true rfl⟩, ⟨Nat.le_of_ble_eq_true rfl, Nat.le_of_ble_eq_true rfl⟩⟩ hz_a0 hk_a0 (by decide) rfl rfl hl.1 rfl (Nat.le_of_ble_eq_true rfl) dX8_value_61) rfl rfl (fun x56 H locs M53 R54 J52 hS f50 g51 E55 => ?_)
      have eR54 := Fr.nil g51 rfl
      subst eR54
      have h_x56 := E55
      refine lv_pop hx hb dX8_value_64 rfl ?_
      refine lv_aload_n hx hb dX8_value_65 rfl (lv_at hl 2 rfl) ?_
      refine lv_iload_n hx hb dX8_value_66 rfl (lv_at hl 1 rfl) ?_
      have k57 : M53 a0 3 = fa := ((Fr.kp (k := 3) f50 hk_a0 rfl).trans ((Fr.kp (k := 3) f42 hk_a0 rfl).trans ((Fr.kp (k := 3) f27 hk_a0 rfl).trans (Fr.kp (k := 3) f1 hk_a0 rfl)))).trans k_fa
      refine tw_gov hS (md_runV (As := [.int x10]) (rest := []) hx hb hml hown hW hK hT hS.1 (t_X8_weigh l D cy tx base Z K N M53 Ra J52 hS.2.1 a0 hz_a0 hk_a0 x10 (iv_mono h13 (by decide) (by decide)) fa k57 (iv_mono h_fa (by decide) (by decide))) s_X8_88 ⟨rfl, rfl, ⟨Nat.le_of_ble_eq_true rfl, Nat.le_of_ble_eq_true rfl⟩, ⟨Nat.le_of_ble_eq_true rfl, Nat.le_of_ble_eq_true rfl⟩⟩ hz_a0 hk_a0 (by decide) rfl rfl hl.1 rfl (Nat.le_of_ble_eq_true rfl) dX8_value_67) rfl rfl (fun H locs M61 R62 J60 hS f58 g59 E63 => ?_)
      have eR62 := Fr.nil g59 rfl
      subst eR62
      have p64 := E63
      obtain ⟨x66, k67, h65, q68⟩ := p64
      have k67 : M61 a0 3 = x66 := k67
      have k69 : M61 a0 2 = x36 := ((Fr.kp (k := 2) f58 hk_a0 rfl).trans (Fr.kp (k := 2) f50 hk_a0 rfl)).trans k49
      have q70 : (x36.toInt ≤ ln.toInt ∨ x36.toInt ≤ pa.toInt) ∧ (¬ x66.toInt = 0 ∨ x36.toInt ≤ ln.toInt) ∧ (¬ x66.toInt = 0 ∨ fa.toInt = 0) := by
        have := (h_fa).1; have := (h_fa).2; have := (h_ln).1; have := (h_ln).2; have := (h_pa).1; have := (h_pa).2; have := (h13).1; have := (h13).2; have := (h39).1; have := (h39).2; have := (h65).1; have := (h65).2; omega
      exact tw_endv hx hb hr hlocks hK hT hS hQ (⟨x36, x66, k69, k67, h39, h65, q70⟩) dX8_value_70
    · have q71 : x33.toInt = (-1) := ti_eq c40
      have h72 : iv (-1) (-1) x33 := ⟨by have := (h_x33).1; have := ((iv_c (c := (-1)) (n := (-1)) (by decide))).1; omega, by have := (h_x33).2; have := ((iv_c (c := (-1)) (n := (-1)) (by decide))).2; omega⟩
      refine lv_aload_n hx hb dX8_value_45 rfl (lv_at hl 2 rfl) ?_
      refine lv_aload_n hx hb dX8_value_46 rfl (lv_at hl 2 rfl) ?_
      have k73 : M30 a0 2 = x10 := (Fr.kp (k := 2) f27 hk_a0 rfl).trans k11
      refine tw_getk hx hb hW hown hK hS f_X8_36_8 hz_a0 hk_a0 (v := x10) k73 dX8_value_47 ?_
      refine lv_iconst (v := 0) hx hb dX8_value_50 (by decide) ?_
      refine tw_gov hS (md_runU (As := [.int x10, .int 0]) (rest := []) hx hb hml hown hW hK hT hS.1 (t_X10_fail l D cy tx base Z K N M30 Ra J29 hS.2.1 a0 hz_a0 hk_a0 x10 (iv_mono h13 (by decide) (by decide)) 0 (iv_mono (iv_c (c := 0) (n := 0) (by decide)) (by decide) (by decide))) s_X8_39_X8 ⟨rfl, rfl, ⟨Nat.le_of_ble_eq_true rfl, Nat.le_of_ble_eq_true rfl⟩, ⟨Nat.le_of_ble_eq_true rfl, Nat.le_of_ble_eq_true rfl⟩⟩ hz_a0 hk_a0 (by decide) rfl rfl hl.1 rfl (Nat.le_of_ble_eq_true rfl) dX8_value_51) rfl rfl (fun H locs M77 R78 J76 hS f74 g75 E79 => ?_)
      have eR78 := Fr.nil g75 rfl
      subst eR78
      have p80 := E79
      obtain ⟨x82, k83, h81, q84⟩ := p80
      have k83 : M77 a0 3 = x82 := k83
      refine lv_aload_n hx hb dX8_value_54 rfl (lv_at hl 2 rfl) ?_
      have k85 : M77 a0 4 = x36 := (Fr.kp (k := 4) f74 hk_a0 rfl).trans k37
      refine tw_gov hS (md_runU (As := []) (rest := []) hx hb hml hown hW hK hT hS.1 (t_X10_passWord l D cy tx base Z K N M77 Ra J76 hS.2.1 a0 hz_a0 hk_a0 x36 k85 (iv_mono h39 (by decide) (by decide))) s_X8_43_X8 ⟨rfl, rfl, ⟨Nat.le_of_ble_eq_true rfl, Nat.le_of_ble_eq_true rfl⟩, ⟨Nat.le_of_ble_eq_true rfl, Nat.le_of_ble_eq_true rfl⟩⟩ hz_a0 hk_a0 (by decide) rfl rfl hl.1 rfl (Nat.le_of_ble_eq_true rfl) dX8_value_55) rfl rfl (fun H locs M89 R90 J88 hS f86 g87 E91 => ?_)
      have eR90 := Fr.nil g87 rfl
      subst eR90
      have p92 := E91
      have k93 : M89 a0 2 = x36 := p92
      refine lv_aload_n hx hb dX8_value_58 rfl (lv_at hl 2 rfl) ?_
      refine lv_iconst (v := 1) hx hb dX8_value_59 (by decide) ?_
      refine lv_iload_n hx hb dX8_value_60 rfl (lv_at hl 0 rfl) ?_
      refine tw_goi hS (md_runV (As := [.int 1, .int x33]) (rest := []) hx hb hml hown hW hK hT hS.1 (t_X8_put l D cy tx base Z K N M89 Ra J88 hS.2.1 a0 hz_a0 hk_a0 1 (iv_mono (iv_c (c := 1) (n := 1) (by decide)) (by decide) (by decide)) x33 (iv_mono h72 (by decide) (by decide))) s_X8_54 ⟨rfl, rfl, ⟨Nat.le_of_ble_eq_true rfl, Nat.le_of_ble_eq_true rfl⟩, ⟨Nat.le_of_ble_eq_true rfl, Nat.le_of_ble_eq_true rfl⟩⟩ hz_a0 hk_a0 (by decide) rfl rfl hl.1 rfl (Nat.le_of_ble_eq_true rfl) dX8_value_61) rfl rfl (fun x100 H locs M97 R98 J96 hS f94 g95 E99 => ?_)
      have eR98 := Fr.nil g95 rfl
      subst eR98
      have h_x100 := E99
      refine lv_pop hx hb dX8_value_64 rfl ?_
      refine lv_aload_n hx hb dX8_value_65 rfl (lv_at hl 2 rfl) ?_
      refine lv_iload_n hx hb dX8_value_66 rfl (lv_at hl 1 rfl) ?_
      have k101 : M97 a0 3 = x82 := ((Fr.kp (k := 3) f94 hk_a0 rfl).trans (Fr.kp (k := 3) f86 hk_a0 rfl)).trans k83
      refine tw_gov hS (md_runV (As := [.int x10]) (rest := []) hx hb hml hown hW hK hT hS.1 (t_X8_weigh l D cy tx base Z K N M97 Ra J96 hS.2.1 a0 hz_a0 hk_a0 x10 (iv_mono h13 (by decide) (by decide)) x82 k101 (iv_mono h81 (by decide) (by decide))) s_X8_88 ⟨rfl, rfl, ⟨Nat.le_of_ble_eq_true rfl, Nat.le_of_ble_eq_true rfl⟩, ⟨Nat.le_of_ble_eq_true rfl, Nat.le_of_ble_eq_true rfl⟩⟩ hz_a0 hk_a0 (by decide) rfl rfl hl.1 rfl (Nat.le_of_ble_eq_true rfl) dX8_value_67) rfl rfl (fun H locs M105 R106 J104 hS f102 g103 E107 => ?_)
      have eR106 := Fr.nil g103 rfl
      subst eR106
      have p108 := E107
      obtain ⟨x110, k111, h109, q112⟩ := p108
      have k111 : M105 a0 3 = x110 := k111
      have k113 : M105 a0 2 = x36 := ((Fr.kp (k := 2) f102 hk_a0 rfl).trans (Fr.kp (k := 2) f94 hk_a0 rfl)).trans k93
      have q114 : (x36.toInt ≤ ln.toInt ∨ x36.toInt ≤ pa.toInt) ∧ (¬ x110.toInt = 0 ∨ x36.toInt ≤ ln.toInt) ∧ (¬ x110.toInt = 0 ∨ fa.toInt = 0) := by
        have := (h_fa).1; have := (h_fa).2; have := (h_ln).1; have := (h_ln).2; have := (h_pa).1; have := (h_pa).2; have := (h13).1; have := (h13).2; have := (h109).1; have := (h109).2; have := (h39).1; have := (h39).2; have := (h81).1; have := (h81).2; omega
      exact tw_endv hx hb hr hlocks hK hT hS hQ (⟨x36, x110, k113, k111, h39, h109, q114⟩) dX8_value_70
  · have q115 : ¬ x21.toInt = 0 := ti_ne c23
    have h116 : iv 1 1 x21 := ⟨by have := (h_x21).1; have := ((iv_c (c := 0) (n := 0) (by decide))).1; have := ((iv_c (c := 0) (n := 0) (by decide))).2; omega, by have := (h_x21).2; have := ((iv_c (c := 0) (n := 0) (by decide))).1; have := ((iv_c (c := 0) (n := 0) (by decide))).2; omega⟩
    have q117 := p22 c23
    have h118 : iv 0 399 x10 := iv_ltL (y := ln) h13 h_ln q117 (by decide)
    refine lv_aload_n hx hb dX8_value_17 rfl (lv_at hl 1 rfl) ?_
    refine lv_iconst (v := 0) hx hb dX8_value_18 (by decide) ?_
    refine lv_aload_n hx hb dX8_value_19 rfl (lv_at hl 1 rfl) ?_
    refine lv_iconst (v := 0) hx hb dX8_value_20 (by decide) ?_
    refine lv_ldc hx hb hown (hW _ w_4_33 rfl) dX8_value_21 ?_
    have k119 : M4 a0 1 = ln := (Fr.kp (k := 1) f1 hk_a0 rfl).trans k_ln
    have k120 : M4 a0 3 = fa := (Fr.kp (k := 3) f1 hk_a0 rfl).trans k_fa
    refine tw_goi hS (md_runU (As := [.int 0, .int 99999]) (rest := [.int 0, .ref (base + a0)]) hx hb hml hown hW hK hT hS.1 (t_X10_number l D cy tx base Z K N M4 Ra J17 hS.2.1 a0 hz_a0 hk_a0 0 (iv_c (c := 0) (n := 0) (by decide)) 99999 (iv_c (c := 99999) (n := 99999) (by decide)) tb k_tb ln k119 (iv_mono h_ln (by decide) (by decide)) x10 k11 (iv_mono h118 (by decide) (by decide)) fa k120 (iv_mono h_fa (by decide) (by decide))) s_X8_101_X8 ⟨rfl, rfl, ⟨Nat.le_of_ble_eq_true rfl, Nat.le_of_ble_eq_true rfl⟩, ⟨Nat.le_of_ble_eq_true rfl, Nat.le_of_ble_eq_true rfl⟩⟩ hz_a0 hk_a0 (by decide) rfl rfl hl.1 rfl (Nat.le_of_ble_eq_true rfl) dX8_value_23) rfl rfl (fun x127 H locs M124 R125 J123 hS f121 g122 E126 => ?_)
    have eR125 := Fr.nil g122 rfl
    subst eR125
    obtain ⟨h_x127, p128⟩ := E126
    obtain ⟨x130, x132, k133, k134, h129, h131, q135⟩ := p128
    have k133 : M124 a0 2 = x130 := k133
    have k134 : M124 a0 3 = x132 := k134
    have h136 : iv 0 400 x130 := by
      have := (h_fa).1; have := (h_fa).2; have := (h_ln).1; have := (h_ln).2; have := (h_pa).1; have := (h_pa).2; have := (h118).1; have := (h118).2; have := (h129).1; have := (h129).2; have := (h131).1; have := (h131).2; exact ⟨by omega, by omega⟩
    refine tw_goi hS (md_runV (As := [.int 0, .int x127]) (rest := []) hx hb hml hown hW hK hT hS.1 (t_X8_put l D cy tx base Z K N M124 Ra J123 hS.2.1 a0 hz_a0 hk_a0 0 (iv_mono (iv_c (c := 0) (n := 0) (by decide)) (by decide) (by decide)) x127 h_x127) s_X8_54 ⟨rfl, rfl, ⟨Nat.le_of_ble_eq_true rfl, Nat.le_of_ble_eq_true rfl⟩, ⟨Nat.le_of_ble_eq_true rfl, Nat.le_of_ble_eq_true rfl⟩⟩ hz_a0 hk_a0 (by decide) rfl rfl hl.1 rfl (Nat.le_of_ble_eq_true rfl) dX8_value_26) rfl rfl (fun x143 H locs M140 R141 J139 hS f137 g138 E142 => ?_)
    have eR141 := Fr.nil g138 rfl
    subst eR141
    have h_x143 := E142
    refine lv_pop hx hb dX8_value_29 rfl ?_
    refine lv_goto (tgt := 65) hx hb dX8_value_30 (by decide) ?_
    refine lv_aload_n hx hb dX8_value_65 rfl (lv_at hl 1 rfl) ?_
    refine lv_iload_n hx hb dX8_value_66 rfl (lv_at hl 0 rfl) ?_
    have k144 : M140 a0 3 = x132 := (Fr.kp (k := 3) f137 hk_a0 rfl).trans k134
    refine tw_gov hS (md_runV (As := [.int x10]) (rest := []) hx hb hml hown hW hK hT hS.1 (t_X8_weigh l D cy tx base Z K N M140 Ra J139 hS.2.1 a0 hz_a0 hk_a0 x10 (iv_mono h118 (by decide) (by decide)) x132 k144 (iv_mono h131 (by decide) (by decide))) s_X8_88 ⟨rfl, rfl, ⟨Nat.le_of_ble_eq_true rfl, Nat.le_of_ble_eq_true rfl⟩, ⟨Nat.le_of_ble_eq_true rfl, Nat.le_of_ble_eq_true rfl⟩⟩ hz_a0 hk_a0 (by decide) rfl rfl hl.1 rfl (Nat.le_of_ble_eq_true rfl) dX8_value_67) rfl rfl (fun H locs M148 R149 J147 hS f145 g146 E150 => ?_)
    have eR149 := Fr.nil g146 rfl
    subst eR149
    have p151 := E150
    obtain ⟨x153, k154, h152, q155⟩ := p151
    have k154 : M148 a0 3 = x153 := k154
    have k156 : M148 a0 2 = x130 := ((Fr.kp (k := 2) f145 hk_a0 rfl).trans (Fr.kp (k := 2) f137 hk_a0 rfl)).trans k133
    have q157 : (x130.toInt ≤ ln.toInt ∨ x130.toInt ≤ pa.toInt) ∧ (¬ x153.toInt = 0 ∨ x130.toInt ≤ ln.toInt) ∧ (¬ x153.toInt = 0 ∨ fa.toInt = 0) := by
      have := (h_fa).1; have := (h_fa).2; have := (h_ln).1; have := (h_ln).2; have := (h_pa).1; have := (h_pa).2; have := (h118).1; have := (h118).2; have := (h136).1; have := (h136).2; have := (h131).1; have := (h131).2; have := (h152).1; have := (h152).2; omega
    exact tw_endv hx hb hr hlocks hK hT hS hQ (⟨x130, x153, k156, k154, (iv_mono h136 (by decide) (by decide)), h152, q157⟩) dX8_value_70
