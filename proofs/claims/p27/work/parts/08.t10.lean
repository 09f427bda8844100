def Lt_X12_bench : WL := [(12, 28, 29), (12, 30, 33), (14, 0, 2000000), (23, 3, 4), (23, 10, 20), (23, 30, 50), (30, 0, 2000000), (31, 0, 2000000)]
def LRt_X12_bench : WL := []
set_option maxRecDepth 100000 in
set_option maxHeartbeats 4000000 in
theorem t_X12_bench (l : Launch) (D : va_G) (cy : Nat → ClassId) (tx : (Nat → Nat) × (Nat → Nat)) (base Z : Nat) (K N : Nat → Nat) (Ma : MT) (Ra : RT) (Ja : JT) (hTy : Ty Z K N Ma Ra) (a0 : Nat) (hz_a0 : a0 < Z) (hk_a0 : K a0 = 12) (a1 : Int32) (h_a1 : iv (-2147483648) 2147483647 a1) (a2 : Int32) (h_a2 : iv (-2147483648) 2147483647 a2) : Met l yX12_bench [Cond.code yX12_bench cX12_bench 4 (some .int)] (md_rm 5 0 0) (va_Pc [.ref (base + a0), .int a1, .int a2] (md_U D cy tx base Z K N Ma Ra Ja)) (mQi D cy tx base (fun r u => TP Z K N Lt_X12_bench LRt_X12_bench Ma Ra u ∧ (iv (-2) 2 r))) 0 0 (fun q => base ≤ q) := by
  refine tw_ofW (L := Lt_X12_bench) (LR := LRt_X12_bench) (by decide) (Nat.le_of_ble_eq_true rfl) hTy ?_
  intro p e s m args below meth c Q ls hx hb hr hlocks hown hml hW hK hT hS hQ hl
  have hl : lv_has ls 4 [(0, .ref (base + a0)), (1, .int a1), (2, .int a2)] := hl
  refine lv_aload_n hx hb dX12_bench_0 rfl (lv_at hl 0 rfl) ?_
  refine tw_getr hx hb hW hown hK hS f_X12_45_11 hz_a0 hk_a0 (t := 23) (n := 226) rfl dX12_bench_1 (fun b1 k2 hz_b1 hk_b1 hn_b1 => ?_)
  have hn_b1 := hn_b1 (by decide)
  refine lv_iconst (v := 0) hx hb dX12_bench_4 (by decide) ?_
  refine tw_iald hx hb hK hS hz_b1 hk_b1 (Or.inr (by decide)) hn_b1 (lo := 0) (hi := 10) (iv_c (c := 0) (n := 0) (by decide)) ⟨by decide, by decide⟩ (rg_c (k0 := 0) rfl rfl rfl) dX12_bench_5 (fun x5 k4 h3 => ?_)
  refine lv_if_eq (tgt := 31) hx hb dX12_bench_6 (by decide) (fun c6 => ?_) (fun c6 => ?_)
  · have q7 : x5.toInt = 0 := ti_eq c6
    have h8 : iv 0 0 x5 := ⟨by have := (h3).1; have := ((iv_c (c := 0) (n := 0) (by decide))).1; omega, by have := (h3).2; have := ((iv_c (c := 0) (n := 0) (by decide))).2; omega⟩
    refine lv_aload_n hx hb dX12_bench_31 rfl (lv_at hl 0 rfl) ?_
    refine lv_iconst (v := 0) hx hb dX12_bench_32 (by decide) ?_
    refine tw_goi hS (md_runV (As := [.int 0]) (rest := []) hx hb hml hown hW hK hT hS.1 (t_X12_refuses l D cy tx base Z K N Ma Ra Ja hS.2.1 a0 hz_a0 hk_a0 0 (iv_mono (iv_c (c := 0) (n := 0) (by decide)) (by decide) (by decide))) s_X12_338 ⟨rfl, rfl, ⟨Nat.le_of_ble_eq_true rfl, Nat.le_of_ble_eq_true rfl⟩, ⟨Nat.le_of_ble_eq_true rfl, Nat.le_of_ble_eq_true rfl⟩⟩ hz_a0 hk_a0 (by decide) rfl rfl hl.1 rfl (Nat.le_of_ble_eq_true rfl) dX12_bench_33) rfl rfl (fun x15 H locs M11 R12 J13 hS f9 g10 E14 => ?_)
    have h_x15 := E14
    exact tw_endi hx hb hr hlocks hK hT hS hQ ((iv_mono h_x15 (by decide) (by decide))) dX12_bench_36
  · have q16 : ¬ x5.toInt = 0 := ti_ne c6
    have h17 : iv 1 10 x5 := ⟨by have := (h3).1; have := ((iv_c (c := 0) (n := 0) (by decide))).1; have := ((iv_c (c := 0) (n := 0) (by decide))).2; omega, by have := (h3).2; have := ((iv_c (c := 0) (n := 0) (by decide))).1; have := ((iv_c (c := 0) (n := 0) (by decide))).2; omega⟩
    refine lv_aload_n hx hb dX12_bench_9 rfl (lv_at hl 0 rfl) ?_
    refine lv_iload_n hx hb dX12_bench_10 rfl (lv_at hl 1 rfl) ?_
    refine tw_goi hS (md_runV (As := [.int a1]) (rest := []) hx hb hml hown hW hK hT hS.1 (t_X12_isSet l D cy tx base Z K N Ma Ra Ja hS.2.1 a0 hz_a0 hk_a0 a1 h_a1) s_X12_404 ⟨rfl, rfl, ⟨Nat.le_of_ble_eq_true rfl, Nat.le_of_ble_eq_true rfl⟩, ⟨Nat.le_of_ble_eq_true rfl, Nat.le_of_ble_eq_true rfl⟩⟩ hz_a0 hk_a0 (by decide) rfl rfl hl.1 rfl (Nat.le_of_ble_eq_true rfl) dX12_bench_11) rfl rfl (fun x24 H locs M20 R21 J22 hS f18 g19 E23 => ?_)
    have h_x24 := E23
    refine lv_if_eq (tgt := 31) hx hb dX12_bench_14 (by decide) (fun c25 => ?_) (fun c25 => ?_)
    · have q26 : x24.toInt = 0 := ti_eq c25
      have h27 : iv 0 0 x24 := ⟨by have := (h_x24).1; have := ((iv_c (c := 0) (n := 0) (by decide))).1; omega, by have := (h_x24).2; have := ((iv_c (c := 0) (n := 0) (by decide))).2; omega⟩
      refine lv_aload_n hx hb dX12_bench_31 rfl (lv_at hl 0 rfl) ?_
      refine lv_iconst (v := 0) hx hb dX12_bench_32 (by decide) ?_
      refine tw_goi hS (md_runV (As := [.int 0]) (rest := []) hx hb hml hown hW hK hT hS.1 (t_X12_refuses l D cy tx base Z K N M20 R21 J22 hS.2.1 a0 hz_a0 hk_a0 0 (iv_mono (iv_c (c := 0) (n := 0) (by decide)) (by decide) (by decide))) s_X12_338 ⟨rfl, rfl, ⟨Nat.le_of_ble_eq_true rfl, Nat.le_of_ble_eq_true rfl⟩, ⟨Nat.le_of_ble_eq_true rfl, Nat.le_of_ble_eq_true rfl⟩⟩ hz_a0 hk_a0 (by decide) rfl rfl hl.1 rfl (Nat.le_of_ble_eq_true rfl) dX12_bench_33) rfl rfl (fun x34 H locs M30 R31 J32 hS f28 g29 E33 => ?_)
      have h_x34 := E33
      exact tw_endi hx hb hr hlocks hK hT hS hQ ((iv_mono h_x34 (by decide) (by decide))) dX12_bench_36
    · have q35 : ¬ x24.toInt = 0 := ti_ne c25
      have h36 : iv 1 1 x24 := ⟨by have := (h_x24).1; have := ((iv_c (c := 0) (n := 0) (by decide))).1; have := ((iv_c (c := 0) (n := 0) (by decide))).2; omega, by have := (h_x24).2; have := ((iv_c (c := 0) (n := 0) (by decide))).1; have := ((iv_c (c := 0) (n := 0) (by decide))).2; omega⟩
      refine lv_aload_n hx hb dX12_bench_17 rfl (lv_at hl 0 rfl) ?_
      refine lv_iload_n hx hb dX12_bench_18 rfl (lv_at hl 2 rfl) ?_
      refine tw_goi hS (md_runV (As := [.int a2]) (rest := []) hx hb hml hown hW hK hT hS.1 (t_X12_isSet l D cy tx base Z K N M20 R21 J22 hS.2.1 a0 hz_a0 hk_a0 a2 h_a2) s_X12_404 ⟨rfl, rfl, ⟨Nat.le_of_ble_eq_true rfl, Nat.le_of_ble_eq_true rfl⟩, ⟨Nat.le_of_ble_eq_true rfl, Nat.le_of_ble_eq_true rfl⟩⟩ hz_a0 hk_a0 (by decide) rfl rfl hl.1 rfl (Nat.le_of_ble_eq_true rfl) dX12_bench_19) rfl rfl (fun x43 H locs M39 R40 J41 hS f37 g38 E42 => ?_)
      have h_x43 := E42
      refine lv_if_eq (tgt := 31) hx hb dX12_bench_22 (by decide) (fun c44 => ?_) (fun c44 => ?_)
      · have q45 : x43.toInt = 0 := ti_eq c44
        have h46 : iv 0 0 x43 := ⟨by have := (h_x43).1; have := ((iv_c (c := 0) (n := 0) (by decide))).1; omega, by have := (h_x43).2; have := ((iv_c (c := 0) (n := 0) (by decide))).2; omega⟩
        refine lv_aload_n hx hb dX12_bench_31 rfl (lv_at hl 0 rfl) ?_
        refine lv_iconst (v := 0) hx hb dX12_bench_32 (by decide) ?_
        refine tw_goi hS (md_runV (As := [.int 0]) (rest := []) hx hb hml hown hW hK hT hS.1 (t_X12_refuses l D cy tx base Z K N M39 R40 J41 hS.2.1 a0 hz_a0 hk_a0 0 (iv_mono (iv_c (c := 0) (n := 0) (by decide)) (by decide) (by decide))) s_X12_338 ⟨rfl, rfl, ⟨Nat.le_of_ble_eq_true rfl, Nat.le_of_ble_eq_true rfl⟩, ⟨Nat.le_of_ble_eq_true rfl, Nat.le_of_ble_eq_true rfl⟩⟩ hz_a0 hk_a0 (by decide) rfl rfl hl.1 rfl (Nat.le_of_ble_eq_true rfl) dX12_bench_33) rfl rfl (fun x53 H locs M49 R50 J51 hS f47 g48 E52 => ?_)
        have h_x53 := E52
        exact tw_endi hx hb hr hlocks hK hT hS hQ ((iv_mono h_x53 (by decide) (by decide))) dX12_bench_36
      · have q54 : ¬ x43.toInt = 0 := ti_ne c44
        have h55 : iv 1 1 x43 := ⟨by have := (h_x43).1; have := ((iv_c (c := 0) (n := 0) (by decide))).1; have := ((iv_c (c := 0) (n := 0) (by decide))).2; omega, by have := (h_x43).2; have := ((iv_c (c := 0) (n := 0) (by decide))).1; have := ((iv_c (c := 0) (n := 0) (by decide))).2; omega⟩
        refine lv_iload_n hx hb dX12_bench_25 rfl (lv_at hl 1 rfl) ?_
        refine lv_iload_n hx hb dX12_bench_26 rfl (lv_at hl 2 rfl) ?_
        refine lv_iand hx hb dX12_bench_27 ?_
        refine tw_top (fun x57 => ?_)
        have h56 := iv_any x57
        refine lv_if_eq (tgt := 37) hx hb dX12_bench_28 (by decide) (fun c58 => ?_) (fun c58 => ?_)
        · have q59 : x57.toInt = 0 := ti_eq c58
          have h60 : iv 0 0 x57 := ⟨by have := (h56).1; have := ((iv_c (c := 0) (n := 0) (by decide))).1; omega, by have := (h56).2; have := ((iv_c (c := 0) (n := 0) (by decide))).2; omega⟩
          refine lv_aload_n hx hb dX12_bench_37 rfl (lv_at hl 0 rfl) ?_
          have k61 : R40 a0 25 = some b1 := ((Fr.kp (k := 25) g38 hk_a0 rfl).trans (Fr.kp (k := 25) g19 hk_a0 rfl)).trans k2
          obtain ⟨x64, k62⟩ : ∃ x, M39 b1 (4 : Int32).toNatClampNeg = x := ⟨_, rfl⟩
          have h63 : iv 0 8 x64 := by rw [← k62]; exact hS.2.1.int hz_b1 hk_b1 (show rgI 23 (4 : Int32).toNatClampNeg = (0, 8) from rfl)
          refine tw_gov hS (md_runV (As := []) (rest := []) hx hb hml hown hW hK hT hS.1 (t_X12_begins l D cy tx base Z K N M39 R40 J41 hS.2.1 a0 hz_a0 hk_a0 b1 k61 x64 k62 (iv_mono h63 (by decide) (by decide))) s_X12_393 ⟨rfl, rfl, ⟨Nat.le_of_ble_eq_true rfl, Nat.le_of_ble_eq_true rfl⟩, ⟨Nat.le_of_ble_eq_true rfl, Nat.le_of_ble_eq_true rfl⟩⟩ hz_a0 hk_a0 (by decide) rfl rfl hl.1 rfl (Nat.le_of_ble_eq_true rfl) dX12_bench_38) rfl rfl (fun H locs M67 R68 J69 hS f65 g66 E70 => ?_)
          have p71 := E70
          have k72 : M67 a0 30 = x64 := p71
          refine lv_aload_n hx hb dX12_bench_41 rfl (lv_at hl 0 rfl) ?_
          refine lv_iload_n hx hb dX12_bench_42 rfl (lv_at hl 1 rfl) ?_
          refine lv_aload_n hx hb dX12_bench_43 rfl (lv_at hl 0 rfl) ?_
          have k73 : R68 a0 25 = some b1 := ((Fr.kp (k := 25) g66 hk_a0 rfl).trans ((Fr.kp (k := 25) g38 hk_a0 rfl).trans (Fr.kp (k := 25) g19 hk_a0 rfl))).trans k2
          refine tw_getrk hx hb hW hown hK hS f_X12_45_11 hz_a0 hk_a0 (b := b1) k73 dX12_bench_44 ?_
          refine lv_iconst (v := 2) hx hb dX12_bench_47 (by decide) ?_
          refine tw_iald hx hb hK hS hz_b1 hk_b1 (Or.inr (by decide)) hn_b1 (lo := (-2147483648)) (hi := 2147483647) (iv_c (c := 2) (n := 2) (by decide)) ⟨by decide, by decide⟩ (rg_c (k0 := 2) rfl rfl rfl) dX12_bench_48 (fun x76 k75 h74 => ?_)
          refine lv_iand hx hb dX12_bench_49 ?_
          refine tw_top (fun x78 => ?_)
          have h77 := iv_any x78
          refine tw_puti hx hb hW hown hK hS f_X12_364_11 hz_a0 hk_a0 rfl rfl (lo := (-2147483648)) (hi := 2147483647) rfl h77 rfl dX12_bench_50 (fun H locs M81 hS k79 f80 => ?_)
          refine lv_aload_n hx hb dX12_bench_53 rfl (lv_at hl 0 rfl) ?_
          refine lv_iload_n hx hb dX12_bench_54 rfl (lv_at hl 2 rfl) ?_
          refine lv_aload_n hx hb dX12_bench_55 rfl (lv_at hl 0 rfl) ?_
          have k82 : R68 a0 25 = some b1 := ((Fr.kp (k := 25) g66 hk_a0 rfl).trans ((Fr.kp (k := 25) g38 hk_a0 rfl).trans (Fr.kp (k := 25) g19 hk_a0 rfl))).trans k2
          refine tw_getrk hx hb hW hown hK hS f_X12_45_11 hz_a0 hk_a0 (b := b1) k82 dX12_bench_56 ?_
          refine lv_iconst (v := 2) hx hb dX12_bench_59 (by decide) ?_
          have k83 : M81 b1 (2 : Int32).toNatClampNeg = x76 := (Fr.kp (k := (2 : Int32).toNatClampNeg) f80 hk_b1 rfl).trans k75
          refine tw_ialk hx hb hK hS hz_b1 hk_b1 (Or.inr (by decide)) hn_b1 (iv_c (c := 2) (n := 2) (by decide)) ⟨by decide, by decide⟩ (v := x76) k83 dX12_bench_60 ?_
          refine lv_iand hx hb dX12_bench_61 ?_
          refine tw_top (fun x85 => ?_)
          have h84 := iv_any x85
          refine tw_puti hx hb hW hown hK hS f_X12_367_11 hz_a0 hk_a0 rfl rfl (lo := (-2147483648)) (hi := 2147483647) rfl h84 rfl dX12_bench_62 (fun H locs M88 hS k86 f87 => ?_)
          refine lv_aload_n hx hb dX12_bench_65 rfl (lv_at hl 0 rfl) ?_
          refine tw_goi hS (md_runV (As := []) (rest := []) hx hb hml hown hW hK hT hS.1 (t_X12_settles_ l D cy tx base Z K N M88 R68 J69 hS.2.1 a0 hz_a0 hk_a0) s_X12_399 ⟨rfl, rfl, ⟨Nat.le_of_ble_eq_true rfl, Nat.le_of_ble_eq_true rfl⟩, ⟨Nat.le_of_ble_eq_true rfl, Nat.le_of_ble_eq_true rfl⟩⟩ hz_a0 hk_a0 (by decide) rfl rfl hl.1 rfl (Nat.le_of_ble_eq_true rfl) dX12_bench_66) rfl rfl (fun x95 H locs M91 R92 J93 hS f89 g90 E94 => ?_)
          have h_x95 := E94
          refine lv_istore_n (lv' := [(3, .int x95), (0, .ref (base + a0)), (1, .int a1), (2, .int a2)]) hx hb dX12_bench_69 rfl hl (by decide) rfl (fun ls hl => ?_)
          refine lv_aload_n hx hb dX12_bench_70 rfl (lv_at hl 1 rfl) ?_
          refine tw_gov hS (md_runV (As := []) (rest := []) hx hb hml hown hW hK hT hS.1 (t_X12_stays l D cy tx base Z K N M91 R92 J93 hS.2.1 a0 hz_a0 hk_a0) s_X12_401 ⟨rfl, rfl, ⟨Nat.le_of_ble_eq_true rfl, Nat.le_of_ble_eq_true rfl⟩, ⟨Nat.le_of_ble_eq_true rfl, Nat.le_of_ble_eq_true rfl⟩⟩ hz_a0 hk_a0 (by decide) rfl rfl hl.1 rfl (Nat.le_of_ble_eq_true rfl) dX12_bench_71) rfl rfl (fun H locs M98 R99 J100 hS f96 g97 E101 => ?_)
          refine lv_iload_n hx hb dX12_bench_74 rfl (lv_at hl 0 rfl) ?_
          exact tw_endi hx hb hr hlocks hK hT hS hQ ((iv_mono h_x95 (by decide) (by decide))) dX12_bench_75
        · have q102 : ¬ x57.toInt = 0 := ti_ne c58
          refine lv_aload_n hx hb dX12_bench_31 rfl (lv_at hl 0 rfl) ?_
          refine lv_iconst (v := 0) hx hb dX12_bench_32 (by decide) ?_
          refine tw_goi hS (md_runV (As := [.int 0]) (rest := []) hx hb hml hown hW hK hT hS.1 (t_X12_refuses l D cy tx base Z K N M39 R40 J41 hS.2.1 a0 hz_a0 hk_a0 0 (iv_mono (iv_c (c := 0) (n := 0) (by decide)) (by decide) (by decide))) s_X12_338 ⟨rfl, rfl, ⟨Nat.le_of_ble_eq_true rfl, Nat.le_of_ble_eq_true rfl⟩, ⟨Nat.le_of_ble_eq_true rfl, Nat.le_of_ble_eq_true rfl⟩⟩ hz_a0 hk_a0 (by decide) rfl rfl hl.1 rfl (Nat.le_of_ble_eq_true rfl) dX12_bench_33) rfl rfl (fun x109 H locs M105 R106 J107 hS f103 g104 E108 => ?_)
          have h_x109 := E108
          exact tw_endi hx hb hr hlocks hK hT hS hQ ((iv_mono h_x109 (by decide) (by decide))) dX12_bench_36
def Lt_X12_in : WL := []
def LRt_X12_in : WL := []
set_option maxRecDepth 100000 in
set_option maxHeartbeats 4000000 in
theorem t_X12_in (l : Launch) (D : va_G) (cy : Nat → ClassId) (tx : (Nat → Nat) × (Nat → Nat)) (base Z : Nat) (K N : Nat → Nat) (Ma : MT) (Ra : RT) (Ja : JT) (hTy : Ty Z K N Ma Ra) (a0 : Int64) (a1 : Int64) (a2 : Int64) : Met l yX12_in [Cond.code yX12_in cX12_in 6 (some .boolean)] (md_rm 1 0 0) (va_Pc [.long a0, .long a1, .long a2] (md_U D cy tx base Z K N Ma Ra Ja)) (mQi D cy tx base (fun r u => TP Z K N Lt_X12_in LRt_X12_in Ma Ra u ∧ (iv 0 1 r ∧ (¬ r = 0 → a1.toInt ≤ a0.toInt ∧ a0.toInt ≤ a2.toInt)))) 0 0 (fun q => base ≤ q) := by
  refine tw_ofW (L := Lt_X12_in) (LR := LRt_X12_in) (by decide) (Nat.le_of_ble_eq_true rfl) hTy ?_
  intro p e s m args below meth c Q ls hx hb hr hlocks hown hml hW hK hT hS hQ hl
  have hl : lv_has ls 6 [(0, .long a0), (2, .long a1), (4, .long a2)] := hl
  refine lv_lload_n hx hb dX12_in_0 rfl (lv_at hl 0 rfl) ?_
  refine lv_lload_n hx hb dX12_in_1 rfl (lv_at hl 1 rfl) ?_
  refine W.lcmp hx hb dX12_in_2 ?_
  refine lv_topi (fun x3 e2 => ?_)
  have h1 := iv_any x3
  refine lv_if_lt (tgt := 17) hx hb dX12_in_3 (by decide) (fun c4 => ?_) (fun c4 => ?_)
  · have q5 : x3.toInt < 0 := ti_lt c4
    have h6 : iv (-2147483648) (-1) x3 := iv_ltL (y := 0) h1 (iv_c (c := 0) (n := 0) (by decide)) q5 (by decide)
    refine lv_iconst (v := 0) hx hb dX12_in_17 (by decide) ?_
    exact tw_endz hx hb hr hlocks hK hT hS hQ rfl (⟨(iv_mono (iv_c (c := 0) (n := 0) (by decide)) (by decide) (by decide)), (fun h => absurd rfl h)⟩) dX12_in_18
  · have q7 : 0 ≤ x3.toInt := ti_nlt c4
    have n8 := lcm_ge e2 q7
    have h9 : iv 0 2147483647 x3 := iv_geL (y := 0) h1 (iv_c (c := 0) (n := 0) (by decide)) q7 (by decide)
    refine lv_lload_n hx hb dX12_in_6 rfl (lv_at hl 0 rfl) ?_
    refine lv_lload hx hb dX12_in_7 (lv_at hl 2 rfl) ?_
    refine W.lcmp hx hb dX12_in_9 ?_
    refine lv_topi (fun x12 e11 => ?_)
    have h10 := iv_any x12
    refine lv_if_gt (tgt := 17) hx hb dX12_in_10 (by decide) (fun c13 => ?_) (fun c13 => ?_)
    · have q14 : 0 < x12.toInt := ti_lt c13
      have h15 : iv 1 2147483647 x12 := iv_gtL (y := 0) h10 (iv_c (c := 0) (n := 0) (by decide)) q14 (by decide)
      refine lv_iconst (v := 0) hx hb dX12_in_17 (by decide) ?_
      exact tw_endz hx hb hr hlocks hK hT hS hQ rfl (⟨(iv_mono (iv_c (c := 0) (n := 0) (by decide)) (by decide) (by decide)), (fun h => absurd rfl h)⟩) dX12_in_18
    · have q16 : x12.toInt ≤ 0 := ti_nlt c13
      have n17 := lcm_le e11 q16
      have h18 : iv (-2147483648) 0 x12 := iv_leL (y := 0) h10 (iv_c (c := 0) (n := 0) (by decide)) q16 (by decide)
      refine lv_iconst (v := 1) hx hb dX12_in_13 (by decide) ?_
      refine lv_goto (tgt := 18) hx hb dX12_in_14 (by decide) ?_
      exact tw_endz hx hb hr hlocks hK hT hS hQ rfl (⟨(iv_mono (iv_c (c := 1) (n := 1) (by decide)) (by decide) (by decide)), (fun _ => ⟨n8, n17⟩)⟩) dX12_in_18
def Lt_X12_bend : WL := [(14, 0, 2000000), (23, 20, 30)]
def LRt_X12_bend : WL := []
set_option maxRecDepth 100000 in
set_option maxHeartbeats 4000000 in
theorem t_X12_bend (l : Launch) (D : va_G) (cy : Nat → ClassId) (tx : (Nat → Nat) × (Nat → Nat)) (base Z : Nat) (K N : Nat → Nat) (Ma : MT) (Ra : RT) (Ja : JT) (hTy : Ty Z K N Ma Ra) (a0 : Nat) (hz_a0 : a0 < Z) (hk_a0 : K a0 = 12) (a1 : Int32) (h_a1 : iv (-2147483648) 2147483647 a1) (a2 : Int32) (h_a2 : iv (-2147483648) 2147483647 a2) : Met l yX12_bend [Cond.code yX12_bend cX12_bend 4 (some .int)] (md_rm 2 0 0) (va_Pc [.ref (base + a0), .int a1, .int a2] (md_U D cy tx base Z K N Ma Ra Ja)) (mQi D cy tx base (fun r u => TP Z K N Lt_X12_bend LRt_X12_bend Ma Ra u ∧ (iv (-2147483648) 2147483647 r))) 0 0 (fun q => base ≤ q) := by
  refine tw_ofW (L := Lt_X12_bend) (LR := LRt_X12_bend) (by decide) (Nat.le_of_ble_eq_true rfl) hTy ?_
  intro p e s m args below meth c Q ls hx hb hr hlocks hown hml hW hK hT hS hQ hl
  have hl : lv_has ls 4 [(0, .ref (base + a0)), (1, .int a1), (2, .int a2)] := hl
  refine lv_aload_n hx hb dX12_bend_0 rfl (lv_at hl 0 rfl) ?_
  refine lv_iload_n hx hb dX12_bend_1 rfl (lv_at hl 1 rfl) ?_
  refine tw_goi hS (md_runV (As := [.int a1]) (rest := []) hx hb hml hown hW hK hT hS.1 (t_X12_isMember l D cy tx base Z K N Ma Ra Ja hS.2.1 a0 hz_a0 hk_a0 a1 h_a1) s_X12_319 ⟨rfl, rfl, ⟨Nat.le_of_ble_eq_true rfl, Nat.le_of_ble_eq_true rfl⟩, ⟨Nat.le_of_ble_eq_true rfl, Nat.le_of_ble_eq_true rfl⟩⟩ hz_a0 hk_a0 (by decide) rfl rfl hl.1 rfl (Nat.le_of_ble_eq_true rfl) dX12_bend_2) rfl rfl (fun x7 H locs M3 R4 J5 hS f1 g2 E6 => ?_)
  obtain ⟨h_x7, p8⟩ := E6
  refine lv_if_eq (tgt := 22) hx hb dX12_bend_5 (by decide) (fun c9 => ?_) (fun c9 => ?_)
  · have q10 : x7.toInt = 0 := ti_eq c9
    have h11 : iv 0 0 x7 := ⟨by have := (h_x7).1; have := ((iv_c (c := 0) (n := 0) (by decide))).1; omega, by have := (h_x7).2; have := ((iv_c (c := 0) (n := 0) (by decide))).2; omega⟩
    refine lv_aload_n hx hb dX12_bend_22 rfl (lv_at hl 0 rfl) ?_
    refine lv_iconst (v := 0) hx hb dX12_bend_23 (by decide) ?_
    refine tw_goi hS (md_runV (As := [.int 0]) (rest := []) hx hb hml hown hW hK hT hS.1 (t_X12_refuses l D cy tx base Z K N M3 R4 J5 hS.2.1 a0 hz_a0 hk_a0 0 (iv_mono (iv_c (c := 0) (n := 0) (by decide)) (by decide) (by decide))) s_X12_338 ⟨rfl, rfl, ⟨Nat.le_of_ble_eq_true rfl, Nat.le_of_ble_eq_true rfl⟩, ⟨Nat.le_of_ble_eq_true rfl, Nat.le_of_ble_eq_true rfl⟩⟩ hz_a0 hk_a0 (by decide) rfl rfl hl.1 rfl (Nat.le_of_ble_eq_true rfl) dX12_bend_24) rfl rfl (fun x18 H locs M14 R15 J16 hS f12 g13 E17 => ?_)
    have h_x18 := E17
    exact tw_endi hx hb hr hlocks hK hT hS hQ ((iv_mono h_x18 (by decide) (by decide))) dX12_bend_27
  · have q19 : ¬ x7.toInt = 0 := ti_ne c9
    have h20 : iv 1 1 x7 := ⟨by have := (h_x7).1; have := ((iv_c (c := 0) (n := 0) (by decide))).1; have := ((iv_c (c := 0) (n := 0) (by decide))).2; omega, by have := (h_x7).2; have := ((iv_c (c := 0) (n := 0) (by decide))).1; have := ((iv_c (c := 0) (n := 0) (by decide))).2; omega⟩
    have h21 : iv 0 9 a1 := ⟨by have := (p8 c9).1; have := (h_a1).1; omega, by have := (p8 c9).2; have := (h_a1).2; omega⟩
    refine lv_iload_n hx hb dX12_bend_8 rfl (lv_at hl 2 rfl) ?_
    refine lv_i2l hx hb dX12_bend_9 rfl ?_
    refine lv_ldc2 hx hb hown (hW _ w_7_161 rfl) dX12_bend_10 ?_
    refine lv_ldc2 hx hb hown (hW _ w_7_162 rfl) dX12_bend_13 ?_
    refine tw_goi hS (md_runS (As := [.long a2.toInt64, .long (-1), .long 5]) (rest := []) hx hb hml hown hW hK hT hS.1 (t_X12_in l D cy tx base Z K N M3 R4 J5 hS.2.1 (a2.toInt64) ((-1)) (5)) s_X12_155 ⟨rfl, rfl, ⟨Nat.le_of_ble_eq_true rfl, Nat.le_of_ble_eq_true rfl⟩, ⟨Nat.le_of_ble_eq_true rfl, Nat.le_of_ble_eq_true rfl⟩⟩ rfl hl.1 rfl (Nat.le_of_ble_eq_true rfl) dX12_bend_16) rfl rfl (fun x28 H locs M24 R25 J26 hS f22 g23 E27 => ?_)
    obtain ⟨h_x28, p29⟩ := E27
    refine lv_if_ne (tgt := 28) hx hb dX12_bend_19 (by decide) (fun c30 => ?_) (fun c30 => ?_)
    · have q31 : ¬ x28.toInt = 0 := ti_ne c30
      have h32 : iv 1 1 x28 := ⟨by have := (h_x28).1; have := ((iv_c (c := 0) (n := 0) (by decide))).1; have := ((iv_c (c := 0) (n := 0) (by decide))).2; omega, by have := (h_x28).2; have := ((iv_c (c := 0) (n := 0) (by decide))).1; have := ((iv_c (c := 0) (n := 0) (by decide))).2; omega⟩
      have h33 : iv (-1) 5 a2 := in2iv (p29 c30) ((jv_c (x := (-1)) (n := (-1)) (by decide))).1 ((jv_c (x := 5) (n := 5) (by decide))).2
      refine lv_aload_n hx hb dX12_bend_28 rfl (lv_at hl 0 rfl) ?_
      refine tw_getr hx hb hW hown hK hS f_X12_45_11 hz_a0 hk_a0 (t := 23) (n := 226) rfl dX12_bend_29 (fun b34 k35 hz_b34 hk_b34 hn_b34 => ?_)
      have hn_b34 := hn_b34 (by decide)
      refine lv_bipush (v := 20) hx hb dX12_bend_32 (by decide) ?_
      refine lv_iload_n hx hb dX12_bend_34 rfl (lv_at hl 1 rfl) ?_
      refine tw_iadd (lo := 20) (hi := 29) hx hb (iv_c (c := 20) (n := 20) (by decide)) h21 ⟨by decide, by decide⟩ ⟨by decide, by decide⟩ dX12_bend_35 (fun x38 e37 h36 => ?_)
      have e37 : x38.toInt = 20 + a1.toInt := e37
      refine tw_iald hx hb hK hS hz_b34 hk_b34 (Or.inr (by decide)) hn_b34 (lo := (-2147483648)) (hi := 2147483647) h36 ⟨by decide, by decide⟩ rg_full dX12_bend_36 (fun x41 k40 h39 => ?_)
      refine lv_istore_n (lv' := [(3, .int x41), (0, .ref (base + a0)), (1, .int a1), (2, .int a2)]) hx hb dX12_bend_37 rfl hl (by decide) rfl (fun ls hl => ?_)
      refine lv_aload_n hx hb dX12_bend_38 rfl (lv_at hl 1 rfl) ?_
      refine tw_getrk hx hb hW hown hK hS f_X12_45_11 hz_a0 hk_a0 (b := b34) k35 dX12_bend_39 ?_
      refine lv_bipush (v := 20) hx hb dX12_bend_42 (by decide) ?_
      refine lv_iload_n hx hb dX12_bend_44 rfl (lv_at hl 2 rfl) ?_
      refine tw_iadd (lo := 20) (hi := 29) hx hb (iv_c (c := 20) (n := 20) (by decide)) h21 ⟨by decide, by decide⟩ ⟨by decide, by decide⟩ dX12_bend_45 (fun x44 e43 h42 => ?_)
      have e43 : x44.toInt = 20 + a1.toInt := e43
      refine lv_iload_n hx hb dX12_bend_46 rfl (lv_at hl 3 rfl) ?_
      refine tw_iast hx hb hK hS hz_b34 hk_b34 (Or.inr (by decide)) hn_b34 h42 ⟨by decide, by decide⟩ h33 (rg_sas (Or.inl ⟨by decide, by decide⟩) ⟨by decide, by decide⟩) (jl := 20) (jh := 29) ⟨by decide, by decide⟩ rfl dX12_bend_47 (fun H locs M47 hS k45 f46 => ?_)
      refine lv_iload_n hx hb dX12_bend_48 rfl (lv_at hl 0 rfl) ?_
      exact tw_endi hx hb hr hlocks hK hT hS hQ (h39) dX12_bend_49
    · have q48 : x28.toInt = 0 := ti_eq c30
      have h49 : iv 0 0 x28 := ⟨by have := (h_x28).1; have := ((iv_c (c := 0) (n := 0) (by decide))).1; omega, by have := (h_x28).2; have := ((iv_c (c := 0) (n := 0) (by decide))).2; omega⟩
      refine lv_aload_n hx hb dX12_bend_22 rfl (lv_at hl 0 rfl) ?_
      refine lv_iconst (v := 0) hx hb dX12_bend_23 (by decide) ?_
      refine tw_goi hS (md_runV (As := [.int 0]) (rest := []) hx hb hml hown hW hK hT hS.1 (t_X12_refuses l D cy tx base Z K N M24 R25 J26 hS.2.1 a0 hz_a0 hk_a0 0 (iv_mono (iv_c (c := 0) (n := 0) (by decide)) (by decide) (by decide))) s_X12_338 ⟨rfl, rfl, ⟨Nat.le_of_ble_eq_true rfl, Nat.le_of_ble_eq_true rfl⟩, ⟨Nat.le_of_ble_eq_true rfl, Nat.le_of_ble_eq_true rfl⟩⟩ hz_a0 hk_a0 (by decide) rfl rfl hl.1 rfl (Nat.le_of_ble_eq_true rfl) dX12_bend_24) rfl rfl (fun x56 H locs M52 R53 J54 hS f50 g51 E55 => ?_)
      have h_x56 := E55
      exact tw_endi hx hb hr hlocks hK hT hS hQ ((iv_mono h_x56 (by decide) (by decide))) dX12_bend_27
def Lt_X12_beside : WL := [(14, 0, 2000000), (23, 7, 9)]
def LRt_X12_beside : WL := []
set_option maxRecDepth 100000 in
set_option maxHeartbeats 4000000 in
theorem t_X12_beside (l : Launch) (D : va_G) (cy : Nat → ClassId) (tx : (Nat → Nat) × (Nat → Nat)) (base Z : Nat) (K N : Nat → Nat) (Ma : MT) (Ra : RT) (Ja : JT) (hTy : Ty Z K N Ma Ra) (a0 : Nat) (hz_a0 : a0 < Z) (hk_a0 : K a0 = 12) (a1 : Int32) (h_a1 : iv (-2147483648) 2147483647 a1) (a2 : Int32) (h_a2 : iv (-2147483648) 2147483647 a2) : Met l yX12_beside [Cond.code yX12_beside cX12_beside 4 (some .int)] (md_rm 2 0 0) (va_Pc [.ref (base + a0), .int a1, .int a2] (md_U D cy tx base Z K N Ma Ra Ja)) (mQi D cy tx base (fun r u => TP Z K N Lt_X12_beside LRt_X12_beside Ma Ra u ∧ (iv (-2147483648) 2147483647 r))) 0 0 (fun q => base ≤ q) := by
  refine tw_ofW (L := Lt_X12_beside) (LR := LRt_X12_beside) (by decide) (Nat.le_of_ble_eq_true rfl) hTy ?_
  intro p e s m args below meth c Q ls hx hb hr hlocks hown hml hW hK hT hS hQ hl
  have hl : lv_has ls 4 [(0, .ref (base + a0)), (1, .int a1), (2, .int a2)] := hl
  refine lv_aload_n hx hb dX12_beside_0 rfl (lv_at hl 0 rfl) ?_
  refine tw_getr hx hb hW hown hK hS f_X12_45_11 hz_a0 hk_a0 (t := 23) (n := 226) rfl dX12_beside_1 (fun b1 k2 hz_b1 hk_b1 hn_b1 => ?_)
  have hn_b1 := hn_b1 (by decide)
  refine lv_iconst (v := 0) hx hb dX12_beside_4 (by decide) ?_
  refine tw_iald hx hb hK hS hz_b1 hk_b1 (Or.inr (by decide)) hn_b1 (lo := 0) (hi := 10) (iv_c (c := 0) (n := 0) (by decide)) ⟨by decide, by decide⟩ (rg_c (k0 := 0) rfl rfl rfl) dX12_beside_5 (fun x5 k4 h3 => ?_)
  refine lv_if_eq (tgt := 33) hx hb dX12_beside_6 (by decide) (fun c6 => ?_) (fun c6 => ?_)
  · have q7 : x5.toInt = 0 := ti_eq c6
    have h8 : iv 0 0 x5 := ⟨by have := (h3).1; have := ((iv_c (c := 0) (n := 0) (by decide))).1; omega, by have := (h3).2; have := ((iv_c (c := 0) (n := 0) (by decide))).2; omega⟩
    refine lv_aload_n hx hb dX12_beside_33 rfl (lv_at hl 0 rfl) ?_
    refine lv_iconst (v := 0) hx hb dX12_beside_34 (by decide) ?_
    refine tw_goi hS (md_runV (As := [.int 0]) (rest := []) hx hb hml hown hW hK hT hS.1 (t_X12_refuses l D cy tx base Z K N Ma Ra Ja hS.2.1 a0 hz_a0 hk_a0 0 (iv_mono (iv_c (c := 0) (n := 0) (by decide)) (by decide) (by decide))) s_X12_338 ⟨rfl, rfl, ⟨Nat.le_of_ble_eq_true rfl, Nat.le_of_ble_eq_true rfl⟩, ⟨Nat.le_of_ble_eq_true rfl, Nat.le_of_ble_eq_true rfl⟩⟩ hz_a0 hk_a0 (by decide) rfl rfl hl.1 rfl (Nat.le_of_ble_eq_true rfl) dX12_beside_35) rfl rfl (fun x15 H locs M11 R12 J13 hS f9 g10 E14 => ?_)
    have h_x15 := E14
    exact tw_endi hx hb hr hlocks hK hT hS hQ ((iv_mono h_x15 (by decide) (by decide))) dX12_beside_38
  · have q16 : ¬ x5.toInt = 0 := ti_ne c6
    have h17 : iv 1 10 x5 := ⟨by have := (h3).1; have := ((iv_c (c := 0) (n := 0) (by decide))).1; have := ((iv_c (c := 0) (n := 0) (by decide))).2; omega, by have := (h3).2; have := ((iv_c (c := 0) (n := 0) (by decide))).1; have := ((iv_c (c := 0) (n := 0) (by decide))).2; omega⟩
    refine lv_iload_n hx hb dX12_beside_9 rfl (lv_at hl 1 rfl) ?_
    refine lv_i2l hx hb dX12_beside_10 rfl ?_
    refine lv_lconst (v := 0) hx hb dX12_beside_11 (by decide) ?_
    refine lv_ldc2 hx hb hown (hW _ w_7_178 rfl) dX12_beside_12 ?_
    refine tw_goi hS (md_runS (As := [.long a1.toInt64, .long 0, .long 2]) (rest := []) hx hb hml hown hW hK hT hS.1 (t_X12_in l D cy tx base Z K N Ma Ra Ja hS.2.1 (a1.toInt64) (0) (2)) s_X12_155 ⟨rfl, rfl, ⟨Nat.le_of_ble_eq_true rfl, Nat.le_of_ble_eq_true rfl⟩, ⟨Nat.le_of_ble_eq_true rfl, Nat.le_of_ble_eq_true rfl⟩⟩ rfl hl.1 rfl (Nat.le_of_ble_eq_true rfl) dX12_beside_15) rfl rfl (fun x24 H locs M20 R21 J22 hS f18 g19 E23 => ?_)
    obtain ⟨h_x24, p25⟩ := E23
    refine lv_if_eq (tgt := 33) hx hb dX12_beside_18 (by decide) (fun c26 => ?_) (fun c26 => ?_)
    · have q27 : x24.toInt = 0 := ti_eq c26
      have h28 : iv 0 0 x24 := ⟨by have := (h_x24).1; have := ((iv_c (c := 0) (n := 0) (by decide))).1; omega, by have := (h_x24).2; have := ((iv_c (c := 0) (n := 0) (by decide))).2; omega⟩
      refine lv_aload_n hx hb dX12_beside_33 rfl (lv_at hl 0 rfl) ?_
      refine lv_iconst (v := 0) hx hb dX12_beside_34 (by decide) ?_
      refine tw_goi hS (md_runV (As := [.int 0]) (rest := []) hx hb hml hown hW hK hT hS.1 (t_X12_refuses l D cy tx base Z K N M20 R21 J22 hS.2.1 a0 hz_a0 hk_a0 0 (iv_mono (iv_c (c := 0) (n := 0) (by decide)) (by decide) (by decide))) s_X12_338 ⟨rfl, rfl, ⟨Nat.le_of_ble_eq_true rfl, Nat.le_of_ble_eq_true rfl⟩, ⟨Nat.le_of_ble_eq_true rfl, Nat.le_of_ble_eq_true rfl⟩⟩ hz_a0 hk_a0 (by decide) rfl rfl hl.1 rfl (Nat.le_of_ble_eq_true rfl) dX12_beside_35) rfl rfl (fun x35 H locs M31 R32 J33 hS f29 g30 E34 => ?_)
      have h_x35 := E34
      exact tw_endi hx hb hr hlocks hK hT hS hQ ((iv_mono h_x35 (by decide) (by decide))) dX12_beside_38
    · have q36 : ¬ x24.toInt = 0 := ti_ne c26
      have h37 : iv 1 1 x24 := ⟨by have := (h_x24).1; have := ((iv_c (c := 0) (n := 0) (by decide))).1; have := ((iv_c (c := 0) (n := 0) (by decide))).2; omega, by have := (h_x24).2; have := ((iv_c (c := 0) (n := 0) (by decide))).1; have := ((iv_c (c := 0) (n := 0) (by decide))).2; omega⟩
      have h38 : iv 0 2 a1 := in2iv (p25 c26) ((jv_c (x := 0) (n := 0) (by decide))).1 ((jv_c (x := 2) (n := 2) (by decide))).2
      refine lv_iload_n hx hb dX12_beside_21 rfl (lv_at hl 2 rfl) ?_
      refine lv_i2l hx hb dX12_beside_22 rfl ?_
      refine lv_lconst (v := 1) hx hb dX12_beside_23 (by decide) ?_
      refine lv_ldc2 hx hb hown (hW _ w_7_179 rfl) dX12_beside_24 ?_
      refine tw_goi hS (md_runS (As := [.long a2.toInt64, .long 1, .long 9999]) (rest := []) hx hb hml hown hW hK hT hS.1 (t_X12_in l D cy tx base Z K N M20 R21 J22 hS.2.1 (a2.toInt64) (1) (9999)) s_X12_155 ⟨rfl, rfl, ⟨Nat.le_of_ble_eq_true rfl, Nat.le_of_ble_eq_true rfl⟩, ⟨Nat.le_of_ble_eq_true rfl, Nat.le_of_ble_eq_true rfl⟩⟩ rfl hl.1 rfl (Nat.le_of_ble_eq_true rfl) dX12_beside_27) rfl rfl (fun x45 H locs M41 R42 J43 hS f39 g40 E44 => ?_)
      obtain ⟨h_x45, p46⟩ := E44
      refine lv_if_ne (tgt := 39) hx hb dX12_beside_30 (by decide) (fun c47 => ?_) (fun c47 => ?_)
      · have q48 : ¬ x45.toInt = 0 := ti_ne c47
        have h49 : iv 1 1 x45 := ⟨by have := (h_x45).1; have := ((iv_c (c := 0) (n := 0) (by decide))).1; have := ((iv_c (c := 0) (n := 0) (by decide))).2; omega, by have := (h_x45).2; have := ((iv_c (c := 0) (n := 0) (by decide))).1; have := ((iv_c (c := 0) (n := 0) (by decide))).2; omega⟩
        have h50 : iv 1 9999 a2 := in2iv (p46 c47) ((jv_c (x := 1) (n := 1) (by decide))).1 ((jv_c (x := 9999) (n := 9999) (by decide))).2
        refine lv_aload_n hx hb dX12_beside_39 rfl (lv_at hl 0 rfl) ?_
        have k51 : R42 a0 25 = some b1 := ((Fr.kp (k := 25) g40 hk_a0 rfl).trans (Fr.kp (k := 25) g19 hk_a0 rfl)).trans k2
        refine tw_getrk hx hb hW hown hK hS f_X12_45_11 hz_a0 hk_a0 (b := b1) k51 dX12_beside_40 ?_
        refine lv_bipush (v := 7) hx hb dX12_beside_43 (by decide) ?_
        refine tw_iald hx hb hK hS hz_b1 hk_b1 (Or.inr (by decide)) hn_b1 (lo := (-2147483648)) (hi := 2147483647) (iv_c (c := 7) (n := 7) (by decide)) ⟨by decide, by decide⟩ (rg_c (k0 := 7) rfl rfl rfl) dX12_beside_45 (fun x54 k53 h52 => ?_)
        refine lv_istore_n (lv' := [(3, .int x54), (0, .ref (base + a0)), (1, .int a1), (2, .int a2)]) hx hb dX12_beside_46 rfl hl (by decide) rfl (fun ls hl => ?_)
        refine lv_aload_n hx hb dX12_beside_47 rfl (lv_at hl 1 rfl) ?_
        have k55 : R42 a0 25 = some b1 := ((Fr.kp (k := 25) g40 hk_a0 rfl).trans (Fr.kp (k := 25) g19 hk_a0 rfl)).trans k2
        refine tw_getrk hx hb hW hown hK hS f_X12_45_11 hz_a0 hk_a0 (b := b1) k55 dX12_beside_48 ?_
        refine lv_bipush (v := 7) hx hb dX12_beside_51 (by decide) ?_
        refine lv_iload_n hx hb dX12_beside_53 rfl (lv_at hl 2 rfl) ?_
        refine tw_iast hx hb hK hS hz_b1 hk_b1 (Or.inr (by decide)) hn_b1 (iv_c (c := 7) (n := 7) (by decide)) ⟨by decide, by decide⟩ h38 (rg_cs (k0 := 7) rfl rfl rfl ⟨by decide, by decide⟩) (jl := 7) (jh := 7) ⟨by decide, by decide⟩ rfl dX12_beside_54 (fun H locs M58 hS k56 f57 => ?_)
        refine lv_aload_n hx hb dX12_beside_55 rfl (lv_at hl 1 rfl) ?_
        have k59 : R42 a0 25 = some b1 := ((Fr.kp (k := 25) g40 hk_a0 rfl).trans (Fr.kp (k := 25) g19 hk_a0 rfl)).trans k2
        refine tw_getrk hx hb hW hown hK hS f_X12_45_11 hz_a0 hk_a0 (b := b1) k59 dX12_beside_56 ?_
        refine lv_bipush (v := 8) hx hb dX12_beside_59 (by decide) ?_
        refine lv_iload_n hx hb dX12_beside_61 rfl (lv_at hl 3 rfl) ?_
        refine tw_iast hx hb hK hS hz_b1 hk_b1 (Or.inr (by decide)) hn_b1 (iv_c (c := 8) (n := 8) (by decide)) ⟨by decide, by decide⟩ h50 (rg_cs (k0 := 8) rfl rfl rfl ⟨by decide, by decide⟩) (jl := 8) (jh := 8) ⟨by decide, by decide⟩ rfl dX12_beside_62 (fun H locs M62 hS k60 f61 => ?_)
        refine lv_iload_n hx hb dX12_beside_63 rfl (lv_at hl 0 rfl) ?_
        exact tw_endi hx hb hr hlocks hK hT hS hQ (h52) dX12_beside_64
      · have q63 : x45.toInt = 0 := ti_eq c47
        have h64 : iv 0 0 x45 := ⟨by have := (h_x45).1; have := ((iv_c (c := 0) (n := 0) (by decide))).1; omega, by have := (h_x45).2; have := ((iv_c (c := 0) (n := 0) (by decide))).2; omega⟩
        refine lv_aload_n hx hb dX12_beside_33 rfl (lv_at hl 0 rfl) ?_
        refine lv_iconst (v := 0) hx hb dX12_beside_34 (by decide) ?_
        refine tw_goi hS (md_runV (As := [.int 0]) (rest := []) hx hb hml hown hW hK hT hS.1 (t_X12_refuses l D cy tx base Z K N M41 R42 J43 hS.2.1 a0 hz_a0 hk_a0 0 (iv_mono (iv_c (c := 0) (n := 0) (by decide)) (by decide) (by decide))) s_X12_338 ⟨rfl, rfl, ⟨Nat.le_of_ble_eq_true rfl, Nat.le_of_ble_eq_true rfl⟩, ⟨Nat.le_of_ble_eq_true rfl, Nat.le_of_ble_eq_true rfl⟩⟩ hz_a0 hk_a0 (by decide) rfl rfl hl.1 rfl (Nat.le_of_ble_eq_true rfl) dX12_beside_35) rfl rfl (fun x71 H locs M67 R68 J69 hS f65 g66 E70 => ?_)
        have h_x71 := E70
        exact tw_endi hx hb hr hlocks hK hT hS hQ ((iv_mono h_x71 (by decide) (by decide))) dX12_beside_38
def Lt_X12_best : WL := []
def LRt_X12_best : WL := []
set_option maxRecDepth 100000 in
set_option maxHeartbeats 4000000 in
theorem t_X12_best (l : Launch) (D : va_G) (cy : Nat → ClassId) (tx : (Nat → Nat) × (Nat → Nat)) (base Z : Nat) (K N : Nat → Nat) (Ma : MT) (Ra : RT) (Ja : JT) (hTy : Ty Z K N Ma Ra) (a0 : Nat) (hz_a0 : a0 < Z) (hk_a0 : K a0 = 12) (a1 : Int32) (h_a1 : iv 0 728 a1) (a2 : Int32) (h_a2 : iv 0 1 a2) : Met l yX12_best [Cond.code yX12_best cX12_best 8 (some .int)] (md_rm 1 0 0) (va_Pc [.ref (base + a0), .int a1, .int a2] (md_U D cy tx base Z K N Ma Ra Ja)) (mQi D cy tx base (fun r u => TP Z K N Lt_X12_best LRt_X12_best Ma Ra u ∧ (iv (-2147483648) 2147483647 r))) 0 0 (fun q => base ≤ q) := by
  refine tw_ofW (L := Lt_X12_best) (LR := LRt_X12_best) (by decide) (Nat.le_of_ble_eq_true rfl) hTy ?_
  intro p e s m args below meth c Q ls hx hb hr hlocks hown hml hW hK hT hS hQ hl
  have hl : lv_has ls 8 [(0, .ref (base + a0)), (1, .int a1), (2, .int a2)] := hl
  refine lv_iconst (v := 0) hx hb dX12_best_0 (by decide) ?_
  refine lv_istore_n (lv' := [(3, .int 0), (0, .ref (base + a0)), (1, .int a1), (2, .int a2)]) hx hb dX12_best_1 rfl hl (by decide) rfl (fun ls hl => ?_)
  refine lv_iconst (v := 0) hx hb dX12_best_2 (by decide) ?_
  refine lv_istore (lv' := [(4, .int 0), (3, .int 0), (0, .ref (base + a0)), (1, .int a1), (2, .int a2)]) hx hb dX12_best_3 hl (by decide) rfl (fun ls hl => ?_)
  refine lv_iconst (v := 0) hx hb dX12_best_5 (by decide) ?_
  refine lv_istore (lv' := [(5, .int 0), (4, .int 0), (3, .int 0), (0, .ref (base + a0)), (1, .int a1), (2, .int a2)]) hx hb dX12_best_6 hl (by decide) rfl (fun ls hl => ?_)
  have W8_4 : ∀ (n_4 : Nat) (x1 : Int32) (x2 : Int32) (x3 : Int32) (M4 : MT) (R5 : RT) (J6 : JT) (H : Heap) (locs : List Loc) (ls : Array Slot) (h_x1 : iv 0 2 x1) (h_x2 : iv (-2147483648) 2147483647 x2) (h_x3 : iv 0 3 x3) (hm_4 : 3 - x3.toInt < (n_4 : Int)) (hS : SB D cy base Z K N Lt_X12_best LRt_X12_best Ma Ra M4 R5 J6 s H locs) (hl : lv_has ls 8 [(3, .int x1), (4, .int x2), (5, .int x3), (0, .ref (base + a0)), (1, .int a1), (2, .int a2)]), W p l e (md_rm 1 0 0) s m args below meth c H locs 0 0 Q (F0 m 8 ls []) := by
    intro n_4
    induction n_4 with
    | zero =>
      intro x1 x2 x3 M4 R5 J6 H locs ls h_x1 h_x2 h_x3 hm_4 hS hl
      exfalso
      have := (h_a1).1; have := (h_a1).2; have := (h_a2).1; have := (h_a2).2; have := (h_x3).1; have := (h_x3).2; omega
    | succ n_4 ih_4 =>
      intro x1 x2 x3 M4 R5 J6 H locs ls h_x1 h_x2 h_x3 hm_4 hS hl
      have f7 := hS.2.2.1
      have g8 := hS.2.2.2
      refine lv_iload hx hb dX12_best_8 (lv_at hl 2 rfl) ?_
      refine lv_iconst (v := 3) hx hb dX12_best_10 (by decide) ?_
      refine lv_icmp_ge (tgt := 119) hx hb dX12_best_11 (by decide) (fun c9 => ?_) (fun c9 => ?_)
      · have q10 : 3 ≤ x3.toInt := ti_le c9
        have h11 : iv 3 3 x3 := iv_geL (y := 3) h_x3 (iv_c (c := 3) (n := 3) (by decide)) q10 (by decide)
        refine lv_iload_n hx hb dX12_best_119 rfl (lv_at hl 5 rfl) ?_
        refine lv_if_eq (tgt := 127) hx hb dX12_best_120 (by decide) (fun c12 => ?_) (fun c12 => ?_)
        · have q13 : a2.toInt = 0 := ti_eq c12
          have h14 : iv 0 0 a2 := ⟨by have := (h_a2).1; have := ((iv_c (c := 0) (n := 0) (by decide))).1; omega, by have := (h_a2).2; have := ((iv_c (c := 0) (n := 0) (by decide))).2; omega⟩
          refine lv_iload hx hb dX12_best_127 (lv_at hl 1 rfl) ?_
          exact tw_endi hx hb hr hlocks hK hT hS hQ (h_x2) dX12_best_129
        · have q15 : ¬ a2.toInt = 0 := ti_ne c12
          have h16 : iv 1 1 a2 := ⟨by have := (h_a2).1; have := ((iv_c (c := 0) (n := 0) (by decide))).1; have := ((iv_c (c := 0) (n := 0) (by decide))).2; omega, by have := (h_a2).2; have := ((iv_c (c := 0) (n := 0) (by decide))).1; have := ((iv_c (c := 0) (n := 0) (by decide))).2; omega⟩
          refine lv_iload_n hx hb dX12_best_123 rfl (lv_at hl 0 rfl) ?_
          refine lv_goto (tgt := 129) hx hb dX12_best_124 (by decide) ?_
          exact tw_endi hx hb hr hlocks hK hT hS hQ ((iv_mono h_x1 (by decide) (by decide))) dX12_best_129
      · have q17 : x3.toInt < 3 := ti_nle c9
        have h18 : iv 0 2 x3 := iv_ltL (y := 3) h_x3 (iv_c (c := 3) (n := 3) (by decide)) q17 (by decide)
        refine lv_aload_n hx hb dX12_best_14 rfl (lv_at hl 3 rfl) ?_
        refine tw_getr hx hb hW hown hK hS f_X12_81_11 hz_a0 hk_a0 (t := 14) (n := 6561) rfl dX12_best_15 (fun b19 k20 hz_b19 hk_b19 hn_b19 => ?_)
        have hn_b19 := hn_b19 (by decide)
        refine lv_bipush (v := 9) hx hb dX12_best_18 (by decide) ?_
        refine lv_iload_n hx hb dX12_best_20 rfl (lv_at hl 4 rfl) ?_
        refine tw_icmul (k := 9) (lo := 0) (hi := 6552) hx hb (by decide) h_a1 (by decide) ⟨by decide, by decide⟩ ⟨by decide, by decide⟩ dX12_best_21 (fun x23 e22 h21 => ?_)
        refine lv_iconst (v := 3) hx hb dX12_best_22 (by decide) ?_
        refine lv_iload hx hb dX12_best_23 (lv_at hl 2 rfl) ?_
        refine tw_icmul (k := 3) (lo := 0) (hi := 6) hx hb (by decide) h18 (by decide) ⟨by decide, by decide⟩ ⟨by decide, by decide⟩ dX12_best_25 (fun x26 e25 h24 => ?_)
        refine tw_iadd (lo := 0) (hi := 6558) hx hb h21 h24 ⟨by decide, by decide⟩ ⟨by decide, by decide⟩ dX12_best_26 (fun x29 e28 h27 => ?_)
        refine tw_iald hx hb hK hS hz_b19 hk_b19 (Or.inl rfl) hn_b19 (lo := (-2147483648)) (hi := 2147483647) h27 ⟨by decide, by decide⟩ rg_u14 dX12_best_27 (fun x32 k31 h30 => ?_)
        refine lv_istore (lv' := [(6, .int x32), (3, .int x1), (4, .int x2), (5, .int x3), (0, .ref (base + a0)), (1, .int a1), (2, .int a2)]) hx hb dX12_best_28 hl (by decide) rfl (fun ls hl => ?_)
        refine lv_iconst (v := 1) hx hb dX12_best_30 (by decide) ?_
        refine lv_istore (lv' := [(7, .int 1), (6, .int x32), (3, .int x1), (4, .int x2), (5, .int x3), (0, .ref (base + a0)), (1, .int a1), (2, .int a2)]) hx hb dX12_best_31 hl (by decide) rfl (fun ls hl => ?_)
        have W33_35 : ∀ (n_35 : Nat) (x33 : Int32) (x34 : Int32) (M35 : MT) (R36 : RT) (J37 : JT) (H : Heap) (locs : List Loc) (ls : Array Slot) (h_x33 : iv (-2147483648) 2147483647 x33) (h_x34 : iv 1 3 x34) (hm_35 : 3 - x34.toInt < (n_35 : Int)) (hS : SB D cy base Z K N Lt_X12_best LRt_X12_best Ma Ra M35 R36 J37 s H locs) (hl : lv_has ls 8 [(6, .int x33), (7, .int x34), (3, .int x1), (4, .int x2), (5, .int x3), (0, .ref (base + a0)), (1, .int a1), (2, .int a2)]), W p l e (md_rm 1 0 0) s m args below meth c H locs 0 0 Q (F0 m 33 ls []) := by
          intro n_35
          induction n_35 with
          | zero =>
            intro x33 x34 M35 R36 J37 H locs ls h_x33 h_x34 hm_35 hS hl
            exfalso
            have := (h_a1).1; have := (h_a1).2; have := (h_a2).1; have := (h_a2).2; have := (h_x34).1; have := (h_x34).2; omega
          | succ n_35 ih_35 =>
            intro x33 x34 M35 R36 J37 H locs ls h_x33 h_x34 hm_35 hS hl
            have f38 := hS.2.2.1
            have g39 := hS.2.2.2
            refine lv_iload hx hb dX12_best_33 (lv_at hl 1 rfl) ?_
            refine lv_iconst (v := 3) hx hb dX12_best_35 (by decide) ?_
            refine lv_icmp_ge (tgt := 91) hx hb dX12_best_36 (by decide) (fun c40 => ?_) (fun c40 => ?_)
            · have q41 : 3 ≤ x34.toInt := ti_le c40
              have h42 : iv 3 3 x34 := iv_geL (y := 3) h_x34 (iv_c (c := 3) (n := 3) (by decide)) q41 (by decide)
              refine lv_iload hx hb dX12_best_91 (lv_at hl 4 rfl) ?_
              refine lv_if_le (tgt := 106) hx hb dX12_best_93 (by decide) (fun c43 => ?_) (fun c43 => ?_)
              · have q44 : x3.toInt ≤ 0 := ti_le c43
                have h45 : iv 0 0 x3 := iv_leL (y := 0) h18 (iv_c (c := 0) (n := 0) (by decide)) q44 (by decide)
                refine lv_iload hx hb dX12_best_106 (lv_at hl 4 rfl) ?_
                refine lv_istore_n (lv' := [(3, .int x3), (6, .int x33), (7, .int x34), (4, .int x2), (5, .int x3), (0, .ref (base + a0)), (1, .int a1), (2, .int a2)]) hx hb dX12_best_108 rfl hl (by decide) rfl (fun ls hl => ?_)
                refine lv_iload hx hb dX12_best_109 (lv_at hl 1 rfl) ?_
                refine lv_istore (lv' := [(4, .int x33), (3, .int x3), (6, .int x33), (7, .int x34), (5, .int x3), (0, .ref (base + a0)), (1, .int a1), (2, .int a2)]) hx hb dX12_best_111 hl (by decide) rfl (fun ls hl => ?_)
                refine tw_iinc (lv' := fun x48 => [(5, .int x48), (4, .int x33), (3, .int x3), (6, .int x33), (7, .int x34), (0, .ref (base + a0)), (1, .int a1), (2, .int a2)]) (lo := 1) (hi := 1) hx hb dX12_best_113 hl (k := 4) rfl h45 (by decide) ⟨by decide, by decide⟩ ⟨by decide, by decide⟩ (by decide) (fun _ => rfl) (fun x48 ls e47 h46 hl => ?_)
                refine lv_goto (tgt := 8) hx hb dX12_best_116 (by decide) ?_
                have hm49 : 3 - x48.toInt < (n_4 : Int) := by
                  have := (h_a1).1; have := (h_a1).2; have := (h_a2).1; have := (h_a2).2; have := (h24).1; have := (h24).2; have := (h45).1; have := (h45).2; have := (h46).1; have := (h46).2; omega
                exact ih_4 x3 x33 x48 M35 R36 J37 H locs _ (iv_mono h45 (by decide) (by decide)) h_x33 (iv_mono h46 (by decide) (by decide)) hm49 hS (lv_sub hl [2, 1, 0, 5, 6, 7] rfl)
              · have q50 : 0 < x3.toInt := ti_nle c43
                have h51 : iv 1 2 x3 := iv_gtL (y := 0) h18 (iv_c (c := 0) (n := 0) (by decide)) q50 (by decide)
                refine lv_iload hx hb dX12_best_96 (lv_at hl 0 rfl) ?_
                refine lv_iload hx hb dX12_best_98 (lv_at hl 3 rfl) ?_
                refine lv_icmp_gt (tgt := 106) hx hb dX12_best_100 (by decide) (fun c52 => ?_) (fun c52 => ?_)
                · have q53 : x2.toInt < x33.toInt := ti_lt c52
                  have h54 : iv (-2147483647) 2147483647 x33 := iv_gtL (y := x2) h_x33 h_x2 q53 (by decide)
                  have h55 : iv (-2147483648) 2147483646 x2 := iv_ltL (y := x33) h_x2 h_x33 q53 (by decide)
                  refine lv_iload hx hb dX12_best_106 (lv_at hl 4 rfl) ?_
                  refine lv_istore_n (lv' := [(3, .int x3), (6, .int x33), (7, .int x34), (4, .int x2), (5, .int x3), (0, .ref (base + a0)), (1, .int a1), (2, .int a2)]) hx hb dX12_best_108 rfl hl (by decide) rfl (fun ls hl => ?_)
                  refine lv_iload hx hb dX12_best_109 (lv_at hl 1 rfl) ?_
                  refine lv_istore (lv' := [(4, .int x33), (3, .int x3), (6, .int x33), (7, .int x34), (5, .int x3), (0, .ref (base + a0)), (1, .int a1), (2, .int a2)]) hx hb dX12_best_111 hl (by decide) rfl (fun ls hl => ?_)
                  refine tw_iinc (lv' := fun x58 => [(5, .int x58), (4, .int x33), (3, .int x3), (6, .int x33), (7, .int x34), (0, .ref (base + a0)), (1, .int a1), (2, .int a2)]) (lo := 2) (hi := 3) hx hb dX12_best_113 hl (k := 4) rfl h51 (by decide) ⟨by decide, by decide⟩ ⟨by decide, by decide⟩ (by decide) (fun _ => rfl) (fun x58 ls e57 h56 hl => ?_)
                  refine lv_goto (tgt := 8) hx hb dX12_best_116 (by decide) ?_
                  have hm59 : 3 - x58.toInt < (n_4 : Int) := by
                    have := (h_a1).1; have := (h_a1).2; have := (h_a2).1; have := (h_a2).2; have := (h24).1; have := (h24).2; have := (h51).1; have := (h51).2; have := (h56).1; have := (h56).2; omega
                  exact ih_4 x3 x33 x58 M35 R36 J37 H locs _ (iv_mono h51 (by decide) (by decide)) (iv_mono h54 (by decide) (by decide)) (iv_mono h56 (by decide) (by decide)) hm59 hS (lv_sub hl [2, 1, 0, 5, 6, 7] rfl)
                · have q60 : x33.toInt ≤ x2.toInt := ti_nlt c52
                  refine lv_goto (tgt := 113) hx hb dX12_best_103 (by decide) ?_
                  refine tw_iinc (lv' := fun x63 => [(5, .int x63), (6, .int x33), (7, .int x34), (3, .int x1), (4, .int x2), (0, .ref (base + a0)), (1, .int a1), (2, .int a2)]) (lo := 2) (hi := 3) hx hb dX12_best_113 hl (k := 4) rfl h51 (by decide) ⟨by decide, by decide⟩ ⟨by decide, by decide⟩ (by decide) (fun _ => rfl) (fun x63 ls e62 h61 hl => ?_)
                  refine lv_goto (tgt := 8) hx hb dX12_best_116 (by decide) ?_
                  have hm64 : 3 - x63.toInt < (n_4 : Int) := by
                    have := (h_a1).1; have := (h_a1).2; have := (h_a2).1; have := (h_a2).2; have := (h24).1; have := (h24).2; have := (h51).1; have := (h51).2; have := (h61).1; have := (h61).2; omega
                  exact ih_4 x1 x2 x63 M35 R36 J37 H locs _ h_x1 h_x2 (iv_mono h61 (by decide) (by decide)) hm64 hS (lv_sub hl [3, 4, 0, 5, 6, 7] rfl)
            · have q65 : x34.toInt < 3 := ti_nle c40
              have h66 : iv 1 2 x34 := iv_ltL (y := 3) h_x34 (iv_c (c := 3) (n := 3) (by decide)) q65 (by decide)
              refine lv_aload_n hx hb dX12_best_39 rfl (lv_at hl 5 rfl) ?_
              refine tw_getr hx hb hW hown hK hS f_X12_81_11 hz_a0 hk_a0 (t := 14) (n := 6561) rfl dX12_best_40 (fun b67 k68 hz_b67 hk_b67 hn_b67 => ?_)
              have hn_b67 := hn_b67 (by decide)
              refine lv_bipush (v := 9) hx hb dX12_best_43 (by decide) ?_
              refine lv_iload_n hx hb dX12_best_45 rfl (lv_at hl 6 rfl) ?_
              refine tw_icmul (k := 9) (lo := 0) (hi := 6552) hx hb (by decide) h_a1 (by decide) ⟨by decide, by decide⟩ ⟨by decide, by decide⟩ dX12_best_46 (fun x71 e70 h69 => ?_)
              refine lv_iconst (v := 3) hx hb dX12_best_47 (by decide) ?_
              refine lv_iload hx hb dX12_best_48 (lv_at hl 4 rfl) ?_
              refine tw_icmul (k := 3) (lo := 0) (hi := 6) hx hb (by decide) h18 (by decide) ⟨by decide, by decide⟩ ⟨by decide, by decide⟩ dX12_best_50 (fun x74 e73 h72 => ?_)
              refine tw_iadd (lo := 0) (hi := 6558) hx hb h69 h72 ⟨by decide, by decide⟩ ⟨by decide, by decide⟩ dX12_best_51 (fun x77 e76 h75 => ?_)
              refine lv_iload hx hb dX12_best_52 (lv_at hl 1 rfl) ?_
              refine tw_iadd (lo := 1) (hi := 6560) hx hb h75 h66 ⟨by decide, by decide⟩ ⟨by decide, by decide⟩ dX12_best_54 (fun x80 e79 h78 => ?_)
              refine tw_iald hx hb hK hS hz_b67 hk_b67 (Or.inl rfl) hn_b67 (lo := (-2147483648)) (hi := 2147483647) h78 ⟨by decide, by decide⟩ rg_u14 dX12_best_55 (fun x83 k82 h81 => ?_)
              refine lv_iload hx hb dX12_best_56 (lv_at hl 0 rfl) ?_
              refine lv_icmp_ge (tgt := 81) hx hb dX12_best_58 (by decide) (fun c84 => ?_) (fun c84 => ?_)
              · have q85 : x33.toInt ≤ x83.toInt := ti_le c84
                refine lv_iload hx hb dX12_best_81 (lv_at hl 0 rfl) ?_
                refine lv_istore (lv' := [(6, .int x33), (7, .int x34), (3, .int x1), (4, .int x2), (5, .int x3), (0, .ref (base + a0)), (1, .int a1), (2, .int a2)]) hx hb dX12_best_83 hl (by decide) rfl (fun ls hl => ?_)
                refine tw_iinc (lv' := fun x88 => [(7, .int x88), (6, .int x33), (3, .int x1), (4, .int x2), (5, .int x3), (0, .ref (base + a0)), (1, .int a1), (2, .int a2)]) (lo := 2) (hi := 3) hx hb dX12_best_85 hl (k := 1) rfl h66 (by decide) ⟨by decide, by decide⟩ ⟨by decide, by decide⟩ (by decide) (fun _ => rfl) (fun x88 ls e87 h86 hl => ?_)
                refine lv_goto (tgt := 33) hx hb dX12_best_88 (by decide) ?_
                have hm89 : 3 - x88.toInt < (n_35 : Int) := by
                  have := (h_a1).1; have := (h_a1).2; have := (h_a2).1; have := (h_a2).2; have := (h66).1; have := (h66).2; have := (h78).1; have := (h78).2; have := (h86).1; have := (h86).2; omega
                exact ih_35 x33 x88 M35 R36 J37 H locs _ h_x33 (iv_mono h86 (by decide) (by decide)) hm89 hS (lv_sub hl [1, 0, 2, 3, 4, 5, 6, 7] rfl)
              · have q90 : x83.toInt < x33.toInt := ti_nle c84
                have h91 : iv (-2147483648) 2147483646 x83 := iv_ltL (y := x33) h81 h_x33 q90 (by decide)
                have h92 : iv (-2147483647) 2147483647 x33 := iv_gtL (y := x83) h_x33 h81 q90 (by decide)
                refine lv_aload_n hx hb dX12_best_61 rfl (lv_at hl 5 rfl) ?_
                refine tw_getrk hx hb hW hown hK hS f_X12_81_11 hz_a0 hk_a0 (b := b67) k68 dX12_best_62 ?_
                refine lv_bipush (v := 9) hx hb dX12_best_65 (by decide) ?_
                refine lv_iload_n hx hb dX12_best_67 rfl (lv_at hl 6 rfl) ?_
                refine tw_icmul (k := 9) (lo := 0) (hi := 6552) hx hb (by decide) h_a1 (by decide) ⟨by decide, by decide⟩ ⟨by decide, by decide⟩ dX12_best_68 (fun x95 e94 h93 => ?_)
                refine lv_iconst (v := 3) hx hb dX12_best_69 (by decide) ?_
                refine lv_iload hx hb dX12_best_70 (lv_at hl 4 rfl) ?_
                refine tw_icmul (k := 3) (lo := 0) (hi := 6) hx hb (by decide) h18 (by decide) ⟨by decide, by decide⟩ ⟨by decide, by decide⟩ dX12_best_72 (fun x98 e97 h96 => ?_)
                refine tw_iadd (lo := 0) (hi := 6558) hx hb h93 h96 ⟨by decide, by decide⟩ ⟨by decide, by decide⟩ dX12_best_73 (fun x101 e100 h99 => ?_)
                refine lv_iload hx hb dX12_best_74 (lv_at hl 1 rfl) ?_
                refine tw_iadd (lo := 1) (hi := 6560) hx hb h99 h66 ⟨by decide, by decide⟩ ⟨by decide, by decide⟩ dX12_best_76 (fun x104 e103 h102 => ?_)
                refine tw_iald hx hb hK hS hz_b67 hk_b67 (Or.inl rfl) hn_b67 (lo := (-2147483648)) (hi := 2147483647) h102 ⟨by decide, by decide⟩ rg_u14 dX12_best_77 (fun x107 k106 h105 => ?_)
                refine lv_goto (tgt := 83) hx hb dX12_best_78 (by decide) ?_
                refine lv_istore (lv' := [(6, .int x107), (7, .int x34), (3, .int x1), (4, .int x2), (5, .int x3), (0, .ref (base + a0)), (1, .int a1), (2, .int a2)]) hx hb dX12_best_83 hl (by decide) rfl (fun ls hl => ?_)
                refine tw_iinc (lv' := fun x110 => [(7, .int x110), (6, .int x107), (3, .int x1), (4, .int x2), (5, .int x3), (0, .ref (base + a0)), (1, .int a1), (2, .int a2)]) (lo := 2) (hi := 3) hx hb dX12_best_85 hl (k := 1) rfl h66 (by decide) ⟨by decide, by decide⟩ ⟨by decide, by decide⟩ (by decide) (fun _ => rfl) (fun x110 ls e109 h108 hl => ?_)
                refine lv_goto (tgt := 33) hx hb dX12_best_88 (by decide) ?_
                have hm111 : 3 - x110.toInt < (n_35 : Int) := by
                  have := (h_a1).1; have := (h_a1).2; have := (h_a2).1; have := (h_a2).2; have := (h102).1; have := (h102).2; have := (h108).1; have := (h108).2; have := (h66).1; have := (h66).2; have := (h78).1; have := (h78).2; omega
                exact ih_35 x107 x110 M35 R36 J37 H locs _ h105 (iv_mono h108 (by decide) (by decide)) hm111 hS (lv_sub hl [1, 0, 2, 3, 4, 5, 6, 7] rfl)
        have hm112 : 3 - (1 : Int32).toInt < (((3 : Nat) : Int) : Int) := by
          have := (h_a1).1; have := (h_a1).2; have := (h_a2).1; have := (h_a2).2; have : (1 : Int32).toInt = 1 := (by decide); omega
        exact W33_35 3 x32 1 M4 R5 J6 H locs _ h30 (iv_mono (iv_c (c := 1) (n := 1) (by decide)) (by decide) (by decide)) hm112 hS (lv_sub hl [1, 0, 2, 3, 4, 5, 6, 7] rfl)
  have hm113 : 3 - (0 : Int32).toInt < (((4 : Nat) : Int) : Int) := by
    have := (h_a1).1; have := (h_a1).2; have := (h_a2).1; have := (h_a2).2; have : (0 : Int32).toInt = 0 := (by decide); omega
  exact W8_4 4 0 0 0 Ma Ra Ja s.heap [] _ (iv_mono (iv_c (c := 0) (n := 0) (by decide)) (by decide) (by decide)) (iv_mono (iv_c (c := 0) (n := 0) (by decide)) (by decide) (by decide)) (iv_mono (iv_c (c := 0) (n := 0) (by decide)) (by decide) (by decide)) hm113 hS (lv_sub hl [2, 1, 0, 3, 4, 5] rfl)
def Lt_X12_canFit : WL := []
def LRt_X12_canFit : WL := []
set_option maxRecDepth 100000 in
set_option maxHeartbeats 4000000 in
theorem t_X12_canFit (l : Launch) (D : va_G) (cy : Nat → ClassId) (tx : (Nat → Nat) × (Nat → Nat)) (base Z : Nat) (K N : Nat → Nat) (Ma : MT) (Ra : RT) (Ja : JT) (hTy : Ty Z K N Ma Ra) (a0 : Nat) (hz_a0 : a0 < Z) (hk_a0 : K a0 = 12) (a1 : Int32) (h_a1 : iv (-2147483648) 2147483647 a1) (sd : Nat) (k_sd : Ra a0 25 = some sd) (e0 : Int32) (k_e0 : Ma sd (0 : Int32).toNatClampNeg = e0) (h_e0 : iv 0 10 e0) : Met l yX12_canFit [Cond.code yX12_canFit cX12_canFit 2 (some .boolean)] (md_rm 2 0 0) (va_Pc [.ref (base + a0), .int a1] (md_U D cy tx base Z K N Ma Ra Ja)) (mQi D cy tx base (fun r u => TP Z K N Lt_X12_canFit LRt_X12_canFit Ma Ra u ∧ (iv 0 1 r ∧ (¬ r = 0 → iv 1 5 e0) ∧ (¬ r = 0 → iv 1 6 a1)))) 0 0 (fun q => base ≤ q) := by
  refine tw_ofW (L := Lt_X12_canFit) (LR := LRt_X12_canFit) (by decide) (Nat.le_of_ble_eq_true rfl) hTy ?_
  intro p e s m args below meth c Q ls hx hb hr hlocks hown hml hW hK hT hS hQ hl
  have hl : lv_has ls 2 [(0, .ref (base + a0)), (1, .int a1)] := hl
  obtain ⟨hz_sd, hk_sd, hn_sd⟩ := hTy.refn hz_a0 hk_a0 (show rtR 12 25 = (23, 226, 0) from rfl) k_sd
  have hn_sd := hn_sd (by decide)
  refine lv_aload_n hx hb dX12_canFit_0 rfl (lv_at hl 0 rfl) ?_
  refine tw_getrk hx hb hW hown hK hS f_X12_45_11 hz_a0 hk_a0 (b := sd) k_sd dX12_canFit_1 ?_
  refine lv_iconst (v := 0) hx hb dX12_canFit_4 (by decide) ?_
  refine tw_ialk hx hb hK hS hz_sd hk_sd (Or.inr (by decide)) hn_sd (iv_c (c := 0) (n := 0) (by decide)) ⟨by decide, by decide⟩ (v := e0) k_e0 dX12_canFit_5 ?_
  refine lv_i2l hx hb dX12_canFit_6 rfl ?_
  refine lv_lconst (v := 1) hx hb dX12_canFit_7 (by decide) ?_
  refine lv_ldc2 hx hb hown (hW _ w_7_162 rfl) dX12_canFit_8 ?_
  refine tw_goi hS (md_runS (As := [.long e0.toInt64, .long 1, .long 5]) (rest := []) hx hb hml hown hW hK hT hS.1 (t_X12_in l D cy tx base Z K N Ma Ra Ja hS.2.1 (e0.toInt64) (1) (5)) s_X12_155 ⟨rfl, rfl, ⟨Nat.le_of_ble_eq_true rfl, Nat.le_of_ble_eq_true rfl⟩, ⟨Nat.le_of_ble_eq_true rfl, Nat.le_of_ble_eq_true rfl⟩⟩ rfl hl.1 rfl (Nat.le_of_ble_eq_true rfl) dX12_canFit_11) rfl rfl (fun x7 H locs M3 R4 J5 hS f1 g2 E6 => ?_)
  obtain ⟨h_x7, p8⟩ := E6
  refine lv_if_eq (tgt := 33) hx hb dX12_canFit_14 (by decide) (fun c9 => ?_) (fun c9 => ?_)
  · have q10 : x7.toInt = 0 := ti_eq c9
    have h11 : iv 0 0 x7 := ⟨by have := (h_x7).1; have := ((iv_c (c := 0) (n := 0) (by decide))).1; omega, by have := (h_x7).2; have := ((iv_c (c := 0) (n := 0) (by decide))).2; omega⟩
    refine lv_iconst (v := 0) hx hb dX12_canFit_33 (by decide) ?_
    exact tw_endz hx hb hr hlocks hK hT hS hQ rfl (⟨(iv_mono (iv_c (c := 0) (n := 0) (by decide)) (by decide) (by decide)), (fun h => absurd rfl h), (fun h => absurd rfl h)⟩) dX12_canFit_34
  · have q12 : ¬ x7.toInt = 0 := ti_ne c9
    have h13 : iv 1 1 x7 := ⟨by have := (h_x7).1; have := ((iv_c (c := 0) (n := 0) (by decide))).1; have := ((iv_c (c := 0) (n := 0) (by decide))).2; omega, by have := (h_x7).2; have := ((iv_c (c := 0) (n := 0) (by decide))).1; have := ((iv_c (c := 0) (n := 0) (by decide))).2; omega⟩
    have h14 : iv 1 5 e0 := in2iv (p8 c9) ((jv_c (x := 1) (n := 1) (by decide))).1 ((jv_c (x := 5) (n := 5) (by decide))).2
    refine lv_iload_n hx hb dX12_canFit_17 rfl (lv_at hl 1 rfl) ?_
    refine lv_i2l hx hb dX12_canFit_18 rfl ?_
    refine lv_lconst (v := 1) hx hb dX12_canFit_19 (by decide) ?_
    refine lv_ldc2 hx hb hown (hW _ w_8_120 rfl) dX12_canFit_20 ?_
    refine tw_goi hS (md_runS (As := [.long a1.toInt64, .long 1, .long 6]) (rest := []) hx hb hml hown hW hK hT hS.1 (t_X12_in l D cy tx base Z K N M3 R4 J5 hS.2.1 (a1.toInt64) (1) (6)) s_X12_155 ⟨rfl, rfl, ⟨Nat.le_of_ble_eq_true rfl, Nat.le_of_ble_eq_true rfl⟩, ⟨Nat.le_of_ble_eq_true rfl, Nat.le_of_ble_eq_true rfl⟩⟩ rfl hl.1 rfl (Nat.le_of_ble_eq_true rfl) dX12_canFit_23) rfl rfl (fun x21 H locs M17 R18 J19 hS f15 g16 E20 => ?_)
    obtain ⟨h_x21, p22⟩ := E20
    refine lv_if_eq (tgt := 33) hx hb dX12_canFit_26 (by decide) (fun c23 => ?_) (fun c23 => ?_)
    · have q24 : x21.toInt = 0 := ti_eq c23
      have h25 : iv 0 0 x21 := ⟨by have := (h_x21).1; have := ((iv_c (c := 0) (n := 0) (by decide))).1; omega, by have := (h_x21).2; have := ((iv_c (c := 0) (n := 0) (by decide))).2; omega⟩
      refine lv_iconst (v := 0) hx hb dX12_canFit_33 (by decide) ?_
      exact tw_endz hx hb hr hlocks hK hT hS hQ rfl (⟨(iv_mono (iv_c (c := 0) (n := 0) (by decide)) (by decide) (by decide)), (fun h => absurd rfl h), (fun h => absurd rfl h)⟩) dX12_canFit_34
    · have q26 : ¬ x21.toInt = 0 := ti_ne c23
      have h27 : iv 1 1 x21 := ⟨by have := (h_x21).1; have := ((iv_c (c := 0) (n := 0) (by decide))).1; have := ((iv_c (c := 0) (n := 0) (by decide))).2; omega, by have := (h_x21).2; have := ((iv_c (c := 0) (n := 0) (by decide))).1; have := ((iv_c (c := 0) (n := 0) (by decide))).2; omega⟩
      have h28 : iv 1 6 a1 := in2iv (p22 c23) ((jv_c (x := 1) (n := 1) (by decide))).1 ((jv_c (x := 6) (n := 6) (by decide))).2
      refine lv_iconst (v := 1) hx hb dX12_canFit_29 (by decide) ?_
      refine lv_goto (tgt := 34) hx hb dX12_canFit_30 (by decide) ?_
      exact tw_endz hx hb hr hlocks hK hT hS hQ rfl (⟨(iv_mono (iv_c (c := 1) (n := 1) (by decide)) (by decide) (by decide)), (fun _ => h14), (fun _ => h28)⟩) dX12_canFit_34
def Lt_X12_canLose : WL := []
def LRt_X12_canLose : WL := []
set_option maxRecDepth 100000 in
set_option maxHeartbeats 4000000 in
theorem t_X12_canLose (l : Launch) (D : va_G) (cy : Nat → ClassId) (tx : (Nat → Nat) × (Nat → Nat)) (base Z : Nat) (K N : Nat → Nat) (Ma : MT) (Ra : RT) (Ja : JT) (hTy : Ty Z K N Ma Ra) (a0 : Nat) (hz_a0 : a0 < Z) (hk_a0 : K a0 = 12) (a1 : Int32) (h_a1 : iv (-2147483648) 2147483647 a1) : Met l yX12_canLose [Cond.code yX12_canLose cX12_canLose 2 (some .boolean)] (md_rm 2 0 0) (va_Pc [.ref (base + a0), .int a1] (md_U D cy tx base Z K N Ma Ra Ja)) (mQi D cy tx base (fun r u => TP Z K N Lt_X12_canLose LRt_X12_canLose Ma Ra u ∧ (iv 0 1 r))) 0 0 (fun q => base ≤ q) := by
  refine tw_ofW (L := Lt_X12_canLose) (LR := LRt_X12_canLose) (by decide) (Nat.le_of_ble_eq_true rfl) hTy ?_
  intro p e s m args below meth c Q ls hx hb hr hlocks hown hml hW hK hT hS hQ hl
  have hl : lv_has ls 2 [(0, .ref (base + a0)), (1, .int a1)] := hl
  refine lv_aload_n hx hb dX12_canLose_0 rfl (lv_at hl 0 rfl) ?_
  refine lv_iload_n hx hb dX12_canLose_1 rfl (lv_at hl 1 rfl) ?_
  refine tw_goi hS (md_runV (As := [.int a1]) (rest := []) hx hb hml hown hW hK hT hS.1 (t_X12_isSet l D cy tx base Z K N Ma Ra Ja hS.2.1 a0 hz_a0 hk_a0 a1 h_a1) s_X12_404 ⟨rfl, rfl, ⟨Nat.le_of_ble_eq_true rfl, Nat.le_of_ble_eq_true rfl⟩, ⟨Nat.le_of_ble_eq_true rfl, Nat.le_of_ble_eq_true rfl⟩⟩ hz_a0 hk_a0 (by decide) rfl rfl hl.1 rfl (Nat.le_of_ble_eq_true rfl) dX12_canLose_2) rfl rfl (fun x7 H locs M3 R4 J5 hS f1 g2 E6 => ?_)
  have h_x7 := E6
  refine lv_if_eq (tgt := 57) hx hb dX12_canLose_5 (by decide) (fun c8 => ?_) (fun c8 => ?_)
  · have q9 : x7.toInt = 0 := ti_eq c8
    have h10 : iv 0 0 x7 := ⟨by have := (h_x7).1; have := ((iv_c (c := 0) (n := 0) (by decide))).1; omega, by have := (h_x7).2; have := ((iv_c (c := 0) (n := 0) (by decide))).2; omega⟩
    refine lv_iconst (v := 0) hx hb dX12_canLose_57 (by decide) ?_
    exact tw_endz hx hb hr hlocks hK hT hS hQ rfl ((iv_mono (iv_c (c := 0) (n := 0) (by decide)) (by decide) (by decide))) dX12_canLose_58
  · have q11 : ¬ x7.toInt = 0 := ti_ne c8
    have h12 : iv 1 1 x7 := ⟨by have := (h_x7).1; have := ((iv_c (c := 0) (n := 0) (by decide))).1; have := ((iv_c (c := 0) (n := 0) (by decide))).2; omega, by have := (h_x7).2; have := ((iv_c (c := 0) (n := 0) (by decide))).1; have := ((iv_c (c := 0) (n := 0) (by decide))).2; omega⟩
    refine lv_iload_n hx hb dX12_canLose_8 rfl (lv_at hl 1 rfl) ?_
    refine tw_goi hS (md_runS (As := [.int a1]) (rest := []) hx hb hml hown hW hK hT hS.1 (t_X12_bits l D cy tx base Z K N M3 R4 J5 hS.2.1 a1 h_a1) s_X12_341 ⟨rfl, rfl, ⟨Nat.le_of_ble_eq_true rfl, Nat.le_of_ble_eq_true rfl⟩, ⟨Nat.le_of_ble_eq_true rfl, Nat.le_of_ble_eq_true rfl⟩⟩ rfl hl.1 rfl (Nat.le_of_ble_eq_true rfl) dX12_canLose_9) rfl rfl (fun x19 H locs M15 R16 J17 hS f13 g14 E18 => ?_)
    have h_x19 := E18
    refine lv_i2l hx hb dX12_canLose_12 rfl ?_
    refine lv_lconst (v := 1) hx hb dX12_canLose_13 (by decide) ?_
    refine lv_ldc2 hx hb hown (hW _ w_8_59 rfl) dX12_canLose_14 ?_
    refine tw_goi hS (md_runS (As := [.long x19.toInt64, .long 1, .long 3]) (rest := []) hx hb hml hown hW hK hT hS.1 (t_X12_in l D cy tx base Z K N M15 R16 J17 hS.2.1 (x19.toInt64) (1) (3)) s_X12_155 ⟨rfl, rfl, ⟨Nat.le_of_ble_eq_true rfl, Nat.le_of_ble_eq_true rfl⟩, ⟨Nat.le_of_ble_eq_true rfl, Nat.le_of_ble_eq_true rfl⟩⟩ rfl hl.1 rfl (Nat.le_of_ble_eq_true rfl) dX12_canLose_17) rfl rfl (fun x26 H locs M22 R23 J24 hS f20 g21 E25 => ?_)
    obtain ⟨h_x26, p27⟩ := E25
    refine lv_if_eq (tgt := 57) hx hb dX12_canLose_20 (by decide) (fun c28 => ?_) (fun c28 => ?_)
    · have q29 : x26.toInt = 0 := ti_eq c28
      have h30 : iv 0 0 x26 := ⟨by have := (h_x26).1; have := ((iv_c (c := 0) (n := 0) (by decide))).1; omega, by have := (h_x26).2; have := ((iv_c (c := 0) (n := 0) (by decide))).2; omega⟩
      refine lv_iconst (v := 0) hx hb dX12_canLose_57 (by decide) ?_
      exact tw_endz hx hb hr hlocks hK hT hS hQ rfl ((iv_mono (iv_c (c := 0) (n := 0) (by decide)) (by decide) (by decide))) dX12_canLose_58
    · have q31 : ¬ x26.toInt = 0 := ti_ne c28
      have h32 : iv 1 1 x26 := ⟨by have := (h_x26).1; have := ((iv_c (c := 0) (n := 0) (by decide))).1; have := ((iv_c (c := 0) (n := 0) (by decide))).2; omega, by have := (h_x26).2; have := ((iv_c (c := 0) (n := 0) (by decide))).1; have := ((iv_c (c := 0) (n := 0) (by decide))).2; omega⟩
      have h33 : iv 1 3 x19 := in2iv (p27 c28) ((jv_c (x := 1) (n := 1) (by decide))).1 ((jv_c (x := 3) (n := 3) (by decide))).2
      refine lv_iload_n hx hb dX12_canLose_23 rfl (lv_at hl 1 rfl) ?_
      refine lv_aload_n hx hb dX12_canLose_24 rfl (lv_at hl 0 rfl) ?_
      refine tw_getr hx hb hW hown hK hS f_X12_45_11 hz_a0 hk_a0 (t := 23) (n := 226) rfl dX12_canLose_25 (fun b34 k35 hz_b34 hk_b34 hn_b34 => ?_)
      have hn_b34 := hn_b34 (by decide)
      refine lv_iconst (v := 2) hx hb dX12_canLose_28 (by decide) ?_
      refine tw_iald hx hb hK hS hz_b34 hk_b34 (Or.inr (by decide)) hn_b34 (lo := (-2147483648)) (hi := 2147483647) (iv_c (c := 2) (n := 2) (by decide)) ⟨by decide, by decide⟩ (rg_c (k0 := 2) rfl rfl rfl) dX12_canLose_29 (fun x38 k37 h36 => ?_)
      refine lv_iconst (v := (-1)) hx hb dX12_canLose_30 (by decide) ?_
      refine lv_ixor hx hb dX12_canLose_31 ?_
      refine tw_top (fun x40 => ?_)
      have h39 := iv_any x40
      refine lv_iand hx hb dX12_canLose_32 ?_
      refine tw_top (fun x42 => ?_)
      have h41 := iv_any x42
      refine lv_if_ne (tgt := 57) hx hb dX12_canLose_33 (by decide) (fun c43 => ?_) (fun c43 => ?_)
      · have q44 : ¬ x42.toInt = 0 := ti_ne c43
        refine lv_iconst (v := 0) hx hb dX12_canLose_57 (by decide) ?_
        exact tw_endz hx hb hr hlocks hK hT hS hQ rfl ((iv_mono (iv_c (c := 0) (n := 0) (by decide)) (by decide) (by decide))) dX12_canLose_58
      · have q45 : x42.toInt = 0 := ti_eq c43
        have h46 : iv 0 0 x42 := ⟨by have := (h41).1; have := ((iv_c (c := 0) (n := 0) (by decide))).1; omega, by have := (h41).2; have := ((iv_c (c := 0) (n := 0) (by decide))).2; omega⟩
        refine lv_aload_n hx hb dX12_canLose_36 rfl (lv_at hl 0 rfl) ?_
        refine tw_getrk hx hb hW hown hK hS f_X12_45_11 hz_a0 hk_a0 (b := b34) k35 dX12_canLose_37 ?_
        refine lv_iconst (v := 4) hx hb dX12_canLose_40 (by decide) ?_
        refine tw_iald hx hb hK hS hz_b34 hk_b34 (Or.inr (by decide)) hn_b34 (lo := 0) (hi := 8) (iv_c (c := 4) (n := 4) (by decide)) ⟨by decide, by decide⟩ (rg_c (k0 := 4) rfl rfl rfl) dX12_canLose_41 (fun x49 k48 h47 => ?_)
        refine lv_i2l hx hb dX12_canLose_42 rfl ?_
        refine lv_lconst (v := 1) hx hb dX12_canLose_43 (by decide) ?_
        refine lv_ldc2 hx hb hown (hW _ w_7_141 rfl) dX12_canLose_44 ?_
        refine tw_goi hS (md_runS (As := [.long x49.toInt64, .long 1, .long 4]) (rest := []) hx hb hml hown hW hK hT hS.1 (t_X12_in l D cy tx base Z K N M22 R23 J24 hS.2.1 (x49.toInt64) (1) (4)) s_X12_155 ⟨rfl, rfl, ⟨Nat.le_of_ble_eq_true rfl, Nat.le_of_ble_eq_true rfl⟩, ⟨Nat.le_of_ble_eq_true rfl, Nat.le_of_ble_eq_true rfl⟩⟩ rfl hl.1 rfl (Nat.le_of_ble_eq_true rfl) dX12_canLose_47) rfl rfl (fun x56 H locs M52 R53 J54 hS f50 g51 E55 => ?_)
        obtain ⟨h_x56, p57⟩ := E55
        refine lv_if_eq (tgt := 57) hx hb dX12_canLose_50 (by decide) (fun c58 => ?_) (fun c58 => ?_)
        · have q59 : x56.toInt = 0 := ti_eq c58
          have h60 : iv 0 0 x56 := ⟨by have := (h_x56).1; have := ((iv_c (c := 0) (n := 0) (by decide))).1; omega, by have := (h_x56).2; have := ((iv_c (c := 0) (n := 0) (by decide))).2; omega⟩
          refine lv_iconst (v := 0) hx hb dX12_canLose_57 (by decide) ?_
          exact tw_endz hx hb hr hlocks hK hT hS hQ rfl ((iv_mono (iv_c (c := 0) (n := 0) (by decide)) (by decide) (by decide))) dX12_canLose_58
        · have q61 : ¬ x56.toInt = 0 := ti_ne c58
          have h62 : iv 1 1 x56 := ⟨by have := (h_x56).1; have := ((iv_c (c := 0) (n := 0) (by decide))).1; have := ((iv_c (c := 0) (n := 0) (by decide))).2; omega, by have := (h_x56).2; have := ((iv_c (c := 0) (n := 0) (by decide))).1; have := ((iv_c (c := 0) (n := 0) (by decide))).2; omega⟩
          have h63 : iv 1 4 x49 := in2iv (p57 c58) ((jv_c (x := 1) (n := 1) (by decide))).1 ((jv_c (x := 4) (n := 4) (by decide))).2
          refine lv_iconst (v := 1) hx hb dX12_canLose_53 (by decide) ?_
          refine lv_goto (tgt := 58) hx hb dX12_canLose_54 (by decide) ?_
          exact tw_endz hx hb hr hlocks hK hT hS hQ rfl ((iv_mono (iv_c (c := 1) (n := 1) (by decide)) (by decide) (by decide))) dX12_canLose_58
def Lt_X12_count : WL := []
def LRt_X12_count : WL := []
set_option maxRecDepth 100000 in
set_option maxHeartbeats 4000000 in
theorem t_X12_count (l : Launch) (D : va_G) (cy : Nat → ClassId) (tx : (Nat → Nat) × (Nat → Nat)) (base Z : Nat) (K N : Nat → Nat) (Ma : MT) (Ra : RT) (Ja : JT) (hTy : Ty Z K N Ma Ra) (a0 : Nat) (hz_a0 : a0 < Z) (hk_a0 : K a0 = 12) (a1 : Int32) (h_a1 : iv (-2147483648) 2147483647 a1) : Met l yX12_count [Cond.code yX12_count cX12_count 4 (some .int)] (md_rm 2 0 0) (va_Pc [.ref (base + a0), .int a1] (md_U D cy tx base Z K N Ma Ra Ja)) (mQi D cy tx base (fun r u => TP Z K N Lt_X12_count LRt_X12_count Ma Ra u ∧ (iv (-2147483648) 2147483647 r))) 0 0 (fun q => base ≤ q) := by
  refine tw_ofW (L := Lt_X12_count) (LR := LRt_X12_count) (by decide) (Nat.le_of_ble_eq_true rfl) hTy ?_
  intro p e s m args below meth c Q ls hx hb hr hlocks hown hml hW hK hT hS hQ hl
  have hl : lv_has ls 4 [(0, .ref (base + a0)), (1, .int a1)] := hl
  refine lv_iconst (v := 0) hx hb dX12_count_0 (by decide) ?_
  refine lv_istore_n (lv' := [(2, .int 0), (0, .ref (base + a0)), (1, .int a1)]) hx hb dX12_count_1 rfl hl (by decide) rfl (fun ls hl => ?_)
  refine lv_iload_n hx hb dX12_count_2 rfl (lv_at hl 2 rfl) ?_
  by_cases c1 : a1 = 0
  · subst c1
    refine lv_tableIn (off := 61) (tgt := 64) hx hb dX12_count_3 (by decide) (by decide) rfl (by decide) ?_
    refine lv_aload_n hx hb dX12_count_64 rfl (lv_at hl 1 rfl) ?_
    refine tw_getr hx hb hW hown hK hS f_X12_45_11 hz_a0 hk_a0 (t := 23) (n := 226) rfl dX12_count_65 (fun b2 k3 hz_b2 hk_b2 hn_b2 => ?_)
    have hn_b2 := hn_b2 (by decide)
    refine lv_iload_n hx hb dX12_count_68 rfl (lv_at hl 2 rfl) ?_
    refine tw_iald hx hb hK hS hz_b2 hk_b2 (Or.inr (by decide)) hn_b2 (lo := 0) (hi := 10) (iv_c (c := 0) (n := 0) (by decide)) ⟨by decide, by decide⟩ (rg_c (k0 := 0) rfl rfl rfl) dX12_count_69 (fun x6 k5 h4 => ?_)
    exact tw_endi hx hb hr hlocks hK hT hS hQ ((iv_mono h4 (by decide) (by decide))) dX12_count_70
  have q7 : ¬ a1.toInt = 0 := ti_ne c1
  by_cases c8 : a1 = 1
  · subst c8
    refine lv_tableIn (off := 61) (tgt := 64) hx hb dX12_count_3 (by decide) (by decide) rfl (by decide) ?_
    refine lv_aload_n hx hb dX12_count_64 rfl (lv_at hl 1 rfl) ?_
    refine tw_getr hx hb hW hown hK hS f_X12_45_11 hz_a0 hk_a0 (t := 23) (n := 226) rfl dX12_count_65 (fun b9 k10 hz_b9 hk_b9 hn_b9 => ?_)
    have hn_b9 := hn_b9 (by decide)
    refine lv_iload_n hx hb dX12_count_68 rfl (lv_at hl 2 rfl) ?_
    refine tw_iald hx hb hK hS hz_b9 hk_b9 (Or.inr (by decide)) hn_b9 (lo := 0) (hi := 12) (iv_c (c := 1) (n := 1) (by decide)) ⟨by decide, by decide⟩ (rg_c (k0 := 1) rfl rfl rfl) dX12_count_69 (fun x13 k12 h11 => ?_)
    exact tw_endi hx hb hr hlocks hK hT hS hQ ((iv_mono h11 (by decide) (by decide))) dX12_count_70
  have q14 : ¬ a1.toInt = 1 := ti_ne c8
  by_cases c15 : a1 = 2
  · subst c15
    refine lv_tableIn (off := 68) (tgt := 71) hx hb dX12_count_3 (by decide) (by decide) rfl (by decide) ?_
    refine lv_aload_n hx hb dX12_count_71 rfl (lv_at hl 1 rfl) ?_
    refine tw_geti hx hb hW hown hK hS f_X12_298_11 hz_a0 hk_a0 (lo := 0) (hi := 6) rfl dX12_count_72 (fun x18 k17 h16 => ?_)
    exact tw_endi hx hb hr hlocks hK hT hS hQ ((iv_mono h16 (by decide) (by decide))) dX12_count_75
  have q19 : ¬ a1.toInt = 2 := ti_ne c15
  by_cases c20 : a1 = 3
  · subst c20
    refine lv_tableIn (off := 73) (tgt := 76) hx hb dX12_count_3 (by decide) (by decide) rfl (by decide) ?_
    refine lv_aload_n hx hb dX12_count_76 rfl (lv_at hl 1 rfl) ?_
    refine tw_getr hx hb hW hown hK hS f_X12_45_11 hz_a0 hk_a0 (t := 23) (n := 226) rfl dX12_count_77 (fun b21 k22 hz_b21 hk_b21 hn_b21 => ?_)
    have hn_b21 := hn_b21 (by decide)
    refine lv_iconst (v := 2) hx hb dX12_count_80 (by decide) ?_
    refine tw_iald hx hb hK hS hz_b21 hk_b21 (Or.inr (by decide)) hn_b21 (lo := (-2147483648)) (hi := 2147483647) (iv_c (c := 2) (n := 2) (by decide)) ⟨by decide, by decide⟩ (rg_c (k0 := 2) rfl rfl rfl) dX12_count_81 (fun x25 k24 h23 => ?_)
    refine tw_goi hS (md_runS (As := [.int x25]) (rest := []) hx hb hml hown hW hK hT hS.1 (t_X12_bits l D cy tx base Z K N Ma Ra Ja hS.2.1 x25 h23) s_X12_341 ⟨rfl, rfl, ⟨Nat.le_of_ble_eq_true rfl, Nat.le_of_ble_eq_true rfl⟩, ⟨Nat.le_of_ble_eq_true rfl, Nat.le_of_ble_eq_true rfl⟩⟩ rfl hl.1 rfl (Nat.le_of_ble_eq_true rfl) dX12_count_82) rfl rfl (fun x32 H locs M28 R29 J30 hS f26 g27 E31 => ?_)
    have h_x32 := E31
    exact tw_endi hx hb hr hlocks hK hT hS hQ (h_x32) dX12_count_85
  have q33 : ¬ a1.toInt = 3 := ti_ne c20
  by_cases c34 : a1 = 4
  · subst c34
    refine lv_tableIn (off := 83) (tgt := 86) hx hb dX12_count_3 (by decide) (by decide) rfl (by decide) ?_
    refine lv_iconst (v := 0) hx hb dX12_count_86 (by decide) ?_
    refine lv_istore_n (lv' := [(3, .int 0), (2, .int 0), (0, .ref (base + a0)), (1, .int 4)]) hx hb dX12_count_87 rfl hl (by decide) rfl (fun ls hl => ?_)
    have W88_37 : ∀ (n_37 : Nat) (x35 : Int32) (x36 : Int32) (M37 : MT) (R38 : RT) (J39 : JT) (H : Heap) (locs : List Loc) (ls : Array Slot) (h_x35 : iv (-2147483648) 2147483647 x35) (h_x36 : iv 0 10 x36) (hm_37 : 10 - x36.toInt < (n_37 : Int)) (hS : SB D cy base Z K N Lt_X12_count LRt_X12_count Ma Ra M37 R38 J39 s H locs) (hl : lv_has ls 4 [(2, .int x35), (3, .int x36), (0, .ref (base + a0)), (1, .int 4)]), W p l e (md_rm 2 0 0) s m args below meth c H locs 0 0 Q (F0 m 88 ls []) := by
      intro n_37
      induction n_37 with
      | zero =>
        intro x35 x36 M37 R38 J39 H locs ls h_x35 h_x36 hm_37 hS hl
        exfalso
        have := (h_x36).1; have := (h_x36).2; omega
      | succ n_37 ih_37 =>
        intro x35 x36 M37 R38 J39 H locs ls h_x35 h_x36 hm_37 hS hl
        have f40 := hS.2.2.1
        have g41 := hS.2.2.2
        refine lv_iload_n hx hb dX12_count_88 rfl (lv_at hl 1 rfl) ?_
        refine lv_aload_n hx hb dX12_count_89 rfl (lv_at hl 2 rfl) ?_
        refine tw_getr hx hb hW hown hK hS f_X12_45_11 hz_a0 hk_a0 (t := 23) (n := 226) rfl dX12_count_90 (fun b42 k43 hz_b42 hk_b42 hn_b42 => ?_)
        have hn_b42 := hn_b42 (by decide)
        refine lv_iconst (v := 0) hx hb dX12_count_93 (by decide) ?_
        refine tw_iald hx hb hK hS hz_b42 hk_b42 (Or.inr (by decide)) hn_b42 (lo := 0) (hi := 10) (iv_c (c := 0) (n := 0) (by decide)) ⟨by decide, by decide⟩ (rg_c (k0 := 0) rfl rfl rfl) dX12_count_94 (fun x46 k45 h44 => ?_)
        refine lv_icmp_ge (tgt := 133) hx hb dX12_count_95 (by decide) (fun c47 => ?_) (fun c47 => ?_)
        · have q48 : x46.toInt ≤ x36.toInt := ti_le c47
          refine lv_iload_n hx hb dX12_count_133 rfl (lv_at hl 0 rfl) ?_
          exact tw_endi hx hb hr hlocks hK hT hS hQ (h_x35) dX12_count_134
        · have q49 : x36.toInt < x46.toInt := ti_nle c47
          have h50 : iv 0 9 x36 := iv_ltL (y := x46) h_x36 h44 q49 (by decide)
          have h51 : iv 1 10 x46 := iv_gtL (y := x36) h44 h_x36 q49 (by decide)
          refine lv_iload_n hx hb dX12_count_98 rfl (lv_at hl 0 rfl) ?_
          refine lv_aload_n hx hb dX12_count_99 rfl (lv_at hl 2 rfl) ?_
          refine tw_getrk hx hb hW hown hK hS f_X12_45_11 hz_a0 hk_a0 (b := b42) k43 dX12_count_100 ?_
          refine lv_iconst (v := 2) hx hb dX12_count_103 (by decide) ?_
          refine tw_iald hx hb hK hS hz_b42 hk_b42 (Or.inr (by decide)) hn_b42 (lo := (-2147483648)) (hi := 2147483647) (iv_c (c := 2) (n := 2) (by decide)) ⟨by decide, by decide⟩ (rg_c (k0 := 2) rfl rfl rfl) dX12_count_104 (fun x54 k53 h52 => ?_)
          refine lv_iload_n hx hb dX12_count_105 rfl (lv_at hl 1 rfl) ?_
          refine tw_goi hS (md_runS (As := [.int x54, .int x36]) (rest := [.int x35]) hx hb hml hown hW hK hT hS.1 (t_X12_isOf l D cy tx base Z K N M37 R38 J39 hS.2.1 x54 h52 x36 h50) s_X12_322 ⟨rfl, rfl, ⟨Nat.le_of_ble_eq_true rfl, Nat.le_of_ble_eq_true rfl⟩, ⟨Nat.le_of_ble_eq_true rfl, Nat.le_of_ble_eq_true rfl⟩⟩ rfl hl.1 rfl (Nat.le_of_ble_eq_true rfl) dX12_count_106) rfl rfl (fun x61 H locs M57 R58 J59 hS f55 g56 E60 => ?_)
          have h_x61 := E60
          refine lv_if_eq (tgt := 124) hx hb dX12_count_109 (by decide) (fun c62 => ?_) (fun c62 => ?_)
          · have q63 : x61.toInt = 0 := ti_eq c62
            have h64 : iv 0 0 x61 := ⟨by have := (h_x61).1; have := ((iv_c (c := 0) (n := 0) (by decide))).1; omega, by have := (h_x61).2; have := ((iv_c (c := 0) (n := 0) (by decide))).2; omega⟩
            refine lv_iconst (v := 0) hx hb dX12_count_124 (by decide) ?_
            refine tw_iadd (lo := (-2147483648)) (hi := 2147483647) hx hb h_x35 (iv_c (c := 0) (n := 0) (by decide)) ⟨by decide, by decide⟩ ⟨by decide, by decide⟩ dX12_count_125 (fun x67 e66 h65 => ?_)
            have e66 : x67.toInt = x35.toInt + 0 := e66
            refine lv_istore_n (lv' := [(2, .int x67), (3, .int x36), (0, .ref (base + a0)), (1, .int 4)]) hx hb dX12_count_126 rfl hl (by decide) rfl (fun ls hl => ?_)
            refine tw_iinc (lv' := fun x70 => [(3, .int x70), (2, .int x67), (0, .ref (base + a0)), (1, .int 4)]) (lo := 1) (hi := 10) hx hb dX12_count_127 hl (k := 1) rfl h50 (by decide) ⟨by decide, by decide⟩ ⟨by decide, by decide⟩ (by decide) (fun _ => rfl) (fun x70 ls e69 h68 hl => ?_)
            refine lv_goto (tgt := 88) hx hb dX12_count_130 (by decide) ?_
            have hm71 : 10 - x70.toInt < (n_37 : Int) := by
              have := (h50).1; have := (h50).2; have := (h68).1; have := (h68).2; omega
            exact ih_37 x67 x70 M57 R58 J59 H locs _ h65 (iv_mono h68 (by decide) (by decide)) hm71 hS (lv_sub hl [1, 0, 2, 3] rfl)
          · have q72 : ¬ x61.toInt = 0 := ti_ne c62
            have h73 : iv 1 1 x61 := ⟨by have := (h_x61).1; have := ((iv_c (c := 0) (n := 0) (by decide))).1; have := ((iv_c (c := 0) (n := 0) (by decide))).2; omega, by have := (h_x61).2; have := ((iv_c (c := 0) (n := 0) (by decide))).1; have := ((iv_c (c := 0) (n := 0) (by decide))).2; omega⟩
            refine lv_aload_n hx hb dX12_count_112 rfl (lv_at hl 2 rfl) ?_
            have k74 : R58 a0 25 = some b42 := (Fr.kp (k := 25) g56 hk_a0 rfl).trans k43
            refine tw_getrk hx hb hW hown hK hS f_X12_45_11 hz_a0 hk_a0 (b := b42) k74 dX12_count_113 ?_
            refine lv_bipush (v := 10) hx hb dX12_count_116 (by decide) ?_
            refine lv_iload_n hx hb dX12_count_118 rfl (lv_at hl 1 rfl) ?_
            refine tw_iadd (lo := 10) (hi := 19) hx hb (iv_c (c := 10) (n := 10) (by decide)) h50 ⟨by decide, by decide⟩ ⟨by decide, by decide⟩ dX12_count_119 (fun x77 e76 h75 => ?_)
            have e76 : x77.toInt = 10 + x36.toInt := e76
            refine tw_iald hx hb hK hS hz_b42 hk_b42 (Or.inr (by decide)) hn_b42 (lo := 0) (hi := 9999) h75 ⟨by decide, by decide⟩ (rg_sv ⟨by decide, by decide⟩) dX12_count_120 (fun x80 k79 h78 => ?_)
            refine lv_goto (tgt := 125) hx hb dX12_count_121 (by decide) ?_
            refine lv_iadd hx hb dX12_count_125 ?_
            refine tw_top (fun x82 => ?_)
            have h81 := iv_any x82
            refine lv_istore_n (lv' := [(2, .int x82), (3, .int x36), (0, .ref (base + a0)), (1, .int 4)]) hx hb dX12_count_126 rfl hl (by decide) rfl (fun ls hl => ?_)
            refine tw_iinc (lv' := fun x85 => [(3, .int x85), (2, .int x82), (0, .ref (base + a0)), (1, .int 4)]) (lo := 1) (hi := 10) hx hb dX12_count_127 hl (k := 1) rfl h50 (by decide) ⟨by decide, by decide⟩ ⟨by decide, by decide⟩ (by decide) (fun _ => rfl) (fun x85 ls e84 h83 hl => ?_)
            refine lv_goto (tgt := 88) hx hb dX12_count_130 (by decide) ?_
            have hm86 : 10 - x85.toInt < (n_37 : Int) := by
              have := (h50).1; have := (h50).2; have := (h75).1; have := (h75).2; have := (h83).1; have := (h83).2; omega
            exact ih_37 x82 x85 M57 R58 J59 H locs _ h81 (iv_mono h83 (by decide) (by decide)) hm86 hS (lv_sub hl [1, 0, 2, 3] rfl)
    have hm87 : 10 - (0 : Int32).toInt < (((11 : Nat) : Int) : Int) := by
      have : (0 : Int32).toInt = 0 := (by decide); omega
    exact W88_37 11 0 0 Ma Ra Ja s.heap [] _ (iv_mono (iv_c (c := 0) (n := 0) (by decide)) (by decide) (by decide)) (iv_mono (iv_c (c := 0) (n := 0) (by decide)) (by decide) (by decide)) hm87 hS (lv_sub hl [1, 0, 2, 3] rfl)
  have q88 : ¬ a1.toInt = 4 := ti_ne c34
  by_cases c89 : a1 = 5
  · subst c89
    refine lv_tableIn (off := 132) (tgt := 135) hx hb dX12_count_3 (by decide) (by decide) rfl (by decide) ?_
    refine lv_aload_n hx hb dX12_count_135 rfl (lv_at hl 1 rfl) ?_
    refine tw_getr hx hb hW hown hK hS f_X12_45_11 hz_a0 hk_a0 (t := 23) (n := 226) rfl dX12_count_136 (fun b90 k91 hz_b90 hk_b90 hn_b90 => ?_)
    have hn_b90 := hn_b90 (by decide)
    refine lv_iconst (v := 3) hx hb dX12_count_139 (by decide) ?_
    refine tw_iald hx hb hK hS hz_b90 hk_b90 (Or.inr (by decide)) hn_b90 (lo := (-2147483648)) (hi := 2147483647) (iv_c (c := 3) (n := 3) (by decide)) ⟨by decide, by decide⟩ (rg_c (k0 := 3) rfl rfl rfl) dX12_count_140 (fun x94 k93 h92 => ?_)
    exact tw_endi hx hb hr hlocks hK hT hS hQ (h92) dX12_count_141
  have q95 : ¬ a1.toInt = 5 := ti_ne c89
  by_cases c96 : a1 = 6
  · subst c96
    refine lv_tableIn (off := 139) (tgt := 142) hx hb dX12_count_3 (by decide) (by decide) rfl (by decide) ?_
    refine lv_aload_n hx hb dX12_count_142 rfl (lv_at hl 1 rfl) ?_
    refine tw_getr hx hb hW hown hK hS f_X12_45_11 hz_a0 hk_a0 (t := 23) (n := 226) rfl dX12_count_143 (fun b97 k98 hz_b97 hk_b97 hn_b97 => ?_)
    have hn_b97 := hn_b97 (by decide)
    refine lv_iconst (v := 4) hx hb dX12_count_146 (by decide) ?_
    refine tw_iald hx hb hK hS hz_b97 hk_b97 (Or.inr (by decide)) hn_b97 (lo := 0) (hi := 8) (iv_c (c := 4) (n := 4) (by decide)) ⟨by decide, by decide⟩ (rg_c (k0 := 4) rfl rfl rfl) dX12_count_147 (fun x101 k100 h99 => ?_)
    exact tw_endi hx hb hr hlocks hK hT hS hQ ((iv_mono h99 (by decide) (by decide))) dX12_count_148
  have q102 : ¬ a1.toInt = 6 := ti_ne c96
  by_cases c103 : a1 = 7
  · subst c103
    refine lv_tableIn (off := 146) (tgt := 149) hx hb dX12_count_3 (by decide) (by decide) rfl (by decide) ?_
    refine lv_aload_n hx hb dX12_count_149 rfl (lv_at hl 1 rfl) ?_
    refine tw_getr hx hb hW hown hK hS f_X12_45_11 hz_a0 hk_a0 (t := 23) (n := 226) rfl dX12_count_150 (fun b104 k105 hz_b104 hk_b104 hn_b104 => ?_)
    have hn_b104 := hn_b104 (by decide)
    refine lv_iconst (v := 5) hx hb dX12_count_153 (by decide) ?_
    refine tw_iald hx hb hK hS hz_b104 hk_b104 (Or.inr (by decide)) hn_b104 (lo := 0) (hi := 12) (iv_c (c := 5) (n := 5) (by decide)) ⟨by decide, by decide⟩ (rg_c (k0 := 5) rfl rfl rfl) dX12_count_154 (fun x108 k107 h106 => ?_)
    exact tw_endi hx hb hr hlocks hK hT hS hQ ((iv_mono h106 (by decide) (by decide))) dX12_count_155
  have q109 : ¬ a1.toInt = 7 := ti_ne c103
  by_cases c110 : a1 = 8
  · subst c110
    refine lv_tableIn (off := 153) (tgt := 156) hx hb dX12_count_3 (by decide) (by decide) rfl (by decide) ?_
    refine lv_aload_n hx hb dX12_count_156 rfl (lv_at hl 1 rfl) ?_
    refine tw_getr hx hb hW hown hK hS f_X12_45_11 hz_a0 hk_a0 (t := 23) (n := 226) rfl dX12_count_157 (fun b111 k112 hz_b111 hk_b111 hn_b111 => ?_)
    have hn_b111 := hn_b111 (by decide)
    refine lv_bipush (v := 6) hx hb dX12_count_160 (by decide) ?_
    refine tw_iald hx hb hK hS hz_b111 hk_b111 (Or.inr (by decide)) hn_b111 (lo := 0) (hi := 2147483647) (iv_c (c := 6) (n := 6) (by decide)) ⟨by decide, by decide⟩ (rg_c (k0 := 6) rfl rfl rfl) dX12_count_162 (fun x115 k114 h113 => ?_)
    exact tw_endi hx hb hr hlocks hK hT hS hQ ((iv_mono h113 (by decide) (by decide))) dX12_count_163
  have q116 : ¬ a1.toInt = 8 := ti_ne c110
  by_cases c117 : a1 = 9
  · subst c117
    refine lv_tableIn (off := 161) (tgt := 164) hx hb dX12_count_3 (by decide) (by decide) rfl (by decide) ?_
    refine lv_aload_n hx hb dX12_count_164 rfl (lv_at hl 1 rfl) ?_
    refine tw_geti hx hb hW hown hK hS f_X12_116_11 hz_a0 hk_a0 (lo := 0) (hi := 400) rfl dX12_count_165 (fun x120 k119 h118 => ?_)
    exact tw_endi hx hb hr hlocks hK hT hS hQ ((iv_mono h118 (by decide) (by decide))) dX12_count_168
  have q121 : ¬ a1.toInt = 9 := ti_ne c117
  by_cases c122 : a1 = 10
  · subst c122
    refine lv_tableIn (off := 166) (tgt := 169) hx hb dX12_count_3 (by decide) (by decide) rfl (by decide) ?_
    refine lv_aload_n hx hb dX12_count_169 rfl (lv_at hl 1 rfl) ?_
    refine tw_getr hx hb hW hown hK hS f_X12_45_11 hz_a0 hk_a0 (t := 23) (n := 226) rfl dX12_count_170 (fun b123 k124 hz_b123 hk_b123 hn_b123 => ?_)
    have hn_b123 := hn_b123 (by decide)
    refine lv_iload_n hx hb dX12_count_173 rfl (lv_at hl 2 rfl) ?_
    refine lv_iconst (v := 3) hx hb dX12_count_174 (by decide) ?_
    refine lv_isub hx hb dX12_count_175 ?_
    refine md_top (y := 7) (by decide) ?_
    refine tw_iald hx hb hK hS hz_b123 hk_b123 (Or.inr (by decide)) hn_b123 (lo := (-2147483648)) (hi := 2147483647) (iv_c (c := 7) (n := 7) (by decide)) ⟨by decide, by decide⟩ (rg_c (k0 := 7) rfl rfl rfl) dX12_count_176 (fun x127 k126 h125 => ?_)
    exact tw_endi hx hb hr hlocks hK hT hS hQ (h125) dX12_count_177
  have q128 : ¬ a1.toInt = 10 := ti_ne c122
  by_cases c129 : a1 = 11
  · subst c129
    refine lv_tableIn (off := 166) (tgt := 169) hx hb dX12_count_3 (by decide) (by decide) rfl (by decide) ?_
    refine lv_aload_n hx hb dX12_count_169 rfl (lv_at hl 1 rfl) ?_
    refine tw_getr hx hb hW hown hK hS f_X12_45_11 hz_a0 hk_a0 (t := 23) (n := 226) rfl dX12_count_170 (fun b130 k131 hz_b130 hk_b130 hn_b130 => ?_)
    have hn_b130 := hn_b130 (by decide)
    refine lv_iload_n hx hb dX12_count_173 rfl (lv_at hl 2 rfl) ?_
    refine lv_iconst (v := 3) hx hb dX12_count_174 (by decide) ?_
    refine lv_isub hx hb dX12_count_175 ?_
    refine md_top (y := 8) (by decide) ?_
    refine tw_iald hx hb hK hS hz_b130 hk_b130 (Or.inr (by decide)) hn_b130 (lo := 0) (hi := 9999) (iv_c (c := 8) (n := 8) (by decide)) ⟨by decide, by decide⟩ (rg_c (k0 := 8) rfl rfl rfl) dX12_count_176 (fun x134 k133 h132 => ?_)
    exact tw_endi hx hb hr hlocks hK hT hS hQ ((iv_mono h132 (by decide) (by decide))) dX12_count_177
  have q135 : ¬ a1.toInt = 11 := ti_ne c129
  refine lv_tableOut (tgt := 178) hx hb dX12_count_3 (by have := (h_a1).1; have := (h_a1).2; omega) (by decide) ?_
  refine lv_iconst (v := (-1)) hx hb dX12_count_178 (by decide) ?_
  exact tw_endi hx hb hr hlocks hK hT hS hQ ((iv_mono (iv_c (c := (-1)) (n := (-1)) (by decide)) (by decide) (by decide))) dX12_count_179
def Lt_X12_worthOf : WL := []
def LRt_X12_worthOf : WL := []
set_option maxRecDepth 100000 in
set_option maxHeartbeats 4000000 in
theorem t_X12_worthOf (l : Launch) (D : va_G) (cy : Nat → ClassId) (tx : (Nat → Nat) × (Nat → Nat)) (base Z : Nat) (K N : Nat → Nat) (Ma : MT) (Ra : RT) (Ja : JT) (hTy : Ty Z K N Ma Ra) (a0 : Nat) (hz_a0 : a0 < Z) (hk_a0 : K a0 = 12) (a1 : Int32) (h_a1 : iv 0 9 a1) (a2 : Int32) (h_a2 : iv 0 11 a2) : Met l yX12_worthOf [Cond.code yX12_worthOf cX12_worthOf 3 (some .int)] (md_rm 1 0 0) (va_Pc [.ref (base + a0), .int a1, .int a2] (md_U D cy tx base Z K N Ma Ra Ja)) (mQi D cy tx base (fun r u => TP Z K N Lt_X12_worthOf LRt_X12_worthOf Ma Ra u ∧ (iv (-2147483648) 2147483647 r))) 0 0 (fun q => base ≤ q) := by
  refine tw_ofW (L := Lt_X12_worthOf) (LR := LRt_X12_worthOf) (by decide) (Nat.le_of_ble_eq_true rfl) hTy ?_
  intro p e s m args below meth c Q ls hx hb hr hlocks hown hml hW hK hT hS hQ hl
  have hl : lv_has ls 3 [(0, .ref (base + a0)), (1, .int a1), (2, .int a2)] := hl
  refine lv_aload_n hx hb dX12_worthOf_0 rfl (lv_at hl 0 rfl) ?_
  refine tw_getr hx hb hW hown hK hS f_X12_45_11 hz_a0 hk_a0 (t := 23) (n := 226) rfl dX12_worthOf_1 (fun b1 k2 hz_b1 hk_b1 hn_b1 => ?_)
  have hn_b1 := hn_b1 (by decide)
  refine lv_bipush (v := 50) hx hb dX12_worthOf_4 (by decide) ?_
  refine lv_bipush (v := 10) hx hb dX12_worthOf_6 (by decide) ?_
  refine lv_iload_n hx hb dX12_worthOf_8 rfl (lv_at hl 2 rfl) ?_
  refine tw_icmul (k := 10) (lo := 0) (hi := 110) hx hb (by decide) h_a2 (by decide) ⟨by decide, by decide⟩ ⟨by decide, by decide⟩ dX12_worthOf_9 (fun x5 e4 h3 => ?_)
  refine tw_iadd (lo := 50) (hi := 160) hx hb (iv_c (c := 50) (n := 50) (by decide)) h3 ⟨by decide, by decide⟩ ⟨by decide, by decide⟩ dX12_worthOf_10 (fun x8 e7 h6 => ?_)
  have e7 : x8.toInt = 50 + x5.toInt := e7
  refine lv_iload_n hx hb dX12_worthOf_11 rfl (lv_at hl 1 rfl) ?_
  refine tw_iadd (lo := 50) (hi := 169) hx hb h6 h_a1 ⟨by decide, by decide⟩ ⟨by decide, by decide⟩ dX12_worthOf_12 (fun x11 e10 h9 => ?_)
  refine tw_iald hx hb hK hS hz_b1 hk_b1 (Or.inr (by decide)) hn_b1 (lo := (-2147483648)) (hi := 2147483647) h9 ⟨by decide, by decide⟩ rg_full dX12_worthOf_13 (fun x14 k13 h12 => ?_)
  exact tw_endi hx hb hr hlocks hK hT hS hQ (h12) dX12_worthOf_14
def Lt_X12_counts : WL := [(12, 35, 37)]
def LRt_X12_counts : WL := []
set_option maxRecDepth 100000 in
set_option maxHeartbeats 4000000 in
theorem t_X12_counts (l : Launch) (D : va_G) (cy : Nat → ClassId) (tx : (Nat → Nat) × (Nat → Nat)) (base Z : Nat) (K N : Nat → Nat) (Ma : MT) (Ra : RT) (Ja : JT) (hTy : Ty Z K N Ma Ra) (a0 : Nat) (hz_a0 : a0 < Z) (hk_a0 : K a0 = 12) (a1 : Int32) (h_a1 : iv 0 9 a1) (a2 : Int32) (h_a2 : iv 0 11 a2) (a3 : Int32) (h_a3 : iv 0 2 a3) : Met l yX12_counts [Cond.code yX12_counts cX12_counts 4 none] (md_rm 2 0 0) (va_Pc [.ref (base + a0), .int a1, .int a2, .int a3] (md_U D cy tx base Z K N Ma Ra Ja)) (mQv D cy tx base (fun u => TP Z K N Lt_X12_counts LRt_X12_counts Ma Ra u ∧ (True))) 0 0 (fun q => base ≤ q) := by
  refine tw_ofW (L := Lt_X12_counts) (LR := LRt_X12_counts) (by decide) (Nat.le_of_ble_eq_true rfl) hTy ?_
  intro p e s m args below meth c Q ls hx hb hr hlocks hown hml hW hK hT hS hQ hl
  have hl : lv_has ls 4 [(0, .ref (base + a0)), (1, .int a1), (2, .int a2), (3, .int a3)] := hl
  refine lv_iload_n hx hb dX12_counts_0 rfl (lv_at hl 3 rfl) ?_
  refine lv_iconst (v := 1) hx hb dX12_counts_1 (by decide) ?_
  refine lv_icmp_eq (tgt := 6) hx hb dX12_counts_2 (by decide) (fun c1 => ?_) (fun c1 => ?_)
  · have q2 : a3.toInt = 1 := ti_eq c1
    have h3 : iv 1 1 a3 := ⟨by have := (h_a3).1; have := ((iv_c (c := 1) (n := 1) (by decide))).1; omega, by have := (h_a3).2; have := ((iv_c (c := 1) (n := 1) (by decide))).2; omega⟩
    refine lv_aload_n hx hb dX12_counts_6 rfl (lv_at hl 0 rfl) ?_
    refine lv_dup hx hb dX12_counts_7 rfl ?_
    refine tw_geti hx hb hW hown hK hS f_X12_407_11 hz_a0 hk_a0 (lo := (-2147483648)) (hi := 2147483647) rfl dX12_counts_8 (fun x6 k5 h4 => ?_)
    refine lv_iconst (v := 1) hx hb dX12_counts_11 (by decide) ?_
    refine lv_iadd hx hb dX12_counts_12 ?_
    refine tw_top (fun x8 => ?_)
    have h7 := iv_any x8
    refine tw_puti hx hb hW hown hK hS f_X12_407_11 hz_a0 hk_a0 rfl rfl (lo := (-2147483648)) (hi := 2147483647) rfl h7 rfl dX12_counts_13 (fun H locs M11 hS k9 f10 => ?_)
    refine lv_aload_n hx hb dX12_counts_16 rfl (lv_at hl 0 rfl) ?_
    refine lv_dup hx hb dX12_counts_17 rfl ?_
    refine tw_geti hx hb hW hown hK hS f_X12_410_11 hz_a0 hk_a0 (lo := (-2147483648)) (hi := 2147483647) rfl dX12_counts_18 (fun x14 k13 h12 => ?_)
    refine lv_aload_n hx hb dX12_counts_21 rfl (lv_at hl 0 rfl) ?_
    refine lv_iload_n hx hb dX12_counts_22 rfl (lv_at hl 1 rfl) ?_
    refine lv_iload_n hx hb dX12_counts_23 rfl (lv_at hl 2 rfl) ?_
    refine tw_goi hS (md_runV (As := [.int a1, .int a2]) (rest := [.int x14, .ref (base + a0)]) hx hb hml hown hW hK hT hS.1 (t_X12_worthOf l D cy tx base Z K N M11 Ra Ja hS.2.1 a0 hz_a0 hk_a0 a1 h_a1 a2 h_a2) s_X12_330 ⟨rfl, rfl, ⟨Nat.le_of_ble_eq_true rfl, Nat.le_of_ble_eq_true rfl⟩, ⟨Nat.le_of_ble_eq_true rfl, Nat.le_of_ble_eq_true rfl⟩⟩ hz_a0 hk_a0 (by decide) rfl rfl hl.1 rfl (Nat.le_of_ble_eq_true rfl) dX12_counts_24) rfl rfl (fun x21 H locs M17 R18 J19 hS f15 g16 E20 => ?_)
    have h_x21 := E20
    refine lv_iadd hx hb dX12_counts_27 ?_
    refine tw_top (fun x23 => ?_)
    have h22 := iv_any x23
    refine tw_puti hx hb hW hown hK hS f_X12_410_11 hz_a0 hk_a0 rfl rfl (lo := (-2147483648)) (hi := 2147483647) rfl h22 rfl dX12_counts_28 (fun H locs M26 hS k24 f25 => ?_)
    exact tw_endv hx hb hr hlocks hK hT hS hQ (trivial) dX12_counts_31
  · have q27 : ¬ a3.toInt = 1 := ti_ne c1
    exact tw_endv hx hb hr hlocks hK hT hS hQ (trivial) dX12_counts_5
def Lt_X12_end : WL := [(12, 1, 2)]
def LRt_X12_end : WL := []
set_option maxRecDepth 100000 in
set_option maxHeartbeats 4000000 in
theorem t_X12_end (l : Launch) (D : va_G) (cy : Nat → ClassId) (tx : (Nat → Nat) × (Nat → Nat)) (base Z : Nat) (K N : Nat → Nat) (Ma : MT) (Ra : RT) (Ja : JT) (hTy : Ty Z K N Ma Ra) (a0 : Nat) (hz_a0 : a0 < Z) (hk_a0 : K a0 = 12) (a1 : Int32) (h_a1 : iv (-2147483648) 2147483647 a1) : Met l yX12_end [Cond.code yX12_end cX12_end 2 (some .int)] (md_rm 1 0 0) (va_Pc [.ref (base + a0), .int a1] (md_U D cy tx base Z K N Ma Ra Ja)) (mQi D cy tx base (fun r u => TP Z K N Lt_X12_end LRt_X12_end Ma Ra u ∧ (iv (-1) 400 r))) 0 0 (fun q => base ≤ q) := by
  refine tw_ofW (L := Lt_X12_end) (LR := LRt_X12_end) (by decide) (Nat.le_of_ble_eq_true rfl) hTy ?_
  intro p e s m args below meth c Q ls hx hb hr hlocks hown hml hW hK hT hS hQ hl
  have hl : lv_has ls 2 [(0, .ref (base + a0)), (1, .int a1)] := hl
  refine lv_iload_n hx hb dX12_end_0 rfl (lv_at hl 1 rfl) ?_
  refine lv_if_lt (tgt := 12) hx hb dX12_end_1 (by decide) (fun c1 => ?_) (fun c1 => ?_)
  · have q2 : a1.toInt < 0 := ti_lt c1
    have h3 : iv (-2147483648) (-1) a1 := iv_ltL (y := 0) h_a1 (iv_c (c := 0) (n := 0) (by decide)) q2 (by decide)
    refine lv_iconst (v := (-1)) hx hb dX12_end_12 (by decide) ?_
    exact tw_endi hx hb hr hlocks hK hT hS hQ ((iv_mono (iv_c (c := (-1)) (n := (-1)) (by decide)) (by decide) (by decide))) dX12_end_13
  · have q4 : 0 ≤ a1.toInt := ti_nlt c1
    have h5 : iv 0 2147483647 a1 := iv_geL (y := 0) h_a1 (iv_c (c := 0) (n := 0) (by decide)) q4 (by decide)
    refine lv_iload_n hx hb dX12_end_4 rfl (lv_at hl 1 rfl) ?_
    refine lv_aload_n hx hb dX12_end_5 rfl (lv_at hl 0 rfl) ?_
    refine tw_geti hx hb hW hown hK hS f_X12_116_11 hz_a0 hk_a0 (lo := 0) (hi := 400) rfl dX12_end_6 (fun x8 k7 h6 => ?_)
    refine lv_icmp_le (tgt := 14) hx hb dX12_end_9 (by decide) (fun c9 => ?_) (fun c9 => ?_)
    · have q10 : a1.toInt ≤ x8.toInt := ti_le c9
      have h11 : iv 0 400 a1 := iv_leL (y := x8) h5 h6 q10 (by decide)
      refine lv_aload_n hx hb dX12_end_14 rfl (lv_at hl 0 rfl) ?_
      refine lv_iload_n hx hb dX12_end_15 rfl (lv_at hl 1 rfl) ?_
      refine tw_puti hx hb hW hown hK hS f_X12_116_11 hz_a0 hk_a0 rfl rfl (lo := 0) (hi := 400) rfl h11 rfl dX12_end_16 (fun H locs M14 hS k12 f13 => ?_)
      refine lv_iload_n hx hb dX12_end_19 rfl (lv_at hl 1 rfl) ?_
      exact tw_endi hx hb hr hlocks hK hT hS hQ ((iv_mono h11 (by decide) (by decide))) dX12_end_20
    · have q15 : x8.toInt < a1.toInt := ti_nle c9
      have h16 : iv 1 2147483647 a1 := iv_gtL (y := x8) h5 h6 q15 (by decide)
      refine lv_iconst (v := (-1)) hx hb dX12_end_12 (by decide) ?_
      exact tw_endi hx hb hr hlocks hK hT hS hQ ((iv_mono (iv_c (c := (-1)) (n := (-1)) (by decide)) (by decide) (by decide))) dX12_end_13
def Lt_X12_entry : WL := [(14, 0, 2000000), (23, 5, 6), (23, 178, 226)]
def LRt_X12_entry : WL := []
set_option maxRecDepth 100000 in
set_option maxHeartbeats 4000000 in
theorem t_X12_entry (l : Launch) (D : va_G) (cy : Nat → ClassId) (tx : (Nat → Nat) × (Nat → Nat)) (base Z : Nat) (K N : Nat → Nat) (Ma : MT) (Ra : RT) (Ja : JT) (hTy : Ty Z K N Ma Ra) (a0 : Nat) (hz_a0 : a0 < Z) (hk_a0 : K a0 = 12) (a1 : Int32) (h_a1 : iv (-2147483648) 2147483647 a1) (a2 : Int32) (h_a2 : iv (-2147483648) 2147483647 a2) (a3 : Int32) (h_a3 : iv (-2147483648) 2147483647 a3) (a4 : Int32) (h_a4 : iv (-2147483648) 2147483647 a4) : Met l yX12_entry [Cond.code yX12_entry cX12_entry 6 (some .int)] (md_rm 2 0 0) (va_Pc [.ref (base + a0), .int a1, .int a2, .int a3, .int a4] (md_U D cy tx base Z K N Ma Ra Ja)) (mQi D cy tx base (fun r u => TP Z K N Lt_X12_entry LRt_X12_entry Ma Ra u ∧ (iv (-2) 12 r))) 0 0 (fun q => base ≤ q) := by
  refine tw_ofW (L := Lt_X12_entry) (LR := LRt_X12_entry) (by decide) (Nat.le_of_ble_eq_true rfl) hTy ?_
  intro p e s m args below meth c Q ls hx hb hr hlocks hown hml hW hK hT hS hQ hl
  have hl : lv_has ls 6 [(0, .ref (base + a0)), (1, .int a1), (2, .int a2), (3, .int a3), (4, .int a4)] := hl
  refine lv_iload_n hx hb dX12_entry_0 rfl (lv_at hl 1 rfl) ?_
  refine lv_iconst (v := (-1)) hx hb dX12_entry_1 (by decide) ?_
  refine lv_icmp_ne (tgt := 14) hx hb dX12_entry_2 (by decide) (fun c1 => ?_) (fun c1 => ?_)
  · have q2 : ¬ a1.toInt = (-1) := ti_ne c1
    refine lv_aload_n hx hb dX12_entry_14 rfl (lv_at hl 0 rfl) ?_
    refine tw_getr hx hb hW hown hK hS f_X12_45_11 hz_a0 hk_a0 (t := 23) (n := 226) rfl dX12_entry_15 (fun b3 k4 hz_b3 hk_b3 hn_b3 => ?_)
    have hn_b3 := hn_b3 (by decide)
    refine lv_iconst (v := 0) hx hb dX12_entry_18 (by decide) ?_
    refine tw_iald hx hb hK hS hz_b3 hk_b3 (Or.inr (by decide)) hn_b3 (lo := 0) (hi := 10) (iv_c (c := 0) (n := 0) (by decide)) ⟨by decide, by decide⟩ (rg_c (k0 := 0) rfl rfl rfl) dX12_entry_19 (fun x7 k6 h5 => ?_)
    refine lv_if_eq (tgt := 70) hx hb dX12_entry_20 (by decide) (fun c8 => ?_) (fun c8 => ?_)
    · have q9 : x7.toInt = 0 := ti_eq c8
      have h10 : iv 0 0 x7 := ⟨by have := (h5).1; have := ((iv_c (c := 0) (n := 0) (by decide))).1; omega, by have := (h5).2; have := ((iv_c (c := 0) (n := 0) (by decide))).2; omega⟩
      refine lv_aload_n hx hb dX12_entry_70 rfl (lv_at hl 0 rfl) ?_
      refine lv_iconst (v := 0) hx hb dX12_entry_71 (by decide) ?_
      refine tw_goi hS (md_runV (As := [.int 0]) (rest := []) hx hb hml hown hW hK hT hS.1 (t_X12_refuses l D cy tx base Z K N Ma Ra Ja hS.2.1 a0 hz_a0 hk_a0 0 (iv_mono (iv_c (c := 0) (n := 0) (by decide)) (by decide) (by decide))) s_X12_338 ⟨rfl, rfl, ⟨Nat.le_of_ble_eq_true rfl, Nat.le_of_ble_eq_true rfl⟩, ⟨Nat.le_of_ble_eq_true rfl, Nat.le_of_ble_eq_true rfl⟩⟩ hz_a0 hk_a0 (by decide) rfl rfl hl.1 rfl (Nat.le_of_ble_eq_true rfl) dX12_entry_72) rfl rfl (fun x17 H locs M13 R14 J15 hS f11 g12 E16 => ?_)
      have h_x17 := E16
      exact tw_endi hx hb hr hlocks hK hT hS hQ ((iv_mono h_x17 (by decide) (by decide))) dX12_entry_75
    · have q18 : ¬ x7.toInt = 0 := ti_ne c8
      have h19 : iv 1 10 x7 := ⟨by have := (h5).1; have := ((iv_c (c := 0) (n := 0) (by decide))).1; have := ((iv_c (c := 0) (n := 0) (by decide))).2; omega, by have := (h5).2; have := ((iv_c (c := 0) (n := 0) (by decide))).1; have := ((iv_c (c := 0) (n := 0) (by decide))).2; omega⟩
      refine lv_aload_n hx hb dX12_entry_23 rfl (lv_at hl 0 rfl) ?_
      refine lv_iload_n hx hb dX12_entry_24 rfl (lv_at hl 1 rfl) ?_
      refine tw_goi hS (md_runV (As := [.int a1]) (rest := []) hx hb hml hown hW hK hT hS.1 (t_X12_isSet l D cy tx base Z K N Ma Ra Ja hS.2.1 a0 hz_a0 hk_a0 a1 h_a1) s_X12_404 ⟨rfl, rfl, ⟨Nat.le_of_ble_eq_true rfl, Nat.le_of_ble_eq_true rfl⟩, ⟨Nat.le_of_ble_eq_true rfl, Nat.le_of_ble_eq_true rfl⟩⟩ hz_a0 hk_a0 (by decide) rfl rfl hl.1 rfl (Nat.le_of_ble_eq_true rfl) dX12_entry_25) rfl rfl (fun x26 H locs M22 R23 J24 hS f20 g21 E25 => ?_)
      have h_x26 := E25
      refine lv_if_eq (tgt := 70) hx hb dX12_entry_28 (by decide) (fun c27 => ?_) (fun c27 => ?_)
      · have q28 : x26.toInt = 0 := ti_eq c27
        have h29 : iv 0 0 x26 := ⟨by have := (h_x26).1; have := ((iv_c (c := 0) (n := 0) (by decide))).1; omega, by have := (h_x26).2; have := ((iv_c (c := 0) (n := 0) (by decide))).2; omega⟩
        refine lv_aload_n hx hb dX12_entry_70 rfl (lv_at hl 0 rfl) ?_
        refine lv_iconst (v := 0) hx hb dX12_entry_71 (by decide) ?_
        refine tw_goi hS (md_runV (As := [.int 0]) (rest := []) hx hb hml hown hW hK hT hS.1 (t_X12_refuses l D cy tx base Z K N M22 R23 J24 hS.2.1 a0 hz_a0 hk_a0 0 (iv_mono (iv_c (c := 0) (n := 0) (by decide)) (by decide) (by decide))) s_X12_338 ⟨rfl, rfl, ⟨Nat.le_of_ble_eq_true rfl, Nat.le_of_ble_eq_true rfl⟩, ⟨Nat.le_of_ble_eq_true rfl, Nat.le_of_ble_eq_true rfl⟩⟩ hz_a0 hk_a0 (by decide) rfl rfl hl.1 rfl (Nat.le_of_ble_eq_true rfl) dX12_entry_72) rfl rfl (fun x36 H locs M32 R33 J34 hS f30 g31 E35 => ?_)
        have h_x36 := E35
        exact tw_endi hx hb hr hlocks hK hT hS hQ ((iv_mono h_x36 (by decide) (by decide))) dX12_entry_75
      · have q37 : ¬ x26.toInt = 0 := ti_ne c27
        have h38 : iv 1 1 x26 := ⟨by have := (h_x26).1; have := ((iv_c (c := 0) (n := 0) (by decide))).1; have := ((iv_c (c := 0) (n := 0) (by decide))).2; omega, by have := (h_x26).2; have := ((iv_c (c := 0) (n := 0) (by decide))).1; have := ((iv_c (c := 0) (n := 0) (by decide))).2; omega⟩
        refine lv_aload_n hx hb dX12_entry_31 rfl (lv_at hl 0 rfl) ?_
        refine lv_iload_n hx hb dX12_entry_32 rfl (lv_at hl 2 rfl) ?_
        refine tw_goi hS (md_runV (As := [.int a2]) (rest := []) hx hb hml hown hW hK hT hS.1 (t_X12_isSet l D cy tx base Z K N M22 R23 J24 hS.2.1 a0 hz_a0 hk_a0 a2 h_a2) s_X12_404 ⟨rfl, rfl, ⟨Nat.le_of_ble_eq_true rfl, Nat.le_of_ble_eq_true rfl⟩, ⟨Nat.le_of_ble_eq_true rfl, Nat.le_of_ble_eq_true rfl⟩⟩ hz_a0 hk_a0 (by decide) rfl rfl hl.1 rfl (Nat.le_of_ble_eq_true rfl) dX12_entry_33) rfl rfl (fun x45 H locs M41 R42 J43 hS f39 g40 E44 => ?_)
        have h_x45 := E44
        refine lv_if_eq (tgt := 70) hx hb dX12_entry_36 (by decide) (fun c46 => ?_) (fun c46 => ?_)
        · have q47 : x45.toInt = 0 := ti_eq c46
          have h48 : iv 0 0 x45 := ⟨by have := (h_x45).1; have := ((iv_c (c := 0) (n := 0) (by decide))).1; omega, by have := (h_x45).2; have := ((iv_c (c := 0) (n := 0) (by decide))).2; omega⟩
          refine lv_aload_n hx hb dX12_entry_70 rfl (lv_at hl 0 rfl) ?_
          refine lv_iconst (v := 0) hx hb dX12_entry_71 (by decide) ?_
          refine tw_goi hS (md_runV (As := [.int 0]) (rest := []) hx hb hml hown hW hK hT hS.1 (t_X12_refuses l D cy tx base Z K N M41 R42 J43 hS.2.1 a0 hz_a0 hk_a0 0 (iv_mono (iv_c (c := 0) (n := 0) (by decide)) (by decide) (by decide))) s_X12_338 ⟨rfl, rfl, ⟨Nat.le_of_ble_eq_true rfl, Nat.le_of_ble_eq_true rfl⟩, ⟨Nat.le_of_ble_eq_true rfl, Nat.le_of_ble_eq_true rfl⟩⟩ hz_a0 hk_a0 (by decide) rfl rfl hl.1 rfl (Nat.le_of_ble_eq_true rfl) dX12_entry_72) rfl rfl (fun x55 H locs M51 R52 J53 hS f49 g50 E54 => ?_)
          have h_x55 := E54
          exact tw_endi hx hb hr hlocks hK hT hS hQ ((iv_mono h_x55 (by decide) (by decide))) dX12_entry_75
        · have q56 : ¬ x45.toInt = 0 := ti_ne c46
          have h57 : iv 1 1 x45 := ⟨by have := (h_x45).1; have := ((iv_c (c := 0) (n := 0) (by decide))).1; have := ((iv_c (c := 0) (n := 0) (by decide))).2; omega, by have := (h_x45).2; have := ((iv_c (c := 0) (n := 0) (by decide))).1; have := ((iv_c (c := 0) (n := 0) (by decide))).2; omega⟩
          refine lv_iload_n hx hb dX12_entry_39 rfl (lv_at hl 1 rfl) ?_
          refine lv_iload_n hx hb dX12_entry_40 rfl (lv_at hl 2 rfl) ?_
          refine lv_iand hx hb dX12_entry_41 ?_
          refine tw_top (fun x59 => ?_)
          have h58 := iv_any x59
          refine lv_if_ne (tgt := 70) hx hb dX12_entry_42 (by decide) (fun c60 => ?_) (fun c60 => ?_)
          · have q61 : ¬ x59.toInt = 0 := ti_ne c60
            refine lv_aload_n hx hb dX12_entry_70 rfl (lv_at hl 0 rfl) ?_
            refine lv_iconst (v := 0) hx hb dX12_entry_71 (by decide) ?_
            refine tw_goi hS (md_runV (As := [.int 0]) (rest := []) hx hb hml hown hW hK hT hS.1 (t_X12_refuses l D cy tx base Z K N M41 R42 J43 hS.2.1 a0 hz_a0 hk_a0 0 (iv_mono (iv_c (c := 0) (n := 0) (by decide)) (by decide) (by decide))) s_X12_338 ⟨rfl, rfl, ⟨Nat.le_of_ble_eq_true rfl, Nat.le_of_ble_eq_true rfl⟩, ⟨Nat.le_of_ble_eq_true rfl, Nat.le_of_ble_eq_true rfl⟩⟩ hz_a0 hk_a0 (by decide) rfl rfl hl.1 rfl (Nat.le_of_ble_eq_true rfl) dX12_entry_72) rfl rfl (fun x68 H locs M64 R65 J66 hS f62 g63 E67 => ?_)
            have h_x68 := E67
            exact tw_endi hx hb hr hlocks hK hT hS hQ ((iv_mono h_x68 (by decide) (by decide))) dX12_entry_75
          · have q69 : x59.toInt = 0 := ti_eq c60
            have h70 : iv 0 0 x59 := ⟨by have := (h58).1; have := ((iv_c (c := 0) (n := 0) (by decide))).1; omega, by have := (h58).2; have := ((iv_c (c := 0) (n := 0) (by decide))).2; omega⟩
            refine lv_iload_n hx hb dX12_entry_45 rfl (lv_at hl 3 rfl) ?_
            refine lv_i2l hx hb dX12_entry_46 rfl ?_
            refine lv_lconst (v := 0) hx hb dX12_entry_47 (by decide) ?_
            refine lv_ldc2 hx hb hown (hW _ w_8_145 rfl) dX12_entry_48 ?_
            refine tw_goi hS (md_runS (As := [.long a3.toInt64, .long 0, .long 99999]) (rest := []) hx hb hml hown hW hK hT hS.1 (t_X12_in l D cy tx base Z K N M41 R42 J43 hS.2.1 (a3.toInt64) (0) (99999)) s_X12_155 ⟨rfl, rfl, ⟨Nat.le_of_ble_eq_true rfl, Nat.le_of_ble_eq_true rfl⟩, ⟨Nat.le_of_ble_eq_true rfl, Nat.le_of_ble_eq_true rfl⟩⟩ rfl hl.1 rfl (Nat.le_of_ble_eq_true rfl) dX12_entry_51) rfl rfl (fun x77 H locs M73 R74 J75 hS f71 g72 E76 => ?_)
            obtain ⟨h_x77, p78⟩ := E76
            refine lv_if_eq (tgt := 70) hx hb dX12_entry_54 (by decide) (fun c79 => ?_) (fun c79 => ?_)
            · have q80 : x77.toInt = 0 := ti_eq c79
              have h81 : iv 0 0 x77 := ⟨by have := (h_x77).1; have := ((iv_c (c := 0) (n := 0) (by decide))).1; omega, by have := (h_x77).2; have := ((iv_c (c := 0) (n := 0) (by decide))).2; omega⟩
              refine lv_aload_n hx hb dX12_entry_70 rfl (lv_at hl 0 rfl) ?_
              refine lv_iconst (v := 0) hx hb dX12_entry_71 (by decide) ?_
              refine tw_goi hS (md_runV (As := [.int 0]) (rest := []) hx hb hml hown hW hK hT hS.1 (t_X12_refuses l D cy tx base Z K N M73 R74 J75 hS.2.1 a0 hz_a0 hk_a0 0 (iv_mono (iv_c (c := 0) (n := 0) (by decide)) (by decide) (by decide))) s_X12_338 ⟨rfl, rfl, ⟨Nat.le_of_ble_eq_true rfl, Nat.le_of_ble_eq_true rfl⟩, ⟨Nat.le_of_ble_eq_true rfl, Nat.le_of_ble_eq_true rfl⟩⟩ hz_a0 hk_a0 (by decide) rfl rfl hl.1 rfl (Nat.le_of_ble_eq_true rfl) dX12_entry_72) rfl rfl (fun x88 H locs M84 R85 J86 hS f82 g83 E87 => ?_)
              have h_x88 := E87
              exact tw_endi hx hb hr hlocks hK hT hS hQ ((iv_mono h_x88 (by decide) (by decide))) dX12_entry_75
            · have q89 : ¬ x77.toInt = 0 := ti_ne c79
              have h90 : iv 1 1 x77 := ⟨by have := (h_x77).1; have := ((iv_c (c := 0) (n := 0) (by decide))).1; have := ((iv_c (c := 0) (n := 0) (by decide))).2; omega, by have := (h_x77).2; have := ((iv_c (c := 0) (n := 0) (by decide))).1; have := ((iv_c (c := 0) (n := 0) (by decide))).2; omega⟩
              have h91 : iv 0 99999 a3 := in2iv (p78 c79) ((jv_c (x := 0) (n := 0) (by decide))).1 ((jv_c (x := 99999) (n := 99999) (by decide))).2
              refine lv_iload hx hb dX12_entry_57 (lv_at hl 4 rfl) ?_
              refine lv_i2l hx hb dX12_entry_59 rfl ?_
              refine lv_lconst (v := 0) hx hb dX12_entry_60 (by decide) ?_
              refine lv_ldc2 hx hb hown (hW _ w_8_145 rfl) dX12_entry_61 ?_
              refine tw_goi hS (md_runS (As := [.long a4.toInt64, .long 0, .long 99999]) (rest := []) hx hb hml hown hW hK hT hS.1 (t_X12_in l D cy tx base Z K N M73 R74 J75 hS.2.1 (a4.toInt64) (0) (99999)) s_X12_155 ⟨rfl, rfl, ⟨Nat.le_of_ble_eq_true rfl, Nat.le_of_ble_eq_true rfl⟩, ⟨Nat.le_of_ble_eq_true rfl, Nat.le_of_ble_eq_true rfl⟩⟩ rfl hl.1 rfl (Nat.le_of_ble_eq_true rfl) dX12_entry_64) rfl rfl (fun x98 H locs M94 R95 J96 hS f92 g93 E97 => ?_)
              obtain ⟨h_x98, p99⟩ := E97
              refine lv_if_ne (tgt := 76) hx hb dX12_entry_67 (by decide) (fun c100 => ?_) (fun c100 => ?_)
              · have q101 : ¬ x98.toInt = 0 := ti_ne c100
                have h102 : iv 1 1 x98 := ⟨by have := (h_x98).1; have := ((iv_c (c := 0) (n := 0) (by decide))).1; have := ((iv_c (c := 0) (n := 0) (by decide))).2; omega, by have := (h_x98).2; have := ((iv_c (c := 0) (n := 0) (by decide))).1; have := ((iv_c (c := 0) (n := 0) (by decide))).2; omega⟩
                have h103 : iv 0 99999 a4 := in2iv (p99 c100) ((jv_c (x := 0) (n := 0) (by decide))).1 ((jv_c (x := 99999) (n := 99999) (by decide))).2
                refine lv_aload_n hx hb dX12_entry_76 rfl (lv_at hl 0 rfl) ?_
                have k104 : R95 a0 25 = some b3 := ((Fr.kp (k := 25) g93 hk_a0 rfl).trans ((Fr.kp (k := 25) g72 hk_a0 rfl).trans ((Fr.kp (k := 25) g40 hk_a0 rfl).trans (Fr.kp (k := 25) g21 hk_a0 rfl)))).trans k4
                refine tw_getrk hx hb hW hown hK hS f_X12_45_11 hz_a0 hk_a0 (b := b3) k104 dX12_entry_77 ?_
                refine lv_iconst (v := 5) hx hb dX12_entry_80 (by decide) ?_
                refine tw_iald hx hb hK hS hz_b3 hk_b3 (Or.inr (by decide)) hn_b3 (lo := 0) (hi := 12) (iv_c (c := 5) (n := 5) (by decide)) ⟨by decide, by decide⟩ (rg_c (k0 := 5) rfl rfl rfl) dX12_entry_81 (fun x107 k106 h105 => ?_)
                refine lv_bipush (v := 12) hx hb dX12_entry_82 (by decide) ?_
                refine lv_icmp_ne (tgt := 93) hx hb dX12_entry_84 (by decide) (fun c108 => ?_) (fun c108 => ?_)
                · have q109 : ¬ x107.toInt = 12 := ti_ne c108
                  have h110 : iv 0 11 x107 := ⟨by have := (h105).1; have := ((iv_c (c := 12) (n := 12) (by decide))).1; have := ((iv_c (c := 12) (n := 12) (by decide))).2; omega, by have := (h105).2; have := ((iv_c (c := 12) (n := 12) (by decide))).1; have := ((iv_c (c := 12) (n := 12) (by decide))).2; omega⟩
                  refine lv_sipush (v := 178) hx hb dX12_entry_93 (by decide) ?_
                  refine lv_iconst (v := 4) hx hb dX12_entry_96 (by decide) ?_
                  refine lv_aload_n hx hb dX12_entry_97 rfl (lv_at hl 0 rfl) ?_
                  have k111 : R95 a0 25 = some b3 := ((Fr.kp (k := 25) g93 hk_a0 rfl).trans ((Fr.kp (k := 25) g72 hk_a0 rfl).trans ((Fr.kp (k := 25) g40 hk_a0 rfl).trans (Fr.kp (k := 25) g21 hk_a0 rfl)))).trans k4
                  refine tw_getrk hx hb hW hown hK hS f_X12_45_11 hz_a0 hk_a0 (b := b3) k111 dX12_entry_98 ?_
                  refine lv_iconst (v := 5) hx hb dX12_entry_101 (by decide) ?_
                  refine tw_ialk hx hb hK hS hz_b3 hk_b3 (Or.inr (by decide)) hn_b3 (iv_c (c := 5) (n := 5) (by decide)) ⟨by decide, by decide⟩ (v := x107) k106 dX12_entry_102 ?_
                  refine tw_icmul (k := 4) (lo := 0) (hi := 44) hx hb (by decide) h110 (by decide) ⟨by decide, by decide⟩ ⟨by decide, by decide⟩ dX12_entry_103 (fun x114 e113 h112 => ?_)
                  refine tw_iadd (lo := 178) (hi := 222) hx hb (iv_c (c := 178) (n := 178) (by decide)) h112 ⟨by decide, by decide⟩ ⟨by decide, by decide⟩ dX12_entry_104 (fun x117 e116 h115 => ?_)
                  have e116 : x117.toInt = 178 + x114.toInt := e116
                  refine lv_istore (lv' := [(5, .int x117), (0, .ref (base + a0)), (1, .int a1), (2, .int a2), (3, .int a3), (4, .int a4)]) hx hb dX12_entry_105 hl (by decide) rfl (fun ls hl => ?_)
                  refine lv_aload_n hx hb dX12_entry_107 rfl (lv_at hl 1 rfl) ?_
                  have k118 : R95 a0 25 = some b3 := ((Fr.kp (k := 25) g93 hk_a0 rfl).trans ((Fr.kp (k := 25) g72 hk_a0 rfl).trans ((Fr.kp (k := 25) g40 hk_a0 rfl).trans (Fr.kp (k := 25) g21 hk_a0 rfl)))).trans k4
                  refine tw_getrk hx hb hW hown hK hS f_X12_45_11 hz_a0 hk_a0 (b := b3) k118 dX12_entry_108 ?_
                  refine lv_iload hx hb dX12_entry_111 (lv_at hl 0 rfl) ?_
                  refine lv_iload_n hx hb dX12_entry_113 rfl (lv_at hl 2 rfl) ?_
                  refine tw_iast hx hb hK hS hz_b3 hk_b3 (Or.inr (by decide)) hn_b3 h115 ⟨by decide, by decide⟩ h_a1 (rg_sas (Or.inr (by decide)) ⟨by decide, by decide⟩) (jl := 178) (jh := 222) ⟨by decide, by decide⟩ rfl dX12_entry_114 (fun H locs M121 hS k119 f120 => ?_)
                  refine lv_aload_n hx hb dX12_entry_115 rfl (lv_at hl 1 rfl) ?_
                  have k122 : R95 a0 25 = some b3 := ((Fr.kp (k := 25) g93 hk_a0 rfl).trans ((Fr.kp (k := 25) g72 hk_a0 rfl).trans ((Fr.kp (k := 25) g40 hk_a0 rfl).trans (Fr.kp (k := 25) g21 hk_a0 rfl)))).trans k4
                  refine tw_getrk hx hb hW hown hK hS f_X12_45_11 hz_a0 hk_a0 (b := b3) k122 dX12_entry_116 ?_
                  refine lv_iload hx hb dX12_entry_119 (lv_at hl 0 rfl) ?_
                  refine lv_iconst (v := 1) hx hb dX12_entry_121 (by decide) ?_
                  refine tw_iadd (lo := 179) (hi := 223) hx hb h115 (iv_c (c := 1) (n := 1) (by decide)) ⟨by decide, by decide⟩ ⟨by decide, by decide⟩ dX12_entry_122 (fun x125 e124 h123 => ?_)
                  have e124 : x125.toInt = x117.toInt + 1 := e124
                  refine lv_iload_n hx hb dX12_entry_123 rfl (lv_at hl 3 rfl) ?_
                  refine tw_iast hx hb hK hS hz_b3 hk_b3 (Or.inr (by decide)) hn_b3 h123 ⟨by decide, by decide⟩ h_a2 (rg_sas (Or.inr (by decide)) ⟨by decide, by decide⟩) (jl := 179) (jh := 223) ⟨by decide, by decide⟩ rfl dX12_entry_124 (fun H locs M128 hS k126 f127 => ?_)
                  refine lv_aload_n hx hb dX12_entry_125 rfl (lv_at hl 1 rfl) ?_
                  have k129 : R95 a0 25 = some b3 := ((Fr.kp (k := 25) g93 hk_a0 rfl).trans ((Fr.kp (k := 25) g72 hk_a0 rfl).trans ((Fr.kp (k := 25) g40 hk_a0 rfl).trans (Fr.kp (k := 25) g21 hk_a0 rfl)))).trans k4
                  refine tw_getrk hx hb hW hown hK hS f_X12_45_11 hz_a0 hk_a0 (b := b3) k129 dX12_entry_126 ?_
                  refine lv_iload hx hb dX12_entry_129 (lv_at hl 0 rfl) ?_
                  refine lv_iconst (v := 2) hx hb dX12_entry_131 (by decide) ?_
                  refine tw_iadd (lo := 180) (hi := 224) hx hb h115 (iv_c (c := 2) (n := 2) (by decide)) ⟨by decide, by decide⟩ ⟨by decide, by decide⟩ dX12_entry_132 (fun x132 e131 h130 => ?_)
                  have e131 : x132.toInt = x117.toInt + 2 := e131
                  refine lv_iload_n hx hb dX12_entry_133 rfl (lv_at hl 4 rfl) ?_
                  refine tw_iast hx hb hK hS hz_b3 hk_b3 (Or.inr (by decide)) hn_b3 h130 ⟨by decide, by decide⟩ h91 (rg_sas (Or.inr (by decide)) ⟨by decide, by decide⟩) (jl := 180) (jh := 224) ⟨by decide, by decide⟩ rfl dX12_entry_134 (fun H locs M135 hS k133 f134 => ?_)
                  refine lv_aload_n hx hb dX12_entry_135 rfl (lv_at hl 1 rfl) ?_
                  have k136 : R95 a0 25 = some b3 := ((Fr.kp (k := 25) g93 hk_a0 rfl).trans ((Fr.kp (k := 25) g72 hk_a0 rfl).trans ((Fr.kp (k := 25) g40 hk_a0 rfl).trans (Fr.kp (k := 25) g21 hk_a0 rfl)))).trans k4
                  refine tw_getrk hx hb hW hown hK hS f_X12_45_11 hz_a0 hk_a0 (b := b3) k136 dX12_entry_136 ?_
                  refine lv_iload hx hb dX12_entry_139 (lv_at hl 0 rfl) ?_
                  refine lv_iconst (v := 3) hx hb dX12_entry_141 (by decide) ?_
                  refine tw_iadd (lo := 181) (hi := 225) hx hb h115 (iv_c (c := 3) (n := 3) (by decide)) ⟨by decide, by decide⟩ ⟨by decide, by decide⟩ dX12_entry_142 (fun x139 e138 h137 => ?_)
                  have e138 : x139.toInt = x117.toInt + 3 := e138
                  refine lv_iload hx hb dX12_entry_143 (lv_at hl 5 rfl) ?_
                  refine tw_iast hx hb hK hS hz_b3 hk_b3 (Or.inr (by decide)) hn_b3 h137 ⟨by decide, by decide⟩ h103 (rg_sas (Or.inr (by decide)) ⟨by decide, by decide⟩) (jl := 181) (jh := 225) ⟨by decide, by decide⟩ rfl dX12_entry_145 (fun H locs M142 hS k140 f141 => ?_)
                  refine lv_aload_n hx hb dX12_entry_146 rfl (lv_at hl 1 rfl) ?_
                  have k143 : R95 a0 25 = some b3 := ((Fr.kp (k := 25) g93 hk_a0 rfl).trans ((Fr.kp (k := 25) g72 hk_a0 rfl).trans ((Fr.kp (k := 25) g40 hk_a0 rfl).trans (Fr.kp (k := 25) g21 hk_a0 rfl)))).trans k4
                  refine tw_getrk hx hb hW hown hK hS f_X12_45_11 hz_a0 hk_a0 (b := b3) k143 dX12_entry_147 ?_
                  refine lv_iconst (v := 5) hx hb dX12_entry_150 (by decide) ?_
                  refine lv_dup2_11 hx hb dX12_entry_151 rfl rfl ?_
                  have k144 : M142 b3 (5 : Int32).toNatClampNeg = x107 := ((Fr.kp (k := (5 : Int32).toNatClampNeg) f141 hk_b3 rfl).trans ((Fr.kp (k := (5 : Int32).toNatClampNeg) f134 hk_b3 rfl).trans ((Fr.kp (k := (5 : Int32).toNatClampNeg) f127 hk_b3 rfl).trans (Fr.kp (k := (5 : Int32).toNatClampNeg) f120 hk_b3 rfl)))).trans k106
                  refine tw_ialk hx hb hK hS hz_b3 hk_b3 (Or.inr (by decide)) hn_b3 (iv_c (c := 5) (n := 5) (by decide)) ⟨by decide, by decide⟩ (v := x107) k144 dX12_entry_152 ?_
                  refine lv_iconst (v := 1) hx hb dX12_entry_153 (by decide) ?_
                  refine tw_iadd (lo := 1) (hi := 12) hx hb h110 (iv_c (c := 1) (n := 1) (by decide)) ⟨by decide, by decide⟩ ⟨by decide, by decide⟩ dX12_entry_154 (fun x147 e146 h145 => ?_)
                  have e146 : x147.toInt = x107.toInt + 1 := e146
                  refine tw_iast hx hb hK hS hz_b3 hk_b3 (Or.inr (by decide)) hn_b3 (iv_c (c := 5) (n := 5) (by decide)) ⟨by decide, by decide⟩ h145 (rg_cs (k0 := 5) rfl rfl rfl ⟨by decide, by decide⟩) (jl := 5) (jh := 5) ⟨by decide, by decide⟩ rfl dX12_entry_155 (fun H locs M150 hS k148 f149 => ?_)
                  refine lv_aload_n hx hb dX12_entry_156 rfl (lv_at hl 1 rfl) ?_
                  have k151 : R95 a0 25 = some b3 := ((Fr.kp (k := 25) g93 hk_a0 rfl).trans ((Fr.kp (k := 25) g72 hk_a0 rfl).trans ((Fr.kp (k := 25) g40 hk_a0 rfl).trans (Fr.kp (k := 25) g21 hk_a0 rfl)))).trans k4
                  refine tw_getrk hx hb hW hown hK hS f_X12_45_11 hz_a0 hk_a0 (b := b3) k151 dX12_entry_157 ?_
                  refine lv_iconst (v := 5) hx hb dX12_entry_160 (by decide) ?_
                  refine tw_ialk hx hb hK hS hz_b3 hk_b3 (Or.inr (by decide)) hn_b3 (iv_c (c := 5) (n := 5) (by decide)) ⟨by decide, by decide⟩ (v := x147) k148 dX12_entry_161 ?_
                  exact tw_endi hx hb hr hlocks hK hT hS hQ ((iv_mono h145 (by decide) (by decide))) dX12_entry_162
                · have q152 : x107.toInt = 12 := ti_eq c108
                  have h153 : iv 12 12 x107 := ⟨by have := (h105).1; have := ((iv_c (c := 12) (n := 12) (by decide))).1; omega, by have := (h105).2; have := ((iv_c (c := 12) (n := 12) (by decide))).2; omega⟩
                  refine lv_aload_n hx hb dX12_entry_87 rfl (lv_at hl 0 rfl) ?_
                  refine lv_iconst (v := 1) hx hb dX12_entry_88 (by decide) ?_
                  refine tw_goi hS (md_runV (As := [.int 1]) (rest := []) hx hb hml hown hW hK hT hS.1 (t_X12_refuses l D cy tx base Z K N M94 R95 J96 hS.2.1 a0 hz_a0 hk_a0 1 (iv_mono (iv_c (c := 1) (n := 1) (by decide)) (by decide) (by decide))) s_X12_338 ⟨rfl, rfl, ⟨Nat.le_of_ble_eq_true rfl, Nat.le_of_ble_eq_true rfl⟩, ⟨Nat.le_of_ble_eq_true rfl, Nat.le_of_ble_eq_true rfl⟩⟩ hz_a0 hk_a0 (by decide) rfl rfl hl.1 rfl (Nat.le_of_ble_eq_true rfl) dX12_entry_89) rfl rfl (fun x160 H locs M156 R157 J158 hS f154 g155 E159 => ?_)
                  have h_x160 := E159
                  exact tw_endi hx hb hr hlocks hK hT hS hQ ((iv_mono h_x160 (by decide) (by decide))) dX12_entry_92
              · have q161 : x98.toInt = 0 := ti_eq c100
                have h162 : iv 0 0 x98 := ⟨by have := (h_x98).1; have := ((iv_c (c := 0) (n := 0) (by decide))).1; omega, by have := (h_x98).2; have := ((iv_c (c := 0) (n := 0) (by decide))).2; omega⟩
                refine lv_aload_n hx hb dX12_entry_70 rfl (lv_at hl 0 rfl) ?_
                refine lv_iconst (v := 0) hx hb dX12_entry_71 (by decide) ?_
                refine tw_goi hS (md_runV (As := [.int 0]) (rest := []) hx hb hml hown hW hK hT hS.1 (t_X12_refuses l D cy tx base Z K N M94 R95 J96 hS.2.1 a0 hz_a0 hk_a0 0 (iv_mono (iv_c (c := 0) (n := 0) (by decide)) (by decide) (by decide))) s_X12_338 ⟨rfl, rfl, ⟨Nat.le_of_ble_eq_true rfl, Nat.le_of_ble_eq_true rfl⟩, ⟨Nat.le_of_ble_eq_true rfl, Nat.le_of_ble_eq_true rfl⟩⟩ hz_a0 hk_a0 (by decide) rfl rfl hl.1 rfl (Nat.le_of_ble_eq_true rfl) dX12_entry_72) rfl rfl (fun x169 H locs M165 R166 J167 hS f163 g164 E168 => ?_)
                have h_x169 := E168
                exact tw_endi hx hb hr hlocks hK hT hS hQ ((iv_mono h_x169 (by decide) (by decide))) dX12_entry_75
  · have q170 : a1.toInt = (-1) := ti_eq c1
    have h171 : iv (-1) (-1) a1 := ⟨by have := (h_a1).1; have := ((iv_c (c := (-1)) (n := (-1)) (by decide))).1; omega, by have := (h_a1).2; have := ((iv_c (c := (-1)) (n := (-1)) (by decide))).2; omega⟩
    refine lv_aload_n hx hb dX12_entry_5 rfl (lv_at hl 0 rfl) ?_
    refine tw_getr hx hb hW hown hK hS f_X12_45_11 hz_a0 hk_a0 (t := 23) (n := 226) rfl dX12_entry_6 (fun b172 k173 hz_b172 hk_b172 hn_b172 => ?_)
    have hn_b172 := hn_b172 (by decide)
    refine lv_iconst (v := 5) hx hb dX12_entry_9 (by decide) ?_
    refine lv_iconst (v := 0) hx hb dX12_entry_10 (by decide) ?_
    refine tw_iast hx hb hK hS hz_b172 hk_b172 (Or.inr (by decide)) hn_b172 (iv_c (c := 5) (n := 5) (by decide)) ⟨by decide, by decide⟩ (iv_c (c := 0) (n := 0) (by decide)) (rg_0 ⟨rfl, rfl⟩) (jl := 5) (jh := 5) ⟨by decide, by decide⟩ rfl dX12_entry_11 (fun H locs M176 hS k174 f175 => ?_)
    refine lv_iconst (v := 0) hx hb dX12_entry_12 (by decide) ?_
    exact tw_endi hx hb hr hlocks hK hT hS hQ ((iv_mono (iv_c (c := 0) (n := 0) (by decide)) (by decide) (by decide))) dX12_entry_13
def Lt_X12_four : WL := [(12, 1, 2), (13, 0, 2000000)]
def LRt_X12_four : WL := []
set_option maxRecDepth 100000 in
set_option maxHeartbeats 4000000 in
theorem t_X12_four (l : Launch) (D : va_G) (cy : Nat → ClassId) (tx : (Nat → Nat) × (Nat → Nat)) (base Z : Nat) (K N : Nat → Nat) (Ma : MT) (Ra : RT) (Ja : JT) (hTy : Ty Z K N Ma Ra) (a0 : Nat) (hz_a0 : a0 < Z) (hk_a0 : K a0 = 12) (a1 : Int32) (h_a1 : iv (-2147483648) 2147483647 a1) (t0 : Int32) (k_t0 : Ma a0 1 = t0) (h_t0 : iv 0 396 t0) : Met l yX12_four [Cond.code yX12_four cX12_four 3 none] (md_rm 1 0 0) (va_Pc [.ref (base + a0), .int a1] (md_U D cy tx base Z K N Ma Ra Ja)) (mQv D cy tx base (fun u => TP Z K N Lt_X12_four LRt_X12_four Ma Ra u ∧ ((∃ x : Int32, u.2.2.2.1 a0 1 = x ∧ iv 4 400 x ∧ (x.toInt = t0.toInt + 4))))) 0 0 (fun q => base ≤ q) := by
  refine tw_ofW (L := Lt_X12_four) (LR := LRt_X12_four) (by decide) (Nat.le_of_ble_eq_true rfl) hTy ?_
  intro p e s m args below meth c Q ls hx hb hr hlocks hown hml hW hK hT hS hQ hl
  have hl : lv_has ls 3 [(0, .ref (base + a0)), (1, .int a1)] := hl
  refine lv_bipush (v := 24) hx hb dX12_four_0 (by decide) ?_
  refine lv_istore_n (lv' := [(2, .int 24), (0, .ref (base + a0)), (1, .int a1)]) hx hb dX12_four_2 rfl hl (by decide) rfl (fun ls hl => ?_)
  have W3_2 : ∀ (n_2 : Nat) (x1 : Int32) (x7 : Int32) (M2 : MT) (R3 : RT) (J4 : JT) (H : Heap) (locs : List Loc) (ls : Array Slot) (h_x1 : iv (-8) 24 x1) (h_x7 : iv 0 400 x7) (k8 : M2 a0 1 = x7) (w0_2 : 8 * x7.toInt + x1.toInt = 8 * t0.toInt + 24) (hm_2 : x1.toInt - (-8) < (n_2 : Int)) (hS : SB D cy base Z K N Lt_X12_four LRt_X12_four Ma Ra M2 R3 J4 s H locs) (hl : lv_has ls 3 [(2, .int x1), (0, .ref (base + a0)), (1, .int a1)]), W p l e (md_rm 1 0 0) s m args below meth c H locs 0 0 Q (F0 m 3 ls []) := by
    intro n_2
    induction n_2 with
    | zero =>
      intro x1 x7 M2 R3 J4 H locs ls h_x1 h_x7 k8 w0_2 hm_2 hS hl
      exfalso
      have := (h_a1).1; have := (h_a1).2; have := (h_t0).1; have := (h_t0).2; have := (h_x1).1; have := (h_x1).2; have := (h_x7).1; have := (h_x7).2; omega
    | succ n_2 ih_2 =>
      intro x1 x7 M2 R3 J4 H locs ls h_x1 h_x7 k8 w0_2 hm_2 hS hl
      have f5 := hS.2.2.1
      have g6 := hS.2.2.2
      refine lv_iload_n hx hb dX12_four_3 rfl (lv_at hl 0 rfl) ?_
      refine lv_if_lt (tgt := 36) hx hb dX12_four_4 (by decide) (fun c9 => ?_) (fun c9 => ?_)
      · have q10 : x1.toInt < 0 := ti_lt c9
        have h11 : iv (-8) (-1) x1 := iv_ltL (y := 0) h_x1 (iv_c (c := 0) (n := 0) (by decide)) q10 (by decide)
        have h12 : iv 4 400 x7 := by
          have := (h_a1).1; have := (h_a1).2; have := (h_t0).1; have := (h_t0).2; have := (h11).1; have := (h11).2; have := (h_x7).1; have := (h_x7).2; exact ⟨by omega, by omega⟩
        have q13 : x7.toInt = t0.toInt + 4 := by
          have := (h_a1).1; have := (h_a1).2; have := (h_t0).1; have := (h_t0).2; have := (h11).1; have := (h11).2; have := (h_x7).1; have := (h_x7).2; omega
        exact tw_endv hx hb hr hlocks hK hT hS hQ (⟨x7, k8, h12, q13⟩) dX12_four_36
      · have q14 : 0 ≤ x1.toInt := ti_nlt c9
        have h15 : iv 0 24 x1 := iv_geL (y := 0) h_x1 (iv_c (c := 0) (n := 0) (by decide)) q14 (by decide)
        refine lv_aload_n hx hb dX12_four_7 rfl (lv_at hl 1 rfl) ?_
        refine tw_getr hx hb hW hown hK hS f_X12_7_11 hz_a0 hk_a0 (t := 13) (n := 400) rfl dX12_four_8 (fun b16 k17 hz_b16 hk_b16 hn_b16 => ?_)
        have hn_b16 := hn_b16 (by decide)
        refine lv_aload_n hx hb dX12_four_11 rfl (lv_at hl 1 rfl) ?_
        refine tw_getk hx hb hW hown hK hS f_X12_116_11 hz_a0 hk_a0 (v := x7) k8 dX12_four_12 ?_
        refine lv_iload_n hx hb dX12_four_15 rfl (lv_at hl 2 rfl) ?_
        refine lv_iload_n hx hb dX12_four_16 rfl (lv_at hl 0 rfl) ?_
        refine lv_ishr hx hb dX12_four_17 ?_
        refine tw_top (fun x19 => ?_)
        have h18 := iv_any x19
        refine lv_i2b hx hb dX12_four_18 rfl ?_
        refine tw_top (fun x21 => ?_)
        have h20 := iv_any x21
        have h22 : iv 0 399 x7 := by
          have := (h_a1).1; have := (h_a1).2; have := (h_t0).1; have := (h_t0).2; have := (h15).1; have := (h15).2; have := (h_x7).1; have := (h_x7).2; exact ⟨by omega, by omega⟩
        refine tw_bast hx hb hK hS hz_b16 hk_b16 hn_b16 h22 ⟨by decide, by decide⟩ (jl := 0) (jh := 1999999) ⟨by decide, by decide⟩ rfl dX12_four_19 (fun H locs M24 hS f23 => ?_)
        refine lv_aload_n hx hb dX12_four_20 rfl (lv_at hl 1 rfl) ?_
        refine lv_dup hx hb dX12_four_21 rfl ?_
        have k25 : M24 a0 1 = x7 := (Fr.kp (k := 1) f23 hk_a0 rfl).trans k8
        refine tw_getk hx hb hW hown hK hS f_X12_116_11 hz_a0 hk_a0 (v := x7) k25 dX12_four_22 ?_
        refine lv_iconst (v := 1) hx hb dX12_four_25 (by decide) ?_
        refine tw_iadd (lo := 1) (hi := 400) hx hb h22 (iv_c (c := 1) (n := 1) (by decide)) ⟨by decide, by decide⟩ ⟨by decide, by decide⟩ dX12_four_26 (fun x28 e27 h26 => ?_)
        have e27 : x28.toInt = x7.toInt + 1 := e27
        refine tw_puti hx hb hW hown hK hS f_X12_116_11 hz_a0 hk_a0 rfl rfl (lo := 0) (hi := 400) rfl (iv_mono h26 (by decide) (by decide)) rfl dX12_four_27 (fun H locs M31 hS k29 f30 => ?_)
        refine tw_iinc (lv' := fun x34 => [(2, .int x34), (0, .ref (base + a0)), (1, .int a1)]) (lo := (-8)) (hi := 16) hx hb dX12_four_30 hl (k := 0) rfl h15 (by decide) ⟨by decide, by decide⟩ ⟨by decide, by decide⟩ (by decide) (fun _ => rfl) (fun x34 ls e33 h32 hl => ?_)
        refine lv_goto (tgt := 3) hx hb dX12_four_33 (by decide) ?_
        have w35 : 8 * x28.toInt + x34.toInt = 8 * t0.toInt + 24 := by
          have := (h_a1).1; have := (h_a1).2; have := (h_t0).1; have := (h_t0).2; have := (h15).1; have := (h15).2; have := (h26).1; have := (h26).2; have := (h32).1; have := (h32).2; have := (h22).1; have := (h22).2; omega
        have hm36 : x34.toInt - (-8) < (n_2 : Int) := by
          have := (h_a1).1; have := (h_a1).2; have := (h_t0).1; have := (h_t0).2; have := (h15).1; have := (h15).2; have := (h26).1; have := (h26).2; have := (h32).1; have := (h32).2; have := (h22).1; have := (h22).2; omega
        exact ih_2 x34 x28 M31 R3 J4 H locs _ (iv_mono h32 (by decide) (by decide)) (iv_mono h26 (by decide) (by decide)) k29 w35 hm36 hS hl
  have w37 : 8 * t0.toInt + (24 : Int32).toInt = 8 * t0.toInt + 24 := by
    have := (h_a1).1; have := (h_a1).2; have := (h_t0).1; have := (h_t0).2; have : (24 : Int32).toInt = 24 := (by decide); omega
  have hm38 : (24 : Int32).toInt - (-8) < (((33 : Nat) : Int) : Int) := by
    have := (h_a1).1; have := (h_a1).2; have := (h_t0).1; have := (h_t0).2; have : (24 : Int32).toInt = 24 := (by decide); omega
  exact W3_2 33 24 t0 Ma Ra Ja s.heap [] _ (iv_mono (iv_c (c := 24) (n := 24) (by decide)) (by decide) (by decide)) (iv_mono h_t0 (by decide) (by decide)) k_t0 w37 hm38 hS hl
def Lt_X12_feed : WL := [(12, 1, 2), (13, 0, 2000000)]
def LRt_X12_feed : WL := []
set_option maxRecDepth 100000 in
set_option maxHeartbeats 4000000 in
theorem t_X12_feed (l : Launch) (D : va_G) (cy : Nat → ClassId) (tx : (Nat → Nat) × (Nat → Nat)) (base Z : Nat) (K N : Nat → Nat) (Ma : MT) (Ra : RT) (Ja : JT) (hTy : Ty Z K N Ma Ra) (a0 : Nat) (hz_a0 : a0 < Z) (hk_a0 : K a0 = 12) (a1 : Int32) (h_a1 : iv (-2147483648) 2147483647 a1) (a2 : Int32) (h_a2 : iv (-2147483648) 2147483647 a2) (a3 : Int32) (h_a3 : iv (-2147483648) 2147483647 a3) (a4 : Int32) (h_a4 : iv (-2147483648) 2147483647 a4) (a5 : Int32) (h_a5 : iv (-2147483648) 2147483647 a5) : Met l yX12_feed [Cond.code yX12_feed cX12_feed 6 (some .int)] (md_rm 2 0 0) (va_Pc [.ref (base + a0), .int a1, .int a2, .int a3, .int a4, .int a5] (md_U D cy tx base Z K N Ma Ra Ja)) (mQi D cy tx base (fun r u => TP Z K N Lt_X12_feed LRt_X12_feed Ma Ra u ∧ (iv (-1) 400 r))) 0 0 (fun q => base ≤ q) := by
  refine tw_ofW (L := Lt_X12_feed) (LR := LRt_X12_feed) (by decide) (Nat.le_of_ble_eq_true rfl) hTy ?_
  intro p e s m args below meth c Q ls hx hb hr hlocks hown hml hW hK hT hS hQ hl
  have hl : lv_has ls 6 [(0, .ref (base + a0)), (1, .int a1), (2, .int a2), (3, .int a3), (4, .int a4), (5, .int a5)] := hl
  refine lv_aload_n hx hb dX12_feed_0 rfl (lv_at hl 0 rfl) ?_
  refine tw_geti hx hb hW hown hK hS f_X12_116_11 hz_a0 hk_a0 (lo := 0) (hi := 400) rfl dX12_feed_1 (fun x3 k2 h1 => ?_)
  refine lv_bipush (v := 20) hx hb dX12_feed_4 (by decide) ?_
  refine tw_iadd (lo := 20) (hi := 420) hx hb h1 (iv_c (c := 20) (n := 20) (by decide)) ⟨by decide, by decide⟩ ⟨by decide, by decide⟩ dX12_feed_6 (fun x6 e5 h4 => ?_)
  have e5 : x6.toInt = x3.toInt + 20 := e5
  refine lv_sipush (v := 400) hx hb dX12_feed_7 (by decide) ?_
  refine lv_icmp_le (tgt := 15) hx hb dX12_feed_10 (by decide) (fun c7 => ?_) (fun c7 => ?_)
  · have q8 : x6.toInt ≤ 400 := ti_le c7
    have h9 : iv 20 400 x6 := iv_leL (y := 400) h4 (iv_c (c := 400) (n := 400) (by decide)) q8 (by decide)
    refine lv_aload_n hx hb dX12_feed_15 rfl (lv_at hl 0 rfl) ?_
    refine lv_iload_n hx hb dX12_feed_16 rfl (lv_at hl 1 rfl) ?_
    have h10 : iv 0 396 x3 := by
      have := (h_a1).1; have := (h_a1).2; have := (h_a2).1; have := (h_a2).2; have := (h_a3).1; have := (h_a3).2; have := (h_a4).1; have := (h_a4).2; have := (h_a5).1; have := (h_a5).2; have := (h1).1; have := (h1).2; have := (h9).1; have := (h9).2; exact ⟨by omega, by omega⟩
    refine tw_gov hS (md_runV (As := [.int a1]) (rest := []) hx hb hml hown hW hK hT hS.1 (t_X12_four l D cy tx base Z K N Ma Ra Ja hS.2.1 a0 hz_a0 hk_a0 a1 h_a1 x3 k2 h10) s_X12_120 ⟨rfl, rfl, ⟨Nat.le_of_ble_eq_true rfl, Nat.le_of_ble_eq_true rfl⟩, ⟨Nat.le_of_ble_eq_true rfl, Nat.le_of_ble_eq_true rfl⟩⟩ hz_a0 hk_a0 (by decide) rfl rfl hl.1 rfl (Nat.le_of_ble_eq_true rfl) dX12_feed_17) rfl rfl (fun H locs M13 R14 J15 hS f11 g12 E16 => ?_)
    have p17 := E16
    obtain ⟨x20, k18, h19, q21⟩ := p17
    have k18 : M13 a0 1 = x20 := k18
    refine lv_aload_n hx hb dX12_feed_20 rfl (lv_at hl 0 rfl) ?_
    refine lv_iload_n hx hb dX12_feed_21 rfl (lv_at hl 2 rfl) ?_
    have h22 : iv 0 396 x20 := by
      have := (h_a1).1; have := (h_a1).2; have := (h_a2).1; have := (h_a2).2; have := (h_a3).1; have := (h_a3).2; have := (h_a4).1; have := (h_a4).2; have := (h_a5).1; have := (h_a5).2; have := (h19).1; have := (h19).2; have := (h1).1; have := (h1).2; have := (h9).1; have := (h9).2; exact ⟨by omega, by omega⟩
    refine tw_gov hS (md_runV (As := [.int a2]) (rest := []) hx hb hml hown hW hK hT hS.1 (t_X12_four l D cy tx base Z K N M13 R14 J15 hS.2.1 a0 hz_a0 hk_a0 a2 h_a2 x20 k18 h22) s_X12_120 ⟨rfl, rfl, ⟨Nat.le_of_ble_eq_true rfl, Nat.le_of_ble_eq_true rfl⟩, ⟨Nat.le_of_ble_eq_true rfl, Nat.le_of_ble_eq_true rfl⟩⟩ hz_a0 hk_a0 (by decide) rfl rfl hl.1 rfl (Nat.le_of_ble_eq_true rfl) dX12_feed_22) rfl rfl (fun H locs M25 R26 J27 hS f23 g24 E28 => ?_)
    have p29 := E28
    obtain ⟨x32, k30, h31, q33⟩ := p29
    have k30 : M25 a0 1 = x32 := k30
    refine lv_aload_n hx hb dX12_feed_25 rfl (lv_at hl 0 rfl) ?_
    refine lv_iload_n hx hb dX12_feed_26 rfl (lv_at hl 3 rfl) ?_
    have h34 : iv 0 396 x32 := by
      have := (h_a1).1; have := (h_a1).2; have := (h_a2).1; have := (h_a2).2; have := (h_a3).1; have := (h_a3).2; have := (h_a4).1; have := (h_a4).2; have := (h_a5).1; have := (h_a5).2; have := (h19).1; have := (h19).2; have := (h1).1; have := (h1).2; have := (h31).1; have := (h31).2; have := (h9).1; have := (h9).2; exact ⟨by omega, by omega⟩
    refine tw_gov hS (md_runV (As := [.int a3]) (rest := []) hx hb hml hown hW hK hT hS.1 (t_X12_four l D cy tx base Z K N M25 R26 J27 hS.2.1 a0 hz_a0 hk_a0 a3 h_a3 x32 k30 h34) s_X12_120 ⟨rfl, rfl, ⟨Nat.le_of_ble_eq_true rfl, Nat.le_of_ble_eq_true rfl⟩, ⟨Nat.le_of_ble_eq_true rfl, Nat.le_of_ble_eq_true rfl⟩⟩ hz_a0 hk_a0 (by decide) rfl rfl hl.1 rfl (Nat.le_of_ble_eq_true rfl) dX12_feed_27) rfl rfl (fun H locs M37 R38 J39 hS f35 g36 E40 => ?_)
    have p41 := E40
    obtain ⟨x44, k42, h43, q45⟩ := p41
    have k42 : M37 a0 1 = x44 := k42
    refine lv_aload_n hx hb dX12_feed_30 rfl (lv_at hl 0 rfl) ?_
    refine lv_iload hx hb dX12_feed_31 (lv_at hl 4 rfl) ?_
    have h46 : iv 0 396 x44 := by
      have := (h_a1).1; have := (h_a1).2; have := (h_a2).1; have := (h_a2).2; have := (h_a3).1; have := (h_a3).2; have := (h_a4).1; have := (h_a4).2; have := (h_a5).1; have := (h_a5).2; have := (h19).1; have := (h19).2; have := (h1).1; have := (h1).2; have := (h31).1; have := (h31).2; have := (h43).1; have := (h43).2; have := (h9).1; have := (h9).2; exact ⟨by omega, by omega⟩
    refine tw_gov hS (md_runV (As := [.int a4]) (rest := []) hx hb hml hown hW hK hT hS.1 (t_X12_four l D cy tx base Z K N M37 R38 J39 hS.2.1 a0 hz_a0 hk_a0 a4 h_a4 x44 k42 h46) s_X12_120 ⟨rfl, rfl, ⟨Nat.le_of_ble_eq_true rfl, Nat.le_of_ble_eq_true rfl⟩, ⟨Nat.le_of_ble_eq_true rfl, Nat.le_of_ble_eq_true rfl⟩⟩ hz_a0 hk_a0 (by decide) rfl rfl hl.1 rfl (Nat.le_of_ble_eq_true rfl) dX12_feed_33) rfl rfl (fun H locs M49 R50 J51 hS f47 g48 E52 => ?_)
    have p53 := E52
    obtain ⟨x56, k54, h55, q57⟩ := p53
    have k54 : M49 a0 1 = x56 := k54
    refine lv_aload_n hx hb dX12_feed_36 rfl (lv_at hl 0 rfl) ?_
    refine lv_iload hx hb dX12_feed_37 (lv_at hl 5 rfl) ?_
    have h58 : iv 0 396 x56 := by
      have := (h_a1).1; have := (h_a1).2; have := (h_a2).1; have := (h_a2).2; have := (h_a3).1; have := (h_a3).2; have := (h_a4).1; have := (h_a4).2; have := (h_a5).1; have := (h_a5).2; have := (h19).1; have := (h19).2; have := (h1).1; have := (h1).2; have := (h31).1; have := (h31).2; have := (h43).1; have := (h43).2; have := (h55).1; have := (h55).2; have := (h9).1; have := (h9).2; exact ⟨by omega, by omega⟩
    refine tw_gov hS (md_runV (As := [.int a5]) (rest := []) hx hb hml hown hW hK hT hS.1 (t_X12_four l D cy tx base Z K N M49 R50 J51 hS.2.1 a0 hz_a0 hk_a0 a5 h_a5 x56 k54 h58) s_X12_120 ⟨rfl, rfl, ⟨Nat.le_of_ble_eq_true rfl, Nat.le_of_ble_eq_true rfl⟩, ⟨Nat.le_of_ble_eq_true rfl, Nat.le_of_ble_eq_true rfl⟩⟩ hz_a0 hk_a0 (by decide) rfl rfl hl.1 rfl (Nat.le_of_ble_eq_true rfl) dX12_feed_39) rfl rfl (fun H locs M61 R62 J63 hS f59 g60 E64 => ?_)
    have p65 := E64
    obtain ⟨x68, k66, h67, q69⟩ := p65
    have k66 : M61 a0 1 = x68 := k66
    refine lv_aload_n hx hb dX12_feed_42 rfl (lv_at hl 0 rfl) ?_
    refine tw_getk hx hb hW hown hK hS f_X12_116_11 hz_a0 hk_a0 (v := x68) k66 dX12_feed_43 ?_
    exact tw_endi hx hb hr hlocks hK hT hS hQ ((iv_mono h67 (by decide) (by decide))) dX12_feed_46
  · have q70 : 400 < x6.toInt := ti_nle c7
    have h71 : iv 401 420 x6 := iv_gtL (y := 400) h4 (iv_c (c := 400) (n := 400) (by decide)) q70 (by decide)
    refine lv_iconst (v := (-1)) hx hb dX12_feed_13 (by decide) ?_
    exact tw_endi hx hb hr hlocks hK hT hS hQ ((iv_mono (iv_c (c := (-1)) (n := (-1)) (by decide)) (by decide) (by decide))) dX12_feed_14
