def Lt_X12_seed : WL := [(14, 0, 2000000), (23, 6, 7)]
def LRt_X12_seed : WL := []
set_option maxRecDepth 100000 in
set_option maxHeartbeats 4000000 in
theorem t_X12_seed (l : Launch) (D : va_G) (cy : Nat → ClassId) (tx : (Nat → Nat) × (Nat → Nat)) (base Z : Nat) (K N : Nat → Nat) (Ma : MT) (Ra : RT) (Ja : JT) (hTy : Ty Z K N Ma Ra) (a0 : Nat) (hz_a0 : a0 < Z) (hk_a0 : K a0 = 12) (a1 : Int32) (h_a1 : iv (-2147483648) 2147483647 a1) : Met l yX12_seed [Cond.code yX12_seed cX12_seed 3 (some .int)] (md_rm 2 0 0) (va_Pc [.ref (base + a0), .int a1] (md_U D cy tx base Z K N Ma Ra Ja)) (mQi D cy tx base (fun r u => TP Z K N Lt_X12_seed LRt_X12_seed Ma Ra u ∧ (iv (-2) 2147483647 r))) 0 0 (fun q => base ≤ q) := by
  refine tw_ofW (L := Lt_X12_seed) (LR := LRt_X12_seed) (by decide) (Nat.le_of_ble_eq_true rfl) hTy ?_
  intro p e s m args below meth c Q ls hx hb hr hlocks hown hml hW hK hT hS hQ hl
  have hl : lv_has ls 3 [(0, .ref (base + a0)), (1, .int a1)] := hl
  refine lv_iload_n hx hb dX12_seed_0 rfl (lv_at hl 1 rfl) ?_
  refine lv_if_ge (tgt := 10) hx hb dX12_seed_1 (by decide) (fun c1 => ?_) (fun c1 => ?_)
  · have q2 : 0 ≤ a1.toInt := ti_le c1
    have h3 : iv 0 2147483647 a1 := iv_geL (y := 0) h_a1 (iv_c (c := 0) (n := 0) (by decide)) q2 (by decide)
    refine lv_aload_n hx hb dX12_seed_10 rfl (lv_at hl 0 rfl) ?_
    refine tw_getr hx hb hW hown hK hS f_X12_45_11 hz_a0 hk_a0 (t := 23) (n := 226) rfl dX12_seed_11 (fun b4 k5 hz_b4 hk_b4 hn_b4 => ?_)
    have hn_b4 := hn_b4 (by decide)
    refine lv_bipush (v := 6) hx hb dX12_seed_14 (by decide) ?_
    refine tw_iald hx hb hK hS hz_b4 hk_b4 (Or.inr (by decide)) hn_b4 (lo := 0) (hi := 2147483647) (iv_c (c := 6) (n := 6) (by decide)) ⟨by decide, by decide⟩ (rg_c (k0 := 6) rfl rfl rfl) dX12_seed_16 (fun x8 k7 h6 => ?_)
    refine lv_istore_n (lv' := [(2, .int x8), (0, .ref (base + a0)), (1, .int a1)]) hx hb dX12_seed_17 rfl hl (by decide) rfl (fun ls hl => ?_)
    refine lv_aload_n hx hb dX12_seed_18 rfl (lv_at hl 1 rfl) ?_
    refine tw_getrk hx hb hW hown hK hS f_X12_45_11 hz_a0 hk_a0 (b := b4) k5 dX12_seed_19 ?_
    refine lv_bipush (v := 6) hx hb dX12_seed_22 (by decide) ?_
    refine lv_iload_n hx hb dX12_seed_24 rfl (lv_at hl 2 rfl) ?_
    refine tw_iast hx hb hK hS hz_b4 hk_b4 (Or.inr (by decide)) hn_b4 (iv_c (c := 6) (n := 6) (by decide)) ⟨by decide, by decide⟩ h3 (rg_cs (k0 := 6) rfl rfl rfl ⟨by decide, by decide⟩) (jl := 6) (jh := 6) ⟨by decide, by decide⟩ rfl dX12_seed_25 (fun H locs M11 hS k9 f10 => ?_)
    refine lv_iload_n hx hb dX12_seed_26 rfl (lv_at hl 0 rfl) ?_
    exact tw_endi hx hb hr hlocks hK hT hS hQ ((iv_mono h6 (by decide) (by decide))) dX12_seed_27
  · have q12 : a1.toInt < 0 := ti_nle c1
    have h13 : iv (-2147483648) (-1) a1 := iv_ltL (y := 0) h_a1 (iv_c (c := 0) (n := 0) (by decide)) q12 (by decide)
    refine lv_aload_n hx hb dX12_seed_4 rfl (lv_at hl 0 rfl) ?_
    refine lv_iconst (v := 0) hx hb dX12_seed_5 (by decide) ?_
    refine tw_goi hS (md_runV (As := [.int 0]) (rest := []) hx hb hml hown hW hK hT hS.1 (t_X12_refuses l D cy tx base Z K N Ma Ra Ja hS.2.1 a0 hz_a0 hk_a0 0 (iv_mono (iv_c (c := 0) (n := 0) (by decide)) (by decide) (by decide))) s_X12_338 ⟨rfl, rfl, ⟨Nat.le_of_ble_eq_true rfl, Nat.le_of_ble_eq_true rfl⟩, ⟨Nat.le_of_ble_eq_true rfl, Nat.le_of_ble_eq_true rfl⟩⟩ hz_a0 hk_a0 (by decide) rfl rfl hl.1 rfl (Nat.le_of_ble_eq_true rfl) dX12_seed_6) rfl rfl (fun x20 H locs M16 R17 J18 hS f14 g15 E19 => ?_)
    have h_x20 := E19
    exact tw_endi hx hb hr hlocks hK hT hS hQ ((iv_mono h_x20 (by decide) (by decide))) dX12_seed_9
def Lt_X12_status : WL := []
def LRt_X12_status : WL := []
set_option maxRecDepth 100000 in
set_option maxHeartbeats 4000000 in
theorem t_X12_status (l : Launch) (D : va_G) (cy : Nat → ClassId) (tx : (Nat → Nat) × (Nat → Nat)) (base Z : Nat) (K N : Nat → Nat) (Ma : MT) (Ra : RT) (Ja : JT) (hTy : Ty Z K N Ma Ra) (a0 : Nat) (hz_a0 : a0 < Z) (hk_a0 : K a0 = 12) (a1 : Int32) (h_a1 : iv (-2147483648) 2147483647 a1) : Met l yX12_status [Cond.code yX12_status cX12_status 2 (some .int)] (md_rm 2 0 0) (va_Pc [.ref (base + a0), .int a1] (md_U D cy tx base Z K N Ma Ra Ja)) (mQi D cy tx base (fun r u => TP Z K N Lt_X12_status LRt_X12_status Ma Ra u ∧ (iv (-2147483648) 2147483647 r))) 0 0 (fun q => base ≤ q) := by
  refine tw_ofW (L := Lt_X12_status) (LR := LRt_X12_status) (by decide) (Nat.le_of_ble_eq_true rfl) hTy ?_
  intro p e s m args below meth c Q ls hx hb hr hlocks hown hml hW hK hT hS hQ hl
  have hl : lv_has ls 2 [(0, .ref (base + a0)), (1, .int a1)] := hl
  refine lv_iload_n hx hb dX12_status_0 rfl (lv_at hl 1 rfl) ?_
  refine lv_i2l hx hb dX12_status_1 rfl ?_
  refine lv_lconst (v := 0) hx hb dX12_status_2 (by decide) ?_
  refine lv_lconst (v := 1) hx hb dX12_status_3 (by decide) ?_
  refine tw_goi hS (md_runS (As := [.long a1.toInt64, .long 0, .long 1]) (rest := []) hx hb hml hown hW hK hT hS.1 (t_X12_in l D cy tx base Z K N Ma Ra Ja hS.2.1 (a1.toInt64) (0) (1)) s_X12_155 ⟨rfl, rfl, ⟨Nat.le_of_ble_eq_true rfl, Nat.le_of_ble_eq_true rfl⟩, ⟨Nat.le_of_ble_eq_true rfl, Nat.le_of_ble_eq_true rfl⟩⟩ rfl hl.1 rfl (Nat.le_of_ble_eq_true rfl) dX12_status_4) rfl rfl (fun x7 H locs M3 R4 J5 hS f1 g2 E6 => ?_)
  obtain ⟨h_x7, p8⟩ := E6
  refine lv_if_eq (tgt := 19) hx hb dX12_status_7 (by decide) (fun c9 => ?_) (fun c9 => ?_)
  · have q10 : x7.toInt = 0 := ti_eq c9
    have h11 : iv 0 0 x7 := ⟨by have := (h_x7).1; have := ((iv_c (c := 0) (n := 0) (by decide))).1; omega, by have := (h_x7).2; have := ((iv_c (c := 0) (n := 0) (by decide))).2; omega⟩
    refine lv_iconst (v := (-1)) hx hb dX12_status_19 (by decide) ?_
    exact tw_endi hx hb hr hlocks hK hT hS hQ ((iv_mono (iv_c (c := (-1)) (n := (-1)) (by decide)) (by decide) (by decide))) dX12_status_20
  · have q12 : ¬ x7.toInt = 0 := ti_ne c9
    have h13 : iv 1 1 x7 := ⟨by have := (h_x7).1; have := ((iv_c (c := 0) (n := 0) (by decide))).1; have := ((iv_c (c := 0) (n := 0) (by decide))).2; omega, by have := (h_x7).2; have := ((iv_c (c := 0) (n := 0) (by decide))).1; have := ((iv_c (c := 0) (n := 0) (by decide))).2; omega⟩
    have h14 : iv 0 1 a1 := in2iv (p8 c9) ((jv_c (x := 0) (n := 0) (by decide))).1 ((jv_c (x := 1) (n := 1) (by decide))).2
    refine lv_aload_n hx hb dX12_status_10 rfl (lv_at hl 0 rfl) ?_
    refine tw_getr hx hb hW hown hK hS f_X12_48_11 hz_a0 hk_a0 (t := 14) (n := 2) rfl dX12_status_11 (fun b15 k16 hz_b15 hk_b15 hn_b15 => ?_)
    have hn_b15 := hn_b15 (by decide)
    refine lv_iload_n hx hb dX12_status_14 rfl (lv_at hl 1 rfl) ?_
    refine tw_iald hx hb hK hS hz_b15 hk_b15 (Or.inl rfl) hn_b15 (lo := (-2147483648)) (hi := 2147483647) h14 ⟨by decide, by decide⟩ rg_u14 dX12_status_15 (fun x19 k18 h17 => ?_)
    refine lv_goto (tgt := 20) hx hb dX12_status_16 (by decide) ?_
    exact tw_endi hx hb hr hlocks hK hT hS hQ (h17) dX12_status_20
def Lt_X12_tells : WL := [(12, 28, 29), (12, 31, 33), (14, 0, 2000000), (30, 0, 2000000)]
def LRt_X12_tells : WL := []
set_option maxRecDepth 100000 in
set_option maxHeartbeats 4000000 in
theorem t_X12_tells (l : Launch) (D : va_G) (cy : Nat → ClassId) (tx : (Nat → Nat) × (Nat → Nat)) (base Z : Nat) (K N : Nat → Nat) (Ma : MT) (Ra : RT) (Ja : JT) (hTy : Ty Z K N Ma Ra) (a0 : Nat) (hz_a0 : a0 < Z) (hk_a0 : K a0 = 12) (a1 : Int32) (h_a1 : iv (-2147483648) 2147483647 a1) (a2 : Int32) (h_a2 : iv (-2147483648) 2147483647 a2) (sd : Nat) (k_sd : Ra a0 25 = some sd) (e0 : Int32) (k_e0 : Ma sd (0 : Int32).toNatClampNeg = e0) (h_e0 : iv 0 10 e0) : Met l yX12_tells [Cond.code yX12_tells cX12_tells 7 (some .int)] (md_rm 7 0 0) (va_Pc [.ref (base + a0), .int a1, .int a2] (md_U D cy tx base Z K N Ma Ra Ja)) (mQi D cy tx base (fun r u => TP Z K N Lt_X12_tells LRt_X12_tells Ma Ra u ∧ (iv (-1) 2147483647 r))) 0 0 (fun q => base ≤ q) := by
  refine tw_ofW (L := Lt_X12_tells) (LR := LRt_X12_tells) (by decide) (Nat.le_of_ble_eq_true rfl) hTy ?_
  intro p e s m args below meth c Q ls hx hb hr hlocks hown hml hW hK hT hS hQ hl
  have hl : lv_has ls 7 [(0, .ref (base + a0)), (1, .int a1), (2, .int a2)] := hl
  obtain ⟨hz_sd, hk_sd, hn_sd⟩ := hTy.refn hz_a0 hk_a0 (show rtR 12 25 = (23, 226, 0) from rfl) k_sd
  have hn_sd := hn_sd (by decide)
  refine lv_aload_n hx hb dX12_tells_0 rfl (lv_at hl 0 rfl) ?_
  refine lv_iload_n hx hb dX12_tells_1 rfl (lv_at hl 1 rfl) ?_
  refine tw_goi hS (md_runV (As := [.int a1]) (rest := []) hx hb hml hown hW hK hT hS.1 (t_X12_canFit l D cy tx base Z K N Ma Ra Ja hS.2.1 a0 hz_a0 hk_a0 a1 h_a1 sd k_sd e0 k_e0 (iv_mono h_e0 (by decide) (by decide))) s_X12_486 ⟨rfl, rfl, ⟨Nat.le_of_ble_eq_true rfl, Nat.le_of_ble_eq_true rfl⟩, ⟨Nat.le_of_ble_eq_true rfl, Nat.le_of_ble_eq_true rfl⟩⟩ hz_a0 hk_a0 (by decide) rfl rfl hl.1 rfl (Nat.le_of_ble_eq_true rfl) dX12_tells_2) rfl rfl (fun x7 H locs M3 R4 J5 hS f1 g2 E6 => ?_)
  obtain ⟨h_x7, p8, p9⟩ := E6
  refine lv_if_eq (tgt := 18) hx hb dX12_tells_5 (by decide) (fun c10 => ?_) (fun c10 => ?_)
  · have q11 : x7.toInt = 0 := ti_eq c10
    have h12 : iv 0 0 x7 := ⟨by have := (h_x7).1; have := ((iv_c (c := 0) (n := 0) (by decide))).1; omega, by have := (h_x7).2; have := ((iv_c (c := 0) (n := 0) (by decide))).2; omega⟩
    refine lv_iconst (v := (-1)) hx hb dX12_tells_18 (by decide) ?_
    exact tw_endi hx hb hr hlocks hK hT hS hQ ((iv_mono (iv_c (c := (-1)) (n := (-1)) (by decide)) (by decide) (by decide))) dX12_tells_19
  · have q13 : ¬ x7.toInt = 0 := ti_ne c10
    have h14 : iv 1 1 x7 := ⟨by have := (h_x7).1; have := ((iv_c (c := 0) (n := 0) (by decide))).1; have := ((iv_c (c := 0) (n := 0) (by decide))).2; omega, by have := (h_x7).2; have := ((iv_c (c := 0) (n := 0) (by decide))).1; have := ((iv_c (c := 0) (n := 0) (by decide))).2; omega⟩
    have h15 : iv 1 5 e0 := ⟨by have := (p8 c10).1; have := (h_e0).1; omega, by have := (p8 c10).2; have := (h_e0).2; omega⟩
    have h16 : iv 1 6 a1 := ⟨by have := (p9 c10).1; have := (h_a1).1; omega, by have := (p9 c10).2; have := (h_a1).2; omega⟩
    refine lv_iload_n hx hb dX12_tells_8 rfl (lv_at hl 2 rfl) ?_
    refine lv_i2l hx hb dX12_tells_9 rfl ?_
    refine lv_lconst (v := 0) hx hb dX12_tells_10 (by decide) ?_
    refine lv_lconst (v := 1) hx hb dX12_tells_11 (by decide) ?_
    refine tw_goi hS (md_runS (As := [.long a2.toInt64, .long 0, .long 1]) (rest := []) hx hb hml hown hW hK hT hS.1 (t_X12_in l D cy tx base Z K N M3 R4 J5 hS.2.1 (a2.toInt64) (0) (1)) s_X12_155 ⟨rfl, rfl, ⟨Nat.le_of_ble_eq_true rfl, Nat.le_of_ble_eq_true rfl⟩, ⟨Nat.le_of_ble_eq_true rfl, Nat.le_of_ble_eq_true rfl⟩⟩ rfl hl.1 rfl (Nat.le_of_ble_eq_true rfl) dX12_tells_12) rfl rfl (fun x23 H locs M19 R20 J21 hS f17 g18 E22 => ?_)
    obtain ⟨h_x23, p24⟩ := E22
    refine lv_if_ne (tgt := 20) hx hb dX12_tells_15 (by decide) (fun c25 => ?_) (fun c25 => ?_)
    · have q26 : ¬ x23.toInt = 0 := ti_ne c25
      have h27 : iv 1 1 x23 := ⟨by have := (h_x23).1; have := ((iv_c (c := 0) (n := 0) (by decide))).1; have := ((iv_c (c := 0) (n := 0) (by decide))).2; omega, by have := (h_x23).2; have := ((iv_c (c := 0) (n := 0) (by decide))).1; have := ((iv_c (c := 0) (n := 0) (by decide))).2; omega⟩
      have h28 : iv 0 1 a2 := in2iv (p24 c25) ((jv_c (x := 0) (n := 0) (by decide))).1 ((jv_c (x := 1) (n := 1) (by decide))).2
      refine lv_iconst (v := 1) hx hb dX12_tells_20 (by decide) ?_
      refine lv_istore_n (lv' := [(3, .int 1), (0, .ref (base + a0)), (1, .int a1), (2, .int a2)]) hx hb dX12_tells_21 rfl hl (by decide) rfl (fun ls hl => ?_)
      refine lv_aload_n hx hb dX12_tells_22 rfl (lv_at hl 1 rfl) ?_
      refine lv_iconst (v := 1) hx hb dX12_tells_23 (by decide) ?_
      refine lv_iload_n hx hb dX12_tells_24 rfl (lv_at hl 2 rfl) ?_
      have k29 : R20 a0 25 = some sd := ((Fr.kp (k := 25) g18 hk_a0 rfl).trans (Fr.kp (k := 25) g2 hk_a0 rfl)).trans k_sd
      have k30 : M19 sd (0 : Int32).toNatClampNeg = e0 := ((Fr.kp (k := (0 : Int32).toNatClampNeg) f17 hk_sd rfl).trans (Fr.kp (k := (0 : Int32).toNatClampNeg) f1 hk_sd rfl)).trans k_e0
      refine tw_goi hS (md_runV (As := [.int 1, .int a1]) (rest := []) hx hb hml hown hW hK hT hS.1 (t_X12_mostAlike l D cy tx base Z K N M19 R20 J21 hS.2.1 a0 hz_a0 hk_a0 1 (iv_mono (iv_c (c := 1) (n := 1) (by decide)) (by decide) (by decide)) a1 h16 sd k29 e0 k30 (iv_mono h15 (by decide) (by decide))) s_X12_495 ⟨rfl, rfl, ⟨Nat.le_of_ble_eq_true rfl, Nat.le_of_ble_eq_true rfl⟩, ⟨Nat.le_of_ble_eq_true rfl, Nat.le_of_ble_eq_true rfl⟩⟩ hz_a0 hk_a0 (by decide) rfl rfl hl.1 rfl (Nat.le_of_ble_eq_true rfl) dX12_tells_25) rfl rfl (fun x37 H locs M33 R34 J35 hS f31 g32 E36 => ?_)
      have h_x37 := E36
      refine lv_istore (lv' := [(4, .int x37), (3, .int 1), (0, .ref (base + a0)), (1, .int a1), (2, .int a2)]) hx hb dX12_tells_28 hl (by decide) rfl (fun ls hl => ?_)
      refine lv_iconst (v := 2) hx hb dX12_tells_30 (by decide) ?_
      refine lv_istore (lv' := [(5, .int 2), (4, .int x37), (3, .int 1), (0, .ref (base + a0)), (1, .int a1), (2, .int a2)]) hx hb dX12_tells_31 hl (by decide) rfl (fun ls hl => ?_)
      have W33_41 : ∀ (n_41 : Nat) (x38 : Int32) (x39 : Int32) (x40 : Int32) (M41 : MT) (R42 : RT) (J43 : JT) (H : Heap) (locs : List Loc) (ls : Array Slot) (h_x38 : iv 1 2147483647 x38) (h_x39 : iv 0 2147483647 x39) (h_x40 : iv 2 2147483647 x40) (hm_41 : 2147483647 - x40.toInt < (n_41 : Int)) (hS : SB D cy base Z K N Lt_X12_tells LRt_X12_tells Ma Ra M41 R42 J43 s H locs) (hl : lv_has ls 7 [(3, .int x38), (4, .int x39), (5, .int x40), (0, .ref (base + a0)), (1, .int a1), (2, .int a2)]), W p l e (md_rm 7 0 0) s m args below meth c H locs 0 0 Q (F0 m 33 ls []) := by
        intro n_41
        induction n_41 with
        | zero =>
          intro x38 x39 x40 M41 R42 J43 H locs ls h_x38 h_x39 h_x40 hm_41 hS hl
          exfalso
          have := (h16).1; have := (h16).2; have := (h28).1; have := (h28).2; have := (h15).1; have := (h15).2; have := (h_x40).1; have := (h_x40).2; omega
        | succ n_41 ih_41 =>
          intro x38 x39 x40 M41 R42 J43 H locs ls h_x38 h_x39 h_x40 hm_41 hS hl
          have f44 := hS.2.2.1
          have g45 := hS.2.2.2
          refine lv_iload hx hb dX12_tells_33 (lv_at hl 2 rfl) ?_
          refine lv_iconst (v := 1) hx hb dX12_tells_35 (by decide) ?_
          refine lv_aload_n hx hb dX12_tells_36 rfl (lv_at hl 3 rfl) ?_
          have k46 : R42 a0 25 = some sd := (Fr.kp (k := 25) g45 hk_a0 rfl).trans k_sd
          refine tw_getrk hx hb hW hown hK hS f_X12_45_11 hz_a0 hk_a0 (b := sd) k46 dX12_tells_37 ?_
          refine lv_iconst (v := 0) hx hb dX12_tells_40 (by decide) ?_
          have k47 : M41 sd (0 : Int32).toNatClampNeg = e0 := (Fr.kp (k := (0 : Int32).toNatClampNeg) f44 hk_sd rfl).trans k_e0
          refine tw_ialk hx hb hK hS hz_sd hk_sd (Or.inr (by decide)) hn_sd (iv_c (c := 0) (n := 0) (by decide)) ⟨by decide, by decide⟩ (v := e0) k47 dX12_tells_41 ?_
          refine lv_ishl hx hb dX12_tells_42 ?_
          refine tw_top (fun x49 => ?_)
          have h48 := iv_any x49
          refine lv_icmp_ge (tgt := 78) hx hb dX12_tells_43 (by decide) (fun c50 => ?_) (fun c50 => ?_)
          · have q51 : x49.toInt ≤ x40.toInt := ti_le c50
            refine lv_iload_n hx hb dX12_tells_78 rfl (lv_at hl 5 rfl) ?_
            refine lv_if_ne (tgt := 86) hx hb dX12_tells_79 (by decide) (fun c52 => ?_) (fun c52 => ?_)
            · have q53 : ¬ a2.toInt = 0 := ti_ne c52
              have h54 : iv 1 1 a2 := ⟨by have := (h28).1; have := ((iv_c (c := 0) (n := 0) (by decide))).1; have := ((iv_c (c := 0) (n := 0) (by decide))).2; omega, by have := (h28).2; have := ((iv_c (c := 0) (n := 0) (by decide))).1; have := ((iv_c (c := 0) (n := 0) (by decide))).2; omega⟩
              refine lv_iload hx hb dX12_tells_86 (lv_at hl 1 rfl) ?_
              exact tw_endi hx hb hr hlocks hK hT hS hQ ((iv_mono h_x39 (by decide) (by decide))) dX12_tells_88
            · have q55 : a2.toInt = 0 := ti_eq c52
              have h56 : iv 0 0 a2 := ⟨by have := (h28).1; have := ((iv_c (c := 0) (n := 0) (by decide))).1; omega, by have := (h28).2; have := ((iv_c (c := 0) (n := 0) (by decide))).2; omega⟩
              refine lv_iload_n hx hb dX12_tells_82 rfl (lv_at hl 0 rfl) ?_
              refine lv_goto (tgt := 88) hx hb dX12_tells_83 (by decide) ?_
              exact tw_endi hx hb hr hlocks hK hT hS hQ ((iv_mono h_x38 (by decide) (by decide))) dX12_tells_88
          · have q57 : x40.toInt < x49.toInt := ti_nle c50
            have h58 : iv 2 2147483646 x40 := iv_ltL (y := x49) h_x40 h48 q57 (by decide)
            have h59 : iv 3 2147483647 x49 := iv_gtL (y := x40) h48 h_x40 q57 (by decide)
            refine lv_aload_n hx hb dX12_tells_46 rfl (lv_at hl 3 rfl) ?_
            refine lv_iload hx hb dX12_tells_47 (lv_at hl 2 rfl) ?_
            refine lv_iload_n hx hb dX12_tells_49 rfl (lv_at hl 4 rfl) ?_
            have k60 : R42 a0 25 = some sd := (Fr.kp (k := 25) g45 hk_a0 rfl).trans k_sd
            have k61 : M41 sd (0 : Int32).toNatClampNeg = e0 := (Fr.kp (k := (0 : Int32).toNatClampNeg) f44 hk_sd rfl).trans k_e0
            refine tw_goi hS (md_runV (As := [.int x40, .int a1]) (rest := []) hx hb hml hown hW hK hT hS.1 (t_X12_mostAlike l D cy tx base Z K N M41 R42 J43 hS.2.1 a0 hz_a0 hk_a0 x40 (iv_mono h58 (by decide) (by decide)) a1 h16 sd k60 e0 k61 (iv_mono h15 (by decide) (by decide))) s_X12_495 ⟨rfl, rfl, ⟨Nat.le_of_ble_eq_true rfl, Nat.le_of_ble_eq_true rfl⟩, ⟨Nat.le_of_ble_eq_true rfl, Nat.le_of_ble_eq_true rfl⟩⟩ hz_a0 hk_a0 (by decide) rfl rfl hl.1 rfl (Nat.le_of_ble_eq_true rfl) dX12_tells_50) rfl rfl (fun x68 H locs M64 R65 J66 hS f62 g63 E67 => ?_)
            have h_x68 := E67
            refine lv_istore (lv' := [(6, .int x68), (3, .int x38), (4, .int x39), (5, .int x40), (0, .ref (base + a0)), (1, .int a1), (2, .int a2)]) hx hb dX12_tells_53 hl (by decide) rfl (fun ls hl => ?_)
            refine lv_iload hx hb dX12_tells_55 (lv_at hl 0 rfl) ?_
            refine lv_iload hx hb dX12_tells_57 (lv_at hl 2 rfl) ?_
            refine lv_icmp_lt (tgt := 65) hx hb dX12_tells_59 (by decide) (fun c69 => ?_) (fun c69 => ?_)
            · have q70 : x68.toInt < x39.toInt := ti_lt c69
              have h71 : iv 0 2147483646 x68 := iv_ltL (y := x39) h_x68 h_x39 q70 (by decide)
              have h72 : iv 1 2147483647 x39 := iv_gtL (y := x68) h_x39 h_x68 q70 (by decide)
              refine lv_iload hx hb dX12_tells_65 (lv_at hl 3 rfl) ?_
              refine lv_istore_n (lv' := [(3, .int x40), (6, .int x68), (4, .int x39), (5, .int x40), (0, .ref (base + a0)), (1, .int a1), (2, .int a2)]) hx hb dX12_tells_67 rfl hl (by decide) rfl (fun ls hl => ?_)
              refine lv_iload hx hb dX12_tells_68 (lv_at hl 1 rfl) ?_
              refine lv_istore (lv' := [(4, .int x68), (3, .int x40), (6, .int x68), (5, .int x40), (0, .ref (base + a0)), (1, .int a1), (2, .int a2)]) hx hb dX12_tells_70 hl (by decide) rfl (fun ls hl => ?_)
              refine tw_iinc (lv' := fun x75 => [(5, .int x75), (4, .int x68), (3, .int x40), (6, .int x68), (0, .ref (base + a0)), (1, .int a1), (2, .int a2)]) (lo := 3) (hi := 2147483647) hx hb dX12_tells_72 hl (k := 3) rfl h58 (by decide) ⟨by decide, by decide⟩ ⟨by decide, by decide⟩ (by decide) (fun _ => rfl) (fun x75 ls e74 h73 hl => ?_)
              refine lv_goto (tgt := 33) hx hb dX12_tells_75 (by decide) ?_
              have hm76 : 2147483647 - x75.toInt < (n_41 : Int) := by
                have := (h16).1; have := (h16).2; have := (h28).1; have := (h28).2; have := (h15).1; have := (h15).2; have := (h58).1; have := (h58).2; have := (h73).1; have := (h73).2; omega
              exact ih_41 x40 x68 x75 M64 R65 J66 H locs _ (iv_mono h58 (by decide) (by decide)) (iv_mono h71 (by decide) (by decide)) (iv_mono h73 (by decide) (by decide)) hm76 hS (lv_sub hl [2, 1, 0, 4, 5, 6] rfl)
            · have q77 : x39.toInt ≤ x68.toInt := ti_nlt c69
              refine lv_goto (tgt := 72) hx hb dX12_tells_62 (by decide) ?_
              refine tw_iinc (lv' := fun x80 => [(5, .int x80), (6, .int x68), (3, .int x38), (4, .int x39), (0, .ref (base + a0)), (1, .int a1), (2, .int a2)]) (lo := 3) (hi := 2147483647) hx hb dX12_tells_72 hl (k := 3) rfl h58 (by decide) ⟨by decide, by decide⟩ ⟨by decide, by decide⟩ (by decide) (fun _ => rfl) (fun x80 ls e79 h78 hl => ?_)
              refine lv_goto (tgt := 33) hx hb dX12_tells_75 (by decide) ?_
              have hm81 : 2147483647 - x80.toInt < (n_41 : Int) := by
                have := (h16).1; have := (h16).2; have := (h28).1; have := (h28).2; have := (h15).1; have := (h15).2; have := (h58).1; have := (h58).2; have := (h78).1; have := (h78).2; omega
              exact ih_41 x38 x39 x80 M64 R65 J66 H locs _ h_x38 h_x39 (iv_mono h78 (by decide) (by decide)) hm81 hS (lv_sub hl [2, 3, 0, 4, 5, 6] rfl)
      have hm82 : 2147483647 - (2 : Int32).toInt < (((2147483646 : Nat) : Int) : Int) := by
        have := (h16).1; have := (h16).2; have := (h28).1; have := (h28).2; have := (h15).1; have := (h15).2; have : (2 : Int32).toInt = 2 := (by decide); omega
      exact W33_41 2147483646 1 x37 2 M33 R34 J35 H locs _ (iv_mono (iv_c (c := 1) (n := 1) (by decide)) (by decide) (by decide)) h_x37 (iv_mono (iv_c (c := 2) (n := 2) (by decide)) (by decide) (by decide)) hm82 hS (lv_sub hl [2, 1, 0, 3, 4, 5] rfl)
    · have q83 : x23.toInt = 0 := ti_eq c25
      have h84 : iv 0 0 x23 := ⟨by have := (h_x23).1; have := ((iv_c (c := 0) (n := 0) (by decide))).1; omega, by have := (h_x23).2; have := ((iv_c (c := 0) (n := 0) (by decide))).2; omega⟩
      refine lv_iconst (v := (-1)) hx hb dX12_tells_18 (by decide) ?_
      exact tw_endi hx hb hr hlocks hK hT hS hQ ((iv_mono (iv_c (c := (-1)) (n := (-1)) (by decide)) (by decide) (by decide))) dX12_tells_19
def Lt_X12_truly : WL := []
def LRt_X12_truly : WL := []
set_option maxRecDepth 100000 in
set_option maxHeartbeats 4000000 in
theorem t_X12_truly (l : Launch) (D : va_G) (cy : Nat → ClassId) (tx : (Nat → Nat) × (Nat → Nat)) (base Z : Nat) (K N : Nat → Nat) (Ma : MT) (Ra : RT) (Ja : JT) (hTy : Ty Z K N Ma Ra) (a0 : Int32) (h_a0 : iv (-2147483648) 2147483647 a0) : Met l yX12_truly [Cond.code yX12_truly cX12_truly 1 (some .int)] (md_rm 1 0 0) (va_Pc [.int a0] (md_U D cy tx base Z K N Ma Ra Ja)) (mQi D cy tx base (fun r u => TP Z K N Lt_X12_truly LRt_X12_truly Ma Ra u ∧ (iv 0 2 r))) 0 0 (fun q => base ≤ q) := by
  refine tw_ofW (L := Lt_X12_truly) (LR := LRt_X12_truly) (by decide) (Nat.le_of_ble_eq_true rfl) hTy ?_
  intro p e s m args below meth c Q ls hx hb hr hlocks hown hml hW hK hT hS hQ hl
  have hl : lv_has ls 1 [(0, .int a0)] := hl
  refine lv_iload_n hx hb dX12_truly_0 rfl (lv_at hl 0 rfl) ?_
  refine lv_if_le (tgt := 8) hx hb dX12_truly_1 (by decide) (fun c1 => ?_) (fun c1 => ?_)
  · have q2 : a0.toInt ≤ 0 := ti_le c1
    have h3 : iv (-2147483648) 0 a0 := iv_leL (y := 0) h_a0 (iv_c (c := 0) (n := 0) (by decide)) q2 (by decide)
    refine lv_iload_n hx hb dX12_truly_8 rfl (lv_at hl 0 rfl) ?_
    refine lv_if_ge (tgt := 16) hx hb dX12_truly_9 (by decide) (fun c4 => ?_) (fun c4 => ?_)
    · have q5 : 0 ≤ a0.toInt := ti_le c4
      have h6 : iv 0 0 a0 := iv_geL (y := 0) h3 (iv_c (c := 0) (n := 0) (by decide)) q5 (by decide)
      refine lv_iconst (v := 2) hx hb dX12_truly_16 (by decide) ?_
      exact tw_endi hx hb hr hlocks hK hT hS hQ ((iv_mono (iv_c (c := 2) (n := 2) (by decide)) (by decide) (by decide))) dX12_truly_17
    · have q7 : a0.toInt < 0 := ti_nle c4
      have h8 : iv (-2147483648) (-1) a0 := iv_ltL (y := 0) h3 (iv_c (c := 0) (n := 0) (by decide)) q7 (by decide)
      refine lv_iconst (v := 0) hx hb dX12_truly_12 (by decide) ?_
      refine lv_goto (tgt := 17) hx hb dX12_truly_13 (by decide) ?_
      exact tw_endi hx hb hr hlocks hK hT hS hQ ((iv_mono (iv_c (c := 0) (n := 0) (by decide)) (by decide) (by decide))) dX12_truly_17
  · have q9 : 0 < a0.toInt := ti_nle c1
    have h10 : iv 1 2147483647 a0 := iv_gtL (y := 0) h_a0 (iv_c (c := 0) (n := 0) (by decide)) q9 (by decide)
    refine lv_iconst (v := 1) hx hb dX12_truly_4 (by decide) ?_
    refine lv_goto (tgt := 17) hx hb dX12_truly_5 (by decide) ?_
    exact tw_endi hx hb hr hlocks hK hT hS hQ ((iv_mono (iv_c (c := 1) (n := 1) (by decide)) (by decide) (by decide))) dX12_truly_17
def Lt_X12_voice : WL := []
def LRt_X12_voice : WL := []
set_option maxRecDepth 100000 in
set_option maxHeartbeats 4000000 in
theorem t_X12_voice (l : Launch) (D : va_G) (cy : Nat → ClassId) (tx : (Nat → Nat) × (Nat → Nat)) (base Z : Nat) (K N : Nat → Nat) (Ma : MT) (Ra : RT) (Ja : JT) (hTy : Ty Z K N Ma Ra) (a0 : Nat) (hz_a0 : a0 < Z) (hk_a0 : K a0 = 12) (a1 : Int32) (h_a1 : iv (-2147483648) 2147483647 a1) (a2 : Int32) (h_a2 : iv (-2147483648) 2147483647 a2) : Met l yX12_voice [Cond.code yX12_voice cX12_voice 3 (some .int)] (md_rm 2 0 0) (va_Pc [.ref (base + a0), .int a1, .int a2] (md_U D cy tx base Z K N Ma Ra Ja)) (mQi D cy tx base (fun r u => TP Z K N Lt_X12_voice LRt_X12_voice Ma Ra u ∧ (iv (-2147483648) 2147483647 r))) 0 0 (fun q => base ≤ q) := by
  refine tw_ofW (L := Lt_X12_voice) (LR := LRt_X12_voice) (by decide) (Nat.le_of_ble_eq_true rfl) hTy ?_
  intro p e s m args below meth c Q ls hx hb hr hlocks hown hml hW hK hT hS hQ hl
  have hl : lv_has ls 3 [(0, .ref (base + a0)), (1, .int a1), (2, .int a2)] := hl
  refine lv_aload_n hx hb dX12_voice_0 rfl (lv_at hl 0 rfl) ?_
  refine lv_iload_n hx hb dX12_voice_1 rfl (lv_at hl 1 rfl) ?_
  refine tw_goi hS (md_runV (As := [.int a1]) (rest := []) hx hb hml hown hW hK hT hS.1 (t_X12_isMember l D cy tx base Z K N Ma Ra Ja hS.2.1 a0 hz_a0 hk_a0 a1 h_a1) s_X12_319 ⟨rfl, rfl, ⟨Nat.le_of_ble_eq_true rfl, Nat.le_of_ble_eq_true rfl⟩, ⟨Nat.le_of_ble_eq_true rfl, Nat.le_of_ble_eq_true rfl⟩⟩ hz_a0 hk_a0 (by decide) rfl rfl hl.1 rfl (Nat.le_of_ble_eq_true rfl) dX12_voice_2) rfl rfl (fun x7 H locs M3 R4 J5 hS f1 g2 E6 => ?_)
  obtain ⟨h_x7, p8⟩ := E6
  refine lv_if_eq (tgt := 20) hx hb dX12_voice_5 (by decide) (fun c9 => ?_) (fun c9 => ?_)
  · have q10 : x7.toInt = 0 := ti_eq c9
    have h11 : iv 0 0 x7 := ⟨by have := (h_x7).1; have := ((iv_c (c := 0) (n := 0) (by decide))).1; omega, by have := (h_x7).2; have := ((iv_c (c := 0) (n := 0) (by decide))).2; omega⟩
    refine lv_iconst (v := (-1)) hx hb dX12_voice_20 (by decide) ?_
    exact tw_endi hx hb hr hlocks hK hT hS hQ ((iv_mono (iv_c (c := (-1)) (n := (-1)) (by decide)) (by decide) (by decide))) dX12_voice_21
  · have q12 : ¬ x7.toInt = 0 := ti_ne c9
    have h13 : iv 1 1 x7 := ⟨by have := (h_x7).1; have := ((iv_c (c := 0) (n := 0) (by decide))).1; have := ((iv_c (c := 0) (n := 0) (by decide))).2; omega, by have := (h_x7).2; have := ((iv_c (c := 0) (n := 0) (by decide))).1; have := ((iv_c (c := 0) (n := 0) (by decide))).2; omega⟩
    have h14 : iv 0 9 a1 := ⟨by have := (p8 c9).1; have := (h_a1).1; omega, by have := (p8 c9).2; have := (h_a1).2; omega⟩
    refine lv_iload_n hx hb dX12_voice_8 rfl (lv_at hl 2 rfl) ?_
    refine lv_i2l hx hb dX12_voice_9 rfl ?_
    refine lv_lconst (v := 0) hx hb dX12_voice_10 (by decide) ?_
    refine lv_ldc2 hx hb hown (hW _ w_7_141 rfl) dX12_voice_11 ?_
    refine tw_goi hS (md_runS (As := [.long a2.toInt64, .long 0, .long 4]) (rest := []) hx hb hml hown hW hK hT hS.1 (t_X12_in l D cy tx base Z K N M3 R4 J5 hS.2.1 (a2.toInt64) (0) (4)) s_X12_155 ⟨rfl, rfl, ⟨Nat.le_of_ble_eq_true rfl, Nat.le_of_ble_eq_true rfl⟩, ⟨Nat.le_of_ble_eq_true rfl, Nat.le_of_ble_eq_true rfl⟩⟩ rfl hl.1 rfl (Nat.le_of_ble_eq_true rfl) dX12_voice_14) rfl rfl (fun x21 H locs M17 R18 J19 hS f15 g16 E20 => ?_)
    obtain ⟨h_x21, p22⟩ := E20
    refine lv_if_ne (tgt := 22) hx hb dX12_voice_17 (by decide) (fun c23 => ?_) (fun c23 => ?_)
    · have q24 : ¬ x21.toInt = 0 := ti_ne c23
      have h25 : iv 1 1 x21 := ⟨by have := (h_x21).1; have := ((iv_c (c := 0) (n := 0) (by decide))).1; have := ((iv_c (c := 0) (n := 0) (by decide))).2; omega, by have := (h_x21).2; have := ((iv_c (c := 0) (n := 0) (by decide))).1; have := ((iv_c (c := 0) (n := 0) (by decide))).2; omega⟩
      have h26 : iv 0 4 a2 := in2iv (p22 c23) ((jv_c (x := 0) (n := 0) (by decide))).1 ((jv_c (x := 4) (n := 4) (by decide))).2
      refine lv_iload_n hx hb dX12_voice_22 rfl (lv_at hl 2 rfl) ?_
      refine lv_iconst (v := 2) hx hb dX12_voice_23 (by decide) ?_
      refine lv_icmp_ne (tgt := 46) hx hb dX12_voice_24 (by decide) (fun c27 => ?_) (fun c27 => ?_)
      · have q28 : ¬ a2.toInt = 2 := ti_ne c27
        refine lv_aload_n hx hb dX12_voice_46 rfl (lv_at hl 0 rfl) ?_
        refine tw_getr hx hb hW hown hK hS f_X12_45_11 hz_a0 hk_a0 (t := 23) (n := 226) rfl dX12_voice_47 (fun b29 k30 hz_b29 hk_b29 hn_b29 => ?_)
        have hn_b29 := hn_b29 (by decide)
        refine lv_iload_n hx hb dX12_voice_50 rfl (lv_at hl 2 rfl) ?_
        refine lv_if_ne (tgt := 59) hx hb dX12_voice_51 (by decide) (fun c31 => ?_) (fun c31 => ?_)
        · have q32 : ¬ a2.toInt = 0 := ti_ne c31
          have h33 : iv 1 4 a2 := ⟨by have := (h26).1; have := ((iv_c (c := 0) (n := 0) (by decide))).1; have := ((iv_c (c := 0) (n := 0) (by decide))).2; omega, by have := (h26).2; have := ((iv_c (c := 0) (n := 0) (by decide))).1; have := ((iv_c (c := 0) (n := 0) (by decide))).2; omega⟩
          refine lv_iload_n hx hb dX12_voice_59 rfl (lv_at hl 2 rfl) ?_
          refine lv_iconst (v := 1) hx hb dX12_voice_60 (by decide) ?_
          refine lv_icmp_ne (tgt := 69) hx hb dX12_voice_61 (by decide) (fun c34 => ?_) (fun c34 => ?_)
          · have q35 : ¬ a2.toInt = 1 := ti_ne c34
            have h36 : iv 2 4 a2 := ⟨by have := (h33).1; have := ((iv_c (c := 1) (n := 1) (by decide))).1; have := ((iv_c (c := 1) (n := 1) (by decide))).2; omega, by have := (h33).2; have := ((iv_c (c := 1) (n := 1) (by decide))).1; have := ((iv_c (c := 1) (n := 1) (by decide))).2; omega⟩
            refine lv_iload_n hx hb dX12_voice_69 rfl (lv_at hl 2 rfl) ?_
            refine lv_iconst (v := 3) hx hb dX12_voice_70 (by decide) ?_
            refine lv_icmp_ne (tgt := 79) hx hb dX12_voice_71 (by decide) (fun c37 => ?_) (fun c37 => ?_)
            · have q38 : ¬ a2.toInt = 3 := ti_ne c37
              refine lv_bipush (v := 40) hx hb dX12_voice_79 (by decide) ?_
              refine lv_iload_n hx hb dX12_voice_81 rfl (lv_at hl 1 rfl) ?_
              refine tw_iadd (lo := 40) (hi := 49) hx hb (iv_c (c := 40) (n := 40) (by decide)) h14 ⟨by decide, by decide⟩ ⟨by decide, by decide⟩ dX12_voice_82 (fun x41 e40 h39 => ?_)
              have e40 : x41.toInt = 40 + a1.toInt := e40
              refine tw_iald hx hb hK hS hz_b29 hk_b29 (Or.inr (by decide)) hn_b29 (lo := (-2147483648)) (hi := 2147483647) h39 ⟨by decide, by decide⟩ rg_full dX12_voice_83 (fun x44 k43 h42 => ?_)
              exact tw_endi hx hb hr hlocks hK hT hS hQ (h42) dX12_voice_84
            · have q45 : a2.toInt = 3 := ti_eq c37
              have h46 : iv 3 3 a2 := ⟨by have := (h36).1; have := ((iv_c (c := 3) (n := 3) (by decide))).1; omega, by have := (h36).2; have := ((iv_c (c := 3) (n := 3) (by decide))).2; omega⟩
              refine lv_bipush (v := 30) hx hb dX12_voice_74 (by decide) ?_
              refine lv_goto (tgt := 81) hx hb dX12_voice_76 (by decide) ?_
              refine lv_iload_n hx hb dX12_voice_81 rfl (lv_at hl 1 rfl) ?_
              refine tw_iadd (lo := 30) (hi := 39) hx hb (iv_c (c := 30) (n := 30) (by decide)) h14 ⟨by decide, by decide⟩ ⟨by decide, by decide⟩ dX12_voice_82 (fun x49 e48 h47 => ?_)
              have e48 : x49.toInt = 30 + a1.toInt := e48
              refine tw_iald hx hb hK hS hz_b29 hk_b29 (Or.inr (by decide)) hn_b29 (lo := (-2147483648)) (hi := 2147483647) h47 ⟨by decide, by decide⟩ rg_full dX12_voice_83 (fun x52 k51 h50 => ?_)
              exact tw_endi hx hb hr hlocks hK hT hS hQ (h50) dX12_voice_84
          · have q53 : a2.toInt = 1 := ti_eq c34
            have h54 : iv 1 1 a2 := ⟨by have := (h33).1; have := ((iv_c (c := 1) (n := 1) (by decide))).1; omega, by have := (h33).2; have := ((iv_c (c := 1) (n := 1) (by decide))).2; omega⟩
            refine lv_bipush (v := 20) hx hb dX12_voice_64 (by decide) ?_
            refine lv_goto (tgt := 81) hx hb dX12_voice_66 (by decide) ?_
            refine lv_iload_n hx hb dX12_voice_81 rfl (lv_at hl 1 rfl) ?_
            refine tw_iadd (lo := 20) (hi := 29) hx hb (iv_c (c := 20) (n := 20) (by decide)) h14 ⟨by decide, by decide⟩ ⟨by decide, by decide⟩ dX12_voice_82 (fun x57 e56 h55 => ?_)
            have e56 : x57.toInt = 20 + a1.toInt := e56
            refine tw_iald hx hb hK hS hz_b29 hk_b29 (Or.inr (by decide)) hn_b29 (lo := (-2147483648)) (hi := 2147483647) h55 ⟨by decide, by decide⟩ rg_full dX12_voice_83 (fun x60 k59 h58 => ?_)
            exact tw_endi hx hb hr hlocks hK hT hS hQ (h58) dX12_voice_84
        · have q61 : a2.toInt = 0 := ti_eq c31
          have h62 : iv 0 0 a2 := ⟨by have := (h26).1; have := ((iv_c (c := 0) (n := 0) (by decide))).1; omega, by have := (h26).2; have := ((iv_c (c := 0) (n := 0) (by decide))).2; omega⟩
          refine lv_bipush (v := 10) hx hb dX12_voice_54 (by decide) ?_
          refine lv_goto (tgt := 81) hx hb dX12_voice_56 (by decide) ?_
          refine lv_iload_n hx hb dX12_voice_81 rfl (lv_at hl 1 rfl) ?_
          refine tw_iadd (lo := 10) (hi := 19) hx hb (iv_c (c := 10) (n := 10) (by decide)) h14 ⟨by decide, by decide⟩ ⟨by decide, by decide⟩ dX12_voice_82 (fun x65 e64 h63 => ?_)
          have e64 : x65.toInt = 10 + a1.toInt := e64
          refine tw_iald hx hb hK hS hz_b29 hk_b29 (Or.inr (by decide)) hn_b29 (lo := 0) (hi := 9999) h63 ⟨by decide, by decide⟩ (rg_sv ⟨by decide, by decide⟩) dX12_voice_83 (fun x68 k67 h66 => ?_)
          exact tw_endi hx hb hr hlocks hK hT hS hQ ((iv_mono h66 (by decide) (by decide))) dX12_voice_84
      · have q69 : a2.toInt = 2 := ti_eq c27
        have h70 : iv 2 2 a2 := ⟨by have := (h26).1; have := ((iv_c (c := 2) (n := 2) (by decide))).1; omega, by have := (h26).2; have := ((iv_c (c := 2) (n := 2) (by decide))).2; omega⟩
        refine lv_aload_n hx hb dX12_voice_27 rfl (lv_at hl 0 rfl) ?_
        refine tw_getr hx hb hW hown hK hS f_X12_45_11 hz_a0 hk_a0 (t := 23) (n := 226) rfl dX12_voice_28 (fun b71 k72 hz_b71 hk_b71 hn_b71 => ?_)
        have hn_b71 := hn_b71 (by decide)
        refine lv_iconst (v := 2) hx hb dX12_voice_31 (by decide) ?_
        refine tw_iald hx hb hK hS hz_b71 hk_b71 (Or.inr (by decide)) hn_b71 (lo := (-2147483648)) (hi := 2147483647) (iv_c (c := 2) (n := 2) (by decide)) ⟨by decide, by decide⟩ (rg_c (k0 := 2) rfl rfl rfl) dX12_voice_32 (fun x75 k74 h73 => ?_)
        refine lv_iload_n hx hb dX12_voice_33 rfl (lv_at hl 1 rfl) ?_
        refine tw_goi hS (md_runS (As := [.int x75, .int a1]) (rest := []) hx hb hml hown hW hK hT hS.1 (t_X12_isOf l D cy tx base Z K N M17 R18 J19 hS.2.1 x75 h73 a1 h14) s_X12_322 ⟨rfl, rfl, ⟨Nat.le_of_ble_eq_true rfl, Nat.le_of_ble_eq_true rfl⟩, ⟨Nat.le_of_ble_eq_true rfl, Nat.le_of_ble_eq_true rfl⟩⟩ rfl hl.1 rfl (Nat.le_of_ble_eq_true rfl) dX12_voice_34) rfl rfl (fun x82 H locs M78 R79 J80 hS f76 g77 E81 => ?_)
        have h_x82 := E81
        refine lv_if_eq (tgt := 44) hx hb dX12_voice_37 (by decide) (fun c83 => ?_) (fun c83 => ?_)
        · have q84 : x82.toInt = 0 := ti_eq c83
          have h85 : iv 0 0 x82 := ⟨by have := (h_x82).1; have := ((iv_c (c := 0) (n := 0) (by decide))).1; omega, by have := (h_x82).2; have := ((iv_c (c := 0) (n := 0) (by decide))).2; omega⟩
          refine lv_iconst (v := 0) hx hb dX12_voice_44 (by decide) ?_
          exact tw_endi hx hb hr hlocks hK hT hS hQ ((iv_mono (iv_c (c := 0) (n := 0) (by decide)) (by decide) (by decide))) dX12_voice_45
        · have q86 : ¬ x82.toInt = 0 := ti_ne c83
          have h87 : iv 1 1 x82 := ⟨by have := (h_x82).1; have := ((iv_c (c := 0) (n := 0) (by decide))).1; have := ((iv_c (c := 0) (n := 0) (by decide))).2; omega, by have := (h_x82).2; have := ((iv_c (c := 0) (n := 0) (by decide))).1; have := ((iv_c (c := 0) (n := 0) (by decide))).2; omega⟩
          refine lv_iconst (v := 1) hx hb dX12_voice_40 (by decide) ?_
          refine lv_goto (tgt := 45) hx hb dX12_voice_41 (by decide) ?_
          exact tw_endi hx hb hr hlocks hK hT hS hQ ((iv_mono (iv_c (c := 1) (n := 1) (by decide)) (by decide) (by decide))) dX12_voice_45
    · have q88 : x21.toInt = 0 := ti_eq c23
      have h89 : iv 0 0 x21 := ⟨by have := (h_x21).1; have := ((iv_c (c := 0) (n := 0) (by decide))).1; omega, by have := (h_x21).2; have := ((iv_c (c := 0) (n := 0) (by decide))).2; omega⟩
      refine lv_iconst (v := (-1)) hx hb dX12_voice_20 (by decide) ?_
      exact tw_endi hx hb hr hlocks hK hT hS hQ ((iv_mono (iv_c (c := (-1)) (n := (-1)) (by decide)) (by decide) (by decide))) dX12_voice_21
def Lt_X12_wordsForAll : WL := []
def LRt_X12_wordsForAll : WL := []
set_option maxRecDepth 100000 in
set_option maxHeartbeats 4000000 in
theorem t_X12_wordsForAll (l : Launch) (D : va_G) (cy : Nat → ClassId) (tx : (Nat → Nat) × (Nat → Nat)) (base Z : Nat) (K N : Nat → Nat) (Ma : MT) (Ra : RT) (Ja : JT) (hTy : Ty Z K N Ma Ra) (a0 : Nat) (hz_a0 : a0 < Z) (hk_a0 : K a0 = 12) (a1 : Int32) (h_a1 : iv 0 11 a1) (a2 : Int32) (h_a2 : iv (-1) 7 a2) : Met l yX12_wordsForAll [Cond.code yX12_wordsForAll cX12_wordsForAll 4 none] (md_rm 2 0 0) (va_Pc [.ref (base + a0), .int a1, .int a2] (md_U D cy tx base Z K N Ma Ra Ja)) (mQv D cy tx base (fun u => TP Z K N Lt_X12_wordsForAll LRt_X12_wordsForAll Ma Ra u ∧ (True))) 0 0 (fun q => base ≤ q) := by
  refine tw_ofW (L := Lt_X12_wordsForAll) (LR := LRt_X12_wordsForAll) (by decide) (Nat.le_of_ble_eq_true rfl) hTy ?_
  intro p e s m args below meth c Q ls hx hb hr hlocks hown hml hW hK hT hS hQ hl
  have hl : lv_has ls 4 [(0, .ref (base + a0)), (1, .int a1), (2, .int a2)] := hl
  refine lv_aload_n hx hb dX12_wordsForAll_0 rfl (lv_at hl 0 rfl) ?_
  refine tw_getr hx hb hW hown hK hS f_X12_42_11 hz_a0 hk_a0 (t := 15) (n := 10) rfl dX12_wordsForAll_1 (fun b1 k2 hz_b1 hk_b1 hn_b1 => ?_)
  have hn_b1 := hn_b1 (by decide)
  refine lv_iconst (v := 1) hx hb dX12_wordsForAll_4 (by decide) ?_
  refine lv_iload_n hx hb dX12_wordsForAll_5 rfl (lv_at hl 1 rfl) ?_
  refine lv_i2l hx hb dX12_wordsForAll_6 rfl ?_
  refine tw_last hx hb hK hS hz_b1 hk_b1 hn_b1 (iv_c (c := 1) (n := 1) (by decide)) ⟨by decide, by decide⟩ dX12_wordsForAll_7 (fun H locs J3 hS => ?_)
  refine lv_aload_n hx hb dX12_wordsForAll_8 rfl (lv_at hl 0 rfl) ?_
  refine tw_getrk hx hb hW hown hK hS f_X12_42_11 hz_a0 hk_a0 (b := b1) k2 dX12_wordsForAll_9 ?_
  refine lv_iconst (v := 4) hx hb dX12_wordsForAll_12 (by decide) ?_
  refine lv_lconst (v := 0) hx hb dX12_wordsForAll_13 (by decide) ?_
  refine tw_last hx hb hK hS hz_b1 hk_b1 hn_b1 (iv_c (c := 4) (n := 4) (by decide)) ⟨by decide, by decide⟩ dX12_wordsForAll_14 (fun H locs J4 hS => ?_)
  refine lv_aload_n hx hb dX12_wordsForAll_15 rfl (lv_at hl 0 rfl) ?_
  refine tw_getrk hx hb hW hown hK hS f_X12_42_11 hz_a0 hk_a0 (b := b1) k2 dX12_wordsForAll_16 ?_
  refine lv_iconst (v := 5) hx hb dX12_wordsForAll_19 (by decide) ?_
  refine lv_lconst (v := 0) hx hb dX12_wordsForAll_20 (by decide) ?_
  refine tw_last hx hb hK hS hz_b1 hk_b1 hn_b1 (iv_c (c := 5) (n := 5) (by decide)) ⟨by decide, by decide⟩ dX12_wordsForAll_21 (fun H locs J5 hS => ?_)
  refine lv_aload_n hx hb dX12_wordsForAll_22 rfl (lv_at hl 0 rfl) ?_
  refine tw_getrk hx hb hW hown hK hS f_X12_42_11 hz_a0 hk_a0 (b := b1) k2 dX12_wordsForAll_23 ?_
  refine lv_bipush (v := 6) hx hb dX12_wordsForAll_26 (by decide) ?_
  refine lv_lconst (v := 0) hx hb dX12_wordsForAll_28 (by decide) ?_
  refine tw_last hx hb hK hS hz_b1 hk_b1 hn_b1 (iv_c (c := 6) (n := 6) (by decide)) ⟨by decide, by decide⟩ dX12_wordsForAll_29 (fun H locs J6 hS => ?_)
  refine lv_iconst (v := 0) hx hb dX12_wordsForAll_30 (by decide) ?_
  refine lv_istore_n (lv' := [(3, .int 0), (0, .ref (base + a0)), (1, .int a1), (2, .int a2)]) hx hb dX12_wordsForAll_31 rfl hl (by decide) rfl (fun ls hl => ?_)
  have W32_8 : ∀ (n_8 : Nat) (x7 : Int32) (M8 : MT) (R9 : RT) (J10 : JT) (H : Heap) (locs : List Loc) (ls : Array Slot) (h_x7 : iv 0 10 x7) (hm_8 : 10 - x7.toInt < (n_8 : Int)) (hS : SB D cy base Z K N Lt_X12_wordsForAll LRt_X12_wordsForAll Ma Ra M8 R9 J10 s H locs) (hl : lv_has ls 4 [(3, .int x7), (0, .ref (base + a0)), (1, .int a1), (2, .int a2)]), W p l e (md_rm 2 0 0) s m args below meth c H locs 0 0 Q (F0 m 32 ls []) := by
    intro n_8
    induction n_8 with
    | zero =>
      intro x7 M8 R9 J10 H locs ls h_x7 hm_8 hS hl
      exfalso
      have := (h_a1).1; have := (h_a1).2; have := (h_a2).1; have := (h_a2).2; have := (h_x7).1; have := (h_x7).2; omega
    | succ n_8 ih_8 =>
      intro x7 M8 R9 J10 H locs ls h_x7 hm_8 hS hl
      have f11 := hS.2.2.1
      have g12 := hS.2.2.2
      refine lv_iload_n hx hb dX12_wordsForAll_32 rfl (lv_at hl 0 rfl) ?_
      refine lv_aload_n hx hb dX12_wordsForAll_33 rfl (lv_at hl 1 rfl) ?_
      refine tw_getr hx hb hW hown hK hS f_X12_45_11 hz_a0 hk_a0 (t := 23) (n := 226) rfl dX12_wordsForAll_34 (fun b13 k14 hz_b13 hk_b13 hn_b13 => ?_)
      have hn_b13 := hn_b13 (by decide)
      refine lv_iconst (v := 0) hx hb dX12_wordsForAll_37 (by decide) ?_
      refine tw_iald hx hb hK hS hz_b13 hk_b13 (Or.inr (by decide)) hn_b13 (lo := 0) (hi := 10) (iv_c (c := 0) (n := 0) (by decide)) ⟨by decide, by decide⟩ (rg_c (k0 := 0) rfl rfl rfl) dX12_wordsForAll_38 (fun x17 k16 h15 => ?_)
      refine lv_icmp_ge (tgt := 139) hx hb dX12_wordsForAll_39 (by decide) (fun c18 => ?_) (fun c18 => ?_)
      · have q19 : x17.toInt ≤ x7.toInt := ti_le c18
        refine lv_aload_n hx hb dX12_wordsForAll_139 rfl (lv_at hl 1 rfl) ?_
        have k20 : R9 a0 24 = some b1 := (Fr.kp (k := 24) g12 hk_a0 rfl).trans k2
        refine tw_getrk hx hb hW hown hK hS f_X12_42_11 hz_a0 hk_a0 (b := b1) k20 dX12_wordsForAll_140 ?_
        refine lv_bipush (v := 8) hx hb dX12_wordsForAll_143 (by decide) ?_
        refine lv_iload_n hx hb dX12_wordsForAll_145 rfl (lv_at hl 3 rfl) ?_
        refine lv_if_ge (tgt := 153) hx hb dX12_wordsForAll_146 (by decide) (fun c21 => ?_) (fun c21 => ?_)
        · have q22 : 0 ≤ a2.toInt := ti_le c21
          have h23 : iv 0 7 a2 := iv_geL (y := 0) h_a2 (iv_c (c := 0) (n := 0) (by decide)) q22 (by decide)
          refine lv_aload_n hx hb dX12_wordsForAll_153 rfl (lv_at hl 1 rfl) ?_
          refine tw_geti hx hb hW hown hK hS f_X12_351_11 hz_a0 hk_a0 (lo := 0) (hi := 8) rfl dX12_wordsForAll_154 (fun x26 k25 h24 => ?_)
          refine lv_iconst (v := 1) hx hb dX12_wordsForAll_157 (by decide) ?_
          refine tw_isub (lo := (-1)) (hi := 7) hx hb h24 (iv_c (c := 1) (n := 1) (by decide)) ⟨by decide, by decide⟩ ⟨by decide, by decide⟩ dX12_wordsForAll_158 (fun x29 e28 h27 => ?_)
          have e28 : x29.toInt = x26.toInt - 1 := e28
          refine lv_iload_n hx hb dX12_wordsForAll_159 rfl (lv_at hl 3 rfl) ?_
          refine tw_isub (lo := (-8)) (hi := 7) hx hb h27 h23 ⟨by decide, by decide⟩ ⟨by decide, by decide⟩ dX12_wordsForAll_160 (fun x32 e31 h30 => ?_)
          refine lv_i2l hx hb dX12_wordsForAll_161 rfl ?_
          refine tw_last hx hb hK hS hz_b1 hk_b1 hn_b1 (iv_c (c := 8) (n := 8) (by decide)) ⟨by decide, by decide⟩ dX12_wordsForAll_162 (fun H locs J33 hS => ?_)
          refine lv_aload_n hx hb dX12_wordsForAll_163 rfl (lv_at hl 1 rfl) ?_
          have k34 : R9 a0 24 = some b1 := (Fr.kp (k := 24) g12 hk_a0 rfl).trans k2
          refine tw_getrk hx hb hW hown hK hS f_X12_42_11 hz_a0 hk_a0 (b := b1) k34 dX12_wordsForAll_164 ?_
          refine lv_bipush (v := 9) hx hb dX12_wordsForAll_167 (by decide) ?_
          refine lv_aload_n hx hb dX12_wordsForAll_169 rfl (lv_at hl 1 rfl) ?_
          refine tw_geti hx hb hW hown hK hS f_X12_348_11 hz_a0 hk_a0 (lo := (-2147483648)) (hi := 2147483647) rfl dX12_wordsForAll_170 (fun x37 k36 h35 => ?_)
          refine lv_i2l hx hb dX12_wordsForAll_173 rfl ?_
          refine tw_last hx hb hK hS hz_b1 hk_b1 hn_b1 (iv_c (c := 9) (n := 9) (by decide)) ⟨by decide, by decide⟩ dX12_wordsForAll_174 (fun H locs J38 hS => ?_)
          exact tw_endv hx hb hr hlocks hK hT hS hQ (trivial) dX12_wordsForAll_175
        · have q39 : a2.toInt < 0 := ti_nle c21
          have h40 : iv (-1) (-1) a2 := iv_ltL (y := 0) h_a2 (iv_c (c := 0) (n := 0) (by decide)) q39 (by decide)
          refine lv_lconst (v := 0) hx hb dX12_wordsForAll_149 (by decide) ?_
          refine lv_goto (tgt := 162) hx hb dX12_wordsForAll_150 (by decide) ?_
          refine tw_last hx hb hK hS hz_b1 hk_b1 hn_b1 (iv_c (c := 8) (n := 8) (by decide)) ⟨by decide, by decide⟩ dX12_wordsForAll_162 (fun H locs J41 hS => ?_)
          refine lv_aload_n hx hb dX12_wordsForAll_163 rfl (lv_at hl 1 rfl) ?_
          have k42 : R9 a0 24 = some b1 := (Fr.kp (k := 24) g12 hk_a0 rfl).trans k2
          refine tw_getrk hx hb hW hown hK hS f_X12_42_11 hz_a0 hk_a0 (b := b1) k42 dX12_wordsForAll_164 ?_
          refine lv_bipush (v := 9) hx hb dX12_wordsForAll_167 (by decide) ?_
          refine lv_aload_n hx hb dX12_wordsForAll_169 rfl (lv_at hl 1 rfl) ?_
          refine tw_geti hx hb hW hown hK hS f_X12_348_11 hz_a0 hk_a0 (lo := (-2147483648)) (hi := 2147483647) rfl dX12_wordsForAll_170 (fun x45 k44 h43 => ?_)
          refine lv_i2l hx hb dX12_wordsForAll_173 rfl ?_
          refine tw_last hx hb hK hS hz_b1 hk_b1 hn_b1 (iv_c (c := 9) (n := 9) (by decide)) ⟨by decide, by decide⟩ dX12_wordsForAll_174 (fun H locs J46 hS => ?_)
          exact tw_endv hx hb hr hlocks hK hT hS hQ (trivial) dX12_wordsForAll_175
      · have q47 : x7.toInt < x17.toInt := ti_nle c18
        have h48 : iv 0 9 x7 := iv_ltL (y := x17) h_x7 h15 q47 (by decide)
        have h49 : iv 1 10 x17 := iv_gtL (y := x7) h15 h_x7 q47 (by decide)
        refine lv_aload_n hx hb dX12_wordsForAll_42 rfl (lv_at hl 1 rfl) ?_
        refine tw_getrk hx hb hW hown hK hS f_X12_45_11 hz_a0 hk_a0 (b := b13) k14 dX12_wordsForAll_43 ?_
        refine lv_iconst (v := 2) hx hb dX12_wordsForAll_46 (by decide) ?_
        refine tw_iald hx hb hK hS hz_b13 hk_b13 (Or.inr (by decide)) hn_b13 (lo := (-2147483648)) (hi := 2147483647) (iv_c (c := 2) (n := 2) (by decide)) ⟨by decide, by decide⟩ (rg_c (k0 := 2) rfl rfl rfl) dX12_wordsForAll_47 (fun x52 k51 h50 => ?_)
        refine lv_iload_n hx hb dX12_wordsForAll_48 rfl (lv_at hl 0 rfl) ?_
        refine tw_goi hS (md_runS (As := [.int x52, .int x7]) (rest := []) hx hb hml hown hW hK hT hS.1 (t_X12_isOf l D cy tx base Z K N M8 R9 J10 hS.2.1 x52 h50 x7 h48) s_X12_322 ⟨rfl, rfl, ⟨Nat.le_of_ble_eq_true rfl, Nat.le_of_ble_eq_true rfl⟩, ⟨Nat.le_of_ble_eq_true rfl, Nat.le_of_ble_eq_true rfl⟩⟩ rfl hl.1 rfl (Nat.le_of_ble_eq_true rfl) dX12_wordsForAll_49) rfl rfl (fun x59 H locs M55 R56 J57 hS f53 g54 E58 => ?_)
        have h_x59 := E58
        refine lv_if_ne (tgt := 58) hx hb dX12_wordsForAll_52 (by decide) (fun c60 => ?_) (fun c60 => ?_)
        · have q61 : ¬ x59.toInt = 0 := ti_ne c60
          have h62 : iv 1 1 x59 := ⟨by have := (h_x59).1; have := ((iv_c (c := 0) (n := 0) (by decide))).1; have := ((iv_c (c := 0) (n := 0) (by decide))).2; omega, by have := (h_x59).2; have := ((iv_c (c := 0) (n := 0) (by decide))).1; have := ((iv_c (c := 0) (n := 0) (by decide))).2; omega⟩
          refine lv_aload_n hx hb dX12_wordsForAll_58 rfl (lv_at hl 1 rfl) ?_
          have k63 : R56 a0 24 = some b1 := ((Fr.kp (k := 24) g54 hk_a0 rfl).trans (Fr.kp (k := 24) g12 hk_a0 rfl)).trans k2
          refine tw_getrk hx hb hW hown hK hS f_X12_42_11 hz_a0 hk_a0 (b := b1) k63 dX12_wordsForAll_59 ?_
          refine lv_iconst (v := 4) hx hb dX12_wordsForAll_62 (by decide) ?_
          refine lv_dup2_11 hx hb dX12_wordsForAll_63 rfl rfl ?_
          refine tw_lald hx hb hK hS hz_b1 hk_b1 hn_b1 (iv_c (c := 4) (n := 4) (by decide)) ⟨by decide, by decide⟩ dX12_wordsForAll_64 (fun x64 => ?_)
          refine lv_aload_n hx hb dX12_wordsForAll_65 rfl (lv_at hl 1 rfl) ?_
          refine tw_getr hx hb hW hown hK hS f_X12_51_11 hz_a0 hk_a0 (t := 30) (n := 10) rfl dX12_wordsForAll_66 (fun b65 k66 hz_b65 hk_b65 hn_b65 => ?_)
          have hn_b65 := hn_b65 (by decide)
          refine lv_iload_n hx hb dX12_wordsForAll_69 rfl (lv_at hl 0 rfl) ?_
          refine tw_iald hx hb hK hS hz_b65 hk_b65 (Or.inr (by decide)) hn_b65 (lo := 0) (hi := 9999) h48 ⟨by decide, by decide⟩ rg_u30 dX12_wordsForAll_70 (fun x69 k68 h67 => ?_)
          refine lv_i2l hx hb dX12_wordsForAll_71 rfl ?_
          refine lv_ladd hx hb dX12_wordsForAll_72 ?_
          refine tw_topl (fun x70 => ?_)
          refine tw_last hx hb hK hS hz_b1 hk_b1 hn_b1 (iv_c (c := 4) (n := 4) (by decide)) ⟨by decide, by decide⟩ dX12_wordsForAll_73 (fun H locs J71 hS => ?_)
          refine lv_aload_n hx hb dX12_wordsForAll_74 rfl (lv_at hl 1 rfl) ?_
          have k72 : R56 a0 24 = some b1 := ((Fr.kp (k := 24) g54 hk_a0 rfl).trans (Fr.kp (k := 24) g12 hk_a0 rfl)).trans k2
          refine tw_getrk hx hb hW hown hK hS f_X12_42_11 hz_a0 hk_a0 (b := b1) k72 dX12_wordsForAll_75 ?_
          refine lv_iconst (v := 5) hx hb dX12_wordsForAll_78 (by decide) ?_
          refine lv_dup2_11 hx hb dX12_wordsForAll_79 rfl rfl ?_
          refine tw_lald hx hb hK hS hz_b1 hk_b1 hn_b1 (iv_c (c := 5) (n := 5) (by decide)) ⟨by decide, by decide⟩ dX12_wordsForAll_80 (fun x73 => ?_)
          refine lv_aload_n hx hb dX12_wordsForAll_81 rfl (lv_at hl 1 rfl) ?_
          refine lv_iload_n hx hb dX12_wordsForAll_82 rfl (lv_at hl 0 rfl) ?_
          refine lv_iload_n hx hb dX12_wordsForAll_83 rfl (lv_at hl 2 rfl) ?_
          refine tw_goi hS (md_runV (As := [.int x7, .int a1]) (rest := [.long x73, .int 5, .ref (base + b1)]) hx hb hml hown hW hK hT hS.1 (t_X12_worthOf l D cy tx base Z K N M55 R56 J71 hS.2.1 a0 hz_a0 hk_a0 x7 h48 a1 h_a1) s_X12_330 ⟨rfl, rfl, ⟨Nat.le_of_ble_eq_true rfl, Nat.le_of_ble_eq_true rfl⟩, ⟨Nat.le_of_ble_eq_true rfl, Nat.le_of_ble_eq_true rfl⟩⟩ hz_a0 hk_a0 (by decide) rfl rfl hl.1 rfl (Nat.le_of_ble_eq_true rfl) dX12_wordsForAll_84) rfl rfl (fun x80 H locs M76 R77 J78 hS f74 g75 E79 => ?_)
          have h_x80 := E79
          refine lv_if_le (tgt := 100) hx hb dX12_wordsForAll_87 (by decide) (fun c81 => ?_) (fun c81 => ?_)
          · have q82 : x80.toInt ≤ 0 := ti_le c81
            have h83 : iv (-2147483648) 0 x80 := iv_leL (y := 0) h_x80 (iv_c (c := 0) (n := 0) (by decide)) q82 (by decide)
            refine lv_lconst (v := 0) hx hb dX12_wordsForAll_100 (by decide) ?_
            refine lv_ladd hx hb dX12_wordsForAll_101 ?_
            refine tw_topl (fun x84 => ?_)
            refine tw_last hx hb hK hS hz_b1 hk_b1 hn_b1 (iv_c (c := 5) (n := 5) (by decide)) ⟨by decide, by decide⟩ dX12_wordsForAll_102 (fun H locs J85 hS => ?_)
            refine lv_aload_n hx hb dX12_wordsForAll_103 rfl (lv_at hl 1 rfl) ?_
            have k86 : R77 a0 24 = some b1 := ((Fr.kp (k := 24) g75 hk_a0 rfl).trans ((Fr.kp (k := 24) g54 hk_a0 rfl).trans (Fr.kp (k := 24) g12 hk_a0 rfl))).trans k2
            refine tw_getrk hx hb hW hown hK hS f_X12_42_11 hz_a0 hk_a0 (b := b1) k86 dX12_wordsForAll_104 ?_
            refine lv_bipush (v := 6) hx hb dX12_wordsForAll_107 (by decide) ?_
            refine lv_dup2_11 hx hb dX12_wordsForAll_109 rfl rfl ?_
            refine tw_lald hx hb hK hS hz_b1 hk_b1 hn_b1 (iv_c (c := 6) (n := 6) (by decide)) ⟨by decide, by decide⟩ dX12_wordsForAll_110 (fun x87 => ?_)
            refine lv_aload_n hx hb dX12_wordsForAll_111 rfl (lv_at hl 1 rfl) ?_
            refine lv_iload_n hx hb dX12_wordsForAll_112 rfl (lv_at hl 0 rfl) ?_
            refine lv_iload_n hx hb dX12_wordsForAll_113 rfl (lv_at hl 2 rfl) ?_
            refine tw_goi hS (md_runV (As := [.int x7, .int a1]) (rest := [.long x87, .int 6, .ref (base + b1)]) hx hb hml hown hW hK hT hS.1 (t_X12_worthOf l D cy tx base Z K N M76 R77 J85 hS.2.1 a0 hz_a0 hk_a0 x7 h48 a1 h_a1) s_X12_330 ⟨rfl, rfl, ⟨Nat.le_of_ble_eq_true rfl, Nat.le_of_ble_eq_true rfl⟩, ⟨Nat.le_of_ble_eq_true rfl, Nat.le_of_ble_eq_true rfl⟩⟩ hz_a0 hk_a0 (by decide) rfl rfl hl.1 rfl (Nat.le_of_ble_eq_true rfl) dX12_wordsForAll_114) rfl rfl (fun x94 H locs M90 R91 J92 hS f88 g89 E93 => ?_)
            have h_x94 := E93
            refine lv_if_ge (tgt := 130) hx hb dX12_wordsForAll_117 (by decide) (fun c95 => ?_) (fun c95 => ?_)
            · have q96 : 0 ≤ x94.toInt := ti_le c95
              have h97 : iv 0 2147483647 x94 := iv_geL (y := 0) h_x94 (iv_c (c := 0) (n := 0) (by decide)) q96 (by decide)
              refine lv_lconst (v := 0) hx hb dX12_wordsForAll_130 (by decide) ?_
              refine lv_ladd hx hb dX12_wordsForAll_131 ?_
              refine tw_topl (fun x98 => ?_)
              refine tw_last hx hb hK hS hz_b1 hk_b1 hn_b1 (iv_c (c := 6) (n := 6) (by decide)) ⟨by decide, by decide⟩ dX12_wordsForAll_132 (fun H locs J99 hS => ?_)
              refine tw_iinc (lv' := fun x102 => [(3, .int x102), (0, .ref (base + a0)), (1, .int a1), (2, .int a2)]) (lo := 1) (hi := 10) hx hb dX12_wordsForAll_133 hl (k := 0) rfl h48 (by decide) ⟨by decide, by decide⟩ ⟨by decide, by decide⟩ (by decide) (fun _ => rfl) (fun x102 ls e101 h100 hl => ?_)
              refine lv_goto (tgt := 32) hx hb dX12_wordsForAll_136 (by decide) ?_
              have hm103 : 10 - x102.toInt < (n_8 : Int) := by
                have := (h_a1).1; have := (h_a1).2; have := (h_a2).1; have := (h_a2).2; have := (h100).1; have := (h100).2; have := (h48).1; have := (h48).2; omega
              exact ih_8 x102 M90 R91 J99 H locs _ (iv_mono h100 (by decide) (by decide)) hm103 hS hl
            · have q104 : x94.toInt < 0 := ti_nle c95
              have h105 : iv (-2147483648) (-1) x94 := iv_ltL (y := 0) h_x94 (iv_c (c := 0) (n := 0) (by decide)) q104 (by decide)
              refine lv_aload_n hx hb dX12_wordsForAll_120 rfl (lv_at hl 1 rfl) ?_
              have k106 : R91 a0 27 = some b65 := ((Fr.kp (k := 27) g89 hk_a0 rfl).trans (Fr.kp (k := 27) g75 hk_a0 rfl)).trans k66
              refine tw_getrk hx hb hW hown hK hS f_X12_51_11 hz_a0 hk_a0 (b := b65) k106 dX12_wordsForAll_121 ?_
              refine lv_iload_n hx hb dX12_wordsForAll_124 rfl (lv_at hl 0 rfl) ?_
              refine tw_iald hx hb hK hS hz_b65 hk_b65 (Or.inr (by decide)) hn_b65 (lo := 0) (hi := 9999) h48 ⟨by decide, by decide⟩ rg_u30 dX12_wordsForAll_125 (fun x109 k108 h107 => ?_)
              refine lv_i2l hx hb dX12_wordsForAll_126 rfl ?_
              refine lv_goto (tgt := 131) hx hb dX12_wordsForAll_127 (by decide) ?_
              refine lv_ladd hx hb dX12_wordsForAll_131 ?_
              refine tw_topl (fun x110 => ?_)
              refine tw_last hx hb hK hS hz_b1 hk_b1 hn_b1 (iv_c (c := 6) (n := 6) (by decide)) ⟨by decide, by decide⟩ dX12_wordsForAll_132 (fun H locs J111 hS => ?_)
              refine tw_iinc (lv' := fun x114 => [(3, .int x114), (0, .ref (base + a0)), (1, .int a1), (2, .int a2)]) (lo := 1) (hi := 10) hx hb dX12_wordsForAll_133 hl (k := 0) rfl h48 (by decide) ⟨by decide, by decide⟩ ⟨by decide, by decide⟩ (by decide) (fun _ => rfl) (fun x114 ls e113 h112 hl => ?_)
              refine lv_goto (tgt := 32) hx hb dX12_wordsForAll_136 (by decide) ?_
              have hm115 : 10 - x114.toInt < (n_8 : Int) := by
                have := (h_a1).1; have := (h_a1).2; have := (h_a2).1; have := (h_a2).2; have := (h112).1; have := (h112).2; have := (h48).1; have := (h48).2; omega
              exact ih_8 x114 M90 R91 J111 H locs _ (iv_mono h112 (by decide) (by decide)) hm115 hS hl
          · have q116 : 0 < x80.toInt := ti_nle c81
            have h117 : iv 1 2147483647 x80 := iv_gtL (y := 0) h_x80 (iv_c (c := 0) (n := 0) (by decide)) q116 (by decide)
            refine lv_aload_n hx hb dX12_wordsForAll_90 rfl (lv_at hl 1 rfl) ?_
            have k118 : R77 a0 27 = some b65 := (Fr.kp (k := 27) g75 hk_a0 rfl).trans k66
            refine tw_getrk hx hb hW hown hK hS f_X12_51_11 hz_a0 hk_a0 (b := b65) k118 dX12_wordsForAll_91 ?_
            refine lv_iload_n hx hb dX12_wordsForAll_94 rfl (lv_at hl 0 rfl) ?_
            refine tw_iald hx hb hK hS hz_b65 hk_b65 (Or.inr (by decide)) hn_b65 (lo := 0) (hi := 9999) h48 ⟨by decide, by decide⟩ rg_u30 dX12_wordsForAll_95 (fun x121 k120 h119 => ?_)
            refine lv_i2l hx hb dX12_wordsForAll_96 rfl ?_
            refine lv_goto (tgt := 101) hx hb dX12_wordsForAll_97 (by decide) ?_
            refine lv_ladd hx hb dX12_wordsForAll_101 ?_
            refine tw_topl (fun x122 => ?_)
            refine tw_last hx hb hK hS hz_b1 hk_b1 hn_b1 (iv_c (c := 5) (n := 5) (by decide)) ⟨by decide, by decide⟩ dX12_wordsForAll_102 (fun H locs J123 hS => ?_)
            refine lv_aload_n hx hb dX12_wordsForAll_103 rfl (lv_at hl 1 rfl) ?_
            have k124 : R77 a0 24 = some b1 := ((Fr.kp (k := 24) g75 hk_a0 rfl).trans ((Fr.kp (k := 24) g54 hk_a0 rfl).trans (Fr.kp (k := 24) g12 hk_a0 rfl))).trans k2
            refine tw_getrk hx hb hW hown hK hS f_X12_42_11 hz_a0 hk_a0 (b := b1) k124 dX12_wordsForAll_104 ?_
            refine lv_bipush (v := 6) hx hb dX12_wordsForAll_107 (by decide) ?_
            refine lv_dup2_11 hx hb dX12_wordsForAll_109 rfl rfl ?_
            refine tw_lald hx hb hK hS hz_b1 hk_b1 hn_b1 (iv_c (c := 6) (n := 6) (by decide)) ⟨by decide, by decide⟩ dX12_wordsForAll_110 (fun x125 => ?_)
            refine lv_aload_n hx hb dX12_wordsForAll_111 rfl (lv_at hl 1 rfl) ?_
            refine lv_iload_n hx hb dX12_wordsForAll_112 rfl (lv_at hl 0 rfl) ?_
            refine lv_iload_n hx hb dX12_wordsForAll_113 rfl (lv_at hl 2 rfl) ?_
            refine tw_goi hS (md_runV (As := [.int x7, .int a1]) (rest := [.long x125, .int 6, .ref (base + b1)]) hx hb hml hown hW hK hT hS.1 (t_X12_worthOf l D cy tx base Z K N M76 R77 J123 hS.2.1 a0 hz_a0 hk_a0 x7 h48 a1 h_a1) s_X12_330 ⟨rfl, rfl, ⟨Nat.le_of_ble_eq_true rfl, Nat.le_of_ble_eq_true rfl⟩, ⟨Nat.le_of_ble_eq_true rfl, Nat.le_of_ble_eq_true rfl⟩⟩ hz_a0 hk_a0 (by decide) rfl rfl hl.1 rfl (Nat.le_of_ble_eq_true rfl) dX12_wordsForAll_114) rfl rfl (fun x132 H locs M128 R129 J130 hS f126 g127 E131 => ?_)
            have h_x132 := E131
            refine lv_if_ge (tgt := 130) hx hb dX12_wordsForAll_117 (by decide) (fun c133 => ?_) (fun c133 => ?_)
            · have q134 : 0 ≤ x132.toInt := ti_le c133
              have h135 : iv 0 2147483647 x132 := iv_geL (y := 0) h_x132 (iv_c (c := 0) (n := 0) (by decide)) q134 (by decide)
              refine lv_lconst (v := 0) hx hb dX12_wordsForAll_130 (by decide) ?_
              refine lv_ladd hx hb dX12_wordsForAll_131 ?_
              refine tw_topl (fun x136 => ?_)
              refine tw_last hx hb hK hS hz_b1 hk_b1 hn_b1 (iv_c (c := 6) (n := 6) (by decide)) ⟨by decide, by decide⟩ dX12_wordsForAll_132 (fun H locs J137 hS => ?_)
              refine tw_iinc (lv' := fun x140 => [(3, .int x140), (0, .ref (base + a0)), (1, .int a1), (2, .int a2)]) (lo := 1) (hi := 10) hx hb dX12_wordsForAll_133 hl (k := 0) rfl h48 (by decide) ⟨by decide, by decide⟩ ⟨by decide, by decide⟩ (by decide) (fun _ => rfl) (fun x140 ls e139 h138 hl => ?_)
              refine lv_goto (tgt := 32) hx hb dX12_wordsForAll_136 (by decide) ?_
              have hm141 : 10 - x140.toInt < (n_8 : Int) := by
                have := (h_a1).1; have := (h_a1).2; have := (h_a2).1; have := (h_a2).2; have := (h138).1; have := (h138).2; have := (h48).1; have := (h48).2; omega
              exact ih_8 x140 M128 R129 J137 H locs _ (iv_mono h138 (by decide) (by decide)) hm141 hS hl
            · have q142 : x132.toInt < 0 := ti_nle c133
              have h143 : iv (-2147483648) (-1) x132 := iv_ltL (y := 0) h_x132 (iv_c (c := 0) (n := 0) (by decide)) q142 (by decide)
              refine lv_aload_n hx hb dX12_wordsForAll_120 rfl (lv_at hl 1 rfl) ?_
              have k144 : R129 a0 27 = some b65 := (Fr.kp (k := 27) g127 hk_a0 rfl).trans k118
              refine tw_getrk hx hb hW hown hK hS f_X12_51_11 hz_a0 hk_a0 (b := b65) k144 dX12_wordsForAll_121 ?_
              refine lv_iload_n hx hb dX12_wordsForAll_124 rfl (lv_at hl 0 rfl) ?_
              refine tw_iald hx hb hK hS hz_b65 hk_b65 (Or.inr (by decide)) hn_b65 (lo := 0) (hi := 9999) h48 ⟨by decide, by decide⟩ rg_u30 dX12_wordsForAll_125 (fun x147 k146 h145 => ?_)
              refine lv_i2l hx hb dX12_wordsForAll_126 rfl ?_
              refine lv_goto (tgt := 131) hx hb dX12_wordsForAll_127 (by decide) ?_
              refine lv_ladd hx hb dX12_wordsForAll_131 ?_
              refine tw_topl (fun x148 => ?_)
              refine tw_last hx hb hK hS hz_b1 hk_b1 hn_b1 (iv_c (c := 6) (n := 6) (by decide)) ⟨by decide, by decide⟩ dX12_wordsForAll_132 (fun H locs J149 hS => ?_)
              refine tw_iinc (lv' := fun x152 => [(3, .int x152), (0, .ref (base + a0)), (1, .int a1), (2, .int a2)]) (lo := 1) (hi := 10) hx hb dX12_wordsForAll_133 hl (k := 0) rfl h48 (by decide) ⟨by decide, by decide⟩ ⟨by decide, by decide⟩ (by decide) (fun _ => rfl) (fun x152 ls e151 h150 hl => ?_)
              refine lv_goto (tgt := 32) hx hb dX12_wordsForAll_136 (by decide) ?_
              have hm153 : 10 - x152.toInt < (n_8 : Int) := by
                have := (h_a1).1; have := (h_a1).2; have := (h_a2).1; have := (h_a2).2; have := (h150).1; have := (h150).2; have := (h48).1; have := (h48).2; omega
              exact ih_8 x152 M128 R129 J149 H locs _ (iv_mono h150 (by decide) (by decide)) hm153 hS hl
        · have q154 : x59.toInt = 0 := ti_eq c60
          have h155 : iv 0 0 x59 := ⟨by have := (h_x59).1; have := ((iv_c (c := 0) (n := 0) (by decide))).1; omega, by have := (h_x59).2; have := ((iv_c (c := 0) (n := 0) (by decide))).2; omega⟩
          refine lv_goto (tgt := 133) hx hb dX12_wordsForAll_55 (by decide) ?_
          refine tw_iinc (lv' := fun x158 => [(3, .int x158), (0, .ref (base + a0)), (1, .int a1), (2, .int a2)]) (lo := 1) (hi := 10) hx hb dX12_wordsForAll_133 hl (k := 0) rfl h48 (by decide) ⟨by decide, by decide⟩ ⟨by decide, by decide⟩ (by decide) (fun _ => rfl) (fun x158 ls e157 h156 hl => ?_)
          refine lv_goto (tgt := 32) hx hb dX12_wordsForAll_136 (by decide) ?_
          have hm159 : 10 - x158.toInt < (n_8 : Int) := by
            have := (h_a1).1; have := (h_a1).2; have := (h_a2).1; have := (h_a2).2; have := (h156).1; have := (h156).2; have := (h48).1; have := (h48).2; omega
          exact ih_8 x158 M55 R56 J57 H locs _ (iv_mono h156 (by decide) (by decide)) hm159 hS hl
  have hm160 : 10 - (0 : Int32).toInt < (((11 : Nat) : Int) : Int) := by
    have := (h_a1).1; have := (h_a1).2; have := (h_a2).1; have := (h_a2).2; have : (0 : Int32).toInt = 0 := (by decide); omega
  exact W32_8 11 0 Ma Ra J6 H locs _ (iv_mono (iv_c (c := 0) (n := 0) (by decide)) (by decide) (by decide)) hm160 hS hl
def Lt_X12_worth : WL := []
def LRt_X12_worth : WL := []
set_option maxRecDepth 100000 in
set_option maxHeartbeats 4000000 in
theorem t_X12_worth (l : Launch) (D : va_G) (cy : Nat → ClassId) (tx : (Nat → Nat) × (Nat → Nat)) (base Z : Nat) (K N : Nat → Nat) (Ma : MT) (Ra : RT) (Ja : JT) (hTy : Ty Z K N Ma Ra) (a0 : Nat) (hz_a0 : a0 < Z) (hk_a0 : K a0 = 12) (a1 : Int32) (h_a1 : iv (-2147483648) 2147483647 a1) (a2 : Int32) (h_a2 : iv (-2147483648) 2147483647 a2) : Met l yX12_worth [Cond.code yX12_worth cX12_worth 3 (some .int)] (md_rm 2 0 0) (va_Pc [.ref (base + a0), .int a1, .int a2] (md_U D cy tx base Z K N Ma Ra Ja)) (mQi D cy tx base (fun r u => TP Z K N Lt_X12_worth LRt_X12_worth Ma Ra u ∧ (iv (-2147483648) 2147483647 r))) 0 0 (fun q => base ≤ q) := by
  refine tw_ofW (L := Lt_X12_worth) (LR := LRt_X12_worth) (by decide) (Nat.le_of_ble_eq_true rfl) hTy ?_
  intro p e s m args below meth c Q ls hx hb hr hlocks hown hml hW hK hT hS hQ hl
  have hl : lv_has ls 3 [(0, .ref (base + a0)), (1, .int a1), (2, .int a2)] := hl
  refine lv_aload_n hx hb dX12_worth_0 rfl (lv_at hl 0 rfl) ?_
  refine lv_iload_n hx hb dX12_worth_1 rfl (lv_at hl 1 rfl) ?_
  refine tw_goi hS (md_runV (As := [.int a1]) (rest := []) hx hb hml hown hW hK hT hS.1 (t_X12_isMember l D cy tx base Z K N Ma Ra Ja hS.2.1 a0 hz_a0 hk_a0 a1 h_a1) s_X12_319 ⟨rfl, rfl, ⟨Nat.le_of_ble_eq_true rfl, Nat.le_of_ble_eq_true rfl⟩, ⟨Nat.le_of_ble_eq_true rfl, Nat.le_of_ble_eq_true rfl⟩⟩ hz_a0 hk_a0 (by decide) rfl rfl hl.1 rfl (Nat.le_of_ble_eq_true rfl) dX12_worth_2) rfl rfl (fun x7 H locs M3 R4 J5 hS f1 g2 E6 => ?_)
  obtain ⟨h_x7, p8⟩ := E6
  refine lv_if_eq (tgt := 25) hx hb dX12_worth_5 (by decide) (fun c9 => ?_) (fun c9 => ?_)
  · have q10 : x7.toInt = 0 := ti_eq c9
    have h11 : iv 0 0 x7 := ⟨by have := (h_x7).1; have := ((iv_c (c := 0) (n := 0) (by decide))).1; omega, by have := (h_x7).2; have := ((iv_c (c := 0) (n := 0) (by decide))).2; omega⟩
    refine lv_sipush (v := (-1000)) hx hb dX12_worth_25 (by decide) ?_
    exact tw_endi hx hb hr hlocks hK hT hS hQ ((iv_mono (iv_c (c := (-1000)) (n := (-1000)) (by decide)) (by decide) (by decide))) dX12_worth_28
  · have q12 : ¬ x7.toInt = 0 := ti_ne c9
    have h13 : iv 1 1 x7 := ⟨by have := (h_x7).1; have := ((iv_c (c := 0) (n := 0) (by decide))).1; have := ((iv_c (c := 0) (n := 0) (by decide))).2; omega, by have := (h_x7).2; have := ((iv_c (c := 0) (n := 0) (by decide))).1; have := ((iv_c (c := 0) (n := 0) (by decide))).2; omega⟩
    have h14 : iv 0 9 a1 := ⟨by have := (p8 c9).1; have := (h_a1).1; omega, by have := (p8 c9).2; have := (h_a1).2; omega⟩
    refine lv_aload_n hx hb dX12_worth_8 rfl (lv_at hl 0 rfl) ?_
    refine lv_iload_n hx hb dX12_worth_9 rfl (lv_at hl 2 rfl) ?_
    refine tw_goi hS (md_runV (As := [.int a2]) (rest := []) hx hb hml hown hW hK hT hS.1 (t_X12_isPoint l D cy tx base Z K N M3 R4 J5 hS.2.1 a0 hz_a0 hk_a0 a2 h_a2) s_X12_327 ⟨rfl, rfl, ⟨Nat.le_of_ble_eq_true rfl, Nat.le_of_ble_eq_true rfl⟩, ⟨Nat.le_of_ble_eq_true rfl, Nat.le_of_ble_eq_true rfl⟩⟩ hz_a0 hk_a0 (by decide) rfl rfl hl.1 rfl (Nat.le_of_ble_eq_true rfl) dX12_worth_10) rfl rfl (fun x21 H locs M17 R18 J19 hS f15 g16 E20 => ?_)
    obtain ⟨h_x21, p22⟩ := E20
    refine lv_if_eq (tgt := 25) hx hb dX12_worth_13 (by decide) (fun c23 => ?_) (fun c23 => ?_)
    · have q24 : x21.toInt = 0 := ti_eq c23
      have h25 : iv 0 0 x21 := ⟨by have := (h_x21).1; have := ((iv_c (c := 0) (n := 0) (by decide))).1; omega, by have := (h_x21).2; have := ((iv_c (c := 0) (n := 0) (by decide))).2; omega⟩
      refine lv_sipush (v := (-1000)) hx hb dX12_worth_25 (by decide) ?_
      exact tw_endi hx hb hr hlocks hK hT hS hQ ((iv_mono (iv_c (c := (-1000)) (n := (-1000)) (by decide)) (by decide) (by decide))) dX12_worth_28
    · have q26 : ¬ x21.toInt = 0 := ti_ne c23
      have h27 : iv 1 1 x21 := ⟨by have := (h_x21).1; have := ((iv_c (c := 0) (n := 0) (by decide))).1; have := ((iv_c (c := 0) (n := 0) (by decide))).2; omega, by have := (h_x21).2; have := ((iv_c (c := 0) (n := 0) (by decide))).1; have := ((iv_c (c := 0) (n := 0) (by decide))).2; omega⟩
      have h28 : iv 0 11 a2 := ⟨by have := (p22 c23).1; have := (h_a2).1; omega, by have := (p22 c23).2; have := (h_a2).2; omega⟩
      refine lv_aload_n hx hb dX12_worth_16 rfl (lv_at hl 0 rfl) ?_
      refine lv_iload_n hx hb dX12_worth_17 rfl (lv_at hl 1 rfl) ?_
      refine lv_iload_n hx hb dX12_worth_18 rfl (lv_at hl 2 rfl) ?_
      refine tw_goi hS (md_runV (As := [.int a1, .int a2]) (rest := []) hx hb hml hown hW hK hT hS.1 (t_X12_worthOf l D cy tx base Z K N M17 R18 J19 hS.2.1 a0 hz_a0 hk_a0 a1 h14 a2 h28) s_X12_330 ⟨rfl, rfl, ⟨Nat.le_of_ble_eq_true rfl, Nat.le_of_ble_eq_true rfl⟩, ⟨Nat.le_of_ble_eq_true rfl, Nat.le_of_ble_eq_true rfl⟩⟩ hz_a0 hk_a0 (by decide) rfl rfl hl.1 rfl (Nat.le_of_ble_eq_true rfl) dX12_worth_19) rfl rfl (fun x35 H locs M31 R32 J33 hS f29 g30 E34 => ?_)
      have h_x35 := E34
      refine lv_goto (tgt := 28) hx hb dX12_worth_22 (by decide) ?_
      exact tw_endi hx hb hr hlocks hK hT hS hQ (h_x35) dX12_worth_28
def Lt_X7_kindOf : WL := []
def LRt_X7_kindOf : WL := []
set_option maxRecDepth 100000 in
set_option maxHeartbeats 4000000 in
theorem t_X7_kindOf (l : Launch) (D : va_G) (cy : Nat → ClassId) (tx : (Nat → Nat) × (Nat → Nat)) (base Z : Nat) (K N : Nat → Nat) (Ma : MT) (Ra : RT) (Ja : JT) (hTy : Ty Z K N Ma Ra) (a0 : Int32) (h_a0 : iv (-2147483648) 2147483647 a0) : Met l yX7_kindOf [Cond.code yX7_kindOf cX7_kindOf 1 (some .int)] (md_rm 1 0 0) (va_Pc [.int a0] (md_U D cy tx base Z K N Ma Ra Ja)) (mQi D cy tx base (fun r u => TP Z K N Lt_X7_kindOf LRt_X7_kindOf Ma Ra u ∧ (iv 0 15 r))) 0 0 (fun q => base ≤ q) := by
  refine tw_ofW (L := Lt_X7_kindOf) (LR := LRt_X7_kindOf) (by decide) (Nat.le_of_ble_eq_true rfl) hTy ?_
  intro p e s m args below meth c Q ls hx hb hr hlocks hown hml hW hK hT hS hQ hl
  have hl : lv_has ls 1 [(0, .int a0)] := hl
  refine lv_iload_n hx hb dX7_kindOf_0 rfl (lv_at hl 0 rfl) ?_
  refine lv_bipush (v := 15) hx hb dX7_kindOf_1 (by decide) ?_
  refine tw_iand (hi := 15) hx hb (iv_mono (iv_c (c := 15) (n := 15) (by decide)) (lo := 0) (hi := 15) (by decide) (by decide)) (by decide) dX7_kindOf_3 (fun x3 h1 => ?_)
  exact tw_endi hx hb hr hlocks hK hT hS hQ (h1) dX7_kindOf_4
def Lt_X7_stepOf : WL := []
def LRt_X7_stepOf : WL := []
set_option maxRecDepth 100000 in
set_option maxHeartbeats 4000000 in
theorem t_X7_stepOf (l : Launch) (D : va_G) (cy : Nat → ClassId) (tx : (Nat → Nat) × (Nat → Nat)) (base Z : Nat) (K N : Nat → Nat) (Ma : MT) (Ra : RT) (Ja : JT) (hTy : Ty Z K N Ma Ra) (a0 : Int32) (h_a0 : iv 0 15 a0) (a1 : Int32) (h_a1 : iv (-2147483648) 2147483647 a1) : Met l yX7_stepOf [Cond.code yX7_stepOf cX7_stepOf 2 (some .int)] (md_rm 1 0 0) (va_Pc [.int a0, .int a1] (md_U D cy tx base Z K N Ma Ra Ja)) (mQi D cy tx base (fun r u => TP Z K N Lt_X7_stepOf LRt_X7_stepOf Ma Ra u ∧ (iv (-2147483648) 2147483647 r))) 0 0 (fun q => base ≤ q) := by
  refine tw_ofW (L := Lt_X7_stepOf) (LR := LRt_X7_stepOf) (by decide) (Nat.le_of_ble_eq_true rfl) hTy ?_
  intro p e s m args below meth c Q ls hx hb hr hlocks hown hml hW hK hT hS hQ hl
  have hl : lv_has ls 2 [(0, .int a0), (1, .int a1)] := hl
  refine lv_iload_n hx hb dX7_stepOf_0 rfl (lv_at hl 1 rfl) ?_
  refine lv_iconst (v := 4) hx hb dX7_stepOf_1 (by decide) ?_
  refine lv_ishl hx hb dX7_stepOf_2 ?_
  refine tw_top (fun x2 => ?_)
  have h1 := iv_any x2
  refine lv_iload_n hx hb dX7_stepOf_3 rfl (lv_at hl 0 rfl) ?_
  refine lv_ior hx hb dX7_stepOf_4 ?_
  refine tw_top (fun x4 => ?_)
  have h3 := iv_any x4
  exact tw_endi hx hb hr hlocks hK hT hS hQ (h3) dX7_stepOf_5
def Lt_X8_aim : WL := [(14, 0, 2000000)]
def LRt_X8_aim : WL := []
set_option maxRecDepth 100000 in
set_option maxHeartbeats 4000000 in
theorem t_X8_aim (l : Launch) (D : va_G) (cy : Nat → ClassId) (tx : (Nat → Nat) × (Nat → Nat)) (base Z : Nat) (K N : Nat → Nat) (Ma : MT) (Ra : RT) (Ja : JT) (hTy : Ty Z K N Ma Ra) (a0 : Nat) (hz_a0 : a0 < Z) (hk_a0 : K a0 = 9) (a1 : Int32) (h_a1 : iv (-1) 399 a1) : Met l yX8_aim [Cond.code yX8_aim cX8_aim 2 none] (md_rm 2 0 0) (va_Pc [.ref (base + a0), .int a1] (md_U D cy tx base Z K N Ma Ra Ja)) (mQv D cy tx base (fun u => TP Z K N Lt_X8_aim LRt_X8_aim Ma Ra u ∧ (True))) 0 0 (fun q => base ≤ q) := by
  refine tw_ofW (L := Lt_X8_aim) (LR := LRt_X8_aim) (by decide) (Nat.le_of_ble_eq_true rfl) hTy ?_
  intro p e s m args below meth c Q ls hx hb hr hlocks hown hml hW hK hT hS hQ hl
  have hl : lv_has ls 2 [(0, .ref (base + a0)), (1, .int a1)] := hl
  refine lv_iload_n hx hb dX8_aim_0 rfl (lv_at hl 1 rfl) ?_
  refine lv_if_lt (tgt := 34) hx hb dX8_aim_1 (by decide) (fun c1 => ?_) (fun c1 => ?_)
  · have q2 : a1.toInt < 0 := ti_lt c1
    have h3 : iv (-1) (-1) a1 := iv_ltL (y := 0) h_a1 (iv_c (c := 0) (n := 0) (by decide)) q2 (by decide)
    exact tw_endv hx hb hr hlocks hK hT hS hQ (trivial) dX8_aim_34
  · have q4 : 0 ≤ a1.toInt := ti_nlt c1
    have h5 : iv 0 399 a1 := iv_geL (y := 0) h_a1 (iv_c (c := 0) (n := 0) (by decide)) q4 (by decide)
    refine lv_iload_n hx hb dX8_aim_4 rfl (lv_at hl 1 rfl) ?_
    refine lv_aload_n hx hb dX8_aim_5 rfl (lv_at hl 0 rfl) ?_
    refine tw_geti hx hb hW hown hK hS f_X8_19_8 hz_a0 hk_a0 (lo := 0) (hi := 400) rfl dX8_aim_6 (fun x8 k7 h6 => ?_)
    refine lv_icmp_ge (tgt := 34) hx hb dX8_aim_9 (by decide) (fun c9 => ?_) (fun c9 => ?_)
    · have q10 : x8.toInt ≤ a1.toInt := ti_le c9
      have h11 : iv 0 399 x8 := iv_leL (y := a1) h6 h5 q10 (by decide)
      exact tw_endv hx hb hr hlocks hK hT hS hQ (trivial) dX8_aim_34
    · have q12 : a1.toInt < x8.toInt := ti_nle c9
      have h13 : iv 1 400 x8 := iv_gtL (y := a1) h6 h5 q12 (by decide)
      refine lv_aload_n hx hb dX8_aim_12 rfl (lv_at hl 0 rfl) ?_
      refine tw_getr hx hb hW hown hK hS f_X8_9_8 hz_a0 hk_a0 (t := 14) (n := 400) rfl dX8_aim_13 (fun b14 k15 hz_b14 hk_b14 hn_b14 => ?_)
      have hn_b14 := hn_b14 (by decide)
      refine lv_iload_n hx hb dX8_aim_16 rfl (lv_at hl 1 rfl) ?_
      refine lv_aload_n hx hb dX8_aim_17 rfl (lv_at hl 0 rfl) ?_
      refine tw_getrk hx hb hW hown hK hS f_X8_9_8 hz_a0 hk_a0 (b := b14) k15 dX8_aim_18 ?_
      refine lv_iload_n hx hb dX8_aim_21 rfl (lv_at hl 1 rfl) ?_
      refine tw_iald hx hb hK hS hz_b14 hk_b14 (Or.inl rfl) hn_b14 (lo := (-2147483648)) (hi := 2147483647) h5 ⟨by decide, by decide⟩ rg_u14 dX8_aim_22 (fun x18 k17 h16 => ?_)
      refine tw_goi hS (md_runS (As := [.int x18]) (rest := [.int a1, .ref (base + b14)]) hx hb hml hown hW hK hT hS.1 (t_X7_kindOf l D cy tx base Z K N Ma Ra Ja hS.2.1 x18 h16) s_X8_71 ⟨rfl, rfl, ⟨Nat.le_of_ble_eq_true rfl, Nat.le_of_ble_eq_true rfl⟩, ⟨Nat.le_of_ble_eq_true rfl, Nat.le_of_ble_eq_true rfl⟩⟩ rfl hl.1 rfl (Nat.le_of_ble_eq_true rfl) dX8_aim_23) rfl rfl (fun x25 H locs M21 R22 J23 hS f19 g20 E24 => ?_)
      have h_x25 := E24
      refine lv_aload_n hx hb dX8_aim_26 rfl (lv_at hl 0 rfl) ?_
      have k26 : M21 a0 6 = x8 := (Fr.kp (k := 6) f19 hk_a0 rfl).trans k7
      refine tw_getk hx hb hW hown hK hS f_X8_19_8 hz_a0 hk_a0 (v := x8) k26 dX8_aim_27 ?_
      refine tw_goi hS (md_runS (As := [.int x25, .int x8]) (rest := [.int a1, .ref (base + b14)]) hx hb hml hown hW hK hT hS.1 (t_X7_stepOf l D cy tx base Z K N M21 R22 J23 hS.2.1 x25 h_x25 x8 (iv_mono h13 (by decide) (by decide))) s_X8_68 ⟨rfl, rfl, ⟨Nat.le_of_ble_eq_true rfl, Nat.le_of_ble_eq_true rfl⟩, ⟨Nat.le_of_ble_eq_true rfl, Nat.le_of_ble_eq_true rfl⟩⟩ rfl hl.1 rfl (Nat.le_of_ble_eq_true rfl) dX8_aim_30) rfl rfl (fun x33 H locs M29 R30 J31 hS f27 g28 E32 => ?_)
      have h_x33 := E32
      refine tw_iast hx hb hK hS hz_b14 hk_b14 (Or.inl rfl) hn_b14 h5 ⟨by decide, by decide⟩ h_x33 (rg_s14 ⟨by decide, by decide⟩) (jl := 0) (jh := 1999999) ⟨by decide, by decide⟩ rfl dX8_aim_33 (fun H locs M36 hS k34 f35 => ?_)
      exact tw_endv hx hb hr hlocks hK hT hS hQ (trivial) dX8_aim_34
def Lt_X8_put : WL := [(9, 6, 7), (14, 0, 2000000)]
def LRt_X8_put : WL := []
set_option maxRecDepth 100000 in
set_option maxHeartbeats 4000000 in
theorem t_X8_put (l : Launch) (D : va_G) (cy : Nat → ClassId) (tx : (Nat → Nat) × (Nat → Nat)) (base Z : Nat) (K N : Nat → Nat) (Ma : MT) (Ra : RT) (Ja : JT) (hTy : Ty Z K N Ma Ra) (a0 : Nat) (hz_a0 : a0 < Z) (hk_a0 : K a0 = 9) (a1 : Int32) (h_a1 : iv 0 15 a1) (a2 : Int32) (h_a2 : iv (-2147483648) 2147483647 a2) : Met l yX8_put [Cond.code yX8_put cX8_put 3 (some .int)] (md_rm 2 0 0) (va_Pc [.ref (base + a0), .int a1, .int a2] (md_U D cy tx base Z K N Ma Ra Ja)) (mQi D cy tx base (fun r u => TP Z K N Lt_X8_put LRt_X8_put Ma Ra u ∧ (iv (-1) 399 r))) 0 0 (fun q => base ≤ q) := by
  refine tw_ofW (L := Lt_X8_put) (LR := LRt_X8_put) (by decide) (Nat.le_of_ble_eq_true rfl) hTy ?_
  intro p e s m args below meth c Q ls hx hb hr hlocks hown hml hW hK hT hS hQ hl
  have hl : lv_has ls 3 [(0, .ref (base + a0)), (1, .int a1), (2, .int a2)] := hl
  refine lv_aload_n hx hb dX8_put_0 rfl (lv_at hl 0 rfl) ?_
  refine tw_geti hx hb hW hown hK hS f_X8_19_8 hz_a0 hk_a0 (lo := 0) (hi := 400) rfl dX8_put_1 (fun x3 k2 h1 => ?_)
  refine lv_aload_n hx hb dX8_put_4 rfl (lv_at hl 0 rfl) ?_
  refine tw_getr hx hb hW hown hK hS f_X8_9_8 hz_a0 hk_a0 (t := 14) (n := 400) rfl dX8_put_5 (fun b4 k5 hz_b4 hk_b4 hn_b4 => ?_)
  have hn_b4 := hn_b4 (by decide)
  refine tw_alenk hx hb hK hS hz_b4 hk_b4 (by decide) hn_b4 (v := 400) (by decide) dX8_put_8 ?_
  refine lv_icmp_lt (tgt := 14) hx hb dX8_put_9 (by decide) (fun c6 => ?_) (fun c6 => ?_)
  · have q7 : x3.toInt < 400 := ti_lt c6
    have h8 : iv 0 399 x3 := iv_ltL (y := 400) h1 (iv_c (c := 400) (n := 400) (by decide)) q7 (by decide)
    refine lv_aload_n hx hb dX8_put_14 rfl (lv_at hl 0 rfl) ?_
    refine tw_getrk hx hb hW hown hK hS f_X8_9_8 hz_a0 hk_a0 (b := b4) k5 dX8_put_15 ?_
    refine lv_aload_n hx hb dX8_put_18 rfl (lv_at hl 0 rfl) ?_
    refine tw_getk hx hb hW hown hK hS f_X8_19_8 hz_a0 hk_a0 (v := x3) k2 dX8_put_19 ?_
    refine lv_iload_n hx hb dX8_put_22 rfl (lv_at hl 1 rfl) ?_
    refine lv_iload_n hx hb dX8_put_23 rfl (lv_at hl 2 rfl) ?_
    refine tw_goi hS (md_runS (As := [.int a1, .int a2]) (rest := [.int x3, .ref (base + b4)]) hx hb hml hown hW hK hT hS.1 (t_X7_stepOf l D cy tx base Z K N Ma Ra Ja hS.2.1 a1 h_a1 a2 h_a2) s_X8_68 ⟨rfl, rfl, ⟨Nat.le_of_ble_eq_true rfl, Nat.le_of_ble_eq_true rfl⟩, ⟨Nat.le_of_ble_eq_true rfl, Nat.le_of_ble_eq_true rfl⟩⟩ rfl hl.1 rfl (Nat.le_of_ble_eq_true rfl) dX8_put_24) rfl rfl (fun x15 H locs M11 R12 J13 hS f9 g10 E14 => ?_)
    have h_x15 := E14
    refine tw_iast hx hb hK hS hz_b4 hk_b4 (Or.inl rfl) hn_b4 h8 ⟨by decide, by decide⟩ h_x15 (rg_s14 ⟨by decide, by decide⟩) (jl := 0) (jh := 1999999) ⟨by decide, by decide⟩ rfl dX8_put_27 (fun H locs M18 hS k16 f17 => ?_)
    refine lv_aload_n hx hb dX8_put_28 rfl (lv_at hl 0 rfl) ?_
    refine lv_dup hx hb dX8_put_29 rfl ?_
    have k19 : M18 a0 6 = x3 := ((Fr.kp (k := 6) f17 hk_a0 rfl).trans (Fr.kp (k := 6) f9 hk_a0 rfl)).trans k2
    refine tw_getk hx hb hW hown hK hS f_X8_19_8 hz_a0 hk_a0 (v := x3) k19 dX8_put_30 ?_
    refine lv_iconst (v := 1) hx hb dX8_put_33 (by decide) ?_
    refine tw_iadd (lo := 1) (hi := 400) hx hb h8 (iv_c (c := 1) (n := 1) (by decide)) ⟨by decide, by decide⟩ ⟨by decide, by decide⟩ dX8_put_34 (fun x22 e21 h20 => ?_)
    have e21 : x22.toInt = x3.toInt + 1 := e21
    refine tw_puti hx hb hW hown hK hS f_X8_19_8 hz_a0 hk_a0 rfl rfl (lo := 0) (hi := 400) rfl (iv_mono h20 (by decide) (by decide)) rfl dX8_put_35 (fun H locs M25 hS k23 f24 => ?_)
    refine lv_aload_n hx hb dX8_put_38 rfl (lv_at hl 0 rfl) ?_
    refine tw_getk hx hb hW hown hK hS f_X8_19_8 hz_a0 hk_a0 (v := x22) k23 dX8_put_39 ?_
    refine lv_iconst (v := 1) hx hb dX8_put_42 (by decide) ?_
    refine tw_isub (lo := 0) (hi := 399) hx hb h20 (iv_c (c := 1) (n := 1) (by decide)) ⟨by decide, by decide⟩ ⟨by decide, by decide⟩ dX8_put_43 (fun x28 e27 h26 => ?_)
    have e27 : x28.toInt = x22.toInt - 1 := e27
    exact tw_endi hx hb hr hlocks hK hT hS hQ ((iv_mono h26 (by decide) (by decide))) dX8_put_44
  · have q29 : 400 ≤ x3.toInt := ti_nlt c6
    have h30 : iv 400 400 x3 := iv_geL (y := 400) h1 (iv_c (c := 400) (n := 400) (by decide)) q29 (by decide)
    refine lv_iconst (v := (-1)) hx hb dX8_put_12 (by decide) ?_
    exact tw_endi hx hb hr hlocks hK hT hS hQ ((iv_mono (iv_c (c := (-1)) (n := (-1)) (by decide)) (by decide) (by decide))) dX8_put_13
def Lt_X8_fact : WL := [(9, 2, 5), (9, 6, 8), (14, 0, 2000000)]
def LRt_X8_fact : WL := []
def Lt_X8_test : WL := [(9, 2, 5), (9, 6, 8), (14, 0, 2000000)]
def LRt_X8_test : WL := []
set_option maxRecDepth 100000 in
set_option maxHeartbeats 4000000 in
theorem t_X8_test (l : Launch) (D : va_G) (cy : Nat → ClassId) (tx : (Nat → Nat) × (Nat → Nat)) (base Z : Nat) (K N : Nat → Nat) (d : Nat) (ih : ∀ (Ma : MT) (Ra : RT) (Ja : JT) (hTy : Ty Z K N Ma Ra) (a0 : Nat) (hz_a0 : a0 < Z) (hk_a0 : K a0 = 9) (a1 : Int32) (h_a1 : iv 0 10 a1) (tb : Nat) (k_tb : Ra a0 0 = some tb) (ln : Int32) (k_ln : Ma a0 1 = ln) (h_ln : iv 0 400 ln) (pa : Int32) (k_pa : Ma a0 2 = pa) (h_pa : iv 0 400 pa) (fa : Int32) (k_fa : Ma a0 3 = fa) (h_fa : iv 0 0 fa) (hin : pa.toInt ≤ ln.toInt) (hmd : 10 - a1.toInt < (d : Int)), Met l yX8_fact [Cond.code yX8_fact cX8_fact 5 none] (md_rm (9 + 2 * d) 0 0) (va_Pc [.ref (base + a0), .int a1] (md_U D cy tx base Z K N Ma Ra Ja)) (mQv D cy tx base (fun u => TP Z K N Lt_X8_fact LRt_X8_fact Ma Ra u ∧ ((∃ x0 x1 : Int32, u.2.2.2.1 a0 2 = x0 ∧ u.2.2.2.1 a0 3 = x1 ∧ iv 0 420 x0 ∧ iv (-2147483648) 2147483647 x1 ∧ (x0.toInt ≤ 420 - a1.toInt ∧ (¬ x1.toInt = 0 ∨ x0.toInt ≤ ln.toInt)))))) 0 0 (fun q => base ≤ q)) (Ma : MT) (Ra : RT) (Ja : JT) (hTy : Ty Z K N Ma Ra) (a0 : Nat) (hz_a0 : a0 < Z) (hk_a0 : K a0 = 9) (a1 : Int32) (h_a1 : iv 0 10 a1) (tb : Nat) (k_tb : Ra a0 0 = some tb) (ln : Int32) (k_ln : Ma a0 1 = ln) (h_ln : iv 0 400 ln) (pa : Int32) (k_pa : Ma a0 2 = pa) (h_pa : iv 0 400 pa) (fa : Int32) (k_fa : Ma a0 3 = fa) (h_fa : iv 0 0 fa) (hin : pa.toInt ≤ ln.toInt) (hmd : 10 - a1.toInt < (d : Int)) : Met l yX8_test [Cond.code yX8_test cX8_test 7 none] (md_rm (10 + 2 * d) 0 0) (va_Pc [.ref (base + a0), .int a1] (md_U D cy tx base Z K N Ma Ra Ja)) (mQv D cy tx base (fun u => TP Z K N Lt_X8_test LRt_X8_test Ma Ra u ∧ ((∃ x0 x1 : Int32, u.2.2.2.1 a0 2 = x0 ∧ u.2.2.2.1 a0 3 = x1 ∧ iv 0 420 x0 ∧ iv (-2147483648) 2147483647 x1 ∧ (x0.toInt ≤ 420 - a1.toInt ∧ (¬ x1.toInt = 0 ∨ x0.toInt ≤ ln.toInt)))))) 0 0 (fun q => base ≤ q) := by
  refine tw_ofW (L := Lt_X8_test) (LR := LRt_X8_test) (by decide) (Nat.le_of_ble_eq_true rfl) hTy ?_
  intro p e s m args below meth c Q ls hx hb hr hlocks hown hml hW hK hT hS hQ hl
  have hl : lv_has ls 7 [(0, .ref (base + a0)), (1, .int a1)] := hl
  obtain ⟨hz_tb, hk_tb, hn_tb⟩ := hTy.refn hz_a0 hk_a0 (show rtR 9 0 = (13, 400, 1) from rfl) k_tb
  have hn_tb := hn_tb (by decide)
  refine lv_iconst (v := (-1)) hx hb dX8_test_0 (by decide) ?_
  refine lv_istore_n (lv' := [(2, .int (-1)), (0, .ref (base + a0)), (1, .int a1)]) hx hb dX8_test_1 rfl hl (by decide) rfl (fun ls hl => ?_)
  refine lv_iconst (v := 1) hx hb dX8_test_2 (by decide) ?_
  refine lv_istore_n (lv' := [(3, .int 1), (2, .int (-1)), (0, .ref (base + a0)), (1, .int a1)]) hx hb dX8_test_3 rfl hl (by decide) rfl (fun ls hl => ?_)
  refine lv_aload_n hx hb dX8_test_4 rfl (lv_at hl 2 rfl) ?_
  refine lv_iload_n hx hb dX8_test_5 rfl (lv_at hl 3 rfl) ?_
  have q1 : pa.toInt ≤ ln.toInt := by
    have := (h_a1).1; have := (h_a1).2; have := (h_fa).1; have := (h_fa).2; have := (h_ln).1; have := (h_ln).2; have := (h_pa).1; have := (h_pa).2; omega
  have hm2 : 10 - a1.toInt < (d : Int) := by
    have := (h_a1).1; have := (h_a1).2; have := (h_fa).1; have := (h_fa).2; have := (h_ln).1; have := (h_ln).2; have := (h_pa).1; have := (h_pa).2; omega
  refine tw_gov hS (md_runV (As := [.int a1]) (rest := []) hx hb hml hown hW hK hT hS.1 (ih Ma Ra Ja hS.2.1 a0 hz_a0 hk_a0 a1 h_a1 tb k_tb ln k_ln (iv_mono h_ln (by decide) (by decide)) pa k_pa (iv_mono h_pa (by decide) (by decide)) fa k_fa (iv_mono h_fa (by decide) (by decide)) q1 hm2) s_X8_75 ⟨rfl, rfl, ⟨by simp only [md_rm]; omega, by simp only [md_rm]; omega⟩, ⟨Nat.le_of_ble_eq_true rfl, Nat.le_of_ble_eq_true rfl⟩⟩ hz_a0 hk_a0 (by decide) rfl rfl hl.1 rfl (Nat.le_of_ble_eq_true rfl) dX8_test_6) rfl rfl (fun H locs M5 R6 J7 hS f3 g4 E8 => ?_)
  have p9 := E8
  obtain ⟨x11, x13, k14, k15, h10, h12, q16⟩ := p9
  have k14 : M5 a0 2 = x11 := k14
  have k15 : M5 a0 3 = x13 := k15
  refine lv_iconst (v := 0) hx hb dX8_test_9 (by decide) ?_
  refine lv_istore (lv' := [(4, .int 0), (3, .int 1), (2, .int (-1)), (0, .ref (base + a0)), (1, .int a1)]) hx hb dX8_test_10 hl (by decide) rfl (fun ls hl => ?_)
  have W12_20 : ∀ (n_20 : Nat) (x17 : Int32) (x18 : Int32) (x19 : Int32) (x25 : Int32) (x27 : Int32) (M20 : MT) (R21 : RT) (J22 : JT) (H : Heap) (locs : List Loc) (ls : Array Slot) (h_x17 : iv (-1) 399 x17) (h_x18 : iv 0 1 x18) (h_x19 : iv 0 400 x19) (h_x25 : iv 0 420 x25) (k26 : M20 a0 2 = x25) (h_x27 : iv (-2147483648) 2147483647 x27) (k28 : M20 a0 3 = x27) (w0_20 : x25.toInt ≤ 420 - a1.toInt ∧ (¬ x27.toInt = 0 ∨ x25.toInt ≤ ln.toInt)) (hm_20 : 400 - x19.toInt < (n_20 : Int)) (hS : SB D cy base Z K N Lt_X8_test LRt_X8_test Ma Ra M20 R21 J22 s H locs) (hl : lv_has ls 7 [(2, .int x17), (3, .int x18), (4, .int x19), (0, .ref (base + a0)), (1, .int a1)]), W p l e (md_rm (10 + 2 * d) 0 0) s m args below meth c H locs 0 0 Q (F0 m 12 ls []) := by
    intro n_20
    induction n_20 with
    | zero =>
      intro x17 x18 x19 x25 x27 M20 R21 J22 H locs ls h_x17 h_x18 h_x19 h_x25 k26 h_x27 k28 w0_20 hm_20 hS hl
      exfalso
      have := (h_a1).1; have := (h_a1).2; have := (h_fa).1; have := (h_fa).2; have := (h_ln).1; have := (h_ln).2; have := (h_pa).1; have := (h_pa).2; have := (h_x19).1; have := (h_x19).2; omega
    | succ n_20 ih_20 =>
      intro x17 x18 x19 x25 x27 M20 R21 J22 H locs ls h_x17 h_x18 h_x19 h_x25 k26 h_x27 k28 w0_20 hm_20 hS hl
      have f23 := hS.2.2.1
      have g24 := hS.2.2.2
      refine lv_iload_n hx hb dX8_test_12 rfl (lv_at hl 1 rfl) ?_
      refine lv_if_eq (tgt := 122) hx hb dX8_test_13 (by decide) (fun c29 => ?_) (fun c29 => ?_)
      · have q30 : x18.toInt = 0 := ti_eq c29
        have h31 : iv 0 0 x18 := ⟨by have := (h_x18).1; have := ((iv_c (c := 0) (n := 0) (by decide))).1; omega, by have := (h_x18).2; have := ((iv_c (c := 0) (n := 0) (by decide))).2; omega⟩
        have q32 : x25.toInt ≤ 420 - a1.toInt ∧ (¬ x27.toInt = 0 ∨ x25.toInt ≤ ln.toInt) := by
          have := (h_a1).1; have := (h_a1).2; have := (h_fa).1; have := (h_fa).2; have := (h_ln).1; have := (h_ln).2; have := (h_pa).1; have := (h_pa).2; have := (h10).1; have := (h10).2; have := (h12).1; have := (h12).2; have := (h_x25).1; have := (h_x25).2; have := (h_x27).1; have := (h_x27).2; omega
        exact tw_endv hx hb hr hlocks hK hT hS hQ (⟨x25, x27, k26, k28, h_x25, h_x27, q32⟩) dX8_test_122
      · have q33 : ¬ x18.toInt = 0 := ti_ne c29
        have h34 : iv 1 1 x18 := ⟨by have := (h_x18).1; have := ((iv_c (c := 0) (n := 0) (by decide))).1; have := ((iv_c (c := 0) (n := 0) (by decide))).2; omega, by have := (h_x18).2; have := ((iv_c (c := 0) (n := 0) (by decide))).1; have := ((iv_c (c := 0) (n := 0) (by decide))).2; omega⟩
        refine lv_aload_n hx hb dX8_test_16 rfl (lv_at hl 3 rfl) ?_
        refine tw_getk hx hb hW hown hK hS f_X8_65_8 hz_a0 hk_a0 (v := x27) k28 dX8_test_17 ?_
        refine lv_if_ne (tgt := 122) hx hb dX8_test_20 (by decide) (fun c35 => ?_) (fun c35 => ?_)
        · have q36 : ¬ x27.toInt = 0 := ti_ne c35
          have q37 : x25.toInt ≤ 420 - a1.toInt ∧ (¬ x27.toInt = 0 ∨ x25.toInt ≤ ln.toInt) := by
            have := (h_a1).1; have := (h_a1).2; have := (h_fa).1; have := (h_fa).2; have := (h_ln).1; have := (h_ln).2; have := (h_pa).1; have := (h_pa).2; have := (h10).1; have := (h10).2; have := (h12).1; have := (h12).2; have := (h_x25).1; have := (h_x25).2; have := (h_x27).1; have := (h_x27).2; omega
          exact tw_endv hx hb hr hlocks hK hT hS hQ (⟨x25, x27, k26, k28, h_x25, h_x27, q37⟩) dX8_test_122
        · have q38 : x27.toInt = 0 := ti_eq c35
          have h39 : iv 0 0 x27 := ⟨by have := (h_x27).1; have := ((iv_c (c := 0) (n := 0) (by decide))).1; omega, by have := (h_x27).2; have := ((iv_c (c := 0) (n := 0) (by decide))).2; omega⟩
          refine lv_iload hx hb dX8_test_23 (lv_at hl 2 rfl) ?_
          refine lv_sipush (v := 400) hx hb dX8_test_25 (by decide) ?_
          refine lv_icmp_ge (tgt := 122) hx hb dX8_test_28 (by decide) (fun c40 => ?_) (fun c40 => ?_)
          · have q41 : 400 ≤ x19.toInt := ti_le c40
            have h42 : iv 400 400 x19 := iv_geL (y := 400) h_x19 (iv_c (c := 400) (n := 400) (by decide)) q41 (by decide)
            have q43 : x25.toInt ≤ 420 - a1.toInt ∧ (¬ x27.toInt = 0 ∨ x25.toInt ≤ ln.toInt) := by
              have := (h_a1).1; have := (h_a1).2; have := (h_fa).1; have := (h_fa).2; have := (h_ln).1; have := (h_ln).2; have := (h_pa).1; have := (h_pa).2; have := (h10).1; have := (h10).2; have := (h12).1; have := (h12).2; have := (h_x25).1; have := (h_x25).2; have := (h39).1; have := (h39).2; omega
            exact tw_endv hx hb hr hlocks hK hT hS hQ (⟨x25, x27, k26, k28, h_x25, (iv_mono h39 (by decide) (by decide)), q43⟩) dX8_test_122
          · have q44 : x19.toInt < 400 := ti_nle c40
            have h45 : iv 0 399 x19 := iv_ltL (y := 400) h_x19 (iv_c (c := 400) (n := 400) (by decide)) q44 (by decide)
            refine lv_aload_n hx hb dX8_test_31 rfl (lv_at hl 3 rfl) ?_
            have k46 : R21 a0 0 = some tb := (Fr.kp (k := 0) g24 hk_a0 rfl).trans k_tb
            have k47 : M20 a0 1 = ln := (Fr.kp (k := 1) f23 hk_a0 rfl).trans k_ln
            refine tw_goi hS (md_runU (As := []) (rest := []) hx hb hml hown hW hK hT hS.1 (t_X10_hereBehindBlanks l D cy tx base Z K N M20 R21 J22 hS.2.1 a0 hz_a0 hk_a0 tb k46 ln k47 (iv_mono h_ln (by decide) (by decide)) x25 k26 (iv_mono h_x25 (by decide) (by decide))) s_X8_26_X8 ⟨rfl, rfl, ⟨by simp only [md_rm]; omega, by simp only [md_rm]; omega⟩, ⟨Nat.le_of_ble_eq_true rfl, Nat.le_of_ble_eq_true rfl⟩⟩ hz_a0 hk_a0 (by decide) rfl rfl hl.1 rfl (Nat.le_of_ble_eq_true rfl) dX8_test_32) rfl rfl (fun x54 H locs M50 R51 J52 hS f48 g49 E53 => ?_)
            obtain ⟨h_x54, p55⟩ := E53
            obtain ⟨x57, k58, h56, q59⟩ := p55
            have k58 : M50 a0 2 = x57 := k58
            have h60 : iv 0 420 x57 := by
              have := (h_a1).1; have := (h_a1).2; have := (h_fa).1; have := (h_fa).2; have := (h_ln).1; have := (h_ln).2; have := (h_pa).1; have := (h_pa).2; have := (h10).1; have := (h10).2; have := (h12).1; have := (h12).2; have := (h_x25).1; have := (h_x25).2; have := (h39).1; have := (h39).2; have := (h56).1; have := (h56).2; exact ⟨by omega, by omega⟩
            refine lv_pop hx hb dX8_test_35 rfl ?_
            refine lv_aload_n hx hb dX8_test_36 rfl (lv_at hl 3 rfl) ?_
            refine va_ldcS hx hb hown hT.2.1.2.2.2.2.1 dX8_test_37 ?_
            have k61 : R51 a0 0 = some tb := ((Fr.kp (k := 0) g49 hk_a0 rfl).trans (Fr.kp (k := 0) g24 hk_a0 rfl)).trans k_tb
            have k62 : M50 a0 1 = ln := ((Fr.kp (k := 1) f48 hk_a0 rfl).trans (Fr.kp (k := 1) f23 hk_a0 rfl)).trans k_ln
            refine tw_goi hS (md_runU (As := [.ref (tx.1 4)]) (rest := []) hx hb hml hown hW hK hT hS.1 (t_X10_whichWord l D cy tx base Z K N M50 R51 J52 hS.2.1 a0 hz_a0 hk_a0 4 (by decide) tb k61 ln k62 (iv_mono h_ln (by decide) (by decide)) x57 k58 (iv_mono h60 (by decide) (by decide))) s_X8_32_X8 ⟨rfl, rfl, ⟨by simp only [md_rm]; omega, by simp only [md_rm]; omega⟩, ⟨Nat.le_of_ble_eq_true rfl, Nat.le_of_ble_eq_true rfl⟩⟩ hz_a0 hk_a0 (by decide) rfl rfl hl.1 rfl (Nat.le_of_ble_eq_true rfl) dX8_test_39) rfl rfl (fun x69 H locs M65 R66 J67 hS f63 g64 E68 => ?_)
            obtain ⟨h_x69, p70⟩ := E68
            obtain ⟨x72, k73, h71, q74⟩ := p70
            have k73 : M65 a0 4 = x72 := k73
            have h75 : iv 0 420 x72 := by
              have := (h_a1).1; have := (h_a1).2; have := (h_fa).1; have := (h_fa).2; have := (h_ln).1; have := (h_ln).2; have := (h_pa).1; have := (h_pa).2; have := (h10).1; have := (h10).2; have := (h12).1; have := (h12).2; have := (h_x25).1; have := (h_x25).2; have := (h39).1; have := (h39).2; have := (h60).1; have := (h60).2; have := (h71).1; have := (h71).2; exact ⟨by omega, by omega⟩
            refine lv_istore (lv' := [(5, .int x69), (2, .int x17), (3, .int x18), (4, .int x19), (0, .ref (base + a0)), (1, .int a1)]) hx hb dX8_test_42 hl (by decide) rfl (fun ls hl => ?_)
            refine lv_iload hx hb dX8_test_44 (lv_at hl 0 rfl) ?_
            refine lv_if_ne (tgt := 76) hx hb dX8_test_46 (by decide) (fun c76 => ?_) (fun c76 => ?_)
            · have q77 : ¬ x69.toInt = 0 := ti_ne c76
              refine lv_aload_n hx hb dX8_test_76 rfl (lv_at hl 4 rfl) ?_
              refine lv_iload_n hx hb dX8_test_77 rfl (lv_at hl 1 rfl) ?_
              refine tw_gov hS (md_runV (As := [.int x17]) (rest := []) hx hb hml hown hW hK hT hS.1 (t_X8_aim l D cy tx base Z K N M65 R66 J67 hS.2.1 a0 hz_a0 hk_a0 x17 h_x17) s_X8_58 ⟨rfl, rfl, ⟨by simp only [md_rm]; omega, by simp only [md_rm]; omega⟩, ⟨Nat.le_of_ble_eq_true rfl, Nat.le_of_ble_eq_true rfl⟩⟩ hz_a0 hk_a0 (by decide) rfl rfl hl.1 rfl (Nat.le_of_ble_eq_true rfl) dX8_test_78) rfl rfl (fun H locs M80 R81 J82 hS f78 g79 E83 => ?_)
              refine lv_iconst (v := (-1)) hx hb dX8_test_81 (by decide) ?_
              refine lv_istore_n (lv' := [(2, .int (-1)), (5, .int x69), (3, .int x18), (4, .int x19), (0, .ref (base + a0)), (1, .int a1)]) hx hb dX8_test_82 rfl hl (by decide) rfl (fun ls hl => ?_)
              refine lv_iload hx hb dX8_test_83 (lv_at hl 1 rfl) ?_
              refine lv_iconst (v := 1) hx hb dX8_test_85 (by decide) ?_
              refine lv_icmp_ne (tgt := 93) hx hb dX8_test_86 (by decide) (fun c84 => ?_) (fun c84 => ?_)
              · have q85 : ¬ x69.toInt = 1 := ti_ne c84
                refine lv_iconst (v := 0) hx hb dX8_test_93 (by decide) ?_
                refine lv_istore_n (lv' := [(3, .int 0), (2, .int (-1)), (5, .int x69), (4, .int x19), (0, .ref (base + a0)), (1, .int a1)]) hx hb dX8_test_94 rfl hl (by decide) rfl (fun ls hl => ?_)
                refine lv_iload_n hx hb dX8_test_95 rfl (lv_at hl 0 rfl) ?_
                refine lv_if_eq (tgt := 116) hx hb dX8_test_96 (by decide) (fun _ => ?_) (fun h => absurd h (by decide))
                refine tw_iinc (lv' := fun x88 => [(4, .int x88), (3, .int 0), (2, .int (-1)), (5, .int x69), (0, .ref (base + a0)), (1, .int a1)]) (lo := 1) (hi := 400) hx hb dX8_test_116 hl (k := 3) rfl h45 (by decide) ⟨by decide, by decide⟩ ⟨by decide, by decide⟩ (by decide) (fun _ => rfl) (fun x88 ls e87 h86 hl => ?_)
                refine lv_goto (tgt := 12) hx hb dX8_test_119 (by decide) ?_
                have k89 : M80 a0 2 = x57 := ((Fr.kp (k := 2) f78 hk_a0 rfl).trans (Fr.kp (k := 2) f63 hk_a0 rfl)).trans k58
                have k90 : M80 a0 3 = x27 := ((Fr.kp (k := 3) f78 hk_a0 rfl).trans ((Fr.kp (k := 3) f63 hk_a0 rfl).trans (Fr.kp (k := 3) f48 hk_a0 rfl))).trans k28
                have w91 : x57.toInt ≤ 420 - a1.toInt ∧ (¬ x27.toInt = 0 ∨ x57.toInt ≤ ln.toInt) := by
                  have := (h_a1).1; have := (h_a1).2; have := (h_fa).1; have := (h_fa).2; have := (h_ln).1; have := (h_ln).2; have := (h_pa).1; have := (h_pa).2; have := (h10).1; have := (h10).2; have := (h12).1; have := (h12).2; have := (h_x25).1; have := (h_x25).2; have := (h39).1; have := (h39).2; have := (h60).1; have := (h60).2; have := (h75).1; have := (h75).2; omega
                have hm92 : 400 - x88.toInt < (n_20 : Int) := by
                  have := (h_a1).1; have := (h_a1).2; have := (h_fa).1; have := (h_fa).2; have := (h_ln).1; have := (h_ln).2; have := (h_pa).1; have := (h_pa).2; have := (h45).1; have := (h45).2; have := (h86).1; have := (h86).2; omega
                exact ih_20 (-1) 0 x88 x57 x27 M80 R81 J82 H locs _ (iv_mono (iv_c (c := (-1)) (n := (-1)) (by decide)) (by decide) (by decide)) (iv_mono (iv_c (c := 0) (n := 0) (by decide)) (by decide) (by decide)) (iv_mono h86 (by decide) (by decide)) h60 k89 (iv_mono h39 (by decide) (by decide)) k90 w91 hm92 hS (lv_sub hl [2, 1, 0, 4, 5] rfl)
              · have q93 : x69.toInt = 1 := ti_eq c84
                have h94 : iv 1 1 x69 := ⟨by have := (h_x69).1; have := ((iv_c (c := 1) (n := 1) (by decide))).1; omega, by have := (h_x69).2; have := ((iv_c (c := 1) (n := 1) (by decide))).2; omega⟩
                refine lv_iconst (v := 1) hx hb dX8_test_89 (by decide) ?_
                refine lv_goto (tgt := 94) hx hb dX8_test_90 (by decide) ?_
                refine lv_istore_n (lv' := [(3, .int 1), (2, .int (-1)), (5, .int x69), (4, .int x19), (0, .ref (base + a0)), (1, .int a1)]) hx hb dX8_test_94 rfl hl (by decide) rfl (fun ls hl => ?_)
                refine lv_iload_n hx hb dX8_test_95 rfl (lv_at hl 0 rfl) ?_
                refine lv_if_eq (tgt := 116) hx hb dX8_test_96 (by decide) (fun h => absurd h (by decide)) (fun _ => ?_)
                refine lv_aload_n hx hb dX8_test_99 rfl (lv_at hl 4 rfl) ?_
                have k95 : M80 a0 4 = x72 := (Fr.kp (k := 4) f78 hk_a0 rfl).trans k73
                refine tw_gov hS (md_runU (As := []) (rest := []) hx hb hml hown hW hK hT hS.1 (t_X10_passWord l D cy tx base Z K N M80 R81 J82 hS.2.1 a0 hz_a0 hk_a0 x72 k95 (iv_mono h75 (by decide) (by decide))) s_X8_43_X8 ⟨rfl, rfl, ⟨by simp only [md_rm]; omega, by simp only [md_rm]; omega⟩, ⟨Nat.le_of_ble_eq_true rfl, Nat.le_of_ble_eq_true rfl⟩⟩ hz_a0 hk_a0 (by decide) rfl rfl hl.1 rfl (Nat.le_of_ble_eq_true rfl) dX8_test_100) rfl rfl (fun H locs M98 R99 J100 hS f96 g97 E101 => ?_)
                have p102 := E101
                have k103 : M98 a0 2 = x72 := p102
                refine lv_aload_n hx hb dX8_test_103 rfl (lv_at hl 4 rfl) ?_
                refine lv_bipush (v := 13) hx hb dX8_test_104 (by decide) ?_
                refine lv_iconst (v := 0) hx hb dX8_test_106 (by decide) ?_
                refine tw_goi hS (md_runV (As := [.int 13, .int 0]) (rest := []) hx hb hml hown hW hK hT hS.1 (t_X8_put l D cy tx base Z K N M98 R99 J100 hS.2.1 a0 hz_a0 hk_a0 13 (iv_mono (iv_c (c := 13) (n := 13) (by decide)) (by decide) (by decide)) 0 (iv_mono (iv_c (c := 0) (n := 0) (by decide)) (by decide) (by decide))) s_X8_54 ⟨rfl, rfl, ⟨by simp only [md_rm]; omega, by simp only [md_rm]; omega⟩, ⟨Nat.le_of_ble_eq_true rfl, Nat.le_of_ble_eq_true rfl⟩⟩ hz_a0 hk_a0 (by decide) rfl rfl hl.1 rfl (Nat.le_of_ble_eq_true rfl) dX8_test_107) rfl rfl (fun x110 H locs M106 R107 J108 hS f104 g105 E109 => ?_)
                have h_x110 := E109
                refine lv_istore_n (lv' := [(2, .int x110), (3, .int 1), (5, .int x69), (4, .int x19), (0, .ref (base + a0)), (1, .int a1)]) hx hb dX8_test_110 rfl hl (by decide) rfl (fun ls hl => ?_)
                refine lv_aload_n hx hb dX8_test_111 rfl (lv_at hl 4 rfl) ?_
                refine lv_iload_n hx hb dX8_test_112 rfl (lv_at hl 5 rfl) ?_
                have k111 : R107 a0 0 = some tb := ((Fr.kp (k := 0) g105 hk_a0 rfl).trans ((Fr.kp (k := 0) g97 hk_a0 rfl).trans ((Fr.kp (k := 0) g79 hk_a0 rfl).trans ((Fr.kp (k := 0) g64 hk_a0 rfl).trans ((Fr.kp (k := 0) g49 hk_a0 rfl).trans (Fr.kp (k := 0) g24 hk_a0 rfl)))))).trans k_tb
                have k112 : M106 a0 1 = ln := ((Fr.kp (k := 1) f104 hk_a0 rfl).trans ((Fr.kp (k := 1) f96 hk_a0 rfl).trans ((Fr.kp (k := 1) f78 hk_a0 rfl).trans ((Fr.kp (k := 1) f63 hk_a0 rfl).trans ((Fr.kp (k := 1) f48 hk_a0 rfl).trans (Fr.kp (k := 1) f23 hk_a0 rfl)))))).trans k_ln
                have k113 : M106 a0 2 = x72 := (Fr.kp (k := 2) f104 hk_a0 rfl).trans k103
                have h114 : iv 0 400 x72 := by
                  have := (h_a1).1; have := (h_a1).2; have := (h_fa).1; have := (h_fa).2; have := (h_ln).1; have := (h_ln).2; have := (h_pa).1; have := (h_pa).2; have := (h10).1; have := (h10).2; have := (h12).1; have := (h12).2; have := (h_x25).1; have := (h_x25).2; have := (h39).1; have := (h39).2; have := (h60).1; have := (h60).2; have := (h75).1; have := (h75).2; exact ⟨by omega, by omega⟩
                have k115 : M106 a0 3 = x27 := ((Fr.kp (k := 3) f104 hk_a0 rfl).trans ((Fr.kp (k := 3) f96 hk_a0 rfl).trans ((Fr.kp (k := 3) f78 hk_a0 rfl).trans ((Fr.kp (k := 3) f63 hk_a0 rfl).trans (Fr.kp (k := 3) f48 hk_a0 rfl))))).trans k28
                have q116 : x72.toInt ≤ ln.toInt := by
                  have := (h_a1).1; have := (h_a1).2; have := (h_fa).1; have := (h_fa).2; have := (h_ln).1; have := (h_ln).2; have := (h_pa).1; have := (h_pa).2; have := (h10).1; have := (h10).2; have := (h12).1; have := (h12).2; have := (h_x25).1; have := (h_x25).2; have := (h39).1; have := (h39).2; have := (h60).1; have := (h60).2; have := (h75).1; have := (h75).2; omega
                have hm117 : 10 - a1.toInt < (d : Int) := by
                  have := (h_a1).1; have := (h_a1).2; have := (h_fa).1; have := (h_fa).2; have := (h_ln).1; have := (h_ln).2; have := (h_pa).1; have := (h_pa).2; have := (h10).1; have := (h10).2; have := (h12).1; have := (h12).2; have := (h_x25).1; have := (h_x25).2; have := (h39).1; have := (h39).2; have := (h60).1; have := (h60).2; have := (h75).1; have := (h75).2; omega
                refine tw_gov hS (md_runV (As := [.int a1]) (rest := []) hx hb hml hown hW hK hT hS.1 (ih M106 R107 J108 hS.2.1 a0 hz_a0 hk_a0 a1 h_a1 tb k111 ln k112 (iv_mono h_ln (by decide) (by decide)) x72 k113 h114 x27 k115 (iv_mono h39 (by decide) (by decide)) q116 hm117) s_X8_75 ⟨rfl, rfl, ⟨by simp only [md_rm]; omega, by simp only [md_rm]; omega⟩, ⟨Nat.le_of_ble_eq_true rfl, Nat.le_of_ble_eq_true rfl⟩⟩ hz_a0 hk_a0 (by decide) rfl rfl hl.1 rfl (Nat.le_of_ble_eq_true rfl) dX8_test_113) rfl rfl (fun H locs M120 R121 J122 hS f118 g119 E123 => ?_)
                have p124 := E123
                obtain ⟨x126, x128, k129, k130, h125, h127, q131⟩ := p124
                have k129 : M120 a0 2 = x126 := k129
                have k130 : M120 a0 3 = x128 := k130
                refine tw_iinc (lv' := fun x134 => [(4, .int x134), (2, .int x110), (3, .int 1), (5, .int x69), (0, .ref (base + a0)), (1, .int a1)]) (lo := 1) (hi := 400) hx hb dX8_test_116 hl (k := 3) rfl h45 (by decide) ⟨by decide, by decide⟩ ⟨by decide, by decide⟩ (by decide) (fun _ => rfl) (fun x134 ls e133 h132 hl => ?_)
                refine lv_goto (tgt := 12) hx hb dX8_test_119 (by decide) ?_
                have w135 : x126.toInt ≤ 420 - a1.toInt ∧ (¬ x128.toInt = 0 ∨ x126.toInt ≤ ln.toInt) := by
                  have := (h_a1).1; have := (h_a1).2; have := (h_fa).1; have := (h_fa).2; have := (h_ln).1; have := (h_ln).2; have := (h_pa).1; have := (h_pa).2; have := (h10).1; have := (h10).2; have := (h125).1; have := (h125).2; have := (h127).1; have := (h127).2; have := (h12).1; have := (h12).2; have := (h_x25).1; have := (h_x25).2; have := (h39).1; have := (h39).2; have := (h60).1; have := (h60).2; have := (h75).1; have := (h75).2; omega
                have hm136 : 400 - x134.toInt < (n_20 : Int) := by
                  have := (h_a1).1; have := (h_a1).2; have := (h_fa).1; have := (h_fa).2; have := (h_ln).1; have := (h_ln).2; have := (h_pa).1; have := (h_pa).2; have := (h132).1; have := (h132).2; have := (h45).1; have := (h45).2; omega
                exact ih_20 x110 1 x134 x126 x128 M120 R121 J122 H locs _ h_x110 (iv_mono (iv_c (c := 1) (n := 1) (by decide)) (by decide) (by decide)) (iv_mono h132 (by decide) (by decide)) h125 k129 h127 k130 w135 hm136 hS (lv_sub hl [1, 2, 0, 4, 5] rfl)
            · have q137 : x69.toInt = 0 := ti_eq c76
              have h138 : iv 0 0 x69 := ⟨by have := (h_x69).1; have := ((iv_c (c := 0) (n := 0) (by decide))).1; omega, by have := (h_x69).2; have := ((iv_c (c := 0) (n := 0) (by decide))).2; omega⟩
              refine lv_aload_n hx hb dX8_test_49 rfl (lv_at hl 4 rfl) ?_
              refine tw_gov hS (md_runU (As := []) (rest := []) hx hb hml hown hW hK hT hS.1 (t_X10_passWord l D cy tx base Z K N M65 R66 J67 hS.2.1 a0 hz_a0 hk_a0 x72 k73 (iv_mono h75 (by decide) (by decide))) s_X8_43_X8 ⟨rfl, rfl, ⟨by simp only [md_rm]; omega, by simp only [md_rm]; omega⟩, ⟨Nat.le_of_ble_eq_true rfl, Nat.le_of_ble_eq_true rfl⟩⟩ hz_a0 hk_a0 (by decide) rfl rfl hl.1 rfl (Nat.le_of_ble_eq_true rfl) dX8_test_50) rfl rfl (fun H locs M141 R142 J143 hS f139 g140 E144 => ?_)
              have p145 := E144
              have k146 : M141 a0 2 = x72 := p145
              refine lv_aload_n hx hb dX8_test_53 rfl (lv_at hl 4 rfl) ?_
              refine lv_bipush (v := 12) hx hb dX8_test_54 (by decide) ?_
              refine lv_iconst (v := 0) hx hb dX8_test_56 (by decide) ?_
              refine tw_goi hS (md_runV (As := [.int 12, .int 0]) (rest := []) hx hb hml hown hW hK hT hS.1 (t_X8_put l D cy tx base Z K N M141 R142 J143 hS.2.1 a0 hz_a0 hk_a0 12 (iv_mono (iv_c (c := 12) (n := 12) (by decide)) (by decide) (by decide)) 0 (iv_mono (iv_c (c := 0) (n := 0) (by decide)) (by decide) (by decide))) s_X8_54 ⟨rfl, rfl, ⟨by simp only [md_rm]; omega, by simp only [md_rm]; omega⟩, ⟨Nat.le_of_ble_eq_true rfl, Nat.le_of_ble_eq_true rfl⟩⟩ hz_a0 hk_a0 (by decide) rfl rfl hl.1 rfl (Nat.le_of_ble_eq_true rfl) dX8_test_57) rfl rfl (fun x153 H locs M149 R150 J151 hS f147 g148 E152 => ?_)
              have h_x153 := E152
              refine lv_istore (lv' := [(6, .int x153), (5, .int x69), (2, .int x17), (3, .int x18), (4, .int x19), (0, .ref (base + a0)), (1, .int a1)]) hx hb dX8_test_60 hl (by decide) rfl (fun ls hl => ?_)
              refine lv_aload_n hx hb dX8_test_62 rfl (lv_at hl 5 rfl) ?_
              refine lv_iload_n hx hb dX8_test_63 rfl (lv_at hl 6 rfl) ?_
              have k154 : R150 a0 0 = some tb := ((Fr.kp (k := 0) g148 hk_a0 rfl).trans ((Fr.kp (k := 0) g140 hk_a0 rfl).trans ((Fr.kp (k := 0) g64 hk_a0 rfl).trans ((Fr.kp (k := 0) g49 hk_a0 rfl).trans (Fr.kp (k := 0) g24 hk_a0 rfl))))).trans k_tb
              have k155 : M149 a0 1 = ln := ((Fr.kp (k := 1) f147 hk_a0 rfl).trans ((Fr.kp (k := 1) f139 hk_a0 rfl).trans ((Fr.kp (k := 1) f63 hk_a0 rfl).trans ((Fr.kp (k := 1) f48 hk_a0 rfl).trans (Fr.kp (k := 1) f23 hk_a0 rfl))))).trans k_ln
              have k156 : M149 a0 2 = x72 := (Fr.kp (k := 2) f147 hk_a0 rfl).trans k146
              have h157 : iv 0 400 x72 := by
                have := (h_a1).1; have := (h_a1).2; have := (h_fa).1; have := (h_fa).2; have := (h_ln).1; have := (h_ln).2; have := (h_pa).1; have := (h_pa).2; have := (h10).1; have := (h10).2; have := (h12).1; have := (h12).2; have := (h_x25).1; have := (h_x25).2; have := (h39).1; have := (h39).2; have := (h60).1; have := (h60).2; have := (h75).1; have := (h75).2; exact ⟨by omega, by omega⟩
              have k158 : M149 a0 3 = x27 := ((Fr.kp (k := 3) f147 hk_a0 rfl).trans ((Fr.kp (k := 3) f139 hk_a0 rfl).trans ((Fr.kp (k := 3) f63 hk_a0 rfl).trans (Fr.kp (k := 3) f48 hk_a0 rfl)))).trans k28
              have q159 : x72.toInt ≤ ln.toInt := by
                have := (h_a1).1; have := (h_a1).2; have := (h_fa).1; have := (h_fa).2; have := (h_ln).1; have := (h_ln).2; have := (h_pa).1; have := (h_pa).2; have := (h10).1; have := (h10).2; have := (h12).1; have := (h12).2; have := (h_x25).1; have := (h_x25).2; have := (h39).1; have := (h39).2; have := (h60).1; have := (h60).2; have := (h75).1; have := (h75).2; omega
              have hm160 : 10 - a1.toInt < (d : Int) := by
                have := (h_a1).1; have := (h_a1).2; have := (h_fa).1; have := (h_fa).2; have := (h_ln).1; have := (h_ln).2; have := (h_pa).1; have := (h_pa).2; have := (h10).1; have := (h10).2; have := (h12).1; have := (h12).2; have := (h_x25).1; have := (h_x25).2; have := (h39).1; have := (h39).2; have := (h60).1; have := (h60).2; have := (h75).1; have := (h75).2; omega
              refine tw_gov hS (md_runV (As := [.int a1]) (rest := []) hx hb hml hown hW hK hT hS.1 (ih M149 R150 J151 hS.2.1 a0 hz_a0 hk_a0 a1 h_a1 tb k154 ln k155 (iv_mono h_ln (by decide) (by decide)) x72 k156 h157 x27 k158 (iv_mono h39 (by decide) (by decide)) q159 hm160) s_X8_75 ⟨rfl, rfl, ⟨by simp only [md_rm]; omega, by simp only [md_rm]; omega⟩, ⟨Nat.le_of_ble_eq_true rfl, Nat.le_of_ble_eq_true rfl⟩⟩ hz_a0 hk_a0 (by decide) rfl rfl hl.1 rfl (Nat.le_of_ble_eq_true rfl) dX8_test_64) rfl rfl (fun H locs M163 R164 J165 hS f161 g162 E166 => ?_)
              have p167 := E166
              obtain ⟨x169, x171, k172, k173, h168, h170, q174⟩ := p167
              have k172 : M163 a0 2 = x169 := k172
              have k173 : M163 a0 3 = x171 := k173
              refine lv_aload_n hx hb dX8_test_67 rfl (lv_at hl 5 rfl) ?_
              refine lv_iload hx hb dX8_test_68 (lv_at hl 0 rfl) ?_
              refine tw_gov hS (md_runV (As := [.int x153]) (rest := []) hx hb hml hown hW hK hT hS.1 (t_X8_aim l D cy tx base Z K N M163 R164 J165 hS.2.1 a0 hz_a0 hk_a0 x153 h_x153) s_X8_58 ⟨rfl, rfl, ⟨by simp only [md_rm]; omega, by simp only [md_rm]; omega⟩, ⟨Nat.le_of_ble_eq_true rfl, Nat.le_of_ble_eq_true rfl⟩⟩ hz_a0 hk_a0 (by decide) rfl rfl hl.1 rfl (Nat.le_of_ble_eq_true rfl) dX8_test_70) rfl rfl (fun H locs M177 R178 J179 hS f175 g176 E180 => ?_)
              refine lv_goto (tgt := 116) hx hb dX8_test_73 (by decide) ?_
              refine tw_iinc (lv' := fun x183 => [(4, .int x183), (6, .int x153), (5, .int x69), (2, .int x17), (3, .int x18), (0, .ref (base + a0)), (1, .int a1)]) (lo := 1) (hi := 400) hx hb dX8_test_116 hl (k := 4) rfl h45 (by decide) ⟨by decide, by decide⟩ ⟨by decide, by decide⟩ (by decide) (fun _ => rfl) (fun x183 ls e182 h181 hl => ?_)
              refine lv_goto (tgt := 12) hx hb dX8_test_119 (by decide) ?_
              have k184 : M177 a0 2 = x169 := (Fr.kp (k := 2) f175 hk_a0 rfl).trans k172
              have k185 : M177 a0 3 = x171 := (Fr.kp (k := 3) f175 hk_a0 rfl).trans k173
              have w186 : x169.toInt ≤ 420 - a1.toInt ∧ (¬ x171.toInt = 0 ∨ x169.toInt ≤ ln.toInt) := by
                have := (h_a1).1; have := (h_a1).2; have := (h_fa).1; have := (h_fa).2; have := (h_ln).1; have := (h_ln).2; have := (h_pa).1; have := (h_pa).2; have := (h10).1; have := (h10).2; have := (h12).1; have := (h12).2; have := (h168).1; have := (h168).2; have := (h170).1; have := (h170).2; have := (h_x25).1; have := (h_x25).2; have := (h39).1; have := (h39).2; have := (h60).1; have := (h60).2; have := (h75).1; have := (h75).2; omega
              have hm187 : 400 - x183.toInt < (n_20 : Int) := by
                have := (h_a1).1; have := (h_a1).2; have := (h_fa).1; have := (h_fa).2; have := (h_ln).1; have := (h_ln).2; have := (h_pa).1; have := (h_pa).2; have := (h181).1; have := (h181).2; have := (h45).1; have := (h45).2; omega
              exact ih_20 x17 x18 x183 x169 x171 M177 R178 J179 H locs _ h_x17 (iv_mono h34 (by decide) (by decide)) (iv_mono h181 (by decide) (by decide)) h168 k184 h170 k185 w186 hm187 hS (lv_sub hl [3, 4, 0, 5, 6] rfl)
  have w188 : x11.toInt ≤ 420 - a1.toInt ∧ (¬ x13.toInt = 0 ∨ x11.toInt ≤ ln.toInt) := by
    have := (h_a1).1; have := (h_a1).2; have := (h_fa).1; have := (h_fa).2; have := (h_ln).1; have := (h_ln).2; have := (h_pa).1; have := (h_pa).2; have := (h10).1; have := (h10).2; have := (h12).1; have := (h12).2; omega
  have hm189 : 400 - (0 : Int32).toInt < (((401 : Nat) : Int) : Int) := by
    have := (h_a1).1; have := (h_a1).2; have := (h_fa).1; have := (h_fa).2; have := (h_ln).1; have := (h_ln).2; have := (h_pa).1; have := (h_pa).2; have : (0 : Int32).toInt = 0 := (by decide); omega
  exact W12_20 401 (-1) 1 0 x11 x13 M5 R6 J7 H locs _ (iv_mono (iv_c (c := (-1)) (n := (-1)) (by decide)) (by decide) (by decide)) (iv_mono (iv_c (c := 1) (n := 1) (by decide)) (by decide) (by decide)) (iv_mono (iv_c (c := 0) (n := 0) (by decide)) (by decide) (by decide)) h10 k14 h12 k15 w188 hm189 hS (lv_sub hl [2, 1, 0, 3, 4] rfl)
def Lt_X8_weigh : WL := [(9, 3, 4), (9, 7, 8)]
def LRt_X8_weigh : WL := []
set_option maxRecDepth 100000 in
set_option maxHeartbeats 4000000 in
theorem t_X8_weigh (l : Launch) (D : va_G) (cy : Nat → ClassId) (tx : (Nat → Nat) × (Nat → Nat)) (base Z : Nat) (K N : Nat → Nat) (Ma : MT) (Ra : RT) (Ja : JT) (hTy : Ty Z K N Ma Ra) (a0 : Nat) (hz_a0 : a0 < Z) (hk_a0 : K a0 = 9) (a1 : Int32) (h_a1 : iv 0 1000 a1) (fa : Int32) (k_fa : Ma a0 3 = fa) (h_fa : iv (-2147483648) 2147483647 fa) : Met l yX8_weigh [Cond.code yX8_weigh cX8_weigh 2 none] (md_rm 2 0 0) (va_Pc [.ref (base + a0), .int a1] (md_U D cy tx base Z K N Ma Ra Ja)) (mQv D cy tx base (fun u => TP Z K N Lt_X8_weigh LRt_X8_weigh Ma Ra u ∧ ((∃ x0 : Int32, u.2.2.2.1 a0 3 = x0 ∧ iv (-2147483648) 2147483647 x0 ∧ (¬ x0.toInt = 0 ∨ fa.toInt = 0))))) 0 0 (fun q => base ≤ q) := by
  refine tw_ofW (L := Lt_X8_weigh) (LR := LRt_X8_weigh) (by decide) (Nat.le_of_ble_eq_true rfl) hTy ?_
  intro p e s m args below meth c Q ls hx hb hr hlocks hown hml hW hK hT hS hQ hl
  have hl : lv_has ls 2 [(0, .ref (base + a0)), (1, .int a1)] := hl
  refine lv_aload_n hx hb dX8_weigh_0 rfl (lv_at hl 0 rfl) ?_
  refine lv_dup hx hb dX8_weigh_1 rfl ?_
  refine tw_geti hx hb hW hown hK hS f_X8_23_8 hz_a0 hk_a0 (lo := (-2147483648)) (hi := 2147483647) rfl dX8_weigh_2 (fun x3 k2 h1 => ?_)
  refine lv_iconst (v := 1) hx hb dX8_weigh_5 (by decide) ?_
  refine lv_iadd hx hb dX8_weigh_6 ?_
  refine tw_top (fun x5 => ?_)
  have h4 := iv_any x5
  refine tw_puti hx hb hW hown hK hS f_X8_23_8 hz_a0 hk_a0 rfl rfl (lo := (-2147483648)) (hi := 2147483647) rfl h4 rfl dX8_weigh_7 (fun H locs M8 hS k6 f7 => ?_)
  refine lv_aload_n hx hb dX8_weigh_10 rfl (lv_at hl 0 rfl) ?_
  refine tw_getk hx hb hW hown hK hS f_X8_23_8 hz_a0 hk_a0 (v := x5) k6 dX8_weigh_11 ?_
  refine lv_bipush (v := 60) hx hb dX8_weigh_14 (by decide) ?_
  refine lv_icmp_le (tgt := 25) hx hb dX8_weigh_16 (by decide) (fun c9 => ?_) (fun c9 => ?_)
  · have q10 : x5.toInt ≤ 60 := ti_le c9
    have h11 : iv (-2147483648) 60 x5 := iv_leL (y := 60) h4 (iv_c (c := 60) (n := 60) (by decide)) q10 (by decide)
    have k12 : M8 a0 3 = fa := (Fr.kp (k := 3) f7 hk_a0 rfl).trans k_fa
    have q13 : ¬ fa.toInt = 0 ∨ fa.toInt = 0 := by
      have := (h_a1).1; have := (h_a1).2; have := (h_fa).1; have := (h_fa).2; omega
    exact tw_endv hx hb hr hlocks hK hT hS hQ (⟨fa, k12, h_fa, q13⟩) dX8_weigh_25
  · have q14 : 60 < x5.toInt := ti_nle c9
    have h15 : iv 61 2147483647 x5 := iv_gtL (y := 60) h4 (iv_c (c := 60) (n := 60) (by decide)) q14 (by decide)
    refine lv_aload_n hx hb dX8_weigh_19 rfl (lv_at hl 0 rfl) ?_
    refine lv_iload_n hx hb dX8_weigh_20 rfl (lv_at hl 1 rfl) ?_
    refine lv_iconst (v := 3) hx hb dX8_weigh_21 (by decide) ?_
    refine tw_gov hS (md_runU (As := [.int a1, .int 3]) (rest := []) hx hb hml hown hW hK hT hS.1 (t_X10_fail l D cy tx base Z K N M8 Ra Ja hS.2.1 a0 hz_a0 hk_a0 a1 h_a1 3 (iv_mono (iv_c (c := 3) (n := 3) (by decide)) (by decide) (by decide))) s_X8_39_X8 ⟨rfl, rfl, ⟨Nat.le_of_ble_eq_true rfl, Nat.le_of_ble_eq_true rfl⟩, ⟨Nat.le_of_ble_eq_true rfl, Nat.le_of_ble_eq_true rfl⟩⟩ hz_a0 hk_a0 (by decide) rfl rfl hl.1 rfl (Nat.le_of_ble_eq_true rfl) dX8_weigh_22) rfl rfl (fun H locs M18 R19 J20 hS f16 g17 E21 => ?_)
    have p22 := E21
    obtain ⟨x24, k25, h23, q26⟩ := p22
    have k25 : M18 a0 3 = x24 := k25
    have q27 : ¬ x24.toInt = 0 ∨ fa.toInt = 0 := by
      have := (h_a1).1; have := (h_a1).2; have := (h_fa).1; have := (h_fa).2; have := (h23).1; have := (h23).2; omega
    exact tw_endv hx hb hr hlocks hK hT hS hQ (⟨x24, k25, h23, q27⟩) dX8_weigh_25
def Lt_X8_sign : WL := [(9, 2, 4), (9, 7, 8)]
def LRt_X8_sign : WL := []
set_option maxRecDepth 100000 in
set_option maxHeartbeats 4000000 in
theorem t_X8_sign (l : Launch) (D : va_G) (cy : Nat → ClassId) (tx : (Nat → Nat) × (Nat → Nat)) (base Z : Nat) (K N : Nat → Nat) (Ma : MT) (Ra : RT) (Ja : JT) (hTy : Ty Z K N Ma Ra) (a0 : Nat) (hz_a0 : a0 < Z) (hk_a0 : K a0 = 9) (tb : Nat) (k_tb : Ra a0 0 = some tb) (ln : Int32) (k_ln : Ma a0 1 = ln) (h_ln : iv 0 400 ln) (pa : Int32) (k_pa : Ma a0 2 = pa) (h_pa : iv 0 420 pa) (fa : Int32) (k_fa : Ma a0 3 = fa) (h_fa : iv (-2147483648) 2147483647 fa) (hg : ¬ fa.toInt = 0 ∨ pa.toInt ≤ ln.toInt) : Met l yX8_sign [Cond.code yX8_sign cX8_sign 6 (some .int)] (md_rm 3 0 0) (va_Pc [.ref (base + a0)] (md_U D cy tx base Z K N Ma Ra Ja)) (mQi D cy tx base (fun r u => TP Z K N Lt_X8_sign LRt_X8_sign Ma Ra u ∧ (iv 6 10 r ∧ (∃ x0 x1 : Int32, u.2.2.2.1 a0 2 = x0 ∧ u.2.2.2.1 a0 3 = x1 ∧ iv 0 421 x0 ∧ iv (-2147483648) 2147483647 x1 ∧ ((x0.toInt ≤ ln.toInt + 1 ∨ x0.toInt ≤ pa.toInt + 1) ∧ (¬ x1.toInt = 0 ∨ x0.toInt ≤ ln.toInt) ∧ (¬ x1.toInt = 0 ∨ fa.toInt = 0)))))) 0 0 (fun q => base ≤ q) := by
  refine tw_ofW (L := Lt_X8_sign) (LR := LRt_X8_sign) (by decide) (Nat.le_of_ble_eq_true rfl) hTy ?_
  intro p e s m args below meth c Q ls hx hb hr hlocks hown hml hW hK hT hS hQ hl
  have hl : lv_has ls 6 [(0, .ref (base + a0))] := hl
  obtain ⟨hz_tb, hk_tb, hn_tb⟩ := hTy.refn hz_a0 hk_a0 (show rtR 9 0 = (13, 400, 1) from rfl) k_tb
  have hn_tb := hn_tb (by decide)
  refine lv_aload_n hx hb dX8_sign_0 rfl (lv_at hl 0 rfl) ?_
  refine tw_goi hS (md_runU (As := []) (rest := []) hx hb hml hown hW hK hT hS.1 (t_X10_hereBehindBlanks l D cy tx base Z K N Ma Ra Ja hS.2.1 a0 hz_a0 hk_a0 tb k_tb ln k_ln (iv_mono h_ln (by decide) (by decide)) pa k_pa (iv_mono h_pa (by decide) (by decide))) s_X8_26_X8 ⟨rfl, rfl, ⟨Nat.le_of_ble_eq_true rfl, Nat.le_of_ble_eq_true rfl⟩, ⟨Nat.le_of_ble_eq_true rfl, Nat.le_of_ble_eq_true rfl⟩⟩ hz_a0 hk_a0 (by decide) rfl rfl hl.1 rfl (Nat.le_of_ble_eq_true rfl) dX8_sign_1) rfl rfl (fun x7 H locs M3 R4 J5 hS f1 g2 E6 => ?_)
  obtain ⟨h_x7, p8⟩ := E6
  obtain ⟨x10, k11, h9, q12⟩ := p8
  have k11 : M3 a0 2 = x10 := k11
  have h13 : iv 0 420 x10 := by
    have := (h_fa).1; have := (h_fa).2; have := (h_ln).1; have := (h_ln).2; have := (h_pa).1; have := (h_pa).2; have := (h9).1; have := (h9).2; exact ⟨by omega, by omega⟩
  refine lv_istore_n (lv' := [(1, .int x7), (0, .ref (base + a0))]) hx hb dX8_sign_4 rfl hl (by decide) rfl (fun ls hl => ?_)
  refine lv_aload_n hx hb dX8_sign_5 rfl (lv_at hl 1 rfl) ?_
  refine tw_getk hx hb hW hown hK hS f_X8_36_8 hz_a0 hk_a0 (v := x10) k11 dX8_sign_6 ?_
  refine lv_istore_n (lv' := [(2, .int x10), (1, .int x7), (0, .ref (base + a0))]) hx hb dX8_sign_9 rfl hl (by decide) rfl (fun ls hl => ?_)
  refine lv_iload_n hx hb dX8_sign_10 rfl (lv_at hl 1 rfl) ?_
  refine lv_bipush (v := 60) hx hb dX8_sign_11 (by decide) ?_
  refine lv_icmp_ne (tgt := 20) hx hb dX8_sign_13 (by decide) (fun c14 => ?_) (fun c14 => ?_)
  · have q15 : ¬ x7.toInt = 60 := ti_ne c14
    refine lv_iconst (v := 0) hx hb dX8_sign_20 (by decide) ?_
    refine lv_istore_n (lv' := [(3, .int 0), (2, .int x10), (1, .int x7), (0, .ref (base + a0))]) hx hb dX8_sign_21 rfl hl (by decide) rfl (fun ls hl => ?_)
    refine lv_iload_n hx hb dX8_sign_22 rfl (lv_at hl 2 rfl) ?_
    refine lv_bipush (v := 62) hx hb dX8_sign_23 (by decide) ?_
    refine lv_icmp_ne (tgt := 32) hx hb dX8_sign_25 (by decide) (fun c16 => ?_) (fun c16 => ?_)
    · have q17 : ¬ x7.toInt = 62 := ti_ne c16
      refine lv_iconst (v := 0) hx hb dX8_sign_32 (by decide) ?_
      refine lv_istore (lv' := [(4, .int 0), (3, .int 0), (2, .int x10), (1, .int x7), (0, .ref (base + a0))]) hx hb dX8_sign_33 hl (by decide) rfl (fun ls hl => ?_)
      refine lv_iload_n hx hb dX8_sign_35 rfl (lv_at hl 1 rfl) ?_
      refine lv_if_ne (tgt := 59) hx hb dX8_sign_36 (by decide) (fun h => absurd h (by decide)) (fun _ => ?_)
      refine lv_iload hx hb dX8_sign_39 (lv_at hl 0 rfl) ?_
      refine lv_if_ne (tgt := 59) hx hb dX8_sign_41 (by decide) (fun h => absurd h (by decide)) (fun _ => ?_)
      refine lv_iload_n hx hb dX8_sign_44 rfl (lv_at hl 3 rfl) ?_
      refine lv_bipush (v := 61) hx hb dX8_sign_45 (by decide) ?_
      refine lv_icmp_eq (tgt := 59) hx hb dX8_sign_47 (by decide) (fun c18 => ?_) (fun c18 => ?_)
      · have q19 : x7.toInt = 61 := ti_eq c18
        have h20 : iv 61 61 x7 := ⟨by have := (h_x7).1; have := ((iv_c (c := 61) (n := 61) (by decide))).1; omega, by have := (h_x7).2; have := ((iv_c (c := 61) (n := 61) (by decide))).2; omega⟩
        refine lv_aload_n hx hb dX8_sign_59 rfl (lv_at hl 4 rfl) ?_
        refine lv_iload_n hx hb dX8_sign_60 rfl (lv_at hl 2 rfl) ?_
        have k21 : M3 a0 3 = fa := (Fr.kp (k := 3) f1 hk_a0 rfl).trans k_fa
        refine tw_gov hS (md_runV (As := [.int x10]) (rest := []) hx hb hml hown hW hK hT hS.1 (t_X8_weigh l D cy tx base Z K N M3 R4 J5 hS.2.1 a0 hz_a0 hk_a0 x10 (iv_mono h13 (by decide) (by decide)) fa k21 (iv_mono h_fa (by decide) (by decide))) s_X8_88 ⟨rfl, rfl, ⟨Nat.le_of_ble_eq_true rfl, Nat.le_of_ble_eq_true rfl⟩, ⟨Nat.le_of_ble_eq_true rfl, Nat.le_of_ble_eq_true rfl⟩⟩ hz_a0 hk_a0 (by decide) rfl rfl hl.1 rfl (Nat.le_of_ble_eq_true rfl) dX8_sign_61) rfl rfl (fun H locs M24 R25 J26 hS f22 g23 E27 => ?_)
        have p28 := E27
        obtain ⟨x30, k31, h29, q32⟩ := p28
        have k31 : M24 a0 3 = x30 := k31
        refine lv_aload_n hx hb dX8_sign_64 rfl (lv_at hl 4 rfl) ?_
        refine lv_dup hx hb dX8_sign_65 rfl ?_
        have k33 : M24 a0 2 = x10 := (Fr.kp (k := 2) f22 hk_a0 rfl).trans k11
        refine tw_getk hx hb hW hown hK hS f_X8_36_8 hz_a0 hk_a0 (v := x10) k33 dX8_sign_66 ?_
        refine lv_iconst (v := 1) hx hb dX8_sign_69 (by decide) ?_
        refine tw_iadd (lo := 1) (hi := 421) hx hb h13 (iv_c (c := 1) (n := 1) (by decide)) ⟨by decide, by decide⟩ ⟨by decide, by decide⟩ dX8_sign_70 (fun x36 e35 h34 => ?_)
        have e35 : x36.toInt = x10.toInt + 1 := e35
        refine tw_puti hx hb hW hown hK hS f_X8_36_8 hz_a0 hk_a0 rfl rfl (lo := 0) (hi := 1000) rfl (iv_mono h34 (by decide) (by decide)) rfl dX8_sign_71 (fun H locs M39 hS k37 f38 => ?_)
        refine lv_iload_n hx hb dX8_sign_74 rfl (lv_at hl 1 rfl) ?_
        refine lv_if_ne (tgt := 83) hx hb dX8_sign_75 (by decide) (fun h => absurd h (by decide)) (fun _ => ?_)
        refine lv_iload hx hb dX8_sign_78 (lv_at hl 0 rfl) ?_
        refine lv_if_eq (tgt := 96) hx hb dX8_sign_80 (by decide) (fun _ => ?_) (fun h => absurd h (by decide))
        refine lv_iconst (v := 0) hx hb dX8_sign_96 (by decide) ?_
        refine lv_istore (lv' := [(5, .int 0), (4, .int 0), (3, .int 0), (2, .int x10), (1, .int x7), (0, .ref (base + a0))]) hx hb dX8_sign_97 hl (by decide) rfl (fun ls hl => ?_)
        refine lv_iload hx hb dX8_sign_99 (lv_at hl 0 rfl) ?_
        refine lv_if_eq (tgt := 126) hx hb dX8_sign_101 (by decide) (fun _ => ?_) (fun h => absurd h (by decide))
        refine lv_iload_n hx hb dX8_sign_126 rfl (lv_at hl 2 rfl) ?_
        refine lv_if_eq (tgt := 135) hx hb dX8_sign_127 (by decide) (fun _ => ?_) (fun h => absurd h (by decide))
        refine lv_iload hx hb dX8_sign_135 (lv_at hl 1 rfl) ?_
        refine lv_if_eq (tgt := 145) hx hb dX8_sign_137 (by decide) (fun _ => ?_) (fun h => absurd h (by decide))
        refine lv_bipush (v := 8) hx hb dX8_sign_145 (by decide) ?_
        have k40 : M39 a0 3 = x30 := (Fr.kp (k := 3) f38 hk_a0 rfl).trans k31
        have q41 : (x36.toInt ≤ ln.toInt + 1 ∨ x36.toInt ≤ pa.toInt + 1) ∧ (¬ x30.toInt = 0 ∨ x36.toInt ≤ ln.toInt) ∧ (¬ x30.toInt = 0 ∨ fa.toInt = 0) := by
          have := (h_fa).1; have := (h_fa).2; have := (h_ln).1; have := (h_ln).2; have := (h_pa).1; have := (h_pa).2; have := (h13).1; have := (h13).2; have := (h29).1; have := (h29).2; have := (h34).1; have := (h34).2; omega
        exact tw_endi hx hb hr hlocks hK hT hS hQ (⟨(iv_mono (iv_c (c := 8) (n := 8) (by decide)) (by decide) (by decide)), ⟨x36, x30, k37, k40, (iv_mono h34 (by decide) (by decide)), h29, q41⟩⟩) dX8_sign_147
      · have q42 : ¬ x7.toInt = 61 := ti_ne c18
        refine lv_aload_n hx hb dX8_sign_50 rfl (lv_at hl 4 rfl) ?_
        refine lv_aload_n hx hb dX8_sign_51 rfl (lv_at hl 4 rfl) ?_
        refine tw_getk hx hb hW hown hK hS f_X8_36_8 hz_a0 hk_a0 (v := x10) k11 dX8_sign_52 ?_
        refine lv_iconst (v := 0) hx hb dX8_sign_55 (by decide) ?_
        refine tw_gov hS (md_runU (As := [.int x10, .int 0]) (rest := []) hx hb hml hown hW hK hT hS.1 (t_X10_fail l D cy tx base Z K N M3 R4 J5 hS.2.1 a0 hz_a0 hk_a0 x10 (iv_mono h13 (by decide) (by decide)) 0 (iv_mono (iv_c (c := 0) (n := 0) (by decide)) (by decide) (by decide))) s_X8_39_X8 ⟨rfl, rfl, ⟨Nat.le_of_ble_eq_true rfl, Nat.le_of_ble_eq_true rfl⟩, ⟨Nat.le_of_ble_eq_true rfl, Nat.le_of_ble_eq_true rfl⟩⟩ hz_a0 hk_a0 (by decide) rfl rfl hl.1 rfl (Nat.le_of_ble_eq_true rfl) dX8_sign_56) rfl rfl (fun H locs M45 R46 J47 hS f43 g44 E48 => ?_)
        have p49 := E48
        obtain ⟨x51, k52, h50, q53⟩ := p49
        have k52 : M45 a0 3 = x51 := k52
        refine lv_aload_n hx hb dX8_sign_59 rfl (lv_at hl 4 rfl) ?_
        refine lv_iload_n hx hb dX8_sign_60 rfl (lv_at hl 2 rfl) ?_
        refine tw_gov hS (md_runV (As := [.int x10]) (rest := []) hx hb hml hown hW hK hT hS.1 (t_X8_weigh l D cy tx base Z K N M45 R46 J47 hS.2.1 a0 hz_a0 hk_a0 x10 (iv_mono h13 (by decide) (by decide)) x51 k52 (iv_mono h50 (by decide) (by decide))) s_X8_88 ⟨rfl, rfl, ⟨Nat.le_of_ble_eq_true rfl, Nat.le_of_ble_eq_true rfl⟩, ⟨Nat.le_of_ble_eq_true rfl, Nat.le_of_ble_eq_true rfl⟩⟩ hz_a0 hk_a0 (by decide) rfl rfl hl.1 rfl (Nat.le_of_ble_eq_true rfl) dX8_sign_61) rfl rfl (fun H locs M56 R57 J58 hS f54 g55 E59 => ?_)
        have p60 := E59
        obtain ⟨x62, k63, h61, q64⟩ := p60
        have k63 : M56 a0 3 = x62 := k63
        refine lv_aload_n hx hb dX8_sign_64 rfl (lv_at hl 4 rfl) ?_
        refine lv_dup hx hb dX8_sign_65 rfl ?_
        have k65 : M56 a0 2 = x10 := ((Fr.kp (k := 2) f54 hk_a0 rfl).trans (Fr.kp (k := 2) f43 hk_a0 rfl)).trans k11
        refine tw_getk hx hb hW hown hK hS f_X8_36_8 hz_a0 hk_a0 (v := x10) k65 dX8_sign_66 ?_
        refine lv_iconst (v := 1) hx hb dX8_sign_69 (by decide) ?_
        refine tw_iadd (lo := 1) (hi := 421) hx hb h13 (iv_c (c := 1) (n := 1) (by decide)) ⟨by decide, by decide⟩ ⟨by decide, by decide⟩ dX8_sign_70 (fun x68 e67 h66 => ?_)
        have e67 : x68.toInt = x10.toInt + 1 := e67
        refine tw_puti hx hb hW hown hK hS f_X8_36_8 hz_a0 hk_a0 rfl rfl (lo := 0) (hi := 1000) rfl (iv_mono h66 (by decide) (by decide)) rfl dX8_sign_71 (fun H locs M71 hS k69 f70 => ?_)
        refine lv_iload_n hx hb dX8_sign_74 rfl (lv_at hl 1 rfl) ?_
        refine lv_if_ne (tgt := 83) hx hb dX8_sign_75 (by decide) (fun h => absurd h (by decide)) (fun _ => ?_)
        refine lv_iload hx hb dX8_sign_78 (lv_at hl 0 rfl) ?_
        refine lv_if_eq (tgt := 96) hx hb dX8_sign_80 (by decide) (fun _ => ?_) (fun h => absurd h (by decide))
        refine lv_iconst (v := 0) hx hb dX8_sign_96 (by decide) ?_
        refine lv_istore (lv' := [(5, .int 0), (4, .int 0), (3, .int 0), (2, .int x10), (1, .int x7), (0, .ref (base + a0))]) hx hb dX8_sign_97 hl (by decide) rfl (fun ls hl => ?_)
        refine lv_iload hx hb dX8_sign_99 (lv_at hl 0 rfl) ?_
        refine lv_if_eq (tgt := 126) hx hb dX8_sign_101 (by decide) (fun _ => ?_) (fun h => absurd h (by decide))
        refine lv_iload_n hx hb dX8_sign_126 rfl (lv_at hl 2 rfl) ?_
        refine lv_if_eq (tgt := 135) hx hb dX8_sign_127 (by decide) (fun _ => ?_) (fun h => absurd h (by decide))
        refine lv_iload hx hb dX8_sign_135 (lv_at hl 1 rfl) ?_
        refine lv_if_eq (tgt := 145) hx hb dX8_sign_137 (by decide) (fun _ => ?_) (fun h => absurd h (by decide))
        refine lv_bipush (v := 8) hx hb dX8_sign_145 (by decide) ?_
        have k72 : M71 a0 3 = x62 := (Fr.kp (k := 3) f70 hk_a0 rfl).trans k63
        have q73 : (x68.toInt ≤ ln.toInt + 1 ∨ x68.toInt ≤ pa.toInt + 1) ∧ (¬ x62.toInt = 0 ∨ x68.toInt ≤ ln.toInt) ∧ (¬ x62.toInt = 0 ∨ fa.toInt = 0) := by
          have := (h_fa).1; have := (h_fa).2; have := (h_ln).1; have := (h_ln).2; have := (h_pa).1; have := (h_pa).2; have := (h13).1; have := (h13).2; have := (h50).1; have := (h50).2; have := (h61).1; have := (h61).2; have := (h66).1; have := (h66).2; omega
        exact tw_endi hx hb hr hlocks hK hT hS hQ (⟨(iv_mono (iv_c (c := 8) (n := 8) (by decide)) (by decide) (by decide)), ⟨x68, x62, k69, k72, (iv_mono h66 (by decide) (by decide)), h61, q73⟩⟩) dX8_sign_147
    · have q74 : x7.toInt = 62 := ti_eq c16
      have h75 : iv 62 62 x7 := ⟨by have := (h_x7).1; have := ((iv_c (c := 62) (n := 62) (by decide))).1; omega, by have := (h_x7).2; have := ((iv_c (c := 62) (n := 62) (by decide))).2; omega⟩
      refine lv_iconst (v := 1) hx hb dX8_sign_28 (by decide) ?_
      refine lv_goto (tgt := 33) hx hb dX8_sign_29 (by decide) ?_
      refine lv_istore (lv' := [(4, .int 1), (3, .int 0), (2, .int x10), (1, .int x7), (0, .ref (base + a0))]) hx hb dX8_sign_33 hl (by decide) rfl (fun ls hl => ?_)
      refine lv_iload_n hx hb dX8_sign_35 rfl (lv_at hl 1 rfl) ?_
      refine lv_if_ne (tgt := 59) hx hb dX8_sign_36 (by decide) (fun h => absurd h (by decide)) (fun _ => ?_)
      refine lv_iload hx hb dX8_sign_39 (lv_at hl 0 rfl) ?_
      refine lv_if_ne (tgt := 59) hx hb dX8_sign_41 (by decide) (fun _ => ?_) (fun h => absurd h (by decide))
      refine lv_aload_n hx hb dX8_sign_59 rfl (lv_at hl 4 rfl) ?_
      refine lv_iload_n hx hb dX8_sign_60 rfl (lv_at hl 2 rfl) ?_
      have k76 : M3 a0 3 = fa := (Fr.kp (k := 3) f1 hk_a0 rfl).trans k_fa
      refine tw_gov hS (md_runV (As := [.int x10]) (rest := []) hx hb hml hown hW hK hT hS.1 (t_X8_weigh l D cy tx base Z K N M3 R4 J5 hS.2.1 a0 hz_a0 hk_a0 x10 (iv_mono h13 (by decide) (by decide)) fa k76 (iv_mono h_fa (by decide) (by decide))) s_X8_88 ⟨rfl, rfl, ⟨Nat.le_of_ble_eq_true rfl, Nat.le_of_ble_eq_true rfl⟩, ⟨Nat.le_of_ble_eq_true rfl, Nat.le_of_ble_eq_true rfl⟩⟩ hz_a0 hk_a0 (by decide) rfl rfl hl.1 rfl (Nat.le_of_ble_eq_true rfl) dX8_sign_61) rfl rfl (fun H locs M79 R80 J81 hS f77 g78 E82 => ?_)
      have p83 := E82
      obtain ⟨x85, k86, h84, q87⟩ := p83
      have k86 : M79 a0 3 = x85 := k86
      refine lv_aload_n hx hb dX8_sign_64 rfl (lv_at hl 4 rfl) ?_
      refine lv_dup hx hb dX8_sign_65 rfl ?_
      have k88 : M79 a0 2 = x10 := (Fr.kp (k := 2) f77 hk_a0 rfl).trans k11
      refine tw_getk hx hb hW hown hK hS f_X8_36_8 hz_a0 hk_a0 (v := x10) k88 dX8_sign_66 ?_
      refine lv_iconst (v := 1) hx hb dX8_sign_69 (by decide) ?_
      refine tw_iadd (lo := 1) (hi := 421) hx hb h13 (iv_c (c := 1) (n := 1) (by decide)) ⟨by decide, by decide⟩ ⟨by decide, by decide⟩ dX8_sign_70 (fun x91 e90 h89 => ?_)
      have e90 : x91.toInt = x10.toInt + 1 := e90
      refine tw_puti hx hb hW hown hK hS f_X8_36_8 hz_a0 hk_a0 rfl rfl (lo := 0) (hi := 1000) rfl (iv_mono h89 (by decide) (by decide)) rfl dX8_sign_71 (fun H locs M94 hS k92 f93 => ?_)
      refine lv_iload_n hx hb dX8_sign_74 rfl (lv_at hl 1 rfl) ?_
      refine lv_if_ne (tgt := 83) hx hb dX8_sign_75 (by decide) (fun h => absurd h (by decide)) (fun _ => ?_)
      refine lv_iload hx hb dX8_sign_78 (lv_at hl 0 rfl) ?_
      refine lv_if_eq (tgt := 96) hx hb dX8_sign_80 (by decide) (fun h => absurd h (by decide)) (fun _ => ?_)
      refine lv_aload_n hx hb dX8_sign_83 rfl (lv_at hl 4 rfl) ?_
      have k95 : R80 a0 0 = some tb := ((Fr.kp (k := 0) g78 hk_a0 rfl).trans (Fr.kp (k := 0) g2 hk_a0 rfl)).trans k_tb
      have k96 : M94 a0 1 = ln := ((Fr.kp (k := 1) f93 hk_a0 rfl).trans ((Fr.kp (k := 1) f77 hk_a0 rfl).trans (Fr.kp (k := 1) f1 hk_a0 rfl))).trans k_ln
      refine tw_goi hS (md_runU (As := []) (rest := []) hx hb hml hown hW hK hT hS.1 (t_X10_here l D cy tx base Z K N M94 R80 J81 hS.2.1 a0 hz_a0 hk_a0 tb k95 ln k96 (iv_mono h_ln (by decide) (by decide)) x91 k92 (iv_mono h89 (by decide) (by decide))) s_X8_91_X8 ⟨rfl, rfl, ⟨Nat.le_of_ble_eq_true rfl, Nat.le_of_ble_eq_true rfl⟩, ⟨Nat.le_of_ble_eq_true rfl, Nat.le_of_ble_eq_true rfl⟩⟩ hz_a0 hk_a0 (by decide) rfl rfl hl.1 rfl (Nat.le_of_ble_eq_true rfl) dX8_sign_84) rfl rfl (fun x103 H locs M99 R100 J101 hS f97 g98 E102 => ?_)
      obtain ⟨h_x103, p104⟩ := E102
      refine lv_bipush (v := 61) hx hb dX8_sign_87 (by decide) ?_
      refine lv_icmp_ne (tgt := 96) hx hb dX8_sign_89 (by decide) (fun c105 => ?_) (fun c105 => ?_)
      · have q106 : ¬ x103.toInt = 61 := ti_ne c105
        refine lv_iconst (v := 0) hx hb dX8_sign_96 (by decide) ?_
        refine lv_istore (lv' := [(5, .int 0), (4, .int 1), (3, .int 0), (2, .int x10), (1, .int x7), (0, .ref (base + a0))]) hx hb dX8_sign_97 hl (by decide) rfl (fun ls hl => ?_)
        refine lv_iload hx hb dX8_sign_99 (lv_at hl 0 rfl) ?_
        refine lv_if_eq (tgt := 126) hx hb dX8_sign_101 (by decide) (fun _ => ?_) (fun h => absurd h (by decide))
        refine lv_iload_n hx hb dX8_sign_126 rfl (lv_at hl 2 rfl) ?_
        refine lv_if_eq (tgt := 135) hx hb dX8_sign_127 (by decide) (fun _ => ?_) (fun h => absurd h (by decide))
        refine lv_iload hx hb dX8_sign_135 (lv_at hl 1 rfl) ?_
        refine lv_if_eq (tgt := 145) hx hb dX8_sign_137 (by decide) (fun h => absurd h (by decide)) (fun _ => ?_)
        refine lv_bipush (v := 10) hx hb dX8_sign_140 (by decide) ?_
        refine lv_goto (tgt := 147) hx hb dX8_sign_142 (by decide) ?_
        have k107 : M99 a0 2 = x91 := (Fr.kp (k := 2) f97 hk_a0 rfl).trans k92
        have k108 : M99 a0 3 = x85 := ((Fr.kp (k := 3) f97 hk_a0 rfl).trans (Fr.kp (k := 3) f93 hk_a0 rfl)).trans k86
        have q109 : (x91.toInt ≤ ln.toInt + 1 ∨ x91.toInt ≤ pa.toInt + 1) ∧ (¬ x85.toInt = 0 ∨ x91.toInt ≤ ln.toInt) ∧ (¬ x85.toInt = 0 ∨ fa.toInt = 0) := by
          have := (h_fa).1; have := (h_fa).2; have := (h_ln).1; have := (h_ln).2; have := (h_pa).1; have := (h_pa).2; have := (h13).1; have := (h13).2; have := (h_x103).1; have := (h_x103).2; have := (h84).1; have := (h84).2; have := (h89).1; have := (h89).2; omega
        exact tw_endi hx hb hr hlocks hK hT hS hQ (⟨(iv_mono (iv_c (c := 10) (n := 10) (by decide)) (by decide) (by decide)), ⟨x91, x85, k107, k108, (iv_mono h89 (by decide) (by decide)), h84, q109⟩⟩) dX8_sign_147
      · have q110 : x103.toInt = 61 := ti_eq c105
        have h111 : iv 61 61 x103 := ⟨by have := (h_x103).1; have := ((iv_c (c := 61) (n := 61) (by decide))).1; omega, by have := (h_x103).2; have := ((iv_c (c := 61) (n := 61) (by decide))).2; omega⟩
        refine lv_iconst (v := 1) hx hb dX8_sign_92 (by decide) ?_
        refine lv_goto (tgt := 97) hx hb dX8_sign_93 (by decide) ?_
        refine lv_istore (lv' := [(5, .int 1), (4, .int 1), (3, .int 0), (2, .int x10), (1, .int x7), (0, .ref (base + a0))]) hx hb dX8_sign_97 hl (by decide) rfl (fun ls hl => ?_)
        refine lv_iload hx hb dX8_sign_99 (lv_at hl 0 rfl) ?_
        refine lv_if_eq (tgt := 126) hx hb dX8_sign_101 (by decide) (fun h => absurd h (by decide)) (fun _ => ?_)
        refine lv_aload_n hx hb dX8_sign_104 rfl (lv_at hl 5 rfl) ?_
        refine lv_dup hx hb dX8_sign_105 rfl ?_
        have k112 : M99 a0 2 = x91 := (Fr.kp (k := 2) f97 hk_a0 rfl).trans k92
        refine tw_getk hx hb hW hown hK hS f_X8_36_8 hz_a0 hk_a0 (v := x91) k112 dX8_sign_106 ?_
        refine lv_iconst (v := 1) hx hb dX8_sign_109 (by decide) ?_
        refine tw_iadd (lo := 2) (hi := 422) hx hb h89 (iv_c (c := 1) (n := 1) (by decide)) ⟨by decide, by decide⟩ ⟨by decide, by decide⟩ dX8_sign_110 (fun x115 e114 h113 => ?_)
        have e114 : x115.toInt = x91.toInt + 1 := e114
        refine tw_puti hx hb hW hown hK hS f_X8_36_8 hz_a0 hk_a0 rfl rfl (lo := 0) (hi := 1000) rfl (iv_mono h113 (by decide) (by decide)) rfl dX8_sign_111 (fun H locs M118 hS k116 f117 => ?_)
        refine lv_iload_n hx hb dX8_sign_114 rfl (lv_at hl 2 rfl) ?_
        refine lv_if_eq (tgt := 123) hx hb dX8_sign_115 (by decide) (fun _ => ?_) (fun h => absurd h (by decide))
        refine lv_bipush (v := 9) hx hb dX8_sign_123 (by decide) ?_
        have h119 : iv 0 421 x115 := by
          have := (h_fa).1; have := (h_fa).2; have := (h_ln).1; have := (h_ln).2; have := (h_pa).1; have := (h_pa).2; have := (h13).1; have := (h13).2; have := (h111).1; have := (h111).2; have := (h113).1; have := (h113).2; have := (h89).1; have := (h89).2; exact ⟨by omega, by omega⟩
        have k120 : M118 a0 3 = x85 := ((Fr.kp (k := 3) f117 hk_a0 rfl).trans ((Fr.kp (k := 3) f97 hk_a0 rfl).trans (Fr.kp (k := 3) f93 hk_a0 rfl))).trans k86
        have q121 : (x115.toInt ≤ ln.toInt + 1 ∨ x115.toInt ≤ pa.toInt + 1) ∧ (¬ x85.toInt = 0 ∨ x115.toInt ≤ ln.toInt) ∧ (¬ x85.toInt = 0 ∨ fa.toInt = 0) := by
          have := (h_fa).1; have := (h_fa).2; have := (h_ln).1; have := (h_ln).2; have := (h_pa).1; have := (h_pa).2; have := (h13).1; have := (h13).2; have := (h111).1; have := (h111).2; have := (h113).1; have := (h113).2; have := (h84).1; have := (h84).2; have := (h89).1; have := (h89).2; omega
        exact tw_endi hx hb hr hlocks hK hT hS hQ (⟨(iv_mono (iv_c (c := 9) (n := 9) (by decide)) (by decide) (by decide)), ⟨x115, x85, k116, k120, h119, h84, q121⟩⟩) dX8_sign_125
  · have q122 : x7.toInt = 60 := ti_eq c14
    have h123 : iv 60 60 x7 := ⟨by have := (h_x7).1; have := ((iv_c (c := 60) (n := 60) (by decide))).1; omega, by have := (h_x7).2; have := ((iv_c (c := 60) (n := 60) (by decide))).2; omega⟩
    refine lv_iconst (v := 1) hx hb dX8_sign_16 (by decide) ?_
    refine lv_goto (tgt := 21) hx hb dX8_sign_17 (by decide) ?_
    refine lv_istore_n (lv' := [(3, .int 1), (2, .int x10), (1, .int x7), (0, .ref (base + a0))]) hx hb dX8_sign_21 rfl hl (by decide) rfl (fun ls hl => ?_)
    refine lv_iload_n hx hb dX8_sign_22 rfl (lv_at hl 2 rfl) ?_
    refine lv_bipush (v := 62) hx hb dX8_sign_23 (by decide) ?_
    refine lv_icmp_ne (tgt := 32) hx hb dX8_sign_25 (by decide) (fun c124 => ?_) (fun c124 => False.elim (by have q : x7.toInt = 62 := ti_eq c124; have := (h123).1; have := (h123).2; omega))
    have q125 : ¬ x7.toInt = 62 := ti_ne c124
    refine lv_iconst (v := 0) hx hb dX8_sign_32 (by decide) ?_
    refine lv_istore (lv' := [(4, .int 0), (3, .int 1), (2, .int x10), (1, .int x7), (0, .ref (base + a0))]) hx hb dX8_sign_33 hl (by decide) rfl (fun ls hl => ?_)
    refine lv_iload_n hx hb dX8_sign_35 rfl (lv_at hl 1 rfl) ?_
    refine lv_if_ne (tgt := 59) hx hb dX8_sign_36 (by decide) (fun _ => ?_) (fun h => absurd h (by decide))
    refine lv_aload_n hx hb dX8_sign_59 rfl (lv_at hl 4 rfl) ?_
    refine lv_iload_n hx hb dX8_sign_60 rfl (lv_at hl 2 rfl) ?_
    have k126 : M3 a0 3 = fa := (Fr.kp (k := 3) f1 hk_a0 rfl).trans k_fa
    refine tw_gov hS (md_runV (As := [.int x10]) (rest := []) hx hb hml hown hW hK hT hS.1 (t_X8_weigh l D cy tx base Z K N M3 R4 J5 hS.2.1 a0 hz_a0 hk_a0 x10 (iv_mono h13 (by decide) (by decide)) fa k126 (iv_mono h_fa (by decide) (by decide))) s_X8_88 ⟨rfl, rfl, ⟨Nat.le_of_ble_eq_true rfl, Nat.le_of_ble_eq_true rfl⟩, ⟨Nat.le_of_ble_eq_true rfl, Nat.le_of_ble_eq_true rfl⟩⟩ hz_a0 hk_a0 (by decide) rfl rfl hl.1 rfl (Nat.le_of_ble_eq_true rfl) dX8_sign_61) rfl rfl (fun H locs M129 R130 J131 hS f127 g128 E132 => ?_)
    have p133 := E132
    obtain ⟨x135, k136, h134, q137⟩ := p133
    have k136 : M129 a0 3 = x135 := k136
    refine lv_aload_n hx hb dX8_sign_64 rfl (lv_at hl 4 rfl) ?_
    refine lv_dup hx hb dX8_sign_65 rfl ?_
    have k138 : M129 a0 2 = x10 := (Fr.kp (k := 2) f127 hk_a0 rfl).trans k11
    refine tw_getk hx hb hW hown hK hS f_X8_36_8 hz_a0 hk_a0 (v := x10) k138 dX8_sign_66 ?_
    refine lv_iconst (v := 1) hx hb dX8_sign_69 (by decide) ?_
    refine tw_iadd (lo := 1) (hi := 421) hx hb h13 (iv_c (c := 1) (n := 1) (by decide)) ⟨by decide, by decide⟩ ⟨by decide, by decide⟩ dX8_sign_70 (fun x141 e140 h139 => ?_)
    have e140 : x141.toInt = x10.toInt + 1 := e140
    refine tw_puti hx hb hW hown hK hS f_X8_36_8 hz_a0 hk_a0 rfl rfl (lo := 0) (hi := 1000) rfl (iv_mono h139 (by decide) (by decide)) rfl dX8_sign_71 (fun H locs M144 hS k142 f143 => ?_)
    refine lv_iload_n hx hb dX8_sign_74 rfl (lv_at hl 1 rfl) ?_
    refine lv_if_ne (tgt := 83) hx hb dX8_sign_75 (by decide) (fun _ => ?_) (fun h => absurd h (by decide))
    refine lv_aload_n hx hb dX8_sign_83 rfl (lv_at hl 4 rfl) ?_
    have k145 : R130 a0 0 = some tb := ((Fr.kp (k := 0) g128 hk_a0 rfl).trans (Fr.kp (k := 0) g2 hk_a0 rfl)).trans k_tb
    have k146 : M144 a0 1 = ln := ((Fr.kp (k := 1) f143 hk_a0 rfl).trans ((Fr.kp (k := 1) f127 hk_a0 rfl).trans (Fr.kp (k := 1) f1 hk_a0 rfl))).trans k_ln
    refine tw_goi hS (md_runU (As := []) (rest := []) hx hb hml hown hW hK hT hS.1 (t_X10_here l D cy tx base Z K N M144 R130 J131 hS.2.1 a0 hz_a0 hk_a0 tb k145 ln k146 (iv_mono h_ln (by decide) (by decide)) x141 k142 (iv_mono h139 (by decide) (by decide))) s_X8_91_X8 ⟨rfl, rfl, ⟨Nat.le_of_ble_eq_true rfl, Nat.le_of_ble_eq_true rfl⟩, ⟨Nat.le_of_ble_eq_true rfl, Nat.le_of_ble_eq_true rfl⟩⟩ hz_a0 hk_a0 (by decide) rfl rfl hl.1 rfl (Nat.le_of_ble_eq_true rfl) dX8_sign_84) rfl rfl (fun x153 H locs M149 R150 J151 hS f147 g148 E152 => ?_)
    obtain ⟨h_x153, p154⟩ := E152
    refine lv_bipush (v := 61) hx hb dX8_sign_87 (by decide) ?_
    refine lv_icmp_ne (tgt := 96) hx hb dX8_sign_89 (by decide) (fun c155 => ?_) (fun c155 => ?_)
    · have q156 : ¬ x153.toInt = 61 := ti_ne c155
      refine lv_iconst (v := 0) hx hb dX8_sign_96 (by decide) ?_
      refine lv_istore (lv' := [(5, .int 0), (4, .int 0), (3, .int 1), (2, .int x10), (1, .int x7), (0, .ref (base + a0))]) hx hb dX8_sign_97 hl (by decide) rfl (fun ls hl => ?_)
      refine lv_iload hx hb dX8_sign_99 (lv_at hl 0 rfl) ?_
      refine lv_if_eq (tgt := 126) hx hb dX8_sign_101 (by decide) (fun _ => ?_) (fun h => absurd h (by decide))
      refine lv_iload_n hx hb dX8_sign_126 rfl (lv_at hl 2 rfl) ?_
      refine lv_if_eq (tgt := 135) hx hb dX8_sign_127 (by decide) (fun h => absurd h (by decide)) (fun _ => ?_)
      refine lv_bipush (v := 6) hx hb dX8_sign_130 (by decide) ?_
      refine lv_goto (tgt := 147) hx hb dX8_sign_132 (by decide) ?_
      have k157 : M149 a0 2 = x141 := (Fr.kp (k := 2) f147 hk_a0 rfl).trans k142
      have k158 : M149 a0 3 = x135 := ((Fr.kp (k := 3) f147 hk_a0 rfl).trans (Fr.kp (k := 3) f143 hk_a0 rfl)).trans k136
      have q159 : (x141.toInt ≤ ln.toInt + 1 ∨ x141.toInt ≤ pa.toInt + 1) ∧ (¬ x135.toInt = 0 ∨ x141.toInt ≤ ln.toInt) ∧ (¬ x135.toInt = 0 ∨ fa.toInt = 0) := by
        have := (h_fa).1; have := (h_fa).2; have := (h_ln).1; have := (h_ln).2; have := (h_pa).1; have := (h_pa).2; have := (h13).1; have := (h13).2; have := (h134).1; have := (h134).2; have := (h139).1; have := (h139).2; have := (h_x153).1; have := (h_x153).2; omega
      exact tw_endi hx hb hr hlocks hK hT hS hQ (⟨(iv_mono (iv_c (c := 6) (n := 6) (by decide)) (by decide) (by decide)), ⟨x141, x135, k157, k158, (iv_mono h139 (by decide) (by decide)), h134, q159⟩⟩) dX8_sign_147
    · have q160 : x153.toInt = 61 := ti_eq c155
      have h161 : iv 61 61 x153 := ⟨by have := (h_x153).1; have := ((iv_c (c := 61) (n := 61) (by decide))).1; omega, by have := (h_x153).2; have := ((iv_c (c := 61) (n := 61) (by decide))).2; omega⟩
      refine lv_iconst (v := 1) hx hb dX8_sign_92 (by decide) ?_
      refine lv_goto (tgt := 97) hx hb dX8_sign_93 (by decide) ?_
      refine lv_istore (lv' := [(5, .int 1), (4, .int 0), (3, .int 1), (2, .int x10), (1, .int x7), (0, .ref (base + a0))]) hx hb dX8_sign_97 hl (by decide) rfl (fun ls hl => ?_)
      refine lv_iload hx hb dX8_sign_99 (lv_at hl 0 rfl) ?_
      refine lv_if_eq (tgt := 126) hx hb dX8_sign_101 (by decide) (fun h => absurd h (by decide)) (fun _ => ?_)
      refine lv_aload_n hx hb dX8_sign_104 rfl (lv_at hl 5 rfl) ?_
      refine lv_dup hx hb dX8_sign_105 rfl ?_
      have k162 : M149 a0 2 = x141 := (Fr.kp (k := 2) f147 hk_a0 rfl).trans k142
      refine tw_getk hx hb hW hown hK hS f_X8_36_8 hz_a0 hk_a0 (v := x141) k162 dX8_sign_106 ?_
      refine lv_iconst (v := 1) hx hb dX8_sign_109 (by decide) ?_
      refine tw_iadd (lo := 2) (hi := 422) hx hb h139 (iv_c (c := 1) (n := 1) (by decide)) ⟨by decide, by decide⟩ ⟨by decide, by decide⟩ dX8_sign_110 (fun x165 e164 h163 => ?_)
      have e164 : x165.toInt = x141.toInt + 1 := e164
      refine tw_puti hx hb hW hown hK hS f_X8_36_8 hz_a0 hk_a0 rfl rfl (lo := 0) (hi := 1000) rfl (iv_mono h163 (by decide) (by decide)) rfl dX8_sign_111 (fun H locs M168 hS k166 f167 => ?_)
      refine lv_iload_n hx hb dX8_sign_114 rfl (lv_at hl 2 rfl) ?_
      refine lv_if_eq (tgt := 123) hx hb dX8_sign_115 (by decide) (fun h => absurd h (by decide)) (fun _ => ?_)
      refine lv_bipush (v := 7) hx hb dX8_sign_118 (by decide) ?_
      refine lv_goto (tgt := 125) hx hb dX8_sign_120 (by decide) ?_
      have h169 : iv 0 421 x165 := by
        have := (h_fa).1; have := (h_fa).2; have := (h_ln).1; have := (h_ln).2; have := (h_pa).1; have := (h_pa).2; have := (h13).1; have := (h13).2; have := (h139).1; have := (h139).2; have := (h161).1; have := (h161).2; have := (h163).1; have := (h163).2; exact ⟨by omega, by omega⟩
      have k170 : M168 a0 3 = x135 := ((Fr.kp (k := 3) f167 hk_a0 rfl).trans ((Fr.kp (k := 3) f147 hk_a0 rfl).trans (Fr.kp (k := 3) f143 hk_a0 rfl))).trans k136
      have q171 : (x165.toInt ≤ ln.toInt + 1 ∨ x165.toInt ≤ pa.toInt + 1) ∧ (¬ x135.toInt = 0 ∨ x165.toInt ≤ ln.toInt) ∧ (¬ x135.toInt = 0 ∨ fa.toInt = 0) := by
        have := (h_fa).1; have := (h_fa).2; have := (h_ln).1; have := (h_ln).2; have := (h_pa).1; have := (h_pa).2; have := (h13).1; have := (h13).2; have := (h134).1; have := (h134).2; have := (h139).1; have := (h139).2; have := (h161).1; have := (h161).2; have := (h163).1; have := (h163).2; omega
      exact tw_endi hx hb hr hlocks hK hT hS hQ (⟨(iv_mono (iv_c (c := 7) (n := 7) (by decide)) (by decide) (by decide)), ⟨x165, x135, k166, k170, h169, h134, q171⟩⟩) dX8_sign_125
