def Lt_X12_tells : WL := [(12, 28, 29), (12, 31, 33), (14, 0, 2000000), (30, 0, 2000000)]
def LRt_X12_tells : WL := []
set_option maxRecDepth 100000 in
set_option maxHeartbeats 4000000 in
theorem t_X12_tells (l : Launch) (D : va_G) (cy : Nat → ClassId) (tx : (Nat → Nat) × (Nat → Nat)) (base Z : Nat) (K N : Nat → Nat) (Ma : MT) (Ra : RT) (Ja : JT) (hTy : Ty Z K N Ma Ra) (a0 : Nat) (hz_a0 : a0 < Z) (hk_a0 : K a0 = 12) (a1 : Int32) (h_a1 : iv (-2147483648) 2147483647 a1) (a2 : Int32) (h_a2 : iv (-2147483648) 2147483647 a2) (sd : Nat) (k_sd : Ra a0 25 = some sd) (e0 : Int32) (k_e0 : Ma sd (0 : Int32).toNatClampNeg = e0) (h_e0 : iv 0 10 e0) : Met l yX12_tells [Cond.code yX12_tells cX12_tells 7 (some .int)] (md_rm 7 0 0) (va_Pc [.ref (base + a0), .int a1, .int a2] (md_U D cy tx base Z K N Ma Ra Ja)) (mQi D cy tx base (fun r u => TP Z K N Lt_X12_tells LRt_X12_tells Ma Ra u ∧ (iv (-1) 2147483647 r))) 0 0 (fun q => base ≤ q) := by
  refine tw_ofW (L := Lt_X12_tells) (LR := LRt_X12_tells) (by decide) (Nat.le_of_ble_eq_true rfl) hTy ?_
  intro p e s m args below meth c Q ls hx hb hr hlocks hown hml hW hK hT hS hQ hl
  have hl : lv_has ls 7 [(0, .ref (base + a0)), (1, .int a1), (2, .int a2)] := hl
  obtain ⟨hz_sd, hk_sd, hn_sd⟩ := hTy.refn hz_a0 hk_a0 (show rtR 12 25 = (23, 226, 0) from rfl) k_sd
  have hn_sd := hn_sd (by decide)
  refine lv_aload_n hx hb dX12_tells_0 rfl (lv_at hl 0 rfl) ?_
  refine lv_iload_n hx hb dX12_tells_1 rfl (lv_at hl 1 rfl) ?_
  refine tw_goi hS (md_runV (As := [.int a1]) (rest := []) hx hb hml hown hW hK hT hS.1 (t_X12_canFit l D cy tx base Z K N Ma Ra Ja hS.2.1 a0 hz_a0 hk_a0 a1 h_a1 sd k_sd e0 k_e0 (iv_mono h_e0 (by decide) (by decide))) s_X12_486 ⟨rfl, rfl, ⟨Nat.le_of_ble_eq_true rfl, Nat.le_of_ble_eq_true rfl⟩, ⟨Nat.le_of_ble_eq_true rfl, Nat.le_of_ble_eq_true rfl⟩⟩ hz_a0 hk_a0 (by decide) rfl rfl hl.1 rfl (Nat.le_of_ble_eq_true rfl) dX12_tells_2) rfl rfl (fun x7 H locs M4 R5 J3 hS f1 g2 E6 => ?_)
  have eM4 := Fr.nil f1 rfl
  subst eM4
  have eR5 := Fr.nil g2 rfl
  subst eR5
  obtain ⟨h_x7, p8, p9⟩ := E6
  refine lv_if_eq (tgt := 18) hx hb dX12_tells_5 (by decide) (fun c10 => ?_) (fun c10 => ?_)
  · have q11 : x7.toInt = 0 := ti_eq c10
    have h12 : iv 0 0 x7 := ⟨by have := (h_x7).1; have := ((iv_c (c := 0) (n := 0) (by decide))).1; omega, by have := (h_x7).2; have := ((iv_c (c := 0) (n := 0) (by decide))).2; omega⟩
    refine lv_iconst (v := (-1)) hx hb dX12_tells_18 (by decide) ?_
    exact tw_endi hx hb hr hlocks hK hT hS hQ ((iv_mono (iv_c (c := (-1)) (n := (-1)) (by decide)) (by decide) (by decide))) dX12_tells_19
  · have q13 : ¬ x7.toInt = 0 := ti_ne c10
    have h14 : iv 1 1 x7 := ⟨by have := (h_x7).1; have := ((iv_c (c := 0) (n := 0) (by decide))).1; have := ((iv_c (c := 0) (n := 0) (by decide))).2; omega, by have := (h_x7).2; have := ((iv_c (c := 0) (n := 0) (by decide))).1; have := ((iv_c (c := 0) (n := 0) (by decide))).2; omega⟩
    have h15 : iv 1 5 e0 := ⟨by have := (p8 c10).1; have := (h_e0).1; omega, by have := (p8 c10).2; have := (h_e0).2; omega⟩
    have h16 : iv 1 6 a1 := ⟨by have := (p9 c10).1; have := (h_a1).1; omega, by have := (p9 c10).2; have := (h_a1).2; omega⟩
    refine lv_iload_n hx hb dX12_tells_8 rfl (lv_at hl 2 rfl) ?_
    refine lv_i2l hx hb dX12_tells_9 rfl ?_
    refine lv_lconst (v := 0) hx hb dX12_tells_10 (by decide) ?_
    refine lv_lconst (v := 1) hx hb dX12_tells_11 (by decide) ?_
    refine tw_goi hS (md_runS (As := [.long a2.toInt64, .long 0, .long 1]) (rest := []) hx hb hml hown hW hK hT hS.1 (t_X12_in l D cy tx base Z K N Ma Ra J3 hS.2.1 (a2.toInt64) (0) (1)) s_X12_155 ⟨rfl, rfl, ⟨Nat.le_of_ble_eq_true rfl, Nat.le_of_ble_eq_true rfl⟩, ⟨Nat.le_of_ble_eq_true rfl, Nat.le_of_ble_eq_true rfl⟩⟩ rfl hl.1 rfl (Nat.le_of_ble_eq_true rfl) dX12_tells_12) rfl rfl (fun x23 H locs M20 R21 J19 hS f17 g18 E22 => ?_)
    have eM20 := Fr.nil f17 rfl
    subst eM20
    have eR21 := Fr.nil g18 rfl
    subst eR21
    obtain ⟨h_x23, p24⟩ := E22
    have p25 := p24.1
    refine lv_if_ne (tgt := 20) hx hb dX12_tells_15 (by decide) (fun c26 => ?_) (fun c26 => ?_)
    · have q27 : ¬ x23.toInt = 0 := ti_ne c26
      have h28 : iv 1 1 x23 := ⟨by have := (h_x23).1; have := ((iv_c (c := 0) (n := 0) (by decide))).1; have := ((iv_c (c := 0) (n := 0) (by decide))).2; omega, by have := (h_x23).2; have := ((iv_c (c := 0) (n := 0) (by decide))).1; have := ((iv_c (c := 0) (n := 0) (by decide))).2; omega⟩
      have h29 : iv 0 1 a2 := in2iv (p25 c26) ((jv_c (x := 0) (n := 0) (by decide))).1 ((jv_c (x := 1) (n := 1) (by decide))).2
      refine lv_iconst (v := 1) hx hb dX12_tells_20 (by decide) ?_
      refine lv_istore_n (lv' := [(3, .int 1), (0, .ref (base + a0)), (1, .int a1), (2, .int a2)]) hx hb dX12_tells_21 rfl hl (by decide) rfl (fun ls hl => ?_)
      refine lv_aload_n hx hb dX12_tells_22 rfl (lv_at hl 1 rfl) ?_
      refine lv_iconst (v := 1) hx hb dX12_tells_23 (by decide) ?_
      refine lv_iload_n hx hb dX12_tells_24 rfl (lv_at hl 2 rfl) ?_
      refine tw_goi hS (md_runV (As := [.int 1, .int a1]) (rest := []) hx hb hml hown hW hK hT hS.1 (t_X12_mostAlike l D cy tx base Z K N Ma Ra J19 hS.2.1 a0 hz_a0 hk_a0 1 (iv_mono (iv_c (c := 1) (n := 1) (by decide)) (by decide) (by decide)) a1 h16 sd k_sd e0 k_e0 (iv_mono h15 (by decide) (by decide))) s_X12_495 ⟨rfl, rfl, ⟨Nat.le_of_ble_eq_true rfl, Nat.le_of_ble_eq_true rfl⟩, ⟨Nat.le_of_ble_eq_true rfl, Nat.le_of_ble_eq_true rfl⟩⟩ hz_a0 hk_a0 (by decide) rfl rfl hl.1 rfl (Nat.le_of_ble_eq_true rfl) dX12_tells_25) rfl rfl (fun x36 H locs M33 R34 J32 hS f30 g31 E35 => ?_)
      have eR34 := Fr.nil g31 rfl
      subst eR34
      have h_x36 := E35
      clear E35
      refine lv_istore (lv' := [(4, .int x36), (3, .int 1), (0, .ref (base + a0)), (1, .int a1), (2, .int a2)]) hx hb dX12_tells_28 hl (by decide) rfl (fun ls hl => ?_)
      refine lv_iconst (v := 2) hx hb dX12_tells_30 (by decide) ?_
      refine lv_istore (lv' := [(5, .int 2), (4, .int x36), (3, .int 1), (0, .ref (base + a0)), (1, .int a1), (2, .int a2)]) hx hb dX12_tells_31 hl (by decide) rfl (fun ls hl => ?_)
      have W33_40 : ∀ (n_40 : Nat) (x37 : Int32) (x38 : Int32) (x39 : Int32) (M40 : MT) (R41 : RT) (J42 : JT) (H : Heap) (locs : List Loc) (ls : Array Slot) (h_x37 : iv 1 2147483647 x37) (h_x38 : iv 0 2147483647 x38) (h_x39 : iv 2 2147483647 x39) (hm_40 : 2147483647 - x39.toInt < (n_40 : Int)) (hS : SB D cy base Z K N Lt_X12_tells LRt_X12_tells Ma Ra M40 R41 J42 s H locs) (hl : lv_has ls 7 [(3, .int x37), (4, .int x38), (5, .int x39), (0, .ref (base + a0)), (1, .int a1), (2, .int a2)]), W p l e (md_rm 7 0 0) s m args below meth c H locs 0 0 Q (F0 m 33 ls []) := by
        intro n_40
        induction n_40 with
        | zero =>
          intro x37 x38 x39 M40 R41 J42 H locs ls h_x37 h_x38 h_x39 hm_40 hS hl
          exfalso
          have := (h16).1; have := (h16).2; have := (h29).1; have := (h29).2; have := (h15).1; have := (h15).2; have := (h_x39).1; have := (h_x39).2; omega
        | succ n_40 ih_40 =>
          intro x37 x38 x39 M40 R41 J42 H locs ls h_x37 h_x38 h_x39 hm_40 hS hl
          have f43 := hS.2.2.1
          have g44 := hS.2.2.2
          refine lv_iload hx hb dX12_tells_33 (lv_at hl 2 rfl) ?_
          refine lv_iconst (v := 1) hx hb dX12_tells_35 (by decide) ?_
          refine lv_aload_n hx hb dX12_tells_36 rfl (lv_at hl 3 rfl) ?_
          have k45 : R41 a0 25 = some sd := (Fr.kp (k := 25) g44 hk_a0 rfl).trans k_sd
          refine tw_getrk hx hb hW hown hK hS f_X12_45_11 hz_a0 hk_a0 (b := sd) k45 dX12_tells_37 ?_
          refine lv_iconst (v := 0) hx hb dX12_tells_40 (by decide) ?_
          have k46 : M40 sd (0 : Int32).toNatClampNeg = e0 := (Fr.kp (k := (0 : Int32).toNatClampNeg) f43 hk_sd rfl).trans k_e0
          refine tw_ialk hx hb hK hS hz_sd hk_sd (Or.inr (by decide)) hn_sd (iv_c (c := 0) (n := 0) (by decide)) ⟨by decide, by decide⟩ (v := e0) k46 dX12_tells_41 ?_
          refine lv_ishl hx hb dX12_tells_42 ?_
          refine tw_top (fun x48 => ?_)
          have h47 := iv_any x48
          refine lv_icmp_ge (tgt := 78) hx hb dX12_tells_43 (by decide) (fun c49 => ?_) (fun c49 => ?_)
          · have q50 : x48.toInt ≤ x39.toInt := ti_le c49
            refine lv_iload_n hx hb dX12_tells_78 rfl (lv_at hl 5 rfl) ?_
            refine lv_if_ne (tgt := 86) hx hb dX12_tells_79 (by decide) (fun c51 => ?_) (fun c51 => ?_)
            · have q52 : ¬ a2.toInt = 0 := ti_ne c51
              have h53 : iv 1 1 a2 := ⟨by have := (h29).1; have := ((iv_c (c := 0) (n := 0) (by decide))).1; have := ((iv_c (c := 0) (n := 0) (by decide))).2; omega, by have := (h29).2; have := ((iv_c (c := 0) (n := 0) (by decide))).1; have := ((iv_c (c := 0) (n := 0) (by decide))).2; omega⟩
              refine lv_iload hx hb dX12_tells_86 (lv_at hl 1 rfl) ?_
              exact tw_endi hx hb hr hlocks hK hT hS hQ ((iv_mono h_x38 (by decide) (by decide))) dX12_tells_88
            · have q54 : a2.toInt = 0 := ti_eq c51
              have h55 : iv 0 0 a2 := ⟨by have := (h29).1; have := ((iv_c (c := 0) (n := 0) (by decide))).1; omega, by have := (h29).2; have := ((iv_c (c := 0) (n := 0) (by decide))).2; omega⟩
              refine lv_iload_n hx hb dX12_tells_82 rfl (lv_at hl 0 rfl) ?_
              refine lv_goto (tgt := 88) hx hb dX12_tells_83 (by decide) ?_
              exact tw_endi hx hb hr hlocks hK hT hS hQ ((iv_mono h_x37 (by decide) (by decide))) dX12_tells_88
          · have q56 : x39.toInt < x48.toInt := ti_nle c49
            have h57 : iv 2 2147483646 x39 := iv_ltL (y := x48) h_x39 h47 q56 (by decide)
            have h58 : iv 3 2147483647 x48 := iv_gtL (y := x39) h47 h_x39 q56 (by decide)
            refine lv_aload_n hx hb dX12_tells_46 rfl (lv_at hl 3 rfl) ?_
            refine lv_iload hx hb dX12_tells_47 (lv_at hl 2 rfl) ?_
            refine lv_iload_n hx hb dX12_tells_49 rfl (lv_at hl 4 rfl) ?_
            have k59 : R41 a0 25 = some sd := (Fr.kp (k := 25) g44 hk_a0 rfl).trans k_sd
            have k60 : M40 sd (0 : Int32).toNatClampNeg = e0 := (Fr.kp (k := (0 : Int32).toNatClampNeg) f43 hk_sd rfl).trans k_e0
            refine tw_goi hS (md_runV (As := [.int x39, .int a1]) (rest := []) hx hb hml hown hW hK hT hS.1 (t_X12_mostAlike l D cy tx base Z K N M40 R41 J42 hS.2.1 a0 hz_a0 hk_a0 x39 (iv_mono h57 (by decide) (by decide)) a1 h16 sd k59 e0 k60 (iv_mono h15 (by decide) (by decide))) s_X12_495 ⟨rfl, rfl, ⟨Nat.le_of_ble_eq_true rfl, Nat.le_of_ble_eq_true rfl⟩, ⟨Nat.le_of_ble_eq_true rfl, Nat.le_of_ble_eq_true rfl⟩⟩ hz_a0 hk_a0 (by decide) rfl rfl hl.1 rfl (Nat.le_of_ble_eq_true rfl) dX12_tells_50) rfl rfl (fun x67 H locs M64 R65 J63 hS f61 g62 E66 => ?_)
            have eR65 := Fr.nil g62 rfl
            subst eR65
            have h_x67 := E66
            clear E66
            refine lv_istore (lv' := [(6, .int x67), (3, .int x37), (4, .int x38), (5, .int x39), (0, .ref (base + a0)), (1, .int a1), (2, .int a2)]) hx hb dX12_tells_53 hl (by decide) rfl (fun ls hl => ?_)
            refine lv_iload hx hb dX12_tells_55 (lv_at hl 0 rfl) ?_
            refine lv_iload hx hb dX12_tells_57 (lv_at hl 2 rfl) ?_
            refine lv_icmp_lt (tgt := 65) hx hb dX12_tells_59 (by decide) (fun c68 => ?_) (fun c68 => ?_)
            · have q69 : x67.toInt < x38.toInt := ti_lt c68
              have h70 : iv 0 2147483646 x67 := iv_ltL (y := x38) h_x67 h_x38 q69 (by decide)
              have h71 : iv 1 2147483647 x38 := iv_gtL (y := x67) h_x38 h_x67 q69 (by decide)
              refine lv_iload hx hb dX12_tells_65 (lv_at hl 3 rfl) ?_
              refine lv_istore_n (lv' := [(3, .int x39), (6, .int x67), (4, .int x38), (5, .int x39), (0, .ref (base + a0)), (1, .int a1), (2, .int a2)]) hx hb dX12_tells_67 rfl hl (by decide) rfl (fun ls hl => ?_)
              refine lv_iload hx hb dX12_tells_68 (lv_at hl 1 rfl) ?_
              refine lv_istore (lv' := [(4, .int x67), (3, .int x39), (6, .int x67), (5, .int x39), (0, .ref (base + a0)), (1, .int a1), (2, .int a2)]) hx hb dX12_tells_70 hl (by decide) rfl (fun ls hl => ?_)
              refine tw_iinc (lv' := fun x74 => [(5, .int x74), (4, .int x67), (3, .int x39), (6, .int x67), (0, .ref (base + a0)), (1, .int a1), (2, .int a2)]) (lo := 3) (hi := 2147483647) hx hb dX12_tells_72 hl (k := 3) rfl h57 (by decide) ⟨by decide, by decide⟩ ⟨by decide, by decide⟩ (by decide) (fun _ => rfl) (fun x74 ls e73 h72 hl => ?_)
              refine lv_goto (tgt := 33) hx hb dX12_tells_75 (by decide) ?_
              have hm75 : 2147483647 - x74.toInt < (n_40 : Int) := by
                have := (h16).1; have := (h16).2; have := (h29).1; have := (h29).2; have := (h15).1; have := (h15).2; have := (h57).1; have := (h57).2; have := (h72).1; have := (h72).2; omega
              exact ih_40 x39 x67 x74 M64 R41 J63 H locs _ (iv_mono h57 (by decide) (by decide)) (iv_mono h70 (by decide) (by decide)) (iv_mono h72 (by decide) (by decide)) hm75 hS (lv_sub hl [2, 1, 0, 4, 5, 6] rfl)
            · have q76 : x38.toInt ≤ x67.toInt := ti_nlt c68
              refine lv_goto (tgt := 72) hx hb dX12_tells_62 (by decide) ?_
              refine tw_iinc (lv' := fun x79 => [(5, .int x79), (6, .int x67), (3, .int x37), (4, .int x38), (0, .ref (base + a0)), (1, .int a1), (2, .int a2)]) (lo := 3) (hi := 2147483647) hx hb dX12_tells_72 hl (k := 3) rfl h57 (by decide) ⟨by decide, by decide⟩ ⟨by decide, by decide⟩ (by decide) (fun _ => rfl) (fun x79 ls e78 h77 hl => ?_)
              refine lv_goto (tgt := 33) hx hb dX12_tells_75 (by decide) ?_
              have hm80 : 2147483647 - x79.toInt < (n_40 : Int) := by
                have := (h16).1; have := (h16).2; have := (h29).1; have := (h29).2; have := (h15).1; have := (h15).2; have := (h57).1; have := (h57).2; have := (h77).1; have := (h77).2; omega
              exact ih_40 x37 x38 x79 M64 R41 J63 H locs _ h_x37 h_x38 (iv_mono h77 (by decide) (by decide)) hm80 hS (lv_sub hl [2, 3, 0, 4, 5, 6] rfl)
      have hm81 : 2147483647 - (2 : Int32).toInt < (((2147483646 : Nat) : Int) : Int) := by
        have := (h16).1; have := (h16).2; have := (h29).1; have := (h29).2; have := (h15).1; have := (h15).2; have : (2 : Int32).toInt = 2 := (by decide); omega
      exact W33_40 2147483646 1 x36 2 M33 Ra J32 H locs _ (iv_mono (iv_c (c := 1) (n := 1) (by decide)) (by decide) (by decide)) h_x36 (iv_mono (iv_c (c := 2) (n := 2) (by decide)) (by decide) (by decide)) hm81 hS (lv_sub hl [2, 1, 0, 3, 4, 5] rfl)
    · have q82 : x23.toInt = 0 := ti_eq c26
      have q83 := p24.2 c26
      have q83 : a2.toInt < 0 ∨ 1 < a2.toInt := by rw [Int32.toInt_toInt64] at q83; exact q83
      have h84 : iv 0 0 x23 := ⟨by have := (h_x23).1; have := ((iv_c (c := 0) (n := 0) (by decide))).1; omega, by have := (h_x23).2; have := ((iv_c (c := 0) (n := 0) (by decide))).2; omega⟩
      refine lv_iconst (v := (-1)) hx hb dX12_tells_18 (by decide) ?_
      exact tw_endi hx hb hr hlocks hK hT hS hQ ((iv_mono (iv_c (c := (-1)) (n := (-1)) (by decide)) (by decide) (by decide))) dX12_tells_19
def Lt_X12_voice : WL := []
def LRt_X12_voice : WL := []
set_option maxRecDepth 100000 in
set_option maxHeartbeats 4000000 in
theorem t_X12_voice (l : Launch) (D : va_G) (cy : Nat → ClassId) (tx : (Nat → Nat) × (Nat → Nat)) (base Z : Nat) (K N : Nat → Nat) (Ma : MT) (Ra : RT) (Ja : JT) (hTy : Ty Z K N Ma Ra) (a0 : Nat) (hz_a0 : a0 < Z) (hk_a0 : K a0 = 12) (a1 : Int32) (h_a1 : iv (-2147483648) 2147483647 a1) (a2 : Int32) (h_a2 : iv (-2147483648) 2147483647 a2) : Met l yX12_voice [Cond.code yX12_voice cX12_voice 3 (some .int)] (md_rm 2 0 0) (va_Pc [.ref (base + a0), .int a1, .int a2] (md_U D cy tx base Z K N Ma Ra Ja)) (mQi D cy tx base (fun r u => TP Z K N Lt_X12_voice LRt_X12_voice Ma Ra u ∧ (iv (-2147483648) 2147483647 r))) 0 0 (fun q => base ≤ q) := by
  refine tw_ofW (L := Lt_X12_voice) (LR := LRt_X12_voice) (by decide) (Nat.le_of_ble_eq_true rfl) hTy ?_
  intro p e s m args below meth c Q ls hx hb hr hlocks hown hml hW hK hT hS hQ hl
  have hl : lv_has ls 3 [(0, .ref (base + a0)), (1, .int a1), (2, .int a2)] := hl
  refine lv_aload_n hx hb dX12_voice_0 rfl (lv_at hl 0 rfl) ?_
  refine lv_iload_n hx hb dX12_voice_1 rfl (lv_at hl 1 rfl) ?_
  refine tw_goi hS (md_runV (As := [.int a1]) (rest := []) hx hb hml hown hW hK hT hS.1 (t_X12_isMember l D cy tx base Z K N Ma Ra Ja hS.2.1 a0 hz_a0 hk_a0 a1 h_a1) s_X12_319 ⟨rfl, rfl, ⟨Nat.le_of_ble_eq_true rfl, Nat.le_of_ble_eq_true rfl⟩, ⟨Nat.le_of_ble_eq_true rfl, Nat.le_of_ble_eq_true rfl⟩⟩ hz_a0 hk_a0 (by decide) rfl rfl hl.1 rfl (Nat.le_of_ble_eq_true rfl) dX12_voice_2) rfl rfl (fun x7 H locs M4 R5 J3 hS f1 g2 E6 => ?_)
  have eM4 := Fr.nil f1 rfl
  subst eM4
  have eR5 := Fr.nil g2 rfl
  subst eR5
  obtain ⟨h_x7, p8⟩ := E6
  refine lv_if_eq (tgt := 20) hx hb dX12_voice_5 (by decide) (fun c9 => ?_) (fun c9 => ?_)
  · have q10 : x7.toInt = 0 := ti_eq c9
    have h11 : iv 0 0 x7 := ⟨by have := (h_x7).1; have := ((iv_c (c := 0) (n := 0) (by decide))).1; omega, by have := (h_x7).2; have := ((iv_c (c := 0) (n := 0) (by decide))).2; omega⟩
    refine lv_iconst (v := (-1)) hx hb dX12_voice_20 (by decide) ?_
    exact tw_endi hx hb hr hlocks hK hT hS hQ ((iv_mono (iv_c (c := (-1)) (n := (-1)) (by decide)) (by decide) (by decide))) dX12_voice_21
  · have q12 : ¬ x7.toInt = 0 := ti_ne c9
    have h13 : iv 1 1 x7 := ⟨by have := (h_x7).1; have := ((iv_c (c := 0) (n := 0) (by decide))).1; have := ((iv_c (c := 0) (n := 0) (by decide))).2; omega, by have := (h_x7).2; have := ((iv_c (c := 0) (n := 0) (by decide))).1; have := ((iv_c (c := 0) (n := 0) (by decide))).2; omega⟩
    have h14 : iv 0 9 a1 := ⟨by have := (p8 c9).1; have := (h_a1).1; omega, by have := (p8 c9).2; have := (h_a1).2; omega⟩
    refine lv_iload_n hx hb dX12_voice_8 rfl (lv_at hl 2 rfl) ?_
    refine lv_i2l hx hb dX12_voice_9 rfl ?_
    refine lv_lconst (v := 0) hx hb dX12_voice_10 (by decide) ?_
    refine lv_ldc2 hx hb hown (hW _ w_7_141 rfl) dX12_voice_11 ?_
    refine tw_goi hS (md_runS (As := [.long a2.toInt64, .long 0, .long 4]) (rest := []) hx hb hml hown hW hK hT hS.1 (t_X12_in l D cy tx base Z K N Ma Ra J3 hS.2.1 (a2.toInt64) (0) (4)) s_X12_155 ⟨rfl, rfl, ⟨Nat.le_of_ble_eq_true rfl, Nat.le_of_ble_eq_true rfl⟩, ⟨Nat.le_of_ble_eq_true rfl, Nat.le_of_ble_eq_true rfl⟩⟩ rfl hl.1 rfl (Nat.le_of_ble_eq_true rfl) dX12_voice_14) rfl rfl (fun x21 H locs M18 R19 J17 hS f15 g16 E20 => ?_)
    have eM18 := Fr.nil f15 rfl
    subst eM18
    have eR19 := Fr.nil g16 rfl
    subst eR19
    obtain ⟨h_x21, p22⟩ := E20
    have p23 := p22.1
    refine lv_if_ne (tgt := 22) hx hb dX12_voice_17 (by decide) (fun c24 => ?_) (fun c24 => ?_)
    · have q25 : ¬ x21.toInt = 0 := ti_ne c24
      have h26 : iv 1 1 x21 := ⟨by have := (h_x21).1; have := ((iv_c (c := 0) (n := 0) (by decide))).1; have := ((iv_c (c := 0) (n := 0) (by decide))).2; omega, by have := (h_x21).2; have := ((iv_c (c := 0) (n := 0) (by decide))).1; have := ((iv_c (c := 0) (n := 0) (by decide))).2; omega⟩
      have h27 : iv 0 4 a2 := in2iv (p23 c24) ((jv_c (x := 0) (n := 0) (by decide))).1 ((jv_c (x := 4) (n := 4) (by decide))).2
      refine lv_iload_n hx hb dX12_voice_22 rfl (lv_at hl 2 rfl) ?_
      refine lv_iconst (v := 2) hx hb dX12_voice_23 (by decide) ?_
      refine lv_icmp_ne (tgt := 46) hx hb dX12_voice_24 (by decide) (fun c28 => ?_) (fun c28 => ?_)
      · have q29 : ¬ a2.toInt = 2 := ti_ne c28
        refine lv_aload_n hx hb dX12_voice_46 rfl (lv_at hl 0 rfl) ?_
        refine tw_getr hx hb hW hown hK hS f_X12_45_11 hz_a0 hk_a0 (t := 23) (n := 226) rfl dX12_voice_47 (fun b30 k31 hz_b30 hk_b30 hn_b30 => ?_)
        have hn_b30 := hn_b30 (by decide)
        refine lv_iload_n hx hb dX12_voice_50 rfl (lv_at hl 2 rfl) ?_
        refine lv_if_ne (tgt := 59) hx hb dX12_voice_51 (by decide) (fun c32 => ?_) (fun c32 => ?_)
        · have q33 : ¬ a2.toInt = 0 := ti_ne c32
          have h34 : iv 1 4 a2 := ⟨by have := (h27).1; have := ((iv_c (c := 0) (n := 0) (by decide))).1; have := ((iv_c (c := 0) (n := 0) (by decide))).2; omega, by have := (h27).2; have := ((iv_c (c := 0) (n := 0) (by decide))).1; have := ((iv_c (c := 0) (n := 0) (by decide))).2; omega⟩
          refine lv_iload_n hx hb dX12_voice_59 rfl (lv_at hl 2 rfl) ?_
          refine lv_iconst (v := 1) hx hb dX12_voice_60 (by decide) ?_
          refine lv_icmp_ne (tgt := 69) hx hb dX12_voice_61 (by decide) (fun c35 => ?_) (fun c35 => ?_)
          · have q36 : ¬ a2.toInt = 1 := ti_ne c35
            have h37 : iv 2 4 a2 := ⟨by have := (h34).1; have := ((iv_c (c := 1) (n := 1) (by decide))).1; have := ((iv_c (c := 1) (n := 1) (by decide))).2; omega, by have := (h34).2; have := ((iv_c (c := 1) (n := 1) (by decide))).1; have := ((iv_c (c := 1) (n := 1) (by decide))).2; omega⟩
            refine lv_iload_n hx hb dX12_voice_69 rfl (lv_at hl 2 rfl) ?_
            refine lv_iconst (v := 3) hx hb dX12_voice_70 (by decide) ?_
            refine lv_icmp_ne (tgt := 79) hx hb dX12_voice_71 (by decide) (fun c38 => ?_) (fun c38 => ?_)
            · have q39 : ¬ a2.toInt = 3 := ti_ne c38
              refine lv_bipush (v := 40) hx hb dX12_voice_79 (by decide) ?_
              refine lv_iload_n hx hb dX12_voice_81 rfl (lv_at hl 1 rfl) ?_
              refine tw_iadd (lo := 40) (hi := 49) hx hb (iv_c (c := 40) (n := 40) (by decide)) h14 ⟨by decide, by decide⟩ ⟨by decide, by decide⟩ dX12_voice_82 (fun x42 e41 h40 => ?_)
              have e41 : x42.toInt = 40 + a1.toInt := e41
              refine tw_iald hx hb hK hS hz_b30 hk_b30 (Or.inr (by decide)) hn_b30 (lo := (-2147483648)) (hi := 2147483647) h40 ⟨by decide, by decide⟩ rg_full dX12_voice_83 (fun x45 k44 h43 => ?_)
              exact tw_endi hx hb hr hlocks hK hT hS hQ (h43) dX12_voice_84
            · have q46 : a2.toInt = 3 := ti_eq c38
              have h47 : iv 3 3 a2 := ⟨by have := (h37).1; have := ((iv_c (c := 3) (n := 3) (by decide))).1; omega, by have := (h37).2; have := ((iv_c (c := 3) (n := 3) (by decide))).2; omega⟩
              refine lv_bipush (v := 30) hx hb dX12_voice_74 (by decide) ?_
              refine lv_goto (tgt := 81) hx hb dX12_voice_76 (by decide) ?_
              refine lv_iload_n hx hb dX12_voice_81 rfl (lv_at hl 1 rfl) ?_
              refine tw_iadd (lo := 30) (hi := 39) hx hb (iv_c (c := 30) (n := 30) (by decide)) h14 ⟨by decide, by decide⟩ ⟨by decide, by decide⟩ dX12_voice_82 (fun x50 e49 h48 => ?_)
              have e49 : x50.toInt = 30 + a1.toInt := e49
              refine tw_iald hx hb hK hS hz_b30 hk_b30 (Or.inr (by decide)) hn_b30 (lo := (-2147483648)) (hi := 2147483647) h48 ⟨by decide, by decide⟩ rg_full dX12_voice_83 (fun x53 k52 h51 => ?_)
              exact tw_endi hx hb hr hlocks hK hT hS hQ (h51) dX12_voice_84
          · have q54 : a2.toInt = 1 := ti_eq c35
            have h55 : iv 1 1 a2 := ⟨by have := (h34).1; have := ((iv_c (c := 1) (n := 1) (by decide))).1; omega, by have := (h34).2; have := ((iv_c (c := 1) (n := 1) (by decide))).2; omega⟩
            refine lv_bipush (v := 20) hx hb dX12_voice_64 (by decide) ?_
            refine lv_goto (tgt := 81) hx hb dX12_voice_66 (by decide) ?_
            refine lv_iload_n hx hb dX12_voice_81 rfl (lv_at hl 1 rfl) ?_
            refine tw_iadd (lo := 20) (hi := 29) hx hb (iv_c (c := 20) (n := 20) (by decide)) h14 ⟨by decide, by decide⟩ ⟨by decide, by decide⟩ dX12_voice_82 (fun x58 e57 h56 => ?_)
            have e57 : x58.toInt = 20 + a1.toInt := e57
            refine tw_iald hx hb hK hS hz_b30 hk_b30 (Or.inr (by decide)) hn_b30 (lo := (-2147483648)) (hi := 2147483647) h56 ⟨by decide, by decide⟩ rg_full dX12_voice_83 (fun x61 k60 h59 => ?_)
            exact tw_endi hx hb hr hlocks hK hT hS hQ (h59) dX12_voice_84
        · have q62 : a2.toInt = 0 := ti_eq c32
          have h63 : iv 0 0 a2 := ⟨by have := (h27).1; have := ((iv_c (c := 0) (n := 0) (by decide))).1; omega, by have := (h27).2; have := ((iv_c (c := 0) (n := 0) (by decide))).2; omega⟩
          refine lv_bipush (v := 10) hx hb dX12_voice_54 (by decide) ?_
          refine lv_goto (tgt := 81) hx hb dX12_voice_56 (by decide) ?_
          refine lv_iload_n hx hb dX12_voice_81 rfl (lv_at hl 1 rfl) ?_
          refine tw_iadd (lo := 10) (hi := 19) hx hb (iv_c (c := 10) (n := 10) (by decide)) h14 ⟨by decide, by decide⟩ ⟨by decide, by decide⟩ dX12_voice_82 (fun x66 e65 h64 => ?_)
          have e65 : x66.toInt = 10 + a1.toInt := e65
          refine tw_iald hx hb hK hS hz_b30 hk_b30 (Or.inr (by decide)) hn_b30 (lo := 0) (hi := 9999) h64 ⟨by decide, by decide⟩ (rg_sv ⟨by decide, by decide⟩) dX12_voice_83 (fun x69 k68 h67 => ?_)
          exact tw_endi hx hb hr hlocks hK hT hS hQ ((iv_mono h67 (by decide) (by decide))) dX12_voice_84
      · have q70 : a2.toInt = 2 := ti_eq c28
        have h71 : iv 2 2 a2 := ⟨by have := (h27).1; have := ((iv_c (c := 2) (n := 2) (by decide))).1; omega, by have := (h27).2; have := ((iv_c (c := 2) (n := 2) (by decide))).2; omega⟩
        refine lv_aload_n hx hb dX12_voice_27 rfl (lv_at hl 0 rfl) ?_
        refine tw_getr hx hb hW hown hK hS f_X12_45_11 hz_a0 hk_a0 (t := 23) (n := 226) rfl dX12_voice_28 (fun b72 k73 hz_b72 hk_b72 hn_b72 => ?_)
        have hn_b72 := hn_b72 (by decide)
        refine lv_iconst (v := 2) hx hb dX12_voice_31 (by decide) ?_
        refine tw_iald hx hb hK hS hz_b72 hk_b72 (Or.inr (by decide)) hn_b72 (lo := (-2147483648)) (hi := 2147483647) (iv_c (c := 2) (n := 2) (by decide)) ⟨by decide, by decide⟩ (rg_c (k0 := 2) rfl rfl rfl) dX12_voice_32 (fun x76 k75 h74 => ?_)
        refine lv_iload_n hx hb dX12_voice_33 rfl (lv_at hl 1 rfl) ?_
        refine tw_goi hS (md_runS (As := [.int x76, .int a1]) (rest := []) hx hb hml hown hW hK hT hS.1 (t_X12_isOf l D cy tx base Z K N Ma Ra J17 hS.2.1 x76 h74 a1 h14) s_X12_322 ⟨rfl, rfl, ⟨Nat.le_of_ble_eq_true rfl, Nat.le_of_ble_eq_true rfl⟩, ⟨Nat.le_of_ble_eq_true rfl, Nat.le_of_ble_eq_true rfl⟩⟩ rfl hl.1 rfl (Nat.le_of_ble_eq_true rfl) dX12_voice_34) rfl rfl (fun x83 H locs M80 R81 J79 hS f77 g78 E82 => ?_)
        have eM80 := Fr.nil f77 rfl
        subst eM80
        have eR81 := Fr.nil g78 rfl
        subst eR81
        have h_x83 := E82
        clear E82
        refine lv_if_eq (tgt := 44) hx hb dX12_voice_37 (by decide) (fun c84 => ?_) (fun c84 => ?_)
        · have q85 : x83.toInt = 0 := ti_eq c84
          have h86 : iv 0 0 x83 := ⟨by have := (h_x83).1; have := ((iv_c (c := 0) (n := 0) (by decide))).1; omega, by have := (h_x83).2; have := ((iv_c (c := 0) (n := 0) (by decide))).2; omega⟩
          refine lv_iconst (v := 0) hx hb dX12_voice_44 (by decide) ?_
          exact tw_endi hx hb hr hlocks hK hT hS hQ ((iv_mono (iv_c (c := 0) (n := 0) (by decide)) (by decide) (by decide))) dX12_voice_45
        · have q87 : ¬ x83.toInt = 0 := ti_ne c84
          have h88 : iv 1 1 x83 := ⟨by have := (h_x83).1; have := ((iv_c (c := 0) (n := 0) (by decide))).1; have := ((iv_c (c := 0) (n := 0) (by decide))).2; omega, by have := (h_x83).2; have := ((iv_c (c := 0) (n := 0) (by decide))).1; have := ((iv_c (c := 0) (n := 0) (by decide))).2; omega⟩
          refine lv_iconst (v := 1) hx hb dX12_voice_40 (by decide) ?_
          refine lv_goto (tgt := 45) hx hb dX12_voice_41 (by decide) ?_
          exact tw_endi hx hb hr hlocks hK hT hS hQ ((iv_mono (iv_c (c := 1) (n := 1) (by decide)) (by decide) (by decide))) dX12_voice_45
    · have q89 : x21.toInt = 0 := ti_eq c24
      have q90 := p22.2 c24
      have q90 : a2.toInt < 0 ∨ 4 < a2.toInt := by rw [Int32.toInt_toInt64] at q90; exact q90
      have h91 : iv 0 0 x21 := ⟨by have := (h_x21).1; have := ((iv_c (c := 0) (n := 0) (by decide))).1; omega, by have := (h_x21).2; have := ((iv_c (c := 0) (n := 0) (by decide))).2; omega⟩
      refine lv_iconst (v := (-1)) hx hb dX12_voice_20 (by decide) ?_
      exact tw_endi hx hb hr hlocks hK hT hS hQ ((iv_mono (iv_c (c := (-1)) (n := (-1)) (by decide)) (by decide) (by decide))) dX12_voice_21
def Lt_X12_year : WL := [(12, 23, 24), (12, 28, 29), (12, 30, 33), (12, 35, 37), (14, 0, 2000000), (30, 0, 2000000), (31, 0, 2000000)]
def LRt_X12_year : WL := []
set_option maxRecDepth 100000 in
set_option maxHeartbeats 4000000 in
theorem t_X12_year (l : Launch) (D : va_G) (cy : Nat → ClassId) (tx : (Nat → Nat) × (Nat → Nat)) (base Z : Nat) (K N : Nat → Nat) (Ma : MT) (Ra : RT) (Ja : JT) (hTy : Ty Z K N Ma Ra) (a0 : Nat) (hz_a0 : a0 < Z) (hk_a0 : K a0 = 12) (a1 : Int32) (h_a1 : iv (-2147483648) 2147483647 a1) (a2 : Int32) (h_a2 : iv (-2147483648) 2147483647 a2) (a3 : Int32) (h_a3 : iv (-2147483648) 2147483647 a3) (co_a0 : Codes Ma Ra a0) : Met l yX12_year [Cond.code yX12_year cX12_year 10 (some .int)] (md_rm 5 0 0) (va_Pc [.ref (base + a0), .int a1, .int a2, .int a3] (md_U D cy tx base Z K N Ma Ra Ja)) (mQi D cy tx base (fun r u => TP Z K N Lt_X12_year LRt_X12_year Ma Ra u ∧ (iv (-2147483648) 2147483647 r))) 0 0 (fun q => base ≤ q) := by
  refine tw_ofW (L := Lt_X12_year) (LR := LRt_X12_year) (by decide) (Nat.le_of_ble_eq_true rfl) hTy ?_
  intro p e s m args below meth c Q ls hx hb hr hlocks hown hml hW hK hT hS hQ hl
  have hl : lv_has ls 10 [(0, .ref (base + a0)), (1, .int a1), (2, .int a2), (3, .int a3)] := hl
  refine lv_aload_n hx hb dX12_year_0 rfl (lv_at hl 0 rfl) ?_
  refine tw_getr hx hb hW hown hK hS f_X12_45_11 hz_a0 hk_a0 (t := 23) (n := 226) rfl dX12_year_1 (fun b1 k2 hz_b1 hk_b1 hn_b1 => ?_)
  have hn_b1 := hn_b1 (by decide)
  refine lv_iconst (v := 1) hx hb dX12_year_4 (by decide) ?_
  refine tw_iald hx hb hK hS hz_b1 hk_b1 (Or.inr (by decide)) hn_b1 (lo := 0) (hi := 12) (iv_c (c := 1) (n := 1) (by decide)) ⟨by decide, by decide⟩ (rg_c (k0 := 1) rfl rfl rfl) dX12_year_5 (fun x5 k4 h3 => ?_)
  refine lv_if_eq (tgt := 41) hx hb dX12_year_6 (by decide) (fun c6 => ?_) (fun c6 => ?_)
  · have q7 : x5.toInt = 0 := ti_eq c6
    have h8 : iv 0 0 x5 := ⟨by have := (h3).1; have := ((iv_c (c := 0) (n := 0) (by decide))).1; omega, by have := (h3).2; have := ((iv_c (c := 0) (n := 0) (by decide))).2; omega⟩
    refine lv_ldcw hx hb hown (hW _ w_8_46 rfl) dX12_year_41 ?_
    exact tw_endi hx hb hr hlocks hK hT hS hQ ((iv_mono (iv_c (c := (-1000000)) (n := (-1000000)) (by decide)) (by decide) (by decide))) dX12_year_44
  · have q9 : ¬ x5.toInt = 0 := ti_ne c6
    have h10 : iv 1 12 x5 := ⟨by have := (h3).1; have := ((iv_c (c := 0) (n := 0) (by decide))).1; have := ((iv_c (c := 0) (n := 0) (by decide))).2; omega, by have := (h3).2; have := ((iv_c (c := 0) (n := 0) (by decide))).1; have := ((iv_c (c := 0) (n := 0) (by decide))).2; omega⟩
    refine lv_iload_n hx hb dX12_year_9 rfl (lv_at hl 1 rfl) ?_
    refine lv_i2l hx hb dX12_year_10 rfl ?_
    refine lv_lconst (v := 1) hx hb dX12_year_11 (by decide) ?_
    refine lv_ldc2 hx hb hown (hW _ w_8_178 rfl) dX12_year_12 ?_
    refine tw_goi hS (md_runS (As := [.long a1.toInt64, .long 1, .long 400]) (rest := []) hx hb hml hown hW hK hT hS.1 (t_X12_in l D cy tx base Z K N Ma Ra Ja hS.2.1 (a1.toInt64) (1) (400)) s_X12_155 ⟨rfl, rfl, ⟨Nat.le_of_ble_eq_true rfl, Nat.le_of_ble_eq_true rfl⟩, ⟨Nat.le_of_ble_eq_true rfl, Nat.le_of_ble_eq_true rfl⟩⟩ rfl hl.1 rfl (Nat.le_of_ble_eq_true rfl) dX12_year_15) rfl rfl (fun x17 H locs M14 R15 J13 hS f11 g12 E16 => ?_)
    have eM14 := Fr.nil f11 rfl
    subst eM14
    have eR15 := Fr.nil g12 rfl
    subst eR15
    obtain ⟨h_x17, p18⟩ := E16
    have p19 := p18.1
    refine lv_if_eq (tgt := 41) hx hb dX12_year_18 (by decide) (fun c20 => ?_) (fun c20 => ?_)
    · have q21 : x17.toInt = 0 := ti_eq c20
      have q22 := p18.2 c20
      have q22 : a1.toInt < 1 ∨ 400 < a1.toInt := by rw [Int32.toInt_toInt64] at q22; exact q22
      have h23 : iv 0 0 x17 := ⟨by have := (h_x17).1; have := ((iv_c (c := 0) (n := 0) (by decide))).1; omega, by have := (h_x17).2; have := ((iv_c (c := 0) (n := 0) (by decide))).2; omega⟩
      refine lv_ldcw hx hb hown (hW _ w_8_46 rfl) dX12_year_41 ?_
      exact tw_endi hx hb hr hlocks hK hT hS hQ ((iv_mono (iv_c (c := (-1000000)) (n := (-1000000)) (by decide)) (by decide) (by decide))) dX12_year_44
    · have q24 : ¬ x17.toInt = 0 := ti_ne c20
      have h25 : iv 1 1 x17 := ⟨by have := (h_x17).1; have := ((iv_c (c := 0) (n := 0) (by decide))).1; have := ((iv_c (c := 0) (n := 0) (by decide))).2; omega, by have := (h_x17).2; have := ((iv_c (c := 0) (n := 0) (by decide))).1; have := ((iv_c (c := 0) (n := 0) (by decide))).2; omega⟩
      have h26 : iv 1 400 a1 := in2iv (p19 c20) ((jv_c (x := 1) (n := 1) (by decide))).1 ((jv_c (x := 400) (n := 400) (by decide))).2
      refine lv_aload_n hx hb dX12_year_21 rfl (lv_at hl 0 rfl) ?_
      refine lv_iload_n hx hb dX12_year_22 rfl (lv_at hl 2 rfl) ?_
      refine tw_goi hS (md_runV (As := [.int a2]) (rest := []) hx hb hml hown hW hK hT hS.1 (t_X12_isMember l D cy tx base Z K N Ma Ra J13 hS.2.1 a0 hz_a0 hk_a0 a2 h_a2) s_X12_319 ⟨rfl, rfl, ⟨Nat.le_of_ble_eq_true rfl, Nat.le_of_ble_eq_true rfl⟩, ⟨Nat.le_of_ble_eq_true rfl, Nat.le_of_ble_eq_true rfl⟩⟩ hz_a0 hk_a0 (by decide) rfl rfl hl.1 rfl (Nat.le_of_ble_eq_true rfl) dX12_year_23) rfl rfl (fun x33 H locs M30 R31 J29 hS f27 g28 E32 => ?_)
      have eM30 := Fr.nil f27 rfl
      subst eM30
      have eR31 := Fr.nil g28 rfl
      subst eR31
      obtain ⟨h_x33, p34⟩ := E32
      refine lv_if_eq (tgt := 41) hx hb dX12_year_26 (by decide) (fun c35 => ?_) (fun c35 => ?_)
      · have q36 : x33.toInt = 0 := ti_eq c35
        have h37 : iv 0 0 x33 := ⟨by have := (h_x33).1; have := ((iv_c (c := 0) (n := 0) (by decide))).1; omega, by have := (h_x33).2; have := ((iv_c (c := 0) (n := 0) (by decide))).2; omega⟩
        refine lv_ldcw hx hb hown (hW _ w_8_46 rfl) dX12_year_41 ?_
        exact tw_endi hx hb hr hlocks hK hT hS hQ ((iv_mono (iv_c (c := (-1000000)) (n := (-1000000)) (by decide)) (by decide) (by decide))) dX12_year_44
      · have q38 : ¬ x33.toInt = 0 := ti_ne c35
        have h39 : iv 1 1 x33 := ⟨by have := (h_x33).1; have := ((iv_c (c := 0) (n := 0) (by decide))).1; have := ((iv_c (c := 0) (n := 0) (by decide))).2; omega, by have := (h_x33).2; have := ((iv_c (c := 0) (n := 0) (by decide))).1; have := ((iv_c (c := 0) (n := 0) (by decide))).2; omega⟩
        have h40 : iv 0 9 a2 := ⟨by have := (p34 c35).1; have := (h_a2).1; omega, by have := (p34 c35).2; have := (h_a2).2; omega⟩
        refine lv_iload_n hx hb dX12_year_29 rfl (lv_at hl 3 rfl) ?_
        refine lv_i2l hx hb dX12_year_30 rfl ?_
        refine lv_lconst (v := 0) hx hb dX12_year_31 (by decide) ?_
        refine lv_ldc2 hx hb hown (hW _ w_7_178 rfl) dX12_year_32 ?_
        refine tw_goi hS (md_runS (As := [.long a3.toInt64, .long 0, .long 2]) (rest := []) hx hb hml hown hW hK hT hS.1 (t_X12_in l D cy tx base Z K N Ma Ra J29 hS.2.1 (a3.toInt64) (0) (2)) s_X12_155 ⟨rfl, rfl, ⟨Nat.le_of_ble_eq_true rfl, Nat.le_of_ble_eq_true rfl⟩, ⟨Nat.le_of_ble_eq_true rfl, Nat.le_of_ble_eq_true rfl⟩⟩ rfl hl.1 rfl (Nat.le_of_ble_eq_true rfl) dX12_year_35) rfl rfl (fun x47 H locs M44 R45 J43 hS f41 g42 E46 => ?_)
        have eM44 := Fr.nil f41 rfl
        subst eM44
        have eR45 := Fr.nil g42 rfl
        subst eR45
        obtain ⟨h_x47, p48⟩ := E46
        have p49 := p48.1
        refine lv_if_ne (tgt := 45) hx hb dX12_year_38 (by decide) (fun c50 => ?_) (fun c50 => ?_)
        · have q51 : ¬ x47.toInt = 0 := ti_ne c50
          have h52 : iv 1 1 x47 := ⟨by have := (h_x47).1; have := ((iv_c (c := 0) (n := 0) (by decide))).1; have := ((iv_c (c := 0) (n := 0) (by decide))).2; omega, by have := (h_x47).2; have := ((iv_c (c := 0) (n := 0) (by decide))).1; have := ((iv_c (c := 0) (n := 0) (by decide))).2; omega⟩
          have h53 : iv 0 2 a3 := in2iv (p49 c50) ((jv_c (x := 0) (n := 0) (by decide))).1 ((jv_c (x := 2) (n := 2) (by decide))).2
          refine lv_aload_n hx hb dX12_year_45 rfl (lv_at hl 0 rfl) ?_
          obtain ⟨x56, k54⟩ : ∃ x, Ma b1 (4 : Int32).toNatClampNeg = x := ⟨_, rfl⟩
          have h55 : iv 0 8 x56 := by rw [← k54]; exact hS.2.1.int hz_b1 hk_b1 (show rgI 23 (4 : Int32).toNatClampNeg = (0, 8) from rfl)
          refine tw_gov hS (md_runV (As := []) (rest := []) hx hb hml hown hW hK hT hS.1 (t_X12_begins l D cy tx base Z K N Ma Ra J43 hS.2.1 a0 hz_a0 hk_a0 b1 k2 x56 k54 (iv_mono h55 (by decide) (by decide))) s_X12_393 ⟨rfl, rfl, ⟨Nat.le_of_ble_eq_true rfl, Nat.le_of_ble_eq_true rfl⟩, ⟨Nat.le_of_ble_eq_true rfl, Nat.le_of_ble_eq_true rfl⟩⟩ hz_a0 hk_a0 (by decide) rfl rfl hl.1 rfl (Nat.le_of_ble_eq_true rfl) dX12_year_46) rfl rfl (fun H locs M60 R61 J59 hS f57 g58 E62 => ?_)
          have eR61 := Fr.nil g58 rfl
          subst eR61
          have p63 := E62
          clear E62
          have k64 : M60 a0 30 = x56 := p63
          refine lv_aload_n hx hb dX12_year_49 rfl (lv_at hl 0 rfl) ?_
          refine lv_iconst (v := 0) hx hb dX12_year_50 (by decide) ?_
          refine tw_puti hx hb hW hown hK hS f_X12_410_11 hz_a0 hk_a0 rfl rfl (lo := (-2147483648)) (hi := 2147483647) rfl (iv_mono (iv_c (c := 0) (n := 0) (by decide)) (by decide) (by decide)) rfl dX12_year_51 (fun H locs M67 hS k65 f66 => ?_)
          refine lv_aload_n hx hb dX12_year_54 rfl (lv_at hl 0 rfl) ?_
          refine lv_iconst (v := 0) hx hb dX12_year_55 (by decide) ?_
          refine tw_puti hx hb hW hown hK hS f_X12_407_11 hz_a0 hk_a0 rfl rfl (lo := (-2147483648)) (hi := 2147483647) rfl (iv_mono (iv_c (c := 0) (n := 0) (by decide)) (by decide) (by decide)) rfl dX12_year_56 (fun H locs M70 hS k68 f69 => ?_)
          refine lv_iconst (v := 0) hx hb dX12_year_59 (by decide) ?_
          refine lv_istore (lv' := [(4, .int 0), (0, .ref (base + a0)), (1, .int a1), (2, .int a2), (3, .int a3)]) hx hb dX12_year_60 hl (by decide) rfl (fun ls hl => ?_)
          refine lv_aload_n hx hb dX12_year_62 rfl (lv_at hl 1 rfl) ?_
          refine tw_getrk hx hb hW hown hK hS f_X12_45_11 hz_a0 hk_a0 (b := b1) k2 dX12_year_63 ?_
          refine lv_bipush (v := 6) hx hb dX12_year_66 (by decide) ?_
          refine tw_iald hx hb hK hS hz_b1 hk_b1 (Or.inr (by decide)) hn_b1 (lo := 0) (hi := 2147483647) (iv_c (c := 6) (n := 6) (by decide)) ⟨by decide, by decide⟩ (rg_c (k0 := 6) rfl rfl rfl) dX12_year_68 (fun x73 k72 h71 => ?_)
          refine lv_i2l hx hb dX12_year_69 rfl ?_
          refine lv_lstore (lv' := [(5, .long x73.toInt64), (4, .int 0), (0, .ref (base + a0)), (1, .int a1), (2, .int a2), (3, .int a3)]) hx hb dX12_year_70 hl (by decide) rfl (fun ls hl => ?_)
          refine lv_iconst (v := 0) hx hb dX12_year_72 (by decide) ?_
          refine lv_istore (lv' := [(7, .int 0), (5, .long x73.toInt64), (4, .int 0), (0, .ref (base + a0)), (1, .int a1), (2, .int a2), (3, .int a3)]) hx hb dX12_year_73 hl (by decide) rfl (fun ls hl => ?_)
          have W75_77 : ∀ (n_77 : Nat) (x74 : Int32) (x75 : Int64) (x76 : Int32) (M77 : MT) (R78 : RT) (J79 : JT) (H : Heap) (locs : List Loc) (ls : Array Slot) (h_x74 : iv 0 9999 x74) (h_x75 : jv 0 2147483647 x75) (h_x76 : iv 0 400 x76) (hm_77 : 400 - x76.toInt < (n_77 : Int)) (hS : SB D cy base Z K N Lt_X12_year LRt_X12_year Ma Ra M77 R78 J79 s H locs) (hl : lv_has ls 10 [(4, .int x74), (5, .long x75), (7, .int x76), (0, .ref (base + a0)), (1, .int a1), (2, .int a2), (3, .int a3)]), W p l e (md_rm 5 0 0) s m args below meth c H locs 0 0 Q (F0 m 75 ls []) := by
            intro n_77
            induction n_77 with
            | zero =>
              intro x74 x75 x76 M77 R78 J79 H locs ls h_x74 h_x75 h_x76 hm_77 hS hl
              exfalso
              have := (h26).1; have := (h26).2; have := (h40).1; have := (h40).2; have := (h53).1; have := (h53).2; have := (h_x76).1; have := (h_x76).2; omega
            | succ n_77 ih_77 =>
              intro x74 x75 x76 M77 R78 J79 H locs ls h_x74 h_x75 h_x76 hm_77 hS hl
              have f80 := hS.2.2.1
              have g81 := hS.2.2.2
              refine lv_iload hx hb dX12_year_75 (lv_at hl 2 rfl) ?_
              refine lv_iload_n hx hb dX12_year_77 rfl (lv_at hl 4 rfl) ?_
              refine lv_icmp_ge (tgt := 184) hx hb dX12_year_78 (by decide) (fun c82 => ?_) (fun c82 => ?_)
              · have q83 : a1.toInt ≤ x76.toInt := ti_le c82
                have h84 : iv 1 400 x76 := iv_geL (y := a1) h_x76 h26 q83 (by decide)
                refine lv_iload_n hx hb dX12_year_184 rfl (lv_at hl 6 rfl) ?_
                refine lv_if_ne (tgt := 195) hx hb dX12_year_185 (by decide) (fun c85 => ?_) (fun c85 => ?_)
                · have q86 : ¬ a3.toInt = 0 := ti_ne c85
                  have h87 : iv 1 2 a3 := ⟨by have := (h53).1; have := ((iv_c (c := 0) (n := 0) (by decide))).1; have := ((iv_c (c := 0) (n := 0) (by decide))).2; omega, by have := (h53).2; have := ((iv_c (c := 0) (n := 0) (by decide))).1; have := ((iv_c (c := 0) (n := 0) (by decide))).2; omega⟩
                  refine lv_iload_n hx hb dX12_year_195 rfl (lv_at hl 6 rfl) ?_
                  refine lv_iconst (v := 1) hx hb dX12_year_196 (by decide) ?_
                  refine lv_icmp_ne (tgt := 207) hx hb dX12_year_197 (by decide) (fun c88 => ?_) (fun c88 => ?_)
                  · have q89 : ¬ a3.toInt = 1 := ti_ne c88
                    have h90 : iv 2 2 a3 := ⟨by have := (h87).1; have := ((iv_c (c := 1) (n := 1) (by decide))).1; have := ((iv_c (c := 1) (n := 1) (by decide))).2; omega, by have := (h87).2; have := ((iv_c (c := 1) (n := 1) (by decide))).1; have := ((iv_c (c := 1) (n := 1) (by decide))).2; omega⟩
                    refine lv_iload hx hb dX12_year_207 (lv_at hl 0 rfl) ?_
                    exact tw_endi hx hb hr hlocks hK hT hS hQ ((iv_mono h_x74 (by decide) (by decide))) dX12_year_209
                  · have q91 : a3.toInt = 1 := ti_eq c88
                    have h92 : iv 1 1 a3 := ⟨by have := (h87).1; have := ((iv_c (c := 1) (n := 1) (by decide))).1; omega, by have := (h87).2; have := ((iv_c (c := 1) (n := 1) (by decide))).2; omega⟩
                    refine lv_aload_n hx hb dX12_year_200 rfl (lv_at hl 3 rfl) ?_
                    refine tw_geti hx hb hW hown hK hS f_X12_407_11 hz_a0 hk_a0 (lo := (-2147483648)) (hi := 2147483647) rfl dX12_year_201 (fun x95 k94 h93 => ?_)
                    refine lv_goto (tgt := 209) hx hb dX12_year_204 (by decide) ?_
                    exact tw_endi hx hb hr hlocks hK hT hS hQ (h93) dX12_year_209
                · have q96 : a3.toInt = 0 := ti_eq c85
                  have h97 : iv 0 0 a3 := ⟨by have := (h53).1; have := ((iv_c (c := 0) (n := 0) (by decide))).1; omega, by have := (h53).2; have := ((iv_c (c := 0) (n := 0) (by decide))).2; omega⟩
                  refine lv_aload_n hx hb dX12_year_188 rfl (lv_at hl 3 rfl) ?_
                  refine tw_geti hx hb hW hown hK hS f_X12_410_11 hz_a0 hk_a0 (lo := (-2147483648)) (hi := 2147483647) rfl dX12_year_189 (fun x100 k99 h98 => ?_)
                  refine lv_goto (tgt := 209) hx hb dX12_year_192 (by decide) ?_
                  exact tw_endi hx hb hr hlocks hK hT hS hQ (h98) dX12_year_209
              · have q101 : x76.toInt < a1.toInt := ti_nle c82
                have h102 : iv 0 399 x76 := iv_ltL (y := a1) h_x76 h26 q101 (by decide)
                refine lv_lload hx hb dX12_year_81 (lv_at hl 1 rfl) ?_
                refine lv_ldc2 hx hb hown (hW _ w_8_179 rfl) dX12_year_83 ?_
                refine lv_lmul hx hb dX12_year_86 ?_
                refine tw_tj (lo := 0) (hi := 2369780942852698515) (jv_mul h_x75 (jv_c (x := 1103515245) (n := 1103515245) (by decide)) ⟨by decide, by decide⟩ (by decide) ⟨by decide, by decide⟩) (fun x103 h104 => ?_)
                refine lv_ldc2 hx hb hown (hW _ w_8_180 rfl) dX12_year_87 ?_
                refine lv_ladd hx hb dX12_year_90 ?_
                refine tw_tj (lo := 12345) (hi := 2369780942852710860) (jv_add h104 (jv_c (x := 12345) (n := 12345) (by decide)) ⟨by decide, by decide⟩ ⟨by decide, by decide⟩) (fun x105 h106 => ?_)
                refine lv_ldc2 hx hb hown (hW _ w_8_181 rfl) dX12_year_91 ?_
                refine lv_lrem hx hb dX12_year_94 (by decide) ?_
                refine tw_tj (lo := 0) (hi := 2147483647) (jv_rem h106 (jv_c (x := 2147483648) (n := 2147483648) (by decide)) ⟨by decide, by decide⟩ ⟨by decide, by decide⟩) (fun x107 h108 => ?_)
                refine lv_lstore (lv' := [(5, .long x107), (4, .int x74), (7, .int x76), (0, .ref (base + a0)), (1, .int a1), (2, .int a2), (3, .int a3)]) hx hb dX12_year_95 hl (by decide) rfl (fun ls hl => ?_)
                refine lv_lload hx hb dX12_year_97 (lv_at hl 0 rfl) ?_
                refine lv_ldc2 hx hb hown (hW _ w_8_182 rfl) dX12_year_99 ?_
                refine lv_ldiv hx hb dX12_year_102 (by decide) ?_
                refine tw_tj (lo := 0) (hi := 32767) (jv_div h108 (jv_c (x := 65536) (n := 65536) (by decide)) ⟨by decide, by decide⟩ ⟨by decide, by decide⟩) (fun x109 h110 => ?_)
                refine lv_aload_n hx hb dX12_year_103 rfl (lv_at hl 3 rfl) ?_
                have k111 : R78 a0 25 = some b1 := (Fr.kp (k := 25) g81 hk_a0 rfl).trans k2
                refine tw_getrk hx hb hW hown hK hS f_X12_45_11 hz_a0 hk_a0 (b := b1) k111 dX12_year_104 ?_
                refine lv_iconst (v := 1) hx hb dX12_year_107 (by decide) ?_
                have k112 : M77 b1 (1 : Int32).toNatClampNeg = x5 := (Fr.kp (k := (1 : Int32).toNatClampNeg) f80 hk_b1 rfl).trans k4
                refine tw_ialk hx hb hK hS hz_b1 hk_b1 (Or.inr (by decide)) hn_b1 (iv_c (c := 1) (n := 1) (by decide)) ⟨by decide, by decide⟩ (v := x5) k112 dX12_year_108 ?_
                refine lv_i2l hx hb dX12_year_109 rfl ?_
                refine lv_lrem hx hb dX12_year_110 (lnz (jv_o h10) (by decide)) ?_
                refine tw_tj (lo := 0) (hi := 11) (jv_rem h110 (jv_o h10) ⟨by decide, by decide⟩ ⟨by decide, by decide⟩) (fun x113 h114 => ?_)
                refine lv_l2i hx hb dX12_year_111 rfl ?_
                refine tw_ti (jv_l2i h114 ⟨by decide, by decide⟩) (fun x116 h115 => ?_)
                refine lv_istore (lv' := [(8, .int x116), (5, .long x107), (4, .int x74), (7, .int x76), (0, .ref (base + a0)), (1, .int a1), (2, .int a2), (3, .int a3)]) hx hb dX12_year_112 hl (by decide) rfl (fun ls hl => ?_)
                refine lv_aload_n hx hb dX12_year_114 rfl (lv_at hl 4 rfl) ?_
                refine lv_iload hx hb dX12_year_115 (lv_at hl 0 rfl) ?_
                refine lv_iconst (v := (-1)) hx hb dX12_year_117 (by decide) ?_
                refine tw_gov hS (md_runV (As := [.int x116, .int (-1)]) (rest := []) hx hb hml hown hW hK hT hS.1 (t_X12_asks l D cy tx base Z K N M77 R78 J79 hS.2.1 a0 hz_a0 hk_a0 x116 h115 (-1) (iv_mono (iv_c (c := (-1)) (n := (-1)) (by decide)) (by decide) (by decide)) (Codes.fr co_a0 hTy hz_a0 hk_a0 hS.2.2.1 hS.2.2.2 rfl)) s_X12_396 ⟨rfl, rfl, ⟨Nat.le_of_ble_eq_true rfl, Nat.le_of_ble_eq_true rfl⟩, ⟨Nat.le_of_ble_eq_true rfl, Nat.le_of_ble_eq_true rfl⟩⟩ hz_a0 hk_a0 (by decide) rfl rfl hl.1 rfl (Nat.le_of_ble_eq_true rfl) dX12_year_118) rfl rfl (fun H locs M120 R121 J119 hS f117 g118 E122 => ?_)
                have eR121 := Fr.nil g118 rfl
                subst eR121
                refine lv_aload_n hx hb dX12_year_121 rfl (lv_at hl 4 rfl) ?_
                refine lv_iload_n hx hb dX12_year_122 rfl (lv_at hl 6 rfl) ?_
                refine lv_iload hx hb dX12_year_123 (lv_at hl 0 rfl) ?_
                refine lv_aload_n hx hb dX12_year_125 rfl (lv_at hl 4 rfl) ?_
                refine tw_goi hS (md_runV (As := []) (rest := [.int x116, .int a2, .ref (base + a0)]) hx hb hml hown hW hK hT hS.1 (t_X12_settles_ l D cy tx base Z K N M120 R78 J119 hS.2.1 a0 hz_a0 hk_a0) s_X12_399 ⟨rfl, rfl, ⟨Nat.le_of_ble_eq_true rfl, Nat.le_of_ble_eq_true rfl⟩, ⟨Nat.le_of_ble_eq_true rfl, Nat.le_of_ble_eq_true rfl⟩⟩ hz_a0 hk_a0 (by decide) rfl rfl hl.1 rfl (Nat.le_of_ble_eq_true rfl) dX12_year_126) rfl rfl (fun x129 H locs M126 R127 J125 hS f123 g124 E128 => ?_)
                have eR127 := Fr.nil g124 rfl
                subst eR127
                have h_x129 := E128
                clear E128
                refine tw_gov hS (md_runV (As := [.int a2, .int x116, .int x129]) (rest := []) hx hb hml hown hW hK hT hS.1 (t_X12_counts l D cy tx base Z K N M126 R78 J125 hS.2.1 a0 hz_a0 hk_a0 a2 h40 x116 h115 x129 h_x129) s_X12_413 ⟨rfl, rfl, ⟨Nat.le_of_ble_eq_true rfl, Nat.le_of_ble_eq_true rfl⟩, ⟨Nat.le_of_ble_eq_true rfl, Nat.le_of_ble_eq_true rfl⟩⟩ hz_a0 hk_a0 (by decide) rfl rfl hl.1 rfl (Nat.le_of_ble_eq_true rfl) dX12_year_129) rfl rfl (fun H locs M133 R134 J132 hS f130 g131 E135 => ?_)
                have eR134 := Fr.nil g131 rfl
                subst eR134
                refine lv_iconst (v := 0) hx hb dX12_year_132 (by decide) ?_
                refine lv_istore (lv' := [(9, .int 0), (8, .int x116), (5, .long x107), (4, .int x74), (7, .int x76), (0, .ref (base + a0)), (1, .int a1), (2, .int a2), (3, .int a3)]) hx hb dX12_year_133 hl (by decide) rfl (fun ls hl => ?_)
                have W135_138 : ∀ (n_138 : Nat) (x136 : Int32) (x137 : Int32) (M138 : MT) (R139 : RT) (J140 : JT) (H : Heap) (locs : List Loc) (ls : Array Slot) (h_x136 : iv 0 9999 x136) (h_x137 : iv 0 10 x137) (hm_138 : 10 - x137.toInt < (n_138 : Int)) (hS : SB D cy base Z K N Lt_X12_year LRt_X12_year Ma Ra M138 R139 J140 s H locs) (hl : lv_has ls 10 [(4, .int x136), (9, .int x137), (8, .int x116), (5, .long x107), (7, .int x76), (0, .ref (base + a0)), (1, .int a1), (2, .int a2), (3, .int a3)]), W p l e (md_rm 5 0 0) s m args below meth c H locs 0 0 Q (F0 m 135 ls []) := by
                  intro n_138
                  induction n_138 with
                  | zero =>
                    intro x136 x137 M138 R139 J140 H locs ls h_x136 h_x137 hm_138 hS hl
                    exfalso
                    have := (h26).1; have := (h26).2; have := (h40).1; have := (h40).2; have := (h53).1; have := (h53).2; have := (h_x137).1; have := (h_x137).2; omega
                  | succ n_138 ih_138 =>
                    intro x136 x137 M138 R139 J140 H locs ls h_x136 h_x137 hm_138 hS hl
                    have f141 := hS.2.2.1
                    have g142 := hS.2.2.2
                    refine lv_iload hx hb dX12_year_135 (lv_at hl 1 rfl) ?_
                    refine lv_aload_n hx hb dX12_year_137 rfl (lv_at hl 5 rfl) ?_
                    have k143 : R139 a0 25 = some b1 := (Fr.kp (k := 25) g142 hk_a0 rfl).trans k2
                    refine tw_getrk hx hb hW hown hK hS f_X12_45_11 hz_a0 hk_a0 (b := b1) k143 dX12_year_138 ?_
                    refine lv_iconst (v := 0) hx hb dX12_year_141 (by decide) ?_
                    refine tw_iald hx hb hK hS hz_b1 hk_b1 (Or.inr (by decide)) hn_b1 (lo := 0) (hi := 10) (iv_c (c := 0) (n := 0) (by decide)) ⟨by decide, by decide⟩ (rg_c (k0 := 0) rfl rfl rfl) dX12_year_142 (fun x146 k145 h144 => ?_)
                    refine lv_icmp_ge (tgt := 178) hx hb dX12_year_143 (by decide) (fun c147 => ?_) (fun c147 => ?_)
                    · have q148 : x146.toInt ≤ x137.toInt := ti_le c147
                      refine tw_iinc (lv' := fun x151 => [(7, .int x151), (4, .int x136), (9, .int x137), (8, .int x116), (5, .long x107), (0, .ref (base + a0)), (1, .int a1), (2, .int a2), (3, .int a3)]) (lo := 1) (hi := 400) hx hb dX12_year_178 hl (k := 4) rfl h102 (by decide) ⟨by decide, by decide⟩ ⟨by decide, by decide⟩ (by decide) (fun _ => rfl) (fun x151 ls e150 h149 hl => ?_)
                      refine lv_goto (tgt := 75) hx hb dX12_year_181 (by decide) ?_
                      have hm152 : 400 - x151.toInt < (n_77 : Int) := by
                        have := (h26).1; have := (h26).2; have := (h40).1; have := (h40).2; have := (h53).1; have := (h53).2; have := (h149).1; have := (h149).2; have := (h102).1; have := (h102).2; omega
                      exact ih_77 x136 (x107) x151 M138 R139 J140 H locs _ h_x136 (jv_mono h108 (by decide) (by decide)) (iv_mono h149 (by decide) (by decide)) hm152 hS (lv_sub hl [1, 4, 0, 5, 6, 7, 8] rfl)
                    · have q153 : x137.toInt < x146.toInt := ti_nle c147
                      have h154 : iv 0 9 x137 := iv_ltL (y := x146) h_x137 h144 q153 (by decide)
                      have h155 : iv 1 10 x146 := iv_gtL (y := x137) h144 h_x137 q153 (by decide)
                      refine lv_aload_n hx hb dX12_year_146 rfl (lv_at hl 5 rfl) ?_
                      refine tw_getr hx hb hW hown hK hS f_X12_51_11 hz_a0 hk_a0 (t := 30) (n := 10) rfl dX12_year_147 (fun b156 k157 hz_b156 hk_b156 hn_b156 => ?_)
                      have hn_b156 := hn_b156 (by decide)
                      refine lv_iload hx hb dX12_year_150 (lv_at hl 1 rfl) ?_
                      refine tw_iald hx hb hK hS hz_b156 hk_b156 (Or.inr (by decide)) hn_b156 (lo := 0) (hi := 9999) h154 ⟨by decide, by decide⟩ rg_u30 dX12_year_152 (fun x160 k159 h158 => ?_)
                      refine lv_iload hx hb dX12_year_153 (lv_at hl 0 rfl) ?_
                      refine lv_icmp_le (tgt := 168) hx hb dX12_year_155 (by decide) (fun c161 => ?_) (fun c161 => ?_)
                      · have q162 : x160.toInt ≤ x136.toInt := ti_le c161
                        refine lv_iload hx hb dX12_year_168 (lv_at hl 0 rfl) ?_
                        refine lv_istore (lv' := [(4, .int x136), (9, .int x137), (8, .int x116), (5, .long x107), (7, .int x76), (0, .ref (base + a0)), (1, .int a1), (2, .int a2), (3, .int a3)]) hx hb dX12_year_170 hl (by decide) rfl (fun ls hl => ?_)
                        refine tw_iinc (lv' := fun x165 => [(9, .int x165), (4, .int x136), (8, .int x116), (5, .long x107), (7, .int x76), (0, .ref (base + a0)), (1, .int a1), (2, .int a2), (3, .int a3)]) (lo := 1) (hi := 10) hx hb dX12_year_172 hl (k := 1) rfl h154 (by decide) ⟨by decide, by decide⟩ ⟨by decide, by decide⟩ (by decide) (fun _ => rfl) (fun x165 ls e164 h163 hl => ?_)
                        refine lv_goto (tgt := 135) hx hb dX12_year_175 (by decide) ?_
                        have hm166 : 10 - x165.toInt < (n_138 : Int) := by
                          have := (h26).1; have := (h26).2; have := (h40).1; have := (h40).2; have := (h53).1; have := (h53).2; have := (h154).1; have := (h154).2; have := (h163).1; have := (h163).2; omega
                        exact ih_138 x136 x165 M138 R139 J140 H locs _ h_x136 (iv_mono h163 (by decide) (by decide)) hm166 hS (lv_sub hl [1, 0, 2, 3, 4, 5, 6, 7, 8] rfl)
                      · have q167 : x136.toInt < x160.toInt := ti_nle c161
                        have h168 : iv 1 9999 x160 := iv_gtL (y := x136) h158 h_x136 q167 (by decide)
                        have h169 : iv 0 9998 x136 := iv_ltL (y := x160) h_x136 h158 q167 (by decide)
                        refine lv_aload_n hx hb dX12_year_158 rfl (lv_at hl 5 rfl) ?_
                        refine tw_getrk hx hb hW hown hK hS f_X12_51_11 hz_a0 hk_a0 (b := b156) k157 dX12_year_159 ?_
                        refine lv_iload hx hb dX12_year_162 (lv_at hl 1 rfl) ?_
                        refine tw_ialk hx hb hK hS hz_b156 hk_b156 (Or.inr (by decide)) hn_b156 h154 ⟨by decide, by decide⟩ (v := x160) k159 dX12_year_164 ?_
                        refine lv_goto (tgt := 170) hx hb dX12_year_165 (by decide) ?_
                        refine lv_istore (lv' := [(4, .int x160), (9, .int x137), (8, .int x116), (5, .long x107), (7, .int x76), (0, .ref (base + a0)), (1, .int a1), (2, .int a2), (3, .int a3)]) hx hb dX12_year_170 hl (by decide) rfl (fun ls hl => ?_)
                        refine tw_iinc (lv' := fun x172 => [(9, .int x172), (4, .int x160), (8, .int x116), (5, .long x107), (7, .int x76), (0, .ref (base + a0)), (1, .int a1), (2, .int a2), (3, .int a3)]) (lo := 1) (hi := 10) hx hb dX12_year_172 hl (k := 1) rfl h154 (by decide) ⟨by decide, by decide⟩ ⟨by decide, by decide⟩ (by decide) (fun _ => rfl) (fun x172 ls e171 h170 hl => ?_)
                        refine lv_goto (tgt := 135) hx hb dX12_year_175 (by decide) ?_
                        have hm173 : 10 - x172.toInt < (n_138 : Int) := by
                          have := (h26).1; have := (h26).2; have := (h40).1; have := (h40).2; have := (h53).1; have := (h53).2; have := (h154).1; have := (h154).2; have := (h170).1; have := (h170).2; omega
                        exact ih_138 x160 x172 M138 R139 J140 H locs _ (iv_mono h168 (by decide) (by decide)) (iv_mono h170 (by decide) (by decide)) hm173 hS (lv_sub hl [1, 0, 2, 3, 4, 5, 6, 7, 8] rfl)
                have hm174 : 10 - (0 : Int32).toInt < (((11 : Nat) : Int) : Int) := by
                  have := (h26).1; have := (h26).2; have := (h40).1; have := (h40).2; have := (h53).1; have := (h53).2; have : (0 : Int32).toInt = 0 := (by decide); omega
                exact W135_138 11 x74 0 M133 R78 J132 H locs _ h_x74 (iv_mono (iv_c (c := 0) (n := 0) (by decide)) (by decide) (by decide)) hm174 hS (lv_sub hl [3, 0, 1, 2, 4, 5, 6, 7, 8] rfl)
          have hm175 : 400 - (0 : Int32).toInt < (((401 : Nat) : Int) : Int) := by
            have := (h26).1; have := (h26).2; have := (h40).1; have := (h40).2; have := (h53).1; have := (h53).2; have : (0 : Int32).toInt = 0 := (by decide); omega
          exact W75_77 401 0 (x73.toInt64) 0 M70 Ra J59 H locs _ (iv_mono (iv_c (c := 0) (n := 0) (by decide)) (by decide) (by decide)) (jv_mono (jv_o h71) (by decide) (by decide)) (iv_mono (iv_c (c := 0) (n := 0) (by decide)) (by decide) (by decide)) hm175 hS (lv_sub hl [2, 1, 0, 3, 4, 5, 6] rfl)
        · have q176 : x47.toInt = 0 := ti_eq c50
          have q177 := p48.2 c50
          have q177 : a3.toInt < 0 ∨ 2 < a3.toInt := by rw [Int32.toInt_toInt64] at q177; exact q177
          have h178 : iv 0 0 x47 := ⟨by have := (h_x47).1; have := ((iv_c (c := 0) (n := 0) (by decide))).1; omega, by have := (h_x47).2; have := ((iv_c (c := 0) (n := 0) (by decide))).2; omega⟩
          refine lv_ldcw hx hb hown (hW _ w_8_46 rfl) dX12_year_41 ?_
          exact tw_endi hx hb hr hlocks hK hT hS hQ ((iv_mono (iv_c (c := (-1000000)) (n := (-1000000)) (by decide)) (by decide) (by decide))) dX12_year_44
