def Lt_X12_passesEvenly : WL := [(12, 23, 24), (12, 28, 29), (12, 31, 33), (12, 35, 37), (30, 0, 2000000)]
def LRt_X12_passesEvenly : WL := []
set_option maxRecDepth 100000 in
set_option maxHeartbeats 4000000 in
theorem t_X12_passesEvenly (l : Launch) (D : va_G) (cy : Nat → ClassId) (tx : (Nat → Nat) × (Nat → Nat)) (base Z : Nat) (K N : Nat → Nat) (Ma : MT) (Ra : RT) (Ja : JT) (hTy : Ty Z K N Ma Ra) (a0 : Nat) (hz_a0 : a0 < Z) (hk_a0 : K a0 = 12) (a1 : Int32) (h_a1 : iv 0 9 a1) (co_a0 : Codes Ma Ra a0) : Met l yX12_passesEvenly [Cond.code yX12_passesEvenly cX12_passesEvenly 4 none] (md_rm 5 0 0) (va_Pc [.ref (base + a0), .int a1] (md_U D cy tx base Z K N Ma Ra Ja)) (mQv D cy tx base (fun u => TP Z K N Lt_X12_passesEvenly LRt_X12_passesEvenly Ma Ra u ∧ (True))) 0 0 (fun q => base ≤ q) := by
  refine tw_ofW (L := Lt_X12_passesEvenly) (LR := LRt_X12_passesEvenly) (by decide) (Nat.le_of_ble_eq_true rfl) hTy ?_
  intro p e s m args below meth c Q ls hx hb hr hlocks hown hml hW hK hT hS hQ hl
  have hl : lv_has ls 4 [(0, .ref (base + a0)), (1, .int a1)] := hl
  refine lv_iconst (v := 0) hx hb dX12_passesEvenly_0 (by decide) ?_
  refine lv_istore_n (lv' := [(2, .int 0), (0, .ref (base + a0)), (1, .int a1)]) hx hb dX12_passesEvenly_1 rfl hl (by decide) rfl (fun ls hl => ?_)
  have W2_2 : ∀ (n_2 : Nat) (x1 : Int32) (M2 : MT) (R3 : RT) (J4 : JT) (H : Heap) (locs : List Loc) (ls : Array Slot) (h_x1 : iv 0 8 x1) (hm_2 : 8 - x1.toInt < (n_2 : Int)) (hS : SB D cy base Z K N Lt_X12_passesEvenly LRt_X12_passesEvenly Ma Ra M2 R3 J4 s H locs) (hl : lv_has ls 4 [(2, .int x1), (0, .ref (base + a0)), (1, .int a1)]), W p l e (md_rm 5 0 0) s m args below meth c H locs 0 0 Q (F0 m 2 ls []) := by
    intro n_2
    induction n_2 with
    | zero =>
      intro x1 M2 R3 J4 H locs ls h_x1 hm_2 hS hl
      exfalso
      have := (h_a1).1; have := (h_a1).2; have := (h_x1).1; have := (h_x1).2; omega
    | succ n_2 ih_2 =>
      intro x1 M2 R3 J4 H locs ls h_x1 hm_2 hS hl
      have f5 := hS.2.2.1
      have g6 := hS.2.2.2
      refine lv_iload_n hx hb dX12_passesEvenly_2 rfl (lv_at hl 0 rfl) ?_
      refine lv_aload_n hx hb dX12_passesEvenly_3 rfl (lv_at hl 1 rfl) ?_
      refine tw_geti hx hb hW hown hK hS f_X12_351_11 hz_a0 hk_a0 (lo := 0) (hi := 8) rfl dX12_passesEvenly_4 (fun x9 k8 h7 => ?_)
      refine lv_icmp_ge (tgt := 73) hx hb dX12_passesEvenly_7 (by decide) (fun c10 => ?_) (fun c10 => ?_)
      · have q11 : x9.toInt ≤ x1.toInt := ti_le c10
        exact tw_endv hx hb hr hlocks hK hT hS hQ (trivial) dX12_passesEvenly_73
      · have q12 : x1.toInt < x9.toInt := ti_nle c10
        have h13 : iv 0 7 x1 := iv_ltL (y := x9) h_x1 h7 q12 (by decide)
        have h14 : iv 1 8 x9 := iv_gtL (y := x1) h7 h_x1 q12 (by decide)
        refine lv_iconst (v := 0) hx hb dX12_passesEvenly_10 (by decide) ?_
        refine lv_istore_n (lv' := [(3, .int 0), (2, .int x1), (0, .ref (base + a0)), (1, .int a1)]) hx hb dX12_passesEvenly_11 rfl hl (by decide) rfl (fun ls hl => ?_)
        have W12_16 : ∀ (n_16 : Nat) (x15 : Int32) (M16 : MT) (R17 : RT) (J18 : JT) (H : Heap) (locs : List Loc) (ls : Array Slot) (h_x15 : iv 0 10 x15) (hm_16 : 10 - x15.toInt < (n_16 : Int)) (hS : SB D cy base Z K N Lt_X12_passesEvenly LRt_X12_passesEvenly Ma Ra M16 R17 J18 s H locs) (hl : lv_has ls 4 [(3, .int x15), (2, .int x1), (0, .ref (base + a0)), (1, .int a1)]), W p l e (md_rm 5 0 0) s m args below meth c H locs 0 0 Q (F0 m 12 ls []) := by
          intro n_16
          induction n_16 with
          | zero =>
            intro x15 M16 R17 J18 H locs ls h_x15 hm_16 hS hl
            exfalso
            have := (h_a1).1; have := (h_a1).2; have := (h_x15).1; have := (h_x15).2; omega
          | succ n_16 ih_16 =>
            intro x15 M16 R17 J18 H locs ls h_x15 hm_16 hS hl
            have f19 := hS.2.2.1
            have g20 := hS.2.2.2
            refine lv_iload_n hx hb dX12_passesEvenly_12 rfl (lv_at hl 0 rfl) ?_
            refine lv_bipush (v := 10) hx hb dX12_passesEvenly_13 (by decide) ?_
            refine lv_icmp_ge (tgt := 31) hx hb dX12_passesEvenly_15 (by decide) (fun c21 => ?_) (fun c21 => ?_)
            · have q22 : 10 ≤ x15.toInt := ti_le c21
              have h23 : iv 10 10 x15 := iv_geL (y := 10) h_x15 (iv_c (c := 10) (n := 10) (by decide)) q22 (by decide)
              refine lv_aload_n hx hb dX12_passesEvenly_31 rfl (lv_at hl 2 rfl) ?_
              refine lv_aload_n hx hb dX12_passesEvenly_32 rfl (lv_at hl 2 rfl) ?_
              refine tw_getr hx hb hW hown hK hS f_X12_54_11 hz_a0 hk_a0 (t := 31) (n := 8) rfl dX12_passesEvenly_33 (fun b24 k25 hz_b24 hk_b24 hn_b24 => ?_)
              have hn_b24 := hn_b24 (by decide)
              refine lv_iload_n hx hb dX12_passesEvenly_36 rfl (lv_at hl 1 rfl) ?_
              refine tw_iald hx hb hK hS hz_b24 hk_b24 (Or.inr (by decide)) hn_b24 (lo := 0) (hi := 11) h13 ⟨by decide, by decide⟩ rg_u31 dX12_passesEvenly_37 (fun x28 k27 h26 => ?_)
              refine lv_iload_n hx hb dX12_passesEvenly_38 rfl (lv_at hl 1 rfl) ?_
              refine tw_gov hS (md_runV (As := [.int x28, .int x1]) (rest := []) hx hb hml hown hW hK hT hS.1 (t_X12_asks l D cy tx base Z K N M16 R17 J18 hS.2.1 a0 hz_a0 hk_a0 x28 h26 x1 (iv_mono h13 (by decide) (by decide)) (Codes.fr co_a0 hTy hz_a0 hk_a0 hS.2.2.1 hS.2.2.2 rfl)) s_X12_396 ⟨rfl, rfl, ⟨Nat.le_of_ble_eq_true rfl, Nat.le_of_ble_eq_true rfl⟩, ⟨Nat.le_of_ble_eq_true rfl, Nat.le_of_ble_eq_true rfl⟩⟩ hz_a0 hk_a0 (by decide) rfl rfl hl.1 rfl (Nat.le_of_ble_eq_true rfl) dX12_passesEvenly_39) rfl rfl (fun H locs M32 R33 J31 hS f29 g30 E34 => ?_)
              have eR33 := Fr.nil g30 rfl
              subst eR33
              refine lv_aload_n hx hb dX12_passesEvenly_42 rfl (lv_at hl 2 rfl) ?_
              refine lv_iload_n hx hb dX12_passesEvenly_43 rfl (lv_at hl 3 rfl) ?_
              refine lv_aload_n hx hb dX12_passesEvenly_44 rfl (lv_at hl 2 rfl) ?_
              refine tw_getrk hx hb hW hown hK hS f_X12_54_11 hz_a0 hk_a0 (b := b24) k25 dX12_passesEvenly_45 ?_
              refine lv_iload_n hx hb dX12_passesEvenly_48 rfl (lv_at hl 1 rfl) ?_
              have k35 : M32 b24 x1.toNatClampNeg = x28 := (Fr.kpa f29 hk_b24 rfl x1.toNatClampNeg).trans k27
              refine tw_ialk hx hb hK hS hz_b24 hk_b24 (Or.inr (by decide)) hn_b24 h13 ⟨by decide, by decide⟩ (v := x28) k35 dX12_passesEvenly_49 ?_
              refine lv_aload_n hx hb dX12_passesEvenly_50 rfl (lv_at hl 2 rfl) ?_
              refine tw_goi hS (md_runV (As := []) (rest := [.int x28, .int a1, .ref (base + a0)]) hx hb hml hown hW hK hT hS.1 (t_X12_result l D cy tx base Z K N M32 R17 J31 hS.2.1 a0 hz_a0 hk_a0) s_X12_383 ⟨rfl, rfl, ⟨Nat.le_of_ble_eq_true rfl, Nat.le_of_ble_eq_true rfl⟩, ⟨Nat.le_of_ble_eq_true rfl, Nat.le_of_ble_eq_true rfl⟩⟩ hz_a0 hk_a0 (by decide) rfl rfl hl.1 rfl (Nat.le_of_ble_eq_true rfl) dX12_passesEvenly_51) rfl rfl (fun x42 H locs M39 R40 J38 hS f36 g37 E41 => ?_)
              have eM39 := Fr.nil f36 rfl
              subst eM39
              have eR40 := Fr.nil g37 rfl
              subst eR40
              have h_x42 := E41
              refine tw_gov hS (md_runV (As := [.int a1, .int x28, .int x42]) (rest := []) hx hb hml hown hW hK hT hS.1 (t_X12_counts l D cy tx base Z K N M32 R17 J38 hS.2.1 a0 hz_a0 hk_a0 a1 h_a1 x28 h26 x42 h_x42) s_X12_413 ⟨rfl, rfl, ⟨Nat.le_of_ble_eq_true rfl, Nat.le_of_ble_eq_true rfl⟩, ⟨Nat.le_of_ble_eq_true rfl, Nat.le_of_ble_eq_true rfl⟩⟩ hz_a0 hk_a0 (by decide) rfl rfl hl.1 rfl (Nat.le_of_ble_eq_true rfl) dX12_passesEvenly_54) rfl rfl (fun H locs M46 R47 J45 hS f43 g44 E48 => ?_)
              have eR47 := Fr.nil g44 rfl
              subst eR47
              refine lv_aload_n hx hb dX12_passesEvenly_57 rfl (lv_at hl 2 rfl) ?_
              refine lv_dup hx hb dX12_passesEvenly_58 rfl ?_
              refine tw_geti hx hb hW hown hK hS f_X12_348_11 hz_a0 hk_a0 (lo := (-2147483648)) (hi := 2147483647) rfl dX12_passesEvenly_59 (fun x51 k50 h49 => ?_)
              refine lv_iconst (v := 1) hx hb dX12_passesEvenly_62 (by decide) ?_
              refine lv_iadd hx hb dX12_passesEvenly_63 ?_
              refine tw_top (fun x53 => ?_)
              have h52 := iv_any x53
              refine tw_puti hx hb hW hown hK hS f_X12_348_11 hz_a0 hk_a0 rfl rfl (lo := (-2147483648)) (hi := 2147483647) rfl h52 rfl dX12_passesEvenly_64 (fun H locs M56 hS k54 f55 => ?_)
              refine tw_iinc (lv' := fun x59 => [(2, .int x59), (3, .int x15), (0, .ref (base + a0)), (1, .int a1)]) (lo := 1) (hi := 8) hx hb dX12_passesEvenly_67 hl (k := 1) rfl h13 (by decide) ⟨by decide, by decide⟩ ⟨by decide, by decide⟩ (by decide) (fun _ => rfl) (fun x59 ls e58 h57 hl => ?_)
              refine lv_goto (tgt := 2) hx hb dX12_passesEvenly_70 (by decide) ?_
              have hm60 : 8 - x59.toInt < (n_2 : Int) := by
                have := (h_a1).1; have := (h_a1).2; have := (h13).1; have := (h13).2; have := (h57).1; have := (h57).2; omega
              exact ih_2 x59 M56 R17 J45 H locs _ (iv_mono h57 (by decide) (by decide)) hm60 hS (lv_sub hl [0, 2, 3] rfl)
            · have q61 : x15.toInt < 10 := ti_nle c21
              have h62 : iv 0 9 x15 := iv_ltL (y := 10) h_x15 (iv_c (c := 10) (n := 10) (by decide)) q61 (by decide)
              refine lv_aload_n hx hb dX12_passesEvenly_18 rfl (lv_at hl 2 rfl) ?_
              refine tw_getr hx hb hW hown hK hS f_X12_51_11 hz_a0 hk_a0 (t := 30) (n := 10) rfl dX12_passesEvenly_19 (fun b63 k64 hz_b63 hk_b63 hn_b63 => ?_)
              have hn_b63 := hn_b63 (by decide)
              refine lv_iload_n hx hb dX12_passesEvenly_22 rfl (lv_at hl 0 rfl) ?_
              refine lv_iconst (v := 1) hx hb dX12_passesEvenly_23 (by decide) ?_
              refine tw_iast hx hb hK hS hz_b63 hk_b63 (Or.inr (by decide)) hn_b63 h62 ⟨by decide, by decide⟩ (iv_c (c := 1) (n := 1) (by decide)) (rg_s30 ⟨by decide, by decide⟩) (jl := 0) (jh := 1999999) ⟨by decide, by decide⟩ rfl dX12_passesEvenly_24 (fun H locs M67 hS k65 f66 => ?_)
              refine tw_iinc (lv' := fun x70 => [(3, .int x70), (2, .int x1), (0, .ref (base + a0)), (1, .int a1)]) (lo := 1) (hi := 10) hx hb dX12_passesEvenly_25 hl (k := 0) rfl h62 (by decide) ⟨by decide, by decide⟩ ⟨by decide, by decide⟩ (by decide) (fun _ => rfl) (fun x70 ls e69 h68 hl => ?_)
              refine lv_goto (tgt := 12) hx hb dX12_passesEvenly_28 (by decide) ?_
              have hm71 : 10 - x70.toInt < (n_16 : Int) := by
                have := (h_a1).1; have := (h_a1).2; have := (h62).1; have := (h62).2; have := (h68).1; have := (h68).2; omega
              exact ih_16 x70 M67 R17 J18 H locs _ (iv_mono h68 (by decide) (by decide)) hm71 hS hl
        have hm72 : 10 - (0 : Int32).toInt < (((11 : Nat) : Int) : Int) := by
          have := (h_a1).1; have := (h_a1).2; have : (0 : Int32).toInt = 0 := (by decide); omega
        exact W12_16 11 0 M2 R3 J4 H locs _ (iv_mono (iv_c (c := 0) (n := 0) (by decide)) (by decide) (by decide)) hm72 hS hl
  have hm73 : 8 - (0 : Int32).toInt < (((9 : Nat) : Int) : Int) := by
    have := (h_a1).1; have := (h_a1).2; have : (0 : Int32).toInt = 0 := (by decide); omega
  exact W2_2 9 0 Ma Ra Ja s.heap [] _ (iv_mono (iv_c (c := 0) (n := 0) (by decide)) (by decide) (by decide)) hm73 hS hl
def Lt_X12_open : WL := [(12, 23, 24), (12, 28, 29), (12, 30, 33), (12, 35, 37), (14, 0, 2000000), (30, 0, 2000000), (31, 0, 2000000)]
def LRt_X12_open : WL := []
set_option maxRecDepth 100000 in
set_option maxHeartbeats 4000000 in
theorem t_X12_open (l : Launch) (D : va_G) (cy : Nat → ClassId) (tx : (Nat → Nat) × (Nat → Nat)) (base Z : Nat) (K N : Nat → Nat) (Ma : MT) (Ra : RT) (Ja : JT) (hTy : Ty Z K N Ma Ra) (a0 : Nat) (hz_a0 : a0 < Z) (hk_a0 : K a0 = 12) (a1 : Int32) (h_a1 : iv (-2147483648) 2147483647 a1) (a2 : Int32) (h_a2 : iv (-2147483648) 2147483647 a2) (a3 : Int32) (h_a3 : iv (-2147483648) 2147483647 a3) (co_a0 : Codes Ma Ra a0) : Met l yX12_open [Cond.code yX12_open cX12_open 6 (some .int)] (md_rm 6 0 0) (va_Pc [.ref (base + a0), .int a1, .int a2, .int a3] (md_U D cy tx base Z K N Ma Ra Ja)) (mQi D cy tx base (fun r u => TP Z K N Lt_X12_open LRt_X12_open Ma Ra u ∧ (iv (-2147483648) 2147483647 r))) 0 0 (fun q => base ≤ q) := by
  refine tw_ofW (L := Lt_X12_open) (LR := LRt_X12_open) (by decide) (Nat.le_of_ble_eq_true rfl) hTy ?_
  intro p e s m args below meth c Q ls hx hb hr hlocks hown hml hW hK hT hS hQ hl
  have hl : lv_has ls 6 [(0, .ref (base + a0)), (1, .int a1), (2, .int a2), (3, .int a3)] := hl
  refine lv_iload_n hx hb dX12_open_0 rfl (lv_at hl 1 rfl) ?_
  refine lv_i2l hx hb dX12_open_1 rfl ?_
  refine lv_lconst (v := 0) hx hb dX12_open_2 (by decide) ?_
  refine lv_ldc2 hx hb hown (hW _ w_8_45 rfl) dX12_open_3 ?_
  refine tw_goi hS (md_runS (As := [.long a1.toInt64, .long 0, .long 60]) (rest := []) hx hb hml hown hW hK hT hS.1 (t_X12_in l D cy tx base Z K N Ma Ra Ja hS.2.1 (a1.toInt64) (0) (60)) s_X12_155 ⟨rfl, rfl, ⟨Nat.le_of_ble_eq_true rfl, Nat.le_of_ble_eq_true rfl⟩, ⟨Nat.le_of_ble_eq_true rfl, Nat.le_of_ble_eq_true rfl⟩⟩ rfl hl.1 rfl (Nat.le_of_ble_eq_true rfl) dX12_open_6) rfl rfl (fun x7 H locs M4 R5 J3 hS f1 g2 E6 => ?_)
  have eM4 := Fr.nil f1 rfl
  subst eM4
  have eR5 := Fr.nil g2 rfl
  subst eR5
  obtain ⟨h_x7, p8⟩ := E6
  refine lv_if_eq (tgt := 32) hx hb dX12_open_9 (by decide) (fun c9 => ?_) (fun c9 => ?_)
  · have q10 : x7.toInt = 0 := ti_eq c9
    have h11 : iv 0 0 x7 := ⟨by have := (h_x7).1; have := ((iv_c (c := 0) (n := 0) (by decide))).1; omega, by have := (h_x7).2; have := ((iv_c (c := 0) (n := 0) (by decide))).2; omega⟩
    refine lv_ldcw hx hb hown (hW _ w_8_46 rfl) dX12_open_32 ?_
    exact tw_endi hx hb hr hlocks hK hT hS hQ ((iv_mono (iv_c (c := (-1000000)) (n := (-1000000)) (by decide)) (by decide) (by decide))) dX12_open_35
  · have q12 : ¬ x7.toInt = 0 := ti_ne c9
    have h13 : iv 1 1 x7 := ⟨by have := (h_x7).1; have := ((iv_c (c := 0) (n := 0) (by decide))).1; have := ((iv_c (c := 0) (n := 0) (by decide))).2; omega, by have := (h_x7).2; have := ((iv_c (c := 0) (n := 0) (by decide))).1; have := ((iv_c (c := 0) (n := 0) (by decide))).2; omega⟩
    have h14 : iv 0 60 a1 := in2iv (p8 c9) ((jv_c (x := 0) (n := 0) (by decide))).1 ((jv_c (x := 60) (n := 60) (by decide))).2
    refine lv_aload_n hx hb dX12_open_12 rfl (lv_at hl 0 rfl) ?_
    refine lv_iload_n hx hb dX12_open_13 rfl (lv_at hl 2 rfl) ?_
    refine tw_goi hS (md_runV (As := [.int a2]) (rest := []) hx hb hml hown hW hK hT hS.1 (t_X12_isMember l D cy tx base Z K N Ma Ra J3 hS.2.1 a0 hz_a0 hk_a0 a2 h_a2) s_X12_319 ⟨rfl, rfl, ⟨Nat.le_of_ble_eq_true rfl, Nat.le_of_ble_eq_true rfl⟩, ⟨Nat.le_of_ble_eq_true rfl, Nat.le_of_ble_eq_true rfl⟩⟩ hz_a0 hk_a0 (by decide) rfl rfl hl.1 rfl (Nat.le_of_ble_eq_true rfl) dX12_open_14) rfl rfl (fun x21 H locs M18 R19 J17 hS f15 g16 E20 => ?_)
    have eM18 := Fr.nil f15 rfl
    subst eM18
    have eR19 := Fr.nil g16 rfl
    subst eR19
    obtain ⟨h_x21, p22⟩ := E20
    refine lv_if_eq (tgt := 32) hx hb dX12_open_17 (by decide) (fun c23 => ?_) (fun c23 => ?_)
    · have q24 : x21.toInt = 0 := ti_eq c23
      have h25 : iv 0 0 x21 := ⟨by have := (h_x21).1; have := ((iv_c (c := 0) (n := 0) (by decide))).1; omega, by have := (h_x21).2; have := ((iv_c (c := 0) (n := 0) (by decide))).2; omega⟩
      refine lv_ldcw hx hb hown (hW _ w_8_46 rfl) dX12_open_32 ?_
      exact tw_endi hx hb hr hlocks hK hT hS hQ ((iv_mono (iv_c (c := (-1000000)) (n := (-1000000)) (by decide)) (by decide) (by decide))) dX12_open_35
    · have q26 : ¬ x21.toInt = 0 := ti_ne c23
      have h27 : iv 1 1 x21 := ⟨by have := (h_x21).1; have := ((iv_c (c := 0) (n := 0) (by decide))).1; have := ((iv_c (c := 0) (n := 0) (by decide))).2; omega, by have := (h_x21).2; have := ((iv_c (c := 0) (n := 0) (by decide))).1; have := ((iv_c (c := 0) (n := 0) (by decide))).2; omega⟩
      have h28 : iv 0 9 a2 := ⟨by have := (p22 c23).1; have := (h_a2).1; omega, by have := (p22 c23).2; have := (h_a2).2; omega⟩
      refine lv_iload_n hx hb dX12_open_20 rfl (lv_at hl 3 rfl) ?_
      refine lv_i2l hx hb dX12_open_21 rfl ?_
      refine lv_lconst (v := 0) hx hb dX12_open_22 (by decide) ?_
      refine lv_ldc2 hx hb hown (hW _ w_7_141 rfl) dX12_open_23 ?_
      refine tw_goi hS (md_runS (As := [.long a3.toInt64, .long 0, .long 4]) (rest := []) hx hb hml hown hW hK hT hS.1 (t_X12_in l D cy tx base Z K N Ma Ra J17 hS.2.1 (a3.toInt64) (0) (4)) s_X12_155 ⟨rfl, rfl, ⟨Nat.le_of_ble_eq_true rfl, Nat.le_of_ble_eq_true rfl⟩, ⟨Nat.le_of_ble_eq_true rfl, Nat.le_of_ble_eq_true rfl⟩⟩ rfl hl.1 rfl (Nat.le_of_ble_eq_true rfl) dX12_open_26) rfl rfl (fun x35 H locs M32 R33 J31 hS f29 g30 E34 => ?_)
      have eM32 := Fr.nil f29 rfl
      subst eM32
      have eR33 := Fr.nil g30 rfl
      subst eR33
      obtain ⟨h_x35, p36⟩ := E34
      refine lv_if_ne (tgt := 36) hx hb dX12_open_29 (by decide) (fun c37 => ?_) (fun c37 => ?_)
      · have q38 : ¬ x35.toInt = 0 := ti_ne c37
        have h39 : iv 1 1 x35 := ⟨by have := (h_x35).1; have := ((iv_c (c := 0) (n := 0) (by decide))).1; have := ((iv_c (c := 0) (n := 0) (by decide))).2; omega, by have := (h_x35).2; have := ((iv_c (c := 0) (n := 0) (by decide))).1; have := ((iv_c (c := 0) (n := 0) (by decide))).2; omega⟩
        have h40 : iv 0 4 a3 := in2iv (p36 c37) ((jv_c (x := 0) (n := 0) (by decide))).1 ((jv_c (x := 4) (n := 4) (by decide))).2
        refine lv_aload_n hx hb dX12_open_36 rfl (lv_at hl 0 rfl) ?_
        obtain ⟨b41, k42, hz_b41, hk_b41, hn_b41⟩ := hS.2.1.ref hz_a0 hk_a0 (show rtR 12 25 = (23, 226, 0) from rfl)
        have hn_b41 := hn_b41 (by decide)
        obtain ⟨x45, k43⟩ : ∃ x, Ma b41 (4 : Int32).toNatClampNeg = x := ⟨_, rfl⟩
        have h44 : iv 0 8 x45 := by rw [← k43]; exact hS.2.1.int hz_b41 hk_b41 (show rgI 23 (4 : Int32).toNatClampNeg = (0, 8) from rfl)
        refine tw_gov hS (md_runV (As := []) (rest := []) hx hb hml hown hW hK hT hS.1 (t_X12_begins l D cy tx base Z K N Ma Ra J31 hS.2.1 a0 hz_a0 hk_a0 b41 k42 x45 k43 (iv_mono h44 (by decide) (by decide))) s_X12_393 ⟨rfl, rfl, ⟨Nat.le_of_ble_eq_true rfl, Nat.le_of_ble_eq_true rfl⟩, ⟨Nat.le_of_ble_eq_true rfl, Nat.le_of_ble_eq_true rfl⟩⟩ hz_a0 hk_a0 (by decide) rfl rfl hl.1 rfl (Nat.le_of_ble_eq_true rfl) dX12_open_37) rfl rfl (fun H locs M49 R50 J48 hS f46 g47 E51 => ?_)
        have eR50 := Fr.nil g47 rfl
        subst eR50
        have p52 := E51
        have k53 : M49 a0 30 = x45 := p52
        refine lv_aload_n hx hb dX12_open_40 rfl (lv_at hl 0 rfl) ?_
        refine lv_iconst (v := 0) hx hb dX12_open_41 (by decide) ?_
        refine tw_puti hx hb hW hown hK hS f_X12_410_11 hz_a0 hk_a0 rfl rfl (lo := (-2147483648)) (hi := 2147483647) rfl (iv_mono (iv_c (c := 0) (n := 0) (by decide)) (by decide) (by decide)) rfl dX12_open_42 (fun H locs M56 hS k54 f55 => ?_)
        refine lv_aload_n hx hb dX12_open_45 rfl (lv_at hl 0 rfl) ?_
        refine lv_iconst (v := 0) hx hb dX12_open_46 (by decide) ?_
        refine tw_puti hx hb hW hown hK hS f_X12_407_11 hz_a0 hk_a0 rfl rfl (lo := (-2147483648)) (hi := 2147483647) rfl (iv_mono (iv_c (c := 0) (n := 0) (by decide)) (by decide) (by decide)) rfl dX12_open_47 (fun H locs M59 hS k57 f58 => ?_)
        refine lv_iconst (v := 0) hx hb dX12_open_50 (by decide) ?_
        refine lv_istore (lv' := [(4, .int 0), (0, .ref (base + a0)), (1, .int a1), (2, .int a2), (3, .int a3)]) hx hb dX12_open_51 hl (by decide) rfl (fun ls hl => ?_)
        have W53_61 : ∀ (n_61 : Nat) (x60 : Int32) (M61 : MT) (R62 : RT) (J63 : JT) (H : Heap) (locs : List Loc) (ls : Array Slot) (h_x60 : iv 0 60 x60) (hm_61 : 60 - x60.toInt < (n_61 : Int)) (hS : SB D cy base Z K N Lt_X12_open LRt_X12_open Ma Ra M61 R62 J63 s H locs) (hl : lv_has ls 6 [(4, .int x60), (0, .ref (base + a0)), (1, .int a1), (2, .int a2), (3, .int a3)]), W p l e (md_rm 6 0 0) s m args below meth c H locs 0 0 Q (F0 m 53 ls []) := by
          intro n_61
          induction n_61 with
          | zero =>
            intro x60 M61 R62 J63 H locs ls h_x60 hm_61 hS hl
            exfalso
            have := (h14).1; have := (h14).2; have := (h28).1; have := (h28).2; have := (h40).1; have := (h40).2; have := (h_x60).1; have := (h_x60).2; omega
          | succ n_61 ih_61 =>
            intro x60 M61 R62 J63 H locs ls h_x60 hm_61 hS hl
            have f64 := hS.2.2.1
            have g65 := hS.2.2.2
            refine lv_iload hx hb dX12_open_53 (lv_at hl 0 rfl) ?_
            refine lv_iload_n hx hb dX12_open_55 rfl (lv_at hl 2 rfl) ?_
            have J80_66 : ∀  (M66 : MT) (R67 : RT) (J68 : JT) (H : Heap) (locs : List Loc) (ls : Array Slot) (hS : SB D cy base Z K N Lt_X12_open LRt_X12_open Ma Ra M66 R67 J68 s H locs) (hl : lv_has ls 6 [(4, .int x60), (0, .ref (base + a0)), (1, .int a1), (2, .int a2), (3, .int a3)]), W p l e (md_rm 6 0 0) s m args below meth c H locs 0 0 Q (F0 m 80 ls []) := by
              intro  M66 R67 J68 H locs ls  hS hl
              have f69 := hS.2.2.1
              have g70 := hS.2.2.2
              refine lv_iload_n hx hb dX12_open_80 rfl (lv_at hl 4 rfl) ?_
              refine lv_iconst (v := 2) hx hb dX12_open_81 (by decide) ?_
              refine lv_icmp_ge (tgt := 101) hx hb dX12_open_82 (by decide) (fun c71 => ?_) (fun c71 => ?_)
              · have q72 : 2 ≤ a3.toInt := ti_le c71
                have h73 : iv 2 4 a3 := iv_geL (y := 2) h40 (iv_c (c := 2) (n := 2) (by decide)) q72 (by decide)
                refine lv_aload_n hx hb dX12_open_101 rfl (lv_at hl 1 rfl) ?_
                refine tw_geti hx hb hW hown hK hS f_X12_410_11 hz_a0 hk_a0 (lo := (-2147483648)) (hi := 2147483647) rfl dX12_open_102 (fun x76 k75 h74 => ?_)
                refine lv_istore (lv' := [(4, .int x76), (0, .ref (base + a0)), (1, .int a1), (2, .int a2), (3, .int a3)]) hx hb dX12_open_105 hl (by decide) rfl (fun ls hl => ?_)
                refine lv_aload_n hx hb dX12_open_107 rfl (lv_at hl 1 rfl) ?_
                have k77 : R67 a0 25 = some b41 := (Fr.kp (k := 25) g70 hk_a0 rfl).trans k42
                have k78 : M66 b41 (4 : Int32).toNatClampNeg = x45 := (Fr.kp (k := (4 : Int32).toNatClampNeg) f69 hk_b41 rfl).trans k43
                refine tw_gov hS (md_runV (As := []) (rest := []) hx hb hml hown hW hK hT hS.1 (t_X12_begins l D cy tx base Z K N M66 R67 J68 hS.2.1 a0 hz_a0 hk_a0 b41 k77 x45 k78 (iv_mono h44 (by decide) (by decide))) s_X12_393 ⟨rfl, rfl, ⟨Nat.le_of_ble_eq_true rfl, Nat.le_of_ble_eq_true rfl⟩, ⟨Nat.le_of_ble_eq_true rfl, Nat.le_of_ble_eq_true rfl⟩⟩ hz_a0 hk_a0 (by decide) rfl rfl hl.1 rfl (Nat.le_of_ble_eq_true rfl) dX12_open_108) rfl rfl (fun H locs M82 R83 J81 hS f79 g80 E84 => ?_)
                have eR83 := Fr.nil g80 rfl
                subst eR83
                have p85 := E84
                have k86 : M82 a0 30 = x45 := p85
                refine lv_aload_n hx hb dX12_open_111 rfl (lv_at hl 1 rfl) ?_
                refine lv_iconst (v := 0) hx hb dX12_open_112 (by decide) ?_
                refine tw_puti hx hb hW hown hK hS f_X12_410_11 hz_a0 hk_a0 rfl rfl (lo := (-2147483648)) (hi := 2147483647) rfl (iv_mono (iv_c (c := 0) (n := 0) (by decide)) (by decide) (by decide)) rfl dX12_open_113 (fun H locs M89 hS k87 f88 => ?_)
                refine lv_aload_n hx hb dX12_open_116 rfl (lv_at hl 1 rfl) ?_
                refine lv_iconst (v := 0) hx hb dX12_open_117 (by decide) ?_
                refine tw_puti hx hb hW hown hK hS f_X12_407_11 hz_a0 hk_a0 rfl rfl (lo := (-2147483648)) (hi := 2147483647) rfl (iv_mono (iv_c (c := 0) (n := 0) (by decide)) (by decide) (by decide)) rfl dX12_open_118 (fun H locs M92 hS k90 f91 => ?_)
                refine lv_iconst (v := 0) hx hb dX12_open_121 (by decide) ?_
                refine lv_istore (lv' := [(5, .int 0), (4, .int x76), (0, .ref (base + a0)), (1, .int a1), (2, .int a2), (3, .int a3)]) hx hb dX12_open_122 hl (by decide) rfl (fun ls hl => ?_)
                have W124_94 : ∀ (n_94 : Nat) (x93 : Int32) (M94 : MT) (R95 : RT) (J96 : JT) (H : Heap) (locs : List Loc) (ls : Array Slot) (h_x93 : iv 0 60 x93) (hm_94 : 60 - x93.toInt < (n_94 : Int)) (hS : SB D cy base Z K N Lt_X12_open LRt_X12_open Ma Ra M94 R95 J96 s H locs) (hl : lv_has ls 6 [(5, .int x93), (4, .int x76), (0, .ref (base + a0)), (1, .int a1), (2, .int a2), (3, .int a3)]), W p l e (md_rm 6 0 0) s m args below meth c H locs 0 0 Q (F0 m 124 ls []) := by
                  intro n_94
                  induction n_94 with
                  | zero =>
                    intro x93 M94 R95 J96 H locs ls h_x93 hm_94 hS hl
                    exfalso
                    have := (h14).1; have := (h14).2; have := (h28).1; have := (h28).2; have := (h73).1; have := (h73).2; have := (h_x93).1; have := (h_x93).2; omega
                  | succ n_94 ih_94 =>
                    intro x93 M94 R95 J96 H locs ls h_x93 hm_94 hS hl
                    have f97 := hS.2.2.1
                    have g98 := hS.2.2.2
                    refine lv_iload hx hb dX12_open_124 (lv_at hl 0 rfl) ?_
                    refine lv_iload_n hx hb dX12_open_126 rfl (lv_at hl 3 rfl) ?_
                    refine lv_icmp_ge (tgt := 141) hx hb dX12_open_127 (by decide) (fun c99 => ?_) (fun c99 => ?_)
                    · have q100 : a1.toInt ≤ x93.toInt := ti_le c99
                      refine lv_iload_n hx hb dX12_open_141 rfl (lv_at hl 5 rfl) ?_
                      refine lv_iconst (v := 2) hx hb dX12_open_142 (by decide) ?_
                      refine lv_icmp_ne (tgt := 153) hx hb dX12_open_143 (by decide) (fun c101 => ?_) (fun c101 => ?_)
                      · have q102 : ¬ a3.toInt = 2 := ti_ne c101
                        have h103 : iv 3 4 a3 := ⟨by have := (h73).1; have := ((iv_c (c := 2) (n := 2) (by decide))).1; have := ((iv_c (c := 2) (n := 2) (by decide))).2; omega, by have := (h73).2; have := ((iv_c (c := 2) (n := 2) (by decide))).1; have := ((iv_c (c := 2) (n := 2) (by decide))).2; omega⟩
                        refine lv_iload_n hx hb dX12_open_153 rfl (lv_at hl 5 rfl) ?_
                        refine lv_iconst (v := 3) hx hb dX12_open_154 (by decide) ?_
                        refine lv_icmp_ne (tgt := 165) hx hb dX12_open_155 (by decide) (fun c104 => ?_) (fun c104 => ?_)
                        · have q105 : ¬ a3.toInt = 3 := ti_ne c104
                          have h106 : iv 4 4 a3 := ⟨by have := (h103).1; have := ((iv_c (c := 3) (n := 3) (by decide))).1; have := ((iv_c (c := 3) (n := 3) (by decide))).2; omega, by have := (h103).2; have := ((iv_c (c := 3) (n := 3) (by decide))).1; have := ((iv_c (c := 3) (n := 3) (by decide))).2; omega⟩
                          refine lv_iload hx hb dX12_open_165 (lv_at hl 1 rfl) ?_
                          refine lv_aload_n hx hb dX12_open_167 rfl (lv_at hl 2 rfl) ?_
                          refine tw_geti hx hb hW hown hK hS f_X12_410_11 hz_a0 hk_a0 (lo := (-2147483648)) (hi := 2147483647) rfl dX12_open_168 (fun x109 k108 h107 => ?_)
                          refine lv_isub hx hb dX12_open_171 ?_
                          refine tw_top (fun x111 => ?_)
                          have h110 := iv_any x111
                          exact tw_endi hx hb hr hlocks hK hT hS hQ (h110) dX12_open_172
                        · have q112 : a3.toInt = 3 := ti_eq c104
                          have h113 : iv 3 3 a3 := ⟨by have := (h103).1; have := ((iv_c (c := 3) (n := 3) (by decide))).1; omega, by have := (h103).2; have := ((iv_c (c := 3) (n := 3) (by decide))).2; omega⟩
                          refine lv_aload_n hx hb dX12_open_158 rfl (lv_at hl 2 rfl) ?_
                          refine tw_geti hx hb hW hown hK hS f_X12_407_11 hz_a0 hk_a0 (lo := (-2147483648)) (hi := 2147483647) rfl dX12_open_159 (fun x116 k115 h114 => ?_)
                          refine lv_goto (tgt := 172) hx hb dX12_open_162 (by decide) ?_
                          exact tw_endi hx hb hr hlocks hK hT hS hQ (h114) dX12_open_172
                      · have q117 : a3.toInt = 2 := ti_eq c101
                        have h118 : iv 2 2 a3 := ⟨by have := (h73).1; have := ((iv_c (c := 2) (n := 2) (by decide))).1; omega, by have := (h73).2; have := ((iv_c (c := 2) (n := 2) (by decide))).2; omega⟩
                        refine lv_aload_n hx hb dX12_open_146 rfl (lv_at hl 2 rfl) ?_
                        refine tw_geti hx hb hW hown hK hS f_X12_410_11 hz_a0 hk_a0 (lo := (-2147483648)) (hi := 2147483647) rfl dX12_open_147 (fun x121 k120 h119 => ?_)
                        refine lv_goto (tgt := 172) hx hb dX12_open_150 (by decide) ?_
                        exact tw_endi hx hb hr hlocks hK hT hS hQ (h119) dX12_open_172
                    · have q122 : x93.toInt < a1.toInt := ti_nle c99
                      have h123 : iv 0 59 x93 := iv_ltL (y := a1) h_x93 h14 q122 (by decide)
                      have h124 : iv 1 60 a1 := iv_gtL (y := x93) h14 h_x93 q122 (by decide)
                      refine lv_aload_n hx hb dX12_open_130 rfl (lv_at hl 2 rfl) ?_
                      refine lv_iload_n hx hb dX12_open_131 rfl (lv_at hl 4 rfl) ?_
                      refine tw_gov hS (md_runV (As := [.int a2]) (rest := []) hx hb hml hown hW hK hT hS.1 (t_X12_passesEvenly l D cy tx base Z K N M94 R95 J96 hS.2.1 a0 hz_a0 hk_a0 a2 h28 (Codes.fr co_a0 hTy hz_a0 hk_a0 hS.2.2.1 hS.2.2.2 rfl)) s_X12_423 ⟨rfl, rfl, ⟨Nat.le_of_ble_eq_true rfl, Nat.le_of_ble_eq_true rfl⟩, ⟨Nat.le_of_ble_eq_true rfl, Nat.le_of_ble_eq_true rfl⟩⟩ hz_a0 hk_a0 (by decide) rfl rfl hl.1 rfl (Nat.le_of_ble_eq_true rfl) dX12_open_132) rfl rfl (fun H locs M128 R129 J127 hS f125 g126 E130 => ?_)
                      have eR129 := Fr.nil g126 rfl
                      subst eR129
                      refine tw_iinc (lv' := fun x133 => [(5, .int x133), (4, .int x76), (0, .ref (base + a0)), (1, .int a1), (2, .int a2), (3, .int a3)]) (lo := 1) (hi := 60) hx hb dX12_open_135 hl (k := 0) rfl h123 (by decide) ⟨by decide, by decide⟩ ⟨by decide, by decide⟩ (by decide) (fun _ => rfl) (fun x133 ls e132 h131 hl => ?_)
                      refine lv_goto (tgt := 124) hx hb dX12_open_138 (by decide) ?_
                      have hm134 : 60 - x133.toInt < (n_94 : Int) := by
                        have := (h124).1; have := (h124).2; have := (h28).1; have := (h28).2; have := (h73).1; have := (h73).2; have := (h131).1; have := (h131).2; have := (h123).1; have := (h123).2; omega
                      exact ih_94 x133 M128 R95 J127 H locs _ (iv_mono h131 (by decide) (by decide)) hm134 hS hl
                have hm135 : 60 - (0 : Int32).toInt < (((61 : Nat) : Int) : Int) := by
                  have := (h14).1; have := (h14).2; have := (h28).1; have := (h28).2; have := (h73).1; have := (h73).2; have : (0 : Int32).toInt = 0 := (by decide); omega
                exact W124_94 61 0 M92 R67 J81 H locs _ (iv_mono (iv_c (c := 0) (n := 0) (by decide)) (by decide) (by decide)) hm135 hS hl
              · have q136 : a3.toInt < 2 := ti_nle c71
                have h137 : iv 0 1 a3 := iv_ltL (y := 2) h40 (iv_c (c := 2) (n := 2) (by decide)) q136 (by decide)
                refine lv_iload_n hx hb dX12_open_85 rfl (lv_at hl 4 rfl) ?_
                refine lv_if_ne (tgt := 96) hx hb dX12_open_86 (by decide) (fun c138 => ?_) (fun c138 => ?_)
                · have q139 : ¬ a3.toInt = 0 := ti_ne c138
                  have h140 : iv 1 1 a3 := ⟨by have := (h137).1; have := ((iv_c (c := 0) (n := 0) (by decide))).1; have := ((iv_c (c := 0) (n := 0) (by decide))).2; omega, by have := (h137).2; have := ((iv_c (c := 0) (n := 0) (by decide))).1; have := ((iv_c (c := 0) (n := 0) (by decide))).2; omega⟩
                  refine lv_aload_n hx hb dX12_open_96 rfl (lv_at hl 1 rfl) ?_
                  refine tw_geti hx hb hW hown hK hS f_X12_407_11 hz_a0 hk_a0 (lo := (-2147483648)) (hi := 2147483647) rfl dX12_open_97 (fun x143 k142 h141 => ?_)
                  exact tw_endi hx hb hr hlocks hK hT hS hQ (h141) dX12_open_100
                · have q144 : a3.toInt = 0 := ti_eq c138
                  have h145 : iv 0 0 a3 := ⟨by have := (h137).1; have := ((iv_c (c := 0) (n := 0) (by decide))).1; omega, by have := (h137).2; have := ((iv_c (c := 0) (n := 0) (by decide))).2; omega⟩
                  refine lv_aload_n hx hb dX12_open_89 rfl (lv_at hl 1 rfl) ?_
                  refine tw_geti hx hb hW hown hK hS f_X12_410_11 hz_a0 hk_a0 (lo := (-2147483648)) (hi := 2147483647) rfl dX12_open_90 (fun x148 k147 h146 => ?_)
                  refine lv_goto (tgt := 100) hx hb dX12_open_93 (by decide) ?_
                  exact tw_endi hx hb hr hlocks hK hT hS hQ (h146) dX12_open_100
            refine lv_icmp_ge (tgt := 80) hx hb dX12_open_56 (by decide) (fun c149 => ?_) (fun c149 => ?_)
            · have q150 : a1.toInt ≤ x60.toInt := ti_le c149
              exact J80_66  M61 R62 J63 H locs _  hS hl
            · have q151 : x60.toInt < a1.toInt := ti_nle c149
              have h152 : iv 0 59 x60 := iv_ltL (y := a1) h_x60 h14 q151 (by decide)
              have h153 : iv 1 60 a1 := iv_gtL (y := x60) h14 h_x60 q151 (by decide)
              refine lv_iload_n hx hb dX12_open_59 rfl (lv_at hl 4 rfl) ?_
              refine lv_iconst (v := 2) hx hb dX12_open_60 (by decide) ?_
              refine lv_icmp_eq (tgt := 80) hx hb dX12_open_61 (by decide) (fun c154 => ?_) (fun c154 => ?_)
              · have q155 : a3.toInt = 2 := ti_eq c154
                have h156 : iv 2 2 a3 := ⟨by have := (h40).1; have := ((iv_c (c := 2) (n := 2) (by decide))).1; omega, by have := (h40).2; have := ((iv_c (c := 2) (n := 2) (by decide))).2; omega⟩
                exact J80_66  M61 R62 J63 H locs _  hS hl
              · have q157 : ¬ a3.toInt = 2 := ti_ne c154
                refine lv_iload_n hx hb dX12_open_64 rfl (lv_at hl 4 rfl) ?_
                refine lv_iconst (v := 3) hx hb dX12_open_65 (by decide) ?_
                refine lv_icmp_eq (tgt := 80) hx hb dX12_open_66 (by decide) (fun c158 => ?_) (fun c158 => ?_)
                · have q159 : a3.toInt = 3 := ti_eq c158
                  have h160 : iv 3 3 a3 := ⟨by have := (h40).1; have := ((iv_c (c := 3) (n := 3) (by decide))).1; omega, by have := (h40).2; have := ((iv_c (c := 3) (n := 3) (by decide))).2; omega⟩
                  exact J80_66  M61 R62 J63 H locs _  hS hl
                · have q161 : ¬ a3.toInt = 3 := ti_ne c158
                  refine lv_aload_n hx hb dX12_open_69 rfl (lv_at hl 1 rfl) ?_
                  refine lv_iload_n hx hb dX12_open_70 rfl (lv_at hl 3 rfl) ?_
                  refine tw_gov hS (md_runV (As := [.int a2]) (rest := []) hx hb hml hown hW hK hT hS.1 (t_X12_passes l D cy tx base Z K N M61 R62 J63 hS.2.1 a0 hz_a0 hk_a0 a2 h28 (Codes.fr co_a0 hTy hz_a0 hk_a0 hS.2.2.1 hS.2.2.2 rfl)) s_X12_417 ⟨rfl, rfl, ⟨Nat.le_of_ble_eq_true rfl, Nat.le_of_ble_eq_true rfl⟩, ⟨Nat.le_of_ble_eq_true rfl, Nat.le_of_ble_eq_true rfl⟩⟩ hz_a0 hk_a0 (by decide) rfl rfl hl.1 rfl (Nat.le_of_ble_eq_true rfl) dX12_open_71) rfl rfl (fun H locs M165 R166 J164 hS f162 g163 E167 => ?_)
                  have eR166 := Fr.nil g163 rfl
                  subst eR166
                  refine tw_iinc (lv' := fun x170 => [(4, .int x170), (0, .ref (base + a0)), (1, .int a1), (2, .int a2), (3, .int a3)]) (lo := 1) (hi := 60) hx hb dX12_open_74 hl (k := 0) rfl h152 (by decide) ⟨by decide, by decide⟩ ⟨by decide, by decide⟩ (by decide) (fun _ => rfl) (fun x170 ls e169 h168 hl => ?_)
                  refine lv_goto (tgt := 53) hx hb dX12_open_77 (by decide) ?_
                  have hm171 : 60 - x170.toInt < (n_61 : Int) := by
                    have := (h153).1; have := (h153).2; have := (h28).1; have := (h28).2; have := (h40).1; have := (h40).2; have := (h168).1; have := (h168).2; have := (h152).1; have := (h152).2; omega
                  exact ih_61 x170 M165 R62 J164 H locs _ (iv_mono h168 (by decide) (by decide)) hm171 hS hl
        have hm172 : 60 - (0 : Int32).toInt < (((61 : Nat) : Int) : Int) := by
          have := (h14).1; have := (h14).2; have := (h28).1; have := (h28).2; have := (h40).1; have := (h40).2; have : (0 : Int32).toInt = 0 := (by decide); omega
        exact W53_61 61 0 M59 Ra J48 H locs _ (iv_mono (iv_c (c := 0) (n := 0) (by decide)) (by decide) (by decide)) hm172 hS hl
      · have q173 : x35.toInt = 0 := ti_eq c37
        have h174 : iv 0 0 x35 := ⟨by have := (h_x35).1; have := ((iv_c (c := 0) (n := 0) (by decide))).1; omega, by have := (h_x35).2; have := ((iv_c (c := 0) (n := 0) (by decide))).2; omega⟩
        refine lv_ldcw hx hb hown (hW _ w_8_46 rfl) dX12_open_32 ?_
        exact tw_endi hx hb hr hlocks hK hT hS hQ ((iv_mono (iv_c (c := (-1000000)) (n := (-1000000)) (by decide)) (by decide) (by decide))) dX12_open_35
def Lt_X12_order : WL := [(14, 0, 2000000), (23, 4, 5), (23, 170, 178)]
def LRt_X12_order : WL := []
set_option maxRecDepth 100000 in
set_option maxHeartbeats 4000000 in
theorem t_X12_order (l : Launch) (D : va_G) (cy : Nat → ClassId) (tx : (Nat → Nat) × (Nat → Nat)) (base Z : Nat) (K N : Nat → Nat) (Ma : MT) (Ra : RT) (Ja : JT) (hTy : Ty Z K N Ma Ra) (a0 : Nat) (hz_a0 : a0 < Z) (hk_a0 : K a0 = 12) (a1 : Int32) (h_a1 : iv (-2147483648) 2147483647 a1) : Met l yX12_order [Cond.code yX12_order cX12_order 2 (some .int)] (md_rm 2 0 0) (va_Pc [.ref (base + a0), .int a1] (md_U D cy tx base Z K N Ma Ra Ja)) (mQi D cy tx base (fun r u => TP Z K N Lt_X12_order LRt_X12_order Ma Ra u ∧ (iv (-2) 8 r))) 0 0 (fun q => base ≤ q) := by
  refine tw_ofW (L := Lt_X12_order) (LR := LRt_X12_order) (by decide) (Nat.le_of_ble_eq_true rfl) hTy ?_
  intro p e s m args below meth c Q ls hx hb hr hlocks hown hml hW hK hT hS hQ hl
  have hl : lv_has ls 2 [(0, .ref (base + a0)), (1, .int a1)] := hl
  refine lv_iload_n hx hb dX12_order_0 rfl (lv_at hl 1 rfl) ?_
  refine lv_iconst (v := (-1)) hx hb dX12_order_1 (by decide) ?_
  refine lv_icmp_ne (tgt := 14) hx hb dX12_order_2 (by decide) (fun c1 => ?_) (fun c1 => ?_)
  · have q2 : ¬ a1.toInt = (-1) := ti_ne c1
    refine lv_aload_n hx hb dX12_order_14 rfl (lv_at hl 0 rfl) ?_
    refine lv_iload_n hx hb dX12_order_15 rfl (lv_at hl 1 rfl) ?_
    refine tw_goi hS (md_runV (As := [.int a1]) (rest := []) hx hb hml hown hW hK hT hS.1 (t_X12_isPoint l D cy tx base Z K N Ma Ra Ja hS.2.1 a0 hz_a0 hk_a0 a1 h_a1) s_X12_327 ⟨rfl, rfl, ⟨Nat.le_of_ble_eq_true rfl, Nat.le_of_ble_eq_true rfl⟩, ⟨Nat.le_of_ble_eq_true rfl, Nat.le_of_ble_eq_true rfl⟩⟩ hz_a0 hk_a0 (by decide) rfl rfl hl.1 rfl (Nat.le_of_ble_eq_true rfl) dX12_order_16) rfl rfl (fun x9 H locs M6 R7 J5 hS f3 g4 E8 => ?_)
    have eM6 := Fr.nil f3 rfl
    subst eM6
    have eR7 := Fr.nil g4 rfl
    subst eR7
    obtain ⟨h_x9, p10⟩ := E8
    refine lv_if_ne (tgt := 28) hx hb dX12_order_19 (by decide) (fun c11 => ?_) (fun c11 => ?_)
    · have q12 : ¬ x9.toInt = 0 := ti_ne c11
      have h13 : iv 1 1 x9 := ⟨by have := (h_x9).1; have := ((iv_c (c := 0) (n := 0) (by decide))).1; have := ((iv_c (c := 0) (n := 0) (by decide))).2; omega, by have := (h_x9).2; have := ((iv_c (c := 0) (n := 0) (by decide))).1; have := ((iv_c (c := 0) (n := 0) (by decide))).2; omega⟩
      have h14 : iv 0 11 a1 := ⟨by have := (p10 c11).1; have := (h_a1).1; omega, by have := (p10 c11).2; have := (h_a1).2; omega⟩
      refine lv_aload_n hx hb dX12_order_28 rfl (lv_at hl 0 rfl) ?_
      refine tw_getr hx hb hW hown hK hS f_X12_45_11 hz_a0 hk_a0 (t := 23) (n := 226) rfl dX12_order_29 (fun b15 k16 hz_b15 hk_b15 hn_b15 => ?_)
      have hn_b15 := hn_b15 (by decide)
      refine lv_iconst (v := 4) hx hb dX12_order_32 (by decide) ?_
      refine tw_iald hx hb hK hS hz_b15 hk_b15 (Or.inr (by decide)) hn_b15 (lo := 0) (hi := 8) (iv_c (c := 4) (n := 4) (by decide)) ⟨by decide, by decide⟩ (rg_c (k0 := 4) rfl rfl rfl) dX12_order_33 (fun x19 k18 h17 => ?_)
      refine lv_bipush (v := 8) hx hb dX12_order_34 (by decide) ?_
      refine lv_icmp_ne (tgt := 45) hx hb dX12_order_36 (by decide) (fun c20 => ?_) (fun c20 => ?_)
      · have q21 : ¬ x19.toInt = 8 := ti_ne c20
        have h22 : iv 0 7 x19 := ⟨by have := (h17).1; have := ((iv_c (c := 8) (n := 8) (by decide))).1; have := ((iv_c (c := 8) (n := 8) (by decide))).2; omega, by have := (h17).2; have := ((iv_c (c := 8) (n := 8) (by decide))).1; have := ((iv_c (c := 8) (n := 8) (by decide))).2; omega⟩
        refine lv_aload_n hx hb dX12_order_45 rfl (lv_at hl 0 rfl) ?_
        refine tw_getrk hx hb hW hown hK hS f_X12_45_11 hz_a0 hk_a0 (b := b15) k16 dX12_order_46 ?_
        refine lv_sipush (v := 170) hx hb dX12_order_49 (by decide) ?_
        refine lv_aload_n hx hb dX12_order_52 rfl (lv_at hl 0 rfl) ?_
        refine tw_getrk hx hb hW hown hK hS f_X12_45_11 hz_a0 hk_a0 (b := b15) k16 dX12_order_53 ?_
        refine lv_iconst (v := 4) hx hb dX12_order_56 (by decide) ?_
        refine tw_ialk hx hb hK hS hz_b15 hk_b15 (Or.inr (by decide)) hn_b15 (iv_c (c := 4) (n := 4) (by decide)) ⟨by decide, by decide⟩ (v := x19) k18 dX12_order_57 ?_
        refine tw_iadd (lo := 170) (hi := 177) hx hb (iv_c (c := 170) (n := 170) (by decide)) h22 ⟨by decide, by decide⟩ ⟨by decide, by decide⟩ dX12_order_58 (fun x25 e24 h23 => ?_)
        have e24 : x25.toInt = 170 + x19.toInt := e24
        refine lv_iload_n hx hb dX12_order_59 rfl (lv_at hl 1 rfl) ?_
        refine tw_iast hx hb hK hS hz_b15 hk_b15 (Or.inr (by decide)) hn_b15 h23 ⟨by decide, by decide⟩ h14 (rg_sos ⟨by decide, by decide⟩ ⟨by decide, by decide⟩) (jl := 170) (jh := 177) ⟨by decide, by decide⟩ rfl dX12_order_60 (fun H locs M28 hS k26 f27 => ?_)
        refine lv_aload_n hx hb dX12_order_61 rfl (lv_at hl 0 rfl) ?_
        refine tw_getrk hx hb hW hown hK hS f_X12_45_11 hz_a0 hk_a0 (b := b15) k16 dX12_order_62 ?_
        refine lv_iconst (v := 4) hx hb dX12_order_65 (by decide) ?_
        refine lv_dup2_11 hx hb dX12_order_66 rfl rfl ?_
        have k29 : M28 b15 (4 : Int32).toNatClampNeg = x19 := (Fr.kp (k := (4 : Int32).toNatClampNeg) f27 hk_b15 rfl).trans k18
        refine tw_ialk hx hb hK hS hz_b15 hk_b15 (Or.inr (by decide)) hn_b15 (iv_c (c := 4) (n := 4) (by decide)) ⟨by decide, by decide⟩ (v := x19) k29 dX12_order_67 ?_
        refine lv_iconst (v := 1) hx hb dX12_order_68 (by decide) ?_
        refine tw_iadd (lo := 1) (hi := 8) hx hb h22 (iv_c (c := 1) (n := 1) (by decide)) ⟨by decide, by decide⟩ ⟨by decide, by decide⟩ dX12_order_69 (fun x32 e31 h30 => ?_)
        have e31 : x32.toInt = x19.toInt + 1 := e31
        refine tw_iast hx hb hK hS hz_b15 hk_b15 (Or.inr (by decide)) hn_b15 (iv_c (c := 4) (n := 4) (by decide)) ⟨by decide, by decide⟩ h30 (rg_cs (k0 := 4) rfl rfl rfl ⟨by decide, by decide⟩) (jl := 4) (jh := 4) ⟨by decide, by decide⟩ rfl dX12_order_70 (fun H locs M35 hS k33 f34 => ?_)
        refine lv_aload_n hx hb dX12_order_71 rfl (lv_at hl 0 rfl) ?_
        refine tw_getrk hx hb hW hown hK hS f_X12_45_11 hz_a0 hk_a0 (b := b15) k16 dX12_order_72 ?_
        refine lv_iconst (v := 4) hx hb dX12_order_75 (by decide) ?_
        refine tw_ialk hx hb hK hS hz_b15 hk_b15 (Or.inr (by decide)) hn_b15 (iv_c (c := 4) (n := 4) (by decide)) ⟨by decide, by decide⟩ (v := x32) k33 dX12_order_76 ?_
        exact tw_endi hx hb hr hlocks hK hT hS hQ ((iv_mono h30 (by decide) (by decide))) dX12_order_77
      · have q36 : x19.toInt = 8 := ti_eq c20
        have h37 : iv 8 8 x19 := ⟨by have := (h17).1; have := ((iv_c (c := 8) (n := 8) (by decide))).1; omega, by have := (h17).2; have := ((iv_c (c := 8) (n := 8) (by decide))).2; omega⟩
        refine lv_aload_n hx hb dX12_order_39 rfl (lv_at hl 0 rfl) ?_
        refine lv_iconst (v := 1) hx hb dX12_order_40 (by decide) ?_
        refine tw_goi hS (md_runV (As := [.int 1]) (rest := []) hx hb hml hown hW hK hT hS.1 (t_X12_refuses l D cy tx base Z K N Ma Ra J5 hS.2.1 a0 hz_a0 hk_a0 1 (iv_mono (iv_c (c := 1) (n := 1) (by decide)) (by decide) (by decide))) s_X12_338 ⟨rfl, rfl, ⟨Nat.le_of_ble_eq_true rfl, Nat.le_of_ble_eq_true rfl⟩, ⟨Nat.le_of_ble_eq_true rfl, Nat.le_of_ble_eq_true rfl⟩⟩ hz_a0 hk_a0 (by decide) rfl rfl hl.1 rfl (Nat.le_of_ble_eq_true rfl) dX12_order_41) rfl rfl (fun x44 H locs M41 R42 J40 hS f38 g39 E43 => ?_)
        have eR42 := Fr.nil g39 rfl
        subst eR42
        have h_x44 := E43
        exact tw_endi hx hb hr hlocks hK hT hS hQ ((iv_mono h_x44 (by decide) (by decide))) dX12_order_44
    · have q45 : x9.toInt = 0 := ti_eq c11
      have h46 : iv 0 0 x9 := ⟨by have := (h_x9).1; have := ((iv_c (c := 0) (n := 0) (by decide))).1; omega, by have := (h_x9).2; have := ((iv_c (c := 0) (n := 0) (by decide))).2; omega⟩
      refine lv_aload_n hx hb dX12_order_22 rfl (lv_at hl 0 rfl) ?_
      refine lv_iconst (v := 0) hx hb dX12_order_23 (by decide) ?_
      refine tw_goi hS (md_runV (As := [.int 0]) (rest := []) hx hb hml hown hW hK hT hS.1 (t_X12_refuses l D cy tx base Z K N Ma Ra J5 hS.2.1 a0 hz_a0 hk_a0 0 (iv_mono (iv_c (c := 0) (n := 0) (by decide)) (by decide) (by decide))) s_X12_338 ⟨rfl, rfl, ⟨Nat.le_of_ble_eq_true rfl, Nat.le_of_ble_eq_true rfl⟩, ⟨Nat.le_of_ble_eq_true rfl, Nat.le_of_ble_eq_true rfl⟩⟩ hz_a0 hk_a0 (by decide) rfl rfl hl.1 rfl (Nat.le_of_ble_eq_true rfl) dX12_order_24) rfl rfl (fun x53 H locs M50 R51 J49 hS f47 g48 E52 => ?_)
      have eR51 := Fr.nil g48 rfl
      subst eR51
      have h_x53 := E52
      exact tw_endi hx hb hr hlocks hK hT hS hQ ((iv_mono h_x53 (by decide) (by decide))) dX12_order_27
  · have q54 : a1.toInt = (-1) := ti_eq c1
    have h55 : iv (-1) (-1) a1 := ⟨by have := (h_a1).1; have := ((iv_c (c := (-1)) (n := (-1)) (by decide))).1; omega, by have := (h_a1).2; have := ((iv_c (c := (-1)) (n := (-1)) (by decide))).2; omega⟩
    refine lv_aload_n hx hb dX12_order_5 rfl (lv_at hl 0 rfl) ?_
    refine tw_getr hx hb hW hown hK hS f_X12_45_11 hz_a0 hk_a0 (t := 23) (n := 226) rfl dX12_order_6 (fun b56 k57 hz_b56 hk_b56 hn_b56 => ?_)
    have hn_b56 := hn_b56 (by decide)
    refine lv_iconst (v := 4) hx hb dX12_order_9 (by decide) ?_
    refine lv_iconst (v := 0) hx hb dX12_order_10 (by decide) ?_
    refine tw_iast hx hb hK hS hz_b56 hk_b56 (Or.inr (by decide)) hn_b56 (iv_c (c := 4) (n := 4) (by decide)) ⟨by decide, by decide⟩ (iv_c (c := 0) (n := 0) (by decide)) (rg_0 ⟨rfl, rfl⟩) (jl := 4) (jh := 4) ⟨by decide, by decide⟩ rfl dX12_order_11 (fun H locs M60 hS k58 f59 => ?_)
    refine lv_iconst (v := 0) hx hb dX12_order_12 (by decide) ?_
    exact tw_endi hx hb hr hlocks hK hT hS hQ ((iv_mono (iv_c (c := 0) (n := 0) (by decide)) (by decide) (by decide))) dX12_order_13
def Lt_X12_ordered : WL := []
def LRt_X12_ordered : WL := []
set_option maxRecDepth 100000 in
set_option maxHeartbeats 4000000 in
theorem t_X12_ordered (l : Launch) (D : va_G) (cy : Nat → ClassId) (tx : (Nat → Nat) × (Nat → Nat)) (base Z : Nat) (K N : Nat → Nat) (Ma : MT) (Ra : RT) (Ja : JT) (hTy : Ty Z K N Ma Ra) (a0 : Nat) (hz_a0 : a0 < Z) (hk_a0 : K a0 = 12) (a1 : Int32) (h_a1 : iv (-2147483648) 2147483647 a1) : Met l yX12_ordered [Cond.code yX12_ordered cX12_ordered 2 (some .int)] (md_rm 1 0 0) (va_Pc [.ref (base + a0), .int a1] (md_U D cy tx base Z K N Ma Ra Ja)) (mQi D cy tx base (fun r u => TP Z K N Lt_X12_ordered LRt_X12_ordered Ma Ra u ∧ (iv (-1) 11 r))) 0 0 (fun q => base ≤ q) := by
  refine tw_ofW (L := Lt_X12_ordered) (LR := LRt_X12_ordered) (by decide) (Nat.le_of_ble_eq_true rfl) hTy ?_
  intro p e s m args below meth c Q ls hx hb hr hlocks hown hml hW hK hT hS hQ hl
  have hl : lv_has ls 2 [(0, .ref (base + a0)), (1, .int a1)] := hl
  refine lv_iload_n hx hb dX12_ordered_0 rfl (lv_at hl 1 rfl) ?_
  refine lv_if_lt (tgt := 27) hx hb dX12_ordered_1 (by decide) (fun c1 => ?_) (fun c1 => ?_)
  · have q2 : a1.toInt < 0 := ti_lt c1
    have h3 : iv (-2147483648) (-1) a1 := iv_ltL (y := 0) h_a1 (iv_c (c := 0) (n := 0) (by decide)) q2 (by decide)
    refine lv_iconst (v := (-1)) hx hb dX12_ordered_27 (by decide) ?_
    exact tw_endi hx hb hr hlocks hK hT hS hQ ((iv_mono (iv_c (c := (-1)) (n := (-1)) (by decide)) (by decide) (by decide))) dX12_ordered_28
  · have q4 : 0 ≤ a1.toInt := ti_nlt c1
    have h5 : iv 0 2147483647 a1 := iv_geL (y := 0) h_a1 (iv_c (c := 0) (n := 0) (by decide)) q4 (by decide)
    refine lv_iload_n hx hb dX12_ordered_4 rfl (lv_at hl 1 rfl) ?_
    refine lv_aload_n hx hb dX12_ordered_5 rfl (lv_at hl 0 rfl) ?_
    refine tw_getr hx hb hW hown hK hS f_X12_45_11 hz_a0 hk_a0 (t := 23) (n := 226) rfl dX12_ordered_6 (fun b6 k7 hz_b6 hk_b6 hn_b6 => ?_)
    have hn_b6 := hn_b6 (by decide)
    refine lv_iconst (v := 4) hx hb dX12_ordered_9 (by decide) ?_
    refine tw_iald hx hb hK hS hz_b6 hk_b6 (Or.inr (by decide)) hn_b6 (lo := 0) (hi := 8) (iv_c (c := 4) (n := 4) (by decide)) ⟨by decide, by decide⟩ (rg_c (k0 := 4) rfl rfl rfl) dX12_ordered_10 (fun x10 k9 h8 => ?_)
    refine lv_icmp_ge (tgt := 27) hx hb dX12_ordered_11 (by decide) (fun c11 => ?_) (fun c11 => ?_)
    · have q12 : x10.toInt ≤ a1.toInt := ti_le c11
      refine lv_iconst (v := (-1)) hx hb dX12_ordered_27 (by decide) ?_
      exact tw_endi hx hb hr hlocks hK hT hS hQ ((iv_mono (iv_c (c := (-1)) (n := (-1)) (by decide)) (by decide) (by decide))) dX12_ordered_28
    · have q13 : a1.toInt < x10.toInt := ti_nle c11
      have h14 : iv 0 7 a1 := iv_ltL (y := x10) h5 h8 q13 (by decide)
      have h15 : iv 1 8 x10 := iv_gtL (y := a1) h8 h5 q13 (by decide)
      refine lv_aload_n hx hb dX12_ordered_14 rfl (lv_at hl 0 rfl) ?_
      refine tw_getrk hx hb hW hown hK hS f_X12_45_11 hz_a0 hk_a0 (b := b6) k7 dX12_ordered_15 ?_
      refine lv_sipush (v := 170) hx hb dX12_ordered_18 (by decide) ?_
      refine lv_iload_n hx hb dX12_ordered_21 rfl (lv_at hl 1 rfl) ?_
      refine tw_iadd (lo := 170) (hi := 177) hx hb (iv_c (c := 170) (n := 170) (by decide)) h14 ⟨by decide, by decide⟩ ⟨by decide, by decide⟩ dX12_ordered_22 (fun x18 e17 h16 => ?_)
      have e17 : x18.toInt = 170 + a1.toInt := e17
      refine tw_iald hx hb hK hS hz_b6 hk_b6 (Or.inr (by decide)) hn_b6 (lo := 0) (hi := 11) h16 ⟨by decide, by decide⟩ (rg_so ⟨by decide, by decide⟩) dX12_ordered_23 (fun x21 k20 h19 => ?_)
      refine lv_goto (tgt := 28) hx hb dX12_ordered_24 (by decide) ?_
      exact tw_endi hx hb hr hlocks hK hT hS hQ ((iv_mono h19 (by decide) (by decide))) dX12_ordered_28
def Lt_X12_says : WL := [(12, 23, 24), (12, 28, 29), (12, 30, 31), (14, 0, 2000000), (30, 0, 2000000), (31, 0, 2000000)]
def LRt_X12_says : WL := []
set_option maxRecDepth 100000 in
set_option maxHeartbeats 4000000 in
theorem t_X12_says (l : Launch) (D : va_G) (cy : Nat → ClassId) (tx : (Nat → Nat) × (Nat → Nat)) (base Z : Nat) (K N : Nat → Nat) (Ma : MT) (Ra : RT) (Ja : JT) (hTy : Ty Z K N Ma Ra) (a0 : Nat) (hz_a0 : a0 < Z) (hk_a0 : K a0 = 12) (a1 : Int32) (h_a1 : iv (-2147483648) 2147483647 a1) (a2 : Int32) (h_a2 : iv (-2147483648) 2147483647 a2) (co_a0 : Codes Ma Ra a0) : Met l yX12_says [Cond.code yX12_says cX12_says 3 (some .int)] (md_rm 4 0 0) (va_Pc [.ref (base + a0), .int a1, .int a2] (md_U D cy tx base Z K N Ma Ra Ja)) (mQi D cy tx base (fun r u => TP Z K N Lt_X12_says LRt_X12_says Ma Ra u ∧ (iv (-2147483648) 2147483647 r))) 0 0 (fun q => base ≤ q) := by
  refine tw_ofW (L := Lt_X12_says) (LR := LRt_X12_says) (by decide) (Nat.le_of_ble_eq_true rfl) hTy ?_
  intro p e s m args below meth c Q ls hx hb hr hlocks hown hml hW hK hT hS hQ hl
  have hl : lv_has ls 3 [(0, .ref (base + a0)), (1, .int a1), (2, .int a2)] := hl
  refine lv_aload_n hx hb dX12_says_0 rfl (lv_at hl 0 rfl) ?_
  refine lv_iload_n hx hb dX12_says_1 rfl (lv_at hl 1 rfl) ?_
  refine tw_goi hS (md_runV (As := [.int a1]) (rest := []) hx hb hml hown hW hK hT hS.1 (t_X12_isPresent l D cy tx base Z K N Ma Ra Ja hS.2.1 a0 hz_a0 hk_a0 a1 h_a1) s_X12_390 ⟨rfl, rfl, ⟨Nat.le_of_ble_eq_true rfl, Nat.le_of_ble_eq_true rfl⟩, ⟨Nat.le_of_ble_eq_true rfl, Nat.le_of_ble_eq_true rfl⟩⟩ hz_a0 hk_a0 (by decide) rfl rfl hl.1 rfl (Nat.le_of_ble_eq_true rfl) dX12_says_2) rfl rfl (fun x7 H locs M4 R5 J3 hS f1 g2 E6 => ?_)
  have eM4 := Fr.nil f1 rfl
  subst eM4
  have eR5 := Fr.nil g2 rfl
  subst eR5
  obtain ⟨h_x7, p8⟩ := E6
  refine lv_if_eq (tgt := 16) hx hb dX12_says_5 (by decide) (fun c9 => ?_) (fun c9 => ?_)
  · have q10 : x7.toInt = 0 := ti_eq c9
    have h11 : iv 0 0 x7 := ⟨by have := (h_x7).1; have := ((iv_c (c := 0) (n := 0) (by decide))).1; omega, by have := (h_x7).2; have := ((iv_c (c := 0) (n := 0) (by decide))).2; omega⟩
    refine lv_iconst (v := (-1)) hx hb dX12_says_16 (by decide) ?_
    exact tw_endi hx hb hr hlocks hK hT hS hQ ((iv_mono (iv_c (c := (-1)) (n := (-1)) (by decide)) (by decide) (by decide))) dX12_says_17
  · have q12 : ¬ x7.toInt = 0 := ti_ne c9
    have h13 : iv 1 1 x7 := ⟨by have := (h_x7).1; have := ((iv_c (c := 0) (n := 0) (by decide))).1; have := ((iv_c (c := 0) (n := 0) (by decide))).2; omega, by have := (h_x7).2; have := ((iv_c (c := 0) (n := 0) (by decide))).1; have := ((iv_c (c := 0) (n := 0) (by decide))).2; omega⟩
    have h14 : iv 0 9 a1 := ⟨by have := (p8 c9).1; have := (h_a1).1; omega, by have := (p8 c9).2; have := (h_a1).2; omega⟩
    refine lv_aload_n hx hb dX12_says_8 rfl (lv_at hl 0 rfl) ?_
    refine lv_iload_n hx hb dX12_says_9 rfl (lv_at hl 2 rfl) ?_
    refine tw_goi hS (md_runV (As := [.int a2]) (rest := []) hx hb hml hown hW hK hT hS.1 (t_X12_isPoint l D cy tx base Z K N Ma Ra J3 hS.2.1 a0 hz_a0 hk_a0 a2 h_a2) s_X12_327 ⟨rfl, rfl, ⟨Nat.le_of_ble_eq_true rfl, Nat.le_of_ble_eq_true rfl⟩, ⟨Nat.le_of_ble_eq_true rfl, Nat.le_of_ble_eq_true rfl⟩⟩ hz_a0 hk_a0 (by decide) rfl rfl hl.1 rfl (Nat.le_of_ble_eq_true rfl) dX12_says_10) rfl rfl (fun x21 H locs M18 R19 J17 hS f15 g16 E20 => ?_)
    have eM18 := Fr.nil f15 rfl
    subst eM18
    have eR19 := Fr.nil g16 rfl
    subst eR19
    obtain ⟨h_x21, p22⟩ := E20
    refine lv_if_ne (tgt := 18) hx hb dX12_says_13 (by decide) (fun c23 => ?_) (fun c23 => ?_)
    · have q24 : ¬ x21.toInt = 0 := ti_ne c23
      have h25 : iv 1 1 x21 := ⟨by have := (h_x21).1; have := ((iv_c (c := 0) (n := 0) (by decide))).1; have := ((iv_c (c := 0) (n := 0) (by decide))).2; omega, by have := (h_x21).2; have := ((iv_c (c := 0) (n := 0) (by decide))).1; have := ((iv_c (c := 0) (n := 0) (by decide))).2; omega⟩
      have h26 : iv 0 11 a2 := ⟨by have := (p22 c23).1; have := (h_a2).1; omega, by have := (p22 c23).2; have := (h_a2).2; omega⟩
      refine lv_aload_n hx hb dX12_says_18 rfl (lv_at hl 0 rfl) ?_
      obtain ⟨b27, k28, hz_b27, hk_b27, hn_b27⟩ := hS.2.1.ref hz_a0 hk_a0 (show rtR 12 25 = (23, 226, 0) from rfl)
      have hn_b27 := hn_b27 (by decide)
      obtain ⟨x31, k29⟩ : ∃ x, Ma b27 (4 : Int32).toNatClampNeg = x := ⟨_, rfl⟩
      have h30 : iv 0 8 x31 := by rw [← k29]; exact hS.2.1.int hz_b27 hk_b27 (show rgI 23 (4 : Int32).toNatClampNeg = (0, 8) from rfl)
      refine tw_gov hS (md_runV (As := []) (rest := []) hx hb hml hown hW hK hT hS.1 (t_X12_begins l D cy tx base Z K N Ma Ra J17 hS.2.1 a0 hz_a0 hk_a0 b27 k28 x31 k29 (iv_mono h30 (by decide) (by decide))) s_X12_393 ⟨rfl, rfl, ⟨Nat.le_of_ble_eq_true rfl, Nat.le_of_ble_eq_true rfl⟩, ⟨Nat.le_of_ble_eq_true rfl, Nat.le_of_ble_eq_true rfl⟩⟩ hz_a0 hk_a0 (by decide) rfl rfl hl.1 rfl (Nat.le_of_ble_eq_true rfl) dX12_says_19) rfl rfl (fun H locs M35 R36 J34 hS f32 g33 E37 => ?_)
      have eR36 := Fr.nil g33 rfl
      subst eR36
      have p38 := E37
      have k39 : M35 a0 30 = x31 := p38
      refine lv_aload_n hx hb dX12_says_22 rfl (lv_at hl 0 rfl) ?_
      refine lv_iload_n hx hb dX12_says_23 rfl (lv_at hl 2 rfl) ?_
      refine lv_iconst (v := (-1)) hx hb dX12_says_24 (by decide) ?_
      refine tw_gov hS (md_runV (As := [.int a2, .int (-1)]) (rest := []) hx hb hml hown hW hK hT hS.1 (t_X12_wordsForAll l D cy tx base Z K N M35 Ra J34 hS.2.1 a0 hz_a0 hk_a0 a2 h26 (-1) (iv_mono (iv_c (c := (-1)) (n := (-1)) (by decide)) (by decide) (by decide))) s_X12_370 ⟨rfl, rfl, ⟨Nat.le_of_ble_eq_true rfl, Nat.le_of_ble_eq_true rfl⟩, ⟨Nat.le_of_ble_eq_true rfl, Nat.le_of_ble_eq_true rfl⟩⟩ hz_a0 hk_a0 (by decide) rfl rfl hl.1 rfl (Nat.le_of_ble_eq_true rfl) dX12_says_25) rfl rfl (fun H locs M43 R44 J42 hS f40 g41 E45 => ?_)
      have eM43 := Fr.nil f40 rfl
      subst eM43
      have eR44 := Fr.nil g41 rfl
      subst eR44
      refine lv_aload_n hx hb dX12_says_28 rfl (lv_at hl 0 rfl) ?_
      refine lv_iload_n hx hb dX12_says_29 rfl (lv_at hl 1 rfl) ?_
      refine lv_iload_n hx hb dX12_says_30 rfl (lv_at hl 2 rfl) ?_
      refine lv_iconst (v := (-1)) hx hb dX12_says_31 (by decide) ?_
      refine tw_goi hS (md_runV (As := [.int a1, .int a2, .int (-1)]) (rest := []) hx hb hml hown hW hK hT hS.1 (t_X12_saying l D cy tx base Z K N M35 Ra J42 hS.2.1 a0 hz_a0 hk_a0 a1 h14 a2 h26 (-1) (iv_mono (iv_c (c := (-1)) (n := (-1)) (by decide)) (by decide) (by decide)) (Codes.fr co_a0 hTy hz_a0 hk_a0 hS.2.2.1 hS.2.2.2 rfl)) s_X12_373 ⟨rfl, rfl, ⟨Nat.le_of_ble_eq_true rfl, Nat.le_of_ble_eq_true rfl⟩, ⟨Nat.le_of_ble_eq_true rfl, Nat.le_of_ble_eq_true rfl⟩⟩ hz_a0 hk_a0 (by decide) rfl rfl hl.1 rfl (Nat.le_of_ble_eq_true rfl) dX12_says_32) rfl rfl (fun x52 H locs M49 R50 J48 hS f46 g47 E51 => ?_)
      have eR50 := Fr.nil g47 rfl
      subst eR50
      have h_x52 := E51
      exact tw_endi hx hb hr hlocks hK hT hS hQ (h_x52) dX12_says_35
    · have q53 : x21.toInt = 0 := ti_eq c23
      have h54 : iv 0 0 x21 := ⟨by have := (h_x21).1; have := ((iv_c (c := 0) (n := 0) (by decide))).1; omega, by have := (h_x21).2; have := ((iv_c (c := 0) (n := 0) (by decide))).2; omega⟩
      refine lv_iconst (v := (-1)) hx hb dX12_says_16 (by decide) ?_
      exact tw_endi hx hb hr hlocks hK hT hS hQ ((iv_mono (iv_c (c := (-1)) (n := (-1)) (by decide)) (by decide) (by decide))) dX12_says_17
def Lt_X12_seed : WL := [(14, 0, 2000000), (23, 6, 7)]
def LRt_X12_seed : WL := []
set_option maxRecDepth 100000 in
set_option maxHeartbeats 4000000 in
theorem t_X12_seed (l : Launch) (D : va_G) (cy : Nat → ClassId) (tx : (Nat → Nat) × (Nat → Nat)) (base Z : Nat) (K N : Nat → Nat) (Ma : MT) (Ra : RT) (Ja : JT) (hTy : Ty Z K N Ma Ra) (a0 : Nat) (hz_a0 : a0 < Z) (hk_a0 : K a0 = 12) (a1 : Int32) (h_a1 : iv (-2147483648) 2147483647 a1) : Met l yX12_seed [Cond.code yX12_seed cX12_seed 3 (some .int)] (md_rm 2 0 0) (va_Pc [.ref (base + a0), .int a1] (md_U D cy tx base Z K N Ma Ra Ja)) (mQi D cy tx base (fun r u => TP Z K N Lt_X12_seed LRt_X12_seed Ma Ra u ∧ (iv (-2) 2147483647 r))) 0 0 (fun q => base ≤ q) := by
  refine tw_ofW (L := Lt_X12_seed) (LR := LRt_X12_seed) (by decide) (Nat.le_of_ble_eq_true rfl) hTy ?_
  intro p e s m args below meth c Q ls hx hb hr hlocks hown hml hW hK hT hS hQ hl
  have hl : lv_has ls 3 [(0, .ref (base + a0)), (1, .int a1)] := hl
  refine lv_iload_n hx hb dX12_seed_0 rfl (lv_at hl 1 rfl) ?_
  refine lv_if_ge (tgt := 10) hx hb dX12_seed_1 (by decide) (fun c1 => ?_) (fun c1 => ?_)
  · have q2 : 0 ≤ a1.toInt := ti_le c1
    have h3 : iv 0 2147483647 a1 := iv_geL (y := 0) h_a1 (iv_c (c := 0) (n := 0) (by decide)) q2 (by decide)
    refine lv_aload_n hx hb dX12_seed_10 rfl (lv_at hl 0 rfl) ?_
    refine tw_getr hx hb hW hown hK hS f_X12_45_11 hz_a0 hk_a0 (t := 23) (n := 226) rfl dX12_seed_11 (fun b4 k5 hz_b4 hk_b4 hn_b4 => ?_)
    have hn_b4 := hn_b4 (by decide)
    refine lv_bipush (v := 6) hx hb dX12_seed_14 (by decide) ?_
    refine tw_iald hx hb hK hS hz_b4 hk_b4 (Or.inr (by decide)) hn_b4 (lo := 0) (hi := 2147483647) (iv_c (c := 6) (n := 6) (by decide)) ⟨by decide, by decide⟩ (rg_c (k0 := 6) rfl rfl rfl) dX12_seed_16 (fun x8 k7 h6 => ?_)
    refine lv_istore_n (lv' := [(2, .int x8), (0, .ref (base + a0)), (1, .int a1)]) hx hb dX12_seed_17 rfl hl (by decide) rfl (fun ls hl => ?_)
    refine lv_aload_n hx hb dX12_seed_18 rfl (lv_at hl 1 rfl) ?_
    refine tw_getrk hx hb hW hown hK hS f_X12_45_11 hz_a0 hk_a0 (b := b4) k5 dX12_seed_19 ?_
    refine lv_bipush (v := 6) hx hb dX12_seed_22 (by decide) ?_
    refine lv_iload_n hx hb dX12_seed_24 rfl (lv_at hl 2 rfl) ?_
    refine tw_iast hx hb hK hS hz_b4 hk_b4 (Or.inr (by decide)) hn_b4 (iv_c (c := 6) (n := 6) (by decide)) ⟨by decide, by decide⟩ h3 (rg_cs (k0 := 6) rfl rfl rfl ⟨by decide, by decide⟩) (jl := 6) (jh := 6) ⟨by decide, by decide⟩ rfl dX12_seed_25 (fun H locs M11 hS k9 f10 => ?_)
    refine lv_iload_n hx hb dX12_seed_26 rfl (lv_at hl 0 rfl) ?_
    exact tw_endi hx hb hr hlocks hK hT hS hQ ((iv_mono h6 (by decide) (by decide))) dX12_seed_27
  · have q12 : a1.toInt < 0 := ti_nle c1
    have h13 : iv (-2147483648) (-1) a1 := iv_ltL (y := 0) h_a1 (iv_c (c := 0) (n := 0) (by decide)) q12 (by decide)
    refine lv_aload_n hx hb dX12_seed_4 rfl (lv_at hl 0 rfl) ?_
    refine lv_iconst (v := 0) hx hb dX12_seed_5 (by decide) ?_
    refine tw_goi hS (md_runV (As := [.int 0]) (rest := []) hx hb hml hown hW hK hT hS.1 (t_X12_refuses l D cy tx base Z K N Ma Ra Ja hS.2.1 a0 hz_a0 hk_a0 0 (iv_mono (iv_c (c := 0) (n := 0) (by decide)) (by decide) (by decide))) s_X12_338 ⟨rfl, rfl, ⟨Nat.le_of_ble_eq_true rfl, Nat.le_of_ble_eq_true rfl⟩, ⟨Nat.le_of_ble_eq_true rfl, Nat.le_of_ble_eq_true rfl⟩⟩ hz_a0 hk_a0 (by decide) rfl rfl hl.1 rfl (Nat.le_of_ble_eq_true rfl) dX12_seed_6) rfl rfl (fun x20 H locs M17 R18 J16 hS f14 g15 E19 => ?_)
    have eR18 := Fr.nil g15 rfl
    subst eR18
    have h_x20 := E19
    exact tw_endi hx hb hr hlocks hK hT hS hQ ((iv_mono h_x20 (by decide) (by decide))) dX12_seed_9
def Lt_X12_sides : WL := [(12, 23, 24), (12, 28, 29), (12, 30, 33), (14, 0, 2000000), (30, 0, 2000000), (31, 0, 2000000)]
def LRt_X12_sides : WL := []
set_option maxRecDepth 100000 in
set_option maxHeartbeats 4000000 in
theorem t_X12_sides (l : Launch) (D : va_G) (cy : Nat → ClassId) (tx : (Nat → Nat) × (Nat → Nat)) (base Z : Nat) (K N : Nat → Nat) (Ma : MT) (Ra : RT) (Ja : JT) (hTy : Ty Z K N Ma Ra) (a0 : Nat) (hz_a0 : a0 < Z) (hk_a0 : K a0 = 12) (a1 : Int32) (h_a1 : iv (-2147483648) 2147483647 a1) (a2 : Int32) (h_a2 : iv (-2147483648) 2147483647 a2) (a3 : Int32) (h_a3 : iv (-2147483648) 2147483647 a3) (co_a0 : Codes Ma Ra a0) (sd : Nat) (k_sd : Ra a0 25 = some sd) (e4 : Int32) (k_e4 : Ma sd (4 : Int32).toNatClampNeg = e4) (h_e4 : iv 0 8 e4) : Met l yX12_sides [Cond.code yX12_sides cX12_sides 6 (some .int)] (md_rm 6 0 0) (va_Pc [.ref (base + a0), .int a1, .int a2, .int a3] (md_U D cy tx base Z K N Ma Ra Ja)) (mQi D cy tx base (fun r u => TP Z K N Lt_X12_sides LRt_X12_sides Ma Ra u ∧ (iv (-2147483648) 2147483647 r))) 0 0 (fun q => base ≤ q) := by
  refine tw_ofW (L := Lt_X12_sides) (LR := LRt_X12_sides) (by decide) (Nat.le_of_ble_eq_true rfl) hTy ?_
  intro p e s m args below meth c Q ls hx hb hr hlocks hown hml hW hK hT hS hQ hl
  have hl : lv_has ls 6 [(0, .ref (base + a0)), (1, .int a1), (2, .int a2), (3, .int a3)] := hl
  obtain ⟨hz_sd, hk_sd, hn_sd⟩ := hTy.refn hz_a0 hk_a0 (show rtR 12 25 = (23, 226, 0) from rfl) k_sd
  have hn_sd := hn_sd (by decide)
  refine lv_aload_n hx hb dX12_sides_0 rfl (lv_at hl 0 rfl) ?_
  refine lv_iload_n hx hb dX12_sides_1 rfl (lv_at hl 1 rfl) ?_
  refine tw_goi hS (md_runV (As := [.int a1]) (rest := []) hx hb hml hown hW hK hT hS.1 (t_X12_isSet l D cy tx base Z K N Ma Ra Ja hS.2.1 a0 hz_a0 hk_a0 a1 h_a1) s_X12_404 ⟨rfl, rfl, ⟨Nat.le_of_ble_eq_true rfl, Nat.le_of_ble_eq_true rfl⟩, ⟨Nat.le_of_ble_eq_true rfl, Nat.le_of_ble_eq_true rfl⟩⟩ hz_a0 hk_a0 (by decide) rfl rfl hl.1 rfl (Nat.le_of_ble_eq_true rfl) dX12_sides_2) rfl rfl (fun x7 H locs M4 R5 J3 hS f1 g2 E6 => ?_)
  have eM4 := Fr.nil f1 rfl
  subst eM4
  have eR5 := Fr.nil g2 rfl
  subst eR5
  have h_x7 := E6
  refine lv_if_eq (tgt := 72) hx hb dX12_sides_5 (by decide) (fun c8 => ?_) (fun c8 => ?_)
  · have q9 : x7.toInt = 0 := ti_eq c8
    have h10 : iv 0 0 x7 := ⟨by have := (h_x7).1; have := ((iv_c (c := 0) (n := 0) (by decide))).1; omega, by have := (h_x7).2; have := ((iv_c (c := 0) (n := 0) (by decide))).2; omega⟩
    refine lv_ldcw hx hb hown (hW _ w_8_46 rfl) dX12_sides_72 ?_
    exact tw_endi hx hb hr hlocks hK hT hS hQ ((iv_mono (iv_c (c := (-1000000)) (n := (-1000000)) (by decide)) (by decide) (by decide))) dX12_sides_75
  · have q11 : ¬ x7.toInt = 0 := ti_ne c8
    have h12 : iv 1 1 x7 := ⟨by have := (h_x7).1; have := ((iv_c (c := 0) (n := 0) (by decide))).1; have := ((iv_c (c := 0) (n := 0) (by decide))).2; omega, by have := (h_x7).2; have := ((iv_c (c := 0) (n := 0) (by decide))).1; have := ((iv_c (c := 0) (n := 0) (by decide))).2; omega⟩
    refine lv_aload_n hx hb dX12_sides_8 rfl (lv_at hl 0 rfl) ?_
    refine lv_iload_n hx hb dX12_sides_9 rfl (lv_at hl 2 rfl) ?_
    refine tw_goi hS (md_runV (As := [.int a2]) (rest := []) hx hb hml hown hW hK hT hS.1 (t_X12_isSet l D cy tx base Z K N Ma Ra J3 hS.2.1 a0 hz_a0 hk_a0 a2 h_a2) s_X12_404 ⟨rfl, rfl, ⟨Nat.le_of_ble_eq_true rfl, Nat.le_of_ble_eq_true rfl⟩, ⟨Nat.le_of_ble_eq_true rfl, Nat.le_of_ble_eq_true rfl⟩⟩ hz_a0 hk_a0 (by decide) rfl rfl hl.1 rfl (Nat.le_of_ble_eq_true rfl) dX12_sides_10) rfl rfl (fun x19 H locs M16 R17 J15 hS f13 g14 E18 => ?_)
    have eM16 := Fr.nil f13 rfl
    subst eM16
    have eR17 := Fr.nil g14 rfl
    subst eR17
    have h_x19 := E18
    refine lv_if_eq (tgt := 72) hx hb dX12_sides_13 (by decide) (fun c20 => ?_) (fun c20 => ?_)
    · have q21 : x19.toInt = 0 := ti_eq c20
      have h22 : iv 0 0 x19 := ⟨by have := (h_x19).1; have := ((iv_c (c := 0) (n := 0) (by decide))).1; omega, by have := (h_x19).2; have := ((iv_c (c := 0) (n := 0) (by decide))).2; omega⟩
      refine lv_ldcw hx hb hown (hW _ w_8_46 rfl) dX12_sides_72 ?_
      exact tw_endi hx hb hr hlocks hK hT hS hQ ((iv_mono (iv_c (c := (-1000000)) (n := (-1000000)) (by decide)) (by decide) (by decide))) dX12_sides_75
    · have q23 : ¬ x19.toInt = 0 := ti_ne c20
      have h24 : iv 1 1 x19 := ⟨by have := (h_x19).1; have := ((iv_c (c := 0) (n := 0) (by decide))).1; have := ((iv_c (c := 0) (n := 0) (by decide))).2; omega, by have := (h_x19).2; have := ((iv_c (c := 0) (n := 0) (by decide))).1; have := ((iv_c (c := 0) (n := 0) (by decide))).2; omega⟩
      refine lv_iload_n hx hb dX12_sides_16 rfl (lv_at hl 1 rfl) ?_
      refine lv_if_eq (tgt := 72) hx hb dX12_sides_17 (by decide) (fun c25 => ?_) (fun c25 => ?_)
      · have q26 : a1.toInt = 0 := ti_eq c25
        have h27 : iv 0 0 a1 := ⟨by have := (h_a1).1; have := ((iv_c (c := 0) (n := 0) (by decide))).1; omega, by have := (h_a1).2; have := ((iv_c (c := 0) (n := 0) (by decide))).2; omega⟩
        refine lv_ldcw hx hb hown (hW _ w_8_46 rfl) dX12_sides_72 ?_
        exact tw_endi hx hb hr hlocks hK hT hS hQ ((iv_mono (iv_c (c := (-1000000)) (n := (-1000000)) (by decide)) (by decide) (by decide))) dX12_sides_75
      · have q28 : ¬ a1.toInt = 0 := ti_ne c25
        refine lv_iload_n hx hb dX12_sides_20 rfl (lv_at hl 2 rfl) ?_
        refine lv_if_eq (tgt := 72) hx hb dX12_sides_21 (by decide) (fun c29 => ?_) (fun c29 => ?_)
        · have q30 : a2.toInt = 0 := ti_eq c29
          have h31 : iv 0 0 a2 := ⟨by have := (h_a2).1; have := ((iv_c (c := 0) (n := 0) (by decide))).1; omega, by have := (h_a2).2; have := ((iv_c (c := 0) (n := 0) (by decide))).2; omega⟩
          refine lv_ldcw hx hb hown (hW _ w_8_46 rfl) dX12_sides_72 ?_
          exact tw_endi hx hb hr hlocks hK hT hS hQ ((iv_mono (iv_c (c := (-1000000)) (n := (-1000000)) (by decide)) (by decide) (by decide))) dX12_sides_75
        · have q32 : ¬ a2.toInt = 0 := ti_ne c29
          refine lv_iload_n hx hb dX12_sides_24 rfl (lv_at hl 1 rfl) ?_
          refine lv_iload_n hx hb dX12_sides_25 rfl (lv_at hl 2 rfl) ?_
          refine lv_iand hx hb dX12_sides_26 ?_
          refine tw_top (fun x34 => ?_)
          have h33 := iv_any x34
          refine lv_if_ne (tgt := 72) hx hb dX12_sides_27 (by decide) (fun c35 => ?_) (fun c35 => ?_)
          · have q36 : ¬ x34.toInt = 0 := ti_ne c35
            refine lv_ldcw hx hb hown (hW _ w_8_46 rfl) dX12_sides_72 ?_
            exact tw_endi hx hb hr hlocks hK hT hS hQ ((iv_mono (iv_c (c := (-1000000)) (n := (-1000000)) (by decide)) (by decide) (by decide))) dX12_sides_75
          · have q37 : x34.toInt = 0 := ti_eq c35
            have h38 : iv 0 0 x34 := ⟨by have := (h33).1; have := ((iv_c (c := 0) (n := 0) (by decide))).1; omega, by have := (h33).2; have := ((iv_c (c := 0) (n := 0) (by decide))).2; omega⟩
            refine lv_iload_n hx hb dX12_sides_30 rfl (lv_at hl 1 rfl) ?_
            refine lv_iload_n hx hb dX12_sides_31 rfl (lv_at hl 2 rfl) ?_
            refine lv_ior hx hb dX12_sides_32 ?_
            refine tw_top (fun x40 => ?_)
            have h39 := iv_any x40
            refine lv_aload_n hx hb dX12_sides_33 rfl (lv_at hl 0 rfl) ?_
            refine tw_getrk hx hb hW hown hK hS f_X12_45_11 hz_a0 hk_a0 (b := sd) k_sd dX12_sides_34 ?_
            refine lv_iconst (v := 2) hx hb dX12_sides_37 (by decide) ?_
            refine tw_iald hx hb hK hS hz_sd hk_sd (Or.inr (by decide)) hn_sd (lo := (-2147483648)) (hi := 2147483647) (iv_c (c := 2) (n := 2) (by decide)) ⟨by decide, by decide⟩ (rg_c (k0 := 2) rfl rfl rfl) dX12_sides_38 (fun x43 k42 h41 => ?_)
            refine lv_iconst (v := (-1)) hx hb dX12_sides_39 (by decide) ?_
            refine lv_ixor hx hb dX12_sides_40 ?_
            refine tw_top (fun x45 => ?_)
            have h44 := iv_any x45
            refine lv_iand hx hb dX12_sides_41 ?_
            refine tw_top (fun x47 => ?_)
            have h46 := iv_any x47
            refine lv_if_ne (tgt := 72) hx hb dX12_sides_42 (by decide) (fun c48 => ?_) (fun c48 => ?_)
            · have q49 : ¬ x47.toInt = 0 := ti_ne c48
              refine lv_ldcw hx hb hown (hW _ w_8_46 rfl) dX12_sides_72 ?_
              exact tw_endi hx hb hr hlocks hK hT hS hQ ((iv_mono (iv_c (c := (-1000000)) (n := (-1000000)) (by decide)) (by decide) (by decide))) dX12_sides_75
            · have q50 : x47.toInt = 0 := ti_eq c48
              have h51 : iv 0 0 x47 := ⟨by have := (h46).1; have := ((iv_c (c := 0) (n := 0) (by decide))).1; omega, by have := (h46).2; have := ((iv_c (c := 0) (n := 0) (by decide))).2; omega⟩
              refine lv_aload_n hx hb dX12_sides_45 rfl (lv_at hl 0 rfl) ?_
              refine tw_getrk hx hb hW hown hK hS f_X12_45_11 hz_a0 hk_a0 (b := sd) k_sd dX12_sides_46 ?_
              refine lv_iconst (v := 4) hx hb dX12_sides_49 (by decide) ?_
              refine tw_ialk hx hb hK hS hz_sd hk_sd (Or.inr (by decide)) hn_sd (iv_c (c := 4) (n := 4) (by decide)) ⟨by decide, by decide⟩ (v := e4) k_e4 dX12_sides_50 ?_
              refine lv_i2l hx hb dX12_sides_51 rfl ?_
              refine lv_lconst (v := 1) hx hb dX12_sides_52 (by decide) ?_
              refine lv_ldc2 hx hb hown (hW _ w_7_141 rfl) dX12_sides_53 ?_
              refine tw_goi hS (md_runS (As := [.long e4.toInt64, .long 1, .long 4]) (rest := []) hx hb hml hown hW hK hT hS.1 (t_X12_in l D cy tx base Z K N Ma Ra J15 hS.2.1 (e4.toInt64) (1) (4)) s_X12_155 ⟨rfl, rfl, ⟨Nat.le_of_ble_eq_true rfl, Nat.le_of_ble_eq_true rfl⟩, ⟨Nat.le_of_ble_eq_true rfl, Nat.le_of_ble_eq_true rfl⟩⟩ rfl hl.1 rfl (Nat.le_of_ble_eq_true rfl) dX12_sides_56) rfl rfl (fun x58 H locs M55 R56 J54 hS f52 g53 E57 => ?_)
              have eM55 := Fr.nil f52 rfl
              subst eM55
              have eR56 := Fr.nil g53 rfl
              subst eR56
              obtain ⟨h_x58, p59⟩ := E57
              refine lv_if_eq (tgt := 72) hx hb dX12_sides_59 (by decide) (fun c60 => ?_) (fun c60 => ?_)
              · have q61 : x58.toInt = 0 := ti_eq c60
                have h62 : iv 0 0 x58 := ⟨by have := (h_x58).1; have := ((iv_c (c := 0) (n := 0) (by decide))).1; omega, by have := (h_x58).2; have := ((iv_c (c := 0) (n := 0) (by decide))).2; omega⟩
                refine lv_ldcw hx hb hown (hW _ w_8_46 rfl) dX12_sides_72 ?_
                exact tw_endi hx hb hr hlocks hK hT hS hQ ((iv_mono (iv_c (c := (-1000000)) (n := (-1000000)) (by decide)) (by decide) (by decide))) dX12_sides_75
              · have q63 : ¬ x58.toInt = 0 := ti_ne c60
                have h64 : iv 1 1 x58 := ⟨by have := (h_x58).1; have := ((iv_c (c := 0) (n := 0) (by decide))).1; have := ((iv_c (c := 0) (n := 0) (by decide))).2; omega, by have := (h_x58).2; have := ((iv_c (c := 0) (n := 0) (by decide))).1; have := ((iv_c (c := 0) (n := 0) (by decide))).2; omega⟩
                have h65 : iv 1 4 e4 := in2iv (p59 c60) ((jv_c (x := 1) (n := 1) (by decide))).1 ((jv_c (x := 4) (n := 4) (by decide))).2
                refine lv_iload_n hx hb dX12_sides_62 rfl (lv_at hl 3 rfl) ?_
                refine lv_i2l hx hb dX12_sides_63 rfl ?_
                refine lv_lconst (v := 0) hx hb dX12_sides_64 (by decide) ?_
                refine lv_lconst (v := 1) hx hb dX12_sides_65 (by decide) ?_
                refine tw_goi hS (md_runS (As := [.long a3.toInt64, .long 0, .long 1]) (rest := []) hx hb hml hown hW hK hT hS.1 (t_X12_in l D cy tx base Z K N Ma Ra J54 hS.2.1 (a3.toInt64) (0) (1)) s_X12_155 ⟨rfl, rfl, ⟨Nat.le_of_ble_eq_true rfl, Nat.le_of_ble_eq_true rfl⟩, ⟨Nat.le_of_ble_eq_true rfl, Nat.le_of_ble_eq_true rfl⟩⟩ rfl hl.1 rfl (Nat.le_of_ble_eq_true rfl) dX12_sides_66) rfl rfl (fun x72 H locs M69 R70 J68 hS f66 g67 E71 => ?_)
                have eM69 := Fr.nil f66 rfl
                subst eM69
                have eR70 := Fr.nil g67 rfl
                subst eR70
                obtain ⟨h_x72, p73⟩ := E71
                refine lv_if_ne (tgt := 76) hx hb dX12_sides_69 (by decide) (fun c74 => ?_) (fun c74 => ?_)
                · have q75 : ¬ x72.toInt = 0 := ti_ne c74
                  have h76 : iv 1 1 x72 := ⟨by have := (h_x72).1; have := ((iv_c (c := 0) (n := 0) (by decide))).1; have := ((iv_c (c := 0) (n := 0) (by decide))).2; omega, by have := (h_x72).2; have := ((iv_c (c := 0) (n := 0) (by decide))).1; have := ((iv_c (c := 0) (n := 0) (by decide))).2; omega⟩
                  have h77 : iv 0 1 a3 := in2iv (p73 c74) ((jv_c (x := 0) (n := 0) (by decide))).1 ((jv_c (x := 1) (n := 1) (by decide))).2
                  refine lv_iconst (v := 1) hx hb dX12_sides_76 (by decide) ?_
                  refine lv_istore (lv' := [(4, .int 1), (0, .ref (base + a0)), (1, .int a1), (2, .int a2), (3, .int a3)]) hx hb dX12_sides_77 hl (by decide) rfl (fun ls hl => ?_)
                  refine lv_iconst (v := 0) hx hb dX12_sides_79 (by decide) ?_
                  refine lv_istore (lv' := [(5, .int 0), (4, .int 1), (0, .ref (base + a0)), (1, .int a1), (2, .int a2), (3, .int a3)]) hx hb dX12_sides_80 hl (by decide) rfl (fun ls hl => ?_)
                  have W82_80 : ∀ (n_80 : Nat) (x78 : Int32) (x79 : Int32) (M80 : MT) (R81 : RT) (J82 : JT) (H : Heap) (locs : List Loc) (ls : Array Slot) (h_x78 : iv 1 6561 x78) (h_x79 : iv 0 4 x79) (w0_80 : x79.toInt ≤ e4.toInt) (w1_80 : (x79.toInt = 0 ∧ x78.toInt = 1) ∨ (x79.toInt = 1 ∧ x78.toInt = 9) ∨ (x79.toInt = 2 ∧ x78.toInt = 81) ∨ (x79.toInt = 3 ∧ x78.toInt = 729) ∨ (x79.toInt = 4 ∧ x78.toInt = 6561)) (hm_80 : 4 - x79.toInt < (n_80 : Int)) (hS : SB D cy base Z K N Lt_X12_sides LRt_X12_sides Ma Ra M80 R81 J82 s H locs) (hl : lv_has ls 6 [(4, .int x78), (5, .int x79), (0, .ref (base + a0)), (1, .int a1), (2, .int a2), (3, .int a3)]), W p l e (md_rm 6 0 0) s m args below meth c H locs 0 0 Q (F0 m 82 ls []) := by
                    intro n_80
                    induction n_80 with
                    | zero =>
                      intro x78 x79 M80 R81 J82 H locs ls h_x78 h_x79 w0_80 w1_80 hm_80 hS hl
                      exfalso
                      have := (h_a1).1; have := (h_a1).2; have := (h_a2).1; have := (h_a2).2; have := (h77).1; have := (h77).2; have := (h65).1; have := (h65).2; have := (h_x78).1; have := (h_x78).2; have := (h_x79).1; have := (h_x79).2; omega
                    | succ n_80 ih_80 =>
                      intro x78 x79 M80 R81 J82 H locs ls h_x78 h_x79 w0_80 w1_80 hm_80 hS hl
                      have f83 := hS.2.2.1
                      have g84 := hS.2.2.2
                      refine lv_iload hx hb dX12_sides_82 (lv_at hl 1 rfl) ?_
                      refine lv_aload_n hx hb dX12_sides_84 rfl (lv_at hl 2 rfl) ?_
                      have k85 : R81 a0 25 = some sd := (Fr.kp (k := 25) g84 hk_a0 rfl).trans k_sd
                      refine tw_getrk hx hb hW hown hK hS f_X12_45_11 hz_a0 hk_a0 (b := sd) k85 dX12_sides_85 ?_
                      refine lv_iconst (v := 4) hx hb dX12_sides_88 (by decide) ?_
                      have k86 : M80 sd (4 : Int32).toNatClampNeg = e4 := (Fr.kp (k := (4 : Int32).toNatClampNeg) f83 hk_sd rfl).trans k_e4
                      refine tw_ialk hx hb hK hS hz_sd hk_sd (Or.inr (by decide)) hn_sd (iv_c (c := 4) (n := 4) (by decide)) ⟨by decide, by decide⟩ (v := e4) k86 dX12_sides_89 ?_
                      refine lv_icmp_ge (tgt := 106) hx hb dX12_sides_90 (by decide) (fun c87 => ?_) (fun c87 => ?_)
                      · have q88 : e4.toInt ≤ x79.toInt := ti_le c87
                        have h89 : iv 1 4 x79 := iv_geL (y := e4) h_x79 h65 q88 (by decide)
                        refine lv_iconst (v := 0) hx hb dX12_sides_106 (by decide) ?_
                        refine lv_istore (lv' := [(5, .int 0), (4, .int x78), (0, .ref (base + a0)), (1, .int a1), (2, .int a2), (3, .int a3)]) hx hb dX12_sides_107 hl (by decide) rfl (fun ls hl => ?_)
                        have W109_91 : ∀ (n_91 : Nat) (x90 : Int32) (M91 : MT) (R92 : RT) (J93 : JT) (H : Heap) (locs : List Loc) (ls : Array Slot) (h_x90 : iv 0 6561 x90) (hm_91 : 6561 - x90.toInt < (n_91 : Int)) (hS : SB D cy base Z K N Lt_X12_sides LRt_X12_sides Ma Ra M91 R92 J93 s H locs) (hl : lv_has ls 6 [(5, .int x90), (4, .int x78), (0, .ref (base + a0)), (1, .int a1), (2, .int a2), (3, .int a3)]), W p l e (md_rm 6 0 0) s m args below meth c H locs 0 0 Q (F0 m 109 ls []) := by
                          intro n_91
                          induction n_91 with
                          | zero =>
                            intro x90 M91 R92 J93 H locs ls h_x90 hm_91 hS hl
                            exfalso
                            have := (h_a1).1; have := (h_a1).2; have := (h_a2).1; have := (h_a2).2; have := (h77).1; have := (h77).2; have := (h65).1; have := (h65).2; have := (h_x90).1; have := (h_x90).2; omega
                          | succ n_91 ih_91 =>
                            intro x90 M91 R92 J93 H locs ls h_x90 hm_91 hS hl
                            have f94 := hS.2.2.1
                            have g95 := hS.2.2.2
                            refine lv_iload hx hb dX12_sides_109 (lv_at hl 0 rfl) ?_
                            refine lv_iload hx hb dX12_sides_111 (lv_at hl 1 rfl) ?_
                            refine lv_icmp_ge (tgt := 139) hx hb dX12_sides_113 (by decide) (fun c96 => ?_) (fun c96 => ?_)
                            · have q97 : x78.toInt ≤ x90.toInt := ti_le c96
                              have h98 : iv 1 6561 x90 := iv_geL (y := x78) h_x90 h_x78 q97 (by decide)
                              have W139_101 : ∀ (n_101 : Nat) (x99 : Int32) (x100 : Int32) (M101 : MT) (R102 : RT) (J103 : JT) (H : Heap) (locs : List Loc) (ls : Array Slot) (h_x99 : iv 0 6561 x99) (h_x100 : iv 0 6561 x100) (hm_101 : x99.toInt - 0 < (n_101 : Int)) (hS : SB D cy base Z K N Lt_X12_sides LRt_X12_sides Ma Ra M101 R102 J103 s H locs) (hl : lv_has ls 6 [(4, .int x99), (5, .int x100), (0, .ref (base + a0)), (1, .int a1), (2, .int a2), (3, .int a3)]), W p l e (md_rm 6 0 0) s m args below meth c H locs 0 0 Q (F0 m 139 ls []) := by
                                intro n_101
                                induction n_101 with
                                | zero =>
                                  intro x99 x100 M101 R102 J103 H locs ls h_x99 h_x100 hm_101 hS hl
                                  exfalso
                                  have := (h_a1).1; have := (h_a1).2; have := (h_a2).1; have := (h_a2).2; have := (h77).1; have := (h77).2; have := (h65).1; have := (h65).2; have := (h_x99).1; have := (h_x99).2; omega
                                | succ n_101 ih_101 =>
                                  intro x99 x100 M101 R102 J103 H locs ls h_x99 h_x100 hm_101 hS hl
                                  have f104 := hS.2.2.1
                                  have g105 := hS.2.2.2
                                  refine lv_iload hx hb dX12_sides_139 (lv_at hl 0 rfl) ?_
                                  refine lv_bipush (v := 9) hx hb dX12_sides_141 (by decide) ?_
                                  refine lv_icmp_le (tgt := 216) hx hb dX12_sides_143 (by decide) (fun c106 => ?_) (fun c106 => ?_)
                                  · have q107 : x99.toInt ≤ 9 := ti_le c106
                                    have h108 : iv 0 9 x99 := iv_leL (y := 9) h_x99 (iv_c (c := 9) (n := 9) (by decide)) q107 (by decide)
                                    refine lv_aload_n hx hb dX12_sides_216 rfl (lv_at hl 2 rfl) ?_
                                    refine lv_iconst (v := 0) hx hb dX12_sides_217 (by decide) ?_
                                    refine lv_iconst (v := 1) hx hb dX12_sides_218 (by decide) ?_
                                    refine tw_goi hS (md_runV (As := [.int 0, .int 1]) (rest := []) hx hb hml hown hW hK hT hS.1 (t_X12_best l D cy tx base Z K N M101 R102 J103 hS.2.1 a0 hz_a0 hk_a0 0 (iv_mono (iv_c (c := 0) (n := 0) (by decide)) (by decide) (by decide)) 1 (iv_mono (iv_c (c := 1) (n := 1) (by decide)) (by decide) (by decide))) s_X12_466 ⟨rfl, rfl, ⟨Nat.le_of_ble_eq_true rfl, Nat.le_of_ble_eq_true rfl⟩, ⟨Nat.le_of_ble_eq_true rfl, Nat.le_of_ble_eq_true rfl⟩⟩ hz_a0 hk_a0 (by decide) rfl rfl hl.1 rfl (Nat.le_of_ble_eq_true rfl) dX12_sides_219) rfl rfl (fun x115 H locs M112 R113 J111 hS f109 g110 E114 => ?_)
                                    have eM112 := Fr.nil f109 rfl
                                    subst eM112
                                    have eR113 := Fr.nil g110 rfl
                                    subst eR113
                                    have h_x115 := E114
                                    refine lv_istore (lv' := [(5, .int x115), (4, .int x99), (0, .ref (base + a0)), (1, .int a1), (2, .int a2), (3, .int a3)]) hx hb dX12_sides_222 hl (by decide) rfl (fun ls hl => ?_)
                                    refine lv_iload_n hx hb dX12_sides_224 rfl (lv_at hl 5 rfl) ?_
                                    refine lv_if_ne (tgt := 237) hx hb dX12_sides_225 (by decide) (fun c116 => ?_) (fun c116 => ?_)
                                    · have q117 : ¬ a3.toInt = 0 := ti_ne c116
                                      have h118 : iv 1 1 a3 := ⟨by have := (h77).1; have := ((iv_c (c := 0) (n := 0) (by decide))).1; have := ((iv_c (c := 0) (n := 0) (by decide))).2; omega, by have := (h77).2; have := ((iv_c (c := 0) (n := 0) (by decide))).1; have := ((iv_c (c := 0) (n := 0) (by decide))).2; omega⟩
                                      refine lv_iload hx hb dX12_sides_237 (lv_at hl 0 rfl) ?_
                                      refine lv_if_ne (tgt := 246) hx hb dX12_sides_239 (by decide) (fun c119 => ?_) (fun c119 => ?_)
                                      · have q120 : ¬ x115.toInt = 0 := ti_ne c119
                                        refine lv_iload hx hb dX12_sides_246 (lv_at hl 0 rfl) ?_
                                        refine lv_iconst (v := 1) hx hb dX12_sides_248 (by decide) ?_
                                        refine lv_icmp_ne (tgt := 256) hx hb dX12_sides_249 (by decide) (fun c121 => ?_) (fun c121 => ?_)
                                        · have q122 : ¬ x115.toInt = 1 := ti_ne c121
                                          refine lv_iconst (v := 2) hx hb dX12_sides_256 (by decide) ?_
                                          exact tw_endi hx hb hr hlocks hK hT hS hQ ((iv_mono (iv_c (c := 2) (n := 2) (by decide)) (by decide) (by decide))) dX12_sides_257
                                        · have q123 : x115.toInt = 1 := ti_eq c121
                                          have h124 : iv 1 1 x115 := ⟨by have := (h_x115).1; have := ((iv_c (c := 1) (n := 1) (by decide))).1; omega, by have := (h_x115).2; have := ((iv_c (c := 1) (n := 1) (by decide))).2; omega⟩
                                          refine lv_iconst (v := 0) hx hb dX12_sides_252 (by decide) ?_
                                          refine lv_goto (tgt := 257) hx hb dX12_sides_253 (by decide) ?_
                                          exact tw_endi hx hb hr hlocks hK hT hS hQ ((iv_mono (iv_c (c := 0) (n := 0) (by decide)) (by decide) (by decide))) dX12_sides_257
                                      · have q125 : x115.toInt = 0 := ti_eq c119
                                        have h126 : iv 0 0 x115 := ⟨by have := (h_x115).1; have := ((iv_c (c := 0) (n := 0) (by decide))).1; omega, by have := (h_x115).2; have := ((iv_c (c := 0) (n := 0) (by decide))).2; omega⟩
                                        refine lv_iconst (v := 1) hx hb dX12_sides_242 (by decide) ?_
                                        refine lv_goto (tgt := 257) hx hb dX12_sides_243 (by decide) ?_
                                        exact tw_endi hx hb hr hlocks hK hT hS hQ ((iv_mono (iv_c (c := 1) (n := 1) (by decide)) (by decide) (by decide))) dX12_sides_257
                                    · have q127 : a3.toInt = 0 := ti_eq c116
                                      have h128 : iv 0 0 a3 := ⟨by have := (h77).1; have := ((iv_c (c := 0) (n := 0) (by decide))).1; omega, by have := (h77).2; have := ((iv_c (c := 0) (n := 0) (by decide))).2; omega⟩
                                      refine lv_aload_n hx hb dX12_sides_228 rfl (lv_at hl 2 rfl) ?_
                                      refine lv_iconst (v := 0) hx hb dX12_sides_229 (by decide) ?_
                                      refine lv_iconst (v := 0) hx hb dX12_sides_230 (by decide) ?_
                                      refine tw_goi hS (md_runV (As := [.int 0, .int 0]) (rest := []) hx hb hml hown hW hK hT hS.1 (t_X12_best l D cy tx base Z K N M101 R102 J111 hS.2.1 a0 hz_a0 hk_a0 0 (iv_mono (iv_c (c := 0) (n := 0) (by decide)) (by decide) (by decide)) 0 (iv_mono (iv_c (c := 0) (n := 0) (by decide)) (by decide) (by decide))) s_X12_466 ⟨rfl, rfl, ⟨Nat.le_of_ble_eq_true rfl, Nat.le_of_ble_eq_true rfl⟩, ⟨Nat.le_of_ble_eq_true rfl, Nat.le_of_ble_eq_true rfl⟩⟩ hz_a0 hk_a0 (by decide) rfl rfl hl.1 rfl (Nat.le_of_ble_eq_true rfl) dX12_sides_231) rfl rfl (fun x135 H locs M132 R133 J131 hS f129 g130 E134 => ?_)
                                      have eM132 := Fr.nil f129 rfl
                                      subst eM132
                                      have eR133 := Fr.nil g130 rfl
                                      subst eR133
                                      have h_x135 := E134
                                      refine lv_goto (tgt := 257) hx hb dX12_sides_234 (by decide) ?_
                                      exact tw_endi hx hb hr hlocks hK hT hS hQ (h_x135) dX12_sides_257
                                  · have q136 : 9 < x99.toInt := ti_nle c106
                                    have h137 : iv 10 6561 x99 := iv_gtL (y := 9) h_x99 (iv_c (c := 9) (n := 9) (by decide)) q136 (by decide)
                                    refine lv_iload hx hb dX12_sides_146 (lv_at hl 0 rfl) ?_
                                    refine lv_bipush (v := 9) hx hb dX12_sides_148 (by decide) ?_
                                    refine tw_idiv (lo := 0) (hi := 729) hx hb h137 (iv_c (c := 9) (n := 9) (by decide)) ⟨by decide, by decide⟩ ⟨by decide, by decide⟩ dX12_sides_150 (fun x140 e139 h138 => ?_)
                                    have e139 : x140.toInt = x99.toInt / 9 := e139
                                    refine lv_istore (lv' := [(4, .int x140), (5, .int x100), (0, .ref (base + a0)), (1, .int a1), (2, .int a2), (3, .int a3)]) hx hb dX12_sides_151 hl (by decide) rfl (fun ls hl => ?_)
                                    refine lv_iconst (v := 0) hx hb dX12_sides_153 (by decide) ?_
                                    refine lv_istore (lv' := [(5, .int 0), (4, .int x140), (0, .ref (base + a0)), (1, .int a1), (2, .int a2), (3, .int a3)]) hx hb dX12_sides_154 hl (by decide) rfl (fun ls hl => ?_)
                                    have W156_142 : ∀ (n_142 : Nat) (x141 : Int32) (M142 : MT) (R143 : RT) (J144 : JT) (H : Heap) (locs : List Loc) (ls : Array Slot) (h_x141 : iv 0 729 x141) (hm_142 : 729 - x141.toInt < (n_142 : Int)) (hS : SB D cy base Z K N Lt_X12_sides LRt_X12_sides Ma Ra M142 R143 J144 s H locs) (hl : lv_has ls 6 [(5, .int x141), (4, .int x140), (0, .ref (base + a0)), (1, .int a1), (2, .int a2), (3, .int a3)]), W p l e (md_rm 6 0 0) s m args below meth c H locs 0 0 Q (F0 m 156 ls []) := by
                                      intro n_142
                                      induction n_142 with
                                      | zero =>
                                        intro x141 M142 R143 J144 H locs ls h_x141 hm_142 hS hl
                                        exfalso
                                        have := (h_a1).1; have := (h_a1).2; have := (h_a2).1; have := (h_a2).2; have := (h77).1; have := (h77).2; have := (h65).1; have := (h65).2; have := (h_x141).1; have := (h_x141).2; omega
                                      | succ n_142 ih_142 =>
                                        intro x141 M142 R143 J144 H locs ls h_x141 hm_142 hS hl
                                        have f145 := hS.2.2.1
                                        have g146 := hS.2.2.2
                                        refine lv_iload hx hb dX12_sides_156 (lv_at hl 0 rfl) ?_
                                        refine lv_iload hx hb dX12_sides_158 (lv_at hl 1 rfl) ?_
                                        refine lv_icmp_ge (tgt := 183) hx hb dX12_sides_160 (by decide) (fun c147 => ?_) (fun c147 => ?_)
                                        · have q148 : x140.toInt ≤ x141.toInt := ti_le c147
                                          refine lv_iconst (v := 0) hx hb dX12_sides_183 (by decide) ?_
                                          refine lv_istore (lv' := [(5, .int 0), (4, .int x140), (0, .ref (base + a0)), (1, .int a1), (2, .int a2), (3, .int a3)]) hx hb dX12_sides_184 hl (by decide) rfl (fun ls hl => ?_)
                                          have W186_150 : ∀ (n_150 : Nat) (x149 : Int32) (M150 : MT) (R151 : RT) (J152 : JT) (H : Heap) (locs : List Loc) (ls : Array Slot) (h_x149 : iv 0 729 x149) (hm_150 : 729 - x149.toInt < (n_150 : Int)) (hS : SB D cy base Z K N Lt_X12_sides LRt_X12_sides Ma Ra M150 R151 J152 s H locs) (hl : lv_has ls 6 [(5, .int x149), (4, .int x140), (0, .ref (base + a0)), (1, .int a1), (2, .int a2), (3, .int a3)]), W p l e (md_rm 6 0 0) s m args below meth c H locs 0 0 Q (F0 m 186 ls []) := by
                                            intro n_150
                                            induction n_150 with
                                            | zero =>
                                              intro x149 M150 R151 J152 H locs ls h_x149 hm_150 hS hl
                                              exfalso
                                              have := (h_a1).1; have := (h_a1).2; have := (h_a2).1; have := (h_a2).2; have := (h77).1; have := (h77).2; have := (h65).1; have := (h65).2; have := (h_x149).1; have := (h_x149).2; omega
                                            | succ n_150 ih_150 =>
                                              intro x149 M150 R151 J152 H locs ls h_x149 hm_150 hS hl
                                              have f153 := hS.2.2.1
                                              have g154 := hS.2.2.2
                                              refine lv_iload hx hb dX12_sides_186 (lv_at hl 0 rfl) ?_
                                              refine lv_iload hx hb dX12_sides_188 (lv_at hl 1 rfl) ?_
                                              refine lv_icmp_ge (tgt := 213) hx hb dX12_sides_190 (by decide) (fun c155 => ?_) (fun c155 => ?_)
                                              · have q156 : x140.toInt ≤ x149.toInt := ti_le c155
                                                refine lv_goto (tgt := 139) hx hb dX12_sides_213 (by decide) ?_
                                                have hm157 : x140.toInt - 0 < (n_101 : Int) := by
                                                  have := (h_a1).1; have := (h_a1).2; have := (h_a2).1; have := (h_a2).2; have := (h77).1; have := (h77).2; have := (h65).1; have := (h65).2; have := (h138).1; have := (h138).2; have := (h137).1; have := (h137).2; omega
                                                exact ih_101 x140 x149 M150 R151 J152 H locs _ (iv_mono h138 (by decide) (by decide)) (iv_mono h_x149 (by decide) (by decide)) hm157 hS (lv_sub hl [1, 0, 2, 3, 4, 5] rfl)
                                              · have q158 : x149.toInt < x140.toInt := ti_nle c155
                                                have h159 : iv 0 728 x149 := iv_ltL (y := x140) h_x149 h138 q158 (by decide)
                                                have h160 : iv 1 729 x140 := iv_gtL (y := x149) h138 h_x149 q158 (by decide)
                                                refine lv_aload_n hx hb dX12_sides_193 rfl (lv_at hl 2 rfl) ?_
                                                refine tw_getr hx hb hW hown hK hS f_X12_81_11 hz_a0 hk_a0 (t := 14) (n := 6561) rfl dX12_sides_194 (fun b161 k162 hz_b161 hk_b161 hn_b161 => ?_)
                                                have hn_b161 := hn_b161 (by decide)
                                                refine lv_iload hx hb dX12_sides_197 (lv_at hl 0 rfl) ?_
                                                refine lv_aload_n hx hb dX12_sides_199 rfl (lv_at hl 2 rfl) ?_
                                                refine tw_getr hx hb hW hown hK hS f_X12_84_11 hz_a0 hk_a0 (t := 14) (n := 6561) rfl dX12_sides_200 (fun b163 k164 hz_b163 hk_b163 hn_b163 => ?_)
                                                have hn_b163 := hn_b163 (by decide)
                                                refine lv_iload hx hb dX12_sides_203 (lv_at hl 0 rfl) ?_
                                                refine tw_iald hx hb hK hS hz_b163 hk_b163 (Or.inl rfl) hn_b163 (lo := (-2147483648)) (hi := 2147483647) h159 ⟨by decide, by decide⟩ rg_u14 dX12_sides_205 (fun x167 k166 h165 => ?_)
                                                refine tw_iast hx hb hK hS hz_b161 hk_b161 (Or.inl rfl) hn_b161 h159 ⟨by decide, by decide⟩ h165 (rg_s14 ⟨by decide, by decide⟩) (jl := 0) (jh := 1999999) ⟨by decide, by decide⟩ rfl dX12_sides_206 (fun H locs M170 hS k168 f169 => ?_)
                                                refine tw_iinc (lv' := fun x173 => [(5, .int x173), (4, .int x140), (0, .ref (base + a0)), (1, .int a1), (2, .int a2), (3, .int a3)]) (lo := 1) (hi := 729) hx hb dX12_sides_207 hl (k := 0) rfl h159 (by decide) ⟨by decide, by decide⟩ ⟨by decide, by decide⟩ (by decide) (fun _ => rfl) (fun x173 ls e172 h171 hl => ?_)
                                                refine lv_goto (tgt := 186) hx hb dX12_sides_210 (by decide) ?_
                                                have hm174 : 729 - x173.toInt < (n_150 : Int) := by
                                                  have := (h_a1).1; have := (h_a1).2; have := (h_a2).1; have := (h_a2).2; have := (h77).1; have := (h77).2; have := (h65).1; have := (h65).2; have := (h159).1; have := (h159).2; have := (h171).1; have := (h171).2; omega
                                                exact ih_150 x173 M170 R151 J152 H locs _ (iv_mono h171 (by decide) (by decide)) hm174 hS hl
                                          have hm175 : 729 - (0 : Int32).toInt < (((730 : Nat) : Int) : Int) := by
                                            have := (h_a1).1; have := (h_a1).2; have := (h_a2).1; have := (h_a2).2; have := (h77).1; have := (h77).2; have := (h65).1; have := (h65).2; have : (0 : Int32).toInt = 0 := (by decide); omega
                                          exact W186_150 730 0 M142 R143 J144 H locs _ (iv_mono (iv_c (c := 0) (n := 0) (by decide)) (by decide) (by decide)) hm175 hS hl
                                        · have q176 : x141.toInt < x140.toInt := ti_nle c147
                                          have h177 : iv 0 728 x141 := iv_ltL (y := x140) h_x141 h138 q176 (by decide)
                                          have h178 : iv 1 729 x140 := iv_gtL (y := x141) h138 h_x141 q176 (by decide)
                                          refine lv_aload_n hx hb dX12_sides_163 rfl (lv_at hl 2 rfl) ?_
                                          refine tw_getr hx hb hW hown hK hS f_X12_84_11 hz_a0 hk_a0 (t := 14) (n := 6561) rfl dX12_sides_164 (fun b179 k180 hz_b179 hk_b179 hn_b179 => ?_)
                                          have hn_b179 := hn_b179 (by decide)
                                          refine lv_iload hx hb dX12_sides_167 (lv_at hl 0 rfl) ?_
                                          refine lv_aload_n hx hb dX12_sides_169 rfl (lv_at hl 2 rfl) ?_
                                          refine lv_iload hx hb dX12_sides_170 (lv_at hl 0 rfl) ?_
                                          refine lv_iconst (v := 0) hx hb dX12_sides_172 (by decide) ?_
                                          refine tw_goi hS (md_runV (As := [.int x141, .int 0]) (rest := [.int x141, .ref (base + b179)]) hx hb hml hown hW hK hT hS.1 (t_X12_best l D cy tx base Z K N M142 R143 J144 hS.2.1 a0 hz_a0 hk_a0 x141 h177 0 (iv_mono (iv_c (c := 0) (n := 0) (by decide)) (by decide) (by decide))) s_X12_466 ⟨rfl, rfl, ⟨Nat.le_of_ble_eq_true rfl, Nat.le_of_ble_eq_true rfl⟩, ⟨Nat.le_of_ble_eq_true rfl, Nat.le_of_ble_eq_true rfl⟩⟩ hz_a0 hk_a0 (by decide) rfl rfl hl.1 rfl (Nat.le_of_ble_eq_true rfl) dX12_sides_173) rfl rfl (fun x187 H locs M184 R185 J183 hS f181 g182 E186 => ?_)
                                          have eM184 := Fr.nil f181 rfl
                                          subst eM184
                                          have eR185 := Fr.nil g182 rfl
                                          subst eR185
                                          have h_x187 := E186
                                          refine tw_iast hx hb hK hS hz_b179 hk_b179 (Or.inl rfl) hn_b179 h177 ⟨by decide, by decide⟩ h_x187 (rg_s14 ⟨by decide, by decide⟩) (jl := 0) (jh := 1999999) ⟨by decide, by decide⟩ rfl dX12_sides_176 (fun H locs M190 hS k188 f189 => ?_)
                                          refine tw_iinc (lv' := fun x193 => [(5, .int x193), (4, .int x140), (0, .ref (base + a0)), (1, .int a1), (2, .int a2), (3, .int a3)]) (lo := 1) (hi := 729) hx hb dX12_sides_177 hl (k := 0) rfl h177 (by decide) ⟨by decide, by decide⟩ ⟨by decide, by decide⟩ (by decide) (fun _ => rfl) (fun x193 ls e192 h191 hl => ?_)
                                          refine lv_goto (tgt := 156) hx hb dX12_sides_180 (by decide) ?_
                                          have hm194 : 729 - x193.toInt < (n_142 : Int) := by
                                            have := (h_a1).1; have := (h_a1).2; have := (h_a2).1; have := (h_a2).2; have := (h77).1; have := (h77).2; have := (h65).1; have := (h65).2; have := (h177).1; have := (h177).2; have := (h191).1; have := (h191).2; omega
                                          exact ih_142 x193 M190 R143 J183 H locs _ (iv_mono h191 (by decide) (by decide)) hm194 hS hl
                                    have hm195 : 729 - (0 : Int32).toInt < (((730 : Nat) : Int) : Int) := by
                                      have := (h_a1).1; have := (h_a1).2; have := (h_a2).1; have := (h_a2).2; have := (h77).1; have := (h77).2; have := (h65).1; have := (h65).2; have : (0 : Int32).toInt = 0 := (by decide); omega
                                    exact W156_142 730 0 M101 R102 J103 H locs _ (iv_mono (iv_c (c := 0) (n := 0) (by decide)) (by decide) (by decide)) hm195 hS hl
                              have hm196 : x78.toInt - 0 < (((6562 : Nat) : Int) : Int) := by
                                have := (h_a1).1; have := (h_a1).2; have := (h_a2).1; have := (h_a2).2; have := (h77).1; have := (h77).2; have := (h65).1; have := (h65).2; have := (h_x78).1; have := (h_x78).2; have := (h89).1; have := (h89).2; omega
                              exact W139_101 6562 x78 x90 M91 R92 J93 H locs _ (iv_mono h_x78 (by decide) (by decide)) (iv_mono h98 (by decide) (by decide)) hm196 hS (lv_sub hl [1, 0, 2, 3, 4, 5] rfl)
                            · have q197 : x90.toInt < x78.toInt := ti_nle c96
                              have h198 : iv 0 6560 x90 := iv_ltL (y := x78) h_x90 h_x78 q197 (by decide)
                              refine lv_aload_n hx hb dX12_sides_116 rfl (lv_at hl 2 rfl) ?_
                              refine tw_getr hx hb hW hown hK hS f_X12_81_11 hz_a0 hk_a0 (t := 14) (n := 6561) rfl dX12_sides_117 (fun b199 k200 hz_b199 hk_b199 hn_b199 => ?_)
                              have hn_b199 := hn_b199 (by decide)
                              refine lv_iload hx hb dX12_sides_120 (lv_at hl 0 rfl) ?_
                              refine lv_aload_n hx hb dX12_sides_122 rfl (lv_at hl 2 rfl) ?_
                              refine lv_iload_n hx hb dX12_sides_123 rfl (lv_at hl 3 rfl) ?_
                              refine lv_iload_n hx hb dX12_sides_124 rfl (lv_at hl 4 rfl) ?_
                              refine lv_iload hx hb dX12_sides_125 (lv_at hl 0 rfl) ?_
                              refine lv_iload hx hb dX12_sides_127 (lv_at hl 1 rfl) ?_
                              have k201 : R92 a0 25 = some sd := (Fr.kp (k := 25) g95 hk_a0 rfl).trans k_sd
                              have k202 : M91 sd (4 : Int32).toNatClampNeg = e4 := (Fr.kp (k := (4 : Int32).toNatClampNeg) f94 hk_sd rfl).trans k_e4
                              have q203 : (e4.toInt = 0 ∧ x78.toInt = 1) ∨ (e4.toInt = 1 ∧ x78.toInt = 9) ∨ (e4.toInt = 2 ∧ x78.toInt = 81) ∨ (e4.toInt = 3 ∧ x78.toInt = 729) ∨ (e4.toInt = 4 ∧ x78.toInt = 6561) := by
                                have := (h_a1).1; have := (h_a1).2; have := (h_a2).1; have := (h_a2).2; have := (h77).1; have := (h77).2; have := (h65).1; have := (h65).2; have := (h_x78).1; have := (h_x78).2; have := (h89).1; have := (h89).2; omega
                              refine tw_goi hS (md_runV (As := [.int a1, .int a2, .int x90, .int x78]) (rest := [.int x90, .ref (base + b199)]) hx hb hml hown hW hK hT hS.1 (t_X12_goes l D cy tx base Z K N M91 R92 J93 hS.2.1 a0 hz_a0 hk_a0 a1 h_a1 a2 h_a2 x90 (iv_mono h198 (by decide) (by decide)) x78 h_x78 (Codes.fr co_a0 hTy hz_a0 hk_a0 hS.2.2.1 hS.2.2.2 rfl) sd k201 e4 k202 (iv_mono h65 (by decide) (by decide)) q203) s_X12_462 ⟨rfl, rfl, ⟨Nat.le_of_ble_eq_true rfl, Nat.le_of_ble_eq_true rfl⟩, ⟨Nat.le_of_ble_eq_true rfl, Nat.le_of_ble_eq_true rfl⟩⟩ hz_a0 hk_a0 (by decide) rfl rfl hl.1 rfl (Nat.le_of_ble_eq_true rfl) dX12_sides_129) rfl rfl (fun x210 H locs M207 R208 J206 hS f204 g205 E209 => ?_)
                              have eR208 := Fr.nil g205 rfl
                              subst eR208
                              have h_x210 := E209
                              refine tw_iast hx hb hK hS hz_b199 hk_b199 (Or.inl rfl) hn_b199 h198 ⟨by decide, by decide⟩ h_x210 (rg_s14 ⟨by decide, by decide⟩) (jl := 0) (jh := 1999999) ⟨by decide, by decide⟩ rfl dX12_sides_132 (fun H locs M213 hS k211 f212 => ?_)
                              refine tw_iinc (lv' := fun x216 => [(5, .int x216), (4, .int x78), (0, .ref (base + a0)), (1, .int a1), (2, .int a2), (3, .int a3)]) (lo := 1) (hi := 6561) hx hb dX12_sides_133 hl (k := 0) rfl h198 (by decide) ⟨by decide, by decide⟩ ⟨by decide, by decide⟩ (by decide) (fun _ => rfl) (fun x216 ls e215 h214 hl => ?_)
                              refine lv_goto (tgt := 109) hx hb dX12_sides_136 (by decide) ?_
                              have hm217 : 6561 - x216.toInt < (n_91 : Int) := by
                                have := (h_a1).1; have := (h_a1).2; have := (h_a2).1; have := (h_a2).2; have := (h77).1; have := (h77).2; have := (h65).1; have := (h65).2; have := (h214).1; have := (h214).2; have := (h198).1; have := (h198).2; omega
                              exact ih_91 x216 M213 R92 J206 H locs _ (iv_mono h214 (by decide) (by decide)) hm217 hS hl
                        have hm218 : 6561 - (0 : Int32).toInt < (((6562 : Nat) : Int) : Int) := by
                          have := (h_a1).1; have := (h_a1).2; have := (h_a2).1; have := (h_a2).2; have := (h77).1; have := (h77).2; have := (h65).1; have := (h65).2; have : (0 : Int32).toInt = 0 := (by decide); omega
                        exact W109_91 6562 0 M80 R81 J82 H locs _ (iv_mono (iv_c (c := 0) (n := 0) (by decide)) (by decide) (by decide)) hm218 hS hl
                      · have q219 : x79.toInt < e4.toInt := ti_nle c87
                        have h220 : iv 0 3 x79 := iv_ltL (y := e4) h_x79 h65 q219 (by decide)
                        refine lv_iload hx hb dX12_sides_93 (lv_at hl 0 rfl) ?_
                        refine lv_bipush (v := 9) hx hb dX12_sides_95 (by decide) ?_
                        refine tw_imulc (k := 9) (lo := 9) (hi := 59049) hx hb h_x78 (by decide) (by decide) ⟨by decide, by decide⟩ ⟨by decide, by decide⟩ dX12_sides_97 (fun x223 e222 h221 => ?_)
                        refine lv_istore (lv' := [(4, .int x223), (5, .int x79), (0, .ref (base + a0)), (1, .int a1), (2, .int a2), (3, .int a3)]) hx hb dX12_sides_98 hl (by decide) rfl (fun ls hl => ?_)
                        refine tw_iinc (lv' := fun x226 => [(5, .int x226), (4, .int x223), (0, .ref (base + a0)), (1, .int a1), (2, .int a2), (3, .int a3)]) (lo := 1) (hi := 4) hx hb dX12_sides_100 hl (k := 1) rfl h220 (by decide) ⟨by decide, by decide⟩ ⟨by decide, by decide⟩ (by decide) (fun _ => rfl) (fun x226 ls e225 h224 hl => ?_)
                        refine lv_goto (tgt := 82) hx hb dX12_sides_103 (by decide) ?_
                        have h227 : iv 1 6561 x223 := by
                          have := (h_a1).1; have := (h_a1).2; have := (h_a2).1; have := (h_a2).2; have := (h77).1; have := (h77).2; have := (h65).1; have := (h65).2; have := (h221).1; have := (h221).2; have := (h224).1; have := (h224).2; have := (h_x78).1; have := (h_x78).2; have := (h220).1; have := (h220).2; exact ⟨by omega, by omega⟩
                        have w228 : x226.toInt ≤ e4.toInt := by
                          have := (h_a1).1; have := (h_a1).2; have := (h_a2).1; have := (h_a2).2; have := (h77).1; have := (h77).2; have := (h65).1; have := (h65).2; have := (h221).1; have := (h221).2; have := (h224).1; have := (h224).2; have := (h_x78).1; have := (h_x78).2; have := (h220).1; have := (h220).2; omega
                        have w229 : (x226.toInt = 0 ∧ x223.toInt = 1) ∨ (x226.toInt = 1 ∧ x223.toInt = 9) ∨ (x226.toInt = 2 ∧ x223.toInt = 81) ∨ (x226.toInt = 3 ∧ x223.toInt = 729) ∨ (x226.toInt = 4 ∧ x223.toInt = 6561) := by
                          have := (h_a1).1; have := (h_a1).2; have := (h_a2).1; have := (h_a2).2; have := (h77).1; have := (h77).2; have := (h65).1; have := (h65).2; have := (h221).1; have := (h221).2; have := (h224).1; have := (h224).2; have := (h_x78).1; have := (h_x78).2; have := (h220).1; have := (h220).2; omega
                        have hm230 : 4 - x226.toInt < (n_80 : Int) := by
                          have := (h_a1).1; have := (h_a1).2; have := (h_a2).1; have := (h_a2).2; have := (h77).1; have := (h77).2; have := (h65).1; have := (h65).2; have := (h221).1; have := (h221).2; have := (h224).1; have := (h224).2; have := (h_x78).1; have := (h_x78).2; have := (h220).1; have := (h220).2; omega
                        exact ih_80 x223 x226 M80 R81 J82 H locs _ h227 (iv_mono h224 (by decide) (by decide)) w228 w229 hm230 hS (lv_sub hl [1, 0, 2, 3, 4, 5] rfl)
                  have w231 : (0 : Int32).toInt ≤ e4.toInt := by
                    have := (h_a1).1; have := (h_a1).2; have := (h_a2).1; have := (h_a2).2; have := (h77).1; have := (h77).2; have := (h65).1; have := (h65).2; have : (0 : Int32).toInt = 0 := (by decide); omega
                  have w232 : ((0 : Int32).toInt = 0 ∧ (1 : Int32).toInt = 1) ∨ ((0 : Int32).toInt = 1 ∧ (1 : Int32).toInt = 9) ∨ ((0 : Int32).toInt = 2 ∧ (1 : Int32).toInt = 81) ∨ ((0 : Int32).toInt = 3 ∧ (1 : Int32).toInt = 729) ∨ ((0 : Int32).toInt = 4 ∧ (1 : Int32).toInt = 6561) := by
                    have := (h_a1).1; have := (h_a1).2; have := (h_a2).1; have := (h_a2).2; have := (h77).1; have := (h77).2; have := (h65).1; have := (h65).2; have : (0 : Int32).toInt = 0 := (by decide); have : (1 : Int32).toInt = 1 := (by decide); omega
                  have hm233 : 4 - (0 : Int32).toInt < (((5 : Nat) : Int) : Int) := by
                    have := (h_a1).1; have := (h_a1).2; have := (h_a2).1; have := (h_a2).2; have := (h77).1; have := (h77).2; have := (h65).1; have := (h65).2; have : (0 : Int32).toInt = 0 := (by decide); omega
                  exact W82_80 5 1 0 Ma Ra J68 H locs _ (iv_mono (iv_c (c := 1) (n := 1) (by decide)) (by decide) (by decide)) (iv_mono (iv_c (c := 0) (n := 0) (by decide)) (by decide) (by decide)) w231 w232 hm233 hS (lv_sub hl [1, 0, 2, 3, 4, 5] rfl)
                · have q234 : x72.toInt = 0 := ti_eq c74
                  have h235 : iv 0 0 x72 := ⟨by have := (h_x72).1; have := ((iv_c (c := 0) (n := 0) (by decide))).1; omega, by have := (h_x72).2; have := ((iv_c (c := 0) (n := 0) (by decide))).2; omega⟩
                  refine lv_ldcw hx hb hown (hW _ w_8_46 rfl) dX12_sides_72 ?_
                  exact tw_endi hx hb hr hlocks hK hT hS hQ ((iv_mono (iv_c (c := (-1000000)) (n := (-1000000)) (by decide)) (by decide) (by decide))) dX12_sides_75
def Lt_X12_status : WL := []
def LRt_X12_status : WL := []
set_option maxRecDepth 100000 in
set_option maxHeartbeats 4000000 in
theorem t_X12_status (l : Launch) (D : va_G) (cy : Nat → ClassId) (tx : (Nat → Nat) × (Nat → Nat)) (base Z : Nat) (K N : Nat → Nat) (Ma : MT) (Ra : RT) (Ja : JT) (hTy : Ty Z K N Ma Ra) (a0 : Nat) (hz_a0 : a0 < Z) (hk_a0 : K a0 = 12) (a1 : Int32) (h_a1 : iv (-2147483648) 2147483647 a1) : Met l yX12_status [Cond.code yX12_status cX12_status 2 (some .int)] (md_rm 2 0 0) (va_Pc [.ref (base + a0), .int a1] (md_U D cy tx base Z K N Ma Ra Ja)) (mQi D cy tx base (fun r u => TP Z K N Lt_X12_status LRt_X12_status Ma Ra u ∧ (iv (-2147483648) 2147483647 r))) 0 0 (fun q => base ≤ q) := by
  refine tw_ofW (L := Lt_X12_status) (LR := LRt_X12_status) (by decide) (Nat.le_of_ble_eq_true rfl) hTy ?_
  intro p e s m args below meth c Q ls hx hb hr hlocks hown hml hW hK hT hS hQ hl
  have hl : lv_has ls 2 [(0, .ref (base + a0)), (1, .int a1)] := hl
  refine lv_iload_n hx hb dX12_status_0 rfl (lv_at hl 1 rfl) ?_
  refine lv_i2l hx hb dX12_status_1 rfl ?_
  refine lv_lconst (v := 0) hx hb dX12_status_2 (by decide) ?_
  refine lv_lconst (v := 1) hx hb dX12_status_3 (by decide) ?_
  refine tw_goi hS (md_runS (As := [.long a1.toInt64, .long 0, .long 1]) (rest := []) hx hb hml hown hW hK hT hS.1 (t_X12_in l D cy tx base Z K N Ma Ra Ja hS.2.1 (a1.toInt64) (0) (1)) s_X12_155 ⟨rfl, rfl, ⟨Nat.le_of_ble_eq_true rfl, Nat.le_of_ble_eq_true rfl⟩, ⟨Nat.le_of_ble_eq_true rfl, Nat.le_of_ble_eq_true rfl⟩⟩ rfl hl.1 rfl (Nat.le_of_ble_eq_true rfl) dX12_status_4) rfl rfl (fun x7 H locs M4 R5 J3 hS f1 g2 E6 => ?_)
  have eM4 := Fr.nil f1 rfl
  subst eM4
  have eR5 := Fr.nil g2 rfl
  subst eR5
  obtain ⟨h_x7, p8⟩ := E6
  refine lv_if_eq (tgt := 19) hx hb dX12_status_7 (by decide) (fun c9 => ?_) (fun c9 => ?_)
  · have q10 : x7.toInt = 0 := ti_eq c9
    have h11 : iv 0 0 x7 := ⟨by have := (h_x7).1; have := ((iv_c (c := 0) (n := 0) (by decide))).1; omega, by have := (h_x7).2; have := ((iv_c (c := 0) (n := 0) (by decide))).2; omega⟩
    refine lv_iconst (v := (-1)) hx hb dX12_status_19 (by decide) ?_
    exact tw_endi hx hb hr hlocks hK hT hS hQ ((iv_mono (iv_c (c := (-1)) (n := (-1)) (by decide)) (by decide) (by decide))) dX12_status_20
  · have q12 : ¬ x7.toInt = 0 := ti_ne c9
    have h13 : iv 1 1 x7 := ⟨by have := (h_x7).1; have := ((iv_c (c := 0) (n := 0) (by decide))).1; have := ((iv_c (c := 0) (n := 0) (by decide))).2; omega, by have := (h_x7).2; have := ((iv_c (c := 0) (n := 0) (by decide))).1; have := ((iv_c (c := 0) (n := 0) (by decide))).2; omega⟩
    have h14 : iv 0 1 a1 := in2iv (p8 c9) ((jv_c (x := 0) (n := 0) (by decide))).1 ((jv_c (x := 1) (n := 1) (by decide))).2
    refine lv_aload_n hx hb dX12_status_10 rfl (lv_at hl 0 rfl) ?_
    refine tw_getr hx hb hW hown hK hS f_X12_48_11 hz_a0 hk_a0 (t := 14) (n := 2) rfl dX12_status_11 (fun b15 k16 hz_b15 hk_b15 hn_b15 => ?_)
    have hn_b15 := hn_b15 (by decide)
    refine lv_iload_n hx hb dX12_status_14 rfl (lv_at hl 1 rfl) ?_
    refine tw_iald hx hb hK hS hz_b15 hk_b15 (Or.inl rfl) hn_b15 (lo := (-2147483648)) (hi := 2147483647) h14 ⟨by decide, by decide⟩ rg_u14 dX12_status_15 (fun x19 k18 h17 => ?_)
    refine lv_goto (tgt := 20) hx hb dX12_status_16 (by decide) ?_
    exact tw_endi hx hb hr hlocks hK hT hS hQ (h17) dX12_status_20
def Lt_X12_tells : WL := [(12, 28, 29), (12, 31, 33), (14, 0, 2000000), (30, 0, 2000000)]
def LRt_X12_tells : WL := []
set_option maxRecDepth 100000 in
set_option maxHeartbeats 4000000 in
theorem t_X12_tells (l : Launch) (D : va_G) (cy : Nat → ClassId) (tx : (Nat → Nat) × (Nat → Nat)) (base Z : Nat) (K N : Nat → Nat) (Ma : MT) (Ra : RT) (Ja : JT) (hTy : Ty Z K N Ma Ra) (a0 : Nat) (hz_a0 : a0 < Z) (hk_a0 : K a0 = 12) (a1 : Int32) (h_a1 : iv (-2147483648) 2147483647 a1) (a2 : Int32) (h_a2 : iv (-2147483648) 2147483647 a2) (sd : Nat) (k_sd : Ra a0 25 = some sd) (e0 : Int32) (k_e0 : Ma sd (0 : Int32).toNatClampNeg = e0) (h_e0 : iv 0 10 e0) : Met l yX12_tells [Cond.code yX12_tells cX12_tells 7 (some .int)] (md_rm 7 0 0) (va_Pc [.ref (base + a0), .int a1, .int a2] (md_U D cy tx base Z K N Ma Ra Ja)) (mQi D cy tx base (fun r u => TP Z K N Lt_X12_tells LRt_X12_tells Ma Ra u ∧ (iv (-1) 2147483647 r))) 0 0 (fun q => base ≤ q) := by
  refine tw_ofW (L := Lt_X12_tells) (LR := LRt_X12_tells) (by decide) (Nat.le_of_ble_eq_true rfl) hTy ?_
  intro p e s m args below meth c Q ls hx hb hr hlocks hown hml hW hK hT hS hQ hl
  have hl : lv_has ls 7 [(0, .ref (base + a0)), (1, .int a1), (2, .int a2)] := hl
  obtain ⟨hz_sd, hk_sd, hn_sd⟩ := hTy.refn hz_a0 hk_a0 (show rtR 12 25 = (23, 226, 0) from rfl) k_sd
  have hn_sd := hn_sd (by decide)
  refine lv_aload_n hx hb dX12_tells_0 rfl (lv_at hl 0 rfl) ?_
  refine lv_iload_n hx hb dX12_tells_1 rfl (lv_at hl 1 rfl) ?_
  refine tw_goi hS (md_runV (As := [.int a1]) (rest := []) hx hb hml hown hW hK hT hS.1 (t_X12_canFit l D cy tx base Z K N Ma Ra Ja hS.2.1 a0 hz_a0 hk_a0 a1 h_a1 sd k_sd e0 k_e0 (iv_mono h_e0 (by decide) (by decide))) s_X12_486 ⟨rfl, rfl, ⟨Nat.le_of_ble_eq_true rfl, Nat.le_of_ble_eq_true rfl⟩, ⟨Nat.le_of_ble_eq_true rfl, Nat.le_of_ble_eq_true rfl⟩⟩ hz_a0 hk_a0 (by decide) rfl rfl hl.1 rfl (Nat.le_of_ble_eq_true rfl) dX12_tells_2) rfl rfl (fun x7 H locs M4 R5 J3 hS f1 g2 E6 => ?_)
  have eM4 := Fr.nil f1 rfl
  subst eM4
  have eR5 := Fr.nil g2 rfl
  subst eR5
  obtain ⟨h_x7, p8, p9⟩ := E6
  refine lv_if_eq (tgt := 18) hx hb dX12_tells_5 (by decide) (fun c10 => ?_) (fun c10 => ?_)
  · have q11 : x7.toInt = 0 := ti_eq c10
    have h12 : iv 0 0 x7 := ⟨by have := (h_x7).1; have := ((iv_c (c := 0) (n := 0) (by decide))).1; omega, by have := (h_x7).2; have := ((iv_c (c := 0) (n := 0) (by decide))).2; omega⟩
    refine lv_iconst (v := (-1)) hx hb dX12_tells_18 (by decide) ?_
    exact tw_endi hx hb hr hlocks hK hT hS hQ ((iv_mono (iv_c (c := (-1)) (n := (-1)) (by decide)) (by decide) (by decide))) dX12_tells_19
  · have q13 : ¬ x7.toInt = 0 := ti_ne c10
    have h14 : iv 1 1 x7 := ⟨by have := (h_x7).1; have := ((iv_c (c := 0) (n := 0) (by decide))).1; have := ((iv_c (c := 0) (n := 0) (by decide))).2; omega, by have := (h_x7).2; have := ((iv_c (c := 0) (n := 0) (by decide))).1; have := ((iv_c (c := 0) (n := 0) (by decide))).2; omega⟩
    have h15 : iv 1 5 e0 := ⟨by have := (p8 c10).1; have := (h_e0).1; omega, by have := (p8 c10).2; have := (h_e0).2; omega⟩
    have h16 : iv 1 6 a1 := ⟨by have := (p9 c10).1; have := (h_a1).1; omega, by have := (p9 c10).2; have := (h_a1).2; omega⟩
    refine lv_iload_n hx hb dX12_tells_8 rfl (lv_at hl 2 rfl) ?_
    refine lv_i2l hx hb dX12_tells_9 rfl ?_
    refine lv_lconst (v := 0) hx hb dX12_tells_10 (by decide) ?_
    refine lv_lconst (v := 1) hx hb dX12_tells_11 (by decide) ?_
    refine tw_goi hS (md_runS (As := [.long a2.toInt64, .long 0, .long 1]) (rest := []) hx hb hml hown hW hK hT hS.1 (t_X12_in l D cy tx base Z K N Ma Ra J3 hS.2.1 (a2.toInt64) (0) (1)) s_X12_155 ⟨rfl, rfl, ⟨Nat.le_of_ble_eq_true rfl, Nat.le_of_ble_eq_true rfl⟩, ⟨Nat.le_of_ble_eq_true rfl, Nat.le_of_ble_eq_true rfl⟩⟩ rfl hl.1 rfl (Nat.le_of_ble_eq_true rfl) dX12_tells_12) rfl rfl (fun x23 H locs M20 R21 J19 hS f17 g18 E22 => ?_)
    have eM20 := Fr.nil f17 rfl
    subst eM20
    have eR21 := Fr.nil g18 rfl
    subst eR21
    obtain ⟨h_x23, p24⟩ := E22
    refine lv_if_ne (tgt := 20) hx hb dX12_tells_15 (by decide) (fun c25 => ?_) (fun c25 => ?_)
    · have q26 : ¬ x23.toInt = 0 := ti_ne c25
      have h27 : iv 1 1 x23 := ⟨by have := (h_x23).1; have := ((iv_c (c := 0) (n := 0) (by decide))).1; have := ((iv_c (c := 0) (n := 0) (by decide))).2; omega, by have := (h_x23).2; have := ((iv_c (c := 0) (n := 0) (by decide))).1; have := ((iv_c (c := 0) (n := 0) (by decide))).2; omega⟩
      have h28 : iv 0 1 a2 := in2iv (p24 c25) ((jv_c (x := 0) (n := 0) (by decide))).1 ((jv_c (x := 1) (n := 1) (by decide))).2
      refine lv_iconst (v := 1) hx hb dX12_tells_20 (by decide) ?_
      refine lv_istore_n (lv' := [(3, .int 1), (0, .ref (base + a0)), (1, .int a1), (2, .int a2)]) hx hb dX12_tells_21 rfl hl (by decide) rfl (fun ls hl => ?_)
      refine lv_aload_n hx hb dX12_tells_22 rfl (lv_at hl 1 rfl) ?_
      refine lv_iconst (v := 1) hx hb dX12_tells_23 (by decide) ?_
      refine lv_iload_n hx hb dX12_tells_24 rfl (lv_at hl 2 rfl) ?_
      refine tw_goi hS (md_runV (As := [.int 1, .int a1]) (rest := []) hx hb hml hown hW hK hT hS.1 (t_X12_mostAlike l D cy tx base Z K N Ma Ra J19 hS.2.1 a0 hz_a0 hk_a0 1 (iv_mono (iv_c (c := 1) (n := 1) (by decide)) (by decide) (by decide)) a1 h16 sd k_sd e0 k_e0 (iv_mono h15 (by decide) (by decide))) s_X12_495 ⟨rfl, rfl, ⟨Nat.le_of_ble_eq_true rfl, Nat.le_of_ble_eq_true rfl⟩, ⟨Nat.le_of_ble_eq_true rfl, Nat.le_of_ble_eq_true rfl⟩⟩ hz_a0 hk_a0 (by decide) rfl rfl hl.1 rfl (Nat.le_of_ble_eq_true rfl) dX12_tells_25) rfl rfl (fun x35 H locs M32 R33 J31 hS f29 g30 E34 => ?_)
      have eR33 := Fr.nil g30 rfl
      subst eR33
      have h_x35 := E34
      refine lv_istore (lv' := [(4, .int x35), (3, .int 1), (0, .ref (base + a0)), (1, .int a1), (2, .int a2)]) hx hb dX12_tells_28 hl (by decide) rfl (fun ls hl => ?_)
      refine lv_iconst (v := 2) hx hb dX12_tells_30 (by decide) ?_
      refine lv_istore (lv' := [(5, .int 2), (4, .int x35), (3, .int 1), (0, .ref (base + a0)), (1, .int a1), (2, .int a2)]) hx hb dX12_tells_31 hl (by decide) rfl (fun ls hl => ?_)
      have W33_39 : ∀ (n_39 : Nat) (x36 : Int32) (x37 : Int32) (x38 : Int32) (M39 : MT) (R40 : RT) (J41 : JT) (H : Heap) (locs : List Loc) (ls : Array Slot) (h_x36 : iv 1 2147483647 x36) (h_x37 : iv 0 2147483647 x37) (h_x38 : iv 2 2147483647 x38) (hm_39 : 2147483647 - x38.toInt < (n_39 : Int)) (hS : SB D cy base Z K N Lt_X12_tells LRt_X12_tells Ma Ra M39 R40 J41 s H locs) (hl : lv_has ls 7 [(3, .int x36), (4, .int x37), (5, .int x38), (0, .ref (base + a0)), (1, .int a1), (2, .int a2)]), W p l e (md_rm 7 0 0) s m args below meth c H locs 0 0 Q (F0 m 33 ls []) := by
        intro n_39
        induction n_39 with
        | zero =>
          intro x36 x37 x38 M39 R40 J41 H locs ls h_x36 h_x37 h_x38 hm_39 hS hl
          exfalso
          have := (h16).1; have := (h16).2; have := (h28).1; have := (h28).2; have := (h15).1; have := (h15).2; have := (h_x38).1; have := (h_x38).2; omega
        | succ n_39 ih_39 =>
          intro x36 x37 x38 M39 R40 J41 H locs ls h_x36 h_x37 h_x38 hm_39 hS hl
          have f42 := hS.2.2.1
          have g43 := hS.2.2.2
          refine lv_iload hx hb dX12_tells_33 (lv_at hl 2 rfl) ?_
          refine lv_iconst (v := 1) hx hb dX12_tells_35 (by decide) ?_
          refine lv_aload_n hx hb dX12_tells_36 rfl (lv_at hl 3 rfl) ?_
          have k44 : R40 a0 25 = some sd := (Fr.kp (k := 25) g43 hk_a0 rfl).trans k_sd
          refine tw_getrk hx hb hW hown hK hS f_X12_45_11 hz_a0 hk_a0 (b := sd) k44 dX12_tells_37 ?_
          refine lv_iconst (v := 0) hx hb dX12_tells_40 (by decide) ?_
          have k45 : M39 sd (0 : Int32).toNatClampNeg = e0 := (Fr.kp (k := (0 : Int32).toNatClampNeg) f42 hk_sd rfl).trans k_e0
          refine tw_ialk hx hb hK hS hz_sd hk_sd (Or.inr (by decide)) hn_sd (iv_c (c := 0) (n := 0) (by decide)) ⟨by decide, by decide⟩ (v := e0) k45 dX12_tells_41 ?_
          refine lv_ishl hx hb dX12_tells_42 ?_
          refine tw_top (fun x47 => ?_)
          have h46 := iv_any x47
          refine lv_icmp_ge (tgt := 78) hx hb dX12_tells_43 (by decide) (fun c48 => ?_) (fun c48 => ?_)
          · have q49 : x47.toInt ≤ x38.toInt := ti_le c48
            refine lv_iload_n hx hb dX12_tells_78 rfl (lv_at hl 5 rfl) ?_
            refine lv_if_ne (tgt := 86) hx hb dX12_tells_79 (by decide) (fun c50 => ?_) (fun c50 => ?_)
            · have q51 : ¬ a2.toInt = 0 := ti_ne c50
              have h52 : iv 1 1 a2 := ⟨by have := (h28).1; have := ((iv_c (c := 0) (n := 0) (by decide))).1; have := ((iv_c (c := 0) (n := 0) (by decide))).2; omega, by have := (h28).2; have := ((iv_c (c := 0) (n := 0) (by decide))).1; have := ((iv_c (c := 0) (n := 0) (by decide))).2; omega⟩
              refine lv_iload hx hb dX12_tells_86 (lv_at hl 1 rfl) ?_
              exact tw_endi hx hb hr hlocks hK hT hS hQ ((iv_mono h_x37 (by decide) (by decide))) dX12_tells_88
            · have q53 : a2.toInt = 0 := ti_eq c50
              have h54 : iv 0 0 a2 := ⟨by have := (h28).1; have := ((iv_c (c := 0) (n := 0) (by decide))).1; omega, by have := (h28).2; have := ((iv_c (c := 0) (n := 0) (by decide))).2; omega⟩
              refine lv_iload_n hx hb dX12_tells_82 rfl (lv_at hl 0 rfl) ?_
              refine lv_goto (tgt := 88) hx hb dX12_tells_83 (by decide) ?_
              exact tw_endi hx hb hr hlocks hK hT hS hQ ((iv_mono h_x36 (by decide) (by decide))) dX12_tells_88
          · have q55 : x38.toInt < x47.toInt := ti_nle c48
            have h56 : iv 2 2147483646 x38 := iv_ltL (y := x47) h_x38 h46 q55 (by decide)
            have h57 : iv 3 2147483647 x47 := iv_gtL (y := x38) h46 h_x38 q55 (by decide)
            refine lv_aload_n hx hb dX12_tells_46 rfl (lv_at hl 3 rfl) ?_
            refine lv_iload hx hb dX12_tells_47 (lv_at hl 2 rfl) ?_
            refine lv_iload_n hx hb dX12_tells_49 rfl (lv_at hl 4 rfl) ?_
            have k58 : R40 a0 25 = some sd := (Fr.kp (k := 25) g43 hk_a0 rfl).trans k_sd
            have k59 : M39 sd (0 : Int32).toNatClampNeg = e0 := (Fr.kp (k := (0 : Int32).toNatClampNeg) f42 hk_sd rfl).trans k_e0
            refine tw_goi hS (md_runV (As := [.int x38, .int a1]) (rest := []) hx hb hml hown hW hK hT hS.1 (t_X12_mostAlike l D cy tx base Z K N M39 R40 J41 hS.2.1 a0 hz_a0 hk_a0 x38 (iv_mono h56 (by decide) (by decide)) a1 h16 sd k58 e0 k59 (iv_mono h15 (by decide) (by decide))) s_X12_495 ⟨rfl, rfl, ⟨Nat.le_of_ble_eq_true rfl, Nat.le_of_ble_eq_true rfl⟩, ⟨Nat.le_of_ble_eq_true rfl, Nat.le_of_ble_eq_true rfl⟩⟩ hz_a0 hk_a0 (by decide) rfl rfl hl.1 rfl (Nat.le_of_ble_eq_true rfl) dX12_tells_50) rfl rfl (fun x66 H locs M63 R64 J62 hS f60 g61 E65 => ?_)
            have eR64 := Fr.nil g61 rfl
            subst eR64
            have h_x66 := E65
            refine lv_istore (lv' := [(6, .int x66), (3, .int x36), (4, .int x37), (5, .int x38), (0, .ref (base + a0)), (1, .int a1), (2, .int a2)]) hx hb dX12_tells_53 hl (by decide) rfl (fun ls hl => ?_)
            refine lv_iload hx hb dX12_tells_55 (lv_at hl 0 rfl) ?_
            refine lv_iload hx hb dX12_tells_57 (lv_at hl 2 rfl) ?_
            refine lv_icmp_lt (tgt := 65) hx hb dX12_tells_59 (by decide) (fun c67 => ?_) (fun c67 => ?_)
            · have q68 : x66.toInt < x37.toInt := ti_lt c67
              have h69 : iv 0 2147483646 x66 := iv_ltL (y := x37) h_x66 h_x37 q68 (by decide)
              have h70 : iv 1 2147483647 x37 := iv_gtL (y := x66) h_x37 h_x66 q68 (by decide)
              refine lv_iload hx hb dX12_tells_65 (lv_at hl 3 rfl) ?_
              refine lv_istore_n (lv' := [(3, .int x38), (6, .int x66), (4, .int x37), (5, .int x38), (0, .ref (base + a0)), (1, .int a1), (2, .int a2)]) hx hb dX12_tells_67 rfl hl (by decide) rfl (fun ls hl => ?_)
              refine lv_iload hx hb dX12_tells_68 (lv_at hl 1 rfl) ?_
              refine lv_istore (lv' := [(4, .int x66), (3, .int x38), (6, .int x66), (5, .int x38), (0, .ref (base + a0)), (1, .int a1), (2, .int a2)]) hx hb dX12_tells_70 hl (by decide) rfl (fun ls hl => ?_)
              refine tw_iinc (lv' := fun x73 => [(5, .int x73), (4, .int x66), (3, .int x38), (6, .int x66), (0, .ref (base + a0)), (1, .int a1), (2, .int a2)]) (lo := 3) (hi := 2147483647) hx hb dX12_tells_72 hl (k := 3) rfl h56 (by decide) ⟨by decide, by decide⟩ ⟨by decide, by decide⟩ (by decide) (fun _ => rfl) (fun x73 ls e72 h71 hl => ?_)
              refine lv_goto (tgt := 33) hx hb dX12_tells_75 (by decide) ?_
              have hm74 : 2147483647 - x73.toInt < (n_39 : Int) := by
                have := (h16).1; have := (h16).2; have := (h28).1; have := (h28).2; have := (h15).1; have := (h15).2; have := (h56).1; have := (h56).2; have := (h71).1; have := (h71).2; omega
              exact ih_39 x38 x66 x73 M63 R40 J62 H locs _ (iv_mono h56 (by decide) (by decide)) (iv_mono h69 (by decide) (by decide)) (iv_mono h71 (by decide) (by decide)) hm74 hS (lv_sub hl [2, 1, 0, 4, 5, 6] rfl)
            · have q75 : x37.toInt ≤ x66.toInt := ti_nlt c67
              refine lv_goto (tgt := 72) hx hb dX12_tells_62 (by decide) ?_
              refine tw_iinc (lv' := fun x78 => [(5, .int x78), (6, .int x66), (3, .int x36), (4, .int x37), (0, .ref (base + a0)), (1, .int a1), (2, .int a2)]) (lo := 3) (hi := 2147483647) hx hb dX12_tells_72 hl (k := 3) rfl h56 (by decide) ⟨by decide, by decide⟩ ⟨by decide, by decide⟩ (by decide) (fun _ => rfl) (fun x78 ls e77 h76 hl => ?_)
              refine lv_goto (tgt := 33) hx hb dX12_tells_75 (by decide) ?_
              have hm79 : 2147483647 - x78.toInt < (n_39 : Int) := by
                have := (h16).1; have := (h16).2; have := (h28).1; have := (h28).2; have := (h15).1; have := (h15).2; have := (h56).1; have := (h56).2; have := (h76).1; have := (h76).2; omega
              exact ih_39 x36 x37 x78 M63 R40 J62 H locs _ h_x36 h_x37 (iv_mono h76 (by decide) (by decide)) hm79 hS (lv_sub hl [2, 3, 0, 4, 5, 6] rfl)
      have hm80 : 2147483647 - (2 : Int32).toInt < (((2147483646 : Nat) : Int) : Int) := by
        have := (h16).1; have := (h16).2; have := (h28).1; have := (h28).2; have := (h15).1; have := (h15).2; have : (2 : Int32).toInt = 2 := (by decide); omega
      exact W33_39 2147483646 1 x35 2 M32 Ra J31 H locs _ (iv_mono (iv_c (c := 1) (n := 1) (by decide)) (by decide) (by decide)) h_x35 (iv_mono (iv_c (c := 2) (n := 2) (by decide)) (by decide) (by decide)) hm80 hS (lv_sub hl [2, 1, 0, 3, 4, 5] rfl)
    · have q81 : x23.toInt = 0 := ti_eq c25
      have h82 : iv 0 0 x23 := ⟨by have := (h_x23).1; have := ((iv_c (c := 0) (n := 0) (by decide))).1; omega, by have := (h_x23).2; have := ((iv_c (c := 0) (n := 0) (by decide))).2; omega⟩
      refine lv_iconst (v := (-1)) hx hb dX12_tells_18 (by decide) ?_
      exact tw_endi hx hb hr hlocks hK hT hS hQ ((iv_mono (iv_c (c := (-1)) (n := (-1)) (by decide)) (by decide) (by decide))) dX12_tells_19
def Lt_X12_voice : WL := []
def LRt_X12_voice : WL := []
set_option maxRecDepth 100000 in
set_option maxHeartbeats 4000000 in
theorem t_X12_voice (l : Launch) (D : va_G) (cy : Nat → ClassId) (tx : (Nat → Nat) × (Nat → Nat)) (base Z : Nat) (K N : Nat → Nat) (Ma : MT) (Ra : RT) (Ja : JT) (hTy : Ty Z K N Ma Ra) (a0 : Nat) (hz_a0 : a0 < Z) (hk_a0 : K a0 = 12) (a1 : Int32) (h_a1 : iv (-2147483648) 2147483647 a1) (a2 : Int32) (h_a2 : iv (-2147483648) 2147483647 a2) : Met l yX12_voice [Cond.code yX12_voice cX12_voice 3 (some .int)] (md_rm 2 0 0) (va_Pc [.ref (base + a0), .int a1, .int a2] (md_U D cy tx base Z K N Ma Ra Ja)) (mQi D cy tx base (fun r u => TP Z K N Lt_X12_voice LRt_X12_voice Ma Ra u ∧ (iv (-2147483648) 2147483647 r))) 0 0 (fun q => base ≤ q) := by
  refine tw_ofW (L := Lt_X12_voice) (LR := LRt_X12_voice) (by decide) (Nat.le_of_ble_eq_true rfl) hTy ?_
  intro p e s m args below meth c Q ls hx hb hr hlocks hown hml hW hK hT hS hQ hl
  have hl : lv_has ls 3 [(0, .ref (base + a0)), (1, .int a1), (2, .int a2)] := hl
  refine lv_aload_n hx hb dX12_voice_0 rfl (lv_at hl 0 rfl) ?_
  refine lv_iload_n hx hb dX12_voice_1 rfl (lv_at hl 1 rfl) ?_
  refine tw_goi hS (md_runV (As := [.int a1]) (rest := []) hx hb hml hown hW hK hT hS.1 (t_X12_isMember l D cy tx base Z K N Ma Ra Ja hS.2.1 a0 hz_a0 hk_a0 a1 h_a1) s_X12_319 ⟨rfl, rfl, ⟨Nat.le_of_ble_eq_true rfl, Nat.le_of_ble_eq_true rfl⟩, ⟨Nat.le_of_ble_eq_true rfl, Nat.le_of_ble_eq_true rfl⟩⟩ hz_a0 hk_a0 (by decide) rfl rfl hl.1 rfl (Nat.le_of_ble_eq_true rfl) dX12_voice_2) rfl rfl (fun x7 H locs M4 R5 J3 hS f1 g2 E6 => ?_)
  have eM4 := Fr.nil f1 rfl
  subst eM4
  have eR5 := Fr.nil g2 rfl
  subst eR5
  obtain ⟨h_x7, p8⟩ := E6
  refine lv_if_eq (tgt := 20) hx hb dX12_voice_5 (by decide) (fun c9 => ?_) (fun c9 => ?_)
  · have q10 : x7.toInt = 0 := ti_eq c9
    have h11 : iv 0 0 x7 := ⟨by have := (h_x7).1; have := ((iv_c (c := 0) (n := 0) (by decide))).1; omega, by have := (h_x7).2; have := ((iv_c (c := 0) (n := 0) (by decide))).2; omega⟩
    refine lv_iconst (v := (-1)) hx hb dX12_voice_20 (by decide) ?_
    exact tw_endi hx hb hr hlocks hK hT hS hQ ((iv_mono (iv_c (c := (-1)) (n := (-1)) (by decide)) (by decide) (by decide))) dX12_voice_21
  · have q12 : ¬ x7.toInt = 0 := ti_ne c9
    have h13 : iv 1 1 x7 := ⟨by have := (h_x7).1; have := ((iv_c (c := 0) (n := 0) (by decide))).1; have := ((iv_c (c := 0) (n := 0) (by decide))).2; omega, by have := (h_x7).2; have := ((iv_c (c := 0) (n := 0) (by decide))).1; have := ((iv_c (c := 0) (n := 0) (by decide))).2; omega⟩
    have h14 : iv 0 9 a1 := ⟨by have := (p8 c9).1; have := (h_a1).1; omega, by have := (p8 c9).2; have := (h_a1).2; omega⟩
    refine lv_iload_n hx hb dX12_voice_8 rfl (lv_at hl 2 rfl) ?_
    refine lv_i2l hx hb dX12_voice_9 rfl ?_
    refine lv_lconst (v := 0) hx hb dX12_voice_10 (by decide) ?_
    refine lv_ldc2 hx hb hown (hW _ w_7_141 rfl) dX12_voice_11 ?_
    refine tw_goi hS (md_runS (As := [.long a2.toInt64, .long 0, .long 4]) (rest := []) hx hb hml hown hW hK hT hS.1 (t_X12_in l D cy tx base Z K N Ma Ra J3 hS.2.1 (a2.toInt64) (0) (4)) s_X12_155 ⟨rfl, rfl, ⟨Nat.le_of_ble_eq_true rfl, Nat.le_of_ble_eq_true rfl⟩, ⟨Nat.le_of_ble_eq_true rfl, Nat.le_of_ble_eq_true rfl⟩⟩ rfl hl.1 rfl (Nat.le_of_ble_eq_true rfl) dX12_voice_14) rfl rfl (fun x21 H locs M18 R19 J17 hS f15 g16 E20 => ?_)
    have eM18 := Fr.nil f15 rfl
    subst eM18
    have eR19 := Fr.nil g16 rfl
    subst eR19
    obtain ⟨h_x21, p22⟩ := E20
    refine lv_if_ne (tgt := 22) hx hb dX12_voice_17 (by decide) (fun c23 => ?_) (fun c23 => ?_)
    · have q24 : ¬ x21.toInt = 0 := ti_ne c23
      have h25 : iv 1 1 x21 := ⟨by have := (h_x21).1; have := ((iv_c (c := 0) (n := 0) (by decide))).1; have := ((iv_c (c := 0) (n := 0) (by decide))).2; omega, by have := (h_x21).2; have := ((iv_c (c := 0) (n := 0) (by decide))).1; have := ((iv_c (c := 0) (n := 0) (by decide))).2; omega⟩
      have h26 : iv 0 4 a2 := in2iv (p22 c23) ((jv_c (x := 0) (n := 0) (by decide))).1 ((jv_c (x := 4) (n := 4) (by decide))).2
      refine lv_iload_n hx hb dX12_voice_22 rfl (lv_at hl 2 rfl) ?_
      refine lv_iconst (v := 2) hx hb dX12_voice_23 (by decide) ?_
      refine lv_icmp_ne (tgt := 46) hx hb dX12_voice_24 (by decide) (fun c27 => ?_) (fun c27 => ?_)
      · have q28 : ¬ a2.toInt = 2 := ti_ne c27
        refine lv_aload_n hx hb dX12_voice_46 rfl (lv_at hl 0 rfl) ?_
        refine tw_getr hx hb hW hown hK hS f_X12_45_11 hz_a0 hk_a0 (t := 23) (n := 226) rfl dX12_voice_47 (fun b29 k30 hz_b29 hk_b29 hn_b29 => ?_)
        have hn_b29 := hn_b29 (by decide)
        refine lv_iload_n hx hb dX12_voice_50 rfl (lv_at hl 2 rfl) ?_
        refine lv_if_ne (tgt := 59) hx hb dX12_voice_51 (by decide) (fun c31 => ?_) (fun c31 => ?_)
        · have q32 : ¬ a2.toInt = 0 := ti_ne c31
          have h33 : iv 1 4 a2 := ⟨by have := (h26).1; have := ((iv_c (c := 0) (n := 0) (by decide))).1; have := ((iv_c (c := 0) (n := 0) (by decide))).2; omega, by have := (h26).2; have := ((iv_c (c := 0) (n := 0) (by decide))).1; have := ((iv_c (c := 0) (n := 0) (by decide))).2; omega⟩
          refine lv_iload_n hx hb dX12_voice_59 rfl (lv_at hl 2 rfl) ?_
          refine lv_iconst (v := 1) hx hb dX12_voice_60 (by decide) ?_
          refine lv_icmp_ne (tgt := 69) hx hb dX12_voice_61 (by decide) (fun c34 => ?_) (fun c34 => ?_)
          · have q35 : ¬ a2.toInt = 1 := ti_ne c34
            have h36 : iv 2 4 a2 := ⟨by have := (h33).1; have := ((iv_c (c := 1) (n := 1) (by decide))).1; have := ((iv_c (c := 1) (n := 1) (by decide))).2; omega, by have := (h33).2; have := ((iv_c (c := 1) (n := 1) (by decide))).1; have := ((iv_c (c := 1) (n := 1) (by decide))).2; omega⟩
            refine lv_iload_n hx hb dX12_voice_69 rfl (lv_at hl 2 rfl) ?_
            refine lv_iconst (v := 3) hx hb dX12_voice_70 (by decide) ?_
            refine lv_icmp_ne (tgt := 79) hx hb dX12_voice_71 (by decide) (fun c37 => ?_) (fun c37 => ?_)
            · have q38 : ¬ a2.toInt = 3 := ti_ne c37
              refine lv_bipush (v := 40) hx hb dX12_voice_79 (by decide) ?_
              refine lv_iload_n hx hb dX12_voice_81 rfl (lv_at hl 1 rfl) ?_
              refine tw_iadd (lo := 40) (hi := 49) hx hb (iv_c (c := 40) (n := 40) (by decide)) h14 ⟨by decide, by decide⟩ ⟨by decide, by decide⟩ dX12_voice_82 (fun x41 e40 h39 => ?_)
              have e40 : x41.toInt = 40 + a1.toInt := e40
              refine tw_iald hx hb hK hS hz_b29 hk_b29 (Or.inr (by decide)) hn_b29 (lo := (-2147483648)) (hi := 2147483647) h39 ⟨by decide, by decide⟩ rg_full dX12_voice_83 (fun x44 k43 h42 => ?_)
              exact tw_endi hx hb hr hlocks hK hT hS hQ (h42) dX12_voice_84
            · have q45 : a2.toInt = 3 := ti_eq c37
              have h46 : iv 3 3 a2 := ⟨by have := (h36).1; have := ((iv_c (c := 3) (n := 3) (by decide))).1; omega, by have := (h36).2; have := ((iv_c (c := 3) (n := 3) (by decide))).2; omega⟩
              refine lv_bipush (v := 30) hx hb dX12_voice_74 (by decide) ?_
              refine lv_goto (tgt := 81) hx hb dX12_voice_76 (by decide) ?_
              refine lv_iload_n hx hb dX12_voice_81 rfl (lv_at hl 1 rfl) ?_
              refine tw_iadd (lo := 30) (hi := 39) hx hb (iv_c (c := 30) (n := 30) (by decide)) h14 ⟨by decide, by decide⟩ ⟨by decide, by decide⟩ dX12_voice_82 (fun x49 e48 h47 => ?_)
              have e48 : x49.toInt = 30 + a1.toInt := e48
              refine tw_iald hx hb hK hS hz_b29 hk_b29 (Or.inr (by decide)) hn_b29 (lo := (-2147483648)) (hi := 2147483647) h47 ⟨by decide, by decide⟩ rg_full dX12_voice_83 (fun x52 k51 h50 => ?_)
              exact tw_endi hx hb hr hlocks hK hT hS hQ (h50) dX12_voice_84
          · have q53 : a2.toInt = 1 := ti_eq c34
            have h54 : iv 1 1 a2 := ⟨by have := (h33).1; have := ((iv_c (c := 1) (n := 1) (by decide))).1; omega, by have := (h33).2; have := ((iv_c (c := 1) (n := 1) (by decide))).2; omega⟩
            refine lv_bipush (v := 20) hx hb dX12_voice_64 (by decide) ?_
            refine lv_goto (tgt := 81) hx hb dX12_voice_66 (by decide) ?_
            refine lv_iload_n hx hb dX12_voice_81 rfl (lv_at hl 1 rfl) ?_
            refine tw_iadd (lo := 20) (hi := 29) hx hb (iv_c (c := 20) (n := 20) (by decide)) h14 ⟨by decide, by decide⟩ ⟨by decide, by decide⟩ dX12_voice_82 (fun x57 e56 h55 => ?_)
            have e56 : x57.toInt = 20 + a1.toInt := e56
            refine tw_iald hx hb hK hS hz_b29 hk_b29 (Or.inr (by decide)) hn_b29 (lo := (-2147483648)) (hi := 2147483647) h55 ⟨by decide, by decide⟩ rg_full dX12_voice_83 (fun x60 k59 h58 => ?_)
            exact tw_endi hx hb hr hlocks hK hT hS hQ (h58) dX12_voice_84
        · have q61 : a2.toInt = 0 := ti_eq c31
          have h62 : iv 0 0 a2 := ⟨by have := (h26).1; have := ((iv_c (c := 0) (n := 0) (by decide))).1; omega, by have := (h26).2; have := ((iv_c (c := 0) (n := 0) (by decide))).2; omega⟩
          refine lv_bipush (v := 10) hx hb dX12_voice_54 (by decide) ?_
          refine lv_goto (tgt := 81) hx hb dX12_voice_56 (by decide) ?_
          refine lv_iload_n hx hb dX12_voice_81 rfl (lv_at hl 1 rfl) ?_
          refine tw_iadd (lo := 10) (hi := 19) hx hb (iv_c (c := 10) (n := 10) (by decide)) h14 ⟨by decide, by decide⟩ ⟨by decide, by decide⟩ dX12_voice_82 (fun x65 e64 h63 => ?_)
          have e64 : x65.toInt = 10 + a1.toInt := e64
          refine tw_iald hx hb hK hS hz_b29 hk_b29 (Or.inr (by decide)) hn_b29 (lo := 0) (hi := 9999) h63 ⟨by decide, by decide⟩ (rg_sv ⟨by decide, by decide⟩) dX12_voice_83 (fun x68 k67 h66 => ?_)
          exact tw_endi hx hb hr hlocks hK hT hS hQ ((iv_mono h66 (by decide) (by decide))) dX12_voice_84
      · have q69 : a2.toInt = 2 := ti_eq c27
        have h70 : iv 2 2 a2 := ⟨by have := (h26).1; have := ((iv_c (c := 2) (n := 2) (by decide))).1; omega, by have := (h26).2; have := ((iv_c (c := 2) (n := 2) (by decide))).2; omega⟩
        refine lv_aload_n hx hb dX12_voice_27 rfl (lv_at hl 0 rfl) ?_
        refine tw_getr hx hb hW hown hK hS f_X12_45_11 hz_a0 hk_a0 (t := 23) (n := 226) rfl dX12_voice_28 (fun b71 k72 hz_b71 hk_b71 hn_b71 => ?_)
        have hn_b71 := hn_b71 (by decide)
        refine lv_iconst (v := 2) hx hb dX12_voice_31 (by decide) ?_
        refine tw_iald hx hb hK hS hz_b71 hk_b71 (Or.inr (by decide)) hn_b71 (lo := (-2147483648)) (hi := 2147483647) (iv_c (c := 2) (n := 2) (by decide)) ⟨by decide, by decide⟩ (rg_c (k0 := 2) rfl rfl rfl) dX12_voice_32 (fun x75 k74 h73 => ?_)
        refine lv_iload_n hx hb dX12_voice_33 rfl (lv_at hl 1 rfl) ?_
        refine tw_goi hS (md_runS (As := [.int x75, .int a1]) (rest := []) hx hb hml hown hW hK hT hS.1 (t_X12_isOf l D cy tx base Z K N Ma Ra J17 hS.2.1 x75 h73 a1 h14) s_X12_322 ⟨rfl, rfl, ⟨Nat.le_of_ble_eq_true rfl, Nat.le_of_ble_eq_true rfl⟩, ⟨Nat.le_of_ble_eq_true rfl, Nat.le_of_ble_eq_true rfl⟩⟩ rfl hl.1 rfl (Nat.le_of_ble_eq_true rfl) dX12_voice_34) rfl rfl (fun x82 H locs M79 R80 J78 hS f76 g77 E81 => ?_)
        have eM79 := Fr.nil f76 rfl
        subst eM79
        have eR80 := Fr.nil g77 rfl
        subst eR80
        have h_x82 := E81
        refine lv_if_eq (tgt := 44) hx hb dX12_voice_37 (by decide) (fun c83 => ?_) (fun c83 => ?_)
        · have q84 : x82.toInt = 0 := ti_eq c83
          have h85 : iv 0 0 x82 := ⟨by have := (h_x82).1; have := ((iv_c (c := 0) (n := 0) (by decide))).1; omega, by have := (h_x82).2; have := ((iv_c (c := 0) (n := 0) (by decide))).2; omega⟩
          refine lv_iconst (v := 0) hx hb dX12_voice_44 (by decide) ?_
          exact tw_endi hx hb hr hlocks hK hT hS hQ ((iv_mono (iv_c (c := 0) (n := 0) (by decide)) (by decide) (by decide))) dX12_voice_45
        · have q86 : ¬ x82.toInt = 0 := ti_ne c83
          have h87 : iv 1 1 x82 := ⟨by have := (h_x82).1; have := ((iv_c (c := 0) (n := 0) (by decide))).1; have := ((iv_c (c := 0) (n := 0) (by decide))).2; omega, by have := (h_x82).2; have := ((iv_c (c := 0) (n := 0) (by decide))).1; have := ((iv_c (c := 0) (n := 0) (by decide))).2; omega⟩
          refine lv_iconst (v := 1) hx hb dX12_voice_40 (by decide) ?_
          refine lv_goto (tgt := 45) hx hb dX12_voice_41 (by decide) ?_
          exact tw_endi hx hb hr hlocks hK hT hS hQ ((iv_mono (iv_c (c := 1) (n := 1) (by decide)) (by decide) (by decide))) dX12_voice_45
    · have q88 : x21.toInt = 0 := ti_eq c23
      have h89 : iv 0 0 x21 := ⟨by have := (h_x21).1; have := ((iv_c (c := 0) (n := 0) (by decide))).1; omega, by have := (h_x21).2; have := ((iv_c (c := 0) (n := 0) (by decide))).2; omega⟩
      refine lv_iconst (v := (-1)) hx hb dX12_voice_20 (by decide) ?_
      exact tw_endi hx hb hr hlocks hK hT hS hQ ((iv_mono (iv_c (c := (-1)) (n := (-1)) (by decide)) (by decide) (by decide))) dX12_voice_21
def Lt_X12_vote : WL := [(12, 23, 24), (12, 28, 29), (12, 30, 33), (14, 0, 2000000), (23, 3, 4), (23, 10, 20), (23, 30, 50), (30, 0, 2000000), (31, 0, 2000000)]
def LRt_X12_vote : WL := []
set_option maxRecDepth 100000 in
set_option maxHeartbeats 4000000 in
theorem t_X12_vote (l : Launch) (D : va_G) (cy : Nat → ClassId) (tx : (Nat → Nat) × (Nat → Nat)) (base Z : Nat) (K N : Nat → Nat) (Ma : MT) (Ra : RT) (Ja : JT) (hTy : Ty Z K N Ma Ra) (a0 : Nat) (hz_a0 : a0 < Z) (hk_a0 : K a0 = 12) (a1 : Int32) (h_a1 : iv (-2147483648) 2147483647 a1) (co_a0 : Codes Ma Ra a0) : Met l yX12_vote [Cond.code yX12_vote cX12_vote 3 (some .int)] (md_rm 5 0 0) (va_Pc [.ref (base + a0), .int a1] (md_U D cy tx base Z K N Ma Ra Ja)) (mQi D cy tx base (fun r u => TP Z K N Lt_X12_vote LRt_X12_vote Ma Ra u ∧ (iv (-2) 2 r))) 0 0 (fun q => base ≤ q) := by
  refine tw_ofW (L := Lt_X12_vote) (LR := LRt_X12_vote) (by decide) (Nat.le_of_ble_eq_true rfl) hTy ?_
  intro p e s m args below meth c Q ls hx hb hr hlocks hown hml hW hK hT hS hQ hl
  have hl : lv_has ls 3 [(0, .ref (base + a0)), (1, .int a1)] := hl
  refine lv_aload_n hx hb dX12_vote_0 rfl (lv_at hl 0 rfl) ?_
  refine lv_iload_n hx hb dX12_vote_1 rfl (lv_at hl 1 rfl) ?_
  refine tw_goi hS (md_runV (As := [.int a1]) (rest := []) hx hb hml hown hW hK hT hS.1 (t_X12_isPoint l D cy tx base Z K N Ma Ra Ja hS.2.1 a0 hz_a0 hk_a0 a1 h_a1) s_X12_327 ⟨rfl, rfl, ⟨Nat.le_of_ble_eq_true rfl, Nat.le_of_ble_eq_true rfl⟩, ⟨Nat.le_of_ble_eq_true rfl, Nat.le_of_ble_eq_true rfl⟩⟩ hz_a0 hk_a0 (by decide) rfl rfl hl.1 rfl (Nat.le_of_ble_eq_true rfl) dX12_vote_2) rfl rfl (fun x7 H locs M4 R5 J3 hS f1 g2 E6 => ?_)
  have eM4 := Fr.nil f1 rfl
  subst eM4
  have eR5 := Fr.nil g2 rfl
  subst eR5
  obtain ⟨h_x7, p8⟩ := E6
  refine lv_if_ne (tgt := 14) hx hb dX12_vote_5 (by decide) (fun c9 => ?_) (fun c9 => ?_)
  · have q10 : ¬ x7.toInt = 0 := ti_ne c9
    have h11 : iv 1 1 x7 := ⟨by have := (h_x7).1; have := ((iv_c (c := 0) (n := 0) (by decide))).1; have := ((iv_c (c := 0) (n := 0) (by decide))).2; omega, by have := (h_x7).2; have := ((iv_c (c := 0) (n := 0) (by decide))).1; have := ((iv_c (c := 0) (n := 0) (by decide))).2; omega⟩
    have h12 : iv 0 11 a1 := ⟨by have := (p8 c9).1; have := (h_a1).1; omega, by have := (p8 c9).2; have := (h_a1).2; omega⟩
    refine lv_aload_n hx hb dX12_vote_14 rfl (lv_at hl 0 rfl) ?_
    obtain ⟨b13, k14, hz_b13, hk_b13, hn_b13⟩ := hS.2.1.ref hz_a0 hk_a0 (show rtR 12 25 = (23, 226, 0) from rfl)
    have hn_b13 := hn_b13 (by decide)
    obtain ⟨x17, k15⟩ : ∃ x, Ma b13 (4 : Int32).toNatClampNeg = x := ⟨_, rfl⟩
    have h16 : iv 0 8 x17 := by rw [← k15]; exact hS.2.1.int hz_b13 hk_b13 (show rgI 23 (4 : Int32).toNatClampNeg = (0, 8) from rfl)
    refine tw_gov hS (md_runV (As := []) (rest := []) hx hb hml hown hW hK hT hS.1 (t_X12_begins l D cy tx base Z K N Ma Ra J3 hS.2.1 a0 hz_a0 hk_a0 b13 k14 x17 k15 (iv_mono h16 (by decide) (by decide))) s_X12_393 ⟨rfl, rfl, ⟨Nat.le_of_ble_eq_true rfl, Nat.le_of_ble_eq_true rfl⟩, ⟨Nat.le_of_ble_eq_true rfl, Nat.le_of_ble_eq_true rfl⟩⟩ hz_a0 hk_a0 (by decide) rfl rfl hl.1 rfl (Nat.le_of_ble_eq_true rfl) dX12_vote_15) rfl rfl (fun H locs M21 R22 J20 hS f18 g19 E23 => ?_)
    have eR22 := Fr.nil g19 rfl
    subst eR22
    have p24 := E23
    have k25 : M21 a0 30 = x17 := p24
    refine lv_aload_n hx hb dX12_vote_18 rfl (lv_at hl 0 rfl) ?_
    refine lv_iload_n hx hb dX12_vote_19 rfl (lv_at hl 1 rfl) ?_
    refine lv_iconst (v := (-1)) hx hb dX12_vote_20 (by decide) ?_
    refine tw_gov hS (md_runV (As := [.int a1, .int (-1)]) (rest := []) hx hb hml hown hW hK hT hS.1 (t_X12_asks l D cy tx base Z K N M21 Ra J20 hS.2.1 a0 hz_a0 hk_a0 a1 h12 (-1) (iv_mono (iv_c (c := (-1)) (n := (-1)) (by decide)) (by decide) (by decide)) (Codes.fr co_a0 hTy hz_a0 hk_a0 hS.2.2.1 hS.2.2.2 rfl)) s_X12_396 ⟨rfl, rfl, ⟨Nat.le_of_ble_eq_true rfl, Nat.le_of_ble_eq_true rfl⟩, ⟨Nat.le_of_ble_eq_true rfl, Nat.le_of_ble_eq_true rfl⟩⟩ hz_a0 hk_a0 (by decide) rfl rfl hl.1 rfl (Nat.le_of_ble_eq_true rfl) dX12_vote_21) rfl rfl (fun H locs M29 R30 J28 hS f26 g27 E31 => ?_)
    have eR30 := Fr.nil g27 rfl
    subst eR30
    refine lv_aload_n hx hb dX12_vote_24 rfl (lv_at hl 0 rfl) ?_
    refine tw_goi hS (md_runV (As := []) (rest := []) hx hb hml hown hW hK hT hS.1 (t_X12_settles_ l D cy tx base Z K N M29 Ra J28 hS.2.1 a0 hz_a0 hk_a0) s_X12_399 ⟨rfl, rfl, ⟨Nat.le_of_ble_eq_true rfl, Nat.le_of_ble_eq_true rfl⟩, ⟨Nat.le_of_ble_eq_true rfl, Nat.le_of_ble_eq_true rfl⟩⟩ hz_a0 hk_a0 (by decide) rfl rfl hl.1 rfl (Nat.le_of_ble_eq_true rfl) dX12_vote_25) rfl rfl (fun x38 H locs M35 R36 J34 hS f32 g33 E37 => ?_)
    have eR36 := Fr.nil g33 rfl
    subst eR36
    have h_x38 := E37
    refine lv_istore_n (lv' := [(2, .int x38), (0, .ref (base + a0)), (1, .int a1)]) hx hb dX12_vote_28 rfl hl (by decide) rfl (fun ls hl => ?_)
    refine lv_aload_n hx hb dX12_vote_29 rfl (lv_at hl 1 rfl) ?_
    refine tw_gov hS (md_runV (As := []) (rest := []) hx hb hml hown hW hK hT hS.1 (t_X12_stays l D cy tx base Z K N M35 Ra J34 hS.2.1 a0 hz_a0 hk_a0) s_X12_401 ⟨rfl, rfl, ⟨Nat.le_of_ble_eq_true rfl, Nat.le_of_ble_eq_true rfl⟩, ⟨Nat.le_of_ble_eq_true rfl, Nat.le_of_ble_eq_true rfl⟩⟩ hz_a0 hk_a0 (by decide) rfl rfl hl.1 rfl (Nat.le_of_ble_eq_true rfl) dX12_vote_30) rfl rfl (fun H locs M42 R43 J41 hS f39 g40 E44 => ?_)
    have eR43 := Fr.nil g40 rfl
    subst eR43
    refine lv_iload_n hx hb dX12_vote_33 rfl (lv_at hl 0 rfl) ?_
    exact tw_endi hx hb hr hlocks hK hT hS hQ ((iv_mono h_x38 (by decide) (by decide))) dX12_vote_34
  · have q45 : x7.toInt = 0 := ti_eq c9
    have h46 : iv 0 0 x7 := ⟨by have := (h_x7).1; have := ((iv_c (c := 0) (n := 0) (by decide))).1; omega, by have := (h_x7).2; have := ((iv_c (c := 0) (n := 0) (by decide))).2; omega⟩
    refine lv_aload_n hx hb dX12_vote_8 rfl (lv_at hl 0 rfl) ?_
    refine lv_iconst (v := 0) hx hb dX12_vote_9 (by decide) ?_
    refine tw_goi hS (md_runV (As := [.int 0]) (rest := []) hx hb hml hown hW hK hT hS.1 (t_X12_refuses l D cy tx base Z K N Ma Ra J3 hS.2.1 a0 hz_a0 hk_a0 0 (iv_mono (iv_c (c := 0) (n := 0) (by decide)) (by decide) (by decide))) s_X12_338 ⟨rfl, rfl, ⟨Nat.le_of_ble_eq_true rfl, Nat.le_of_ble_eq_true rfl⟩, ⟨Nat.le_of_ble_eq_true rfl, Nat.le_of_ble_eq_true rfl⟩⟩ hz_a0 hk_a0 (by decide) rfl rfl hl.1 rfl (Nat.le_of_ble_eq_true rfl) dX12_vote_10) rfl rfl (fun x53 H locs M50 R51 J49 hS f47 g48 E52 => ?_)
    have eR51 := Fr.nil g48 rfl
    subst eR51
    have h_x53 := E52
    exact tw_endi hx hb hr hlocks hK hT hS hQ ((iv_mono h_x53 (by decide) (by decide))) dX12_vote_13
