def Lt_J6_bitCount_0f7a4 : WL := []
def LRt_J6_bitCount_0f7a4 : WL := []
set_option maxRecDepth 100000 in
set_option maxHeartbeats 4000000 in
theorem t_J6_bitCount_0f7a4 (l : Launch) (D : va_G) (cy : Nat → ClassId) (tx : (Nat → Nat) × (Nat → Nat)) (base Z : Nat) (K N : Nat → Nat) (Ma : MT) (Ra : RT) (Ja : JT) (hTy : Ty Z K N Ma Ra) (a0 : Int32) (h_a0 : iv (-2147483648) 2147483647 a0) : Met l yJ6_bitCount_0f7a4 [Cond.code yJ6_bitCount_0f7a4 cJ6_bitCount_0f7a4 1 (some .int)] (md_rm 1 0 0) (va_Pc [.int a0] (md_U D cy tx base Z K N Ma Ra Ja)) (mQi D cy tx base (fun r u => TP Z K N Lt_J6_bitCount_0f7a4 LRt_J6_bitCount_0f7a4 Ma Ra u ∧ (iv 0 63 r))) 0 0 (fun q => base ≤ q) := by
  refine tw_ofW (L := Lt_J6_bitCount_0f7a4) (LR := LRt_J6_bitCount_0f7a4) (by decide) (Nat.le_of_ble_eq_true rfl) hTy ?_
  intro p e s m args below meth c Q ls hx hb hr hlocks hown hml hW hK hT hS hQ hl
  have hl : lv_has ls 1 [(0, .int a0)] := hl
  refine lv_iload_n hx hb dJ6_bitCount_0f7a4_0 rfl (lv_at hl 0 rfl) ?_
  refine lv_iload_n hx hb dJ6_bitCount_0f7a4_1 rfl (lv_at hl 0 rfl) ?_
  refine lv_iconst (v := 1) hx hb dJ6_bitCount_0f7a4_2 (by decide) ?_
  refine lv_iushr hx hb dJ6_bitCount_0f7a4_3 rfl ?_
  refine tw_top (fun x2 => ?_)
  have h1 := iv_any x2
  refine lv_ldcw hx hb hown (hW _ w_4_121 rfl) dJ6_bitCount_0f7a4_4 ?_
  refine tw_iand (hi := 1431655765) hx hb (iv_mono (iv_c (c := 1431655765) (n := 1431655765) (by decide)) (lo := 0) (hi := 1431655765) (by decide) (by decide)) (by decide) dJ6_bitCount_0f7a4_7 (fun x5 h3 => ?_)
  refine lv_isub hx hb dJ6_bitCount_0f7a4_8 ?_
  refine tw_top (fun x7 => ?_)
  have h6 := iv_any x7
  refine lv_istore_n (lv' := [(0, .int x7)]) hx hb dJ6_bitCount_0f7a4_9 rfl hl (by decide) rfl (fun ls hl => ?_)
  refine lv_iload_n hx hb dJ6_bitCount_0f7a4_10 rfl (lv_at hl 0 rfl) ?_
  refine lv_ldcw hx hb hown (hW _ w_4_122 rfl) dJ6_bitCount_0f7a4_11 ?_
  refine tw_iand (hi := 858993459) hx hb (iv_mono (iv_c (c := 858993459) (n := 858993459) (by decide)) (lo := 0) (hi := 858993459) (by decide) (by decide)) (by decide) dJ6_bitCount_0f7a4_14 (fun x10 h8 => ?_)
  refine lv_iload_n hx hb dJ6_bitCount_0f7a4_15 rfl (lv_at hl 0 rfl) ?_
  refine lv_iconst (v := 2) hx hb dJ6_bitCount_0f7a4_16 (by decide) ?_
  refine lv_iushr hx hb dJ6_bitCount_0f7a4_17 rfl ?_
  refine tw_top (fun x12 => ?_)
  have h11 := iv_any x12
  refine lv_ldcw hx hb hown (hW _ w_4_122 rfl) dJ6_bitCount_0f7a4_18 ?_
  refine tw_iand (hi := 858993459) hx hb (iv_mono (iv_c (c := 858993459) (n := 858993459) (by decide)) (lo := 0) (hi := 858993459) (by decide) (by decide)) (by decide) dJ6_bitCount_0f7a4_21 (fun x15 h13 => ?_)
  refine tw_iadd (lo := 0) (hi := 1717986918) hx hb h8 h13 ⟨by decide, by decide⟩ ⟨by decide, by decide⟩ dJ6_bitCount_0f7a4_22 (fun x18 e17 h16 => ?_)
  refine lv_istore_n (lv' := [(0, .int x18)]) hx hb dJ6_bitCount_0f7a4_23 rfl hl (by decide) rfl (fun ls hl => ?_)
  refine lv_iload_n hx hb dJ6_bitCount_0f7a4_24 rfl (lv_at hl 0 rfl) ?_
  refine lv_iload_n hx hb dJ6_bitCount_0f7a4_25 rfl (lv_at hl 0 rfl) ?_
  refine lv_iconst (v := 4) hx hb dJ6_bitCount_0f7a4_26 (by decide) ?_
  refine lv_iushr hx hb dJ6_bitCount_0f7a4_27 rfl ?_
  refine tw_top (fun x20 => ?_)
  have h19 := iv_any x20
  refine lv_iadd hx hb dJ6_bitCount_0f7a4_28 ?_
  refine tw_top (fun x22 => ?_)
  have h21 := iv_any x22
  refine lv_ldcw hx hb hown (hW _ w_4_123 rfl) dJ6_bitCount_0f7a4_29 ?_
  refine tw_iand (hi := 252645135) hx hb (iv_mono (iv_c (c := 252645135) (n := 252645135) (by decide)) (lo := 0) (hi := 252645135) (by decide) (by decide)) (by decide) dJ6_bitCount_0f7a4_32 (fun x25 h23 => ?_)
  refine lv_istore_n (lv' := [(0, .int x25)]) hx hb dJ6_bitCount_0f7a4_33 rfl hl (by decide) rfl (fun ls hl => ?_)
  refine lv_iload_n hx hb dJ6_bitCount_0f7a4_34 rfl (lv_at hl 0 rfl) ?_
  refine lv_iload_n hx hb dJ6_bitCount_0f7a4_35 rfl (lv_at hl 0 rfl) ?_
  refine lv_bipush (v := 8) hx hb dJ6_bitCount_0f7a4_36 (by decide) ?_
  refine lv_iushr hx hb dJ6_bitCount_0f7a4_38 rfl ?_
  refine tw_top (fun x27 => ?_)
  have h26 := iv_any x27
  refine lv_iadd hx hb dJ6_bitCount_0f7a4_39 ?_
  refine tw_top (fun x29 => ?_)
  have h28 := iv_any x29
  refine lv_istore_n (lv' := [(0, .int x29)]) hx hb dJ6_bitCount_0f7a4_40 rfl hl (by decide) rfl (fun ls hl => ?_)
  refine lv_iload_n hx hb dJ6_bitCount_0f7a4_41 rfl (lv_at hl 0 rfl) ?_
  refine lv_iload_n hx hb dJ6_bitCount_0f7a4_42 rfl (lv_at hl 0 rfl) ?_
  refine lv_bipush (v := 16) hx hb dJ6_bitCount_0f7a4_43 (by decide) ?_
  refine lv_iushr hx hb dJ6_bitCount_0f7a4_45 rfl ?_
  refine tw_top (fun x31 => ?_)
  have h30 := iv_any x31
  refine lv_iadd hx hb dJ6_bitCount_0f7a4_46 ?_
  refine tw_top (fun x33 => ?_)
  have h32 := iv_any x33
  refine lv_istore_n (lv' := [(0, .int x33)]) hx hb dJ6_bitCount_0f7a4_47 rfl hl (by decide) rfl (fun ls hl => ?_)
  refine lv_iload_n hx hb dJ6_bitCount_0f7a4_48 rfl (lv_at hl 0 rfl) ?_
  refine lv_bipush (v := 63) hx hb dJ6_bitCount_0f7a4_49 (by decide) ?_
  refine tw_iand (hi := 63) hx hb (iv_mono (iv_c (c := 63) (n := 63) (by decide)) (lo := 0) (hi := 63) (by decide) (by decide)) (by decide) dJ6_bitCount_0f7a4_51 (fun x36 h34 => ?_)
  exact tw_endi hx hb hr hlocks hK hT hS hQ (h34) dJ6_bitCount_0f7a4_52
def Lt_X10_begin : WL := [(3, 1, 4)]
def LRt_X10_begin : WL := [(3, 0, 1)]
set_option maxRecDepth 100000 in
set_option maxHeartbeats 4000000 in
theorem t_X10_begin (l : Launch) (D : va_G) (cy : Nat → ClassId) (tx : (Nat → Nat) × (Nat → Nat)) (base Z : Nat) (K N : Nat → Nat) (Ma : MT) (Ra : RT) (Ja : JT) (hTy : Ty Z K N Ma Ra) (a0 : Nat) (hz_a0 : a0 < Z) (hk_a0 : K a0 = 3) (a1 : Nat) (hz_a1 : a1 < Z) (hk_a1 : K a1 = 13) (hn_a1 : N a1 = 400) (a2 : Int32) (h_a2 : iv 0 400 a2) : Met l yX10_begin [Cond.code yX10_begin cX10_begin 3 none] (md_rm 1 0 0) (va_Pc [.ref (base + a0), .ref (base + a1), .int a2] (md_U D cy tx base Z K N Ma Ra Ja)) (mQv D cy tx base (fun u => TP Z K N Lt_X10_begin LRt_X10_begin Ma Ra u ∧ (u.2.2.2.2.1 a0 0 = some a1 ∧ (∃ x0 x1 x2 : Int32, u.2.2.2.1 a0 1 = x0 ∧ u.2.2.2.1 a0 2 = x1 ∧ u.2.2.2.1 a0 3 = x2 ∧ iv 0 400 x0 ∧ iv 0 0 x1 ∧ iv 0 0 x2 ∧ (x1.toInt = 0 ∧ x2.toInt = 0))))) 0 0 (fun q => base ≤ q) := by
  refine tw_ofW (L := Lt_X10_begin) (LR := LRt_X10_begin) (by decide) (Nat.le_of_ble_eq_true rfl) hTy ?_
  intro p e s m args below meth c Q ls hx hb hr hlocks hown hml hW hK hT hS hQ hl
  have hl : lv_has ls 3 [(0, .ref (base + a0)), (1, .ref (base + a1)), (2, .int a2)] := hl
  refine lv_aload_n hx hb dX10_begin_0 rfl (lv_at hl 0 rfl) ?_
  refine lv_aload_n hx hb dX10_begin_1 rfl (lv_at hl 1 rfl) ?_
  refine tw_putr hx hb hW hown hK hS f_X10_9_2 hz_a0 hk_a0 rfl rfl (t := 13) (n := 400) rfl hz_a1 hk_a1 (fun _ => hn_a1) rfl dX10_begin_2 (fun H locs R3 hS k1 f2 => ?_)
  refine lv_aload_n hx hb dX10_begin_5 rfl (lv_at hl 0 rfl) ?_
  refine lv_aload_n hx hb dX10_begin_6 rfl (lv_at hl 1 rfl) ?_
  refine lv_ifnonnull (tgt := 14) hx hb dX10_begin_7 (by decide) ?_
  refine lv_iload_n hx hb dX10_begin_14 rfl (lv_at hl 2 rfl) ?_
  refine lv_aload_n hx hb dX10_begin_15 rfl (lv_at hl 1 rfl) ?_
  refine tw_alenk hx hb hK hS hz_a1 hk_a1 (by decide) hn_a1 (v := 400) (by decide) dX10_begin_16 ?_
  refine va_mmin hx hb (hml.trans hl.1.symm) hown (hW _ w_3_85 rfl) (hW _ w_3_86 rfl) (hW _ w_1_13 rfl) (hW _ w_3_87 rfl) (Nat.le_of_ble_eq_true rfl) (Nat.le_of_ble_eq_true rfl) (Nat.le_of_ble_eq_true rfl) (Nat.le_of_ble_eq_true rfl) dX10_begin_17 ?_
  refine tw_mmin (lo := 0) (hi := 400) h_a2 (iv_c (c := 400) (n := 400) (by decide)) (by decide) (fun x6 e5 h4 => ?_)
  refine tw_puti hx hb hW hown hK hS f_X10_21_2 hz_a0 hk_a0 rfl rfl (lo := 0) (hi := 400) rfl h4 rfl dX10_begin_20 (fun H locs M9 hS k7 f8 => ?_)
  refine lv_aload_n hx hb dX10_begin_23 rfl (lv_at hl 0 rfl) ?_
  refine lv_iconst (v := 0) hx hb dX10_begin_24 (by decide) ?_
  refine tw_puti hx hb hW hown hK hS f_X10_25_2 hz_a0 hk_a0 rfl rfl (lo := 0) (hi := 1000) rfl (iv_mono (iv_c (c := 0) (n := 0) (by decide)) (by decide) (by decide)) rfl dX10_begin_25 (fun H locs M12 hS k10 f11 => ?_)
  refine lv_aload_n hx hb dX10_begin_28 rfl (lv_at hl 0 rfl) ?_
  refine lv_iconst (v := 0) hx hb dX10_begin_29 (by decide) ?_
  refine tw_puti hx hb hW hown hK hS f_X10_28_2 hz_a0 hk_a0 rfl rfl (lo := (-2147483648)) (hi := 2147483647) rfl (iv_mono (iv_c (c := 0) (n := 0) (by decide)) (by decide) (by decide)) rfl dX10_begin_30 (fun H locs M15 hS k13 f14 => ?_)
  have k16 : M15 a0 1 = x6 := ((Fr.kp (k := 1) f14 hk_a0 rfl).trans (Fr.kp (k := 1) f11 hk_a0 rfl)).trans k7
  have k17 : M15 a0 2 = 0 := (Fr.kp (k := 2) f14 hk_a0 rfl).trans k10
  have q18 : (0 : Int32).toInt = 0 ∧ (0 : Int32).toInt = 0 := by
    have := (h_a2).1; have := (h_a2).2; have : (0 : Int32).toInt = 0 := (by decide); omega
  exact tw_endv hx hb hr hlocks hK hT hS hQ (⟨k1, ⟨x6, 0, 0, k16, k17, k13, h4, (iv_c (c := 0) (n := 0) (by decide)), (iv_c (c := 0) (n := 0) (by decide)), q18⟩⟩) dX10_begin_33
def Lt_X10_begin_1 : WL := [(9, 1, 4)]
def LRt_X10_begin_1 : WL := [(9, 0, 1)]
set_option maxRecDepth 100000 in
set_option maxHeartbeats 4000000 in
theorem t_X10_begin_1 (l : Launch) (D : va_G) (cy : Nat → ClassId) (tx : (Nat → Nat) × (Nat → Nat)) (base Z : Nat) (K N : Nat → Nat) (Ma : MT) (Ra : RT) (Ja : JT) (hTy : Ty Z K N Ma Ra) (a0 : Nat) (hz_a0 : a0 < Z) (hk_a0 : K a0 = 9) (a1 : Nat) (hz_a1 : a1 < Z) (hk_a1 : K a1 = 13) (hn_a1 : N a1 = 400) (a2 : Int32) (h_a2 : iv 0 400 a2) : Met l yX10_begin [Cond.code yX10_begin cX10_begin 3 none] (md_rm 1 0 0) (va_Pc [.ref (base + a0), .ref (base + a1), .int a2] (md_U D cy tx base Z K N Ma Ra Ja)) (mQv D cy tx base (fun u => TP Z K N Lt_X10_begin_1 LRt_X10_begin_1 Ma Ra u ∧ (u.2.2.2.2.1 a0 0 = some a1 ∧ (∃ x0 x1 x2 : Int32, u.2.2.2.1 a0 1 = x0 ∧ u.2.2.2.1 a0 2 = x1 ∧ u.2.2.2.1 a0 3 = x2 ∧ iv 0 400 x0 ∧ iv 0 0 x1 ∧ iv 0 0 x2 ∧ (x1.toInt = 0 ∧ x2.toInt = 0))))) 0 0 (fun q => base ≤ q) := by
  refine tw_ofW (L := Lt_X10_begin_1) (LR := LRt_X10_begin_1) (by decide) (Nat.le_of_ble_eq_true rfl) hTy ?_
  intro p e s m args below meth c Q ls hx hb hr hlocks hown hml hW hK hT hS hQ hl
  have hl : lv_has ls 3 [(0, .ref (base + a0)), (1, .ref (base + a1)), (2, .int a2)] := hl
  refine lv_aload_n hx hb dX10_begin_0 rfl (lv_at hl 0 rfl) ?_
  refine lv_aload_n hx hb dX10_begin_1 rfl (lv_at hl 1 rfl) ?_
  refine tw_putr hx hb hW hown hK hS f_X10_9_8 hz_a0 hk_a0 rfl rfl (t := 13) (n := 400) rfl hz_a1 hk_a1 (fun _ => hn_a1) rfl dX10_begin_2 (fun H locs R3 hS k1 f2 => ?_)
  refine lv_aload_n hx hb dX10_begin_5 rfl (lv_at hl 0 rfl) ?_
  refine lv_aload_n hx hb dX10_begin_6 rfl (lv_at hl 1 rfl) ?_
  refine lv_ifnonnull (tgt := 14) hx hb dX10_begin_7 (by decide) ?_
  refine lv_iload_n hx hb dX10_begin_14 rfl (lv_at hl 2 rfl) ?_
  refine lv_aload_n hx hb dX10_begin_15 rfl (lv_at hl 1 rfl) ?_
  refine tw_alenk hx hb hK hS hz_a1 hk_a1 (by decide) hn_a1 (v := 400) (by decide) dX10_begin_16 ?_
  refine va_mmin hx hb (hml.trans hl.1.symm) hown (hW _ w_3_85 rfl) (hW _ w_3_86 rfl) (hW _ w_1_13 rfl) (hW _ w_3_87 rfl) (Nat.le_of_ble_eq_true rfl) (Nat.le_of_ble_eq_true rfl) (Nat.le_of_ble_eq_true rfl) (Nat.le_of_ble_eq_true rfl) dX10_begin_17 ?_
  refine tw_mmin (lo := 0) (hi := 400) h_a2 (iv_c (c := 400) (n := 400) (by decide)) (by decide) (fun x6 e5 h4 => ?_)
  refine tw_puti hx hb hW hown hK hS f_X10_21_8 hz_a0 hk_a0 rfl rfl (lo := 0) (hi := 400) rfl h4 rfl dX10_begin_20 (fun H locs M9 hS k7 f8 => ?_)
  refine lv_aload_n hx hb dX10_begin_23 rfl (lv_at hl 0 rfl) ?_
  refine lv_iconst (v := 0) hx hb dX10_begin_24 (by decide) ?_
  refine tw_puti hx hb hW hown hK hS f_X10_25_8 hz_a0 hk_a0 rfl rfl (lo := 0) (hi := 1000) rfl (iv_mono (iv_c (c := 0) (n := 0) (by decide)) (by decide) (by decide)) rfl dX10_begin_25 (fun H locs M12 hS k10 f11 => ?_)
  refine lv_aload_n hx hb dX10_begin_28 rfl (lv_at hl 0 rfl) ?_
  refine lv_iconst (v := 0) hx hb dX10_begin_29 (by decide) ?_
  refine tw_puti hx hb hW hown hK hS f_X10_28_8 hz_a0 hk_a0 rfl rfl (lo := (-2147483648)) (hi := 2147483647) rfl (iv_mono (iv_c (c := 0) (n := 0) (by decide)) (by decide) (by decide)) rfl dX10_begin_30 (fun H locs M15 hS k13 f14 => ?_)
  have k16 : M15 a0 1 = x6 := ((Fr.kp (k := 1) f14 hk_a0 rfl).trans (Fr.kp (k := 1) f11 hk_a0 rfl)).trans k7
  have k17 : M15 a0 2 = 0 := (Fr.kp (k := 2) f14 hk_a0 rfl).trans k10
  have q18 : (0 : Int32).toInt = 0 ∧ (0 : Int32).toInt = 0 := by
    have := (h_a2).1; have := (h_a2).2; have : (0 : Int32).toInt = 0 := (by decide); omega
  exact tw_endv hx hb hr hlocks hK hT hS hQ (⟨k1, ⟨x6, 0, 0, k16, k17, k13, h4, (iv_c (c := 0) (n := 0) (by decide)), (iv_c (c := 0) (n := 0) (by decide)), q18⟩⟩) dX10_begin_33
def Lt_X10_fail : WL := [(9, 3, 4)]
def LRt_X10_fail : WL := []
set_option maxRecDepth 100000 in
set_option maxHeartbeats 4000000 in
theorem t_X10_fail (l : Launch) (D : va_G) (cy : Nat → ClassId) (tx : (Nat → Nat) × (Nat → Nat)) (base Z : Nat) (K N : Nat → Nat) (Ma : MT) (Ra : RT) (Ja : JT) (hTy : Ty Z K N Ma Ra) (a0 : Nat) (hz_a0 : a0 < Z) (hk_a0 : K a0 = 9) (a1 : Int32) (h_a1 : iv 0 1000 a1) (a2 : Int32) (h_a2 : iv 0 4 a2) : Met l yX10_fail [Cond.code yX10_fail cX10_fail 3 none] (md_rm 1 0 0) (va_Pc [.ref (base + a0), .int a1, .int a2] (md_U D cy tx base Z K N Ma Ra Ja)) (mQv D cy tx base (fun u => TP Z K N Lt_X10_fail LRt_X10_fail Ma Ra u ∧ ((∃ x0 : Int32, u.2.2.2.1 a0 3 = x0 ∧ iv (-2147483648) 2147483647 x0 ∧ (¬ x0.toInt = 0))))) 0 0 (fun q => base ≤ q) := by
  refine tw_ofW (L := Lt_X10_fail) (LR := LRt_X10_fail) (by decide) (Nat.le_of_ble_eq_true rfl) hTy ?_
  intro p e s m args below meth c Q ls hx hb hr hlocks hown hml hW hK hT hS hQ hl
  have hl : lv_has ls 3 [(0, .ref (base + a0)), (1, .int a1), (2, .int a2)] := hl
  refine lv_aload_n hx hb dX10_fail_0 rfl (lv_at hl 0 rfl) ?_
  refine tw_geti hx hb hW hown hK hS f_X10_28_8 hz_a0 hk_a0 (lo := (-2147483648)) (hi := 2147483647) rfl dX10_fail_1 (fun x3 k2 h1 => ?_)
  refine lv_if_ne (tgt := 19) hx hb dX10_fail_4 (by decide) (fun c4 => ?_) (fun c4 => ?_)
  · have q5 : ¬ x3.toInt = 0 := ti_ne c4
    have q6 : ¬ x3.toInt = 0 := by
      have := (h_a1).1; have := (h_a1).2; have := (h_a2).1; have := (h_a2).2; have := (h1).1; have := (h1).2; omega
    exact tw_endv hx hb hr hlocks hK hT hS hQ (⟨x3, k2, h1, q6⟩) dX10_fail_19
  · have q7 : x3.toInt = 0 := ti_eq c4
    have h8 : iv 0 0 x3 := ⟨by have := (h1).1; have := ((iv_c (c := 0) (n := 0) (by decide))).1; omega, by have := (h1).2; have := ((iv_c (c := 0) (n := 0) (by decide))).2; omega⟩
    refine lv_aload_n hx hb dX10_fail_7 rfl (lv_at hl 0 rfl) ?_
    refine lv_iconst (v := 1) hx hb dX10_fail_8 (by decide) ?_
    refine lv_bipush (v := 8) hx hb dX10_fail_9 (by decide) ?_
    refine lv_iload_n hx hb dX10_fail_11 rfl (lv_at hl 1 rfl) ?_
    refine tw_icmul (k := 8) (lo := 0) (hi := 8000) hx hb (by decide) h_a1 (by decide) ⟨by decide, by decide⟩ ⟨by decide, by decide⟩ dX10_fail_12 (fun x11 e10 h9 => ?_)
    refine tw_iadd (lo := 1) (hi := 8001) hx hb (iv_c (c := 1) (n := 1) (by decide)) h9 ⟨by decide, by decide⟩ ⟨by decide, by decide⟩ dX10_fail_13 (fun x14 e13 h12 => ?_)
    have e13 : x14.toInt = 1 + x11.toInt := e13
    refine lv_iload_n hx hb dX10_fail_14 rfl (lv_at hl 2 rfl) ?_
    refine tw_iadd (lo := 1) (hi := 8005) hx hb h12 h_a2 ⟨by decide, by decide⟩ ⟨by decide, by decide⟩ dX10_fail_15 (fun x17 e16 h15 => ?_)
    refine tw_puti hx hb hW hown hK hS f_X10_28_8 hz_a0 hk_a0 rfl rfl (lo := (-2147483648)) (hi := 2147483647) rfl (iv_mono h15 (by decide) (by decide)) rfl dX10_fail_16 (fun H locs M20 hS k18 f19 => ?_)
    have q21 : ¬ x17.toInt = 0 := by
      have := (h_a1).1; have := (h_a1).2; have := (h_a2).1; have := (h_a2).2; have := (h9).1; have := (h9).2; have := (h12).1; have := (h12).2; have := (h15).1; have := (h15).2; omega
    exact tw_endv hx hb hr hlocks hK hT hS hQ (⟨x17, k18, (iv_mono h15 (by decide) (by decide)), q21⟩) dX10_fail_19
def Lt_X10_fail_1 : WL := [(3, 3, 4)]
def LRt_X10_fail_1 : WL := []
set_option maxRecDepth 100000 in
set_option maxHeartbeats 4000000 in
theorem t_X10_fail_1 (l : Launch) (D : va_G) (cy : Nat → ClassId) (tx : (Nat → Nat) × (Nat → Nat)) (base Z : Nat) (K N : Nat → Nat) (Ma : MT) (Ra : RT) (Ja : JT) (hTy : Ty Z K N Ma Ra) (a0 : Nat) (hz_a0 : a0 < Z) (hk_a0 : K a0 = 3) (a1 : Int32) (h_a1 : iv 0 1000 a1) (a2 : Int32) (h_a2 : iv 0 4 a2) : Met l yX10_fail [Cond.code yX10_fail cX10_fail 3 none] (md_rm 1 0 0) (va_Pc [.ref (base + a0), .int a1, .int a2] (md_U D cy tx base Z K N Ma Ra Ja)) (mQv D cy tx base (fun u => TP Z K N Lt_X10_fail_1 LRt_X10_fail_1 Ma Ra u ∧ ((∃ x0 : Int32, u.2.2.2.1 a0 3 = x0 ∧ iv (-2147483648) 2147483647 x0 ∧ (¬ x0.toInt = 0))))) 0 0 (fun q => base ≤ q) := by
  refine tw_ofW (L := Lt_X10_fail_1) (LR := LRt_X10_fail_1) (by decide) (Nat.le_of_ble_eq_true rfl) hTy ?_
  intro p e s m args below meth c Q ls hx hb hr hlocks hown hml hW hK hT hS hQ hl
  have hl : lv_has ls 3 [(0, .ref (base + a0)), (1, .int a1), (2, .int a2)] := hl
  refine lv_aload_n hx hb dX10_fail_0 rfl (lv_at hl 0 rfl) ?_
  refine tw_geti hx hb hW hown hK hS f_X10_28_2 hz_a0 hk_a0 (lo := (-2147483648)) (hi := 2147483647) rfl dX10_fail_1 (fun x3 k2 h1 => ?_)
  refine lv_if_ne (tgt := 19) hx hb dX10_fail_4 (by decide) (fun c4 => ?_) (fun c4 => ?_)
  · have q5 : ¬ x3.toInt = 0 := ti_ne c4
    have q6 : ¬ x3.toInt = 0 := by
      have := (h_a1).1; have := (h_a1).2; have := (h_a2).1; have := (h_a2).2; have := (h1).1; have := (h1).2; omega
    exact tw_endv hx hb hr hlocks hK hT hS hQ (⟨x3, k2, h1, q6⟩) dX10_fail_19
  · have q7 : x3.toInt = 0 := ti_eq c4
    have h8 : iv 0 0 x3 := ⟨by have := (h1).1; have := ((iv_c (c := 0) (n := 0) (by decide))).1; omega, by have := (h1).2; have := ((iv_c (c := 0) (n := 0) (by decide))).2; omega⟩
    refine lv_aload_n hx hb dX10_fail_7 rfl (lv_at hl 0 rfl) ?_
    refine lv_iconst (v := 1) hx hb dX10_fail_8 (by decide) ?_
    refine lv_bipush (v := 8) hx hb dX10_fail_9 (by decide) ?_
    refine lv_iload_n hx hb dX10_fail_11 rfl (lv_at hl 1 rfl) ?_
    refine tw_icmul (k := 8) (lo := 0) (hi := 8000) hx hb (by decide) h_a1 (by decide) ⟨by decide, by decide⟩ ⟨by decide, by decide⟩ dX10_fail_12 (fun x11 e10 h9 => ?_)
    refine tw_iadd (lo := 1) (hi := 8001) hx hb (iv_c (c := 1) (n := 1) (by decide)) h9 ⟨by decide, by decide⟩ ⟨by decide, by decide⟩ dX10_fail_13 (fun x14 e13 h12 => ?_)
    have e13 : x14.toInt = 1 + x11.toInt := e13
    refine lv_iload_n hx hb dX10_fail_14 rfl (lv_at hl 2 rfl) ?_
    refine tw_iadd (lo := 1) (hi := 8005) hx hb h12 h_a2 ⟨by decide, by decide⟩ ⟨by decide, by decide⟩ dX10_fail_15 (fun x17 e16 h15 => ?_)
    refine tw_puti hx hb hW hown hK hS f_X10_28_2 hz_a0 hk_a0 rfl rfl (lo := (-2147483648)) (hi := 2147483647) rfl (iv_mono h15 (by decide) (by decide)) rfl dX10_fail_16 (fun H locs M20 hS k18 f19 => ?_)
    have q21 : ¬ x17.toInt = 0 := by
      have := (h_a1).1; have := (h_a1).2; have := (h_a2).1; have := (h_a2).2; have := (h9).1; have := (h9).2; have := (h12).1; have := (h12).2; have := (h15).1; have := (h15).2; omega
    exact tw_endv hx hb hr hlocks hK hT hS hQ (⟨x17, k18, (iv_mono h15 (by decide) (by decide)), q21⟩) dX10_fail_19
def Lt_X10_here : WL := []
def LRt_X10_here : WL := []
set_option maxRecDepth 100000 in
set_option maxHeartbeats 4000000 in
theorem t_X10_here (l : Launch) (D : va_G) (cy : Nat → ClassId) (tx : (Nat → Nat) × (Nat → Nat)) (base Z : Nat) (K N : Nat → Nat) (Ma : MT) (Ra : RT) (Ja : JT) (hTy : Ty Z K N Ma Ra) (a0 : Nat) (hz_a0 : a0 < Z) (hk_a0 : K a0 = 9) (tb : Nat) (k_tb : Ra a0 0 = some tb) (ln : Int32) (k_ln : Ma a0 1 = ln) (h_ln : iv 0 400 ln) (pa : Int32) (k_pa : Ma a0 2 = pa) (h_pa : iv 0 1000 pa) : Met l yX10_here [Cond.code yX10_here cX10_here 1 (some .int)] (md_rm 1 0 0) (va_Pc [.ref (base + a0)] (md_U D cy tx base Z K N Ma Ra Ja)) (mQi D cy tx base (fun r u => TP Z K N Lt_X10_here LRt_X10_here Ma Ra u ∧ (iv (-2147483648) 2147483647 r ∧ (r.toInt = -1 ∨ pa.toInt < ln.toInt)))) 0 0 (fun q => base ≤ q) := by
  refine tw_ofW (L := Lt_X10_here) (LR := LRt_X10_here) (by decide) (Nat.le_of_ble_eq_true rfl) hTy ?_
  intro p e s m args below meth c Q ls hx hb hr hlocks hown hml hW hK hT hS hQ hl
  have hl : lv_has ls 1 [(0, .ref (base + a0))] := hl
  obtain ⟨hz_tb, hk_tb, hn_tb⟩ := hTy.refn hz_a0 hk_a0 (show rtR 9 0 = (13, 400, 1) from rfl) k_tb
  have hn_tb := hn_tb (by decide)
  refine lv_aload_n hx hb dX10_here_0 rfl (lv_at hl 0 rfl) ?_
  refine tw_getk hx hb hW hown hK hS f_X10_25_8 hz_a0 hk_a0 (v := pa) k_pa dX10_here_1 ?_
  refine lv_if_lt (tgt := 30) hx hb dX10_here_4 (by decide) (fun c1 => False.elim (by have q : pa.toInt < 0 := ti_lt c1; have := (h_pa).1; have := (h_pa).2; omega)) (fun c1 => ?_)
  have q2 : 0 ≤ pa.toInt := ti_nlt c1
  refine lv_aload_n hx hb dX10_here_7 rfl (lv_at hl 0 rfl) ?_
  refine tw_getk hx hb hW hown hK hS f_X10_25_8 hz_a0 hk_a0 (v := pa) k_pa dX10_here_8 ?_
  refine lv_aload_n hx hb dX10_here_11 rfl (lv_at hl 0 rfl) ?_
  refine tw_getk hx hb hW hown hK hS f_X10_21_8 hz_a0 hk_a0 (v := ln) k_ln dX10_here_12 ?_
  refine lv_icmp_ge (tgt := 30) hx hb dX10_here_15 (by decide) (fun c3 => ?_) (fun c3 => ?_)
  · have q4 : ln.toInt ≤ pa.toInt := ti_le c3
    refine lv_iconst (v := (-1)) hx hb dX10_here_30 (by decide) ?_
    have q5 : (-1 : Int32).toInt = -1 ∨ pa.toInt < ln.toInt := by
      have := (h_ln).1; have := (h_ln).2; have := (h_pa).1; have := (h_pa).2; have : (-1 : Int32).toInt = -1 := (by decide); omega
    exact tw_endi hx hb hr hlocks hK hT hS hQ (⟨(iv_mono (iv_c (c := (-1)) (n := (-1)) (by decide)) (by decide) (by decide)), q5⟩) dX10_here_31
  · have q6 : pa.toInt < ln.toInt := ti_nle c3
    have h7 : iv 0 399 pa := iv_ltL (y := ln) h_pa h_ln q6 (by decide)
    have h8 : iv 1 400 ln := iv_gtL (y := pa) h_ln h_pa q6 (by decide)
    refine lv_aload_n hx hb dX10_here_18 rfl (lv_at hl 0 rfl) ?_
    refine tw_getrk hx hb hW hown hK hS f_X10_9_8 hz_a0 hk_a0 (b := tb) k_tb dX10_here_19 ?_
    refine lv_aload_n hx hb dX10_here_22 rfl (lv_at hl 0 rfl) ?_
    refine tw_getk hx hb hW hown hK hS f_X10_25_8 hz_a0 hk_a0 (v := pa) k_pa dX10_here_23 ?_
    refine tw_bald hx hb hK hS hz_tb hk_tb hn_tb h7 ⟨by decide, by decide⟩ dX10_here_26 (fun x11 k10 => ?_)
    have h9 := iv_any x11
    refine lv_goto (tgt := 31) hx hb dX10_here_27 (by decide) ?_
    have q12 : x11.toInt = -1 ∨ pa.toInt < ln.toInt := by
      have := (h8).1; have := (h8).2; have := (h7).1; have := (h7).2; have := (h9).1; have := (h9).2; omega
    exact tw_endi hx hb hr hlocks hK hT hS hQ (⟨h9, q12⟩) dX10_here_31
def Lt_X10_hereBehindBlanks : WL := [(9, 2, 3)]
def LRt_X10_hereBehindBlanks : WL := []
set_option maxRecDepth 100000 in
set_option maxHeartbeats 4000000 in
theorem t_X10_hereBehindBlanks (l : Launch) (D : va_G) (cy : Nat → ClassId) (tx : (Nat → Nat) × (Nat → Nat)) (base Z : Nat) (K N : Nat → Nat) (Ma : MT) (Ra : RT) (Ja : JT) (hTy : Ty Z K N Ma Ra) (a0 : Nat) (hz_a0 : a0 < Z) (hk_a0 : K a0 = 9) (tb : Nat) (k_tb : Ra a0 0 = some tb) (ln : Int32) (k_ln : Ma a0 1 = ln) (h_ln : iv 0 400 ln) (pa : Int32) (k_pa : Ma a0 2 = pa) (h_pa : iv 0 1000 pa) : Met l yX10_hereBehindBlanks [Cond.code yX10_hereBehindBlanks cX10_hereBehindBlanks 1 (some .int)] (md_rm 2 0 0) (va_Pc [.ref (base + a0)] (md_U D cy tx base Z K N Ma Ra Ja)) (mQi D cy tx base (fun r u => TP Z K N Lt_X10_hereBehindBlanks LRt_X10_hereBehindBlanks Ma Ra u ∧ (iv (-2147483648) 2147483647 r ∧ (∃ x0 : Int32, u.2.2.2.1 a0 2 = x0 ∧ iv 0 1000 x0 ∧ ((pa.toInt ≤ x0.toInt ∧ (x0.toInt ≤ ln.toInt ∨ x0.toInt = pa.toInt)) ∧ (r.toInt = -1 ∨ x0.toInt < ln.toInt)))))) 0 0 (fun q => base ≤ q) := by
  refine tw_ofW (L := Lt_X10_hereBehindBlanks) (LR := LRt_X10_hereBehindBlanks) (by decide) (Nat.le_of_ble_eq_true rfl) hTy ?_
  intro p e s m args below meth c Q ls hx hb hr hlocks hown hml hW hK hT hS hQ hl
  have hl : lv_has ls 1 [(0, .ref (base + a0))] := hl
  obtain ⟨hz_tb, hk_tb, hn_tb⟩ := hTy.refn hz_a0 hk_a0 (show rtR 9 0 = (13, 400, 1) from rfl) k_tb
  have hn_tb := hn_tb (by decide)
  have W0_1 : ∀ (n_1 : Nat) (x6 : Int32) (M1 : MT) (R2 : RT) (J3 : JT) (H : Heap) (locs : List Loc) (ls : Array Slot) (h_x6 : iv 0 1000 x6) (k7 : M1 a0 2 = x6) (w0_1 : pa.toInt ≤ x6.toInt ∧ (x6.toInt ≤ ln.toInt ∨ x6.toInt = pa.toInt)) (hm_1 : 1000 - x6.toInt < (n_1 : Int)) (hS : SB D cy base Z K N Lt_X10_hereBehindBlanks LRt_X10_hereBehindBlanks Ma Ra M1 R2 J3 s H locs) (hl : lv_has ls 1 [(0, .ref (base + a0))]), W p l e (md_rm 2 0 0) s m args below meth c H locs 0 0 Q (F0 m 0 ls []) := by
    intro n_1
    induction n_1 with
    | zero =>
      intro x6 M1 R2 J3 H locs ls h_x6 k7 w0_1 hm_1 hS hl
      exfalso
      have := (h_ln).1; have := (h_ln).2; have := (h_pa).1; have := (h_pa).2; have := (h_x6).1; have := (h_x6).2; omega
    | succ n_1 ih_1 =>
      intro x6 M1 R2 J3 H locs ls h_x6 k7 w0_1 hm_1 hS hl
      have f4 := hS.2.2.1
      have g5 := hS.2.2.2
      refine lv_aload_n hx hb dX10_hereBehindBlanks_0 rfl (lv_at hl 0 rfl) ?_
      refine tw_getk hx hb hW hown hK hS f_X10_25_8 hz_a0 hk_a0 (v := x6) k7 dX10_hereBehindBlanks_1 ?_
      refine lv_aload_n hx hb dX10_hereBehindBlanks_4 rfl (lv_at hl 0 rfl) ?_
      have k8 : M1 a0 1 = ln := (Fr.kp (k := 1) f4 hk_a0 rfl).trans k_ln
      refine tw_getk hx hb hW hown hK hS f_X10_21_8 hz_a0 hk_a0 (v := ln) k8 dX10_hereBehindBlanks_5 ?_
      refine lv_icmp_ge (tgt := 38) hx hb dX10_hereBehindBlanks_8 (by decide) (fun c9 => ?_) (fun c9 => ?_)
      · have q10 : ln.toInt ≤ x6.toInt := ti_le c9
        refine lv_aload_n hx hb dX10_hereBehindBlanks_38 rfl (lv_at hl 0 rfl) ?_
        have k11 : R2 a0 0 = some tb := (Fr.kp (k := 0) g5 hk_a0 rfl).trans k_tb
        have k12 : M1 a0 1 = ln := (Fr.kp (k := 1) f4 hk_a0 rfl).trans k_ln
        refine tw_goi hS (md_runU (As := []) (rest := []) hx hb hml hown hW hK hT hS.1 (t_X10_here l D cy tx base Z K N M1 R2 J3 hS.2.1 a0 hz_a0 hk_a0 tb k11 ln k12 (iv_mono h_ln (by decide) (by decide)) x6 k7 (iv_mono h_x6 (by decide) (by decide))) s_X10_31_X8 ⟨rfl, rfl, ⟨Nat.le_of_ble_eq_true rfl, Nat.le_of_ble_eq_true rfl⟩, ⟨Nat.le_of_ble_eq_true rfl, Nat.le_of_ble_eq_true rfl⟩⟩ hz_a0 hk_a0 (by decide) rfl rfl hl.1 rfl (Nat.le_of_ble_eq_true rfl) dX10_hereBehindBlanks_39) rfl rfl (fun x19 H locs M16 R17 J15 hS f13 g14 E18 => ?_)
        have eM16 := Fr.nil f13 rfl
        subst eM16
        have eR17 := Fr.nil g14 rfl
        subst eR17
        obtain ⟨h_x19, p20⟩ := E18
        have q21 : (pa.toInt ≤ x6.toInt ∧ (x6.toInt ≤ ln.toInt ∨ x6.toInt = pa.toInt)) ∧ (x19.toInt = -1 ∨ x6.toInt < ln.toInt) := by
          have := (h_ln).1; have := (h_ln).2; have := (h_pa).1; have := (h_pa).2; have := (h_x19).1; have := (h_x19).2; have := (h_x6).1; have := (h_x6).2; omega
        exact tw_endi hx hb hr hlocks hK hT hS hQ (⟨h_x19, ⟨x6, k7, h_x6, q21⟩⟩) dX10_hereBehindBlanks_42
      · have q22 : x6.toInt < ln.toInt := ti_nle c9
        have h23 : iv 0 399 x6 := iv_ltL (y := ln) h_x6 h_ln q22 (by decide)
        have h24 : iv 1 400 ln := iv_gtL (y := x6) h_ln h_x6 q22 (by decide)
        refine lv_aload_n hx hb dX10_hereBehindBlanks_11 rfl (lv_at hl 0 rfl) ?_
        have k25 : R2 a0 0 = some tb := (Fr.kp (k := 0) g5 hk_a0 rfl).trans k_tb
        refine tw_getrk hx hb hW hown hK hS f_X10_9_8 hz_a0 hk_a0 (b := tb) k25 dX10_hereBehindBlanks_12 ?_
        refine lv_aload_n hx hb dX10_hereBehindBlanks_15 rfl (lv_at hl 0 rfl) ?_
        refine tw_getk hx hb hW hown hK hS f_X10_25_8 hz_a0 hk_a0 (v := x6) k7 dX10_hereBehindBlanks_16 ?_
        refine tw_bald hx hb hK hS hz_tb hk_tb hn_tb h23 ⟨by decide, by decide⟩ dX10_hereBehindBlanks_19 (fun x28 k27 => ?_)
        have h26 := iv_any x28
        refine lv_bipush (v := 32) hx hb dX10_hereBehindBlanks_20 (by decide) ?_
        refine lv_icmp_ne (tgt := 38) hx hb dX10_hereBehindBlanks_22 (by decide) (fun c29 => ?_) (fun c29 => ?_)
        · have q30 : ¬ x28.toInt = 32 := ti_ne c29
          refine lv_aload_n hx hb dX10_hereBehindBlanks_38 rfl (lv_at hl 0 rfl) ?_
          have k31 : R2 a0 0 = some tb := (Fr.kp (k := 0) g5 hk_a0 rfl).trans k_tb
          have k32 : M1 a0 1 = ln := (Fr.kp (k := 1) f4 hk_a0 rfl).trans k_ln
          refine tw_goi hS (md_runU (As := []) (rest := []) hx hb hml hown hW hK hT hS.1 (t_X10_here l D cy tx base Z K N M1 R2 J3 hS.2.1 a0 hz_a0 hk_a0 tb k31 ln k32 (iv_mono h24 (by decide) (by decide)) x6 k7 (iv_mono h23 (by decide) (by decide))) s_X10_31_X8 ⟨rfl, rfl, ⟨Nat.le_of_ble_eq_true rfl, Nat.le_of_ble_eq_true rfl⟩, ⟨Nat.le_of_ble_eq_true rfl, Nat.le_of_ble_eq_true rfl⟩⟩ hz_a0 hk_a0 (by decide) rfl rfl hl.1 rfl (Nat.le_of_ble_eq_true rfl) dX10_hereBehindBlanks_39) rfl rfl (fun x39 H locs M36 R37 J35 hS f33 g34 E38 => ?_)
          have eM36 := Fr.nil f33 rfl
          subst eM36
          have eR37 := Fr.nil g34 rfl
          subst eR37
          obtain ⟨h_x39, p40⟩ := E38
          have q41 : (pa.toInt ≤ x6.toInt ∧ (x6.toInt ≤ ln.toInt ∨ x6.toInt = pa.toInt)) ∧ (x39.toInt = -1 ∨ x6.toInt < ln.toInt) := by
            have := (h24).1; have := (h24).2; have := (h_pa).1; have := (h_pa).2; have := (h_x39).1; have := (h_x39).2; have := (h23).1; have := (h23).2; omega
          exact tw_endi hx hb hr hlocks hK hT hS hQ (⟨h_x39, ⟨x6, k7, (iv_mono h23 (by decide) (by decide)), q41⟩⟩) dX10_hereBehindBlanks_42
        · have q42 : x28.toInt = 32 := ti_eq c29
          have h43 : iv 32 32 x28 := ⟨by have := (h26).1; have := ((iv_c (c := 32) (n := 32) (by decide))).1; omega, by have := (h26).2; have := ((iv_c (c := 32) (n := 32) (by decide))).2; omega⟩
          refine lv_aload_n hx hb dX10_hereBehindBlanks_25 rfl (lv_at hl 0 rfl) ?_
          refine lv_dup hx hb dX10_hereBehindBlanks_26 rfl ?_
          refine tw_getk hx hb hW hown hK hS f_X10_25_8 hz_a0 hk_a0 (v := x6) k7 dX10_hereBehindBlanks_27 ?_
          refine lv_iconst (v := 1) hx hb dX10_hereBehindBlanks_30 (by decide) ?_
          refine tw_iadd (lo := 1) (hi := 400) hx hb h23 (iv_c (c := 1) (n := 1) (by decide)) ⟨by decide, by decide⟩ ⟨by decide, by decide⟩ dX10_hereBehindBlanks_31 (fun x46 e45 h44 => ?_)
          have e45 : x46.toInt = x6.toInt + 1 := e45
          refine tw_puti hx hb hW hown hK hS f_X10_25_8 hz_a0 hk_a0 rfl rfl (lo := 0) (hi := 1000) rfl (iv_mono h44 (by decide) (by decide)) rfl dX10_hereBehindBlanks_32 (fun H locs M49 hS k47 f48 => ?_)
          refine lv_goto (tgt := 0) hx hb dX10_hereBehindBlanks_35 (by decide) ?_
          have w50 : pa.toInt ≤ x46.toInt ∧ (x46.toInt ≤ ln.toInt ∨ x46.toInt = pa.toInt) := by
            have := (h24).1; have := (h24).2; have := (h_pa).1; have := (h_pa).2; have := (h44).1; have := (h44).2; have := (h23).1; have := (h23).2; omega
          have hm51 : 1000 - x46.toInt < (n_1 : Int) := by
            have := (h24).1; have := (h24).2; have := (h_pa).1; have := (h_pa).2; have := (h44).1; have := (h44).2; have := (h23).1; have := (h23).2; omega
          exact ih_1 x46 M49 R2 J3 H locs _ (iv_mono h44 (by decide) (by decide)) k47 w50 hm51 hS hl
  have w52 : pa.toInt ≤ pa.toInt ∧ (pa.toInt ≤ ln.toInt ∨ pa.toInt = pa.toInt) := by
    have := (h_ln).1; have := (h_ln).2; have := (h_pa).1; have := (h_pa).2; omega
  have hm53 : 1000 - pa.toInt < (((1001 : Nat) : Int) : Int) := by
    have := (h_ln).1; have := (h_ln).2; have := (h_pa).1; have := (h_pa).2; omega
  exact W0_1 1001 pa Ma Ra Ja s.heap [] _ h_pa k_pa w52 hm53 hS hl
def Lt_X10_goesOn : WL := [(9, 2, 4)]
def LRt_X10_goesOn : WL := []
set_option maxRecDepth 100000 in
set_option maxHeartbeats 4000000 in
theorem t_X10_goesOn (l : Launch) (D : va_G) (cy : Nat → ClassId) (tx : (Nat → Nat) × (Nat → Nat)) (base Z : Nat) (K N : Nat → Nat) (Ma : MT) (Ra : RT) (Ja : JT) (hTy : Ty Z K N Ma Ra) (a0 : Nat) (hz_a0 : a0 < Z) (hk_a0 : K a0 = 9) (tb : Nat) (k_tb : Ra a0 0 = some tb) (ln : Int32) (k_ln : Ma a0 1 = ln) (h_ln : iv 0 400 ln) (pa : Int32) (k_pa : Ma a0 2 = pa) (h_pa : iv 0 1000 pa) (fa : Int32) (k_fa : Ma a0 3 = fa) (h_fa : iv (-2147483648) 2147483647 fa) : Met l yX10_goesOn [Cond.code yX10_goesOn cX10_goesOn 2 (some .boolean)] (md_rm 3 0 0) (va_Pc [.ref (base + a0)] (md_U D cy tx base Z K N Ma Ra Ja)) (mQi D cy tx base (fun r u => TP Z K N Lt_X10_goesOn LRt_X10_goesOn Ma Ra u ∧ (iv 0 1 r ∧ (∃ x0 x1 : Int32, u.2.2.2.1 a0 2 = x0 ∧ u.2.2.2.1 a0 3 = x1 ∧ iv 0 1000 x0 ∧ iv (-2147483648) 2147483647 x1 ∧ ((x0.toInt ≤ ln.toInt ∨ x0.toInt = pa.toInt) ∧ (r.toInt = 0 ∨ (x1.toInt = 0 ∧ x0.toInt ≤ ln.toInt))))))) 0 0 (fun q => base ≤ q) := by
  refine tw_ofW (L := Lt_X10_goesOn) (LR := LRt_X10_goesOn) (by decide) (Nat.le_of_ble_eq_true rfl) hTy ?_
  intro p e s m args below meth c Q ls hx hb hr hlocks hown hml hW hK hT hS hQ hl
  have hl : lv_has ls 2 [(0, .ref (base + a0))] := hl
  obtain ⟨hz_tb, hk_tb, hn_tb⟩ := hTy.refn hz_a0 hk_a0 (show rtR 9 0 = (13, 400, 1) from rfl) k_tb
  have hn_tb := hn_tb (by decide)
  refine lv_aload_n hx hb dX10_goesOn_0 rfl (lv_at hl 0 rfl) ?_
  refine tw_goi hS (md_runU (As := []) (rest := []) hx hb hml hown hW hK hT hS.1 (t_X10_hereBehindBlanks l D cy tx base Z K N Ma Ra Ja hS.2.1 a0 hz_a0 hk_a0 tb k_tb ln k_ln (iv_mono h_ln (by decide) (by decide)) pa k_pa (iv_mono h_pa (by decide) (by decide))) s_X10_54_X8 ⟨rfl, rfl, ⟨Nat.le_of_ble_eq_true rfl, Nat.le_of_ble_eq_true rfl⟩, ⟨Nat.le_of_ble_eq_true rfl, Nat.le_of_ble_eq_true rfl⟩⟩ hz_a0 hk_a0 (by decide) rfl rfl hl.1 rfl (Nat.le_of_ble_eq_true rfl) dX10_goesOn_1) rfl rfl (fun x7 H locs M4 R5 J3 hS f1 g2 E6 => ?_)
  have eR5 := Fr.nil g2 rfl
  subst eR5
  obtain ⟨h_x7, p8⟩ := E6
  obtain ⟨x10, k11, h9, q12⟩ := p8
  have k11 : M4 a0 2 = x10 := k11
  refine lv_istore_n (lv' := [(1, .int x7), (0, .ref (base + a0))]) hx hb dX10_goesOn_4 rfl hl (by decide) rfl (fun ls hl => ?_)
  refine lv_aload_n hx hb dX10_goesOn_5 rfl (lv_at hl 1 rfl) ?_
  have k13 : M4 a0 3 = fa := (Fr.kp (k := 3) f1 hk_a0 rfl).trans k_fa
  refine tw_getk hx hb hW hown hK hS f_X10_28_8 hz_a0 hk_a0 (v := fa) k13 dX10_goesOn_6 ?_
  refine lv_if_ne (tgt := 23) hx hb dX10_goesOn_9 (by decide) (fun c14 => ?_) (fun c14 => ?_)
  · have q15 : ¬ fa.toInt = 0 := ti_ne c14
    refine lv_iconst (v := 0) hx hb dX10_goesOn_23 (by decide) ?_
    have k16 : M4 a0 3 = fa := (Fr.kp (k := 3) f1 hk_a0 rfl).trans k_fa
    have q17 : (x10.toInt ≤ ln.toInt ∨ x10.toInt = pa.toInt) ∧ ((0 : Int32).toInt = 0 ∨ (fa.toInt = 0 ∧ x10.toInt ≤ ln.toInt)) := by
      have := (h_fa).1; have := (h_fa).2; have := (h_ln).1; have := (h_ln).2; have := (h_pa).1; have := (h_pa).2; have := (h9).1; have := (h9).2; have : (0 : Int32).toInt = 0 := (by decide); omega
    exact tw_endz hx hb hr hlocks hK hT hS hQ rfl (⟨(iv_mono (iv_c (c := 0) (n := 0) (by decide)) (by decide) (by decide)), ⟨x10, fa, k11, k16, h9, h_fa, q17⟩⟩) dX10_goesOn_24
  · have q18 : fa.toInt = 0 := ti_eq c14
    have h19 : iv 0 0 fa := ⟨by have := (h_fa).1; have := ((iv_c (c := 0) (n := 0) (by decide))).1; omega, by have := (h_fa).2; have := ((iv_c (c := 0) (n := 0) (by decide))).2; omega⟩
    refine lv_aload_n hx hb dX10_goesOn_12 rfl (lv_at hl 1 rfl) ?_
    refine tw_getk hx hb hW hown hK hS f_X10_25_8 hz_a0 hk_a0 (v := x10) k11 dX10_goesOn_13 ?_
    refine lv_aload_n hx hb dX10_goesOn_16 rfl (lv_at hl 1 rfl) ?_
    have k20 : M4 a0 1 = ln := (Fr.kp (k := 1) f1 hk_a0 rfl).trans k_ln
    refine tw_getk hx hb hW hown hK hS f_X10_21_8 hz_a0 hk_a0 (v := ln) k20 dX10_goesOn_17 ?_
    refine lv_icmp_lt (tgt := 25) hx hb dX10_goesOn_20 (by decide) (fun c21 => ?_) (fun c21 => ?_)
    · have q22 : x10.toInt < ln.toInt := ti_lt c21
      have h23 : iv 0 399 x10 := iv_ltL (y := ln) h9 h_ln q22 (by decide)
      have h24 : iv 1 400 ln := iv_gtL (y := x10) h_ln h9 q22 (by decide)
      refine lv_iload_n hx hb dX10_goesOn_25 rfl (lv_at hl 0 rfl) ?_
      refine lv_bipush (v := 59) hx hb dX10_goesOn_26 (by decide) ?_
      refine lv_icmp_eq (tgt := 42) hx hb dX10_goesOn_28 (by decide) (fun c25 => ?_) (fun c25 => ?_)
      · have q26 : x7.toInt = 59 := ti_eq c25
        have h27 : iv 59 59 x7 := ⟨by have := (h_x7).1; have := ((iv_c (c := 59) (n := 59) (by decide))).1; omega, by have := (h_x7).2; have := ((iv_c (c := 59) (n := 59) (by decide))).2; omega⟩
        refine lv_aload_n hx hb dX10_goesOn_42 rfl (lv_at hl 1 rfl) ?_
        refine lv_dup hx hb dX10_goesOn_43 rfl ?_
        refine tw_getk hx hb hW hown hK hS f_X10_25_8 hz_a0 hk_a0 (v := x10) k11 dX10_goesOn_44 ?_
        refine lv_iconst (v := 1) hx hb dX10_goesOn_47 (by decide) ?_
        refine tw_iadd (lo := 1) (hi := 400) hx hb h23 (iv_c (c := 1) (n := 1) (by decide)) ⟨by decide, by decide⟩ ⟨by decide, by decide⟩ dX10_goesOn_48 (fun x30 e29 h28 => ?_)
        have e29 : x30.toInt = x10.toInt + 1 := e29
        refine tw_puti hx hb hW hown hK hS f_X10_25_8 hz_a0 hk_a0 rfl rfl (lo := 0) (hi := 1000) rfl (iv_mono h28 (by decide) (by decide)) rfl dX10_goesOn_49 (fun H locs M33 hS k31 f32 => ?_)
        refine lv_iconst (v := 1) hx hb dX10_goesOn_52 (by decide) ?_
        have k34 : M33 a0 3 = fa := ((Fr.kp (k := 3) f32 hk_a0 rfl).trans (Fr.kp (k := 3) f1 hk_a0 rfl)).trans k_fa
        have q35 : (x30.toInt ≤ ln.toInt ∨ x30.toInt = pa.toInt) ∧ ((1 : Int32).toInt = 0 ∨ (fa.toInt = 0 ∧ x30.toInt ≤ ln.toInt)) := by
          have := (h19).1; have := (h19).2; have := (h24).1; have := (h24).2; have := (h_pa).1; have := (h_pa).2; have := (h23).1; have := (h23).2; have := (h28).1; have := (h28).2; have : (1 : Int32).toInt = 1 := (by decide); omega
        exact tw_endz hx hb hr hlocks hK hT hS hQ rfl (⟨(iv_mono (iv_c (c := 1) (n := 1) (by decide)) (by decide) (by decide)), ⟨x30, fa, k31, k34, (iv_mono h28 (by decide) (by decide)), (iv_mono h19 (by decide) (by decide)), q35⟩⟩) dX10_goesOn_53
      · have q36 : ¬ x7.toInt = 59 := ti_ne c25
        refine lv_aload_n hx hb dX10_goesOn_31 rfl (lv_at hl 1 rfl) ?_
        refine lv_aload_n hx hb dX10_goesOn_32 rfl (lv_at hl 1 rfl) ?_
        refine tw_getk hx hb hW hown hK hS f_X10_25_8 hz_a0 hk_a0 (v := x10) k11 dX10_goesOn_33 ?_
        refine lv_iconst (v := 0) hx hb dX10_goesOn_36 (by decide) ?_
        refine tw_gov hS (md_runU (As := [.int x10, .int 0]) (rest := []) hx hb hml hown hW hK hT hS.1 (t_X10_fail l D cy tx base Z K N M4 Ra J3 hS.2.1 a0 hz_a0 hk_a0 x10 (iv_mono h23 (by decide) (by decide)) 0 (iv_mono (iv_c (c := 0) (n := 0) (by decide)) (by decide) (by decide))) s_X10_50_X8 ⟨rfl, rfl, ⟨Nat.le_of_ble_eq_true rfl, Nat.le_of_ble_eq_true rfl⟩, ⟨Nat.le_of_ble_eq_true rfl, Nat.le_of_ble_eq_true rfl⟩⟩ hz_a0 hk_a0 (by decide) rfl rfl hl.1 rfl (Nat.le_of_ble_eq_true rfl) dX10_goesOn_37) rfl rfl (fun H locs M40 R41 J39 hS f37 g38 E42 => ?_)
        have eR41 := Fr.nil g38 rfl
        subst eR41
        have p43 := E42
        clear E42
        obtain ⟨x45, k46, h44, q47⟩ := p43
        have k46 : M40 a0 3 = x45 := k46
        refine lv_iconst (v := 0) hx hb dX10_goesOn_40 (by decide) ?_
        have k48 : M40 a0 2 = x10 := (Fr.kp (k := 2) f37 hk_a0 rfl).trans k11
        have q49 : (x10.toInt ≤ ln.toInt ∨ x10.toInt = pa.toInt) ∧ ((0 : Int32).toInt = 0 ∨ (x45.toInt = 0 ∧ x10.toInt ≤ ln.toInt)) := by
          have := (h19).1; have := (h19).2; have := (h24).1; have := (h24).2; have := (h_pa).1; have := (h_pa).2; have := (h23).1; have := (h23).2; have := (h44).1; have := (h44).2; have : (0 : Int32).toInt = 0 := (by decide); omega
        exact tw_endz hx hb hr hlocks hK hT hS hQ rfl (⟨(iv_mono (iv_c (c := 0) (n := 0) (by decide)) (by decide) (by decide)), ⟨x10, x45, k48, k46, (iv_mono h23 (by decide) (by decide)), h44, q49⟩⟩) dX10_goesOn_41
    · have q50 : ln.toInt ≤ x10.toInt := ti_nlt c21
      refine lv_iconst (v := 0) hx hb dX10_goesOn_23 (by decide) ?_
      have k51 : M4 a0 3 = fa := (Fr.kp (k := 3) f1 hk_a0 rfl).trans k_fa
      have q52 : (x10.toInt ≤ ln.toInt ∨ x10.toInt = pa.toInt) ∧ ((0 : Int32).toInt = 0 ∨ (fa.toInt = 0 ∧ x10.toInt ≤ ln.toInt)) := by
        have := (h19).1; have := (h19).2; have := (h_ln).1; have := (h_ln).2; have := (h_pa).1; have := (h_pa).2; have := (h9).1; have := (h9).2; have : (0 : Int32).toInt = 0 := (by decide); omega
      exact tw_endz hx hb hr hlocks hK hT hS hQ rfl (⟨(iv_mono (iv_c (c := 0) (n := 0) (by decide)) (by decide) (by decide)), ⟨x10, fa, k11, k51, h9, (iv_mono h19 (by decide) (by decide)), q52⟩⟩) dX10_goesOn_24
def Lt_X10_here_1 : WL := []
def LRt_X10_here_1 : WL := []
set_option maxRecDepth 100000 in
set_option maxHeartbeats 4000000 in
theorem t_X10_here_1 (l : Launch) (D : va_G) (cy : Nat → ClassId) (tx : (Nat → Nat) × (Nat → Nat)) (base Z : Nat) (K N : Nat → Nat) (Ma : MT) (Ra : RT) (Ja : JT) (hTy : Ty Z K N Ma Ra) (a0 : Nat) (hz_a0 : a0 < Z) (hk_a0 : K a0 = 3) (tb : Nat) (k_tb : Ra a0 0 = some tb) (ln : Int32) (k_ln : Ma a0 1 = ln) (h_ln : iv 0 400 ln) (pa : Int32) (k_pa : Ma a0 2 = pa) (h_pa : iv 0 1000 pa) : Met l yX10_here [Cond.code yX10_here cX10_here 1 (some .int)] (md_rm 1 0 0) (va_Pc [.ref (base + a0)] (md_U D cy tx base Z K N Ma Ra Ja)) (mQi D cy tx base (fun r u => TP Z K N Lt_X10_here_1 LRt_X10_here_1 Ma Ra u ∧ (iv (-2147483648) 2147483647 r ∧ (r.toInt = -1 ∨ pa.toInt < ln.toInt)))) 0 0 (fun q => base ≤ q) := by
  refine tw_ofW (L := Lt_X10_here_1) (LR := LRt_X10_here_1) (by decide) (Nat.le_of_ble_eq_true rfl) hTy ?_
  intro p e s m args below meth c Q ls hx hb hr hlocks hown hml hW hK hT hS hQ hl
  have hl : lv_has ls 1 [(0, .ref (base + a0))] := hl
  obtain ⟨hz_tb, hk_tb, hn_tb⟩ := hTy.refn hz_a0 hk_a0 (show rtR 3 0 = (13, 400, 1) from rfl) k_tb
  have hn_tb := hn_tb (by decide)
  refine lv_aload_n hx hb dX10_here_0 rfl (lv_at hl 0 rfl) ?_
  refine tw_getk hx hb hW hown hK hS f_X10_25_2 hz_a0 hk_a0 (v := pa) k_pa dX10_here_1 ?_
  refine lv_if_lt (tgt := 30) hx hb dX10_here_4 (by decide) (fun c1 => False.elim (by have q : pa.toInt < 0 := ti_lt c1; have := (h_pa).1; have := (h_pa).2; omega)) (fun c1 => ?_)
  have q2 : 0 ≤ pa.toInt := ti_nlt c1
  refine lv_aload_n hx hb dX10_here_7 rfl (lv_at hl 0 rfl) ?_
  refine tw_getk hx hb hW hown hK hS f_X10_25_2 hz_a0 hk_a0 (v := pa) k_pa dX10_here_8 ?_
  refine lv_aload_n hx hb dX10_here_11 rfl (lv_at hl 0 rfl) ?_
  refine tw_getk hx hb hW hown hK hS f_X10_21_2 hz_a0 hk_a0 (v := ln) k_ln dX10_here_12 ?_
  refine lv_icmp_ge (tgt := 30) hx hb dX10_here_15 (by decide) (fun c3 => ?_) (fun c3 => ?_)
  · have q4 : ln.toInt ≤ pa.toInt := ti_le c3
    refine lv_iconst (v := (-1)) hx hb dX10_here_30 (by decide) ?_
    have q5 : (-1 : Int32).toInt = -1 ∨ pa.toInt < ln.toInt := by
      have := (h_ln).1; have := (h_ln).2; have := (h_pa).1; have := (h_pa).2; have : (-1 : Int32).toInt = -1 := (by decide); omega
    exact tw_endi hx hb hr hlocks hK hT hS hQ (⟨(iv_mono (iv_c (c := (-1)) (n := (-1)) (by decide)) (by decide) (by decide)), q5⟩) dX10_here_31
  · have q6 : pa.toInt < ln.toInt := ti_nle c3
    have h7 : iv 0 399 pa := iv_ltL (y := ln) h_pa h_ln q6 (by decide)
    have h8 : iv 1 400 ln := iv_gtL (y := pa) h_ln h_pa q6 (by decide)
    refine lv_aload_n hx hb dX10_here_18 rfl (lv_at hl 0 rfl) ?_
    refine tw_getrk hx hb hW hown hK hS f_X10_9_2 hz_a0 hk_a0 (b := tb) k_tb dX10_here_19 ?_
    refine lv_aload_n hx hb dX10_here_22 rfl (lv_at hl 0 rfl) ?_
    refine tw_getk hx hb hW hown hK hS f_X10_25_2 hz_a0 hk_a0 (v := pa) k_pa dX10_here_23 ?_
    refine tw_bald hx hb hK hS hz_tb hk_tb hn_tb h7 ⟨by decide, by decide⟩ dX10_here_26 (fun x11 k10 => ?_)
    have h9 := iv_any x11
    refine lv_goto (tgt := 31) hx hb dX10_here_27 (by decide) ?_
    have q12 : x11.toInt = -1 ∨ pa.toInt < ln.toInt := by
      have := (h8).1; have := (h8).2; have := (h7).1; have := (h7).2; have := (h9).1; have := (h9).2; omega
    exact tw_endi hx hb hr hlocks hK hT hS hQ (⟨h9, q12⟩) dX10_here_31
def Lt_X10_hereBehindBlanks_1 : WL := [(3, 2, 3)]
def LRt_X10_hereBehindBlanks_1 : WL := []
set_option maxRecDepth 100000 in
set_option maxHeartbeats 4000000 in
theorem t_X10_hereBehindBlanks_1 (l : Launch) (D : va_G) (cy : Nat → ClassId) (tx : (Nat → Nat) × (Nat → Nat)) (base Z : Nat) (K N : Nat → Nat) (Ma : MT) (Ra : RT) (Ja : JT) (hTy : Ty Z K N Ma Ra) (a0 : Nat) (hz_a0 : a0 < Z) (hk_a0 : K a0 = 3) (tb : Nat) (k_tb : Ra a0 0 = some tb) (ln : Int32) (k_ln : Ma a0 1 = ln) (h_ln : iv 0 400 ln) (pa : Int32) (k_pa : Ma a0 2 = pa) (h_pa : iv 0 1000 pa) : Met l yX10_hereBehindBlanks [Cond.code yX10_hereBehindBlanks cX10_hereBehindBlanks 1 (some .int)] (md_rm 2 0 0) (va_Pc [.ref (base + a0)] (md_U D cy tx base Z K N Ma Ra Ja)) (mQi D cy tx base (fun r u => TP Z K N Lt_X10_hereBehindBlanks_1 LRt_X10_hereBehindBlanks_1 Ma Ra u ∧ (iv (-2147483648) 2147483647 r ∧ (∃ x0 : Int32, u.2.2.2.1 a0 2 = x0 ∧ iv 0 1000 x0 ∧ ((pa.toInt ≤ x0.toInt ∧ (x0.toInt ≤ ln.toInt ∨ x0.toInt = pa.toInt)) ∧ (r.toInt = -1 ∨ x0.toInt < ln.toInt)))))) 0 0 (fun q => base ≤ q) := by
  refine tw_ofW (L := Lt_X10_hereBehindBlanks_1) (LR := LRt_X10_hereBehindBlanks_1) (by decide) (Nat.le_of_ble_eq_true rfl) hTy ?_
  intro p e s m args below meth c Q ls hx hb hr hlocks hown hml hW hK hT hS hQ hl
  have hl : lv_has ls 1 [(0, .ref (base + a0))] := hl
  obtain ⟨hz_tb, hk_tb, hn_tb⟩ := hTy.refn hz_a0 hk_a0 (show rtR 3 0 = (13, 400, 1) from rfl) k_tb
  have hn_tb := hn_tb (by decide)
  have W0_1 : ∀ (n_1 : Nat) (x6 : Int32) (M1 : MT) (R2 : RT) (J3 : JT) (H : Heap) (locs : List Loc) (ls : Array Slot) (h_x6 : iv 0 1000 x6) (k7 : M1 a0 2 = x6) (w0_1 : pa.toInt ≤ x6.toInt ∧ (x6.toInt ≤ ln.toInt ∨ x6.toInt = pa.toInt)) (hm_1 : 1000 - x6.toInt < (n_1 : Int)) (hS : SB D cy base Z K N Lt_X10_hereBehindBlanks_1 LRt_X10_hereBehindBlanks_1 Ma Ra M1 R2 J3 s H locs) (hl : lv_has ls 1 [(0, .ref (base + a0))]), W p l e (md_rm 2 0 0) s m args below meth c H locs 0 0 Q (F0 m 0 ls []) := by
    intro n_1
    induction n_1 with
    | zero =>
      intro x6 M1 R2 J3 H locs ls h_x6 k7 w0_1 hm_1 hS hl
      exfalso
      have := (h_ln).1; have := (h_ln).2; have := (h_pa).1; have := (h_pa).2; have := (h_x6).1; have := (h_x6).2; omega
    | succ n_1 ih_1 =>
      intro x6 M1 R2 J3 H locs ls h_x6 k7 w0_1 hm_1 hS hl
      have f4 := hS.2.2.1
      have g5 := hS.2.2.2
      refine lv_aload_n hx hb dX10_hereBehindBlanks_0 rfl (lv_at hl 0 rfl) ?_
      refine tw_getk hx hb hW hown hK hS f_X10_25_2 hz_a0 hk_a0 (v := x6) k7 dX10_hereBehindBlanks_1 ?_
      refine lv_aload_n hx hb dX10_hereBehindBlanks_4 rfl (lv_at hl 0 rfl) ?_
      have k8 : M1 a0 1 = ln := (Fr.kp (k := 1) f4 hk_a0 rfl).trans k_ln
      refine tw_getk hx hb hW hown hK hS f_X10_21_2 hz_a0 hk_a0 (v := ln) k8 dX10_hereBehindBlanks_5 ?_
      refine lv_icmp_ge (tgt := 38) hx hb dX10_hereBehindBlanks_8 (by decide) (fun c9 => ?_) (fun c9 => ?_)
      · have q10 : ln.toInt ≤ x6.toInt := ti_le c9
        refine lv_aload_n hx hb dX10_hereBehindBlanks_38 rfl (lv_at hl 0 rfl) ?_
        have k11 : R2 a0 0 = some tb := (Fr.kp (k := 0) g5 hk_a0 rfl).trans k_tb
        have k12 : M1 a0 1 = ln := (Fr.kp (k := 1) f4 hk_a0 rfl).trans k_ln
        refine tw_goi hS (md_runU (As := []) (rest := []) hx hb hml hown hW hK hT hS.1 (t_X10_here_1 l D cy tx base Z K N M1 R2 J3 hS.2.1 a0 hz_a0 hk_a0 tb k11 ln k12 (iv_mono h_ln (by decide) (by decide)) x6 k7 (iv_mono h_x6 (by decide) (by decide))) s_X10_31_X2 ⟨rfl, rfl, ⟨Nat.le_of_ble_eq_true rfl, Nat.le_of_ble_eq_true rfl⟩, ⟨Nat.le_of_ble_eq_true rfl, Nat.le_of_ble_eq_true rfl⟩⟩ hz_a0 hk_a0 (by decide) rfl rfl hl.1 rfl (Nat.le_of_ble_eq_true rfl) dX10_hereBehindBlanks_39) rfl rfl (fun x19 H locs M16 R17 J15 hS f13 g14 E18 => ?_)
        have eM16 := Fr.nil f13 rfl
        subst eM16
        have eR17 := Fr.nil g14 rfl
        subst eR17
        obtain ⟨h_x19, p20⟩ := E18
        have q21 : (pa.toInt ≤ x6.toInt ∧ (x6.toInt ≤ ln.toInt ∨ x6.toInt = pa.toInt)) ∧ (x19.toInt = -1 ∨ x6.toInt < ln.toInt) := by
          have := (h_ln).1; have := (h_ln).2; have := (h_pa).1; have := (h_pa).2; have := (h_x19).1; have := (h_x19).2; have := (h_x6).1; have := (h_x6).2; omega
        exact tw_endi hx hb hr hlocks hK hT hS hQ (⟨h_x19, ⟨x6, k7, h_x6, q21⟩⟩) dX10_hereBehindBlanks_42
      · have q22 : x6.toInt < ln.toInt := ti_nle c9
        have h23 : iv 0 399 x6 := iv_ltL (y := ln) h_x6 h_ln q22 (by decide)
        have h24 : iv 1 400 ln := iv_gtL (y := x6) h_ln h_x6 q22 (by decide)
        refine lv_aload_n hx hb dX10_hereBehindBlanks_11 rfl (lv_at hl 0 rfl) ?_
        have k25 : R2 a0 0 = some tb := (Fr.kp (k := 0) g5 hk_a0 rfl).trans k_tb
        refine tw_getrk hx hb hW hown hK hS f_X10_9_2 hz_a0 hk_a0 (b := tb) k25 dX10_hereBehindBlanks_12 ?_
        refine lv_aload_n hx hb dX10_hereBehindBlanks_15 rfl (lv_at hl 0 rfl) ?_
        refine tw_getk hx hb hW hown hK hS f_X10_25_2 hz_a0 hk_a0 (v := x6) k7 dX10_hereBehindBlanks_16 ?_
        refine tw_bald hx hb hK hS hz_tb hk_tb hn_tb h23 ⟨by decide, by decide⟩ dX10_hereBehindBlanks_19 (fun x28 k27 => ?_)
        have h26 := iv_any x28
        refine lv_bipush (v := 32) hx hb dX10_hereBehindBlanks_20 (by decide) ?_
        refine lv_icmp_ne (tgt := 38) hx hb dX10_hereBehindBlanks_22 (by decide) (fun c29 => ?_) (fun c29 => ?_)
        · have q30 : ¬ x28.toInt = 32 := ti_ne c29
          refine lv_aload_n hx hb dX10_hereBehindBlanks_38 rfl (lv_at hl 0 rfl) ?_
          have k31 : R2 a0 0 = some tb := (Fr.kp (k := 0) g5 hk_a0 rfl).trans k_tb
          have k32 : M1 a0 1 = ln := (Fr.kp (k := 1) f4 hk_a0 rfl).trans k_ln
          refine tw_goi hS (md_runU (As := []) (rest := []) hx hb hml hown hW hK hT hS.1 (t_X10_here_1 l D cy tx base Z K N M1 R2 J3 hS.2.1 a0 hz_a0 hk_a0 tb k31 ln k32 (iv_mono h24 (by decide) (by decide)) x6 k7 (iv_mono h23 (by decide) (by decide))) s_X10_31_X2 ⟨rfl, rfl, ⟨Nat.le_of_ble_eq_true rfl, Nat.le_of_ble_eq_true rfl⟩, ⟨Nat.le_of_ble_eq_true rfl, Nat.le_of_ble_eq_true rfl⟩⟩ hz_a0 hk_a0 (by decide) rfl rfl hl.1 rfl (Nat.le_of_ble_eq_true rfl) dX10_hereBehindBlanks_39) rfl rfl (fun x39 H locs M36 R37 J35 hS f33 g34 E38 => ?_)
          have eM36 := Fr.nil f33 rfl
          subst eM36
          have eR37 := Fr.nil g34 rfl
          subst eR37
          obtain ⟨h_x39, p40⟩ := E38
          have q41 : (pa.toInt ≤ x6.toInt ∧ (x6.toInt ≤ ln.toInt ∨ x6.toInt = pa.toInt)) ∧ (x39.toInt = -1 ∨ x6.toInt < ln.toInt) := by
            have := (h24).1; have := (h24).2; have := (h_pa).1; have := (h_pa).2; have := (h_x39).1; have := (h_x39).2; have := (h23).1; have := (h23).2; omega
          exact tw_endi hx hb hr hlocks hK hT hS hQ (⟨h_x39, ⟨x6, k7, (iv_mono h23 (by decide) (by decide)), q41⟩⟩) dX10_hereBehindBlanks_42
        · have q42 : x28.toInt = 32 := ti_eq c29
          have h43 : iv 32 32 x28 := ⟨by have := (h26).1; have := ((iv_c (c := 32) (n := 32) (by decide))).1; omega, by have := (h26).2; have := ((iv_c (c := 32) (n := 32) (by decide))).2; omega⟩
          refine lv_aload_n hx hb dX10_hereBehindBlanks_25 rfl (lv_at hl 0 rfl) ?_
          refine lv_dup hx hb dX10_hereBehindBlanks_26 rfl ?_
          refine tw_getk hx hb hW hown hK hS f_X10_25_2 hz_a0 hk_a0 (v := x6) k7 dX10_hereBehindBlanks_27 ?_
          refine lv_iconst (v := 1) hx hb dX10_hereBehindBlanks_30 (by decide) ?_
          refine tw_iadd (lo := 1) (hi := 400) hx hb h23 (iv_c (c := 1) (n := 1) (by decide)) ⟨by decide, by decide⟩ ⟨by decide, by decide⟩ dX10_hereBehindBlanks_31 (fun x46 e45 h44 => ?_)
          have e45 : x46.toInt = x6.toInt + 1 := e45
          refine tw_puti hx hb hW hown hK hS f_X10_25_2 hz_a0 hk_a0 rfl rfl (lo := 0) (hi := 1000) rfl (iv_mono h44 (by decide) (by decide)) rfl dX10_hereBehindBlanks_32 (fun H locs M49 hS k47 f48 => ?_)
          refine lv_goto (tgt := 0) hx hb dX10_hereBehindBlanks_35 (by decide) ?_
          have w50 : pa.toInt ≤ x46.toInt ∧ (x46.toInt ≤ ln.toInt ∨ x46.toInt = pa.toInt) := by
            have := (h24).1; have := (h24).2; have := (h_pa).1; have := (h_pa).2; have := (h44).1; have := (h44).2; have := (h23).1; have := (h23).2; omega
          have hm51 : 1000 - x46.toInt < (n_1 : Int) := by
            have := (h24).1; have := (h24).2; have := (h_pa).1; have := (h_pa).2; have := (h44).1; have := (h44).2; have := (h23).1; have := (h23).2; omega
          exact ih_1 x46 M49 R2 J3 H locs _ (iv_mono h44 (by decide) (by decide)) k47 w50 hm51 hS hl
  have w52 : pa.toInt ≤ pa.toInt ∧ (pa.toInt ≤ ln.toInt ∨ pa.toInt = pa.toInt) := by
    have := (h_ln).1; have := (h_ln).2; have := (h_pa).1; have := (h_pa).2; omega
  have hm53 : 1000 - pa.toInt < (((1001 : Nat) : Int) : Int) := by
    have := (h_ln).1; have := (h_ln).2; have := (h_pa).1; have := (h_pa).2; omega
  exact W0_1 1001 pa Ma Ra Ja s.heap [] _ h_pa k_pa w52 hm53 hS hl
def Lt_X10_goesOn_1 : WL := [(3, 2, 4)]
def LRt_X10_goesOn_1 : WL := []
set_option maxRecDepth 100000 in
set_option maxHeartbeats 4000000 in
theorem t_X10_goesOn_1 (l : Launch) (D : va_G) (cy : Nat → ClassId) (tx : (Nat → Nat) × (Nat → Nat)) (base Z : Nat) (K N : Nat → Nat) (Ma : MT) (Ra : RT) (Ja : JT) (hTy : Ty Z K N Ma Ra) (a0 : Nat) (hz_a0 : a0 < Z) (hk_a0 : K a0 = 3) (tb : Nat) (k_tb : Ra a0 0 = some tb) (ln : Int32) (k_ln : Ma a0 1 = ln) (h_ln : iv 0 400 ln) (pa : Int32) (k_pa : Ma a0 2 = pa) (h_pa : iv 0 1000 pa) (fa : Int32) (k_fa : Ma a0 3 = fa) (h_fa : iv (-2147483648) 2147483647 fa) : Met l yX10_goesOn [Cond.code yX10_goesOn cX10_goesOn 2 (some .boolean)] (md_rm 3 0 0) (va_Pc [.ref (base + a0)] (md_U D cy tx base Z K N Ma Ra Ja)) (mQi D cy tx base (fun r u => TP Z K N Lt_X10_goesOn_1 LRt_X10_goesOn_1 Ma Ra u ∧ (iv 0 1 r ∧ (∃ x0 x1 : Int32, u.2.2.2.1 a0 2 = x0 ∧ u.2.2.2.1 a0 3 = x1 ∧ iv 0 1000 x0 ∧ iv (-2147483648) 2147483647 x1 ∧ ((x0.toInt ≤ ln.toInt ∨ x0.toInt = pa.toInt) ∧ (r.toInt = 0 ∨ (x1.toInt = 0 ∧ x0.toInt ≤ ln.toInt))))))) 0 0 (fun q => base ≤ q) := by
  refine tw_ofW (L := Lt_X10_goesOn_1) (LR := LRt_X10_goesOn_1) (by decide) (Nat.le_of_ble_eq_true rfl) hTy ?_
  intro p e s m args below meth c Q ls hx hb hr hlocks hown hml hW hK hT hS hQ hl
  have hl : lv_has ls 2 [(0, .ref (base + a0))] := hl
  obtain ⟨hz_tb, hk_tb, hn_tb⟩ := hTy.refn hz_a0 hk_a0 (show rtR 3 0 = (13, 400, 1) from rfl) k_tb
  have hn_tb := hn_tb (by decide)
  refine lv_aload_n hx hb dX10_goesOn_0 rfl (lv_at hl 0 rfl) ?_
  refine tw_goi hS (md_runU (As := []) (rest := []) hx hb hml hown hW hK hT hS.1 (t_X10_hereBehindBlanks_1 l D cy tx base Z K N Ma Ra Ja hS.2.1 a0 hz_a0 hk_a0 tb k_tb ln k_ln (iv_mono h_ln (by decide) (by decide)) pa k_pa (iv_mono h_pa (by decide) (by decide))) s_X10_54_X2 ⟨rfl, rfl, ⟨Nat.le_of_ble_eq_true rfl, Nat.le_of_ble_eq_true rfl⟩, ⟨Nat.le_of_ble_eq_true rfl, Nat.le_of_ble_eq_true rfl⟩⟩ hz_a0 hk_a0 (by decide) rfl rfl hl.1 rfl (Nat.le_of_ble_eq_true rfl) dX10_goesOn_1) rfl rfl (fun x7 H locs M4 R5 J3 hS f1 g2 E6 => ?_)
  have eR5 := Fr.nil g2 rfl
  subst eR5
  obtain ⟨h_x7, p8⟩ := E6
  obtain ⟨x10, k11, h9, q12⟩ := p8
  have k11 : M4 a0 2 = x10 := k11
  refine lv_istore_n (lv' := [(1, .int x7), (0, .ref (base + a0))]) hx hb dX10_goesOn_4 rfl hl (by decide) rfl (fun ls hl => ?_)
  refine lv_aload_n hx hb dX10_goesOn_5 rfl (lv_at hl 1 rfl) ?_
  have k13 : M4 a0 3 = fa := (Fr.kp (k := 3) f1 hk_a0 rfl).trans k_fa
  refine tw_getk hx hb hW hown hK hS f_X10_28_2 hz_a0 hk_a0 (v := fa) k13 dX10_goesOn_6 ?_
  refine lv_if_ne (tgt := 23) hx hb dX10_goesOn_9 (by decide) (fun c14 => ?_) (fun c14 => ?_)
  · have q15 : ¬ fa.toInt = 0 := ti_ne c14
    refine lv_iconst (v := 0) hx hb dX10_goesOn_23 (by decide) ?_
    have k16 : M4 a0 3 = fa := (Fr.kp (k := 3) f1 hk_a0 rfl).trans k_fa
    have q17 : (x10.toInt ≤ ln.toInt ∨ x10.toInt = pa.toInt) ∧ ((0 : Int32).toInt = 0 ∨ (fa.toInt = 0 ∧ x10.toInt ≤ ln.toInt)) := by
      have := (h_fa).1; have := (h_fa).2; have := (h_ln).1; have := (h_ln).2; have := (h_pa).1; have := (h_pa).2; have := (h9).1; have := (h9).2; have : (0 : Int32).toInt = 0 := (by decide); omega
    exact tw_endz hx hb hr hlocks hK hT hS hQ rfl (⟨(iv_mono (iv_c (c := 0) (n := 0) (by decide)) (by decide) (by decide)), ⟨x10, fa, k11, k16, h9, h_fa, q17⟩⟩) dX10_goesOn_24
  · have q18 : fa.toInt = 0 := ti_eq c14
    have h19 : iv 0 0 fa := ⟨by have := (h_fa).1; have := ((iv_c (c := 0) (n := 0) (by decide))).1; omega, by have := (h_fa).2; have := ((iv_c (c := 0) (n := 0) (by decide))).2; omega⟩
    refine lv_aload_n hx hb dX10_goesOn_12 rfl (lv_at hl 1 rfl) ?_
    refine tw_getk hx hb hW hown hK hS f_X10_25_2 hz_a0 hk_a0 (v := x10) k11 dX10_goesOn_13 ?_
    refine lv_aload_n hx hb dX10_goesOn_16 rfl (lv_at hl 1 rfl) ?_
    have k20 : M4 a0 1 = ln := (Fr.kp (k := 1) f1 hk_a0 rfl).trans k_ln
    refine tw_getk hx hb hW hown hK hS f_X10_21_2 hz_a0 hk_a0 (v := ln) k20 dX10_goesOn_17 ?_
    refine lv_icmp_lt (tgt := 25) hx hb dX10_goesOn_20 (by decide) (fun c21 => ?_) (fun c21 => ?_)
    · have q22 : x10.toInt < ln.toInt := ti_lt c21
      have h23 : iv 0 399 x10 := iv_ltL (y := ln) h9 h_ln q22 (by decide)
      have h24 : iv 1 400 ln := iv_gtL (y := x10) h_ln h9 q22 (by decide)
      refine lv_iload_n hx hb dX10_goesOn_25 rfl (lv_at hl 0 rfl) ?_
      refine lv_bipush (v := 59) hx hb dX10_goesOn_26 (by decide) ?_
      refine lv_icmp_eq (tgt := 42) hx hb dX10_goesOn_28 (by decide) (fun c25 => ?_) (fun c25 => ?_)
      · have q26 : x7.toInt = 59 := ti_eq c25
        have h27 : iv 59 59 x7 := ⟨by have := (h_x7).1; have := ((iv_c (c := 59) (n := 59) (by decide))).1; omega, by have := (h_x7).2; have := ((iv_c (c := 59) (n := 59) (by decide))).2; omega⟩
        refine lv_aload_n hx hb dX10_goesOn_42 rfl (lv_at hl 1 rfl) ?_
        refine lv_dup hx hb dX10_goesOn_43 rfl ?_
        refine tw_getk hx hb hW hown hK hS f_X10_25_2 hz_a0 hk_a0 (v := x10) k11 dX10_goesOn_44 ?_
        refine lv_iconst (v := 1) hx hb dX10_goesOn_47 (by decide) ?_
        refine tw_iadd (lo := 1) (hi := 400) hx hb h23 (iv_c (c := 1) (n := 1) (by decide)) ⟨by decide, by decide⟩ ⟨by decide, by decide⟩ dX10_goesOn_48 (fun x30 e29 h28 => ?_)
        have e29 : x30.toInt = x10.toInt + 1 := e29
        refine tw_puti hx hb hW hown hK hS f_X10_25_2 hz_a0 hk_a0 rfl rfl (lo := 0) (hi := 1000) rfl (iv_mono h28 (by decide) (by decide)) rfl dX10_goesOn_49 (fun H locs M33 hS k31 f32 => ?_)
        refine lv_iconst (v := 1) hx hb dX10_goesOn_52 (by decide) ?_
        have k34 : M33 a0 3 = fa := ((Fr.kp (k := 3) f32 hk_a0 rfl).trans (Fr.kp (k := 3) f1 hk_a0 rfl)).trans k_fa
        have q35 : (x30.toInt ≤ ln.toInt ∨ x30.toInt = pa.toInt) ∧ ((1 : Int32).toInt = 0 ∨ (fa.toInt = 0 ∧ x30.toInt ≤ ln.toInt)) := by
          have := (h19).1; have := (h19).2; have := (h24).1; have := (h24).2; have := (h_pa).1; have := (h_pa).2; have := (h23).1; have := (h23).2; have := (h28).1; have := (h28).2; have : (1 : Int32).toInt = 1 := (by decide); omega
        exact tw_endz hx hb hr hlocks hK hT hS hQ rfl (⟨(iv_mono (iv_c (c := 1) (n := 1) (by decide)) (by decide) (by decide)), ⟨x30, fa, k31, k34, (iv_mono h28 (by decide) (by decide)), (iv_mono h19 (by decide) (by decide)), q35⟩⟩) dX10_goesOn_53
      · have q36 : ¬ x7.toInt = 59 := ti_ne c25
        refine lv_aload_n hx hb dX10_goesOn_31 rfl (lv_at hl 1 rfl) ?_
        refine lv_aload_n hx hb dX10_goesOn_32 rfl (lv_at hl 1 rfl) ?_
        refine tw_getk hx hb hW hown hK hS f_X10_25_2 hz_a0 hk_a0 (v := x10) k11 dX10_goesOn_33 ?_
        refine lv_iconst (v := 0) hx hb dX10_goesOn_36 (by decide) ?_
        refine tw_gov hS (md_runU (As := [.int x10, .int 0]) (rest := []) hx hb hml hown hW hK hT hS.1 (t_X10_fail_1 l D cy tx base Z K N M4 Ra J3 hS.2.1 a0 hz_a0 hk_a0 x10 (iv_mono h23 (by decide) (by decide)) 0 (iv_mono (iv_c (c := 0) (n := 0) (by decide)) (by decide) (by decide))) s_X10_50_X2 ⟨rfl, rfl, ⟨Nat.le_of_ble_eq_true rfl, Nat.le_of_ble_eq_true rfl⟩, ⟨Nat.le_of_ble_eq_true rfl, Nat.le_of_ble_eq_true rfl⟩⟩ hz_a0 hk_a0 (by decide) rfl rfl hl.1 rfl (Nat.le_of_ble_eq_true rfl) dX10_goesOn_37) rfl rfl (fun H locs M40 R41 J39 hS f37 g38 E42 => ?_)
        have eR41 := Fr.nil g38 rfl
        subst eR41
        have p43 := E42
        clear E42
        obtain ⟨x45, k46, h44, q47⟩ := p43
        have k46 : M40 a0 3 = x45 := k46
        refine lv_iconst (v := 0) hx hb dX10_goesOn_40 (by decide) ?_
        have k48 : M40 a0 2 = x10 := (Fr.kp (k := 2) f37 hk_a0 rfl).trans k11
        have q49 : (x10.toInt ≤ ln.toInt ∨ x10.toInt = pa.toInt) ∧ ((0 : Int32).toInt = 0 ∨ (x45.toInt = 0 ∧ x10.toInt ≤ ln.toInt)) := by
          have := (h19).1; have := (h19).2; have := (h24).1; have := (h24).2; have := (h_pa).1; have := (h_pa).2; have := (h23).1; have := (h23).2; have := (h44).1; have := (h44).2; have : (0 : Int32).toInt = 0 := (by decide); omega
        exact tw_endz hx hb hr hlocks hK hT hS hQ rfl (⟨(iv_mono (iv_c (c := 0) (n := 0) (by decide)) (by decide) (by decide)), ⟨x10, x45, k48, k46, (iv_mono h23 (by decide) (by decide)), h44, q49⟩⟩) dX10_goesOn_41
    · have q50 : ln.toInt ≤ x10.toInt := ti_nlt c21
      refine lv_iconst (v := 0) hx hb dX10_goesOn_23 (by decide) ?_
      have k51 : M4 a0 3 = fa := (Fr.kp (k := 3) f1 hk_a0 rfl).trans k_fa
      have q52 : (x10.toInt ≤ ln.toInt ∨ x10.toInt = pa.toInt) ∧ ((0 : Int32).toInt = 0 ∨ (fa.toInt = 0 ∧ x10.toInt ≤ ln.toInt)) := by
        have := (h19).1; have := (h19).2; have := (h_ln).1; have := (h_ln).2; have := (h_pa).1; have := (h_pa).2; have := (h9).1; have := (h9).2; have : (0 : Int32).toInt = 0 := (by decide); omega
      exact tw_endz hx hb hr hlocks hK hT hS hQ rfl (⟨(iv_mono (iv_c (c := 0) (n := 0) (by decide)) (by decide) (by decide)), ⟨x10, fa, k11, k51, h9, (iv_mono h19 (by decide) (by decide)), q52⟩⟩) dX10_goesOn_24
def Lt_X10_isDigitHere : WL := []
def LRt_X10_isDigitHere : WL := []
set_option maxRecDepth 100000 in
set_option maxHeartbeats 4000000 in
theorem t_X10_isDigitHere (l : Launch) (D : va_G) (cy : Nat → ClassId) (tx : (Nat → Nat) × (Nat → Nat)) (base Z : Nat) (K N : Nat → Nat) (Ma : MT) (Ra : RT) (Ja : JT) (hTy : Ty Z K N Ma Ra) (a0 : Nat) (hz_a0 : a0 < Z) (hk_a0 : K a0 = 9) (tb : Nat) (k_tb : Ra a0 0 = some tb) (ln : Int32) (k_ln : Ma a0 1 = ln) (h_ln : iv 0 400 ln) (pa : Int32) (k_pa : Ma a0 2 = pa) (h_pa : iv 0 1000 pa) : Met l yX10_isDigitHere [Cond.code yX10_isDigitHere cX10_isDigitHere 1 (some .boolean)] (md_rm 1 0 0) (va_Pc [.ref (base + a0)] (md_U D cy tx base Z K N Ma Ra Ja)) (mQi D cy tx base (fun r u => TP Z K N Lt_X10_isDigitHere LRt_X10_isDigitHere Ma Ra u ∧ (iv 0 1 r ∧ (¬ r = 0 → pa.toInt < ln.toInt)))) 0 0 (fun q => base ≤ q) := by
  refine tw_ofW (L := Lt_X10_isDigitHere) (LR := LRt_X10_isDigitHere) (by decide) (Nat.le_of_ble_eq_true rfl) hTy ?_
  intro p e s m args below meth c Q ls hx hb hr hlocks hown hml hW hK hT hS hQ hl
  have hl : lv_has ls 1 [(0, .ref (base + a0))] := hl
  obtain ⟨hz_tb, hk_tb, hn_tb⟩ := hTy.refn hz_a0 hk_a0 (show rtR 9 0 = (13, 400, 1) from rfl) k_tb
  have hn_tb := hn_tb (by decide)
  refine lv_aload_n hx hb dX10_isDigitHere_0 rfl (lv_at hl 0 rfl) ?_
  refine tw_getk hx hb hW hown hK hS f_X10_25_8 hz_a0 hk_a0 (v := pa) k_pa dX10_isDigitHere_1 ?_
  refine lv_aload_n hx hb dX10_isDigitHere_4 rfl (lv_at hl 0 rfl) ?_
  refine tw_getk hx hb hW hown hK hS f_X10_21_8 hz_a0 hk_a0 (v := ln) k_ln dX10_isDigitHere_5 ?_
  refine lv_icmp_ge (tgt := 43) hx hb dX10_isDigitHere_8 (by decide) (fun c1 => ?_) (fun c1 => ?_)
  · have q2 : ln.toInt ≤ pa.toInt := ti_le c1
    refine lv_iconst (v := 0) hx hb dX10_isDigitHere_43 (by decide) ?_
    exact tw_endz hx hb hr hlocks hK hT hS hQ rfl (⟨(iv_mono (iv_c (c := 0) (n := 0) (by decide)) (by decide) (by decide)), (fun h => absurd rfl h)⟩) dX10_isDigitHere_44
  · have q3 : pa.toInt < ln.toInt := ti_nle c1
    have h4 : iv 0 399 pa := iv_ltL (y := ln) h_pa h_ln q3 (by decide)
    have h5 : iv 1 400 ln := iv_gtL (y := pa) h_ln h_pa q3 (by decide)
    refine lv_aload_n hx hb dX10_isDigitHere_11 rfl (lv_at hl 0 rfl) ?_
    refine tw_getrk hx hb hW hown hK hS f_X10_9_8 hz_a0 hk_a0 (b := tb) k_tb dX10_isDigitHere_12 ?_
    refine lv_aload_n hx hb dX10_isDigitHere_15 rfl (lv_at hl 0 rfl) ?_
    refine tw_getk hx hb hW hown hK hS f_X10_25_8 hz_a0 hk_a0 (v := pa) k_pa dX10_isDigitHere_16 ?_
    refine tw_bald hx hb hK hS hz_tb hk_tb hn_tb h4 ⟨by decide, by decide⟩ dX10_isDigitHere_19 (fun x8 k7 => ?_)
    have h6 := iv_any x8
    refine lv_bipush (v := 48) hx hb dX10_isDigitHere_20 (by decide) ?_
    refine lv_icmp_lt (tgt := 43) hx hb dX10_isDigitHere_22 (by decide) (fun c9 => ?_) (fun c9 => ?_)
    · have q10 : x8.toInt < 48 := ti_lt c9
      have h11 : iv (-2147483648) 47 x8 := iv_ltL (y := 48) h6 (iv_c (c := 48) (n := 48) (by decide)) q10 (by decide)
      refine lv_iconst (v := 0) hx hb dX10_isDigitHere_43 (by decide) ?_
      exact tw_endz hx hb hr hlocks hK hT hS hQ rfl (⟨(iv_mono (iv_c (c := 0) (n := 0) (by decide)) (by decide) (by decide)), (fun h => absurd rfl h)⟩) dX10_isDigitHere_44
    · have q12 : 48 ≤ x8.toInt := ti_nlt c9
      have h13 : iv 48 2147483647 x8 := iv_geL (y := 48) h6 (iv_c (c := 48) (n := 48) (by decide)) q12 (by decide)
      refine lv_aload_n hx hb dX10_isDigitHere_25 rfl (lv_at hl 0 rfl) ?_
      refine tw_getrk hx hb hW hown hK hS f_X10_9_8 hz_a0 hk_a0 (b := tb) k_tb dX10_isDigitHere_26 ?_
      refine lv_aload_n hx hb dX10_isDigitHere_29 rfl (lv_at hl 0 rfl) ?_
      refine tw_getk hx hb hW hown hK hS f_X10_25_8 hz_a0 hk_a0 (v := pa) k_pa dX10_isDigitHere_30 ?_
      refine tw_balk hx hb hK hS hz_tb hk_tb hn_tb h4 ⟨by decide, by decide⟩ (v := x8) k7 dX10_isDigitHere_33 ?_
      refine lv_bipush (v := 57) hx hb dX10_isDigitHere_34 (by decide) ?_
      refine lv_icmp_gt (tgt := 43) hx hb dX10_isDigitHere_36 (by decide) (fun c14 => ?_) (fun c14 => ?_)
      · have q15 : 57 < x8.toInt := ti_lt c14
        have h16 : iv 58 2147483647 x8 := iv_gtL (y := 57) h13 (iv_c (c := 57) (n := 57) (by decide)) q15 (by decide)
        refine lv_iconst (v := 0) hx hb dX10_isDigitHere_43 (by decide) ?_
        exact tw_endz hx hb hr hlocks hK hT hS hQ rfl (⟨(iv_mono (iv_c (c := 0) (n := 0) (by decide)) (by decide) (by decide)), (fun h => absurd rfl h)⟩) dX10_isDigitHere_44
      · have q17 : x8.toInt ≤ 57 := ti_nlt c14
        have h18 : iv 48 57 x8 := iv_leL (y := 57) h13 (iv_c (c := 57) (n := 57) (by decide)) q17 (by decide)
        refine lv_iconst (v := 1) hx hb dX10_isDigitHere_39 (by decide) ?_
        refine lv_goto (tgt := 44) hx hb dX10_isDigitHere_40 (by decide) ?_
        exact tw_endz hx hb hr hlocks hK hT hS hQ rfl (⟨(iv_mono (iv_c (c := 1) (n := 1) (by decide)) (by decide) (by decide)), (fun _ => by omega)⟩) dX10_isDigitHere_44
def Lt_X10_isDigitHere_1 : WL := []
def LRt_X10_isDigitHere_1 : WL := []
set_option maxRecDepth 100000 in
set_option maxHeartbeats 4000000 in
theorem t_X10_isDigitHere_1 (l : Launch) (D : va_G) (cy : Nat → ClassId) (tx : (Nat → Nat) × (Nat → Nat)) (base Z : Nat) (K N : Nat → Nat) (Ma : MT) (Ra : RT) (Ja : JT) (hTy : Ty Z K N Ma Ra) (a0 : Nat) (hz_a0 : a0 < Z) (hk_a0 : K a0 = 3) (tb : Nat) (k_tb : Ra a0 0 = some tb) (ln : Int32) (k_ln : Ma a0 1 = ln) (h_ln : iv 0 400 ln) (pa : Int32) (k_pa : Ma a0 2 = pa) (h_pa : iv 0 1000 pa) : Met l yX10_isDigitHere [Cond.code yX10_isDigitHere cX10_isDigitHere 1 (some .boolean)] (md_rm 1 0 0) (va_Pc [.ref (base + a0)] (md_U D cy tx base Z K N Ma Ra Ja)) (mQi D cy tx base (fun r u => TP Z K N Lt_X10_isDigitHere_1 LRt_X10_isDigitHere_1 Ma Ra u ∧ (iv 0 1 r ∧ (¬ r = 0 → pa.toInt < ln.toInt)))) 0 0 (fun q => base ≤ q) := by
  refine tw_ofW (L := Lt_X10_isDigitHere_1) (LR := LRt_X10_isDigitHere_1) (by decide) (Nat.le_of_ble_eq_true rfl) hTy ?_
  intro p e s m args below meth c Q ls hx hb hr hlocks hown hml hW hK hT hS hQ hl
  have hl : lv_has ls 1 [(0, .ref (base + a0))] := hl
  obtain ⟨hz_tb, hk_tb, hn_tb⟩ := hTy.refn hz_a0 hk_a0 (show rtR 3 0 = (13, 400, 1) from rfl) k_tb
  have hn_tb := hn_tb (by decide)
  refine lv_aload_n hx hb dX10_isDigitHere_0 rfl (lv_at hl 0 rfl) ?_
  refine tw_getk hx hb hW hown hK hS f_X10_25_2 hz_a0 hk_a0 (v := pa) k_pa dX10_isDigitHere_1 ?_
  refine lv_aload_n hx hb dX10_isDigitHere_4 rfl (lv_at hl 0 rfl) ?_
  refine tw_getk hx hb hW hown hK hS f_X10_21_2 hz_a0 hk_a0 (v := ln) k_ln dX10_isDigitHere_5 ?_
  refine lv_icmp_ge (tgt := 43) hx hb dX10_isDigitHere_8 (by decide) (fun c1 => ?_) (fun c1 => ?_)
  · have q2 : ln.toInt ≤ pa.toInt := ti_le c1
    refine lv_iconst (v := 0) hx hb dX10_isDigitHere_43 (by decide) ?_
    exact tw_endz hx hb hr hlocks hK hT hS hQ rfl (⟨(iv_mono (iv_c (c := 0) (n := 0) (by decide)) (by decide) (by decide)), (fun h => absurd rfl h)⟩) dX10_isDigitHere_44
  · have q3 : pa.toInt < ln.toInt := ti_nle c1
    have h4 : iv 0 399 pa := iv_ltL (y := ln) h_pa h_ln q3 (by decide)
    have h5 : iv 1 400 ln := iv_gtL (y := pa) h_ln h_pa q3 (by decide)
    refine lv_aload_n hx hb dX10_isDigitHere_11 rfl (lv_at hl 0 rfl) ?_
    refine tw_getrk hx hb hW hown hK hS f_X10_9_2 hz_a0 hk_a0 (b := tb) k_tb dX10_isDigitHere_12 ?_
    refine lv_aload_n hx hb dX10_isDigitHere_15 rfl (lv_at hl 0 rfl) ?_
    refine tw_getk hx hb hW hown hK hS f_X10_25_2 hz_a0 hk_a0 (v := pa) k_pa dX10_isDigitHere_16 ?_
    refine tw_bald hx hb hK hS hz_tb hk_tb hn_tb h4 ⟨by decide, by decide⟩ dX10_isDigitHere_19 (fun x8 k7 => ?_)
    have h6 := iv_any x8
    refine lv_bipush (v := 48) hx hb dX10_isDigitHere_20 (by decide) ?_
    refine lv_icmp_lt (tgt := 43) hx hb dX10_isDigitHere_22 (by decide) (fun c9 => ?_) (fun c9 => ?_)
    · have q10 : x8.toInt < 48 := ti_lt c9
      have h11 : iv (-2147483648) 47 x8 := iv_ltL (y := 48) h6 (iv_c (c := 48) (n := 48) (by decide)) q10 (by decide)
      refine lv_iconst (v := 0) hx hb dX10_isDigitHere_43 (by decide) ?_
      exact tw_endz hx hb hr hlocks hK hT hS hQ rfl (⟨(iv_mono (iv_c (c := 0) (n := 0) (by decide)) (by decide) (by decide)), (fun h => absurd rfl h)⟩) dX10_isDigitHere_44
    · have q12 : 48 ≤ x8.toInt := ti_nlt c9
      have h13 : iv 48 2147483647 x8 := iv_geL (y := 48) h6 (iv_c (c := 48) (n := 48) (by decide)) q12 (by decide)
      refine lv_aload_n hx hb dX10_isDigitHere_25 rfl (lv_at hl 0 rfl) ?_
      refine tw_getrk hx hb hW hown hK hS f_X10_9_2 hz_a0 hk_a0 (b := tb) k_tb dX10_isDigitHere_26 ?_
      refine lv_aload_n hx hb dX10_isDigitHere_29 rfl (lv_at hl 0 rfl) ?_
      refine tw_getk hx hb hW hown hK hS f_X10_25_2 hz_a0 hk_a0 (v := pa) k_pa dX10_isDigitHere_30 ?_
      refine tw_balk hx hb hK hS hz_tb hk_tb hn_tb h4 ⟨by decide, by decide⟩ (v := x8) k7 dX10_isDigitHere_33 ?_
      refine lv_bipush (v := 57) hx hb dX10_isDigitHere_34 (by decide) ?_
      refine lv_icmp_gt (tgt := 43) hx hb dX10_isDigitHere_36 (by decide) (fun c14 => ?_) (fun c14 => ?_)
      · have q15 : 57 < x8.toInt := ti_lt c14
        have h16 : iv 58 2147483647 x8 := iv_gtL (y := 57) h13 (iv_c (c := 57) (n := 57) (by decide)) q15 (by decide)
        refine lv_iconst (v := 0) hx hb dX10_isDigitHere_43 (by decide) ?_
        exact tw_endz hx hb hr hlocks hK hT hS hQ rfl (⟨(iv_mono (iv_c (c := 0) (n := 0) (by decide)) (by decide) (by decide)), (fun h => absurd rfl h)⟩) dX10_isDigitHere_44
      · have q17 : x8.toInt ≤ 57 := ti_nlt c14
        have h18 : iv 48 57 x8 := iv_leL (y := 57) h13 (iv_c (c := 57) (n := 57) (by decide)) q17 (by decide)
        refine lv_iconst (v := 1) hx hb dX10_isDigitHere_39 (by decide) ?_
        refine lv_goto (tgt := 44) hx hb dX10_isDigitHere_40 (by decide) ?_
        exact tw_endz hx hb hr hlocks hK hT hS hQ rfl (⟨(iv_mono (iv_c (c := 1) (n := 1) (by decide)) (by decide) (by decide)), (fun _ => by omega)⟩) dX10_isDigitHere_44
def Lt_X10_number : WL := [(9, 2, 4)]
def LRt_X10_number : WL := []
set_option maxRecDepth 100000 in
set_option maxHeartbeats 4000000 in
theorem t_X10_number (l : Launch) (D : va_G) (cy : Nat → ClassId) (tx : (Nat → Nat) × (Nat → Nat)) (base Z : Nat) (K N : Nat → Nat) (Ma : MT) (Ra : RT) (Ja : JT) (hTy : Ty Z K N Ma Ra) (a0 : Nat) (hz_a0 : a0 < Z) (hk_a0 : K a0 = 9) (a1 : Int32) (h_a1 : iv 0 0 a1) (a2 : Int32) (h_a2 : iv 99999 99999 a2) (tb : Nat) (k_tb : Ra a0 0 = some tb) (ln : Int32) (k_ln : Ma a0 1 = ln) (h_ln : iv 0 400 ln) (pa : Int32) (k_pa : Ma a0 2 = pa) (h_pa : iv 0 1000 pa) (fa : Int32) (k_fa : Ma a0 3 = fa) (h_fa : iv (-2147483648) 2147483647 fa) : Met l yX10_number [Cond.code yX10_number cX10_number 5 (some .int)] (md_rm 2 0 0) (va_Pc [.ref (base + a0), .int a1, .int a2] (md_U D cy tx base Z K N Ma Ra Ja)) (mQi D cy tx base (fun r u => TP Z K N Lt_X10_number LRt_X10_number Ma Ra u ∧ (iv (-2147483648) 2147483647 r ∧ (∃ x0 x1 : Int32, u.2.2.2.1 a0 2 = x0 ∧ u.2.2.2.1 a0 3 = x1 ∧ iv 0 1000 x0 ∧ iv (-2147483648) 2147483647 x1 ∧ ((pa.toInt ≤ x0.toInt ∧ (x0.toInt ≤ ln.toInt ∨ x0.toInt = pa.toInt)) ∧ (¬ x1.toInt = 0 ∨ fa.toInt = 0)))))) 0 0 (fun q => base ≤ q) := by
  refine tw_ofW (L := Lt_X10_number) (LR := LRt_X10_number) (by decide) (Nat.le_of_ble_eq_true rfl) hTy ?_
  intro p e s m args below meth c Q ls hx hb hr hlocks hown hml hW hK hT hS hQ hl
  have hl : lv_has ls 5 [(0, .ref (base + a0)), (1, .int a1), (2, .int a2)] := hl
  obtain ⟨hz_tb, hk_tb, hn_tb⟩ := hTy.refn hz_a0 hk_a0 (show rtR 9 0 = (13, 400, 1) from rfl) k_tb
  have hn_tb := hn_tb (by decide)
  refine lv_aload_n hx hb dX10_number_0 rfl (lv_at hl 0 rfl) ?_
  refine tw_getk hx hb hW hown hK hS f_X10_25_8 hz_a0 hk_a0 (v := pa) k_pa dX10_number_1 ?_
  refine lv_istore_n (lv' := [(3, .int pa), (0, .ref (base + a0)), (1, .int a1), (2, .int a2)]) hx hb dX10_number_4 rfl hl (by decide) rfl (fun ls hl => ?_)
  refine lv_iconst (v := 0) hx hb dX10_number_5 (by decide) ?_
  refine lv_istore (lv' := [(4, .int 0), (3, .int pa), (0, .ref (base + a0)), (1, .int a1), (2, .int a2)]) hx hb dX10_number_6 hl (by decide) rfl (fun ls hl => ?_)
  have W8_2 : ∀ (n_2 : Nat) (x1 : Int32) (x7 : Int32) (x9 : Int32) (M2 : MT) (R3 : RT) (J4 : JT) (H : Heap) (locs : List Loc) (ls : Array Slot) (h_x1 : iv (-2147483648) 2147483647 x1) (h_x7 : iv 0 1000 x7) (k8 : M2 a0 2 = x7) (h_x9 : iv (-2147483648) 2147483647 x9) (k10 : M2 a0 3 = x9) (w0_2 : pa.toInt ≤ x7.toInt ∧ (x7.toInt ≤ ln.toInt ∨ x7.toInt = pa.toInt)) (w1_2 : x9.toInt = fa.toInt) (hm_2 : 1000 - x7.toInt < (n_2 : Int)) (hS : SB D cy base Z K N Lt_X10_number LRt_X10_number Ma Ra M2 R3 J4 s H locs) (hl : lv_has ls 5 [(4, .int x1), (3, .int pa), (0, .ref (base + a0)), (1, .int a1), (2, .int a2)]), W p l e (md_rm 2 0 0) s m args below meth c H locs 0 0 Q (F0 m 8 ls []) := by
    intro n_2
    induction n_2 with
    | zero =>
      intro x1 x7 x9 M2 R3 J4 H locs ls h_x1 h_x7 k8 h_x9 k10 w0_2 w1_2 hm_2 hS hl
      exfalso
      have := (h_a1).1; have := (h_a1).2; have := (h_a2).1; have := (h_a2).2; have := (h_fa).1; have := (h_fa).2; have := (h_ln).1; have := (h_ln).2; have := (h_pa).1; have := (h_pa).2; have := (h_x7).1; have := (h_x7).2; omega
    | succ n_2 ih_2 =>
      intro x1 x7 x9 M2 R3 J4 H locs ls h_x1 h_x7 k8 h_x9 k10 w0_2 w1_2 hm_2 hS hl
      have f5 := hS.2.2.1
      have g6 := hS.2.2.2
      refine lv_aload_n hx hb dX10_number_8 rfl (lv_at hl 2 rfl) ?_
      refine tw_getk hx hb hW hown hK hS f_X10_25_8 hz_a0 hk_a0 (v := x7) k8 dX10_number_9 ?_
      refine lv_aload_n hx hb dX10_number_12 rfl (lv_at hl 2 rfl) ?_
      have k11 : M2 a0 1 = ln := (Fr.kp (k := 1) f5 hk_a0 rfl).trans k_ln
      refine tw_getk hx hb hW hown hK hS f_X10_21_8 hz_a0 hk_a0 (v := ln) k11 dX10_number_13 ?_
      refine lv_icmp_ge (tgt := 69) hx hb dX10_number_16 (by decide) (fun c12 => ?_) (fun c12 => ?_)
      · have q13 : ln.toInt ≤ x7.toInt := ti_le c12
        refine lv_aload_n hx hb dX10_number_69 rfl (lv_at hl 2 rfl) ?_
        refine tw_getk hx hb hW hown hK hS f_X10_25_8 hz_a0 hk_a0 (v := x7) k8 dX10_number_70 ?_
        refine lv_iload_n hx hb dX10_number_73 rfl (lv_at hl 1 rfl) ?_
        refine lv_icmp_ne (tgt := 86) hx hb dX10_number_74 (by decide) (fun c14 => ?_) (fun c14 => ?_)
        · have q15 : ¬ x7.toInt = pa.toInt := ti_ne c14
          refine lv_aload_n hx hb dX10_number_86 rfl (lv_at hl 2 rfl) ?_
          refine tw_getk hx hb hW hown hK hS f_X10_25_8 hz_a0 hk_a0 (v := x7) k8 dX10_number_87 ?_
          refine lv_iload_n hx hb dX10_number_90 rfl (lv_at hl 1 rfl) ?_
          refine tw_isub (lo := (-1000)) (hi := 1000) hx hb h_x7 h_pa ⟨by decide, by decide⟩ ⟨by decide, by decide⟩ dX10_number_91 (fun x18 e17 h16 => ?_)
          refine lv_iconst (v := 5) hx hb dX10_number_92 (by decide) ?_
          refine lv_icmp_gt (tgt := 108) hx hb dX10_number_93 (by decide) (fun c19 => ?_) (fun c19 => ?_)
          · have q20 : 5 < x18.toInt := ti_lt c19
            have h21 : iv 6 1000 x18 := iv_gtL (y := 5) h16 (iv_c (c := 5) (n := 5) (by decide)) q20 (by decide)
            refine lv_aload_n hx hb dX10_number_108 rfl (lv_at hl 2 rfl) ?_
            refine lv_iload_n hx hb dX10_number_109 rfl (lv_at hl 1 rfl) ?_
            refine lv_iconst (v := 1) hx hb dX10_number_110 (by decide) ?_
            refine tw_gov hS (md_runU (As := [.int pa, .int 1]) (rest := []) hx hb hml hown hW hK hT hS.1 (t_X10_fail l D cy tx base Z K N M2 R3 J4 hS.2.1 a0 hz_a0 hk_a0 pa h_pa 1 (iv_mono (iv_c (c := 1) (n := 1) (by decide)) (by decide) (by decide))) s_X10_50_X8 ⟨rfl, rfl, ⟨Nat.le_of_ble_eq_true rfl, Nat.le_of_ble_eq_true rfl⟩, ⟨Nat.le_of_ble_eq_true rfl, Nat.le_of_ble_eq_true rfl⟩⟩ hz_a0 hk_a0 (by decide) rfl rfl hl.1 rfl (Nat.le_of_ble_eq_true rfl) dX10_number_111) rfl rfl (fun H locs M25 R26 J24 hS f22 g23 E27 => ?_)
            have eR26 := Fr.nil g23 rfl
            subst eR26
            have p28 := E27
            clear E27
            obtain ⟨x30, k31, h29, q32⟩ := p28
            have k31 : M25 a0 3 = x30 := k31
            refine lv_iload hx hb dX10_number_114 (lv_at hl 0 rfl) ?_
            have k33 : M25 a0 2 = x7 := (Fr.kp (k := 2) f22 hk_a0 rfl).trans k8
            have q34 : (pa.toInt ≤ x7.toInt ∧ (x7.toInt ≤ ln.toInt ∨ x7.toInt = pa.toInt)) ∧ (¬ x30.toInt = 0 ∨ fa.toInt = 0) := by
              have := (h_a1).1; have := (h_a1).2; have := (h_a2).1; have := (h_a2).2; have := (h_fa).1; have := (h_fa).2; have := (h_ln).1; have := (h_ln).2; have := (h_pa).1; have := (h_pa).2; have := (h21).1; have := (h21).2; have := (h29).1; have := (h29).2; have := (h_x7).1; have := (h_x7).2; have := (h_x9).1; have := (h_x9).2; omega
            exact tw_endi hx hb hr hlocks hK hT hS hQ (⟨h_x1, ⟨x7, x30, k33, k31, h_x7, h29, q34⟩⟩) dX10_number_116
          · have q35 : x18.toInt ≤ 5 := ti_nlt c19
            have h36 : iv (-1000) 5 x18 := iv_leL (y := 5) h16 (iv_c (c := 5) (n := 5) (by decide)) q35 (by decide)
            refine lv_iload hx hb dX10_number_96 (lv_at hl 0 rfl) ?_
            refine lv_iload_n hx hb dX10_number_98 rfl (lv_at hl 3 rfl) ?_
            refine lv_icmp_lt (tgt := 108) hx hb dX10_number_99 (by decide) (fun c37 => ?_) (fun c37 => ?_)
            · have q38 : x1.toInt < a1.toInt := ti_lt c37
              have h39 : iv (-2147483648) (-1) x1 := iv_ltL (y := a1) h_x1 h_a1 q38 (by decide)
              refine lv_aload_n hx hb dX10_number_108 rfl (lv_at hl 2 rfl) ?_
              refine lv_iload_n hx hb dX10_number_109 rfl (lv_at hl 1 rfl) ?_
              refine lv_iconst (v := 1) hx hb dX10_number_110 (by decide) ?_
              refine tw_gov hS (md_runU (As := [.int pa, .int 1]) (rest := []) hx hb hml hown hW hK hT hS.1 (t_X10_fail l D cy tx base Z K N M2 R3 J4 hS.2.1 a0 hz_a0 hk_a0 pa h_pa 1 (iv_mono (iv_c (c := 1) (n := 1) (by decide)) (by decide) (by decide))) s_X10_50_X8 ⟨rfl, rfl, ⟨Nat.le_of_ble_eq_true rfl, Nat.le_of_ble_eq_true rfl⟩, ⟨Nat.le_of_ble_eq_true rfl, Nat.le_of_ble_eq_true rfl⟩⟩ hz_a0 hk_a0 (by decide) rfl rfl hl.1 rfl (Nat.le_of_ble_eq_true rfl) dX10_number_111) rfl rfl (fun H locs M43 R44 J42 hS f40 g41 E45 => ?_)
              have eR44 := Fr.nil g41 rfl
              subst eR44
              have p46 := E45
              clear E45
              obtain ⟨x48, k49, h47, q50⟩ := p46
              have k49 : M43 a0 3 = x48 := k49
              refine lv_iload hx hb dX10_number_114 (lv_at hl 0 rfl) ?_
              have k51 : M43 a0 2 = x7 := (Fr.kp (k := 2) f40 hk_a0 rfl).trans k8
              have q52 : (pa.toInt ≤ x7.toInt ∧ (x7.toInt ≤ ln.toInt ∨ x7.toInt = pa.toInt)) ∧ (¬ x48.toInt = 0 ∨ fa.toInt = 0) := by
                have := (h_a1).1; have := (h_a1).2; have := (h_a2).1; have := (h_a2).2; have := (h_fa).1; have := (h_fa).2; have := (h_ln).1; have := (h_ln).2; have := (h_pa).1; have := (h_pa).2; have := (h36).1; have := (h36).2; have := (h47).1; have := (h47).2; have := (h_x7).1; have := (h_x7).2; have := (h_x9).1; have := (h_x9).2; omega
              exact tw_endi hx hb hr hlocks hK hT hS hQ (⟨(iv_mono h39 (by decide) (by decide)), ⟨x7, x48, k51, k49, h_x7, h47, q52⟩⟩) dX10_number_116
            · have q53 : a1.toInt ≤ x1.toInt := ti_nlt c37
              have h54 : iv 0 2147483647 x1 := iv_geL (y := a1) h_x1 h_a1 q53 (by decide)
              refine lv_iload hx hb dX10_number_102 (lv_at hl 0 rfl) ?_
              refine lv_iload_n hx hb dX10_number_104 rfl (lv_at hl 4 rfl) ?_
              refine lv_icmp_le (tgt := 114) hx hb dX10_number_105 (by decide) (fun c55 => ?_) (fun c55 => ?_)
              · have q56 : x1.toInt ≤ a2.toInt := ti_le c55
                have h57 : iv 0 99999 x1 := iv_leL (y := a2) h54 h_a2 q56 (by decide)
                refine lv_iload hx hb dX10_number_114 (lv_at hl 0 rfl) ?_
                have q58 : (pa.toInt ≤ x7.toInt ∧ (x7.toInt ≤ ln.toInt ∨ x7.toInt = pa.toInt)) ∧ (¬ x9.toInt = 0 ∨ fa.toInt = 0) := by
                  have := (h_a1).1; have := (h_a1).2; have := (h_a2).1; have := (h_a2).2; have := (h_fa).1; have := (h_fa).2; have := (h_ln).1; have := (h_ln).2; have := (h_pa).1; have := (h_pa).2; have := (h36).1; have := (h36).2; have := (h_x7).1; have := (h_x7).2; have := (h_x9).1; have := (h_x9).2; omega
                exact tw_endi hx hb hr hlocks hK hT hS hQ (⟨(iv_mono h57 (by decide) (by decide)), ⟨x7, x9, k8, k10, h_x7, h_x9, q58⟩⟩) dX10_number_116
              · have q59 : a2.toInt < x1.toInt := ti_nle c55
                have h60 : iv 100000 2147483647 x1 := iv_gtL (y := a2) h54 h_a2 q59 (by decide)
                refine lv_aload_n hx hb dX10_number_108 rfl (lv_at hl 2 rfl) ?_
                refine lv_iload_n hx hb dX10_number_109 rfl (lv_at hl 1 rfl) ?_
                refine lv_iconst (v := 1) hx hb dX10_number_110 (by decide) ?_
                refine tw_gov hS (md_runU (As := [.int pa, .int 1]) (rest := []) hx hb hml hown hW hK hT hS.1 (t_X10_fail l D cy tx base Z K N M2 R3 J4 hS.2.1 a0 hz_a0 hk_a0 pa h_pa 1 (iv_mono (iv_c (c := 1) (n := 1) (by decide)) (by decide) (by decide))) s_X10_50_X8 ⟨rfl, rfl, ⟨Nat.le_of_ble_eq_true rfl, Nat.le_of_ble_eq_true rfl⟩, ⟨Nat.le_of_ble_eq_true rfl, Nat.le_of_ble_eq_true rfl⟩⟩ hz_a0 hk_a0 (by decide) rfl rfl hl.1 rfl (Nat.le_of_ble_eq_true rfl) dX10_number_111) rfl rfl (fun H locs M64 R65 J63 hS f61 g62 E66 => ?_)
                have eR65 := Fr.nil g62 rfl
                subst eR65
                have p67 := E66
                clear E66
                obtain ⟨x69, k70, h68, q71⟩ := p67
                have k70 : M64 a0 3 = x69 := k70
                refine lv_iload hx hb dX10_number_114 (lv_at hl 0 rfl) ?_
                have k72 : M64 a0 2 = x7 := (Fr.kp (k := 2) f61 hk_a0 rfl).trans k8
                have q73 : (pa.toInt ≤ x7.toInt ∧ (x7.toInt ≤ ln.toInt ∨ x7.toInt = pa.toInt)) ∧ (¬ x69.toInt = 0 ∨ fa.toInt = 0) := by
                  have := (h_a1).1; have := (h_a1).2; have := (h_a2).1; have := (h_a2).2; have := (h_fa).1; have := (h_fa).2; have := (h_ln).1; have := (h_ln).2; have := (h_pa).1; have := (h_pa).2; have := (h36).1; have := (h36).2; have := (h68).1; have := (h68).2; have := (h_x7).1; have := (h_x7).2; have := (h_x9).1; have := (h_x9).2; omega
                exact tw_endi hx hb hr hlocks hK hT hS hQ (⟨(iv_mono h60 (by decide) (by decide)), ⟨x7, x69, k72, k70, h_x7, h68, q73⟩⟩) dX10_number_116
        · have q74 : x7.toInt = pa.toInt := ti_eq c14
          refine lv_aload_n hx hb dX10_number_77 rfl (lv_at hl 2 rfl) ?_
          refine lv_iload_n hx hb dX10_number_78 rfl (lv_at hl 1 rfl) ?_
          refine lv_iconst (v := 0) hx hb dX10_number_79 (by decide) ?_
          refine tw_gov hS (md_runU (As := [.int pa, .int 0]) (rest := []) hx hb hml hown hW hK hT hS.1 (t_X10_fail l D cy tx base Z K N M2 R3 J4 hS.2.1 a0 hz_a0 hk_a0 pa h_pa 0 (iv_mono (iv_c (c := 0) (n := 0) (by decide)) (by decide) (by decide))) s_X10_50_X8 ⟨rfl, rfl, ⟨Nat.le_of_ble_eq_true rfl, Nat.le_of_ble_eq_true rfl⟩, ⟨Nat.le_of_ble_eq_true rfl, Nat.le_of_ble_eq_true rfl⟩⟩ hz_a0 hk_a0 (by decide) rfl rfl hl.1 rfl (Nat.le_of_ble_eq_true rfl) dX10_number_80) rfl rfl (fun H locs M78 R79 J77 hS f75 g76 E80 => ?_)
          have eR79 := Fr.nil g76 rfl
          subst eR79
          have p81 := E80
          clear E80
          obtain ⟨x83, k84, h82, q85⟩ := p81
          have k84 : M78 a0 3 = x83 := k84
          refine lv_goto (tgt := 114) hx hb dX10_number_83 (by decide) ?_
          refine lv_iload hx hb dX10_number_114 (lv_at hl 0 rfl) ?_
          have k86 : M78 a0 2 = x7 := (Fr.kp (k := 2) f75 hk_a0 rfl).trans k8
          have q87 : (pa.toInt ≤ x7.toInt ∧ (x7.toInt ≤ ln.toInt ∨ x7.toInt = pa.toInt)) ∧ (¬ x83.toInt = 0 ∨ fa.toInt = 0) := by
            have := (h_a1).1; have := (h_a1).2; have := (h_a2).1; have := (h_a2).2; have := (h_fa).1; have := (h_fa).2; have := (h_ln).1; have := (h_ln).2; have := (h_pa).1; have := (h_pa).2; have := (h_x7).1; have := (h_x7).2; have := (h82).1; have := (h82).2; have := (h_x9).1; have := (h_x9).2; omega
          exact tw_endi hx hb hr hlocks hK hT hS hQ (⟨h_x1, ⟨x7, x83, k86, k84, h_x7, h82, q87⟩⟩) dX10_number_116
      · have q88 : x7.toInt < ln.toInt := ti_nle c12
        have h89 : iv 0 399 x7 := iv_ltL (y := ln) h_x7 h_ln q88 (by decide)
        have h90 : iv 1 400 ln := iv_gtL (y := x7) h_ln h_x7 q88 (by decide)
        refine lv_aload_n hx hb dX10_number_19 rfl (lv_at hl 2 rfl) ?_
        have k91 : R3 a0 0 = some tb := (Fr.kp (k := 0) g6 hk_a0 rfl).trans k_tb
        have k92 : M2 a0 1 = ln := (Fr.kp (k := 1) f5 hk_a0 rfl).trans k_ln
        refine tw_goi hS (md_runU (As := []) (rest := []) hx hb hml hown hW hK hT hS.1 (t_X10_isDigitHere l D cy tx base Z K N M2 R3 J4 hS.2.1 a0 hz_a0 hk_a0 tb k91 ln k92 (iv_mono h90 (by decide) (by decide)) x7 k8 (iv_mono h89 (by decide) (by decide))) s_X10_46_X8 ⟨rfl, rfl, ⟨Nat.le_of_ble_eq_true rfl, Nat.le_of_ble_eq_true rfl⟩, ⟨Nat.le_of_ble_eq_true rfl, Nat.le_of_ble_eq_true rfl⟩⟩ hz_a0 hk_a0 (by decide) rfl rfl hl.1 rfl (Nat.le_of_ble_eq_true rfl) dX10_number_20) rfl rfl (fun x99 H locs M96 R97 J95 hS f93 g94 E98 => ?_)
        have eM96 := Fr.nil f93 rfl
        subst eM96
        have eR97 := Fr.nil g94 rfl
        subst eR97
        obtain ⟨h_x99, p100⟩ := E98
        refine lv_if_eq (tgt := 69) hx hb dX10_number_23 (by decide) (fun c101 => ?_) (fun c101 => ?_)
        · have q102 : x99.toInt = 0 := ti_eq c101
          have h103 : iv 0 0 x99 := ⟨by have := (h_x99).1; have := ((iv_c (c := 0) (n := 0) (by decide))).1; omega, by have := (h_x99).2; have := ((iv_c (c := 0) (n := 0) (by decide))).2; omega⟩
          refine lv_aload_n hx hb dX10_number_69 rfl (lv_at hl 2 rfl) ?_
          refine tw_getk hx hb hW hown hK hS f_X10_25_8 hz_a0 hk_a0 (v := x7) k8 dX10_number_70 ?_
          refine lv_iload_n hx hb dX10_number_73 rfl (lv_at hl 1 rfl) ?_
          refine lv_icmp_ne (tgt := 86) hx hb dX10_number_74 (by decide) (fun c104 => ?_) (fun c104 => ?_)
          · have q105 : ¬ x7.toInt = pa.toInt := ti_ne c104
            refine lv_aload_n hx hb dX10_number_86 rfl (lv_at hl 2 rfl) ?_
            refine tw_getk hx hb hW hown hK hS f_X10_25_8 hz_a0 hk_a0 (v := x7) k8 dX10_number_87 ?_
            refine lv_iload_n hx hb dX10_number_90 rfl (lv_at hl 1 rfl) ?_
            refine tw_isub (lo := (-1000)) (hi := 399) hx hb h89 h_pa ⟨by decide, by decide⟩ ⟨by decide, by decide⟩ dX10_number_91 (fun x108 e107 h106 => ?_)
            refine lv_iconst (v := 5) hx hb dX10_number_92 (by decide) ?_
            refine lv_icmp_gt (tgt := 108) hx hb dX10_number_93 (by decide) (fun c109 => ?_) (fun c109 => ?_)
            · have q110 : 5 < x108.toInt := ti_lt c109
              have h111 : iv 6 399 x108 := iv_gtL (y := 5) h106 (iv_c (c := 5) (n := 5) (by decide)) q110 (by decide)
              refine lv_aload_n hx hb dX10_number_108 rfl (lv_at hl 2 rfl) ?_
              refine lv_iload_n hx hb dX10_number_109 rfl (lv_at hl 1 rfl) ?_
              refine lv_iconst (v := 1) hx hb dX10_number_110 (by decide) ?_
              refine tw_gov hS (md_runU (As := [.int pa, .int 1]) (rest := []) hx hb hml hown hW hK hT hS.1 (t_X10_fail l D cy tx base Z K N M2 R3 J95 hS.2.1 a0 hz_a0 hk_a0 pa h_pa 1 (iv_mono (iv_c (c := 1) (n := 1) (by decide)) (by decide) (by decide))) s_X10_50_X8 ⟨rfl, rfl, ⟨Nat.le_of_ble_eq_true rfl, Nat.le_of_ble_eq_true rfl⟩, ⟨Nat.le_of_ble_eq_true rfl, Nat.le_of_ble_eq_true rfl⟩⟩ hz_a0 hk_a0 (by decide) rfl rfl hl.1 rfl (Nat.le_of_ble_eq_true rfl) dX10_number_111) rfl rfl (fun H locs M115 R116 J114 hS f112 g113 E117 => ?_)
              have eR116 := Fr.nil g113 rfl
              subst eR116
              have p118 := E117
              clear E117
              obtain ⟨x120, k121, h119, q122⟩ := p118
              have k121 : M115 a0 3 = x120 := k121
              refine lv_iload hx hb dX10_number_114 (lv_at hl 0 rfl) ?_
              have k123 : M115 a0 2 = x7 := (Fr.kp (k := 2) f112 hk_a0 rfl).trans k8
              have q124 : (pa.toInt ≤ x7.toInt ∧ (x7.toInt ≤ ln.toInt ∨ x7.toInt = pa.toInt)) ∧ (¬ x120.toInt = 0 ∨ fa.toInt = 0) := by
                have := (h_a1).1; have := (h_a1).2; have := (h_a2).1; have := (h_a2).2; have := (h_fa).1; have := (h_fa).2; have := (h90).1; have := (h90).2; have := (h_pa).1; have := (h_pa).2; have := (h111).1; have := (h111).2; have := (h119).1; have := (h119).2; have := (h89).1; have := (h89).2; have := (h_x9).1; have := (h_x9).2; omega
              exact tw_endi hx hb hr hlocks hK hT hS hQ (⟨h_x1, ⟨x7, x120, k123, k121, (iv_mono h89 (by decide) (by decide)), h119, q124⟩⟩) dX10_number_116
            · have q125 : x108.toInt ≤ 5 := ti_nlt c109
              have h126 : iv (-1000) 5 x108 := iv_leL (y := 5) h106 (iv_c (c := 5) (n := 5) (by decide)) q125 (by decide)
              refine lv_iload hx hb dX10_number_96 (lv_at hl 0 rfl) ?_
              refine lv_iload_n hx hb dX10_number_98 rfl (lv_at hl 3 rfl) ?_
              refine lv_icmp_lt (tgt := 108) hx hb dX10_number_99 (by decide) (fun c127 => ?_) (fun c127 => ?_)
              · have q128 : x1.toInt < a1.toInt := ti_lt c127
                have h129 : iv (-2147483648) (-1) x1 := iv_ltL (y := a1) h_x1 h_a1 q128 (by decide)
                refine lv_aload_n hx hb dX10_number_108 rfl (lv_at hl 2 rfl) ?_
                refine lv_iload_n hx hb dX10_number_109 rfl (lv_at hl 1 rfl) ?_
                refine lv_iconst (v := 1) hx hb dX10_number_110 (by decide) ?_
                refine tw_gov hS (md_runU (As := [.int pa, .int 1]) (rest := []) hx hb hml hown hW hK hT hS.1 (t_X10_fail l D cy tx base Z K N M2 R3 J95 hS.2.1 a0 hz_a0 hk_a0 pa h_pa 1 (iv_mono (iv_c (c := 1) (n := 1) (by decide)) (by decide) (by decide))) s_X10_50_X8 ⟨rfl, rfl, ⟨Nat.le_of_ble_eq_true rfl, Nat.le_of_ble_eq_true rfl⟩, ⟨Nat.le_of_ble_eq_true rfl, Nat.le_of_ble_eq_true rfl⟩⟩ hz_a0 hk_a0 (by decide) rfl rfl hl.1 rfl (Nat.le_of_ble_eq_true rfl) dX10_number_111) rfl rfl (fun H locs M133 R134 J132 hS f130 g131 E135 => ?_)
                have eR134 := Fr.nil g131 rfl
                subst eR134
                have p136 := E135
                clear E135
                obtain ⟨x138, k139, h137, q140⟩ := p136
                have k139 : M133 a0 3 = x138 := k139
                refine lv_iload hx hb dX10_number_114 (lv_at hl 0 rfl) ?_
                have k141 : M133 a0 2 = x7 := (Fr.kp (k := 2) f130 hk_a0 rfl).trans k8
                have q142 : (pa.toInt ≤ x7.toInt ∧ (x7.toInt ≤ ln.toInt ∨ x7.toInt = pa.toInt)) ∧ (¬ x138.toInt = 0 ∨ fa.toInt = 0) := by
                  have := (h_a1).1; have := (h_a1).2; have := (h_a2).1; have := (h_a2).2; have := (h_fa).1; have := (h_fa).2; have := (h90).1; have := (h90).2; have := (h_pa).1; have := (h_pa).2; have := (h126).1; have := (h126).2; have := (h137).1; have := (h137).2; have := (h89).1; have := (h89).2; have := (h_x9).1; have := (h_x9).2; omega
                exact tw_endi hx hb hr hlocks hK hT hS hQ (⟨(iv_mono h129 (by decide) (by decide)), ⟨x7, x138, k141, k139, (iv_mono h89 (by decide) (by decide)), h137, q142⟩⟩) dX10_number_116
              · have q143 : a1.toInt ≤ x1.toInt := ti_nlt c127
                have h144 : iv 0 2147483647 x1 := iv_geL (y := a1) h_x1 h_a1 q143 (by decide)
                refine lv_iload hx hb dX10_number_102 (lv_at hl 0 rfl) ?_
                refine lv_iload_n hx hb dX10_number_104 rfl (lv_at hl 4 rfl) ?_
                refine lv_icmp_le (tgt := 114) hx hb dX10_number_105 (by decide) (fun c145 => ?_) (fun c145 => ?_)
                · have q146 : x1.toInt ≤ a2.toInt := ti_le c145
                  have h147 : iv 0 99999 x1 := iv_leL (y := a2) h144 h_a2 q146 (by decide)
                  refine lv_iload hx hb dX10_number_114 (lv_at hl 0 rfl) ?_
                  have q148 : (pa.toInt ≤ x7.toInt ∧ (x7.toInt ≤ ln.toInt ∨ x7.toInt = pa.toInt)) ∧ (¬ x9.toInt = 0 ∨ fa.toInt = 0) := by
                    have := (h_a1).1; have := (h_a1).2; have := (h_a2).1; have := (h_a2).2; have := (h_fa).1; have := (h_fa).2; have := (h90).1; have := (h90).2; have := (h_pa).1; have := (h_pa).2; have := (h126).1; have := (h126).2; have := (h89).1; have := (h89).2; have := (h_x9).1; have := (h_x9).2; omega
                  exact tw_endi hx hb hr hlocks hK hT hS hQ (⟨(iv_mono h147 (by decide) (by decide)), ⟨x7, x9, k8, k10, (iv_mono h89 (by decide) (by decide)), h_x9, q148⟩⟩) dX10_number_116
                · have q149 : a2.toInt < x1.toInt := ti_nle c145
                  have h150 : iv 100000 2147483647 x1 := iv_gtL (y := a2) h144 h_a2 q149 (by decide)
                  refine lv_aload_n hx hb dX10_number_108 rfl (lv_at hl 2 rfl) ?_
                  refine lv_iload_n hx hb dX10_number_109 rfl (lv_at hl 1 rfl) ?_
                  refine lv_iconst (v := 1) hx hb dX10_number_110 (by decide) ?_
                  refine tw_gov hS (md_runU (As := [.int pa, .int 1]) (rest := []) hx hb hml hown hW hK hT hS.1 (t_X10_fail l D cy tx base Z K N M2 R3 J95 hS.2.1 a0 hz_a0 hk_a0 pa h_pa 1 (iv_mono (iv_c (c := 1) (n := 1) (by decide)) (by decide) (by decide))) s_X10_50_X8 ⟨rfl, rfl, ⟨Nat.le_of_ble_eq_true rfl, Nat.le_of_ble_eq_true rfl⟩, ⟨Nat.le_of_ble_eq_true rfl, Nat.le_of_ble_eq_true rfl⟩⟩ hz_a0 hk_a0 (by decide) rfl rfl hl.1 rfl (Nat.le_of_ble_eq_true rfl) dX10_number_111) rfl rfl (fun H locs M154 R155 J153 hS f151 g152 E156 => ?_)
                  have eR155 := Fr.nil g152 rfl
                  subst eR155
                  have p157 := E156
                  clear E156
                  obtain ⟨x159, k160, h158, q161⟩ := p157
                  have k160 : M154 a0 3 = x159 := k160
                  refine lv_iload hx hb dX10_number_114 (lv_at hl 0 rfl) ?_
                  have k162 : M154 a0 2 = x7 := (Fr.kp (k := 2) f151 hk_a0 rfl).trans k8
                  have q163 : (pa.toInt ≤ x7.toInt ∧ (x7.toInt ≤ ln.toInt ∨ x7.toInt = pa.toInt)) ∧ (¬ x159.toInt = 0 ∨ fa.toInt = 0) := by
                    have := (h_a1).1; have := (h_a1).2; have := (h_a2).1; have := (h_a2).2; have := (h_fa).1; have := (h_fa).2; have := (h90).1; have := (h90).2; have := (h_pa).1; have := (h_pa).2; have := (h126).1; have := (h126).2; have := (h158).1; have := (h158).2; have := (h89).1; have := (h89).2; have := (h_x9).1; have := (h_x9).2; omega
                  exact tw_endi hx hb hr hlocks hK hT hS hQ (⟨(iv_mono h150 (by decide) (by decide)), ⟨x7, x159, k162, k160, (iv_mono h89 (by decide) (by decide)), h158, q163⟩⟩) dX10_number_116
          · have q164 : x7.toInt = pa.toInt := ti_eq c104
            have h165 : iv 0 399 pa := ⟨by have := (h89).1; have := (h_pa).1; omega, by have := (h89).2; have := (h_pa).2; omega⟩
            refine lv_aload_n hx hb dX10_number_77 rfl (lv_at hl 2 rfl) ?_
            refine lv_iload_n hx hb dX10_number_78 rfl (lv_at hl 1 rfl) ?_
            refine lv_iconst (v := 0) hx hb dX10_number_79 (by decide) ?_
            refine tw_gov hS (md_runU (As := [.int pa, .int 0]) (rest := []) hx hb hml hown hW hK hT hS.1 (t_X10_fail l D cy tx base Z K N M2 R3 J95 hS.2.1 a0 hz_a0 hk_a0 pa (iv_mono h165 (by decide) (by decide)) 0 (iv_mono (iv_c (c := 0) (n := 0) (by decide)) (by decide) (by decide))) s_X10_50_X8 ⟨rfl, rfl, ⟨Nat.le_of_ble_eq_true rfl, Nat.le_of_ble_eq_true rfl⟩, ⟨Nat.le_of_ble_eq_true rfl, Nat.le_of_ble_eq_true rfl⟩⟩ hz_a0 hk_a0 (by decide) rfl rfl hl.1 rfl (Nat.le_of_ble_eq_true rfl) dX10_number_80) rfl rfl (fun H locs M169 R170 J168 hS f166 g167 E171 => ?_)
            have eR170 := Fr.nil g167 rfl
            subst eR170
            have p172 := E171
            clear E171
            obtain ⟨x174, k175, h173, q176⟩ := p172
            have k175 : M169 a0 3 = x174 := k175
            refine lv_goto (tgt := 114) hx hb dX10_number_83 (by decide) ?_
            refine lv_iload hx hb dX10_number_114 (lv_at hl 0 rfl) ?_
            have k177 : M169 a0 2 = x7 := (Fr.kp (k := 2) f166 hk_a0 rfl).trans k8
            have q178 : (pa.toInt ≤ x7.toInt ∧ (x7.toInt ≤ ln.toInt ∨ x7.toInt = pa.toInt)) ∧ (¬ x174.toInt = 0 ∨ fa.toInt = 0) := by
              have := (h_a1).1; have := (h_a1).2; have := (h_a2).1; have := (h_a2).2; have := (h_fa).1; have := (h_fa).2; have := (h90).1; have := (h90).2; have := (h165).1; have := (h165).2; have := (h173).1; have := (h173).2; have := (h89).1; have := (h89).2; have := (h_x9).1; have := (h_x9).2; omega
            exact tw_endi hx hb hr hlocks hK hT hS hQ (⟨h_x1, ⟨x7, x174, k177, k175, (iv_mono h89 (by decide) (by decide)), h173, q178⟩⟩) dX10_number_116
        · have q179 : ¬ x99.toInt = 0 := ti_ne c101
          have h180 : iv 1 1 x99 := ⟨by have := (h_x99).1; have := ((iv_c (c := 0) (n := 0) (by decide))).1; have := ((iv_c (c := 0) (n := 0) (by decide))).2; omega, by have := (h_x99).2; have := ((iv_c (c := 0) (n := 0) (by decide))).1; have := ((iv_c (c := 0) (n := 0) (by decide))).2; omega⟩
          have q181 := p100 c101
          refine lv_aload_n hx hb dX10_number_26 rfl (lv_at hl 2 rfl) ?_
          refine tw_getk hx hb hW hown hK hS f_X10_25_8 hz_a0 hk_a0 (v := x7) k8 dX10_number_27 ?_
          refine lv_iload_n hx hb dX10_number_30 rfl (lv_at hl 1 rfl) ?_
          refine tw_isub (lo := (-1000)) (hi := 399) hx hb h89 h_pa ⟨by decide, by decide⟩ ⟨by decide, by decide⟩ dX10_number_31 (fun x184 e183 h182 => ?_)
          refine lv_iconst (v := 5) hx hb dX10_number_32 (by decide) ?_
          refine lv_icmp_ge (tgt := 56) hx hb dX10_number_33 (by decide) (fun c185 => ?_) (fun c185 => ?_)
          · have q186 : 5 ≤ x184.toInt := ti_le c185
            have h187 : iv 5 399 x184 := iv_geL (y := 5) h182 (iv_c (c := 5) (n := 5) (by decide)) q186 (by decide)
            refine lv_aload_n hx hb dX10_number_56 rfl (lv_at hl 2 rfl) ?_
            refine lv_dup hx hb dX10_number_57 rfl ?_
            refine tw_getk hx hb hW hown hK hS f_X10_25_8 hz_a0 hk_a0 (v := x7) k8 dX10_number_58 ?_
            refine lv_iconst (v := 1) hx hb dX10_number_61 (by decide) ?_
            refine tw_iadd (lo := 1) (hi := 400) hx hb h89 (iv_c (c := 1) (n := 1) (by decide)) ⟨by decide, by decide⟩ ⟨by decide, by decide⟩ dX10_number_62 (fun x190 e189 h188 => ?_)
            have e189 : x190.toInt = x7.toInt + 1 := e189
            refine tw_puti hx hb hW hown hK hS f_X10_25_8 hz_a0 hk_a0 rfl rfl (lo := 0) (hi := 1000) rfl (iv_mono h188 (by decide) (by decide)) rfl dX10_number_63 (fun H locs M193 hS k191 f192 => ?_)
            refine lv_goto (tgt := 8) hx hb dX10_number_66 (by decide) ?_
            have k194 : M193 a0 3 = x9 := (Fr.kp (k := 3) f192 hk_a0 rfl).trans k10
            have w195 : pa.toInt ≤ x190.toInt ∧ (x190.toInt ≤ ln.toInt ∨ x190.toInt = pa.toInt) := by
              have := (h_a1).1; have := (h_a1).2; have := (h_a2).1; have := (h_a2).2; have := (h_fa).1; have := (h_fa).2; have := (h90).1; have := (h90).2; have := (h_pa).1; have := (h_pa).2; have := (h187).1; have := (h187).2; have := (h188).1; have := (h188).2; have := (h89).1; have := (h89).2; omega
            have w196 : x9.toInt = fa.toInt := by
              have := (h_a1).1; have := (h_a1).2; have := (h_a2).1; have := (h_a2).2; have := (h_fa).1; have := (h_fa).2; have := (h90).1; have := (h90).2; have := (h_pa).1; have := (h_pa).2; have := (h_x9).1; have := (h_x9).2; omega
            have hm197 : 1000 - x190.toInt < (n_2 : Int) := by
              have := (h_a1).1; have := (h_a1).2; have := (h_a2).1; have := (h_a2).2; have := (h_fa).1; have := (h_fa).2; have := (h90).1; have := (h90).2; have := (h_pa).1; have := (h_pa).2; have := (h187).1; have := (h187).2; have := (h188).1; have := (h188).2; have := (h89).1; have := (h89).2; omega
            exact ih_2 x1 x190 x9 M193 R3 J95 H locs _ h_x1 (iv_mono h188 (by decide) (by decide)) k191 h_x9 k194 w195 w196 hm197 hS hl
          · have q198 : x184.toInt < 5 := ti_nle c185
            have h199 : iv (-1000) 4 x184 := iv_ltL (y := 5) h182 (iv_c (c := 5) (n := 5) (by decide)) q198 (by decide)
            refine lv_iload hx hb dX10_number_36 (lv_at hl 0 rfl) ?_
            refine lv_bipush (v := 10) hx hb dX10_number_38 (by decide) ?_
            refine lv_imul hx hb dX10_number_40 ?_
            refine tw_top (fun x201 => ?_)
            have h200 := iv_any x201
            refine lv_aload_n hx hb dX10_number_41 rfl (lv_at hl 2 rfl) ?_
            have k202 : R3 a0 0 = some tb := (Fr.kp (k := 0) g6 hk_a0 rfl).trans k_tb
            refine tw_getrk hx hb hW hown hK hS f_X10_9_8 hz_a0 hk_a0 (b := tb) k202 dX10_number_42 ?_
            refine lv_aload_n hx hb dX10_number_45 rfl (lv_at hl 2 rfl) ?_
            refine tw_getk hx hb hW hown hK hS f_X10_25_8 hz_a0 hk_a0 (v := x7) k8 dX10_number_46 ?_
            refine tw_bald hx hb hK hS hz_tb hk_tb hn_tb h89 ⟨by decide, by decide⟩ dX10_number_49 (fun x205 k204 => ?_)
            have h203 := iv_any x205
            refine lv_iadd hx hb dX10_number_50 ?_
            refine tw_top (fun x207 => ?_)
            have h206 := iv_any x207
            refine lv_bipush (v := 48) hx hb dX10_number_51 (by decide) ?_
            refine lv_isub hx hb dX10_number_53 ?_
            refine tw_top (fun x209 => ?_)
            have h208 := iv_any x209
            refine lv_istore (lv' := [(4, .int x209), (3, .int pa), (0, .ref (base + a0)), (1, .int a1), (2, .int a2)]) hx hb dX10_number_54 hl (by decide) rfl (fun ls hl => ?_)
            refine lv_aload_n hx hb dX10_number_56 rfl (lv_at hl 2 rfl) ?_
            refine lv_dup hx hb dX10_number_57 rfl ?_
            refine tw_getk hx hb hW hown hK hS f_X10_25_8 hz_a0 hk_a0 (v := x7) k8 dX10_number_58 ?_
            refine lv_iconst (v := 1) hx hb dX10_number_61 (by decide) ?_
            refine tw_iadd (lo := 1) (hi := 400) hx hb h89 (iv_c (c := 1) (n := 1) (by decide)) ⟨by decide, by decide⟩ ⟨by decide, by decide⟩ dX10_number_62 (fun x212 e211 h210 => ?_)
            have e211 : x212.toInt = x7.toInt + 1 := e211
            refine tw_puti hx hb hW hown hK hS f_X10_25_8 hz_a0 hk_a0 rfl rfl (lo := 0) (hi := 1000) rfl (iv_mono h210 (by decide) (by decide)) rfl dX10_number_63 (fun H locs M215 hS k213 f214 => ?_)
            refine lv_goto (tgt := 8) hx hb dX10_number_66 (by decide) ?_
            have k216 : M215 a0 3 = x9 := (Fr.kp (k := 3) f214 hk_a0 rfl).trans k10
            have w217 : pa.toInt ≤ x212.toInt ∧ (x212.toInt ≤ ln.toInt ∨ x212.toInt = pa.toInt) := by
              have := (h_a1).1; have := (h_a1).2; have := (h_a2).1; have := (h_a2).2; have := (h_fa).1; have := (h_fa).2; have := (h90).1; have := (h90).2; have := (h_pa).1; have := (h_pa).2; have := (h199).1; have := (h199).2; have := (h210).1; have := (h210).2; have := (h89).1; have := (h89).2; omega
            have w218 : x9.toInt = fa.toInt := by
              have := (h_a1).1; have := (h_a1).2; have := (h_a2).1; have := (h_a2).2; have := (h_fa).1; have := (h_fa).2; have := (h90).1; have := (h90).2; have := (h_pa).1; have := (h_pa).2; have := (h_x9).1; have := (h_x9).2; omega
            have hm219 : 1000 - x212.toInt < (n_2 : Int) := by
              have := (h_a1).1; have := (h_a1).2; have := (h_a2).1; have := (h_a2).2; have := (h_fa).1; have := (h_fa).2; have := (h90).1; have := (h90).2; have := (h_pa).1; have := (h_pa).2; have := (h199).1; have := (h199).2; have := (h210).1; have := (h210).2; have := (h89).1; have := (h89).2; omega
            exact ih_2 x209 x212 x9 M215 R3 J95 H locs _ h208 (iv_mono h210 (by decide) (by decide)) k213 h_x9 k216 w217 w218 hm219 hS hl
  have w220 : pa.toInt ≤ pa.toInt ∧ (pa.toInt ≤ ln.toInt ∨ pa.toInt = pa.toInt) := by
    have := (h_a1).1; have := (h_a1).2; have := (h_a2).1; have := (h_a2).2; have := (h_fa).1; have := (h_fa).2; have := (h_ln).1; have := (h_ln).2; have := (h_pa).1; have := (h_pa).2; omega
  have w221 : fa.toInt = fa.toInt := by
    have := (h_a1).1; have := (h_a1).2; have := (h_a2).1; have := (h_a2).2; have := (h_fa).1; have := (h_fa).2; have := (h_ln).1; have := (h_ln).2; have := (h_pa).1; have := (h_pa).2; omega
  have hm222 : 1000 - pa.toInt < (((1001 : Nat) : Int) : Int) := by
    have := (h_a1).1; have := (h_a1).2; have := (h_a2).1; have := (h_a2).2; have := (h_fa).1; have := (h_fa).2; have := (h_ln).1; have := (h_ln).2; have := (h_pa).1; have := (h_pa).2; omega
  exact W8_2 1001 0 pa fa Ma Ra Ja s.heap [] _ (iv_mono (iv_c (c := 0) (n := 0) (by decide)) (by decide) (by decide)) h_pa k_pa h_fa k_fa w220 w221 hm222 hS hl
def Lt_X10_number_1 : WL := [(3, 2, 4)]
def LRt_X10_number_1 : WL := []
set_option maxRecDepth 100000 in
set_option maxHeartbeats 4000000 in
theorem t_X10_number_1 (l : Launch) (D : va_G) (cy : Nat → ClassId) (tx : (Nat → Nat) × (Nat → Nat)) (base Z : Nat) (K N : Nat → Nat) (Ma : MT) (Ra : RT) (Ja : JT) (hTy : Ty Z K N Ma Ra) (a0 : Nat) (hz_a0 : a0 < Z) (hk_a0 : K a0 = 3) (a1 : Int32) (h_a1 : iv 0 1 a1) (a2 : Int32) (h_a2 : iv (-2147483648) 2147483647 a2) (tb : Nat) (k_tb : Ra a0 0 = some tb) (ln : Int32) (k_ln : Ma a0 1 = ln) (h_ln : iv 0 400 ln) (pa : Int32) (k_pa : Ma a0 2 = pa) (h_pa : iv 0 1000 pa) (fa : Int32) (k_fa : Ma a0 3 = fa) (h_fa : iv (-2147483648) 2147483647 fa) : Met l yX10_number [Cond.code yX10_number cX10_number 5 (some .int)] (md_rm 2 0 0) (va_Pc [.ref (base + a0), .int a1, .int a2] (md_U D cy tx base Z K N Ma Ra Ja)) (mQi D cy tx base (fun r u => TP Z K N Lt_X10_number_1 LRt_X10_number_1 Ma Ra u ∧ (iv (-2147483648) 2147483647 r ∧ (∃ x0 x1 : Int32, u.2.2.2.1 a0 2 = x0 ∧ u.2.2.2.1 a0 3 = x1 ∧ iv 0 1000 x0 ∧ iv (-2147483648) 2147483647 x1 ∧ ((pa.toInt ≤ x0.toInt ∧ (x0.toInt ≤ ln.toInt ∨ x0.toInt = pa.toInt)) ∧ (¬ x1.toInt = 0 ∨ fa.toInt = 0)))))) 0 0 (fun q => base ≤ q) := by
  refine tw_ofW (L := Lt_X10_number_1) (LR := LRt_X10_number_1) (by decide) (Nat.le_of_ble_eq_true rfl) hTy ?_
  intro p e s m args below meth c Q ls hx hb hr hlocks hown hml hW hK hT hS hQ hl
  have hl : lv_has ls 5 [(0, .ref (base + a0)), (1, .int a1), (2, .int a2)] := hl
  obtain ⟨hz_tb, hk_tb, hn_tb⟩ := hTy.refn hz_a0 hk_a0 (show rtR 3 0 = (13, 400, 1) from rfl) k_tb
  have hn_tb := hn_tb (by decide)
  refine lv_aload_n hx hb dX10_number_0 rfl (lv_at hl 0 rfl) ?_
  refine tw_getk hx hb hW hown hK hS f_X10_25_2 hz_a0 hk_a0 (v := pa) k_pa dX10_number_1 ?_
  refine lv_istore_n (lv' := [(3, .int pa), (0, .ref (base + a0)), (1, .int a1), (2, .int a2)]) hx hb dX10_number_4 rfl hl (by decide) rfl (fun ls hl => ?_)
  refine lv_iconst (v := 0) hx hb dX10_number_5 (by decide) ?_
  refine lv_istore (lv' := [(4, .int 0), (3, .int pa), (0, .ref (base + a0)), (1, .int a1), (2, .int a2)]) hx hb dX10_number_6 hl (by decide) rfl (fun ls hl => ?_)
  have W8_2 : ∀ (n_2 : Nat) (x1 : Int32) (x7 : Int32) (x9 : Int32) (M2 : MT) (R3 : RT) (J4 : JT) (H : Heap) (locs : List Loc) (ls : Array Slot) (h_x1 : iv (-2147483648) 2147483647 x1) (h_x7 : iv 0 1000 x7) (k8 : M2 a0 2 = x7) (h_x9 : iv (-2147483648) 2147483647 x9) (k10 : M2 a0 3 = x9) (w0_2 : pa.toInt ≤ x7.toInt ∧ (x7.toInt ≤ ln.toInt ∨ x7.toInt = pa.toInt)) (w1_2 : x9.toInt = fa.toInt) (hm_2 : 1000 - x7.toInt < (n_2 : Int)) (hS : SB D cy base Z K N Lt_X10_number_1 LRt_X10_number_1 Ma Ra M2 R3 J4 s H locs) (hl : lv_has ls 5 [(4, .int x1), (3, .int pa), (0, .ref (base + a0)), (1, .int a1), (2, .int a2)]), W p l e (md_rm 2 0 0) s m args below meth c H locs 0 0 Q (F0 m 8 ls []) := by
    intro n_2
    induction n_2 with
    | zero =>
      intro x1 x7 x9 M2 R3 J4 H locs ls h_x1 h_x7 k8 h_x9 k10 w0_2 w1_2 hm_2 hS hl
      exfalso
      have := (h_a1).1; have := (h_a1).2; have := (h_a2).1; have := (h_a2).2; have := (h_fa).1; have := (h_fa).2; have := (h_ln).1; have := (h_ln).2; have := (h_pa).1; have := (h_pa).2; have := (h_x7).1; have := (h_x7).2; omega
    | succ n_2 ih_2 =>
      intro x1 x7 x9 M2 R3 J4 H locs ls h_x1 h_x7 k8 h_x9 k10 w0_2 w1_2 hm_2 hS hl
      have f5 := hS.2.2.1
      have g6 := hS.2.2.2
      refine lv_aload_n hx hb dX10_number_8 rfl (lv_at hl 2 rfl) ?_
      refine tw_getk hx hb hW hown hK hS f_X10_25_2 hz_a0 hk_a0 (v := x7) k8 dX10_number_9 ?_
      refine lv_aload_n hx hb dX10_number_12 rfl (lv_at hl 2 rfl) ?_
      have k11 : M2 a0 1 = ln := (Fr.kp (k := 1) f5 hk_a0 rfl).trans k_ln
      refine tw_getk hx hb hW hown hK hS f_X10_21_2 hz_a0 hk_a0 (v := ln) k11 dX10_number_13 ?_
      refine lv_icmp_ge (tgt := 69) hx hb dX10_number_16 (by decide) (fun c12 => ?_) (fun c12 => ?_)
      · have q13 : ln.toInt ≤ x7.toInt := ti_le c12
        refine lv_aload_n hx hb dX10_number_69 rfl (lv_at hl 2 rfl) ?_
        refine tw_getk hx hb hW hown hK hS f_X10_25_2 hz_a0 hk_a0 (v := x7) k8 dX10_number_70 ?_
        refine lv_iload_n hx hb dX10_number_73 rfl (lv_at hl 1 rfl) ?_
        refine lv_icmp_ne (tgt := 86) hx hb dX10_number_74 (by decide) (fun c14 => ?_) (fun c14 => ?_)
        · have q15 : ¬ x7.toInt = pa.toInt := ti_ne c14
          refine lv_aload_n hx hb dX10_number_86 rfl (lv_at hl 2 rfl) ?_
          refine tw_getk hx hb hW hown hK hS f_X10_25_2 hz_a0 hk_a0 (v := x7) k8 dX10_number_87 ?_
          refine lv_iload_n hx hb dX10_number_90 rfl (lv_at hl 1 rfl) ?_
          refine tw_isub (lo := (-1000)) (hi := 1000) hx hb h_x7 h_pa ⟨by decide, by decide⟩ ⟨by decide, by decide⟩ dX10_number_91 (fun x18 e17 h16 => ?_)
          refine lv_iconst (v := 5) hx hb dX10_number_92 (by decide) ?_
          refine lv_icmp_gt (tgt := 108) hx hb dX10_number_93 (by decide) (fun c19 => ?_) (fun c19 => ?_)
          · have q20 : 5 < x18.toInt := ti_lt c19
            have h21 : iv 6 1000 x18 := iv_gtL (y := 5) h16 (iv_c (c := 5) (n := 5) (by decide)) q20 (by decide)
            refine lv_aload_n hx hb dX10_number_108 rfl (lv_at hl 2 rfl) ?_
            refine lv_iload_n hx hb dX10_number_109 rfl (lv_at hl 1 rfl) ?_
            refine lv_iconst (v := 1) hx hb dX10_number_110 (by decide) ?_
            refine tw_gov hS (md_runU (As := [.int pa, .int 1]) (rest := []) hx hb hml hown hW hK hT hS.1 (t_X10_fail_1 l D cy tx base Z K N M2 R3 J4 hS.2.1 a0 hz_a0 hk_a0 pa h_pa 1 (iv_mono (iv_c (c := 1) (n := 1) (by decide)) (by decide) (by decide))) s_X10_50_X2 ⟨rfl, rfl, ⟨Nat.le_of_ble_eq_true rfl, Nat.le_of_ble_eq_true rfl⟩, ⟨Nat.le_of_ble_eq_true rfl, Nat.le_of_ble_eq_true rfl⟩⟩ hz_a0 hk_a0 (by decide) rfl rfl hl.1 rfl (Nat.le_of_ble_eq_true rfl) dX10_number_111) rfl rfl (fun H locs M25 R26 J24 hS f22 g23 E27 => ?_)
            have eR26 := Fr.nil g23 rfl
            subst eR26
            have p28 := E27
            clear E27
            obtain ⟨x30, k31, h29, q32⟩ := p28
            have k31 : M25 a0 3 = x30 := k31
            refine lv_iload hx hb dX10_number_114 (lv_at hl 0 rfl) ?_
            have k33 : M25 a0 2 = x7 := (Fr.kp (k := 2) f22 hk_a0 rfl).trans k8
            have q34 : (pa.toInt ≤ x7.toInt ∧ (x7.toInt ≤ ln.toInt ∨ x7.toInt = pa.toInt)) ∧ (¬ x30.toInt = 0 ∨ fa.toInt = 0) := by
              have := (h_a1).1; have := (h_a1).2; have := (h_a2).1; have := (h_a2).2; have := (h_fa).1; have := (h_fa).2; have := (h_ln).1; have := (h_ln).2; have := (h_pa).1; have := (h_pa).2; have := (h21).1; have := (h21).2; have := (h29).1; have := (h29).2; have := (h_x7).1; have := (h_x7).2; have := (h_x9).1; have := (h_x9).2; omega
            exact tw_endi hx hb hr hlocks hK hT hS hQ (⟨h_x1, ⟨x7, x30, k33, k31, h_x7, h29, q34⟩⟩) dX10_number_116
          · have q35 : x18.toInt ≤ 5 := ti_nlt c19
            have h36 : iv (-1000) 5 x18 := iv_leL (y := 5) h16 (iv_c (c := 5) (n := 5) (by decide)) q35 (by decide)
            refine lv_iload hx hb dX10_number_96 (lv_at hl 0 rfl) ?_
            refine lv_iload_n hx hb dX10_number_98 rfl (lv_at hl 3 rfl) ?_
            refine lv_icmp_lt (tgt := 108) hx hb dX10_number_99 (by decide) (fun c37 => ?_) (fun c37 => ?_)
            · have q38 : x1.toInt < a1.toInt := ti_lt c37
              have h39 : iv (-2147483648) 0 x1 := iv_ltL (y := a1) h_x1 h_a1 q38 (by decide)
              refine lv_aload_n hx hb dX10_number_108 rfl (lv_at hl 2 rfl) ?_
              refine lv_iload_n hx hb dX10_number_109 rfl (lv_at hl 1 rfl) ?_
              refine lv_iconst (v := 1) hx hb dX10_number_110 (by decide) ?_
              refine tw_gov hS (md_runU (As := [.int pa, .int 1]) (rest := []) hx hb hml hown hW hK hT hS.1 (t_X10_fail_1 l D cy tx base Z K N M2 R3 J4 hS.2.1 a0 hz_a0 hk_a0 pa h_pa 1 (iv_mono (iv_c (c := 1) (n := 1) (by decide)) (by decide) (by decide))) s_X10_50_X2 ⟨rfl, rfl, ⟨Nat.le_of_ble_eq_true rfl, Nat.le_of_ble_eq_true rfl⟩, ⟨Nat.le_of_ble_eq_true rfl, Nat.le_of_ble_eq_true rfl⟩⟩ hz_a0 hk_a0 (by decide) rfl rfl hl.1 rfl (Nat.le_of_ble_eq_true rfl) dX10_number_111) rfl rfl (fun H locs M43 R44 J42 hS f40 g41 E45 => ?_)
              have eR44 := Fr.nil g41 rfl
              subst eR44
              have p46 := E45
              clear E45
              obtain ⟨x48, k49, h47, q50⟩ := p46
              have k49 : M43 a0 3 = x48 := k49
              refine lv_iload hx hb dX10_number_114 (lv_at hl 0 rfl) ?_
              have k51 : M43 a0 2 = x7 := (Fr.kp (k := 2) f40 hk_a0 rfl).trans k8
              have q52 : (pa.toInt ≤ x7.toInt ∧ (x7.toInt ≤ ln.toInt ∨ x7.toInt = pa.toInt)) ∧ (¬ x48.toInt = 0 ∨ fa.toInt = 0) := by
                have := (h_a1).1; have := (h_a1).2; have := (h_a2).1; have := (h_a2).2; have := (h_fa).1; have := (h_fa).2; have := (h_ln).1; have := (h_ln).2; have := (h_pa).1; have := (h_pa).2; have := (h36).1; have := (h36).2; have := (h47).1; have := (h47).2; have := (h_x7).1; have := (h_x7).2; have := (h_x9).1; have := (h_x9).2; omega
              exact tw_endi hx hb hr hlocks hK hT hS hQ (⟨(iv_mono h39 (by decide) (by decide)), ⟨x7, x48, k51, k49, h_x7, h47, q52⟩⟩) dX10_number_116
            · have q53 : a1.toInt ≤ x1.toInt := ti_nlt c37
              have h54 : iv 0 2147483647 x1 := iv_geL (y := a1) h_x1 h_a1 q53 (by decide)
              refine lv_iload hx hb dX10_number_102 (lv_at hl 0 rfl) ?_
              refine lv_iload_n hx hb dX10_number_104 rfl (lv_at hl 4 rfl) ?_
              refine lv_icmp_le (tgt := 114) hx hb dX10_number_105 (by decide) (fun c55 => ?_) (fun c55 => ?_)
              · have q56 : x1.toInt ≤ a2.toInt := ti_le c55
                have h57 : iv 0 2147483647 a2 := iv_geL (y := x1) h_a2 h54 q56 (by decide)
                refine lv_iload hx hb dX10_number_114 (lv_at hl 0 rfl) ?_
                have q58 : (pa.toInt ≤ x7.toInt ∧ (x7.toInt ≤ ln.toInt ∨ x7.toInt = pa.toInt)) ∧ (¬ x9.toInt = 0 ∨ fa.toInt = 0) := by
                  have := (h_a1).1; have := (h_a1).2; have := (h57).1; have := (h57).2; have := (h_fa).1; have := (h_fa).2; have := (h_ln).1; have := (h_ln).2; have := (h_pa).1; have := (h_pa).2; have := (h36).1; have := (h36).2; have := (h_x7).1; have := (h_x7).2; have := (h_x9).1; have := (h_x9).2; omega
                exact tw_endi hx hb hr hlocks hK hT hS hQ (⟨(iv_mono h54 (by decide) (by decide)), ⟨x7, x9, k8, k10, h_x7, h_x9, q58⟩⟩) dX10_number_116
              · have q59 : a2.toInt < x1.toInt := ti_nle c55
                have h60 : iv (-2147483648) 2147483646 a2 := iv_ltL (y := x1) h_a2 h54 q59 (by decide)
                refine lv_aload_n hx hb dX10_number_108 rfl (lv_at hl 2 rfl) ?_
                refine lv_iload_n hx hb dX10_number_109 rfl (lv_at hl 1 rfl) ?_
                refine lv_iconst (v := 1) hx hb dX10_number_110 (by decide) ?_
                refine tw_gov hS (md_runU (As := [.int pa, .int 1]) (rest := []) hx hb hml hown hW hK hT hS.1 (t_X10_fail_1 l D cy tx base Z K N M2 R3 J4 hS.2.1 a0 hz_a0 hk_a0 pa h_pa 1 (iv_mono (iv_c (c := 1) (n := 1) (by decide)) (by decide) (by decide))) s_X10_50_X2 ⟨rfl, rfl, ⟨Nat.le_of_ble_eq_true rfl, Nat.le_of_ble_eq_true rfl⟩, ⟨Nat.le_of_ble_eq_true rfl, Nat.le_of_ble_eq_true rfl⟩⟩ hz_a0 hk_a0 (by decide) rfl rfl hl.1 rfl (Nat.le_of_ble_eq_true rfl) dX10_number_111) rfl rfl (fun H locs M64 R65 J63 hS f61 g62 E66 => ?_)
                have eR65 := Fr.nil g62 rfl
                subst eR65
                have p67 := E66
                clear E66
                obtain ⟨x69, k70, h68, q71⟩ := p67
                have k70 : M64 a0 3 = x69 := k70
                refine lv_iload hx hb dX10_number_114 (lv_at hl 0 rfl) ?_
                have k72 : M64 a0 2 = x7 := (Fr.kp (k := 2) f61 hk_a0 rfl).trans k8
                have q73 : (pa.toInt ≤ x7.toInt ∧ (x7.toInt ≤ ln.toInt ∨ x7.toInt = pa.toInt)) ∧ (¬ x69.toInt = 0 ∨ fa.toInt = 0) := by
                  have := (h_a1).1; have := (h_a1).2; have := (h60).1; have := (h60).2; have := (h_fa).1; have := (h_fa).2; have := (h_ln).1; have := (h_ln).2; have := (h_pa).1; have := (h_pa).2; have := (h36).1; have := (h36).2; have := (h68).1; have := (h68).2; have := (h_x7).1; have := (h_x7).2; have := (h_x9).1; have := (h_x9).2; omega
                exact tw_endi hx hb hr hlocks hK hT hS hQ (⟨(iv_mono h54 (by decide) (by decide)), ⟨x7, x69, k72, k70, h_x7, h68, q73⟩⟩) dX10_number_116
        · have q74 : x7.toInt = pa.toInt := ti_eq c14
          refine lv_aload_n hx hb dX10_number_77 rfl (lv_at hl 2 rfl) ?_
          refine lv_iload_n hx hb dX10_number_78 rfl (lv_at hl 1 rfl) ?_
          refine lv_iconst (v := 0) hx hb dX10_number_79 (by decide) ?_
          refine tw_gov hS (md_runU (As := [.int pa, .int 0]) (rest := []) hx hb hml hown hW hK hT hS.1 (t_X10_fail_1 l D cy tx base Z K N M2 R3 J4 hS.2.1 a0 hz_a0 hk_a0 pa h_pa 0 (iv_mono (iv_c (c := 0) (n := 0) (by decide)) (by decide) (by decide))) s_X10_50_X2 ⟨rfl, rfl, ⟨Nat.le_of_ble_eq_true rfl, Nat.le_of_ble_eq_true rfl⟩, ⟨Nat.le_of_ble_eq_true rfl, Nat.le_of_ble_eq_true rfl⟩⟩ hz_a0 hk_a0 (by decide) rfl rfl hl.1 rfl (Nat.le_of_ble_eq_true rfl) dX10_number_80) rfl rfl (fun H locs M78 R79 J77 hS f75 g76 E80 => ?_)
          have eR79 := Fr.nil g76 rfl
          subst eR79
          have p81 := E80
          clear E80
          obtain ⟨x83, k84, h82, q85⟩ := p81
          have k84 : M78 a0 3 = x83 := k84
          refine lv_goto (tgt := 114) hx hb dX10_number_83 (by decide) ?_
          refine lv_iload hx hb dX10_number_114 (lv_at hl 0 rfl) ?_
          have k86 : M78 a0 2 = x7 := (Fr.kp (k := 2) f75 hk_a0 rfl).trans k8
          have q87 : (pa.toInt ≤ x7.toInt ∧ (x7.toInt ≤ ln.toInt ∨ x7.toInt = pa.toInt)) ∧ (¬ x83.toInt = 0 ∨ fa.toInt = 0) := by
            have := (h_a1).1; have := (h_a1).2; have := (h_a2).1; have := (h_a2).2; have := (h_fa).1; have := (h_fa).2; have := (h_ln).1; have := (h_ln).2; have := (h_pa).1; have := (h_pa).2; have := (h_x7).1; have := (h_x7).2; have := (h82).1; have := (h82).2; have := (h_x9).1; have := (h_x9).2; omega
          exact tw_endi hx hb hr hlocks hK hT hS hQ (⟨h_x1, ⟨x7, x83, k86, k84, h_x7, h82, q87⟩⟩) dX10_number_116
      · have q88 : x7.toInt < ln.toInt := ti_nle c12
        have h89 : iv 0 399 x7 := iv_ltL (y := ln) h_x7 h_ln q88 (by decide)
        have h90 : iv 1 400 ln := iv_gtL (y := x7) h_ln h_x7 q88 (by decide)
        refine lv_aload_n hx hb dX10_number_19 rfl (lv_at hl 2 rfl) ?_
        have k91 : R3 a0 0 = some tb := (Fr.kp (k := 0) g6 hk_a0 rfl).trans k_tb
        have k92 : M2 a0 1 = ln := (Fr.kp (k := 1) f5 hk_a0 rfl).trans k_ln
        refine tw_goi hS (md_runU (As := []) (rest := []) hx hb hml hown hW hK hT hS.1 (t_X10_isDigitHere_1 l D cy tx base Z K N M2 R3 J4 hS.2.1 a0 hz_a0 hk_a0 tb k91 ln k92 (iv_mono h90 (by decide) (by decide)) x7 k8 (iv_mono h89 (by decide) (by decide))) s_X10_46_X2 ⟨rfl, rfl, ⟨Nat.le_of_ble_eq_true rfl, Nat.le_of_ble_eq_true rfl⟩, ⟨Nat.le_of_ble_eq_true rfl, Nat.le_of_ble_eq_true rfl⟩⟩ hz_a0 hk_a0 (by decide) rfl rfl hl.1 rfl (Nat.le_of_ble_eq_true rfl) dX10_number_20) rfl rfl (fun x99 H locs M96 R97 J95 hS f93 g94 E98 => ?_)
        have eM96 := Fr.nil f93 rfl
        subst eM96
        have eR97 := Fr.nil g94 rfl
        subst eR97
        obtain ⟨h_x99, p100⟩ := E98
        refine lv_if_eq (tgt := 69) hx hb dX10_number_23 (by decide) (fun c101 => ?_) (fun c101 => ?_)
        · have q102 : x99.toInt = 0 := ti_eq c101
          have h103 : iv 0 0 x99 := ⟨by have := (h_x99).1; have := ((iv_c (c := 0) (n := 0) (by decide))).1; omega, by have := (h_x99).2; have := ((iv_c (c := 0) (n := 0) (by decide))).2; omega⟩
          refine lv_aload_n hx hb dX10_number_69 rfl (lv_at hl 2 rfl) ?_
          refine tw_getk hx hb hW hown hK hS f_X10_25_2 hz_a0 hk_a0 (v := x7) k8 dX10_number_70 ?_
          refine lv_iload_n hx hb dX10_number_73 rfl (lv_at hl 1 rfl) ?_
          refine lv_icmp_ne (tgt := 86) hx hb dX10_number_74 (by decide) (fun c104 => ?_) (fun c104 => ?_)
          · have q105 : ¬ x7.toInt = pa.toInt := ti_ne c104
            refine lv_aload_n hx hb dX10_number_86 rfl (lv_at hl 2 rfl) ?_
            refine tw_getk hx hb hW hown hK hS f_X10_25_2 hz_a0 hk_a0 (v := x7) k8 dX10_number_87 ?_
            refine lv_iload_n hx hb dX10_number_90 rfl (lv_at hl 1 rfl) ?_
            refine tw_isub (lo := (-1000)) (hi := 399) hx hb h89 h_pa ⟨by decide, by decide⟩ ⟨by decide, by decide⟩ dX10_number_91 (fun x108 e107 h106 => ?_)
            refine lv_iconst (v := 5) hx hb dX10_number_92 (by decide) ?_
            refine lv_icmp_gt (tgt := 108) hx hb dX10_number_93 (by decide) (fun c109 => ?_) (fun c109 => ?_)
            · have q110 : 5 < x108.toInt := ti_lt c109
              have h111 : iv 6 399 x108 := iv_gtL (y := 5) h106 (iv_c (c := 5) (n := 5) (by decide)) q110 (by decide)
              refine lv_aload_n hx hb dX10_number_108 rfl (lv_at hl 2 rfl) ?_
              refine lv_iload_n hx hb dX10_number_109 rfl (lv_at hl 1 rfl) ?_
              refine lv_iconst (v := 1) hx hb dX10_number_110 (by decide) ?_
              refine tw_gov hS (md_runU (As := [.int pa, .int 1]) (rest := []) hx hb hml hown hW hK hT hS.1 (t_X10_fail_1 l D cy tx base Z K N M2 R3 J95 hS.2.1 a0 hz_a0 hk_a0 pa h_pa 1 (iv_mono (iv_c (c := 1) (n := 1) (by decide)) (by decide) (by decide))) s_X10_50_X2 ⟨rfl, rfl, ⟨Nat.le_of_ble_eq_true rfl, Nat.le_of_ble_eq_true rfl⟩, ⟨Nat.le_of_ble_eq_true rfl, Nat.le_of_ble_eq_true rfl⟩⟩ hz_a0 hk_a0 (by decide) rfl rfl hl.1 rfl (Nat.le_of_ble_eq_true rfl) dX10_number_111) rfl rfl (fun H locs M115 R116 J114 hS f112 g113 E117 => ?_)
              have eR116 := Fr.nil g113 rfl
              subst eR116
              have p118 := E117
              clear E117
              obtain ⟨x120, k121, h119, q122⟩ := p118
              have k121 : M115 a0 3 = x120 := k121
              refine lv_iload hx hb dX10_number_114 (lv_at hl 0 rfl) ?_
              have k123 : M115 a0 2 = x7 := (Fr.kp (k := 2) f112 hk_a0 rfl).trans k8
              have q124 : (pa.toInt ≤ x7.toInt ∧ (x7.toInt ≤ ln.toInt ∨ x7.toInt = pa.toInt)) ∧ (¬ x120.toInt = 0 ∨ fa.toInt = 0) := by
                have := (h_a1).1; have := (h_a1).2; have := (h_a2).1; have := (h_a2).2; have := (h_fa).1; have := (h_fa).2; have := (h90).1; have := (h90).2; have := (h_pa).1; have := (h_pa).2; have := (h111).1; have := (h111).2; have := (h119).1; have := (h119).2; have := (h89).1; have := (h89).2; have := (h_x9).1; have := (h_x9).2; omega
              exact tw_endi hx hb hr hlocks hK hT hS hQ (⟨h_x1, ⟨x7, x120, k123, k121, (iv_mono h89 (by decide) (by decide)), h119, q124⟩⟩) dX10_number_116
            · have q125 : x108.toInt ≤ 5 := ti_nlt c109
              have h126 : iv (-1000) 5 x108 := iv_leL (y := 5) h106 (iv_c (c := 5) (n := 5) (by decide)) q125 (by decide)
              refine lv_iload hx hb dX10_number_96 (lv_at hl 0 rfl) ?_
              refine lv_iload_n hx hb dX10_number_98 rfl (lv_at hl 3 rfl) ?_
              refine lv_icmp_lt (tgt := 108) hx hb dX10_number_99 (by decide) (fun c127 => ?_) (fun c127 => ?_)
              · have q128 : x1.toInt < a1.toInt := ti_lt c127
                have h129 : iv (-2147483648) 0 x1 := iv_ltL (y := a1) h_x1 h_a1 q128 (by decide)
                refine lv_aload_n hx hb dX10_number_108 rfl (lv_at hl 2 rfl) ?_
                refine lv_iload_n hx hb dX10_number_109 rfl (lv_at hl 1 rfl) ?_
                refine lv_iconst (v := 1) hx hb dX10_number_110 (by decide) ?_
                refine tw_gov hS (md_runU (As := [.int pa, .int 1]) (rest := []) hx hb hml hown hW hK hT hS.1 (t_X10_fail_1 l D cy tx base Z K N M2 R3 J95 hS.2.1 a0 hz_a0 hk_a0 pa h_pa 1 (iv_mono (iv_c (c := 1) (n := 1) (by decide)) (by decide) (by decide))) s_X10_50_X2 ⟨rfl, rfl, ⟨Nat.le_of_ble_eq_true rfl, Nat.le_of_ble_eq_true rfl⟩, ⟨Nat.le_of_ble_eq_true rfl, Nat.le_of_ble_eq_true rfl⟩⟩ hz_a0 hk_a0 (by decide) rfl rfl hl.1 rfl (Nat.le_of_ble_eq_true rfl) dX10_number_111) rfl rfl (fun H locs M133 R134 J132 hS f130 g131 E135 => ?_)
                have eR134 := Fr.nil g131 rfl
                subst eR134
                have p136 := E135
                clear E135
                obtain ⟨x138, k139, h137, q140⟩ := p136
                have k139 : M133 a0 3 = x138 := k139
                refine lv_iload hx hb dX10_number_114 (lv_at hl 0 rfl) ?_
                have k141 : M133 a0 2 = x7 := (Fr.kp (k := 2) f130 hk_a0 rfl).trans k8
                have q142 : (pa.toInt ≤ x7.toInt ∧ (x7.toInt ≤ ln.toInt ∨ x7.toInt = pa.toInt)) ∧ (¬ x138.toInt = 0 ∨ fa.toInt = 0) := by
                  have := (h_a1).1; have := (h_a1).2; have := (h_a2).1; have := (h_a2).2; have := (h_fa).1; have := (h_fa).2; have := (h90).1; have := (h90).2; have := (h_pa).1; have := (h_pa).2; have := (h126).1; have := (h126).2; have := (h137).1; have := (h137).2; have := (h89).1; have := (h89).2; have := (h_x9).1; have := (h_x9).2; omega
                exact tw_endi hx hb hr hlocks hK hT hS hQ (⟨(iv_mono h129 (by decide) (by decide)), ⟨x7, x138, k141, k139, (iv_mono h89 (by decide) (by decide)), h137, q142⟩⟩) dX10_number_116
              · have q143 : a1.toInt ≤ x1.toInt := ti_nlt c127
                have h144 : iv 0 2147483647 x1 := iv_geL (y := a1) h_x1 h_a1 q143 (by decide)
                refine lv_iload hx hb dX10_number_102 (lv_at hl 0 rfl) ?_
                refine lv_iload_n hx hb dX10_number_104 rfl (lv_at hl 4 rfl) ?_
                refine lv_icmp_le (tgt := 114) hx hb dX10_number_105 (by decide) (fun c145 => ?_) (fun c145 => ?_)
                · have q146 : x1.toInt ≤ a2.toInt := ti_le c145
                  have h147 : iv 0 2147483647 a2 := iv_geL (y := x1) h_a2 h144 q146 (by decide)
                  refine lv_iload hx hb dX10_number_114 (lv_at hl 0 rfl) ?_
                  have q148 : (pa.toInt ≤ x7.toInt ∧ (x7.toInt ≤ ln.toInt ∨ x7.toInt = pa.toInt)) ∧ (¬ x9.toInt = 0 ∨ fa.toInt = 0) := by
                    have := (h_a1).1; have := (h_a1).2; have := (h147).1; have := (h147).2; have := (h_fa).1; have := (h_fa).2; have := (h90).1; have := (h90).2; have := (h_pa).1; have := (h_pa).2; have := (h126).1; have := (h126).2; have := (h89).1; have := (h89).2; have := (h_x9).1; have := (h_x9).2; omega
                  exact tw_endi hx hb hr hlocks hK hT hS hQ (⟨(iv_mono h144 (by decide) (by decide)), ⟨x7, x9, k8, k10, (iv_mono h89 (by decide) (by decide)), h_x9, q148⟩⟩) dX10_number_116
                · have q149 : a2.toInt < x1.toInt := ti_nle c145
                  have h150 : iv (-2147483648) 2147483646 a2 := iv_ltL (y := x1) h_a2 h144 q149 (by decide)
                  refine lv_aload_n hx hb dX10_number_108 rfl (lv_at hl 2 rfl) ?_
                  refine lv_iload_n hx hb dX10_number_109 rfl (lv_at hl 1 rfl) ?_
                  refine lv_iconst (v := 1) hx hb dX10_number_110 (by decide) ?_
                  refine tw_gov hS (md_runU (As := [.int pa, .int 1]) (rest := []) hx hb hml hown hW hK hT hS.1 (t_X10_fail_1 l D cy tx base Z K N M2 R3 J95 hS.2.1 a0 hz_a0 hk_a0 pa h_pa 1 (iv_mono (iv_c (c := 1) (n := 1) (by decide)) (by decide) (by decide))) s_X10_50_X2 ⟨rfl, rfl, ⟨Nat.le_of_ble_eq_true rfl, Nat.le_of_ble_eq_true rfl⟩, ⟨Nat.le_of_ble_eq_true rfl, Nat.le_of_ble_eq_true rfl⟩⟩ hz_a0 hk_a0 (by decide) rfl rfl hl.1 rfl (Nat.le_of_ble_eq_true rfl) dX10_number_111) rfl rfl (fun H locs M154 R155 J153 hS f151 g152 E156 => ?_)
                  have eR155 := Fr.nil g152 rfl
                  subst eR155
                  have p157 := E156
                  clear E156
                  obtain ⟨x159, k160, h158, q161⟩ := p157
                  have k160 : M154 a0 3 = x159 := k160
                  refine lv_iload hx hb dX10_number_114 (lv_at hl 0 rfl) ?_
                  have k162 : M154 a0 2 = x7 := (Fr.kp (k := 2) f151 hk_a0 rfl).trans k8
                  have q163 : (pa.toInt ≤ x7.toInt ∧ (x7.toInt ≤ ln.toInt ∨ x7.toInt = pa.toInt)) ∧ (¬ x159.toInt = 0 ∨ fa.toInt = 0) := by
                    have := (h_a1).1; have := (h_a1).2; have := (h150).1; have := (h150).2; have := (h_fa).1; have := (h_fa).2; have := (h90).1; have := (h90).2; have := (h_pa).1; have := (h_pa).2; have := (h126).1; have := (h126).2; have := (h158).1; have := (h158).2; have := (h89).1; have := (h89).2; have := (h_x9).1; have := (h_x9).2; omega
                  exact tw_endi hx hb hr hlocks hK hT hS hQ (⟨(iv_mono h144 (by decide) (by decide)), ⟨x7, x159, k162, k160, (iv_mono h89 (by decide) (by decide)), h158, q163⟩⟩) dX10_number_116
          · have q164 : x7.toInt = pa.toInt := ti_eq c104
            have h165 : iv 0 399 pa := ⟨by have := (h89).1; have := (h_pa).1; omega, by have := (h89).2; have := (h_pa).2; omega⟩
            refine lv_aload_n hx hb dX10_number_77 rfl (lv_at hl 2 rfl) ?_
            refine lv_iload_n hx hb dX10_number_78 rfl (lv_at hl 1 rfl) ?_
            refine lv_iconst (v := 0) hx hb dX10_number_79 (by decide) ?_
            refine tw_gov hS (md_runU (As := [.int pa, .int 0]) (rest := []) hx hb hml hown hW hK hT hS.1 (t_X10_fail_1 l D cy tx base Z K N M2 R3 J95 hS.2.1 a0 hz_a0 hk_a0 pa (iv_mono h165 (by decide) (by decide)) 0 (iv_mono (iv_c (c := 0) (n := 0) (by decide)) (by decide) (by decide))) s_X10_50_X2 ⟨rfl, rfl, ⟨Nat.le_of_ble_eq_true rfl, Nat.le_of_ble_eq_true rfl⟩, ⟨Nat.le_of_ble_eq_true rfl, Nat.le_of_ble_eq_true rfl⟩⟩ hz_a0 hk_a0 (by decide) rfl rfl hl.1 rfl (Nat.le_of_ble_eq_true rfl) dX10_number_80) rfl rfl (fun H locs M169 R170 J168 hS f166 g167 E171 => ?_)
            have eR170 := Fr.nil g167 rfl
            subst eR170
            have p172 := E171
            clear E171
            obtain ⟨x174, k175, h173, q176⟩ := p172
            have k175 : M169 a0 3 = x174 := k175
            refine lv_goto (tgt := 114) hx hb dX10_number_83 (by decide) ?_
            refine lv_iload hx hb dX10_number_114 (lv_at hl 0 rfl) ?_
            have k177 : M169 a0 2 = x7 := (Fr.kp (k := 2) f166 hk_a0 rfl).trans k8
            have q178 : (pa.toInt ≤ x7.toInt ∧ (x7.toInt ≤ ln.toInt ∨ x7.toInt = pa.toInt)) ∧ (¬ x174.toInt = 0 ∨ fa.toInt = 0) := by
              have := (h_a1).1; have := (h_a1).2; have := (h_a2).1; have := (h_a2).2; have := (h_fa).1; have := (h_fa).2; have := (h90).1; have := (h90).2; have := (h165).1; have := (h165).2; have := (h173).1; have := (h173).2; have := (h89).1; have := (h89).2; have := (h_x9).1; have := (h_x9).2; omega
            exact tw_endi hx hb hr hlocks hK hT hS hQ (⟨h_x1, ⟨x7, x174, k177, k175, (iv_mono h89 (by decide) (by decide)), h173, q178⟩⟩) dX10_number_116
        · have q179 : ¬ x99.toInt = 0 := ti_ne c101
          have h180 : iv 1 1 x99 := ⟨by have := (h_x99).1; have := ((iv_c (c := 0) (n := 0) (by decide))).1; have := ((iv_c (c := 0) (n := 0) (by decide))).2; omega, by have := (h_x99).2; have := ((iv_c (c := 0) (n := 0) (by decide))).1; have := ((iv_c (c := 0) (n := 0) (by decide))).2; omega⟩
          have q181 := p100 c101
          refine lv_aload_n hx hb dX10_number_26 rfl (lv_at hl 2 rfl) ?_
          refine tw_getk hx hb hW hown hK hS f_X10_25_2 hz_a0 hk_a0 (v := x7) k8 dX10_number_27 ?_
          refine lv_iload_n hx hb dX10_number_30 rfl (lv_at hl 1 rfl) ?_
          refine tw_isub (lo := (-1000)) (hi := 399) hx hb h89 h_pa ⟨by decide, by decide⟩ ⟨by decide, by decide⟩ dX10_number_31 (fun x184 e183 h182 => ?_)
          refine lv_iconst (v := 5) hx hb dX10_number_32 (by decide) ?_
          refine lv_icmp_ge (tgt := 56) hx hb dX10_number_33 (by decide) (fun c185 => ?_) (fun c185 => ?_)
          · have q186 : 5 ≤ x184.toInt := ti_le c185
            have h187 : iv 5 399 x184 := iv_geL (y := 5) h182 (iv_c (c := 5) (n := 5) (by decide)) q186 (by decide)
            refine lv_aload_n hx hb dX10_number_56 rfl (lv_at hl 2 rfl) ?_
            refine lv_dup hx hb dX10_number_57 rfl ?_
            refine tw_getk hx hb hW hown hK hS f_X10_25_2 hz_a0 hk_a0 (v := x7) k8 dX10_number_58 ?_
            refine lv_iconst (v := 1) hx hb dX10_number_61 (by decide) ?_
            refine tw_iadd (lo := 1) (hi := 400) hx hb h89 (iv_c (c := 1) (n := 1) (by decide)) ⟨by decide, by decide⟩ ⟨by decide, by decide⟩ dX10_number_62 (fun x190 e189 h188 => ?_)
            have e189 : x190.toInt = x7.toInt + 1 := e189
            refine tw_puti hx hb hW hown hK hS f_X10_25_2 hz_a0 hk_a0 rfl rfl (lo := 0) (hi := 1000) rfl (iv_mono h188 (by decide) (by decide)) rfl dX10_number_63 (fun H locs M193 hS k191 f192 => ?_)
            refine lv_goto (tgt := 8) hx hb dX10_number_66 (by decide) ?_
            have k194 : M193 a0 3 = x9 := (Fr.kp (k := 3) f192 hk_a0 rfl).trans k10
            have w195 : pa.toInt ≤ x190.toInt ∧ (x190.toInt ≤ ln.toInt ∨ x190.toInt = pa.toInt) := by
              have := (h_a1).1; have := (h_a1).2; have := (h_a2).1; have := (h_a2).2; have := (h_fa).1; have := (h_fa).2; have := (h90).1; have := (h90).2; have := (h_pa).1; have := (h_pa).2; have := (h187).1; have := (h187).2; have := (h188).1; have := (h188).2; have := (h89).1; have := (h89).2; omega
            have w196 : x9.toInt = fa.toInt := by
              have := (h_a1).1; have := (h_a1).2; have := (h_a2).1; have := (h_a2).2; have := (h_fa).1; have := (h_fa).2; have := (h90).1; have := (h90).2; have := (h_pa).1; have := (h_pa).2; have := (h_x9).1; have := (h_x9).2; omega
            have hm197 : 1000 - x190.toInt < (n_2 : Int) := by
              have := (h_a1).1; have := (h_a1).2; have := (h_a2).1; have := (h_a2).2; have := (h_fa).1; have := (h_fa).2; have := (h90).1; have := (h90).2; have := (h_pa).1; have := (h_pa).2; have := (h187).1; have := (h187).2; have := (h188).1; have := (h188).2; have := (h89).1; have := (h89).2; omega
            exact ih_2 x1 x190 x9 M193 R3 J95 H locs _ h_x1 (iv_mono h188 (by decide) (by decide)) k191 h_x9 k194 w195 w196 hm197 hS hl
          · have q198 : x184.toInt < 5 := ti_nle c185
            have h199 : iv (-1000) 4 x184 := iv_ltL (y := 5) h182 (iv_c (c := 5) (n := 5) (by decide)) q198 (by decide)
            refine lv_iload hx hb dX10_number_36 (lv_at hl 0 rfl) ?_
            refine lv_bipush (v := 10) hx hb dX10_number_38 (by decide) ?_
            refine lv_imul hx hb dX10_number_40 ?_
            refine tw_top (fun x201 => ?_)
            have h200 := iv_any x201
            refine lv_aload_n hx hb dX10_number_41 rfl (lv_at hl 2 rfl) ?_
            have k202 : R3 a0 0 = some tb := (Fr.kp (k := 0) g6 hk_a0 rfl).trans k_tb
            refine tw_getrk hx hb hW hown hK hS f_X10_9_2 hz_a0 hk_a0 (b := tb) k202 dX10_number_42 ?_
            refine lv_aload_n hx hb dX10_number_45 rfl (lv_at hl 2 rfl) ?_
            refine tw_getk hx hb hW hown hK hS f_X10_25_2 hz_a0 hk_a0 (v := x7) k8 dX10_number_46 ?_
            refine tw_bald hx hb hK hS hz_tb hk_tb hn_tb h89 ⟨by decide, by decide⟩ dX10_number_49 (fun x205 k204 => ?_)
            have h203 := iv_any x205
            refine lv_iadd hx hb dX10_number_50 ?_
            refine tw_top (fun x207 => ?_)
            have h206 := iv_any x207
            refine lv_bipush (v := 48) hx hb dX10_number_51 (by decide) ?_
            refine lv_isub hx hb dX10_number_53 ?_
            refine tw_top (fun x209 => ?_)
            have h208 := iv_any x209
            refine lv_istore (lv' := [(4, .int x209), (3, .int pa), (0, .ref (base + a0)), (1, .int a1), (2, .int a2)]) hx hb dX10_number_54 hl (by decide) rfl (fun ls hl => ?_)
            refine lv_aload_n hx hb dX10_number_56 rfl (lv_at hl 2 rfl) ?_
            refine lv_dup hx hb dX10_number_57 rfl ?_
            refine tw_getk hx hb hW hown hK hS f_X10_25_2 hz_a0 hk_a0 (v := x7) k8 dX10_number_58 ?_
            refine lv_iconst (v := 1) hx hb dX10_number_61 (by decide) ?_
            refine tw_iadd (lo := 1) (hi := 400) hx hb h89 (iv_c (c := 1) (n := 1) (by decide)) ⟨by decide, by decide⟩ ⟨by decide, by decide⟩ dX10_number_62 (fun x212 e211 h210 => ?_)
            have e211 : x212.toInt = x7.toInt + 1 := e211
            refine tw_puti hx hb hW hown hK hS f_X10_25_2 hz_a0 hk_a0 rfl rfl (lo := 0) (hi := 1000) rfl (iv_mono h210 (by decide) (by decide)) rfl dX10_number_63 (fun H locs M215 hS k213 f214 => ?_)
            refine lv_goto (tgt := 8) hx hb dX10_number_66 (by decide) ?_
            have k216 : M215 a0 3 = x9 := (Fr.kp (k := 3) f214 hk_a0 rfl).trans k10
            have w217 : pa.toInt ≤ x212.toInt ∧ (x212.toInt ≤ ln.toInt ∨ x212.toInt = pa.toInt) := by
              have := (h_a1).1; have := (h_a1).2; have := (h_a2).1; have := (h_a2).2; have := (h_fa).1; have := (h_fa).2; have := (h90).1; have := (h90).2; have := (h_pa).1; have := (h_pa).2; have := (h199).1; have := (h199).2; have := (h210).1; have := (h210).2; have := (h89).1; have := (h89).2; omega
            have w218 : x9.toInt = fa.toInt := by
              have := (h_a1).1; have := (h_a1).2; have := (h_a2).1; have := (h_a2).2; have := (h_fa).1; have := (h_fa).2; have := (h90).1; have := (h90).2; have := (h_pa).1; have := (h_pa).2; have := (h_x9).1; have := (h_x9).2; omega
            have hm219 : 1000 - x212.toInt < (n_2 : Int) := by
              have := (h_a1).1; have := (h_a1).2; have := (h_a2).1; have := (h_a2).2; have := (h_fa).1; have := (h_fa).2; have := (h90).1; have := (h90).2; have := (h_pa).1; have := (h_pa).2; have := (h199).1; have := (h199).2; have := (h210).1; have := (h210).2; have := (h89).1; have := (h89).2; omega
            exact ih_2 x209 x212 x9 M215 R3 J95 H locs _ h208 (iv_mono h210 (by decide) (by decide)) k213 h_x9 k216 w217 w218 hm219 hS hl
  have w220 : pa.toInt ≤ pa.toInt ∧ (pa.toInt ≤ ln.toInt ∨ pa.toInt = pa.toInt) := by
    have := (h_a1).1; have := (h_a1).2; have := (h_a2).1; have := (h_a2).2; have := (h_fa).1; have := (h_fa).2; have := (h_ln).1; have := (h_ln).2; have := (h_pa).1; have := (h_pa).2; omega
  have w221 : fa.toInt = fa.toInt := by
    have := (h_a1).1; have := (h_a1).2; have := (h_a2).1; have := (h_a2).2; have := (h_fa).1; have := (h_fa).2; have := (h_ln).1; have := (h_ln).2; have := (h_pa).1; have := (h_pa).2; omega
  have hm222 : 1000 - pa.toInt < (((1001 : Nat) : Int) : Int) := by
    have := (h_a1).1; have := (h_a1).2; have := (h_a2).1; have := (h_a2).2; have := (h_fa).1; have := (h_fa).2; have := (h_ln).1; have := (h_ln).2; have := (h_pa).1; have := (h_pa).2; omega
  exact W8_2 1001 0 pa fa Ma Ra Ja s.heap [] _ (iv_mono (iv_c (c := 0) (n := 0) (by decide)) (by decide) (by decide)) h_pa k_pa h_fa k_fa w220 w221 hm222 hS hl
def Lt_X10_passWord : WL := [(9, 2, 3)]
def LRt_X10_passWord : WL := []
set_option maxRecDepth 100000 in
set_option maxHeartbeats 4000000 in
theorem t_X10_passWord (l : Launch) (D : va_G) (cy : Nat → ClassId) (tx : (Nat → Nat) × (Nat → Nat)) (base Z : Nat) (K N : Nat → Nat) (Ma : MT) (Ra : RT) (Ja : JT) (hTy : Ty Z K N Ma Ra) (a0 : Nat) (hz_a0 : a0 < Z) (hk_a0 : K a0 = 9) (we : Int32) (k_we : Ma a0 4 = we) (h_we : iv 0 1000 we) : Met l yX10_passWord [Cond.code yX10_passWord cX10_passWord 1 none] (md_rm 1 0 0) (va_Pc [.ref (base + a0)] (md_U D cy tx base Z K N Ma Ra Ja)) (mQv D cy tx base (fun u => TP Z K N Lt_X10_passWord LRt_X10_passWord Ma Ra u ∧ (u.2.2.2.1 a0 2 = we))) 0 0 (fun q => base ≤ q) := by
  refine tw_ofW (L := Lt_X10_passWord) (LR := LRt_X10_passWord) (by decide) (Nat.le_of_ble_eq_true rfl) hTy ?_
  intro p e s m args below meth c Q ls hx hb hr hlocks hown hml hW hK hT hS hQ hl
  have hl : lv_has ls 1 [(0, .ref (base + a0))] := hl
  refine lv_aload_n hx hb dX10_passWord_0 rfl (lv_at hl 0 rfl) ?_
  refine lv_aload_n hx hb dX10_passWord_1 rfl (lv_at hl 0 rfl) ?_
  refine tw_getk hx hb hW hown hK hS f_X10_35_8 hz_a0 hk_a0 (v := we) k_we dX10_passWord_2 ?_
  refine tw_puti hx hb hW hown hK hS f_X10_25_8 hz_a0 hk_a0 rfl rfl (lo := 0) (hi := 1000) rfl h_we rfl dX10_passWord_5 (fun H locs M3 hS k1 f2 => ?_)
  exact tw_endv hx hb hr hlocks hK hT hS hQ (k1) dX10_passWord_8
def Lt_X10_passWord_1 : WL := [(3, 2, 3)]
def LRt_X10_passWord_1 : WL := []
set_option maxRecDepth 100000 in
set_option maxHeartbeats 4000000 in
theorem t_X10_passWord_1 (l : Launch) (D : va_G) (cy : Nat → ClassId) (tx : (Nat → Nat) × (Nat → Nat)) (base Z : Nat) (K N : Nat → Nat) (Ma : MT) (Ra : RT) (Ja : JT) (hTy : Ty Z K N Ma Ra) (a0 : Nat) (hz_a0 : a0 < Z) (hk_a0 : K a0 = 3) (we : Int32) (k_we : Ma a0 4 = we) (h_we : iv 0 1000 we) : Met l yX10_passWord [Cond.code yX10_passWord cX10_passWord 1 none] (md_rm 1 0 0) (va_Pc [.ref (base + a0)] (md_U D cy tx base Z K N Ma Ra Ja)) (mQv D cy tx base (fun u => TP Z K N Lt_X10_passWord_1 LRt_X10_passWord_1 Ma Ra u ∧ (u.2.2.2.1 a0 2 = we))) 0 0 (fun q => base ≤ q) := by
  refine tw_ofW (L := Lt_X10_passWord_1) (LR := LRt_X10_passWord_1) (by decide) (Nat.le_of_ble_eq_true rfl) hTy ?_
  intro p e s m args below meth c Q ls hx hb hr hlocks hown hml hW hK hT hS hQ hl
  have hl : lv_has ls 1 [(0, .ref (base + a0))] := hl
  refine lv_aload_n hx hb dX10_passWord_0 rfl (lv_at hl 0 rfl) ?_
  refine lv_aload_n hx hb dX10_passWord_1 rfl (lv_at hl 0 rfl) ?_
  refine tw_getk hx hb hW hown hK hS f_X10_35_2 hz_a0 hk_a0 (v := we) k_we dX10_passWord_2 ?_
  refine tw_puti hx hb hW hown hK hS f_X10_25_2 hz_a0 hk_a0 rfl rfl (lo := 0) (hi := 1000) rfl h_we rfl dX10_passWord_5 (fun H locs M3 hS k1 f2 => ?_)
  exact tw_endv hx hb hr hlocks hK hT hS hQ (k1) dX10_passWord_8
