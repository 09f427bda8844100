def Lt_X12_sets : WL := [(12, 31, 33)]
def LRt_X12_sets : WL := []
set_option maxRecDepth 100000 in
set_option maxHeartbeats 4000000 in
theorem t_X12_sets (l : Launch) (D : va_G) (cy : Nat → ClassId) (tx : (Nat → Nat) × (Nat → Nat)) (base Z : Nat) (K N : Nat → Nat) (Ma : MT) (Ra : RT) (Ja : JT) (hTy : Ty Z K N Ma Ra) (a0 : Nat) (hz_a0 : a0 < Z) (hk_a0 : K a0 = 12) (a1 : Int32) (h_a1 : iv 0 9 a1) (a2 : Int32) (h_a2 : iv (-2147483648) 2147483647 a2) : Met l yX12_sets [Cond.code yX12_sets cX12_sets 3 none] (md_rm 1 0 0) (va_Pc [.ref (base + a0), .int a1, .int a2] (md_U D cy tx base Z K N Ma Ra Ja)) (mQv D cy tx base (fun u => TP Z K N Lt_X12_sets LRt_X12_sets Ma Ra u ∧ (True))) 0 0 (fun q => base ≤ q) := by
  refine tw_ofW (L := Lt_X12_sets) (LR := LRt_X12_sets) (by decide) (Nat.le_of_ble_eq_true rfl) hTy ?_
  intro p e s m args below meth c Q ls hx hb hr hlocks hown hml hW hK hT hS hQ hl
  have hl : lv_has ls 3 [(0, .ref (base + a0)), (1, .int a1), (2, .int a2)] := hl
  refine lv_aload_n hx hb dX12_sets_0 rfl (lv_at hl 0 rfl) ?_
  refine lv_dup hx hb dX12_sets_1 rfl ?_
  refine tw_geti hx hb hW hown hK hS f_X12_364_11 hz_a0 hk_a0 (lo := (-2147483648)) (hi := 2147483647) rfl dX12_sets_2 (fun x3 k2 h1 => ?_)
  refine lv_iconst (v := 1) hx hb dX12_sets_5 (by decide) ?_
  refine lv_iload_n hx hb dX12_sets_6 rfl (lv_at hl 1 rfl) ?_
  refine lv_ishl hx hb dX12_sets_7 ?_
  refine tw_top (fun x5 => ?_)
  have h4 := iv_any x5
  refine lv_iconst (v := (-1)) hx hb dX12_sets_8 (by decide) ?_
  refine lv_ixor hx hb dX12_sets_9 ?_
  refine tw_top (fun x7 => ?_)
  have h6 := iv_any x7
  refine lv_iand hx hb dX12_sets_10 ?_
  refine tw_top (fun x9 => ?_)
  have h8 := iv_any x9
  refine tw_puti hx hb hW hown hK hS f_X12_364_11 hz_a0 hk_a0 rfl rfl (lo := (-2147483648)) (hi := 2147483647) rfl h8 rfl dX12_sets_11 (fun H locs M12 hS k10 f11 => ?_)
  refine lv_aload_n hx hb dX12_sets_14 rfl (lv_at hl 0 rfl) ?_
  refine lv_dup hx hb dX12_sets_15 rfl ?_
  refine tw_geti hx hb hW hown hK hS f_X12_367_11 hz_a0 hk_a0 (lo := (-2147483648)) (hi := 2147483647) rfl dX12_sets_16 (fun x15 k14 h13 => ?_)
  refine lv_iconst (v := 1) hx hb dX12_sets_19 (by decide) ?_
  refine lv_iload_n hx hb dX12_sets_20 rfl (lv_at hl 1 rfl) ?_
  refine lv_ishl hx hb dX12_sets_21 ?_
  refine tw_top (fun x17 => ?_)
  have h16 := iv_any x17
  refine lv_iconst (v := (-1)) hx hb dX12_sets_22 (by decide) ?_
  refine lv_ixor hx hb dX12_sets_23 ?_
  refine tw_top (fun x19 => ?_)
  have h18 := iv_any x19
  refine lv_iand hx hb dX12_sets_24 ?_
  refine tw_top (fun x21 => ?_)
  have h20 := iv_any x21
  refine tw_puti hx hb hW hown hK hS f_X12_367_11 hz_a0 hk_a0 rfl rfl (lo := (-2147483648)) (hi := 2147483647) rfl h20 rfl dX12_sets_25 (fun H locs M24 hS k22 f23 => ?_)
  refine lv_aload_n hx hb dX12_sets_28 rfl (lv_at hl 0 rfl) ?_
  refine lv_dup hx hb dX12_sets_29 rfl ?_
  have k25 : M24 a0 31 = x9 := (Fr.kp (k := 31) f23 hk_a0 rfl).trans k10
  refine tw_getk hx hb hW hown hK hS f_X12_364_11 hz_a0 hk_a0 (v := x9) k25 dX12_sets_30 ?_
  refine lv_iload_n hx hb dX12_sets_33 rfl (lv_at hl 2 rfl) ?_
  refine lv_iconst (v := 1) hx hb dX12_sets_34 (by decide) ?_
  refine lv_icmp_ne (tgt := 44) hx hb dX12_sets_35 (by decide) (fun c26 => ?_) (fun c26 => ?_)
  · have q27 : ¬ a2.toInt = 1 := ti_ne c26
    refine lv_iconst (v := 0) hx hb dX12_sets_44 (by decide) ?_
    refine lv_ior hx hb dX12_sets_45 ?_
    refine tw_top (fun x29 => ?_)
    have h28 := iv_any x29
    refine tw_puti hx hb hW hown hK hS f_X12_364_11 hz_a0 hk_a0 rfl rfl (lo := (-2147483648)) (hi := 2147483647) rfl h28 rfl dX12_sets_46 (fun H locs M32 hS k30 f31 => ?_)
    refine lv_aload_n hx hb dX12_sets_49 rfl (lv_at hl 0 rfl) ?_
    refine lv_dup hx hb dX12_sets_50 rfl ?_
    have k33 : M32 a0 32 = x21 := (Fr.kp (k := 32) f31 hk_a0 rfl).trans k22
    refine tw_getk hx hb hW hown hK hS f_X12_367_11 hz_a0 hk_a0 (v := x21) k33 dX12_sets_51 ?_
    refine lv_iload_n hx hb dX12_sets_54 rfl (lv_at hl 2 rfl) ?_
    refine lv_if_ne (tgt := 64) hx hb dX12_sets_55 (by decide) (fun c34 => ?_) (fun c34 => ?_)
    · have q35 : ¬ a2.toInt = 0 := ti_ne c34
      refine lv_iconst (v := 0) hx hb dX12_sets_64 (by decide) ?_
      refine lv_ior hx hb dX12_sets_65 ?_
      refine tw_top (fun x37 => ?_)
      have h36 := iv_any x37
      refine tw_puti hx hb hW hown hK hS f_X12_367_11 hz_a0 hk_a0 rfl rfl (lo := (-2147483648)) (hi := 2147483647) rfl h36 rfl dX12_sets_66 (fun H locs M40 hS k38 f39 => ?_)
      exact tw_endv hx hb hr hlocks hK hT hS hQ (trivial) dX12_sets_69
    · have q41 : a2.toInt = 0 := ti_eq c34
      have h42 : iv 0 0 a2 := ⟨by have := (h_a2).1; have := ((iv_c (c := 0) (n := 0) (by decide))).1; omega, by have := (h_a2).2; have := ((iv_c (c := 0) (n := 0) (by decide))).2; omega⟩
      refine lv_iconst (v := 1) hx hb dX12_sets_58 (by decide) ?_
      refine lv_iload_n hx hb dX12_sets_59 rfl (lv_at hl 1 rfl) ?_
      refine lv_ishl hx hb dX12_sets_60 ?_
      refine tw_top (fun x44 => ?_)
      have h43 := iv_any x44
      refine lv_goto (tgt := 65) hx hb dX12_sets_61 (by decide) ?_
      refine lv_ior hx hb dX12_sets_65 ?_
      refine tw_top (fun x46 => ?_)
      have h45 := iv_any x46
      refine tw_puti hx hb hW hown hK hS f_X12_367_11 hz_a0 hk_a0 rfl rfl (lo := (-2147483648)) (hi := 2147483647) rfl h45 rfl dX12_sets_66 (fun H locs M49 hS k47 f48 => ?_)
      exact tw_endv hx hb hr hlocks hK hT hS hQ (trivial) dX12_sets_69
  · have q50 : a2.toInt = 1 := ti_eq c26
    have h51 : iv 1 1 a2 := ⟨by have := (h_a2).1; have := ((iv_c (c := 1) (n := 1) (by decide))).1; omega, by have := (h_a2).2; have := ((iv_c (c := 1) (n := 1) (by decide))).2; omega⟩
    refine lv_iconst (v := 1) hx hb dX12_sets_38 (by decide) ?_
    refine lv_iload_n hx hb dX12_sets_39 rfl (lv_at hl 1 rfl) ?_
    refine lv_ishl hx hb dX12_sets_40 ?_
    refine tw_top (fun x53 => ?_)
    have h52 := iv_any x53
    refine lv_goto (tgt := 45) hx hb dX12_sets_41 (by decide) ?_
    refine lv_ior hx hb dX12_sets_45 ?_
    refine tw_top (fun x55 => ?_)
    have h54 := iv_any x55
    refine tw_puti hx hb hW hown hK hS f_X12_364_11 hz_a0 hk_a0 rfl rfl (lo := (-2147483648)) (hi := 2147483647) rfl h54 rfl dX12_sets_46 (fun H locs M58 hS k56 f57 => ?_)
    refine lv_aload_n hx hb dX12_sets_49 rfl (lv_at hl 0 rfl) ?_
    refine lv_dup hx hb dX12_sets_50 rfl ?_
    have k59 : M58 a0 32 = x21 := (Fr.kp (k := 32) f57 hk_a0 rfl).trans k22
    refine tw_getk hx hb hW hown hK hS f_X12_367_11 hz_a0 hk_a0 (v := x21) k59 dX12_sets_51 ?_
    refine lv_iload_n hx hb dX12_sets_54 rfl (lv_at hl 2 rfl) ?_
    refine lv_if_ne (tgt := 64) hx hb dX12_sets_55 (by decide) (fun c60 => ?_) (fun c60 => False.elim (by have q : a2.toInt = 0 := ti_eq c60; have := (h51).1; have := (h51).2; omega))
    have q61 : ¬ a2.toInt = 0 := ti_ne c60
    refine lv_iconst (v := 0) hx hb dX12_sets_64 (by decide) ?_
    refine lv_ior hx hb dX12_sets_65 ?_
    refine tw_top (fun x63 => ?_)
    have h62 := iv_any x63
    refine tw_puti hx hb hW hown hK hS f_X12_367_11 hz_a0 hk_a0 rfl rfl (lo := (-2147483648)) (hi := 2147483647) rfl h62 rfl dX12_sets_66 (fun H locs M66 hS k64 f65 => ?_)
    exact tw_endv hx hb hr hlocks hK hT hS hQ (trivial) dX12_sets_69
def Lt_X12_wordsForAll : WL := []
def LRt_X12_wordsForAll : WL := []
set_option maxRecDepth 100000 in
set_option maxHeartbeats 4000000 in
theorem t_X12_wordsForAll (l : Launch) (D : va_G) (cy : Nat → ClassId) (tx : (Nat → Nat) × (Nat → Nat)) (base Z : Nat) (K N : Nat → Nat) (Ma : MT) (Ra : RT) (Ja : JT) (hTy : Ty Z K N Ma Ra) (a0 : Nat) (hz_a0 : a0 < Z) (hk_a0 : K a0 = 12) (a1 : Int32) (h_a1 : iv 0 11 a1) (a2 : Int32) (h_a2 : iv (-1) 7 a2) : Met l yX12_wordsForAll [Cond.code yX12_wordsForAll cX12_wordsForAll 4 none] (md_rm 2 0 0) (va_Pc [.ref (base + a0), .int a1, .int a2] (md_U D cy tx base Z K N Ma Ra Ja)) (mQv D cy tx base (fun u => TP Z K N Lt_X12_wordsForAll LRt_X12_wordsForAll Ma Ra u ∧ (True))) 0 0 (fun q => base ≤ q) := by
  refine tw_ofW (L := Lt_X12_wordsForAll) (LR := LRt_X12_wordsForAll) (by decide) (Nat.le_of_ble_eq_true rfl) hTy ?_
  intro p e s m args below meth c Q ls hx hb hr hlocks hown hml hW hK hT hS hQ hl
  have hl : lv_has ls 4 [(0, .ref (base + a0)), (1, .int a1), (2, .int a2)] := hl
  refine lv_aload_n hx hb dX12_wordsForAll_0 rfl (lv_at hl 0 rfl) ?_
  refine tw_getr hx hb hW hown hK hS f_X12_42_11 hz_a0 hk_a0 (t := 15) (n := 10) rfl dX12_wordsForAll_1 (fun b1 k2 hz_b1 hk_b1 hn_b1 => ?_)
  have hn_b1 := hn_b1 (by decide)
  refine lv_iconst (v := 1) hx hb dX12_wordsForAll_4 (by decide) ?_
  refine lv_iload_n hx hb dX12_wordsForAll_5 rfl (lv_at hl 1 rfl) ?_
  refine lv_i2l hx hb dX12_wordsForAll_6 rfl ?_
  refine tw_last hx hb hK hS hz_b1 hk_b1 hn_b1 (iv_c (c := 1) (n := 1) (by decide)) ⟨by decide, by decide⟩ dX12_wordsForAll_7 (fun H locs J3 hS => ?_)
  refine lv_aload_n hx hb dX12_wordsForAll_8 rfl (lv_at hl 0 rfl) ?_
  refine tw_getrk hx hb hW hown hK hS f_X12_42_11 hz_a0 hk_a0 (b := b1) k2 dX12_wordsForAll_9 ?_
  refine lv_iconst (v := 4) hx hb dX12_wordsForAll_12 (by decide) ?_
  refine lv_lconst (v := 0) hx hb dX12_wordsForAll_13 (by decide) ?_
  refine tw_last hx hb hK hS hz_b1 hk_b1 hn_b1 (iv_c (c := 4) (n := 4) (by decide)) ⟨by decide, by decide⟩ dX12_wordsForAll_14 (fun H locs J4 hS => ?_)
  refine lv_aload_n hx hb dX12_wordsForAll_15 rfl (lv_at hl 0 rfl) ?_
  refine tw_getrk hx hb hW hown hK hS f_X12_42_11 hz_a0 hk_a0 (b := b1) k2 dX12_wordsForAll_16 ?_
  refine lv_iconst (v := 5) hx hb dX12_wordsForAll_19 (by decide) ?_
  refine lv_lconst (v := 0) hx hb dX12_wordsForAll_20 (by decide) ?_
  refine tw_last hx hb hK hS hz_b1 hk_b1 hn_b1 (iv_c (c := 5) (n := 5) (by decide)) ⟨by decide, by decide⟩ dX12_wordsForAll_21 (fun H locs J5 hS => ?_)
  refine lv_aload_n hx hb dX12_wordsForAll_22 rfl (lv_at hl 0 rfl) ?_
  refine tw_getrk hx hb hW hown hK hS f_X12_42_11 hz_a0 hk_a0 (b := b1) k2 dX12_wordsForAll_23 ?_
  refine lv_bipush (v := 6) hx hb dX12_wordsForAll_26 (by decide) ?_
  refine lv_lconst (v := 0) hx hb dX12_wordsForAll_28 (by decide) ?_
  refine tw_last hx hb hK hS hz_b1 hk_b1 hn_b1 (iv_c (c := 6) (n := 6) (by decide)) ⟨by decide, by decide⟩ dX12_wordsForAll_29 (fun H locs J6 hS => ?_)
  refine lv_iconst (v := 0) hx hb dX12_wordsForAll_30 (by decide) ?_
  refine lv_istore_n (lv' := [(3, .int 0), (0, .ref (base + a0)), (1, .int a1), (2, .int a2)]) hx hb dX12_wordsForAll_31 rfl hl (by decide) rfl (fun ls hl => ?_)
  have W32_8 : ∀ (n_8 : Nat) (x7 : Int32) (M8 : MT) (R9 : RT) (J10 : JT) (H : Heap) (locs : List Loc) (ls : Array Slot) (h_x7 : iv 0 10 x7) (hm_8 : 10 - x7.toInt < (n_8 : Int)) (hS : SB D cy base Z K N Lt_X12_wordsForAll LRt_X12_wordsForAll Ma Ra M8 R9 J10 s H locs) (hl : lv_has ls 4 [(3, .int x7), (0, .ref (base + a0)), (1, .int a1), (2, .int a2)]), W p l e (md_rm 2 0 0) s m args below meth c H locs 0 0 Q (F0 m 32 ls []) := by
    intro n_8
    induction n_8 with
    | zero =>
      intro x7 M8 R9 J10 H locs ls h_x7 hm_8 hS hl
      exfalso
      have := (h_a1).1; have := (h_a1).2; have := (h_a2).1; have := (h_a2).2; have := (h_x7).1; have := (h_x7).2; omega
    | succ n_8 ih_8 =>
      intro x7 M8 R9 J10 H locs ls h_x7 hm_8 hS hl
      have f11 := hS.2.2.1
      have g12 := hS.2.2.2
      refine lv_iload_n hx hb dX12_wordsForAll_32 rfl (lv_at hl 0 rfl) ?_
      refine lv_aload_n hx hb dX12_wordsForAll_33 rfl (lv_at hl 1 rfl) ?_
      refine tw_getr hx hb hW hown hK hS f_X12_45_11 hz_a0 hk_a0 (t := 23) (n := 226) rfl dX12_wordsForAll_34 (fun b13 k14 hz_b13 hk_b13 hn_b13 => ?_)
      have hn_b13 := hn_b13 (by decide)
      refine lv_iconst (v := 0) hx hb dX12_wordsForAll_37 (by decide) ?_
      refine tw_iald hx hb hK hS hz_b13 hk_b13 (Or.inr (by decide)) hn_b13 (lo := 0) (hi := 10) (iv_c (c := 0) (n := 0) (by decide)) ⟨by decide, by decide⟩ (rg_c (k0 := 0) rfl rfl rfl) dX12_wordsForAll_38 (fun x17 k16 h15 => ?_)
      refine lv_icmp_ge (tgt := 139) hx hb dX12_wordsForAll_39 (by decide) (fun c18 => ?_) (fun c18 => ?_)
      · have q19 : x17.toInt ≤ x7.toInt := ti_le c18
        refine lv_aload_n hx hb dX12_wordsForAll_139 rfl (lv_at hl 1 rfl) ?_
        have k20 : R9 a0 24 = some b1 := (Fr.kp (k := 24) g12 hk_a0 rfl).trans k2
        refine tw_getrk hx hb hW hown hK hS f_X12_42_11 hz_a0 hk_a0 (b := b1) k20 dX12_wordsForAll_140 ?_
        refine lv_bipush (v := 8) hx hb dX12_wordsForAll_143 (by decide) ?_
        refine lv_iload_n hx hb dX12_wordsForAll_145 rfl (lv_at hl 3 rfl) ?_
        refine lv_if_ge (tgt := 153) hx hb dX12_wordsForAll_146 (by decide) (fun c21 => ?_) (fun c21 => ?_)
        · have q22 : 0 ≤ a2.toInt := ti_le c21
          have h23 : iv 0 7 a2 := iv_geL (y := 0) h_a2 (iv_c (c := 0) (n := 0) (by decide)) q22 (by decide)
          refine lv_aload_n hx hb dX12_wordsForAll_153 rfl (lv_at hl 1 rfl) ?_
          refine tw_geti hx hb hW hown hK hS f_X12_351_11 hz_a0 hk_a0 (lo := 0) (hi := 8) rfl dX12_wordsForAll_154 (fun x26 k25 h24 => ?_)
          refine lv_iconst (v := 1) hx hb dX12_wordsForAll_157 (by decide) ?_
          refine tw_isub (lo := (-1)) (hi := 7) hx hb h24 (iv_c (c := 1) (n := 1) (by decide)) ⟨by decide, by decide⟩ ⟨by decide, by decide⟩ dX12_wordsForAll_158 (fun x29 e28 h27 => ?_)
          have e28 : x29.toInt = x26.toInt - 1 := e28
          refine lv_iload_n hx hb dX12_wordsForAll_159 rfl (lv_at hl 3 rfl) ?_
          refine tw_isub (lo := (-8)) (hi := 7) hx hb h27 h23 ⟨by decide, by decide⟩ ⟨by decide, by decide⟩ dX12_wordsForAll_160 (fun x32 e31 h30 => ?_)
          refine lv_i2l hx hb dX12_wordsForAll_161 rfl ?_
          refine tw_last hx hb hK hS hz_b1 hk_b1 hn_b1 (iv_c (c := 8) (n := 8) (by decide)) ⟨by decide, by decide⟩ dX12_wordsForAll_162 (fun H locs J33 hS => ?_)
          refine lv_aload_n hx hb dX12_wordsForAll_163 rfl (lv_at hl 1 rfl) ?_
          have k34 : R9 a0 24 = some b1 := (Fr.kp (k := 24) g12 hk_a0 rfl).trans k2
          refine tw_getrk hx hb hW hown hK hS f_X12_42_11 hz_a0 hk_a0 (b := b1) k34 dX12_wordsForAll_164 ?_
          refine lv_bipush (v := 9) hx hb dX12_wordsForAll_167 (by decide) ?_
          refine lv_aload_n hx hb dX12_wordsForAll_169 rfl (lv_at hl 1 rfl) ?_
          refine tw_geti hx hb hW hown hK hS f_X12_348_11 hz_a0 hk_a0 (lo := (-2147483648)) (hi := 2147483647) rfl dX12_wordsForAll_170 (fun x37 k36 h35 => ?_)
          refine lv_i2l hx hb dX12_wordsForAll_173 rfl ?_
          refine tw_last hx hb hK hS hz_b1 hk_b1 hn_b1 (iv_c (c := 9) (n := 9) (by decide)) ⟨by decide, by decide⟩ dX12_wordsForAll_174 (fun H locs J38 hS => ?_)
          exact tw_endv hx hb hr hlocks hK hT hS hQ (trivial) dX12_wordsForAll_175
        · have q39 : a2.toInt < 0 := ti_nle c21
          have h40 : iv (-1) (-1) a2 := iv_ltL (y := 0) h_a2 (iv_c (c := 0) (n := 0) (by decide)) q39 (by decide)
          refine lv_lconst (v := 0) hx hb dX12_wordsForAll_149 (by decide) ?_
          refine lv_goto (tgt := 162) hx hb dX12_wordsForAll_150 (by decide) ?_
          refine tw_last hx hb hK hS hz_b1 hk_b1 hn_b1 (iv_c (c := 8) (n := 8) (by decide)) ⟨by decide, by decide⟩ dX12_wordsForAll_162 (fun H locs J41 hS => ?_)
          refine lv_aload_n hx hb dX12_wordsForAll_163 rfl (lv_at hl 1 rfl) ?_
          have k42 : R9 a0 24 = some b1 := (Fr.kp (k := 24) g12 hk_a0 rfl).trans k2
          refine tw_getrk hx hb hW hown hK hS f_X12_42_11 hz_a0 hk_a0 (b := b1) k42 dX12_wordsForAll_164 ?_
          refine lv_bipush (v := 9) hx hb dX12_wordsForAll_167 (by decide) ?_
          refine lv_aload_n hx hb dX12_wordsForAll_169 rfl (lv_at hl 1 rfl) ?_
          refine tw_geti hx hb hW hown hK hS f_X12_348_11 hz_a0 hk_a0 (lo := (-2147483648)) (hi := 2147483647) rfl dX12_wordsForAll_170 (fun x45 k44 h43 => ?_)
          refine lv_i2l hx hb dX12_wordsForAll_173 rfl ?_
          refine tw_last hx hb hK hS hz_b1 hk_b1 hn_b1 (iv_c (c := 9) (n := 9) (by decide)) ⟨by decide, by decide⟩ dX12_wordsForAll_174 (fun H locs J46 hS => ?_)
          exact tw_endv hx hb hr hlocks hK hT hS hQ (trivial) dX12_wordsForAll_175
      · have q47 : x7.toInt < x17.toInt := ti_nle c18
        have h48 : iv 0 9 x7 := iv_ltL (y := x17) h_x7 h15 q47 (by decide)
        have h49 : iv 1 10 x17 := iv_gtL (y := x7) h15 h_x7 q47 (by decide)
        refine lv_aload_n hx hb dX12_wordsForAll_42 rfl (lv_at hl 1 rfl) ?_
        refine tw_getrk hx hb hW hown hK hS f_X12_45_11 hz_a0 hk_a0 (b := b13) k14 dX12_wordsForAll_43 ?_
        refine lv_iconst (v := 2) hx hb dX12_wordsForAll_46 (by decide) ?_
        refine tw_iald hx hb hK hS hz_b13 hk_b13 (Or.inr (by decide)) hn_b13 (lo := (-2147483648)) (hi := 2147483647) (iv_c (c := 2) (n := 2) (by decide)) ⟨by decide, by decide⟩ (rg_c (k0 := 2) rfl rfl rfl) dX12_wordsForAll_47 (fun x52 k51 h50 => ?_)
        refine lv_iload_n hx hb dX12_wordsForAll_48 rfl (lv_at hl 0 rfl) ?_
        refine tw_goi hS (md_runS (As := [.int x52, .int x7]) (rest := []) hx hb hml hown hW hK hT hS.1 (t_X12_isOf l D cy tx base Z K N M8 R9 J10 hS.2.1 x52 h50 x7 h48) s_X12_322 ⟨rfl, rfl, ⟨Nat.le_of_ble_eq_true rfl, Nat.le_of_ble_eq_true rfl⟩, ⟨Nat.le_of_ble_eq_true rfl, Nat.le_of_ble_eq_true rfl⟩⟩ rfl hl.1 rfl (Nat.le_of_ble_eq_true rfl) dX12_wordsForAll_49) rfl rfl (fun x59 H locs M56 R57 J55 hS f53 g54 E58 => ?_)
        have eM56 := Fr.nil f53 rfl
        subst eM56
        have eR57 := Fr.nil g54 rfl
        subst eR57
        have h_x59 := E58
        clear E58
        refine lv_if_ne (tgt := 58) hx hb dX12_wordsForAll_52 (by decide) (fun c60 => ?_) (fun c60 => ?_)
        · have q61 : ¬ x59.toInt = 0 := ti_ne c60
          have h62 : iv 1 1 x59 := ⟨by have := (h_x59).1; have := ((iv_c (c := 0) (n := 0) (by decide))).1; have := ((iv_c (c := 0) (n := 0) (by decide))).2; omega, by have := (h_x59).2; have := ((iv_c (c := 0) (n := 0) (by decide))).1; have := ((iv_c (c := 0) (n := 0) (by decide))).2; omega⟩
          refine lv_aload_n hx hb dX12_wordsForAll_58 rfl (lv_at hl 1 rfl) ?_
          have k63 : R9 a0 24 = some b1 := (Fr.kp (k := 24) g12 hk_a0 rfl).trans k2
          refine tw_getrk hx hb hW hown hK hS f_X12_42_11 hz_a0 hk_a0 (b := b1) k63 dX12_wordsForAll_59 ?_
          refine lv_iconst (v := 4) hx hb dX12_wordsForAll_62 (by decide) ?_
          refine lv_dup2_11 hx hb dX12_wordsForAll_63 rfl rfl ?_
          refine tw_lald hx hb hK hS hz_b1 hk_b1 hn_b1 (iv_c (c := 4) (n := 4) (by decide)) ⟨by decide, by decide⟩ dX12_wordsForAll_64 (fun x64 => ?_)
          refine lv_aload_n hx hb dX12_wordsForAll_65 rfl (lv_at hl 1 rfl) ?_
          refine tw_getr hx hb hW hown hK hS f_X12_51_11 hz_a0 hk_a0 (t := 30) (n := 10) rfl dX12_wordsForAll_66 (fun b65 k66 hz_b65 hk_b65 hn_b65 => ?_)
          have hn_b65 := hn_b65 (by decide)
          refine lv_iload_n hx hb dX12_wordsForAll_69 rfl (lv_at hl 0 rfl) ?_
          refine tw_iald hx hb hK hS hz_b65 hk_b65 (Or.inr (by decide)) hn_b65 (lo := 0) (hi := 9999) h48 ⟨by decide, by decide⟩ rg_u30 dX12_wordsForAll_70 (fun x69 k68 h67 => ?_)
          refine lv_i2l hx hb dX12_wordsForAll_71 rfl ?_
          refine lv_ladd hx hb dX12_wordsForAll_72 ?_
          refine tw_topl (fun x70 => ?_)
          refine tw_last hx hb hK hS hz_b1 hk_b1 hn_b1 (iv_c (c := 4) (n := 4) (by decide)) ⟨by decide, by decide⟩ dX12_wordsForAll_73 (fun H locs J71 hS => ?_)
          refine lv_aload_n hx hb dX12_wordsForAll_74 rfl (lv_at hl 1 rfl) ?_
          have k72 : R9 a0 24 = some b1 := (Fr.kp (k := 24) g12 hk_a0 rfl).trans k2
          refine tw_getrk hx hb hW hown hK hS f_X12_42_11 hz_a0 hk_a0 (b := b1) k72 dX12_wordsForAll_75 ?_
          refine lv_iconst (v := 5) hx hb dX12_wordsForAll_78 (by decide) ?_
          refine lv_dup2_11 hx hb dX12_wordsForAll_79 rfl rfl ?_
          refine tw_lald hx hb hK hS hz_b1 hk_b1 hn_b1 (iv_c (c := 5) (n := 5) (by decide)) ⟨by decide, by decide⟩ dX12_wordsForAll_80 (fun x73 => ?_)
          refine lv_aload_n hx hb dX12_wordsForAll_81 rfl (lv_at hl 1 rfl) ?_
          refine lv_iload_n hx hb dX12_wordsForAll_82 rfl (lv_at hl 0 rfl) ?_
          refine lv_iload_n hx hb dX12_wordsForAll_83 rfl (lv_at hl 2 rfl) ?_
          refine tw_goi hS (md_runV (As := [.int x7, .int a1]) (rest := [.long x73, .int 5, .ref (base + b1)]) hx hb hml hown hW hK hT hS.1 (t_X12_worthOf l D cy tx base Z K N M8 R9 J71 hS.2.1 a0 hz_a0 hk_a0 x7 h48 a1 h_a1) s_X12_330 ⟨rfl, rfl, ⟨Nat.le_of_ble_eq_true rfl, Nat.le_of_ble_eq_true rfl⟩, ⟨Nat.le_of_ble_eq_true rfl, Nat.le_of_ble_eq_true rfl⟩⟩ hz_a0 hk_a0 (by decide) rfl rfl hl.1 rfl (Nat.le_of_ble_eq_true rfl) dX12_wordsForAll_84) rfl rfl (fun x80 H locs M77 R78 J76 hS f74 g75 E79 => ?_)
          have eM77 := Fr.nil f74 rfl
          subst eM77
          have eR78 := Fr.nil g75 rfl
          subst eR78
          have h_x80 := E79
          clear E79
          refine lv_if_le (tgt := 100) hx hb dX12_wordsForAll_87 (by decide) (fun c81 => ?_) (fun c81 => ?_)
          · have q82 : x80.toInt ≤ 0 := ti_le c81
            have h83 : iv (-2147483648) 0 x80 := iv_leL (y := 0) h_x80 (iv_c (c := 0) (n := 0) (by decide)) q82 (by decide)
            refine lv_lconst (v := 0) hx hb dX12_wordsForAll_100 (by decide) ?_
            refine lv_ladd hx hb dX12_wordsForAll_101 ?_
            refine tw_topl (fun x84 => ?_)
            refine tw_last hx hb hK hS hz_b1 hk_b1 hn_b1 (iv_c (c := 5) (n := 5) (by decide)) ⟨by decide, by decide⟩ dX12_wordsForAll_102 (fun H locs J85 hS => ?_)
            refine lv_aload_n hx hb dX12_wordsForAll_103 rfl (lv_at hl 1 rfl) ?_
            have k86 : R9 a0 24 = some b1 := (Fr.kp (k := 24) g12 hk_a0 rfl).trans k2
            refine tw_getrk hx hb hW hown hK hS f_X12_42_11 hz_a0 hk_a0 (b := b1) k86 dX12_wordsForAll_104 ?_
            refine lv_bipush (v := 6) hx hb dX12_wordsForAll_107 (by decide) ?_
            refine lv_dup2_11 hx hb dX12_wordsForAll_109 rfl rfl ?_
            refine tw_lald hx hb hK hS hz_b1 hk_b1 hn_b1 (iv_c (c := 6) (n := 6) (by decide)) ⟨by decide, by decide⟩ dX12_wordsForAll_110 (fun x87 => ?_)
            refine lv_aload_n hx hb dX12_wordsForAll_111 rfl (lv_at hl 1 rfl) ?_
            refine lv_iload_n hx hb dX12_wordsForAll_112 rfl (lv_at hl 0 rfl) ?_
            refine lv_iload_n hx hb dX12_wordsForAll_113 rfl (lv_at hl 2 rfl) ?_
            refine tw_goi hS (md_runV (As := [.int x7, .int a1]) (rest := [.long x87, .int 6, .ref (base + b1)]) hx hb hml hown hW hK hT hS.1 (t_X12_worthOf l D cy tx base Z K N M8 R9 J85 hS.2.1 a0 hz_a0 hk_a0 x7 h48 a1 h_a1) s_X12_330 ⟨rfl, rfl, ⟨Nat.le_of_ble_eq_true rfl, Nat.le_of_ble_eq_true rfl⟩, ⟨Nat.le_of_ble_eq_true rfl, Nat.le_of_ble_eq_true rfl⟩⟩ hz_a0 hk_a0 (by decide) rfl rfl hl.1 rfl (Nat.le_of_ble_eq_true rfl) dX12_wordsForAll_114) rfl rfl (fun x94 H locs M91 R92 J90 hS f88 g89 E93 => ?_)
            have eM91 := Fr.nil f88 rfl
            subst eM91
            have eR92 := Fr.nil g89 rfl
            subst eR92
            have h_x94 := E93
            clear E93
            refine lv_if_ge (tgt := 130) hx hb dX12_wordsForAll_117 (by decide) (fun c95 => ?_) (fun c95 => ?_)
            · have q96 : 0 ≤ x94.toInt := ti_le c95
              have h97 : iv 0 2147483647 x94 := iv_geL (y := 0) h_x94 (iv_c (c := 0) (n := 0) (by decide)) q96 (by decide)
              refine lv_lconst (v := 0) hx hb dX12_wordsForAll_130 (by decide) ?_
              refine lv_ladd hx hb dX12_wordsForAll_131 ?_
              refine tw_topl (fun x98 => ?_)
              refine tw_last hx hb hK hS hz_b1 hk_b1 hn_b1 (iv_c (c := 6) (n := 6) (by decide)) ⟨by decide, by decide⟩ dX12_wordsForAll_132 (fun H locs J99 hS => ?_)
              refine tw_iinc (lv' := fun x102 => [(3, .int x102), (0, .ref (base + a0)), (1, .int a1), (2, .int a2)]) (lo := 1) (hi := 10) hx hb dX12_wordsForAll_133 hl (k := 0) rfl h48 (by decide) ⟨by decide, by decide⟩ ⟨by decide, by decide⟩ (by decide) (fun _ => rfl) (fun x102 ls e101 h100 hl => ?_)
              refine lv_goto (tgt := 32) hx hb dX12_wordsForAll_136 (by decide) ?_
              have hm103 : 10 - x102.toInt < (n_8 : Int) := by
                have := (h_a1).1; have := (h_a1).2; have := (h_a2).1; have := (h_a2).2; have := (h100).1; have := (h100).2; have := (h48).1; have := (h48).2; omega
              exact ih_8 x102 M8 R9 J99 H locs _ (iv_mono h100 (by decide) (by decide)) hm103 hS hl
            · have q104 : x94.toInt < 0 := ti_nle c95
              have h105 : iv (-2147483648) (-1) x94 := iv_ltL (y := 0) h_x94 (iv_c (c := 0) (n := 0) (by decide)) q104 (by decide)
              refine lv_aload_n hx hb dX12_wordsForAll_120 rfl (lv_at hl 1 rfl) ?_
              refine tw_getrk hx hb hW hown hK hS f_X12_51_11 hz_a0 hk_a0 (b := b65) k66 dX12_wordsForAll_121 ?_
              refine lv_iload_n hx hb dX12_wordsForAll_124 rfl (lv_at hl 0 rfl) ?_
              refine tw_ialk hx hb hK hS hz_b65 hk_b65 (Or.inr (by decide)) hn_b65 h48 ⟨by decide, by decide⟩ (v := x69) k68 dX12_wordsForAll_125 ?_
              refine lv_i2l hx hb dX12_wordsForAll_126 rfl ?_
              refine lv_goto (tgt := 131) hx hb dX12_wordsForAll_127 (by decide) ?_
              refine lv_ladd hx hb dX12_wordsForAll_131 ?_
              refine tw_topl (fun x106 => ?_)
              refine tw_last hx hb hK hS hz_b1 hk_b1 hn_b1 (iv_c (c := 6) (n := 6) (by decide)) ⟨by decide, by decide⟩ dX12_wordsForAll_132 (fun H locs J107 hS => ?_)
              refine tw_iinc (lv' := fun x110 => [(3, .int x110), (0, .ref (base + a0)), (1, .int a1), (2, .int a2)]) (lo := 1) (hi := 10) hx hb dX12_wordsForAll_133 hl (k := 0) rfl h48 (by decide) ⟨by decide, by decide⟩ ⟨by decide, by decide⟩ (by decide) (fun _ => rfl) (fun x110 ls e109 h108 hl => ?_)
              refine lv_goto (tgt := 32) hx hb dX12_wordsForAll_136 (by decide) ?_
              have hm111 : 10 - x110.toInt < (n_8 : Int) := by
                have := (h_a1).1; have := (h_a1).2; have := (h_a2).1; have := (h_a2).2; have := (h108).1; have := (h108).2; have := (h48).1; have := (h48).2; omega
              exact ih_8 x110 M8 R9 J107 H locs _ (iv_mono h108 (by decide) (by decide)) hm111 hS hl
          · have q112 : 0 < x80.toInt := ti_nle c81
            have h113 : iv 1 2147483647 x80 := iv_gtL (y := 0) h_x80 (iv_c (c := 0) (n := 0) (by decide)) q112 (by decide)
            refine lv_aload_n hx hb dX12_wordsForAll_90 rfl (lv_at hl 1 rfl) ?_
            refine tw_getrk hx hb hW hown hK hS f_X12_51_11 hz_a0 hk_a0 (b := b65) k66 dX12_wordsForAll_91 ?_
            refine lv_iload_n hx hb dX12_wordsForAll_94 rfl (lv_at hl 0 rfl) ?_
            refine tw_ialk hx hb hK hS hz_b65 hk_b65 (Or.inr (by decide)) hn_b65 h48 ⟨by decide, by decide⟩ (v := x69) k68 dX12_wordsForAll_95 ?_
            refine lv_i2l hx hb dX12_wordsForAll_96 rfl ?_
            refine lv_goto (tgt := 101) hx hb dX12_wordsForAll_97 (by decide) ?_
            refine lv_ladd hx hb dX12_wordsForAll_101 ?_
            refine tw_topl (fun x114 => ?_)
            refine tw_last hx hb hK hS hz_b1 hk_b1 hn_b1 (iv_c (c := 5) (n := 5) (by decide)) ⟨by decide, by decide⟩ dX12_wordsForAll_102 (fun H locs J115 hS => ?_)
            refine lv_aload_n hx hb dX12_wordsForAll_103 rfl (lv_at hl 1 rfl) ?_
            have k116 : R9 a0 24 = some b1 := (Fr.kp (k := 24) g12 hk_a0 rfl).trans k2
            refine tw_getrk hx hb hW hown hK hS f_X12_42_11 hz_a0 hk_a0 (b := b1) k116 dX12_wordsForAll_104 ?_
            refine lv_bipush (v := 6) hx hb dX12_wordsForAll_107 (by decide) ?_
            refine lv_dup2_11 hx hb dX12_wordsForAll_109 rfl rfl ?_
            refine tw_lald hx hb hK hS hz_b1 hk_b1 hn_b1 (iv_c (c := 6) (n := 6) (by decide)) ⟨by decide, by decide⟩ dX12_wordsForAll_110 (fun x117 => ?_)
            refine lv_aload_n hx hb dX12_wordsForAll_111 rfl (lv_at hl 1 rfl) ?_
            refine lv_iload_n hx hb dX12_wordsForAll_112 rfl (lv_at hl 0 rfl) ?_
            refine lv_iload_n hx hb dX12_wordsForAll_113 rfl (lv_at hl 2 rfl) ?_
            refine tw_goi hS (md_runV (As := [.int x7, .int a1]) (rest := [.long x117, .int 6, .ref (base + b1)]) hx hb hml hown hW hK hT hS.1 (t_X12_worthOf l D cy tx base Z K N M8 R9 J115 hS.2.1 a0 hz_a0 hk_a0 x7 h48 a1 h_a1) s_X12_330 ⟨rfl, rfl, ⟨Nat.le_of_ble_eq_true rfl, Nat.le_of_ble_eq_true rfl⟩, ⟨Nat.le_of_ble_eq_true rfl, Nat.le_of_ble_eq_true rfl⟩⟩ hz_a0 hk_a0 (by decide) rfl rfl hl.1 rfl (Nat.le_of_ble_eq_true rfl) dX12_wordsForAll_114) rfl rfl (fun x124 H locs M121 R122 J120 hS f118 g119 E123 => ?_)
            have eM121 := Fr.nil f118 rfl
            subst eM121
            have eR122 := Fr.nil g119 rfl
            subst eR122
            have h_x124 := E123
            clear E123
            refine lv_if_ge (tgt := 130) hx hb dX12_wordsForAll_117 (by decide) (fun c125 => ?_) (fun c125 => ?_)
            · have q126 : 0 ≤ x124.toInt := ti_le c125
              have h127 : iv 0 2147483647 x124 := iv_geL (y := 0) h_x124 (iv_c (c := 0) (n := 0) (by decide)) q126 (by decide)
              refine lv_lconst (v := 0) hx hb dX12_wordsForAll_130 (by decide) ?_
              refine lv_ladd hx hb dX12_wordsForAll_131 ?_
              refine tw_topl (fun x128 => ?_)
              refine tw_last hx hb hK hS hz_b1 hk_b1 hn_b1 (iv_c (c := 6) (n := 6) (by decide)) ⟨by decide, by decide⟩ dX12_wordsForAll_132 (fun H locs J129 hS => ?_)
              refine tw_iinc (lv' := fun x132 => [(3, .int x132), (0, .ref (base + a0)), (1, .int a1), (2, .int a2)]) (lo := 1) (hi := 10) hx hb dX12_wordsForAll_133 hl (k := 0) rfl h48 (by decide) ⟨by decide, by decide⟩ ⟨by decide, by decide⟩ (by decide) (fun _ => rfl) (fun x132 ls e131 h130 hl => ?_)
              refine lv_goto (tgt := 32) hx hb dX12_wordsForAll_136 (by decide) ?_
              have hm133 : 10 - x132.toInt < (n_8 : Int) := by
                have := (h_a1).1; have := (h_a1).2; have := (h_a2).1; have := (h_a2).2; have := (h130).1; have := (h130).2; have := (h48).1; have := (h48).2; omega
              exact ih_8 x132 M8 R9 J129 H locs _ (iv_mono h130 (by decide) (by decide)) hm133 hS hl
            · have q134 : x124.toInt < 0 := ti_nle c125
              have h135 : iv (-2147483648) (-1) x124 := iv_ltL (y := 0) h_x124 (iv_c (c := 0) (n := 0) (by decide)) q134 (by decide)
              refine lv_aload_n hx hb dX12_wordsForAll_120 rfl (lv_at hl 1 rfl) ?_
              refine tw_getrk hx hb hW hown hK hS f_X12_51_11 hz_a0 hk_a0 (b := b65) k66 dX12_wordsForAll_121 ?_
              refine lv_iload_n hx hb dX12_wordsForAll_124 rfl (lv_at hl 0 rfl) ?_
              refine tw_ialk hx hb hK hS hz_b65 hk_b65 (Or.inr (by decide)) hn_b65 h48 ⟨by decide, by decide⟩ (v := x69) k68 dX12_wordsForAll_125 ?_
              refine lv_i2l hx hb dX12_wordsForAll_126 rfl ?_
              refine lv_goto (tgt := 131) hx hb dX12_wordsForAll_127 (by decide) ?_
              refine lv_ladd hx hb dX12_wordsForAll_131 ?_
              refine tw_topl (fun x136 => ?_)
              refine tw_last hx hb hK hS hz_b1 hk_b1 hn_b1 (iv_c (c := 6) (n := 6) (by decide)) ⟨by decide, by decide⟩ dX12_wordsForAll_132 (fun H locs J137 hS => ?_)
              refine tw_iinc (lv' := fun x140 => [(3, .int x140), (0, .ref (base + a0)), (1, .int a1), (2, .int a2)]) (lo := 1) (hi := 10) hx hb dX12_wordsForAll_133 hl (k := 0) rfl h48 (by decide) ⟨by decide, by decide⟩ ⟨by decide, by decide⟩ (by decide) (fun _ => rfl) (fun x140 ls e139 h138 hl => ?_)
              refine lv_goto (tgt := 32) hx hb dX12_wordsForAll_136 (by decide) ?_
              have hm141 : 10 - x140.toInt < (n_8 : Int) := by
                have := (h_a1).1; have := (h_a1).2; have := (h_a2).1; have := (h_a2).2; have := (h138).1; have := (h138).2; have := (h48).1; have := (h48).2; omega
              exact ih_8 x140 M8 R9 J137 H locs _ (iv_mono h138 (by decide) (by decide)) hm141 hS hl
        · have q142 : x59.toInt = 0 := ti_eq c60
          have h143 : iv 0 0 x59 := ⟨by have := (h_x59).1; have := ((iv_c (c := 0) (n := 0) (by decide))).1; omega, by have := (h_x59).2; have := ((iv_c (c := 0) (n := 0) (by decide))).2; omega⟩
          refine lv_goto (tgt := 133) hx hb dX12_wordsForAll_55 (by decide) ?_
          refine tw_iinc (lv' := fun x146 => [(3, .int x146), (0, .ref (base + a0)), (1, .int a1), (2, .int a2)]) (lo := 1) (hi := 10) hx hb dX12_wordsForAll_133 hl (k := 0) rfl h48 (by decide) ⟨by decide, by decide⟩ ⟨by decide, by decide⟩ (by decide) (fun _ => rfl) (fun x146 ls e145 h144 hl => ?_)
          refine lv_goto (tgt := 32) hx hb dX12_wordsForAll_136 (by decide) ?_
          have hm147 : 10 - x146.toInt < (n_8 : Int) := by
            have := (h_a1).1; have := (h_a1).2; have := (h_a2).1; have := (h_a2).2; have := (h144).1; have := (h144).2; have := (h48).1; have := (h48).2; omega
          exact ih_8 x146 M8 R9 J55 H locs _ (iv_mono h144 (by decide) (by decide)) hm147 hS hl
  have hm148 : 10 - (0 : Int32).toInt < (((11 : Nat) : Int) : Int) := by
    have := (h_a1).1; have := (h_a1).2; have := (h_a2).1; have := (h_a2).2; have : (0 : Int32).toInt = 0 := (by decide); omega
  exact W32_8 11 0 Ma Ra J6 H locs _ (iv_mono (iv_c (c := 0) (n := 0) (by decide)) (by decide) (by decide)) hm148 hS hl
def Lt_X12_asks : WL := [(12, 23, 24), (12, 31, 33)]
def LRt_X12_asks : WL := []
set_option maxRecDepth 100000 in
set_option maxHeartbeats 4000000 in
theorem t_X12_asks (l : Launch) (D : va_G) (cy : Nat → ClassId) (tx : (Nat → Nat) × (Nat → Nat)) (base Z : Nat) (K N : Nat → Nat) (Ma : MT) (Ra : RT) (Ja : JT) (hTy : Ty Z K N Ma Ra) (a0 : Nat) (hz_a0 : a0 < Z) (hk_a0 : K a0 = 12) (a1 : Int32) (h_a1 : iv 0 11 a1) (a2 : Int32) (h_a2 : iv (-1) 7 a2) (co_a0 : Codes Ma Ra a0) : Met l yX12_asks [Cond.code yX12_asks cX12_asks 4 none] (md_rm 4 0 0) (va_Pc [.ref (base + a0), .int a1, .int a2] (md_U D cy tx base Z K N Ma Ra Ja)) (mQv D cy tx base (fun u => TP Z K N Lt_X12_asks LRt_X12_asks Ma Ra u ∧ (True))) 0 0 (fun q => base ≤ q) := by
  refine tw_ofW (L := Lt_X12_asks) (LR := LRt_X12_asks) (by decide) (Nat.le_of_ble_eq_true rfl) hTy ?_
  intro p e s m args below meth c Q ls hx hb hr hlocks hown hml hW hK hT hS hQ hl
  have hl : lv_has ls 4 [(0, .ref (base + a0)), (1, .int a1), (2, .int a2)] := hl
  refine lv_aload_n hx hb dX12_asks_0 rfl (lv_at hl 0 rfl) ?_
  refine lv_iconst (v := 0) hx hb dX12_asks_1 (by decide) ?_
  refine tw_puti hx hb hW hown hK hS f_X12_364_11 hz_a0 hk_a0 rfl rfl (lo := (-2147483648)) (hi := 2147483647) rfl (iv_mono (iv_c (c := 0) (n := 0) (by decide)) (by decide) (by decide)) rfl dX12_asks_2 (fun H locs M3 hS k1 f2 => ?_)
  refine lv_aload_n hx hb dX12_asks_5 rfl (lv_at hl 0 rfl) ?_
  refine lv_iconst (v := 0) hx hb dX12_asks_6 (by decide) ?_
  refine tw_puti hx hb hW hown hK hS f_X12_367_11 hz_a0 hk_a0 rfl rfl (lo := (-2147483648)) (hi := 2147483647) rfl (iv_mono (iv_c (c := 0) (n := 0) (by decide)) (by decide) (by decide)) rfl dX12_asks_7 (fun H locs M6 hS k4 f5 => ?_)
  refine lv_aload_n hx hb dX12_asks_10 rfl (lv_at hl 0 rfl) ?_
  refine lv_iload_n hx hb dX12_asks_11 rfl (lv_at hl 1 rfl) ?_
  refine lv_iload_n hx hb dX12_asks_12 rfl (lv_at hl 2 rfl) ?_
  refine tw_gov hS (md_runV (As := [.int a1, .int a2]) (rest := []) hx hb hml hown hW hK hT hS.1 (t_X12_wordsForAll l D cy tx base Z K N M6 Ra Ja hS.2.1 a0 hz_a0 hk_a0 a1 h_a1 a2 h_a2) s_X12_370 ⟨rfl, rfl, ⟨Nat.le_of_ble_eq_true rfl, Nat.le_of_ble_eq_true rfl⟩, ⟨Nat.le_of_ble_eq_true rfl, Nat.le_of_ble_eq_true rfl⟩⟩ hz_a0 hk_a0 (by decide) rfl rfl hl.1 rfl (Nat.le_of_ble_eq_true rfl) dX12_asks_13) rfl rfl (fun H locs M10 R11 J9 hS f7 g8 E12 => ?_)
  have eM10 := Fr.nil f7 rfl
  subst eM10
  have eR11 := Fr.nil g8 rfl
  subst eR11
  refine lv_iconst (v := 0) hx hb dX12_asks_16 (by decide) ?_
  refine lv_istore_n (lv' := [(3, .int 0), (0, .ref (base + a0)), (1, .int a1), (2, .int a2)]) hx hb dX12_asks_17 rfl hl (by decide) rfl (fun ls hl => ?_)
  have W18_14 : ∀ (n_14 : Nat) (x13 : Int32) (M14 : MT) (R15 : RT) (J16 : JT) (H : Heap) (locs : List Loc) (ls : Array Slot) (h_x13 : iv 0 10 x13) (hm_14 : 10 - x13.toInt < (n_14 : Int)) (hS : SB D cy base Z K N Lt_X12_asks LRt_X12_asks Ma Ra M14 R15 J16 s H locs) (hl : lv_has ls 4 [(3, .int x13), (0, .ref (base + a0)), (1, .int a1), (2, .int a2)]), W p l e (md_rm 4 0 0) s m args below meth c H locs 0 0 Q (F0 m 18 ls []) := by
    intro n_14
    induction n_14 with
    | zero =>
      intro x13 M14 R15 J16 H locs ls h_x13 hm_14 hS hl
      exfalso
      have := (h_a1).1; have := (h_a1).2; have := (h_a2).1; have := (h_a2).2; have := (h_x13).1; have := (h_x13).2; omega
    | succ n_14 ih_14 =>
      intro x13 M14 R15 J16 H locs ls h_x13 hm_14 hS hl
      have f17 := hS.2.2.1
      have g18 := hS.2.2.2
      refine lv_iload_n hx hb dX12_asks_18 rfl (lv_at hl 0 rfl) ?_
      refine lv_aload_n hx hb dX12_asks_19 rfl (lv_at hl 1 rfl) ?_
      refine tw_getr hx hb hW hown hK hS f_X12_45_11 hz_a0 hk_a0 (t := 23) (n := 226) rfl dX12_asks_20 (fun b19 k20 hz_b19 hk_b19 hn_b19 => ?_)
      have hn_b19 := hn_b19 (by decide)
      refine lv_iconst (v := 0) hx hb dX12_asks_23 (by decide) ?_
      refine tw_iald hx hb hK hS hz_b19 hk_b19 (Or.inr (by decide)) hn_b19 (lo := 0) (hi := 10) (iv_c (c := 0) (n := 0) (by decide)) ⟨by decide, by decide⟩ (rg_c (k0 := 0) rfl rfl rfl) dX12_asks_24 (fun x23 k22 h21 => ?_)
      refine lv_icmp_ge (tgt := 59) hx hb dX12_asks_25 (by decide) (fun c24 => ?_) (fun c24 => ?_)
      · have q25 : x23.toInt ≤ x13.toInt := ti_le c24
        exact tw_endv hx hb hr hlocks hK hT hS hQ (trivial) dX12_asks_59
      · have q26 : x13.toInt < x23.toInt := ti_nle c24
        have h27 : iv 0 9 x13 := iv_ltL (y := x23) h_x13 h21 q26 (by decide)
        have h28 : iv 1 10 x23 := iv_gtL (y := x13) h21 h_x13 q26 (by decide)
        refine lv_aload_n hx hb dX12_asks_28 rfl (lv_at hl 1 rfl) ?_
        refine tw_getrk hx hb hW hown hK hS f_X12_45_11 hz_a0 hk_a0 (b := b19) k20 dX12_asks_29 ?_
        refine lv_iconst (v := 2) hx hb dX12_asks_32 (by decide) ?_
        refine tw_iald hx hb hK hS hz_b19 hk_b19 (Or.inr (by decide)) hn_b19 (lo := (-2147483648)) (hi := 2147483647) (iv_c (c := 2) (n := 2) (by decide)) ⟨by decide, by decide⟩ (rg_c (k0 := 2) rfl rfl rfl) dX12_asks_33 (fun x31 k30 h29 => ?_)
        refine lv_iload_n hx hb dX12_asks_34 rfl (lv_at hl 0 rfl) ?_
        refine tw_goi hS (md_runS (As := [.int x31, .int x13]) (rest := []) hx hb hml hown hW hK hT hS.1 (t_X12_isOf l D cy tx base Z K N M14 R15 J16 hS.2.1 x31 h29 x13 h27) s_X12_322 ⟨rfl, rfl, ⟨Nat.le_of_ble_eq_true rfl, Nat.le_of_ble_eq_true rfl⟩, ⟨Nat.le_of_ble_eq_true rfl, Nat.le_of_ble_eq_true rfl⟩⟩ rfl hl.1 rfl (Nat.le_of_ble_eq_true rfl) dX12_asks_35) rfl rfl (fun x38 H locs M35 R36 J34 hS f32 g33 E37 => ?_)
        have eM35 := Fr.nil f32 rfl
        subst eM35
        have eR36 := Fr.nil g33 rfl
        subst eR36
        have h_x38 := E37
        clear E37
        refine lv_if_eq (tgt := 53) hx hb dX12_asks_38 (by decide) (fun c39 => ?_) (fun c39 => ?_)
        · have q40 : x38.toInt = 0 := ti_eq c39
          have h41 : iv 0 0 x38 := ⟨by have := (h_x38).1; have := ((iv_c (c := 0) (n := 0) (by decide))).1; omega, by have := (h_x38).2; have := ((iv_c (c := 0) (n := 0) (by decide))).2; omega⟩
          refine tw_iinc (lv' := fun x44 => [(3, .int x44), (0, .ref (base + a0)), (1, .int a1), (2, .int a2)]) (lo := 1) (hi := 10) hx hb dX12_asks_53 hl (k := 0) rfl h27 (by decide) ⟨by decide, by decide⟩ ⟨by decide, by decide⟩ (by decide) (fun _ => rfl) (fun x44 ls e43 h42 hl => ?_)
          refine lv_goto (tgt := 18) hx hb dX12_asks_56 (by decide) ?_
          have hm45 : 10 - x44.toInt < (n_14 : Int) := by
            have := (h_a1).1; have := (h_a1).2; have := (h_a2).1; have := (h_a2).2; have := (h27).1; have := (h27).2; have := (h42).1; have := (h42).2; omega
          exact ih_14 x44 M14 R15 J34 H locs _ (iv_mono h42 (by decide) (by decide)) hm45 hS hl
        · have q46 : ¬ x38.toInt = 0 := ti_ne c39
          have h47 : iv 1 1 x38 := ⟨by have := (h_x38).1; have := ((iv_c (c := 0) (n := 0) (by decide))).1; have := ((iv_c (c := 0) (n := 0) (by decide))).2; omega, by have := (h_x38).2; have := ((iv_c (c := 0) (n := 0) (by decide))).1; have := ((iv_c (c := 0) (n := 0) (by decide))).2; omega⟩
          refine lv_aload_n hx hb dX12_asks_41 rfl (lv_at hl 1 rfl) ?_
          refine lv_iload_n hx hb dX12_asks_42 rfl (lv_at hl 0 rfl) ?_
          refine lv_aload_n hx hb dX12_asks_43 rfl (lv_at hl 1 rfl) ?_
          refine lv_iload_n hx hb dX12_asks_44 rfl (lv_at hl 0 rfl) ?_
          refine lv_iload_n hx hb dX12_asks_45 rfl (lv_at hl 2 rfl) ?_
          refine lv_iload_n hx hb dX12_asks_46 rfl (lv_at hl 3 rfl) ?_
          refine tw_goi hS (md_runV (As := [.int x13, .int a1, .int a2]) (rest := [.int x13, .ref (base + a0)]) hx hb hml hown hW hK hT hS.1 (t_X12_saying l D cy tx base Z K N M14 R15 J34 hS.2.1 a0 hz_a0 hk_a0 x13 h27 a1 h_a1 a2 h_a2 (Codes.fr co_a0 hTy hz_a0 hk_a0 hS.2.2.1 hS.2.2.2 rfl)) s_X12_373 ⟨rfl, rfl, ⟨Nat.le_of_ble_eq_true rfl, Nat.le_of_ble_eq_true rfl⟩, ⟨Nat.le_of_ble_eq_true rfl, Nat.le_of_ble_eq_true rfl⟩⟩ hz_a0 hk_a0 (by decide) rfl rfl hl.1 rfl (Nat.le_of_ble_eq_true rfl) dX12_asks_47) rfl rfl (fun x54 H locs M51 R52 J50 hS f48 g49 E53 => ?_)
          have eR52 := Fr.nil g49 rfl
          subst eR52
          have h_x54 := E53
          clear E53
          refine tw_gov hS (md_runV (As := [.int x13, .int x54]) (rest := []) hx hb hml hown hW hK hT hS.1 (t_X12_sets l D cy tx base Z K N M51 R15 J50 hS.2.1 a0 hz_a0 hk_a0 x13 h27 x54 h_x54) s_X12_377 ⟨rfl, rfl, ⟨Nat.le_of_ble_eq_true rfl, Nat.le_of_ble_eq_true rfl⟩, ⟨Nat.le_of_ble_eq_true rfl, Nat.le_of_ble_eq_true rfl⟩⟩ hz_a0 hk_a0 (by decide) rfl rfl hl.1 rfl (Nat.le_of_ble_eq_true rfl) dX12_asks_50) rfl rfl (fun H locs M58 R59 J57 hS f55 g56 E60 => ?_)
          have eR59 := Fr.nil g56 rfl
          subst eR59
          refine tw_iinc (lv' := fun x63 => [(3, .int x63), (0, .ref (base + a0)), (1, .int a1), (2, .int a2)]) (lo := 1) (hi := 10) hx hb dX12_asks_53 hl (k := 0) rfl h27 (by decide) ⟨by decide, by decide⟩ ⟨by decide, by decide⟩ (by decide) (fun _ => rfl) (fun x63 ls e62 h61 hl => ?_)
          refine lv_goto (tgt := 18) hx hb dX12_asks_56 (by decide) ?_
          have hm64 : 10 - x63.toInt < (n_14 : Int) := by
            have := (h_a1).1; have := (h_a1).2; have := (h_a2).1; have := (h_a2).2; have := (h27).1; have := (h27).2; have := (h61).1; have := (h61).2; omega
          exact ih_14 x63 M58 R15 J57 H locs _ (iv_mono h61 (by decide) (by decide)) hm64 hS hl
  have hm65 : 10 - (0 : Int32).toInt < (((11 : Nat) : Int) : Int) := by
    have := (h_a1).1; have := (h_a1).2; have := (h_a2).1; have := (h_a2).2; have : (0 : Int32).toInt = 0 := (by decide); omega
  exact W18_14 11 0 M6 Ra J9 H locs _ (iv_mono (iv_c (c := 0) (n := 0) (by decide)) (by decide) (by decide)) hm65 hS hl
def Lt_X12_bits : WL := []
def LRt_X12_bits : WL := []
set_option maxRecDepth 100000 in
set_option maxHeartbeats 4000000 in
theorem t_X12_bits (l : Launch) (D : va_G) (cy : Nat → ClassId) (tx : (Nat → Nat) × (Nat → Nat)) (base Z : Nat) (K N : Nat → Nat) (Ma : MT) (Ra : RT) (Ja : JT) (hTy : Ty Z K N Ma Ra) (a0 : Int32) (h_a0 : iv (-2147483648) 2147483647 a0) : Met l yX12_bits [Cond.code yX12_bits cX12_bits 3 (some .int)] (md_rm 1 0 0) (va_Pc [.int a0] (md_U D cy tx base Z K N Ma Ra Ja)) (mQi D cy tx base (fun r u => TP Z K N Lt_X12_bits LRt_X12_bits Ma Ra u ∧ (iv (-2147483648) 2147483647 r))) 0 0 (fun q => base ≤ q) := by
  refine tw_ofW (L := Lt_X12_bits) (LR := LRt_X12_bits) (by decide) (Nat.le_of_ble_eq_true rfl) hTy ?_
  intro p e s m args below meth c Q ls hx hb hr hlocks hown hml hW hK hT hS hQ hl
  have hl : lv_has ls 3 [(0, .int a0)] := hl
  refine lv_iconst (v := 0) hx hb dX12_bits_0 (by decide) ?_
  refine lv_istore_n (lv' := [(1, .int 0), (0, .int a0)]) hx hb dX12_bits_1 rfl hl (by decide) rfl (fun ls hl => ?_)
  refine lv_iload_n hx hb dX12_bits_2 rfl (lv_at hl 1 rfl) ?_
  refine lv_istore_n (lv' := [(2, .int a0), (1, .int 0), (0, .int a0)]) hx hb dX12_bits_3 rfl hl (by decide) rfl (fun ls hl => ?_)
  have W4_3 : ∀ (n_3 : Nat) (x1 : Int32) (x2 : Int32) (M3 : MT) (R4 : RT) (J5 : JT) (H : Heap) (locs : List Loc) (ls : Array Slot) (h_x1 : iv (-2147483648) 2147483647 x1) (h_x2 : iv (-2147483648) 2147483647 x2) (hm_3 : (x2.toBitVec.toNat : Int) < (n_3 : Int)) (hS : SB D cy base Z K N Lt_X12_bits LRt_X12_bits Ma Ra M3 R4 J5 s H locs) (hl : lv_has ls 3 [(1, .int x1), (2, .int x2), (0, .int a0)]), W p l e (md_rm 1 0 0) s m args below meth c H locs 0 0 Q (F0 m 4 ls []) := by
    intro n_3
    induction n_3 with
    | zero =>
      intro x1 x2 M3 R4 J5 H locs ls h_x1 h_x2 hm_3 hS hl
      exfalso
      have := (h_a0).1; have := (h_a0).2; have := (h_x2).1; have := (h_x2).2; omega
    | succ n_3 ih_3 =>
      intro x1 x2 M3 R4 J5 H locs ls h_x1 h_x2 hm_3 hS hl
      have f6 := hS.2.2.1
      have g7 := hS.2.2.2
      refine lv_iload_n hx hb dX12_bits_4 rfl (lv_at hl 1 rfl) ?_
      refine lv_if_eq (tgt := 20) hx hb dX12_bits_5 (by decide) (fun c8 => ?_) (fun c8 => ?_)
      · have q9 : x2.toInt = 0 := ti_eq c8
        have h10 : iv 0 0 x2 := ⟨by have := (h_x2).1; have := ((iv_c (c := 0) (n := 0) (by decide))).1; omega, by have := (h_x2).2; have := ((iv_c (c := 0) (n := 0) (by decide))).2; omega⟩
        refine lv_iload_n hx hb dX12_bits_20 rfl (lv_at hl 0 rfl) ?_
        exact tw_endi hx hb hr hlocks hK hT hS hQ (h_x1) dX12_bits_21
      · have q11 : ¬ x2.toInt = 0 := ti_ne c8
        refine tw_iincw (lv' := fun x13 => [(1, .int x13), (2, .int x2), (0, .int a0)]) hx hb dX12_bits_8 hl (k := 0) rfl (by decide) (fun _ => rfl) (fun x13 ls hl => ?_)
        have h12 := iv_any x13
        refine lv_iload_n hx hb dX12_bits_11 rfl (lv_at hl 1 rfl) ?_
        refine lv_iload_n hx hb dX12_bits_12 rfl (lv_at hl 1 rfl) ?_
        refine lv_iconst (v := 1) hx hb dX12_bits_13 (by decide) ?_
        refine lv_isub hx hb dX12_bits_14 ?_
        refine lv_iand hx hb dX12_bits_15 ?_
        refine lv_topi (fun x16 e15 => ?_)
        have h14 := iv_any x16
        have q17 := bits_lt e15 c8
        refine lv_istore_n (lv' := [(2, .int x16), (1, .int x13), (0, .int a0)]) hx hb dX12_bits_16 rfl hl (by decide) rfl (fun ls hl => ?_)
        refine lv_goto (tgt := 4) hx hb dX12_bits_17 (by decide) ?_
        have hm18 : (x16.toBitVec.toNat : Int) < (n_3 : Int) := by
          have := (h_a0).1; have := (h_a0).2; have := (h14).1; have := (h14).2; omega
        exact ih_3 x13 x16 M3 R4 J5 H locs _ h12 h14 hm18 hS (lv_sub hl [1, 0, 2] rfl)
  have hm19 : (a0.toBitVec.toNat : Int) < (((4294967296 : Nat) : Int) : Int) := by
    have := (h_a0).1; have := (h_a0).2; omega
  exact W4_3 4294967296 0 a0 Ma Ra Ja s.heap [] _ (iv_mono (iv_c (c := 0) (n := 0) (by decide)) (by decide) (by decide)) h_a0 hm19 hS (lv_sub hl [1, 0, 2] rfl)
def Lt_X12_isMember : WL := []
def LRt_X12_isMember : WL := []
set_option maxRecDepth 100000 in
set_option maxHeartbeats 4000000 in
theorem t_X12_isMember (l : Launch) (D : va_G) (cy : Nat → ClassId) (tx : (Nat → Nat) × (Nat → Nat)) (base Z : Nat) (K N : Nat → Nat) (Ma : MT) (Ra : RT) (Ja : JT) (hTy : Ty Z K N Ma Ra) (a0 : Nat) (hz_a0 : a0 < Z) (hk_a0 : K a0 = 12) (a1 : Int32) (h_a1 : iv (-2147483648) 2147483647 a1) : Met l yX12_isMember [Cond.code yX12_isMember cX12_isMember 2 (some .boolean)] (md_rm 1 0 0) (va_Pc [.ref (base + a0), .int a1] (md_U D cy tx base Z K N Ma Ra Ja)) (mQi D cy tx base (fun r u => TP Z K N Lt_X12_isMember LRt_X12_isMember Ma Ra u ∧ (iv 0 1 r ∧ (¬ r = 0 → iv 0 9 a1)))) 0 0 (fun q => base ≤ q) := by
  refine tw_ofW (L := Lt_X12_isMember) (LR := LRt_X12_isMember) (by decide) (Nat.le_of_ble_eq_true rfl) hTy ?_
  intro p e s m args below meth c Q ls hx hb hr hlocks hown hml hW hK hT hS hQ hl
  have hl : lv_has ls 2 [(0, .ref (base + a0)), (1, .int a1)] := hl
  refine lv_iload_n hx hb dX12_isMember_0 rfl (lv_at hl 1 rfl) ?_
  refine lv_if_lt (tgt := 18) hx hb dX12_isMember_1 (by decide) (fun c1 => ?_) (fun c1 => ?_)
  · have q2 : a1.toInt < 0 := ti_lt c1
    have h3 : iv (-2147483648) (-1) a1 := iv_ltL (y := 0) h_a1 (iv_c (c := 0) (n := 0) (by decide)) q2 (by decide)
    refine lv_iconst (v := 0) hx hb dX12_isMember_18 (by decide) ?_
    exact tw_endz hx hb hr hlocks hK hT hS hQ rfl (⟨(iv_mono (iv_c (c := 0) (n := 0) (by decide)) (by decide) (by decide)), (fun h => absurd rfl h)⟩) dX12_isMember_19
  · have q4 : 0 ≤ a1.toInt := ti_nlt c1
    have h5 : iv 0 2147483647 a1 := iv_geL (y := 0) h_a1 (iv_c (c := 0) (n := 0) (by decide)) q4 (by decide)
    refine lv_iload_n hx hb dX12_isMember_4 rfl (lv_at hl 1 rfl) ?_
    refine lv_aload_n hx hb dX12_isMember_5 rfl (lv_at hl 0 rfl) ?_
    refine tw_getr hx hb hW hown hK hS f_X12_45_11 hz_a0 hk_a0 (t := 23) (n := 226) rfl dX12_isMember_6 (fun b6 k7 hz_b6 hk_b6 hn_b6 => ?_)
    have hn_b6 := hn_b6 (by decide)
    refine lv_iconst (v := 0) hx hb dX12_isMember_9 (by decide) ?_
    refine tw_iald hx hb hK hS hz_b6 hk_b6 (Or.inr (by decide)) hn_b6 (lo := 0) (hi := 10) (iv_c (c := 0) (n := 0) (by decide)) ⟨by decide, by decide⟩ (rg_c (k0 := 0) rfl rfl rfl) dX12_isMember_10 (fun x10 k9 h8 => ?_)
    refine lv_icmp_ge (tgt := 18) hx hb dX12_isMember_11 (by decide) (fun c11 => ?_) (fun c11 => ?_)
    · have q12 : x10.toInt ≤ a1.toInt := ti_le c11
      refine lv_iconst (v := 0) hx hb dX12_isMember_18 (by decide) ?_
      exact tw_endz hx hb hr hlocks hK hT hS hQ rfl (⟨(iv_mono (iv_c (c := 0) (n := 0) (by decide)) (by decide) (by decide)), (fun h => absurd rfl h)⟩) dX12_isMember_19
    · have q13 : a1.toInt < x10.toInt := ti_nle c11
      have h14 : iv 0 9 a1 := iv_ltL (y := x10) h5 h8 q13 (by decide)
      have h15 : iv 1 10 x10 := iv_gtL (y := a1) h8 h5 q13 (by decide)
      refine lv_iconst (v := 1) hx hb dX12_isMember_14 (by decide) ?_
      refine lv_goto (tgt := 19) hx hb dX12_isMember_15 (by decide) ?_
      exact tw_endz hx hb hr hlocks hK hT hS hQ rfl (⟨(iv_mono (iv_c (c := 1) (n := 1) (by decide)) (by decide) (by decide)), (fun _ => h14)⟩) dX12_isMember_19
def Lt_X12_refuses : WL := [(14, 0, 2000000)]
def LRt_X12_refuses : WL := []
set_option maxRecDepth 100000 in
set_option maxHeartbeats 4000000 in
theorem t_X12_refuses (l : Launch) (D : va_G) (cy : Nat → ClassId) (tx : (Nat → Nat) × (Nat → Nat)) (base Z : Nat) (K N : Nat → Nat) (Ma : MT) (Ra : RT) (Ja : JT) (hTy : Ty Z K N Ma Ra) (a0 : Nat) (hz_a0 : a0 < Z) (hk_a0 : K a0 = 12) (a1 : Int32) (h_a1 : iv 0 1 a1) : Met l yX12_refuses [Cond.code yX12_refuses cX12_refuses 2 (some .int)] (md_rm 1 0 0) (va_Pc [.ref (base + a0), .int a1] (md_U D cy tx base Z K N Ma Ra Ja)) (mQi D cy tx base (fun r u => TP Z K N Lt_X12_refuses LRt_X12_refuses Ma Ra u ∧ (iv (-2) (-2) r))) 0 0 (fun q => base ≤ q) := by
  refine tw_ofW (L := Lt_X12_refuses) (LR := LRt_X12_refuses) (by decide) (Nat.le_of_ble_eq_true rfl) hTy ?_
  intro p e s m args below meth c Q ls hx hb hr hlocks hown hml hW hK hT hS hQ hl
  have hl : lv_has ls 2 [(0, .ref (base + a0)), (1, .int a1)] := hl
  refine lv_aload_n hx hb dX12_refuses_0 rfl (lv_at hl 0 rfl) ?_
  refine tw_getr hx hb hW hown hK hS f_X12_48_11 hz_a0 hk_a0 (t := 14) (n := 2) rfl dX12_refuses_1 (fun b1 k2 hz_b1 hk_b1 hn_b1 => ?_)
  have hn_b1 := hn_b1 (by decide)
  refine lv_iload_n hx hb dX12_refuses_4 rfl (lv_at hl 1 rfl) ?_
  refine lv_dup2_11 hx hb dX12_refuses_5 rfl rfl ?_
  refine tw_iald hx hb hK hS hz_b1 hk_b1 (Or.inl rfl) hn_b1 (lo := (-2147483648)) (hi := 2147483647) h_a1 ⟨by decide, by decide⟩ rg_u14 dX12_refuses_6 (fun x5 k4 h3 => ?_)
  refine lv_iconst (v := 1) hx hb dX12_refuses_7 (by decide) ?_
  refine lv_iadd hx hb dX12_refuses_8 ?_
  refine tw_top (fun x7 => ?_)
  have h6 := iv_any x7
  refine tw_iast hx hb hK hS hz_b1 hk_b1 (Or.inl rfl) hn_b1 h_a1 ⟨by decide, by decide⟩ h6 (rg_s14 ⟨by decide, by decide⟩) (jl := 0) (jh := 1999999) ⟨by decide, by decide⟩ rfl dX12_refuses_9 (fun H locs M10 hS k8 f9 => ?_)
  refine lv_bipush (v := (-2)) hx hb dX12_refuses_10 (by decide) ?_
  exact tw_endi hx hb hr hlocks hK hT hS hQ ((iv_c (c := (-2)) (n := (-2)) (by decide))) dX12_refuses_12
def Lt_X12_attends : WL := [(14, 0, 2000000), (23, 2, 3), (23, 10, 20)]
def LRt_X12_attends : WL := []
set_option maxRecDepth 100000 in
set_option maxHeartbeats 4000000 in
theorem t_X12_attends (l : Launch) (D : va_G) (cy : Nat → ClassId) (tx : (Nat → Nat) × (Nat → Nat)) (base Z : Nat) (K N : Nat → Nat) (Ma : MT) (Ra : RT) (Ja : JT) (hTy : Ty Z K N Ma Ra) (a0 : Nat) (hz_a0 : a0 < Z) (hk_a0 : K a0 = 12) (a1 : Int32) (h_a1 : iv (-2147483648) 2147483647 a1) (a2 : Int32) (h_a2 : iv (-2147483648) 2147483647 a2) : Met l yX12_attends [Cond.code yX12_attends cX12_attends 3 (some .int)] (md_rm 2 0 0) (va_Pc [.ref (base + a0), .int a1, .int a2] (md_U D cy tx base Z K N Ma Ra Ja)) (mQi D cy tx base (fun r u => TP Z K N Lt_X12_attends LRt_X12_attends Ma Ra u ∧ (iv (-2147483648) 2147483647 r))) 0 0 (fun q => base ≤ q) := by
  refine tw_ofW (L := Lt_X12_attends) (LR := LRt_X12_attends) (by decide) (Nat.le_of_ble_eq_true rfl) hTy ?_
  intro p e s m args below meth c Q ls hx hb hr hlocks hown hml hW hK hT hS hQ hl
  have hl : lv_has ls 3 [(0, .ref (base + a0)), (1, .int a1), (2, .int a2)] := hl
  refine lv_aload_n hx hb dX12_attends_0 rfl (lv_at hl 0 rfl) ?_
  refine lv_iload_n hx hb dX12_attends_1 rfl (lv_at hl 1 rfl) ?_
  refine tw_goi hS (md_runV (As := [.int a1]) (rest := []) hx hb hml hown hW hK hT hS.1 (t_X12_isMember l D cy tx base Z K N Ma Ra Ja hS.2.1 a0 hz_a0 hk_a0 a1 h_a1) s_X12_319 ⟨rfl, rfl, ⟨Nat.le_of_ble_eq_true rfl, Nat.le_of_ble_eq_true rfl⟩, ⟨Nat.le_of_ble_eq_true rfl, Nat.le_of_ble_eq_true rfl⟩⟩ hz_a0 hk_a0 (by decide) rfl rfl hl.1 rfl (Nat.le_of_ble_eq_true rfl) dX12_attends_2) rfl rfl (fun x7 H locs M4 R5 J3 hS f1 g2 E6 => ?_)
  have eM4 := Fr.nil f1 rfl
  subst eM4
  have eR5 := Fr.nil g2 rfl
  subst eR5
  obtain ⟨h_x7, p8⟩ := E6
  refine lv_if_eq (tgt := 22) hx hb dX12_attends_5 (by decide) (fun c9 => ?_) (fun c9 => ?_)
  · have q10 : x7.toInt = 0 := ti_eq c9
    have h11 : iv 0 0 x7 := ⟨by have := (h_x7).1; have := ((iv_c (c := 0) (n := 0) (by decide))).1; omega, by have := (h_x7).2; have := ((iv_c (c := 0) (n := 0) (by decide))).2; omega⟩
    refine lv_aload_n hx hb dX12_attends_22 rfl (lv_at hl 0 rfl) ?_
    refine lv_iconst (v := 0) hx hb dX12_attends_23 (by decide) ?_
    refine tw_goi hS (md_runV (As := [.int 0]) (rest := []) hx hb hml hown hW hK hT hS.1 (t_X12_refuses l D cy tx base Z K N Ma Ra J3 hS.2.1 a0 hz_a0 hk_a0 0 (iv_mono (iv_c (c := 0) (n := 0) (by decide)) (by decide) (by decide))) s_X12_338 ⟨rfl, rfl, ⟨Nat.le_of_ble_eq_true rfl, Nat.le_of_ble_eq_true rfl⟩, ⟨Nat.le_of_ble_eq_true rfl, Nat.le_of_ble_eq_true rfl⟩⟩ hz_a0 hk_a0 (by decide) rfl rfl hl.1 rfl (Nat.le_of_ble_eq_true rfl) dX12_attends_24) rfl rfl (fun x18 H locs M15 R16 J14 hS f12 g13 E17 => ?_)
    have eR16 := Fr.nil g13 rfl
    subst eR16
    have h_x18 := E17
    clear E17
    exact tw_endi hx hb hr hlocks hK hT hS hQ ((iv_mono h_x18 (by decide) (by decide))) dX12_attends_27
  · have q19 : ¬ x7.toInt = 0 := ti_ne c9
    have h20 : iv 1 1 x7 := ⟨by have := (h_x7).1; have := ((iv_c (c := 0) (n := 0) (by decide))).1; have := ((iv_c (c := 0) (n := 0) (by decide))).2; omega, by have := (h_x7).2; have := ((iv_c (c := 0) (n := 0) (by decide))).1; have := ((iv_c (c := 0) (n := 0) (by decide))).2; omega⟩
    have h21 : iv 0 9 a1 := ⟨by have := (p8 c9).1; have := (h_a1).1; omega, by have := (p8 c9).2; have := (h_a1).2; omega⟩
    refine lv_aload_n hx hb dX12_attends_8 rfl (lv_at hl 0 rfl) ?_
    refine tw_getr hx hb hW hown hK hS f_X12_45_11 hz_a0 hk_a0 (t := 23) (n := 226) rfl dX12_attends_9 (fun b22 k23 hz_b22 hk_b22 hn_b22 => ?_)
    have hn_b22 := hn_b22 (by decide)
    refine lv_iconst (v := 2) hx hb dX12_attends_12 (by decide) ?_
    refine tw_iald hx hb hK hS hz_b22 hk_b22 (Or.inr (by decide)) hn_b22 (lo := (-2147483648)) (hi := 2147483647) (iv_c (c := 2) (n := 2) (by decide)) ⟨by decide, by decide⟩ (rg_c (k0 := 2) rfl rfl rfl) dX12_attends_13 (fun x26 k25 h24 => ?_)
    refine lv_iload_n hx hb dX12_attends_14 rfl (lv_at hl 1 rfl) ?_
    refine tw_goi hS (md_runS (As := [.int x26, .int a1]) (rest := []) hx hb hml hown hW hK hT hS.1 (t_X12_isOf l D cy tx base Z K N Ma Ra J3 hS.2.1 x26 h24 a1 h21) s_X12_322 ⟨rfl, rfl, ⟨Nat.le_of_ble_eq_true rfl, Nat.le_of_ble_eq_true rfl⟩, ⟨Nat.le_of_ble_eq_true rfl, Nat.le_of_ble_eq_true rfl⟩⟩ rfl hl.1 rfl (Nat.le_of_ble_eq_true rfl) dX12_attends_15) rfl rfl (fun x33 H locs M30 R31 J29 hS f27 g28 E32 => ?_)
    have eM30 := Fr.nil f27 rfl
    subst eM30
    have eR31 := Fr.nil g28 rfl
    subst eR31
    have h_x33 := E32
    clear E32
    refine lv_iload_n hx hb dX12_attends_18 rfl (lv_at hl 2 rfl) ?_
    refine lv_icmp_ne (tgt := 28) hx hb dX12_attends_19 (by decide) (fun c34 => ?_) (fun c34 => ?_)
    · have q35 : ¬ x33.toInt = a2.toInt := ti_ne c34
      refine lv_aload_n hx hb dX12_attends_28 rfl (lv_at hl 0 rfl) ?_
      refine tw_getrk hx hb hW hown hK hS f_X12_45_11 hz_a0 hk_a0 (b := b22) k23 dX12_attends_29 ?_
      refine lv_iconst (v := 2) hx hb dX12_attends_32 (by decide) ?_
      refine lv_dup2_11 hx hb dX12_attends_33 rfl rfl ?_
      refine tw_ialk hx hb hK hS hz_b22 hk_b22 (Or.inr (by decide)) hn_b22 (iv_c (c := 2) (n := 2) (by decide)) ⟨by decide, by decide⟩ (v := x26) k25 dX12_attends_34 ?_
      refine lv_iconst (v := 1) hx hb dX12_attends_35 (by decide) ?_
      refine lv_iload_n hx hb dX12_attends_36 rfl (lv_at hl 1 rfl) ?_
      refine lv_ishl hx hb dX12_attends_37 ?_
      refine tw_top (fun x37 => ?_)
      have h36 := iv_any x37
      refine lv_ixor hx hb dX12_attends_38 ?_
      refine tw_top (fun x39 => ?_)
      have h38 := iv_any x39
      refine tw_iast hx hb hK hS hz_b22 hk_b22 (Or.inr (by decide)) hn_b22 (iv_c (c := 2) (n := 2) (by decide)) ⟨by decide, by decide⟩ h38 (rg_cs (k0 := 2) rfl rfl rfl ⟨by decide, by decide⟩) (jl := 2) (jh := 2) ⟨by decide, by decide⟩ rfl dX12_attends_39 (fun H locs M42 hS k40 f41 => ?_)
      refine lv_aload_n hx hb dX12_attends_40 rfl (lv_at hl 0 rfl) ?_
      refine tw_getrk hx hb hW hown hK hS f_X12_45_11 hz_a0 hk_a0 (b := b22) k23 dX12_attends_41 ?_
      refine lv_bipush (v := 10) hx hb dX12_attends_44 (by decide) ?_
      refine lv_iload_n hx hb dX12_attends_46 rfl (lv_at hl 1 rfl) ?_
      refine tw_iadd (lo := 10) (hi := 19) hx hb (iv_c (c := 10) (n := 10) (by decide)) h21 ⟨by decide, by decide⟩ ⟨by decide, by decide⟩ dX12_attends_47 (fun x45 e44 h43 => ?_)
      have e44 : x45.toInt = 10 + a1.toInt := e44
      refine lv_iconst (v := 1) hx hb dX12_attends_48 (by decide) ?_
      refine tw_iast hx hb hK hS hz_b22 hk_b22 (Or.inr (by decide)) hn_b22 h43 ⟨by decide, by decide⟩ (iv_c (c := 1) (n := 1) (by decide)) (rg_svs ⟨by decide, by decide⟩ ⟨by decide, by decide⟩) (jl := 10) (jh := 19) ⟨by decide, by decide⟩ rfl dX12_attends_49 (fun H locs M48 hS k46 f47 => ?_)
      refine lv_aload_n hx hb dX12_attends_50 rfl (lv_at hl 0 rfl) ?_
      refine tw_getrk hx hb hW hown hK hS f_X12_45_11 hz_a0 hk_a0 (b := b22) k23 dX12_attends_51 ?_
      refine lv_iconst (v := 2) hx hb dX12_attends_54 (by decide) ?_
      have k49 : M48 b22 (2 : Int32).toNatClampNeg = x39 := (Fr.kp (k := (2 : Int32).toNatClampNeg) f47 hk_b22 rfl).trans k40
      refine tw_ialk hx hb hK hS hz_b22 hk_b22 (Or.inr (by decide)) hn_b22 (iv_c (c := 2) (n := 2) (by decide)) ⟨by decide, by decide⟩ (v := x39) k49 dX12_attends_55 ?_
      refine tw_goi hS (md_runS (As := [.int x39]) (rest := []) hx hb hml hown hW hK hT hS.1 (t_X12_bits l D cy tx base Z K N M48 Ra J29 hS.2.1 x39 h38) s_X12_341 ⟨rfl, rfl, ⟨Nat.le_of_ble_eq_true rfl, Nat.le_of_ble_eq_true rfl⟩, ⟨Nat.le_of_ble_eq_true rfl, Nat.le_of_ble_eq_true rfl⟩⟩ rfl hl.1 rfl (Nat.le_of_ble_eq_true rfl) dX12_attends_56) rfl rfl (fun x56 H locs M53 R54 J52 hS f50 g51 E55 => ?_)
      have eM53 := Fr.nil f50 rfl
      subst eM53
      have eR54 := Fr.nil g51 rfl
      subst eR54
      have h_x56 := E55
      clear E55
      exact tw_endi hx hb hr hlocks hK hT hS hQ (h_x56) dX12_attends_59
    · have q57 : x33.toInt = a2.toInt := ti_eq c34
      have h58 : iv 0 1 a2 := ⟨by have := (h_x33).1; have := (h_a2).1; omega, by have := (h_x33).2; have := (h_a2).2; omega⟩
      refine lv_aload_n hx hb dX12_attends_22 rfl (lv_at hl 0 rfl) ?_
      refine lv_iconst (v := 0) hx hb dX12_attends_23 (by decide) ?_
      refine tw_goi hS (md_runV (As := [.int 0]) (rest := []) hx hb hml hown hW hK hT hS.1 (t_X12_refuses l D cy tx base Z K N Ma Ra J29 hS.2.1 a0 hz_a0 hk_a0 0 (iv_mono (iv_c (c := 0) (n := 0) (by decide)) (by decide) (by decide))) s_X12_338 ⟨rfl, rfl, ⟨Nat.le_of_ble_eq_true rfl, Nat.le_of_ble_eq_true rfl⟩, ⟨Nat.le_of_ble_eq_true rfl, Nat.le_of_ble_eq_true rfl⟩⟩ hz_a0 hk_a0 (by decide) rfl rfl hl.1 rfl (Nat.le_of_ble_eq_true rfl) dX12_attends_24) rfl rfl (fun x65 H locs M62 R63 J61 hS f59 g60 E64 => ?_)
      have eR63 := Fr.nil g60 rfl
      subst eR63
      have h_x65 := E64
      clear E64
      exact tw_endi hx hb hr hlocks hK hT hS hQ ((iv_mono h_x65 (by decide) (by decide))) dX12_attends_27
def Lt_X12_begins : WL := [(12, 28, 29), (12, 30, 31), (14, 0, 2000000), (30, 0, 2000000), (31, 0, 2000000)]
def LRt_X12_begins : WL := []
set_option maxRecDepth 100000 in
set_option maxHeartbeats 4000000 in
theorem t_X12_begins (l : Launch) (D : va_G) (cy : Nat → ClassId) (tx : (Nat → Nat) × (Nat → Nat)) (base Z : Nat) (K N : Nat → Nat) (Ma : MT) (Ra : RT) (Ja : JT) (hTy : Ty Z K N Ma Ra) (a0 : Nat) (hz_a0 : a0 < Z) (hk_a0 : K a0 = 12) (sd : Nat) (k_sd : Ra a0 25 = some sd) (e4 : Int32) (k_e4 : Ma sd (4 : Int32).toNatClampNeg = e4) (h_e4 : iv 0 8 e4) : Met l yX12_begins [Cond.code yX12_begins cX12_begins 2 none] (md_rm 1 0 0) (va_Pc [.ref (base + a0)] (md_U D cy tx base Z K N Ma Ra Ja)) (mQv D cy tx base (fun u => TP Z K N Lt_X12_begins LRt_X12_begins Ma Ra u ∧ (u.2.2.2.1 a0 30 = e4))) 0 0 (fun q => base ≤ q) := by
  refine tw_ofW (L := Lt_X12_begins) (LR := LRt_X12_begins) (by decide) (Nat.le_of_ble_eq_true rfl) hTy ?_
  intro p e s m args below meth c Q ls hx hb hr hlocks hown hml hW hK hT hS hQ hl
  have hl : lv_has ls 2 [(0, .ref (base + a0))] := hl
  obtain ⟨hz_sd, hk_sd, hn_sd⟩ := hTy.refn hz_a0 hk_a0 (show rtR 12 25 = (23, 226, 0) from rfl) k_sd
  have hn_sd := hn_sd (by decide)
  refine lv_iconst (v := 0) hx hb dX12_begins_0 (by decide) ?_
  refine lv_istore_n (lv' := [(1, .int 0), (0, .ref (base + a0))]) hx hb dX12_begins_1 rfl hl (by decide) rfl (fun ls hl => ?_)
  have W2_2 : ∀ (n_2 : Nat) (x1 : Int32) (M2 : MT) (R3 : RT) (J4 : JT) (H : Heap) (locs : List Loc) (ls : Array Slot) (h_x1 : iv 0 10 x1) (hm_2 : 10 - x1.toInt < (n_2 : Int)) (hS : SB D cy base Z K N Lt_X12_begins LRt_X12_begins Ma Ra M2 R3 J4 s H locs) (hl : lv_has ls 2 [(1, .int x1), (0, .ref (base + a0))]), W p l e (md_rm 1 0 0) s m args below meth c H locs 0 0 Q (F0 m 2 ls []) := by
    intro n_2
    induction n_2 with
    | zero =>
      intro x1 M2 R3 J4 H locs ls h_x1 hm_2 hS hl
      exfalso
      have := (h_e4).1; have := (h_e4).2; have := (h_x1).1; have := (h_x1).2; omega
    | succ n_2 ih_2 =>
      intro x1 M2 R3 J4 H locs ls h_x1 hm_2 hS hl
      have f5 := hS.2.2.1
      have g6 := hS.2.2.2
      refine lv_iload_n hx hb dX12_begins_2 rfl (lv_at hl 0 rfl) ?_
      refine lv_bipush (v := 10) hx hb dX12_begins_3 (by decide) ?_
      refine lv_icmp_ge (tgt := 43) hx hb dX12_begins_5 (by decide) (fun c7 => ?_) (fun c7 => ?_)
      · have q8 : 10 ≤ x1.toInt := ti_le c7
        have h9 : iv 10 10 x1 := iv_geL (y := 10) h_x1 (iv_c (c := 10) (n := 10) (by decide)) q8 (by decide)
        refine lv_aload_n hx hb dX12_begins_43 rfl (lv_at hl 1 rfl) ?_
        refine lv_aload_n hx hb dX12_begins_44 rfl (lv_at hl 1 rfl) ?_
        have k10 : R3 a0 25 = some sd := (Fr.kp (k := 25) g6 hk_a0 rfl).trans k_sd
        refine tw_getrk hx hb hW hown hK hS f_X12_45_11 hz_a0 hk_a0 (b := sd) k10 dX12_begins_45 ?_
        refine lv_iconst (v := 3) hx hb dX12_begins_48 (by decide) ?_
        refine tw_iald hx hb hK hS hz_sd hk_sd (Or.inr (by decide)) hn_sd (lo := (-2147483648)) (hi := 2147483647) (iv_c (c := 3) (n := 3) (by decide)) ⟨by decide, by decide⟩ (rg_c (k0 := 3) rfl rfl rfl) dX12_begins_49 (fun x13 k12 h11 => ?_)
        refine tw_puti hx hb hW hown hK hS f_X12_348_11 hz_a0 hk_a0 rfl rfl (lo := (-2147483648)) (hi := 2147483647) rfl h11 rfl dX12_begins_50 (fun H locs M16 hS k14 f15 => ?_)
        refine lv_aload_n hx hb dX12_begins_53 rfl (lv_at hl 1 rfl) ?_
        refine lv_aload_n hx hb dX12_begins_54 rfl (lv_at hl 1 rfl) ?_
        have k17 : R3 a0 25 = some sd := (Fr.kp (k := 25) g6 hk_a0 rfl).trans k_sd
        refine tw_getrk hx hb hW hown hK hS f_X12_45_11 hz_a0 hk_a0 (b := sd) k17 dX12_begins_55 ?_
        refine lv_iconst (v := 4) hx hb dX12_begins_58 (by decide) ?_
        have k18 : M16 sd (4 : Int32).toNatClampNeg = e4 := ((Fr.kp (k := (4 : Int32).toNatClampNeg) f15 hk_sd rfl).trans (Fr.kp (k := (4 : Int32).toNatClampNeg) f5 hk_sd rfl)).trans k_e4
        refine tw_ialk hx hb hK hS hz_sd hk_sd (Or.inr (by decide)) hn_sd (iv_c (c := 4) (n := 4) (by decide)) ⟨by decide, by decide⟩ (v := e4) k18 dX12_begins_59 ?_
        refine tw_puti hx hb hW hown hK hS f_X12_351_11 hz_a0 hk_a0 rfl rfl (lo := 0) (hi := 8) rfl h_e4 rfl dX12_begins_60 (fun H locs M21 hS k19 f20 => ?_)
        refine lv_iconst (v := 0) hx hb dX12_begins_63 (by decide) ?_
        refine lv_istore_n (lv' := [(1, .int 0), (0, .ref (base + a0))]) hx hb dX12_begins_64 rfl hl (by decide) rfl (fun ls hl => ?_)
        have W65_23 : ∀ (n_23 : Nat) (x22 : Int32) (x28 : Int32) (M23 : MT) (R24 : RT) (J25 : JT) (H : Heap) (locs : List Loc) (ls : Array Slot) (h_x22 : iv 0 8 x22) (h_x28 : iv 0 8 x28) (k29 : M23 a0 30 = x28) (w0_23 : x28.toInt = e4.toInt) (hm_23 : 8 - x22.toInt < (n_23 : Int)) (hS : SB D cy base Z K N Lt_X12_begins LRt_X12_begins Ma Ra M23 R24 J25 s H locs) (hl : lv_has ls 2 [(1, .int x22), (0, .ref (base + a0))]), W p l e (md_rm 1 0 0) s m args below meth c H locs 0 0 Q (F0 m 65 ls []) := by
          intro n_23
          induction n_23 with
          | zero =>
            intro x22 x28 M23 R24 J25 H locs ls h_x22 h_x28 k29 w0_23 hm_23 hS hl
            exfalso
            have := (h_e4).1; have := (h_e4).2; have := (h_x22).1; have := (h_x22).2; omega
          | succ n_23 ih_23 =>
            intro x22 x28 M23 R24 J25 H locs ls h_x22 h_x28 k29 w0_23 hm_23 hS hl
            have f26 := hS.2.2.1
            have g27 := hS.2.2.2
            refine lv_iload_n hx hb dX12_begins_65 rfl (lv_at hl 0 rfl) ?_
            refine lv_aload_n hx hb dX12_begins_66 rfl (lv_at hl 1 rfl) ?_
            refine tw_getk hx hb hW hown hK hS f_X12_351_11 hz_a0 hk_a0 (v := x28) k29 dX12_begins_67 ?_
            refine lv_icmp_ge (tgt := 95) hx hb dX12_begins_70 (by decide) (fun c30 => ?_) (fun c30 => ?_)
            · have q31 : x28.toInt ≤ x22.toInt := ti_le c30
              exact tw_endv hx hb hr hlocks hK hT hS hQ ((k29.trans (Int32.toInt_inj.mp (by omega)))) dX12_begins_95
            · have q32 : x22.toInt < x28.toInt := ti_nle c30
              have h33 : iv 0 7 x22 := iv_ltL (y := x28) h_x22 h_x28 q32 (by decide)
              have h34 : iv 1 8 x28 := iv_gtL (y := x22) h_x28 h_x22 q32 (by decide)
              refine lv_aload_n hx hb dX12_begins_73 rfl (lv_at hl 1 rfl) ?_
              refine tw_getr hx hb hW hown hK hS f_X12_54_11 hz_a0 hk_a0 (t := 31) (n := 8) rfl dX12_begins_74 (fun b35 k36 hz_b35 hk_b35 hn_b35 => ?_)
              have hn_b35 := hn_b35 (by decide)
              refine lv_iload_n hx hb dX12_begins_77 rfl (lv_at hl 0 rfl) ?_
              refine lv_aload_n hx hb dX12_begins_78 rfl (lv_at hl 1 rfl) ?_
              have k37 : R24 a0 25 = some sd := (Fr.kp (k := 25) g27 hk_a0 rfl).trans k_sd
              refine tw_getrk hx hb hW hown hK hS f_X12_45_11 hz_a0 hk_a0 (b := sd) k37 dX12_begins_79 ?_
              refine lv_sipush (v := 170) hx hb dX12_begins_82 (by decide) ?_
              refine lv_iload_n hx hb dX12_begins_85 rfl (lv_at hl 0 rfl) ?_
              refine tw_iadd (lo := 170) (hi := 177) hx hb (iv_c (c := 170) (n := 170) (by decide)) h33 ⟨by decide, by decide⟩ ⟨by decide, by decide⟩ dX12_begins_86 (fun x40 e39 h38 => ?_)
              have e39 : x40.toInt = 170 + x22.toInt := e39
              refine tw_iald hx hb hK hS hz_sd hk_sd (Or.inr (by decide)) hn_sd (lo := 0) (hi := 11) h38 ⟨by decide, by decide⟩ (rg_so ⟨by decide, by decide⟩) dX12_begins_87 (fun x43 k42 h41 => ?_)
              refine tw_iast hx hb hK hS hz_b35 hk_b35 (Or.inr (by decide)) hn_b35 h33 ⟨by decide, by decide⟩ h41 (rg_s31 ⟨by decide, by decide⟩) (jl := 0) (jh := 1999999) ⟨by decide, by decide⟩ rfl dX12_begins_88 (fun H locs M46 hS k44 f45 => ?_)
              refine tw_iinc (lv' := fun x49 => [(1, .int x49), (0, .ref (base + a0))]) (lo := 1) (hi := 8) hx hb dX12_begins_89 hl (k := 0) rfl h33 (by decide) ⟨by decide, by decide⟩ ⟨by decide, by decide⟩ (by decide) (fun _ => rfl) (fun x49 ls e48 h47 hl => ?_)
              refine lv_goto (tgt := 65) hx hb dX12_begins_92 (by decide) ?_
              have k50 : M46 a0 30 = x28 := (Fr.kp (k := 30) f45 hk_a0 rfl).trans k29
              have w51 : x28.toInt = e4.toInt := by
                have := (h_e4).1; have := (h_e4).2; have := (h34).1; have := (h34).2; omega
              have hm52 : 8 - x49.toInt < (n_23 : Int) := by
                have := (h_e4).1; have := (h_e4).2; have := (h33).1; have := (h33).2; have := (h38).1; have := (h38).2; have := (h47).1; have := (h47).2; omega
              exact ih_23 x49 x28 M46 R24 J25 H locs _ (iv_mono h47 (by decide) (by decide)) (iv_mono h34 (by decide) (by decide)) k50 w51 hm52 hS hl
        have w53 : e4.toInt = e4.toInt := by
          have := (h_e4).1; have := (h_e4).2; omega
        have hm54 : 8 - (0 : Int32).toInt < (((9 : Nat) : Int) : Int) := by
          have := (h_e4).1; have := (h_e4).2; have : (0 : Int32).toInt = 0 := (by decide); omega
        exact W65_23 9 0 e4 M21 R3 J4 H locs _ (iv_mono (iv_c (c := 0) (n := 0) (by decide)) (by decide) (by decide)) h_e4 k19 w53 hm54 hS hl
      · have q55 : x1.toInt < 10 := ti_nle c7
        have h56 : iv 0 9 x1 := iv_ltL (y := 10) h_x1 (iv_c (c := 10) (n := 10) (by decide)) q55 (by decide)
        refine lv_aload_n hx hb dX12_begins_8 rfl (lv_at hl 1 rfl) ?_
        refine tw_getr hx hb hW hown hK hS f_X12_51_11 hz_a0 hk_a0 (t := 30) (n := 10) rfl dX12_begins_9 (fun b57 k58 hz_b57 hk_b57 hn_b57 => ?_)
        have hn_b57 := hn_b57 (by decide)
        refine lv_iload_n hx hb dX12_begins_12 rfl (lv_at hl 0 rfl) ?_
        refine lv_aload_n hx hb dX12_begins_13 rfl (lv_at hl 1 rfl) ?_
        have k59 : R3 a0 25 = some sd := (Fr.kp (k := 25) g6 hk_a0 rfl).trans k_sd
        refine tw_getrk hx hb hW hown hK hS f_X12_45_11 hz_a0 hk_a0 (b := sd) k59 dX12_begins_14 ?_
        refine lv_bipush (v := 10) hx hb dX12_begins_17 (by decide) ?_
        refine lv_iload_n hx hb dX12_begins_19 rfl (lv_at hl 0 rfl) ?_
        refine tw_iadd (lo := 10) (hi := 19) hx hb (iv_c (c := 10) (n := 10) (by decide)) h56 ⟨by decide, by decide⟩ ⟨by decide, by decide⟩ dX12_begins_20 (fun x62 e61 h60 => ?_)
        have e61 : x62.toInt = 10 + x1.toInt := e61
        refine tw_iald hx hb hK hS hz_sd hk_sd (Or.inr (by decide)) hn_sd (lo := 0) (hi := 9999) h60 ⟨by decide, by decide⟩ (rg_sv ⟨by decide, by decide⟩) dX12_begins_21 (fun x65 k64 h63 => ?_)
        refine tw_iast hx hb hK hS hz_b57 hk_b57 (Or.inr (by decide)) hn_b57 h56 ⟨by decide, by decide⟩ h63 (rg_s30 ⟨by decide, by decide⟩) (jl := 0) (jh := 1999999) ⟨by decide, by decide⟩ rfl dX12_begins_22 (fun H locs M68 hS k66 f67 => ?_)
        refine lv_aload_n hx hb dX12_begins_23 rfl (lv_at hl 1 rfl) ?_
        refine tw_getr hx hb hW hown hK hS f_X12_57_11 hz_a0 hk_a0 (t := 14) (n := 10) rfl dX12_begins_24 (fun b69 k70 hz_b69 hk_b69 hn_b69 => ?_)
        have hn_b69 := hn_b69 (by decide)
        refine lv_iload_n hx hb dX12_begins_27 rfl (lv_at hl 0 rfl) ?_
        refine lv_iconst (v := 0) hx hb dX12_begins_28 (by decide) ?_
        refine tw_iast hx hb hK hS hz_b69 hk_b69 (Or.inl rfl) hn_b69 h56 ⟨by decide, by decide⟩ (iv_c (c := 0) (n := 0) (by decide)) (rg_s14 ⟨by decide, by decide⟩) (jl := 0) (jh := 1999999) ⟨by decide, by decide⟩ rfl dX12_begins_29 (fun H locs M73 hS k71 f72 => ?_)
        refine lv_aload_n hx hb dX12_begins_30 rfl (lv_at hl 1 rfl) ?_
        refine tw_getr hx hb hW hown hK hS f_X12_60_11 hz_a0 hk_a0 (t := 14) (n := 10) rfl dX12_begins_31 (fun b74 k75 hz_b74 hk_b74 hn_b74 => ?_)
        have hn_b74 := hn_b74 (by decide)
        refine lv_iload_n hx hb dX12_begins_34 rfl (lv_at hl 0 rfl) ?_
        refine lv_iconst (v := 0) hx hb dX12_begins_35 (by decide) ?_
        refine tw_iast hx hb hK hS hz_b74 hk_b74 (Or.inl rfl) hn_b74 h56 ⟨by decide, by decide⟩ (iv_c (c := 0) (n := 0) (by decide)) (rg_s14 ⟨by decide, by decide⟩) (jl := 0) (jh := 1999999) ⟨by decide, by decide⟩ rfl dX12_begins_36 (fun H locs M78 hS k76 f77 => ?_)
        refine tw_iinc (lv' := fun x81 => [(1, .int x81), (0, .ref (base + a0))]) (lo := 1) (hi := 10) hx hb dX12_begins_37 hl (k := 0) rfl h56 (by decide) ⟨by decide, by decide⟩ ⟨by decide, by decide⟩ (by decide) (fun _ => rfl) (fun x81 ls e80 h79 hl => ?_)
        refine lv_goto (tgt := 2) hx hb dX12_begins_40 (by decide) ?_
        have hm82 : 10 - x81.toInt < (n_2 : Int) := by
          have := (h_e4).1; have := (h_e4).2; have := (h56).1; have := (h56).2; have := (h60).1; have := (h60).2; have := (h79).1; have := (h79).2; omega
        exact ih_2 x81 M78 R3 J4 H locs _ (iv_mono h79 (by decide) (by decide)) hm82 hS hl
  have hm83 : 10 - (0 : Int32).toInt < (((11 : Nat) : Int) : Int) := by
    have := (h_e4).1; have := (h_e4).2; have : (0 : Int32).toInt = 0 := (by decide); omega
  exact W2_2 11 0 Ma Ra Ja s.heap [] _ (iv_mono (iv_c (c := 0) (n := 0) (by decide)) (by decide) (by decide)) hm83 hS hl
def Lt_X12_isSet : WL := []
def LRt_X12_isSet : WL := []
set_option maxRecDepth 100000 in
set_option maxHeartbeats 4000000 in
theorem t_X12_isSet (l : Launch) (D : va_G) (cy : Nat → ClassId) (tx : (Nat → Nat) × (Nat → Nat)) (base Z : Nat) (K N : Nat → Nat) (Ma : MT) (Ra : RT) (Ja : JT) (hTy : Ty Z K N Ma Ra) (a0 : Nat) (hz_a0 : a0 < Z) (hk_a0 : K a0 = 12) (a1 : Int32) (h_a1 : iv (-2147483648) 2147483647 a1) : Met l yX12_isSet [Cond.code yX12_isSet cX12_isSet 2 (some .boolean)] (md_rm 1 0 0) (va_Pc [.ref (base + a0), .int a1] (md_U D cy tx base Z K N Ma Ra Ja)) (mQi D cy tx base (fun r u => TP Z K N Lt_X12_isSet LRt_X12_isSet Ma Ra u ∧ (iv 0 1 r))) 0 0 (fun q => base ≤ q) := by
  refine tw_ofW (L := Lt_X12_isSet) (LR := LRt_X12_isSet) (by decide) (Nat.le_of_ble_eq_true rfl) hTy ?_
  intro p e s m args below meth c Q ls hx hb hr hlocks hown hml hW hK hT hS hQ hl
  have hl : lv_has ls 2 [(0, .ref (base + a0)), (1, .int a1)] := hl
  refine lv_iload_n hx hb dX12_isSet_0 rfl (lv_at hl 1 rfl) ?_
  refine lv_if_lt (tgt := 20) hx hb dX12_isSet_1 (by decide) (fun c1 => ?_) (fun c1 => ?_)
  · have q2 : a1.toInt < 0 := ti_lt c1
    have h3 : iv (-2147483648) (-1) a1 := iv_ltL (y := 0) h_a1 (iv_c (c := 0) (n := 0) (by decide)) q2 (by decide)
    refine lv_iconst (v := 0) hx hb dX12_isSet_20 (by decide) ?_
    exact tw_endz hx hb hr hlocks hK hT hS hQ rfl ((iv_mono (iv_c (c := 0) (n := 0) (by decide)) (by decide) (by decide))) dX12_isSet_21
  · have q4 : 0 ≤ a1.toInt := ti_nlt c1
    have h5 : iv 0 2147483647 a1 := iv_geL (y := 0) h_a1 (iv_c (c := 0) (n := 0) (by decide)) q4 (by decide)
    refine lv_iload_n hx hb dX12_isSet_4 rfl (lv_at hl 1 rfl) ?_
    refine lv_iconst (v := 1) hx hb dX12_isSet_5 (by decide) ?_
    refine lv_aload_n hx hb dX12_isSet_6 rfl (lv_at hl 0 rfl) ?_
    refine tw_getr hx hb hW hown hK hS f_X12_45_11 hz_a0 hk_a0 (t := 23) (n := 226) rfl dX12_isSet_7 (fun b6 k7 hz_b6 hk_b6 hn_b6 => ?_)
    have hn_b6 := hn_b6 (by decide)
    refine lv_iconst (v := 0) hx hb dX12_isSet_10 (by decide) ?_
    refine tw_iald hx hb hK hS hz_b6 hk_b6 (Or.inr (by decide)) hn_b6 (lo := 0) (hi := 10) (iv_c (c := 0) (n := 0) (by decide)) ⟨by decide, by decide⟩ (rg_c (k0 := 0) rfl rfl rfl) dX12_isSet_11 (fun x10 k9 h8 => ?_)
    refine lv_ishl hx hb dX12_isSet_12 ?_
    refine tw_top (fun x12 => ?_)
    have h11 := iv_any x12
    refine lv_icmp_ge (tgt := 20) hx hb dX12_isSet_13 (by decide) (fun c13 => ?_) (fun c13 => ?_)
    · have q14 : x12.toInt ≤ a1.toInt := ti_le c13
      refine lv_iconst (v := 0) hx hb dX12_isSet_20 (by decide) ?_
      exact tw_endz hx hb hr hlocks hK hT hS hQ rfl ((iv_mono (iv_c (c := 0) (n := 0) (by decide)) (by decide) (by decide))) dX12_isSet_21
    · have q15 : a1.toInt < x12.toInt := ti_nle c13
      have h16 : iv 0 2147483646 a1 := iv_ltL (y := x12) h5 h11 q15 (by decide)
      have h17 : iv 1 2147483647 x12 := iv_gtL (y := a1) h11 h5 q15 (by decide)
      refine lv_iconst (v := 1) hx hb dX12_isSet_16 (by decide) ?_
      refine lv_goto (tgt := 21) hx hb dX12_isSet_17 (by decide) ?_
      exact tw_endz hx hb hr hlocks hK hT hS hQ rfl ((iv_mono (iv_c (c := 1) (n := 1) (by decide)) (by decide) (by decide))) dX12_isSet_21
def Lt_X12_grows : WL := [(14, 0, 2000000), (30, 0, 2000000)]
def LRt_X12_grows : WL := []
set_option maxRecDepth 100000 in
set_option maxHeartbeats 4000000 in
theorem t_X12_grows (l : Launch) (D : va_G) (cy : Nat → ClassId) (tx : (Nat → Nat) × (Nat → Nat)) (base Z : Nat) (K N : Nat → Nat) (Ma : MT) (Ra : RT) (Ja : JT) (hTy : Ty Z K N Ma Ra) (a0 : Nat) (hz_a0 : a0 < Z) (hk_a0 : K a0 = 12) (a1 : Int32) (h_a1 : iv 0 9 a1) (a2 : Int32) (h_a2 : iv 0 1 a2) : Met l yX12_grows [Cond.code yX12_grows cX12_grows 5 none] (md_rm 1 0 0) (va_Pc [.ref (base + a0), .int a1, .int a2] (md_U D cy tx base Z K N Ma Ra Ja)) (mQv D cy tx base (fun u => TP Z K N Lt_X12_grows LRt_X12_grows Ma Ra u ∧ (True))) 0 0 (fun q => base ≤ q) := by
  refine tw_ofW (L := Lt_X12_grows) (LR := LRt_X12_grows) (by decide) (Nat.le_of_ble_eq_true rfl) hTy ?_
  intro p e s m args below meth c Q ls hx hb hr hlocks hown hml hW hK hT hS hQ hl
  have hl : lv_has ls 5 [(0, .ref (base + a0)), (1, .int a1), (2, .int a2)] := hl
  refine lv_aload_n hx hb dX12_grows_0 rfl (lv_at hl 0 rfl) ?_
  refine tw_getr hx hb hW hown hK hS f_X12_51_11 hz_a0 hk_a0 (t := 30) (n := 10) rfl dX12_grows_1 (fun b1 k2 hz_b1 hk_b1 hn_b1 => ?_)
  have hn_b1 := hn_b1 (by decide)
  refine lv_iload_n hx hb dX12_grows_4 rfl (lv_at hl 1 rfl) ?_
  refine tw_iald hx hb hK hS hz_b1 hk_b1 (Or.inr (by decide)) hn_b1 (lo := 0) (hi := 9999) h_a1 ⟨by decide, by decide⟩ rg_u30 dX12_grows_5 (fun x5 k4 h3 => ?_)
  refine lv_istore_n (lv' := [(3, .int x5), (0, .ref (base + a0)), (1, .int a1), (2, .int a2)]) hx hb dX12_grows_6 rfl hl (by decide) rfl (fun ls hl => ?_)
  refine lv_iload_n hx hb dX12_grows_7 rfl (lv_at hl 3 rfl) ?_
  refine lv_if_eq (tgt := 51) hx hb dX12_grows_8 (by decide) (fun c6 => ?_) (fun c6 => ?_)
  · have q7 : a2.toInt = 0 := ti_eq c6
    have h8 : iv 0 0 a2 := ⟨by have := (h_a2).1; have := ((iv_c (c := 0) (n := 0) (by decide))).1; omega, by have := (h_a2).2; have := ((iv_c (c := 0) (n := 0) (by decide))).2; omega⟩
    refine lv_aload_n hx hb dX12_grows_51 rfl (lv_at hl 1 rfl) ?_
    refine tw_getr hx hb hW hown hK hS f_X12_60_11 hz_a0 hk_a0 (t := 14) (n := 10) rfl dX12_grows_52 (fun b9 k10 hz_b9 hk_b9 hn_b9 => ?_)
    have hn_b9 := hn_b9 (by decide)
    refine lv_iload_n hx hb dX12_grows_55 rfl (lv_at hl 2 rfl) ?_
    refine lv_dup2_11 hx hb dX12_grows_56 rfl rfl ?_
    refine tw_iald hx hb hK hS hz_b9 hk_b9 (Or.inl rfl) hn_b9 (lo := (-2147483648)) (hi := 2147483647) h_a1 ⟨by decide, by decide⟩ rg_u14 dX12_grows_57 (fun x13 k12 h11 => ?_)
    refine lv_iconst (v := 1) hx hb dX12_grows_58 (by decide) ?_
    refine lv_iadd hx hb dX12_grows_59 ?_
    refine tw_top (fun x15 => ?_)
    have h14 := iv_any x15
    refine tw_iast hx hb hK hS hz_b9 hk_b9 (Or.inl rfl) hn_b9 h_a1 ⟨by decide, by decide⟩ h14 (rg_s14 ⟨by decide, by decide⟩) (jl := 0) (jh := 1999999) ⟨by decide, by decide⟩ rfl dX12_grows_60 (fun H locs M18 hS k16 f17 => ?_)
    refine lv_aload_n hx hb dX12_grows_61 rfl (lv_at hl 1 rfl) ?_
    refine tw_getr hx hb hW hown hK hS f_X12_45_11 hz_a0 hk_a0 (t := 23) (n := 226) rfl dX12_grows_62 (fun b19 k20 hz_b19 hk_b19 hn_b19 => ?_)
    have hn_b19 := hn_b19 (by decide)
    refine lv_bipush (v := 7) hx hb dX12_grows_65 (by decide) ?_
    refine tw_iald hx hb hK hS hz_b19 hk_b19 (Or.inr (by decide)) hn_b19 (lo := (-2147483648)) (hi := 2147483647) (iv_c (c := 7) (n := 7) (by decide)) ⟨by decide, by decide⟩ (rg_c (k0 := 7) rfl rfl rfl) dX12_grows_67 (fun x23 k22 h21 => ?_)
    refine lv_iconst (v := 1) hx hb dX12_grows_68 (by decide) ?_
    refine lv_icmp_ne (tgt := 78) hx hb dX12_grows_69 (by decide) (fun c24 => ?_) (fun c24 => ?_)
    · have q25 : ¬ x23.toInt = 1 := ti_ne c24
      refine lv_iload_n hx hb dX12_grows_78 rfl (lv_at hl 0 rfl) ?_
      refine lv_iconst (v := 1) hx hb dX12_grows_79 (by decide) ?_
      refine tw_iadd (lo := 1) (hi := 10000) hx hb h3 (iv_c (c := 1) (n := 1) (by decide)) ⟨by decide, by decide⟩ ⟨by decide, by decide⟩ dX12_grows_80 (fun x28 e27 h26 => ?_)
      have e27 : x28.toInt = x5.toInt + 1 := e27
      refine lv_istore (lv' := [(4, .int x28), (3, .int x5), (0, .ref (base + a0)), (1, .int a1), (2, .int a2)]) hx hb dX12_grows_81 hl (by decide) rfl (fun ls hl => ?_)
      refine lv_aload_n hx hb dX12_grows_83 rfl (lv_at hl 2 rfl) ?_
      refine tw_getrk hx hb hW hown hK hS f_X12_51_11 hz_a0 hk_a0 (b := b1) k2 dX12_grows_84 ?_
      refine lv_iload_n hx hb dX12_grows_87 rfl (lv_at hl 3 rfl) ?_
      refine lv_iload hx hb dX12_grows_88 (lv_at hl 0 rfl) ?_
      refine lv_aload_n hx hb dX12_grows_90 rfl (lv_at hl 2 rfl) ?_
      refine tw_getrk hx hb hW hown hK hS f_X12_45_11 hz_a0 hk_a0 (b := b19) k20 dX12_grows_91 ?_
      refine lv_bipush (v := 8) hx hb dX12_grows_94 (by decide) ?_
      refine tw_iald hx hb hK hS hz_b19 hk_b19 (Or.inr (by decide)) hn_b19 (lo := 0) (hi := 9999) (iv_c (c := 8) (n := 8) (by decide)) ⟨by decide, by decide⟩ (rg_c (k0 := 8) rfl rfl rfl) dX12_grows_96 (fun x31 k30 h29 => ?_)
      refine lv_icmp_le (tgt := 110) hx hb dX12_grows_97 (by decide) (fun c32 => ?_) (fun c32 => ?_)
      · have q33 : x28.toInt ≤ x31.toInt := ti_le c32
        have h34 : iv 1 9999 x28 := iv_leL (y := x31) h26 h29 q33 (by decide)
        have h35 : iv 1 9999 x31 := iv_geL (y := x28) h29 h26 q33 (by decide)
        refine lv_iload hx hb dX12_grows_110 (lv_at hl 0 rfl) ?_
        refine tw_iast hx hb hK hS hz_b1 hk_b1 (Or.inr (by decide)) hn_b1 h_a1 ⟨by decide, by decide⟩ h34 (rg_s30 ⟨by decide, by decide⟩) (jl := 0) (jh := 1999999) ⟨by decide, by decide⟩ rfl dX12_grows_112 (fun H locs M38 hS k36 f37 => ?_)
        exact tw_endv hx hb hr hlocks hK hT hS hQ (trivial) dX12_grows_113
      · have q39 : x31.toInt < x28.toInt := ti_nle c32
        refine lv_aload_n hx hb dX12_grows_100 rfl (lv_at hl 2 rfl) ?_
        refine tw_getrk hx hb hW hown hK hS f_X12_45_11 hz_a0 hk_a0 (b := b19) k20 dX12_grows_101 ?_
        refine lv_bipush (v := 8) hx hb dX12_grows_104 (by decide) ?_
        refine tw_ialk hx hb hK hS hz_b19 hk_b19 (Or.inr (by decide)) hn_b19 (iv_c (c := 8) (n := 8) (by decide)) ⟨by decide, by decide⟩ (v := x31) k30 dX12_grows_106 ?_
        refine lv_goto (tgt := 112) hx hb dX12_grows_107 (by decide) ?_
        refine tw_iast hx hb hK hS hz_b1 hk_b1 (Or.inr (by decide)) hn_b1 h_a1 ⟨by decide, by decide⟩ h29 (rg_s30 ⟨by decide, by decide⟩) (jl := 0) (jh := 1999999) ⟨by decide, by decide⟩ rfl dX12_grows_112 (fun H locs M42 hS k40 f41 => ?_)
        exact tw_endv hx hb hr hlocks hK hT hS hQ (trivial) dX12_grows_113
    · have q43 : x23.toInt = 1 := ti_eq c24
      have h44 : iv 1 1 x23 := ⟨by have := (h21).1; have := ((iv_c (c := 1) (n := 1) (by decide))).1; omega, by have := (h21).2; have := ((iv_c (c := 1) (n := 1) (by decide))).2; omega⟩
      refine lv_iconst (v := 2) hx hb dX12_grows_72 (by decide) ?_
      refine lv_iload_n hx hb dX12_grows_73 rfl (lv_at hl 0 rfl) ?_
      refine tw_icmul (k := 2) (lo := 0) (hi := 19998) hx hb (by decide) h3 (by decide) ⟨by decide, by decide⟩ ⟨by decide, by decide⟩ dX12_grows_74 (fun x47 e46 h45 => ?_)
      refine lv_goto (tgt := 81) hx hb dX12_grows_75 (by decide) ?_
      refine lv_istore (lv' := [(4, .int x47), (3, .int x5), (0, .ref (base + a0)), (1, .int a1), (2, .int a2)]) hx hb dX12_grows_81 hl (by decide) rfl (fun ls hl => ?_)
      refine lv_aload_n hx hb dX12_grows_83 rfl (lv_at hl 2 rfl) ?_
      refine tw_getrk hx hb hW hown hK hS f_X12_51_11 hz_a0 hk_a0 (b := b1) k2 dX12_grows_84 ?_
      refine lv_iload_n hx hb dX12_grows_87 rfl (lv_at hl 3 rfl) ?_
      refine lv_iload hx hb dX12_grows_88 (lv_at hl 0 rfl) ?_
      refine lv_aload_n hx hb dX12_grows_90 rfl (lv_at hl 2 rfl) ?_
      refine tw_getrk hx hb hW hown hK hS f_X12_45_11 hz_a0 hk_a0 (b := b19) k20 dX12_grows_91 ?_
      refine lv_bipush (v := 8) hx hb dX12_grows_94 (by decide) ?_
      refine tw_iald hx hb hK hS hz_b19 hk_b19 (Or.inr (by decide)) hn_b19 (lo := 0) (hi := 9999) (iv_c (c := 8) (n := 8) (by decide)) ⟨by decide, by decide⟩ (rg_c (k0 := 8) rfl rfl rfl) dX12_grows_96 (fun x50 k49 h48 => ?_)
      refine lv_icmp_le (tgt := 110) hx hb dX12_grows_97 (by decide) (fun c51 => ?_) (fun c51 => ?_)
      · have q52 : x47.toInt ≤ x50.toInt := ti_le c51
        have h53 : iv 0 9999 x47 := iv_leL (y := x50) h45 h48 q52 (by decide)
        refine lv_iload hx hb dX12_grows_110 (lv_at hl 0 rfl) ?_
        refine tw_iast hx hb hK hS hz_b1 hk_b1 (Or.inr (by decide)) hn_b1 h_a1 ⟨by decide, by decide⟩ h53 (rg_s30 ⟨by decide, by decide⟩) (jl := 0) (jh := 1999999) ⟨by decide, by decide⟩ rfl dX12_grows_112 (fun H locs M56 hS k54 f55 => ?_)
        exact tw_endv hx hb hr hlocks hK hT hS hQ (trivial) dX12_grows_113
      · have q57 : x50.toInt < x47.toInt := ti_nle c51
        have h58 : iv 1 19998 x47 := iv_gtL (y := x50) h45 h48 q57 (by decide)
        refine lv_aload_n hx hb dX12_grows_100 rfl (lv_at hl 2 rfl) ?_
        refine tw_getrk hx hb hW hown hK hS f_X12_45_11 hz_a0 hk_a0 (b := b19) k20 dX12_grows_101 ?_
        refine lv_bipush (v := 8) hx hb dX12_grows_104 (by decide) ?_
        refine tw_ialk hx hb hK hS hz_b19 hk_b19 (Or.inr (by decide)) hn_b19 (iv_c (c := 8) (n := 8) (by decide)) ⟨by decide, by decide⟩ (v := x50) k49 dX12_grows_106 ?_
        refine lv_goto (tgt := 112) hx hb dX12_grows_107 (by decide) ?_
        refine tw_iast hx hb hK hS hz_b1 hk_b1 (Or.inr (by decide)) hn_b1 h_a1 ⟨by decide, by decide⟩ h48 (rg_s30 ⟨by decide, by decide⟩) (jl := 0) (jh := 1999999) ⟨by decide, by decide⟩ rfl dX12_grows_112 (fun H locs M61 hS k59 f60 => ?_)
        exact tw_endv hx hb hr hlocks hK hT hS hQ (trivial) dX12_grows_113
  · have q62 : ¬ a2.toInt = 0 := ti_ne c6
    have h63 : iv 1 1 a2 := ⟨by have := (h_a2).1; have := ((iv_c (c := 0) (n := 0) (by decide))).1; have := ((iv_c (c := 0) (n := 0) (by decide))).2; omega, by have := (h_a2).2; have := ((iv_c (c := 0) (n := 0) (by decide))).1; have := ((iv_c (c := 0) (n := 0) (by decide))).2; omega⟩
    refine lv_aload_n hx hb dX12_grows_11 rfl (lv_at hl 1 rfl) ?_
    refine tw_getr hx hb hW hown hK hS f_X12_57_11 hz_a0 hk_a0 (t := 14) (n := 10) rfl dX12_grows_12 (fun b64 k65 hz_b64 hk_b64 hn_b64 => ?_)
    have hn_b64 := hn_b64 (by decide)
    refine lv_iload_n hx hb dX12_grows_15 rfl (lv_at hl 2 rfl) ?_
    refine lv_dup2_11 hx hb dX12_grows_16 rfl rfl ?_
    refine tw_iald hx hb hK hS hz_b64 hk_b64 (Or.inl rfl) hn_b64 (lo := (-2147483648)) (hi := 2147483647) h_a1 ⟨by decide, by decide⟩ rg_u14 dX12_grows_17 (fun x68 k67 h66 => ?_)
    refine lv_iconst (v := 1) hx hb dX12_grows_18 (by decide) ?_
    refine lv_iadd hx hb dX12_grows_19 ?_
    refine tw_top (fun x70 => ?_)
    have h69 := iv_any x70
    refine tw_iast hx hb hK hS hz_b64 hk_b64 (Or.inl rfl) hn_b64 h_a1 ⟨by decide, by decide⟩ h69 (rg_s14 ⟨by decide, by decide⟩) (jl := 0) (jh := 1999999) ⟨by decide, by decide⟩ rfl dX12_grows_20 (fun H locs M73 hS k71 f72 => ?_)
    refine lv_aload_n hx hb dX12_grows_21 rfl (lv_at hl 1 rfl) ?_
    refine tw_getrk hx hb hW hown hK hS f_X12_51_11 hz_a0 hk_a0 (b := b1) k2 dX12_grows_22 ?_
    refine lv_iload_n hx hb dX12_grows_25 rfl (lv_at hl 2 rfl) ?_
    refine lv_aload_n hx hb dX12_grows_26 rfl (lv_at hl 1 rfl) ?_
    refine tw_getr hx hb hW hown hK hS f_X12_45_11 hz_a0 hk_a0 (t := 23) (n := 226) rfl dX12_grows_27 (fun b74 k75 hz_b74 hk_b74 hn_b74 => ?_)
    have hn_b74 := hn_b74 (by decide)
    refine lv_bipush (v := 7) hx hb dX12_grows_30 (by decide) ?_
    refine tw_iald hx hb hK hS hz_b74 hk_b74 (Or.inr (by decide)) hn_b74 (lo := (-2147483648)) (hi := 2147483647) (iv_c (c := 7) (n := 7) (by decide)) ⟨by decide, by decide⟩ (rg_c (k0 := 7) rfl rfl rfl) dX12_grows_32 (fun x78 k77 h76 => ?_)
    refine lv_iconst (v := 2) hx hb dX12_grows_33 (by decide) ?_
    refine lv_icmp_ne (tgt := 48) hx hb dX12_grows_34 (by decide) (fun c79 => ?_) (fun c79 => ?_)
    · have q80 : ¬ x78.toInt = 2 := ti_ne c79
      refine lv_iconst (v := 1) hx hb dX12_grows_48 (by decide) ?_
      refine tw_iast hx hb hK hS hz_b1 hk_b1 (Or.inr (by decide)) hn_b1 h_a1 ⟨by decide, by decide⟩ (iv_c (c := 1) (n := 1) (by decide)) (rg_s30 ⟨by decide, by decide⟩) (jl := 0) (jh := 1999999) ⟨by decide, by decide⟩ rfl dX12_grows_49 (fun H locs M83 hS k81 f82 => ?_)
      exact tw_endv hx hb hr hlocks hK hT hS hQ (trivial) dX12_grows_50
    · have q84 : x78.toInt = 2 := ti_eq c79
      have h85 : iv 2 2 x78 := ⟨by have := (h76).1; have := ((iv_c (c := 2) (n := 2) (by decide))).1; omega, by have := (h76).2; have := ((iv_c (c := 2) (n := 2) (by decide))).2; omega⟩
      refine lv_iload_n hx hb dX12_grows_37 rfl (lv_at hl 0 rfl) ?_
      refine lv_iconst (v := 3) hx hb dX12_grows_38 (by decide) ?_
      refine lv_icmp_le (tgt := 48) hx hb dX12_grows_39 (by decide) (fun c86 => ?_) (fun c86 => ?_)
      · have q87 : x5.toInt ≤ 3 := ti_le c86
        have h88 : iv 0 3 x5 := iv_leL (y := 3) h3 (iv_c (c := 3) (n := 3) (by decide)) q87 (by decide)
        refine lv_iconst (v := 1) hx hb dX12_grows_48 (by decide) ?_
        refine tw_iast hx hb hK hS hz_b1 hk_b1 (Or.inr (by decide)) hn_b1 h_a1 ⟨by decide, by decide⟩ (iv_c (c := 1) (n := 1) (by decide)) (rg_s30 ⟨by decide, by decide⟩) (jl := 0) (jh := 1999999) ⟨by decide, by decide⟩ rfl dX12_grows_49 (fun H locs M91 hS k89 f90 => ?_)
        exact tw_endv hx hb hr hlocks hK hT hS hQ (trivial) dX12_grows_50
      · have q92 : 3 < x5.toInt := ti_nle c86
        have h93 : iv 4 9999 x5 := iv_gtL (y := 3) h3 (iv_c (c := 3) (n := 3) (by decide)) q92 (by decide)
        refine lv_iload_n hx hb dX12_grows_42 rfl (lv_at hl 0 rfl) ?_
        refine lv_iconst (v := 2) hx hb dX12_grows_43 (by decide) ?_
        refine tw_idiv (lo := 0) (hi := 4999) hx hb h93 (iv_c (c := 2) (n := 2) (by decide)) ⟨by decide, by decide⟩ ⟨by decide, by decide⟩ dX12_grows_44 (fun x96 e95 h94 => ?_)
        have e95 : x96.toInt = x5.toInt / 2 := e95
        refine lv_goto (tgt := 49) hx hb dX12_grows_45 (by decide) ?_
        refine tw_iast hx hb hK hS hz_b1 hk_b1 (Or.inr (by decide)) hn_b1 h_a1 ⟨by decide, by decide⟩ h94 (rg_s30 ⟨by decide, by decide⟩) (jl := 0) (jh := 1999999) ⟨by decide, by decide⟩ rfl dX12_grows_49 (fun H locs M99 hS k97 f98 => ?_)
        exact tw_endv hx hb hr hlocks hK hT hS hQ (trivial) dX12_grows_50
def Lt_X12_voicesOf : WL := []
def LRt_X12_voicesOf : WL := []
set_option maxRecDepth 100000 in
set_option maxHeartbeats 4000000 in
theorem t_X12_voicesOf (l : Launch) (D : va_G) (cy : Nat → ClassId) (tx : (Nat → Nat) × (Nat → Nat)) (base Z : Nat) (K N : Nat → Nat) (Ma : MT) (Ra : RT) (Ja : JT) (hTy : Ty Z K N Ma Ra) (a0 : Nat) (hz_a0 : a0 < Z) (hk_a0 : K a0 = 12) (a1 : Int32) (h_a1 : iv (-2147483648) 2147483647 a1) (sd : Nat) (k_sd : Ra a0 25 = some sd) (e0 : Int32) (k_e0 : Ma sd (0 : Int32).toNatClampNeg = e0) (h_e0 : iv 0 10 e0) : Met l yX12_voicesOf [Cond.code yX12_voicesOf cX12_voicesOf 4 (some .int)] (md_rm 2 0 0) (va_Pc [.ref (base + a0), .int a1] (md_U D cy tx base Z K N Ma Ra Ja)) (mQi D cy tx base (fun r u => TP Z K N Lt_X12_voicesOf LRt_X12_voicesOf Ma Ra u ∧ (iv 0 99990 r ∧ (r.toInt ≤ 9999 * e0.toInt)))) 0 0 (fun q => base ≤ q) := by
  refine tw_ofW (L := Lt_X12_voicesOf) (LR := LRt_X12_voicesOf) (by decide) (Nat.le_of_ble_eq_true rfl) hTy ?_
  intro p e s m args below meth c Q ls hx hb hr hlocks hown hml hW hK hT hS hQ hl
  have hl : lv_has ls 4 [(0, .ref (base + a0)), (1, .int a1)] := hl
  obtain ⟨hz_sd, hk_sd, hn_sd⟩ := hTy.refn hz_a0 hk_a0 (show rtR 12 25 = (23, 226, 0) from rfl) k_sd
  have hn_sd := hn_sd (by decide)
  refine lv_iconst (v := 0) hx hb dX12_voicesOf_0 (by decide) ?_
  refine lv_istore_n (lv' := [(2, .int 0), (0, .ref (base + a0)), (1, .int a1)]) hx hb dX12_voicesOf_1 rfl hl (by decide) rfl (fun ls hl => ?_)
  refine lv_iconst (v := 0) hx hb dX12_voicesOf_2 (by decide) ?_
  refine lv_istore_n (lv' := [(3, .int 0), (2, .int 0), (0, .ref (base + a0)), (1, .int a1)]) hx hb dX12_voicesOf_3 rfl hl (by decide) rfl (fun ls hl => ?_)
  have W4_3 : ∀ (n_3 : Nat) (x1 : Int32) (x2 : Int32) (M3 : MT) (R4 : RT) (J5 : JT) (H : Heap) (locs : List Loc) (ls : Array Slot) (h_x1 : iv 0 99990 x1) (h_x2 : iv 0 10 x2) (w0_3 : x2.toInt ≤ e0.toInt) (w1_3 : 0 ≤ x1.toInt ∧ x1.toInt ≤ 9999 * x2.toInt) (hm_3 : 10 - x2.toInt < (n_3 : Int)) (hS : SB D cy base Z K N Lt_X12_voicesOf LRt_X12_voicesOf Ma Ra M3 R4 J5 s H locs) (hl : lv_has ls 4 [(2, .int x1), (3, .int x2), (0, .ref (base + a0)), (1, .int a1)]), W p l e (md_rm 2 0 0) s m args below meth c H locs 0 0 Q (F0 m 4 ls []) := by
    intro n_3
    induction n_3 with
    | zero =>
      intro x1 x2 M3 R4 J5 H locs ls h_x1 h_x2 w0_3 w1_3 hm_3 hS hl
      exfalso
      have := (h_a1).1; have := (h_a1).2; have := (h_e0).1; have := (h_e0).2; have := (h_x1).1; have := (h_x1).2; have := (h_x2).1; have := (h_x2).2; omega
    | succ n_3 ih_3 =>
      intro x1 x2 M3 R4 J5 H locs ls h_x1 h_x2 w0_3 w1_3 hm_3 hS hl
      have f6 := hS.2.2.1
      have g7 := hS.2.2.2
      refine lv_iload_n hx hb dX12_voicesOf_4 rfl (lv_at hl 1 rfl) ?_
      refine lv_aload_n hx hb dX12_voicesOf_5 rfl (lv_at hl 2 rfl) ?_
      have k8 : R4 a0 25 = some sd := (Fr.kp (k := 25) g7 hk_a0 rfl).trans k_sd
      refine tw_getrk hx hb hW hown hK hS f_X12_45_11 hz_a0 hk_a0 (b := sd) k8 dX12_voicesOf_6 ?_
      refine lv_iconst (v := 0) hx hb dX12_voicesOf_9 (by decide) ?_
      have k9 : M3 sd (0 : Int32).toNatClampNeg = e0 := (Fr.kp (k := (0 : Int32).toNatClampNeg) f6 hk_sd rfl).trans k_e0
      refine tw_ialk hx hb hK hS hz_sd hk_sd (Or.inr (by decide)) hn_sd (iv_c (c := 0) (n := 0) (by decide)) ⟨by decide, by decide⟩ (v := e0) k9 dX12_voicesOf_10 ?_
      refine lv_icmp_ge (tgt := 41) hx hb dX12_voicesOf_11 (by decide) (fun c10 => ?_) (fun c10 => ?_)
      · have q11 : e0.toInt ≤ x2.toInt := ti_le c10
        refine lv_iload_n hx hb dX12_voicesOf_41 rfl (lv_at hl 0 rfl) ?_
        have q12 : x1.toInt ≤ 9999 * e0.toInt := by
          have := (h_a1).1; have := (h_a1).2; have := (h_e0).1; have := (h_e0).2; have := (h_x1).1; have := (h_x1).2; have := (h_x2).1; have := (h_x2).2; omega
        exact tw_endi hx hb hr hlocks hK hT hS hQ (⟨h_x1, q12⟩) dX12_voicesOf_42
      · have q13 : x2.toInt < e0.toInt := ti_nle c10
        have h14 : iv 0 9 x2 := iv_ltL (y := e0) h_x2 h_e0 q13 (by decide)
        have h15 : iv 1 10 e0 := iv_gtL (y := x2) h_e0 h_x2 q13 (by decide)
        refine lv_iload_n hx hb dX12_voicesOf_14 rfl (lv_at hl 0 rfl) ?_
        refine lv_iload_n hx hb dX12_voicesOf_15 rfl (lv_at hl 3 rfl) ?_
        refine lv_iload_n hx hb dX12_voicesOf_16 rfl (lv_at hl 1 rfl) ?_
        refine tw_goi hS (md_runS (As := [.int a1, .int x2]) (rest := [.int x1]) hx hb hml hown hW hK hT hS.1 (t_X12_isOf l D cy tx base Z K N M3 R4 J5 hS.2.1 a1 h_a1 x2 h14) s_X12_322 ⟨rfl, rfl, ⟨Nat.le_of_ble_eq_true rfl, Nat.le_of_ble_eq_true rfl⟩, ⟨Nat.le_of_ble_eq_true rfl, Nat.le_of_ble_eq_true rfl⟩⟩ rfl hl.1 rfl (Nat.le_of_ble_eq_true rfl) dX12_voicesOf_17) rfl rfl (fun x22 H locs M19 R20 J18 hS f16 g17 E21 => ?_)
        have eM19 := Fr.nil f16 rfl
        subst eM19
        have eR20 := Fr.nil g17 rfl
        subst eR20
        have h_x22 := E21
        clear E21
        refine lv_if_eq (tgt := 32) hx hb dX12_voicesOf_20 (by decide) (fun c23 => ?_) (fun c23 => ?_)
        · have q24 : x22.toInt = 0 := ti_eq c23
          have h25 : iv 0 0 x22 := ⟨by have := (h_x22).1; have := ((iv_c (c := 0) (n := 0) (by decide))).1; omega, by have := (h_x22).2; have := ((iv_c (c := 0) (n := 0) (by decide))).2; omega⟩
          refine lv_iconst (v := 0) hx hb dX12_voicesOf_32 (by decide) ?_
          refine tw_iadd (lo := 0) (hi := 99990) hx hb h_x1 (iv_c (c := 0) (n := 0) (by decide)) ⟨by decide, by decide⟩ ⟨by decide, by decide⟩ dX12_voicesOf_33 (fun x28 e27 h26 => ?_)
          have e27 : x28.toInt = x1.toInt + 0 := e27
          refine lv_istore_n (lv' := [(2, .int x28), (3, .int x2), (0, .ref (base + a0)), (1, .int a1)]) hx hb dX12_voicesOf_34 rfl hl (by decide) rfl (fun ls hl => ?_)
          refine tw_iinc (lv' := fun x31 => [(3, .int x31), (2, .int x28), (0, .ref (base + a0)), (1, .int a1)]) (lo := 1) (hi := 10) hx hb dX12_voicesOf_35 hl (k := 1) rfl h14 (by decide) ⟨by decide, by decide⟩ ⟨by decide, by decide⟩ (by decide) (fun _ => rfl) (fun x31 ls e30 h29 hl => ?_)
          refine lv_goto (tgt := 4) hx hb dX12_voicesOf_38 (by decide) ?_
          have w32 : x31.toInt ≤ e0.toInt := by
            have := (h_a1).1; have := (h_a1).2; have := (h15).1; have := (h15).2; have := (h_x1).1; have := (h_x1).2; have := (h14).1; have := (h14).2; have := (h26).1; have := (h26).2; have := (h29).1; have := (h29).2; omega
          have w33 : 0 ≤ x28.toInt ∧ x28.toInt ≤ 9999 * x31.toInt := by
            have := (h_a1).1; have := (h_a1).2; have := (h15).1; have := (h15).2; have := (h_x1).1; have := (h_x1).2; have := (h14).1; have := (h14).2; have := (h26).1; have := (h26).2; have := (h29).1; have := (h29).2; omega
          have hm34 : 10 - x31.toInt < (n_3 : Int) := by
            have := (h_a1).1; have := (h_a1).2; have := (h15).1; have := (h15).2; have := (h_x1).1; have := (h_x1).2; have := (h14).1; have := (h14).2; have := (h26).1; have := (h26).2; have := (h29).1; have := (h29).2; omega
          exact ih_3 x28 x31 M3 R4 J18 H locs _ h26 (iv_mono h29 (by decide) (by decide)) w32 w33 hm34 hS (lv_sub hl [1, 0, 2, 3] rfl)
        · have q35 : ¬ x22.toInt = 0 := ti_ne c23
          have h36 : iv 1 1 x22 := ⟨by have := (h_x22).1; have := ((iv_c (c := 0) (n := 0) (by decide))).1; have := ((iv_c (c := 0) (n := 0) (by decide))).2; omega, by have := (h_x22).2; have := ((iv_c (c := 0) (n := 0) (by decide))).1; have := ((iv_c (c := 0) (n := 0) (by decide))).2; omega⟩
          refine lv_aload_n hx hb dX12_voicesOf_23 rfl (lv_at hl 2 rfl) ?_
          refine tw_getr hx hb hW hown hK hS f_X12_51_11 hz_a0 hk_a0 (t := 30) (n := 10) rfl dX12_voicesOf_24 (fun b37 k38 hz_b37 hk_b37 hn_b37 => ?_)
          have hn_b37 := hn_b37 (by decide)
          refine lv_iload_n hx hb dX12_voicesOf_27 rfl (lv_at hl 1 rfl) ?_
          refine tw_iald hx hb hK hS hz_b37 hk_b37 (Or.inr (by decide)) hn_b37 (lo := 0) (hi := 9999) h14 ⟨by decide, by decide⟩ rg_u30 dX12_voicesOf_28 (fun x41 k40 h39 => ?_)
          refine lv_goto (tgt := 33) hx hb dX12_voicesOf_29 (by decide) ?_
          refine tw_iadd (lo := 0) (hi := 109989) hx hb h_x1 h39 ⟨by decide, by decide⟩ ⟨by decide, by decide⟩ dX12_voicesOf_33 (fun x44 e43 h42 => ?_)
          refine lv_istore_n (lv' := [(2, .int x44), (3, .int x2), (0, .ref (base + a0)), (1, .int a1)]) hx hb dX12_voicesOf_34 rfl hl (by decide) rfl (fun ls hl => ?_)
          refine tw_iinc (lv' := fun x47 => [(3, .int x47), (2, .int x44), (0, .ref (base + a0)), (1, .int a1)]) (lo := 1) (hi := 10) hx hb dX12_voicesOf_35 hl (k := 1) rfl h14 (by decide) ⟨by decide, by decide⟩ ⟨by decide, by decide⟩ (by decide) (fun _ => rfl) (fun x47 ls e46 h45 hl => ?_)
          refine lv_goto (tgt := 4) hx hb dX12_voicesOf_38 (by decide) ?_
          have h48 : iv 0 99990 x44 := by
            have := (h_a1).1; have := (h_a1).2; have := (h15).1; have := (h15).2; have := (h_x1).1; have := (h_x1).2; have := (h14).1; have := (h14).2; have := (h39).1; have := (h39).2; have := (h42).1; have := (h42).2; have := (h45).1; have := (h45).2; exact ⟨by omega, by omega⟩
          have w49 : x47.toInt ≤ e0.toInt := by
            have := (h_a1).1; have := (h_a1).2; have := (h15).1; have := (h15).2; have := (h_x1).1; have := (h_x1).2; have := (h14).1; have := (h14).2; have := (h42).1; have := (h42).2; have := (h45).1; have := (h45).2; omega
          have w50 : 0 ≤ x44.toInt ∧ x44.toInt ≤ 9999 * x47.toInt := by
            have := (h_a1).1; have := (h_a1).2; have := (h15).1; have := (h15).2; have := (h_x1).1; have := (h_x1).2; have := (h14).1; have := (h14).2; have := (h39).1; have := (h39).2; have := (h42).1; have := (h42).2; have := (h45).1; have := (h45).2; omega
          have hm51 : 10 - x47.toInt < (n_3 : Int) := by
            have := (h_a1).1; have := (h_a1).2; have := (h15).1; have := (h15).2; have := (h_x1).1; have := (h_x1).2; have := (h14).1; have := (h14).2; have := (h42).1; have := (h42).2; have := (h45).1; have := (h45).2; omega
          exact ih_3 x44 x47 M3 R4 J18 H locs _ h48 (iv_mono h45 (by decide) (by decide)) w49 w50 hm51 hS (lv_sub hl [1, 0, 2, 3] rfl)
  have w52 : (0 : Int32).toInt ≤ e0.toInt := by
    have := (h_a1).1; have := (h_a1).2; have := (h_e0).1; have := (h_e0).2; have : (0 : Int32).toInt = 0 := (by decide); omega
  have w53 : 0 ≤ (0 : Int32).toInt ∧ (0 : Int32).toInt ≤ 9999 * (0 : Int32).toInt := by
    have := (h_a1).1; have := (h_a1).2; have := (h_e0).1; have := (h_e0).2; have : (0 : Int32).toInt = 0 := (by decide); omega
  have hm54 : 10 - (0 : Int32).toInt < (((11 : Nat) : Int) : Int) := by
    have := (h_a1).1; have := (h_a1).2; have := (h_e0).1; have := (h_e0).2; have : (0 : Int32).toInt = 0 := (by decide); omega
  exact W4_3 11 0 0 Ma Ra Ja s.heap [] _ (iv_mono (iv_c (c := 0) (n := 0) (by decide)) (by decide) (by decide)) (iv_mono (iv_c (c := 0) (n := 0) (by decide)) (by decide) (by decide)) w52 w53 hm54 hS (lv_sub hl [1, 0, 2, 3] rfl)
def Lt_X12_result : WL := []
def LRt_X12_result : WL := []
set_option maxRecDepth 100000 in
set_option maxHeartbeats 4000000 in
theorem t_X12_result (l : Launch) (D : va_G) (cy : Nat → ClassId) (tx : (Nat → Nat) × (Nat → Nat)) (base Z : Nat) (K N : Nat → Nat) (Ma : MT) (Ra : RT) (Ja : JT) (hTy : Ty Z K N Ma Ra) (a0 : Nat) (hz_a0 : a0 < Z) (hk_a0 : K a0 = 12) : Met l yX12_result [Cond.code yX12_result cX12_result 3 (some .int)] (md_rm 3 0 0) (va_Pc [.ref (base + a0)] (md_U D cy tx base Z K N Ma Ra Ja)) (mQi D cy tx base (fun r u => TP Z K N Lt_X12_result LRt_X12_result Ma Ra u ∧ (iv 0 2 r))) 0 0 (fun q => base ≤ q) := by
  refine tw_ofW (L := Lt_X12_result) (LR := LRt_X12_result) (by decide) (Nat.le_of_ble_eq_true rfl) hTy ?_
  intro p e s m args below meth c Q ls hx hb hr hlocks hown hml hW hK hT hS hQ hl
  have hl : lv_has ls 3 [(0, .ref (base + a0))] := hl
  refine lv_aload_n hx hb dX12_result_0 rfl (lv_at hl 0 rfl) ?_
  refine lv_aload_n hx hb dX12_result_1 rfl (lv_at hl 0 rfl) ?_
  refine tw_geti hx hb hW hown hK hS f_X12_364_11 hz_a0 hk_a0 (lo := (-2147483648)) (hi := 2147483647) rfl dX12_result_2 (fun x3 k2 h1 => ?_)
  obtain ⟨b4, k5, hz_b4, hk_b4, hn_b4⟩ := hS.2.1.ref hz_a0 hk_a0 (show rtR 12 25 = (23, 226, 0) from rfl)
  have hn_b4 := hn_b4 (by decide)
  obtain ⟨x8, k6⟩ : ∃ x, Ma b4 (0 : Int32).toNatClampNeg = x := ⟨_, rfl⟩
  have h7 : iv 0 10 x8 := by rw [← k6]; exact hS.2.1.int hz_b4 hk_b4 (show rgI 23 (0 : Int32).toNatClampNeg = (0, 10) from rfl)
  refine tw_goi hS (md_runV (As := [.int x3]) (rest := []) hx hb hml hown hW hK hT hS.1 (t_X12_voicesOf l D cy tx base Z K N Ma Ra Ja hS.2.1 a0 hz_a0 hk_a0 x3 h1 b4 k5 x8 k6 (iv_mono h7 (by decide) (by decide))) s_X12_380 ⟨rfl, rfl, ⟨Nat.le_of_ble_eq_true rfl, Nat.le_of_ble_eq_true rfl⟩, ⟨Nat.le_of_ble_eq_true rfl, Nat.le_of_ble_eq_true rfl⟩⟩ hz_a0 hk_a0 (by decide) rfl rfl hl.1 rfl (Nat.le_of_ble_eq_true rfl) dX12_result_5) rfl rfl (fun x15 H locs M12 R13 J11 hS f9 g10 E14 => ?_)
  have eM12 := Fr.nil f9 rfl
  subst eM12
  have eR13 := Fr.nil g10 rfl
  subst eR13
  obtain ⟨h_x15, p16⟩ := E14
  refine lv_istore_n (lv' := [(1, .int x15), (0, .ref (base + a0))]) hx hb dX12_result_8 rfl hl (by decide) rfl (fun ls hl => ?_)
  refine lv_aload_n hx hb dX12_result_9 rfl (lv_at hl 1 rfl) ?_
  refine lv_aload_n hx hb dX12_result_10 rfl (lv_at hl 1 rfl) ?_
  refine tw_geti hx hb hW hown hK hS f_X12_367_11 hz_a0 hk_a0 (lo := (-2147483648)) (hi := 2147483647) rfl dX12_result_11 (fun x19 k18 h17 => ?_)
  refine tw_goi hS (md_runV (As := [.int x19]) (rest := []) hx hb hml hown hW hK hT hS.1 (t_X12_voicesOf l D cy tx base Z K N Ma Ra J11 hS.2.1 a0 hz_a0 hk_a0 x19 h17 b4 k5 x8 k6 (iv_mono h7 (by decide) (by decide))) s_X12_380 ⟨rfl, rfl, ⟨Nat.le_of_ble_eq_true rfl, Nat.le_of_ble_eq_true rfl⟩, ⟨Nat.le_of_ble_eq_true rfl, Nat.le_of_ble_eq_true rfl⟩⟩ hz_a0 hk_a0 (by decide) rfl rfl hl.1 rfl (Nat.le_of_ble_eq_true rfl) dX12_result_14) rfl rfl (fun x26 H locs M23 R24 J22 hS f20 g21 E25 => ?_)
  have eM23 := Fr.nil f20 rfl
  subst eM23
  have eR24 := Fr.nil g21 rfl
  subst eR24
  obtain ⟨h_x26, p27⟩ := E25
  refine lv_istore_n (lv' := [(2, .int x26), (1, .int x15), (0, .ref (base + a0))]) hx hb dX12_result_17 rfl hl (by decide) rfl (fun ls hl => ?_)
  refine lv_iload_n hx hb dX12_result_18 rfl (lv_at hl 1 rfl) ?_
  refine lv_iload_n hx hb dX12_result_19 rfl (lv_at hl 0 rfl) ?_
  refine lv_icmp_le (tgt := 27) hx hb dX12_result_20 (by decide) (fun c28 => ?_) (fun c28 => ?_)
  · have q29 : x15.toInt ≤ x26.toInt := ti_le c28
    refine lv_iload_n hx hb dX12_result_27 rfl (lv_at hl 1 rfl) ?_
    refine lv_iload_n hx hb dX12_result_28 rfl (lv_at hl 0 rfl) ?_
    refine lv_icmp_ge (tgt := 36) hx hb dX12_result_29 (by decide) (fun c30 => ?_) (fun c30 => ?_)
    · have q31 : x26.toInt ≤ x15.toInt := ti_le c30
      refine lv_iconst (v := 2) hx hb dX12_result_36 (by decide) ?_
      exact tw_endi hx hb hr hlocks hK hT hS hQ ((iv_mono (iv_c (c := 2) (n := 2) (by decide)) (by decide) (by decide))) dX12_result_37
    · have q32 : x15.toInt < x26.toInt := ti_nle c30
      have h33 : iv 0 99989 x15 := iv_ltL (y := x26) h_x15 h_x26 q32 (by decide)
      have h34 : iv 1 99990 x26 := iv_gtL (y := x15) h_x26 h_x15 q32 (by decide)
      refine lv_iconst (v := 0) hx hb dX12_result_32 (by decide) ?_
      refine lv_goto (tgt := 37) hx hb dX12_result_33 (by decide) ?_
      exact tw_endi hx hb hr hlocks hK hT hS hQ ((iv_mono (iv_c (c := 0) (n := 0) (by decide)) (by decide) (by decide))) dX12_result_37
  · have q35 : x26.toInt < x15.toInt := ti_nle c28
    have h36 : iv 1 99990 x15 := iv_gtL (y := x26) h_x15 h_x26 q35 (by decide)
    have h37 : iv 0 99989 x26 := iv_ltL (y := x15) h_x26 h_x15 q35 (by decide)
    refine lv_iconst (v := 1) hx hb dX12_result_23 (by decide) ?_
    refine lv_goto (tgt := 37) hx hb dX12_result_24 (by decide) ?_
    exact tw_endi hx hb hr hlocks hK hT hS hQ ((iv_mono (iv_c (c := 1) (n := 1) (by decide)) (by decide) (by decide))) dX12_result_37
def Lt_X12_settles_ : WL := [(12, 28, 29), (14, 0, 2000000), (30, 0, 2000000)]
def LRt_X12_settles_ : WL := []
set_option maxRecDepth 100000 in
set_option maxHeartbeats 4000000 in
theorem t_X12_settles_ (l : Launch) (D : va_G) (cy : Nat → ClassId) (tx : (Nat → Nat) × (Nat → Nat)) (base Z : Nat) (K N : Nat → Nat) (Ma : MT) (Ra : RT) (Ja : JT) (hTy : Ty Z K N Ma Ra) (a0 : Nat) (hz_a0 : a0 < Z) (hk_a0 : K a0 = 12) : Met l yX12_settles_ [Cond.code yX12_settles_ cX12_settles_ 3 (some .int)] (md_rm 4 0 0) (va_Pc [.ref (base + a0)] (md_U D cy tx base Z K N Ma Ra Ja)) (mQi D cy tx base (fun r u => TP Z K N Lt_X12_settles_ LRt_X12_settles_ Ma Ra u ∧ (iv 0 2 r))) 0 0 (fun q => base ≤ q) := by
  refine tw_ofW (L := Lt_X12_settles_) (LR := LRt_X12_settles_) (by decide) (Nat.le_of_ble_eq_true rfl) hTy ?_
  intro p e s m args below meth c Q ls hx hb hr hlocks hown hml hW hK hT hS hQ hl
  have hl : lv_has ls 3 [(0, .ref (base + a0))] := hl
  refine lv_aload_n hx hb dX12_settles__0 rfl (lv_at hl 0 rfl) ?_
  refine tw_goi hS (md_runV (As := []) (rest := []) hx hb hml hown hW hK hT hS.1 (t_X12_result l D cy tx base Z K N Ma Ra Ja hS.2.1 a0 hz_a0 hk_a0) s_X12_383 ⟨rfl, rfl, ⟨Nat.le_of_ble_eq_true rfl, Nat.le_of_ble_eq_true rfl⟩, ⟨Nat.le_of_ble_eq_true rfl, Nat.le_of_ble_eq_true rfl⟩⟩ hz_a0 hk_a0 (by decide) rfl rfl hl.1 rfl (Nat.le_of_ble_eq_true rfl) dX12_settles__1) rfl rfl (fun x7 H locs M4 R5 J3 hS f1 g2 E6 => ?_)
  have eM4 := Fr.nil f1 rfl
  subst eM4
  have eR5 := Fr.nil g2 rfl
  subst eR5
  have h_x7 := E6
  clear E6
  refine lv_istore_n (lv' := [(1, .int x7), (0, .ref (base + a0))]) hx hb dX12_settles__4 rfl hl (by decide) rfl (fun ls hl => ?_)
  refine lv_iconst (v := 0) hx hb dX12_settles__5 (by decide) ?_
  refine lv_istore_n (lv' := [(2, .int 0), (1, .int x7), (0, .ref (base + a0))]) hx hb dX12_settles__6 rfl hl (by decide) rfl (fun ls hl => ?_)
  have W7_9 : ∀ (n_9 : Nat) (x8 : Int32) (M9 : MT) (R10 : RT) (J11 : JT) (H : Heap) (locs : List Loc) (ls : Array Slot) (h_x8 : iv 0 10 x8) (hm_9 : 10 - x8.toInt < (n_9 : Int)) (hS : SB D cy base Z K N Lt_X12_settles_ LRt_X12_settles_ Ma Ra M9 R10 J11 s H locs) (hl : lv_has ls 3 [(2, .int x8), (1, .int x7), (0, .ref (base + a0))]), W p l e (md_rm 4 0 0) s m args below meth c H locs 0 0 Q (F0 m 7 ls []) := by
    intro n_9
    induction n_9 with
    | zero =>
      intro x8 M9 R10 J11 H locs ls h_x8 hm_9 hS hl
      exfalso
      have := (h_x8).1; have := (h_x8).2; omega
    | succ n_9 ih_9 =>
      intro x8 M9 R10 J11 H locs ls h_x8 hm_9 hS hl
      have f12 := hS.2.2.1
      have g13 := hS.2.2.2
      refine lv_iload_n hx hb dX12_settles__7 rfl (lv_at hl 0 rfl) ?_
      refine lv_aload_n hx hb dX12_settles__8 rfl (lv_at hl 2 rfl) ?_
      refine tw_getr hx hb hW hown hK hS f_X12_45_11 hz_a0 hk_a0 (t := 23) (n := 226) rfl dX12_settles__9 (fun b14 k15 hz_b14 hk_b14 hn_b14 => ?_)
      have hn_b14 := hn_b14 (by decide)
      refine lv_iconst (v := 0) hx hb dX12_settles__12 (by decide) ?_
      refine tw_iald hx hb hK hS hz_b14 hk_b14 (Or.inr (by decide)) hn_b14 (lo := 0) (hi := 10) (iv_c (c := 0) (n := 0) (by decide)) ⟨by decide, by decide⟩ (rg_c (k0 := 0) rfl rfl rfl) dX12_settles__13 (fun x18 k17 h16 => ?_)
      refine lv_icmp_ge (tgt := 74) hx hb dX12_settles__14 (by decide) (fun c19 => ?_) (fun c19 => ?_)
      · have q20 : x18.toInt ≤ x8.toInt := ti_le c19
        refine lv_aload_n hx hb dX12_settles__74 rfl (lv_at hl 2 rfl) ?_
        refine lv_dup hx hb dX12_settles__75 rfl ?_
        refine tw_geti hx hb hW hown hK hS f_X12_348_11 hz_a0 hk_a0 (lo := (-2147483648)) (hi := 2147483647) rfl dX12_settles__76 (fun x23 k22 h21 => ?_)
        refine lv_iconst (v := 1) hx hb dX12_settles__79 (by decide) ?_
        refine lv_iadd hx hb dX12_settles__80 ?_
        refine tw_top (fun x25 => ?_)
        have h24 := iv_any x25
        refine tw_puti hx hb hW hown hK hS f_X12_348_11 hz_a0 hk_a0 rfl rfl (lo := (-2147483648)) (hi := 2147483647) rfl h24 rfl dX12_settles__81 (fun H locs M28 hS k26 f27 => ?_)
        refine lv_iload_n hx hb dX12_settles__84 rfl (lv_at hl 1 rfl) ?_
        exact tw_endi hx hb hr hlocks hK hT hS hQ (h_x7) dX12_settles__85
      · have q29 : x8.toInt < x18.toInt := ti_nle c19
        have h30 : iv 0 9 x8 := iv_ltL (y := x18) h_x8 h16 q29 (by decide)
        have h31 : iv 1 10 x18 := iv_gtL (y := x8) h16 h_x8 q29 (by decide)
        refine lv_aload_n hx hb dX12_settles__17 rfl (lv_at hl 2 rfl) ?_
        refine tw_geti hx hb hW hown hK hS f_X12_364_11 hz_a0 hk_a0 (lo := (-2147483648)) (hi := 2147483647) rfl dX12_settles__18 (fun x34 k33 h32 => ?_)
        refine lv_iload_n hx hb dX12_settles__21 rfl (lv_at hl 0 rfl) ?_
        refine tw_goi hS (md_runS (As := [.int x34, .int x8]) (rest := []) hx hb hml hown hW hK hT hS.1 (t_X12_isOf l D cy tx base Z K N M9 R10 J11 hS.2.1 x34 h32 x8 h30) s_X12_322 ⟨rfl, rfl, ⟨Nat.le_of_ble_eq_true rfl, Nat.le_of_ble_eq_true rfl⟩, ⟨Nat.le_of_ble_eq_true rfl, Nat.le_of_ble_eq_true rfl⟩⟩ rfl hl.1 rfl (Nat.le_of_ble_eq_true rfl) dX12_settles__22) rfl rfl (fun x41 H locs M38 R39 J37 hS f35 g36 E40 => ?_)
        have eM38 := Fr.nil f35 rfl
        subst eM38
        have eR39 := Fr.nil g36 rfl
        subst eR39
        have h_x41 := E40
        clear E40
        have J43_42 : ∀  (M42 : MT) (R43 : RT) (J44 : JT) (H : Heap) (locs : List Loc) (ls : Array Slot) (hS : SB D cy base Z K N Lt_X12_settles_ LRt_X12_settles_ Ma Ra M42 R43 J44 s H locs) (hl : lv_has ls 3 [(2, .int x8), (1, .int x7), (0, .ref (base + a0))]), W p l e (md_rm 4 0 0) s m args below meth c H locs 0 0 Q (F0 m 43 ls []) := by
          intro  M42 R43 J44 H locs ls  hS hl
          have f45 := hS.2.2.1
          have g46 := hS.2.2.2
          refine lv_aload_n hx hb dX12_settles__43 rfl (lv_at hl 2 rfl) ?_
          refine tw_geti hx hb hW hown hK hS f_X12_367_11 hz_a0 hk_a0 (lo := (-2147483648)) (hi := 2147483647) rfl dX12_settles__44 (fun x49 k48 h47 => ?_)
          refine lv_iload_n hx hb dX12_settles__47 rfl (lv_at hl 0 rfl) ?_
          refine tw_goi hS (md_runS (As := [.int x49, .int x8]) (rest := []) hx hb hml hown hW hK hT hS.1 (t_X12_isOf l D cy tx base Z K N M42 R43 J44 hS.2.1 x49 h47 x8 h30) s_X12_322 ⟨rfl, rfl, ⟨Nat.le_of_ble_eq_true rfl, Nat.le_of_ble_eq_true rfl⟩, ⟨Nat.le_of_ble_eq_true rfl, Nat.le_of_ble_eq_true rfl⟩⟩ rfl hl.1 rfl (Nat.le_of_ble_eq_true rfl) dX12_settles__48) rfl rfl (fun x56 H locs M53 R54 J52 hS f50 g51 E55 => ?_)
          have eM53 := Fr.nil f50 rfl
          subst eM53
          have eR54 := Fr.nil g51 rfl
          subst eR54
          have h_x56 := E55
          clear E55
          refine lv_if_eq (tgt := 68) hx hb dX12_settles__51 (by decide) (fun c57 => ?_) (fun c57 => ?_)
          · have q58 : x56.toInt = 0 := ti_eq c57
            have h59 : iv 0 0 x56 := ⟨by have := (h_x56).1; have := ((iv_c (c := 0) (n := 0) (by decide))).1; omega, by have := (h_x56).2; have := ((iv_c (c := 0) (n := 0) (by decide))).2; omega⟩
            refine tw_iinc (lv' := fun x62 => [(2, .int x62), (1, .int x7), (0, .ref (base + a0))]) (lo := 1) (hi := 10) hx hb dX12_settles__68 hl (k := 0) rfl h30 (by decide) ⟨by decide, by decide⟩ ⟨by decide, by decide⟩ (by decide) (fun _ => rfl) (fun x62 ls e61 h60 hl => ?_)
            refine lv_goto (tgt := 7) hx hb dX12_settles__71 (by decide) ?_
            have hm63 : 10 - x62.toInt < (n_9 : Int) := by
              have := (h60).1; have := (h60).2; have := (h30).1; have := (h30).2; omega
            exact ih_9 x62 M42 R43 J52 H locs _ (iv_mono h60 (by decide) (by decide)) hm63 hS hl
          · have q64 : ¬ x56.toInt = 0 := ti_ne c57
            have h65 : iv 1 1 x56 := ⟨by have := (h_x56).1; have := ((iv_c (c := 0) (n := 0) (by decide))).1; have := ((iv_c (c := 0) (n := 0) (by decide))).2; omega, by have := (h_x56).2; have := ((iv_c (c := 0) (n := 0) (by decide))).1; have := ((iv_c (c := 0) (n := 0) (by decide))).2; omega⟩
            refine lv_aload_n hx hb dX12_settles__54 rfl (lv_at hl 2 rfl) ?_
            refine lv_iload_n hx hb dX12_settles__55 rfl (lv_at hl 0 rfl) ?_
            refine lv_iload_n hx hb dX12_settles__56 rfl (lv_at hl 1 rfl) ?_
            refine lv_if_ne (tgt := 64) hx hb dX12_settles__57 (by decide) (fun c66 => ?_) (fun c66 => ?_)
            · have q67 : ¬ x7.toInt = 0 := ti_ne c66
              have h68 : iv 1 2 x7 := ⟨by have := (h_x7).1; have := ((iv_c (c := 0) (n := 0) (by decide))).1; have := ((iv_c (c := 0) (n := 0) (by decide))).2; omega, by have := (h_x7).2; have := ((iv_c (c := 0) (n := 0) (by decide))).1; have := ((iv_c (c := 0) (n := 0) (by decide))).2; omega⟩
              refine lv_iconst (v := 0) hx hb dX12_settles__64 (by decide) ?_
              refine tw_gov hS (md_runV (As := [.int x8, .int 0]) (rest := []) hx hb hml hown hW hK hT hS.1 (t_X12_grows l D cy tx base Z K N M42 R43 J52 hS.2.1 a0 hz_a0 hk_a0 x8 h30 0 (iv_mono (iv_c (c := 0) (n := 0) (by decide)) (by decide) (by decide))) s_X12_386 ⟨rfl, rfl, ⟨Nat.le_of_ble_eq_true rfl, Nat.le_of_ble_eq_true rfl⟩, ⟨Nat.le_of_ble_eq_true rfl, Nat.le_of_ble_eq_true rfl⟩⟩ hz_a0 hk_a0 (by decide) rfl rfl hl.1 rfl (Nat.le_of_ble_eq_true rfl) dX12_settles__65) rfl rfl (fun H locs M72 R73 J71 hS f69 g70 E74 => ?_)
              have eR73 := Fr.nil g70 rfl
              subst eR73
              refine tw_iinc (lv' := fun x77 => [(2, .int x77), (1, .int x7), (0, .ref (base + a0))]) (lo := 1) (hi := 10) hx hb dX12_settles__68 hl (k := 0) rfl h30 (by decide) ⟨by decide, by decide⟩ ⟨by decide, by decide⟩ (by decide) (fun _ => rfl) (fun x77 ls e76 h75 hl => ?_)
              refine lv_goto (tgt := 7) hx hb dX12_settles__71 (by decide) ?_
              have hm78 : 10 - x77.toInt < (n_9 : Int) := by
                have := (h75).1; have := (h75).2; have := (h30).1; have := (h30).2; omega
              exact ih_9 x77 M72 R43 J71 H locs _ (iv_mono h75 (by decide) (by decide)) hm78 hS hl
            · have q79 : x7.toInt = 0 := ti_eq c66
              have h80 : iv 0 0 x7 := ⟨by have := (h_x7).1; have := ((iv_c (c := 0) (n := 0) (by decide))).1; omega, by have := (h_x7).2; have := ((iv_c (c := 0) (n := 0) (by decide))).2; omega⟩
              refine lv_iconst (v := 1) hx hb dX12_settles__60 (by decide) ?_
              refine lv_goto (tgt := 65) hx hb dX12_settles__61 (by decide) ?_
              refine tw_gov hS (md_runV (As := [.int x8, .int 1]) (rest := []) hx hb hml hown hW hK hT hS.1 (t_X12_grows l D cy tx base Z K N M42 R43 J52 hS.2.1 a0 hz_a0 hk_a0 x8 h30 1 (iv_mono (iv_c (c := 1) (n := 1) (by decide)) (by decide) (by decide))) s_X12_386 ⟨rfl, rfl, ⟨Nat.le_of_ble_eq_true rfl, Nat.le_of_ble_eq_true rfl⟩, ⟨Nat.le_of_ble_eq_true rfl, Nat.le_of_ble_eq_true rfl⟩⟩ hz_a0 hk_a0 (by decide) rfl rfl hl.1 rfl (Nat.le_of_ble_eq_true rfl) dX12_settles__65) rfl rfl (fun H locs M84 R85 J83 hS f81 g82 E86 => ?_)
              have eR85 := Fr.nil g82 rfl
              subst eR85
              refine tw_iinc (lv' := fun x89 => [(2, .int x89), (1, .int x7), (0, .ref (base + a0))]) (lo := 1) (hi := 10) hx hb dX12_settles__68 hl (k := 0) rfl h30 (by decide) ⟨by decide, by decide⟩ ⟨by decide, by decide⟩ (by decide) (fun _ => rfl) (fun x89 ls e88 h87 hl => ?_)
              refine lv_goto (tgt := 7) hx hb dX12_settles__71 (by decide) ?_
              have hm90 : 10 - x89.toInt < (n_9 : Int) := by
                have := (h30).1; have := (h30).2; have := (h87).1; have := (h87).2; omega
              exact ih_9 x89 M84 R43 J83 H locs _ (iv_mono h87 (by decide) (by decide)) hm90 hS hl
        refine lv_if_eq (tgt := 43) hx hb dX12_settles__25 (by decide) (fun c91 => ?_) (fun c91 => ?_)
        · have q92 : x41.toInt = 0 := ti_eq c91
          have h93 : iv 0 0 x41 := ⟨by have := (h_x41).1; have := ((iv_c (c := 0) (n := 0) (by decide))).1; omega, by have := (h_x41).2; have := ((iv_c (c := 0) (n := 0) (by decide))).2; omega⟩
          exact J43_42  M9 R10 J37 H locs _  hS hl
        · have q94 : ¬ x41.toInt = 0 := ti_ne c91
          have h95 : iv 1 1 x41 := ⟨by have := (h_x41).1; have := ((iv_c (c := 0) (n := 0) (by decide))).1; have := ((iv_c (c := 0) (n := 0) (by decide))).2; omega, by have := (h_x41).2; have := ((iv_c (c := 0) (n := 0) (by decide))).1; have := ((iv_c (c := 0) (n := 0) (by decide))).2; omega⟩
          refine lv_aload_n hx hb dX12_settles__28 rfl (lv_at hl 2 rfl) ?_
          refine lv_iload_n hx hb dX12_settles__29 rfl (lv_at hl 0 rfl) ?_
          refine lv_iload_n hx hb dX12_settles__30 rfl (lv_at hl 1 rfl) ?_
          refine lv_iconst (v := 1) hx hb dX12_settles__31 (by decide) ?_
          refine lv_icmp_ne (tgt := 39) hx hb dX12_settles__32 (by decide) (fun c96 => ?_) (fun c96 => ?_)
          · have q97 : ¬ x7.toInt = 1 := ti_ne c96
            refine lv_iconst (v := 0) hx hb dX12_settles__39 (by decide) ?_
            refine tw_gov hS (md_runV (As := [.int x8, .int 0]) (rest := []) hx hb hml hown hW hK hT hS.1 (t_X12_grows l D cy tx base Z K N M9 R10 J37 hS.2.1 a0 hz_a0 hk_a0 x8 h30 0 (iv_mono (iv_c (c := 0) (n := 0) (by decide)) (by decide) (by decide))) s_X12_386 ⟨rfl, rfl, ⟨Nat.le_of_ble_eq_true rfl, Nat.le_of_ble_eq_true rfl⟩, ⟨Nat.le_of_ble_eq_true rfl, Nat.le_of_ble_eq_true rfl⟩⟩ hz_a0 hk_a0 (by decide) rfl rfl hl.1 rfl (Nat.le_of_ble_eq_true rfl) dX12_settles__40) rfl rfl (fun H locs M101 R102 J100 hS f98 g99 E103 => ?_)
            have eR102 := Fr.nil g99 rfl
            subst eR102
            exact J43_42  M101 R10 J100 H locs _  hS hl
          · have q104 : x7.toInt = 1 := ti_eq c96
            have h105 : iv 1 1 x7 := ⟨by have := (h_x7).1; have := ((iv_c (c := 1) (n := 1) (by decide))).1; omega, by have := (h_x7).2; have := ((iv_c (c := 1) (n := 1) (by decide))).2; omega⟩
            refine lv_iconst (v := 1) hx hb dX12_settles__35 (by decide) ?_
            refine lv_goto (tgt := 40) hx hb dX12_settles__36 (by decide) ?_
            refine tw_gov hS (md_runV (As := [.int x8, .int 1]) (rest := []) hx hb hml hown hW hK hT hS.1 (t_X12_grows l D cy tx base Z K N M9 R10 J37 hS.2.1 a0 hz_a0 hk_a0 x8 h30 1 (iv_mono (iv_c (c := 1) (n := 1) (by decide)) (by decide) (by decide))) s_X12_386 ⟨rfl, rfl, ⟨Nat.le_of_ble_eq_true rfl, Nat.le_of_ble_eq_true rfl⟩, ⟨Nat.le_of_ble_eq_true rfl, Nat.le_of_ble_eq_true rfl⟩⟩ hz_a0 hk_a0 (by decide) rfl rfl hl.1 rfl (Nat.le_of_ble_eq_true rfl) dX12_settles__40) rfl rfl (fun H locs M109 R110 J108 hS f106 g107 E111 => ?_)
            have eR110 := Fr.nil g107 rfl
            subst eR110
            exact J43_42  M109 R10 J108 H locs _  hS hl
  have hm112 : 10 - (0 : Int32).toInt < (((11 : Nat) : Int) : Int) := by
    have : (0 : Int32).toInt = 0 := (by decide); omega
  exact W7_9 11 0 Ma Ra J3 H locs _ (iv_mono (iv_c (c := 0) (n := 0) (by decide)) (by decide) (by decide)) hm112 hS hl
def Lt_X12_stays : WL := [(23, 3, 4), (23, 10, 20), (23, 30, 50)]
def LRt_X12_stays : WL := []
set_option maxRecDepth 100000 in
set_option maxHeartbeats 4000000 in
theorem t_X12_stays (l : Launch) (D : va_G) (cy : Nat → ClassId) (tx : (Nat → Nat) × (Nat → Nat)) (base Z : Nat) (K N : Nat → Nat) (Ma : MT) (Ra : RT) (Ja : JT) (hTy : Ty Z K N Ma Ra) (a0 : Nat) (hz_a0 : a0 < Z) (hk_a0 : K a0 = 12) : Met l yX12_stays [Cond.code yX12_stays cX12_stays 2 none] (md_rm 1 0 0) (va_Pc [.ref (base + a0)] (md_U D cy tx base Z K N Ma Ra Ja)) (mQv D cy tx base (fun u => TP Z K N Lt_X12_stays LRt_X12_stays Ma Ra u ∧ (True))) 0 0 (fun q => base ≤ q) := by
  refine tw_ofW (L := Lt_X12_stays) (LR := LRt_X12_stays) (by decide) (Nat.le_of_ble_eq_true rfl) hTy ?_
  intro p e s m args below meth c Q ls hx hb hr hlocks hown hml hW hK hT hS hQ hl
  have hl : lv_has ls 2 [(0, .ref (base + a0))] := hl
  refine lv_iconst (v := 0) hx hb dX12_stays_0 (by decide) ?_
  refine lv_istore_n (lv' := [(1, .int 0), (0, .ref (base + a0))]) hx hb dX12_stays_1 rfl hl (by decide) rfl (fun ls hl => ?_)
  have W2_2 : ∀ (n_2 : Nat) (x1 : Int32) (M2 : MT) (R3 : RT) (J4 : JT) (H : Heap) (locs : List Loc) (ls : Array Slot) (h_x1 : iv 0 10 x1) (hm_2 : 10 - x1.toInt < (n_2 : Int)) (hS : SB D cy base Z K N Lt_X12_stays LRt_X12_stays Ma Ra M2 R3 J4 s H locs) (hl : lv_has ls 2 [(1, .int x1), (0, .ref (base + a0))]), W p l e (md_rm 1 0 0) s m args below meth c H locs 0 0 Q (F0 m 2 ls []) := by
    intro n_2
    induction n_2 with
    | zero =>
      intro x1 M2 R3 J4 H locs ls h_x1 hm_2 hS hl
      exfalso
      have := (h_x1).1; have := (h_x1).2; omega
    | succ n_2 ih_2 =>
      intro x1 M2 R3 J4 H locs ls h_x1 hm_2 hS hl
      have f5 := hS.2.2.1
      have g6 := hS.2.2.2
      refine lv_iload_n hx hb dX12_stays_2 rfl (lv_at hl 0 rfl) ?_
      refine lv_bipush (v := 10) hx hb dX12_stays_3 (by decide) ?_
      refine lv_icmp_ge (tgt := 65) hx hb dX12_stays_5 (by decide) (fun c7 => ?_) (fun c7 => ?_)
      · have q8 : 10 ≤ x1.toInt := ti_le c7
        have h9 : iv 10 10 x1 := iv_geL (y := 10) h_x1 (iv_c (c := 10) (n := 10) (by decide)) q8 (by decide)
        refine lv_aload_n hx hb dX12_stays_65 rfl (lv_at hl 1 rfl) ?_
        refine tw_getr hx hb hW hown hK hS f_X12_45_11 hz_a0 hk_a0 (t := 23) (n := 226) rfl dX12_stays_66 (fun b10 k11 hz_b10 hk_b10 hn_b10 => ?_)
        have hn_b10 := hn_b10 (by decide)
        refine lv_iconst (v := 3) hx hb dX12_stays_69 (by decide) ?_
        refine lv_aload_n hx hb dX12_stays_70 rfl (lv_at hl 1 rfl) ?_
        refine tw_geti hx hb hW hown hK hS f_X12_348_11 hz_a0 hk_a0 (lo := (-2147483648)) (hi := 2147483647) rfl dX12_stays_71 (fun x14 k13 h12 => ?_)
        refine tw_iast hx hb hK hS hz_b10 hk_b10 (Or.inr (by decide)) hn_b10 (iv_c (c := 3) (n := 3) (by decide)) ⟨by decide, by decide⟩ h12 (rg_cs (k0 := 3) rfl rfl rfl ⟨by decide, by decide⟩) (jl := 3) (jh := 3) ⟨by decide, by decide⟩ rfl dX12_stays_74 (fun H locs M17 hS k15 f16 => ?_)
        exact tw_endv hx hb hr hlocks hK hT hS hQ (trivial) dX12_stays_75
      · have q18 : x1.toInt < 10 := ti_nle c7
        have h19 : iv 0 9 x1 := iv_ltL (y := 10) h_x1 (iv_c (c := 10) (n := 10) (by decide)) q18 (by decide)
        refine lv_aload_n hx hb dX12_stays_8 rfl (lv_at hl 1 rfl) ?_
        refine tw_getr hx hb hW hown hK hS f_X12_45_11 hz_a0 hk_a0 (t := 23) (n := 226) rfl dX12_stays_9 (fun b20 k21 hz_b20 hk_b20 hn_b20 => ?_)
        have hn_b20 := hn_b20 (by decide)
        refine lv_bipush (v := 10) hx hb dX12_stays_12 (by decide) ?_
        refine lv_iload_n hx hb dX12_stays_14 rfl (lv_at hl 0 rfl) ?_
        refine tw_iadd (lo := 10) (hi := 19) hx hb (iv_c (c := 10) (n := 10) (by decide)) h19 ⟨by decide, by decide⟩ ⟨by decide, by decide⟩ dX12_stays_15 (fun x24 e23 h22 => ?_)
        have e23 : x24.toInt = 10 + x1.toInt := e23
        refine lv_aload_n hx hb dX12_stays_16 rfl (lv_at hl 1 rfl) ?_
        refine tw_getr hx hb hW hown hK hS f_X12_51_11 hz_a0 hk_a0 (t := 30) (n := 10) rfl dX12_stays_17 (fun b25 k26 hz_b25 hk_b25 hn_b25 => ?_)
        have hn_b25 := hn_b25 (by decide)
        refine lv_iload_n hx hb dX12_stays_20 rfl (lv_at hl 0 rfl) ?_
        refine tw_iald hx hb hK hS hz_b25 hk_b25 (Or.inr (by decide)) hn_b25 (lo := 0) (hi := 9999) h19 ⟨by decide, by decide⟩ rg_u30 dX12_stays_21 (fun x29 k28 h27 => ?_)
        refine tw_iast hx hb hK hS hz_b20 hk_b20 (Or.inr (by decide)) hn_b20 h22 ⟨by decide, by decide⟩ h27 (rg_svs ⟨by decide, by decide⟩ ⟨by decide, by decide⟩) (jl := 10) (jh := 19) ⟨by decide, by decide⟩ rfl dX12_stays_22 (fun H locs M32 hS k30 f31 => ?_)
        refine lv_aload_n hx hb dX12_stays_23 rfl (lv_at hl 1 rfl) ?_
        refine tw_getrk hx hb hW hown hK hS f_X12_45_11 hz_a0 hk_a0 (b := b20) k21 dX12_stays_24 ?_
        refine lv_bipush (v := 30) hx hb dX12_stays_27 (by decide) ?_
        refine lv_iload_n hx hb dX12_stays_29 rfl (lv_at hl 0 rfl) ?_
        refine tw_iadd (lo := 30) (hi := 39) hx hb (iv_c (c := 30) (n := 30) (by decide)) h19 ⟨by decide, by decide⟩ ⟨by decide, by decide⟩ dX12_stays_30 (fun x35 e34 h33 => ?_)
        have e34 : x35.toInt = 30 + x1.toInt := e34
        refine lv_dup2_11 hx hb dX12_stays_31 rfl rfl ?_
        refine tw_iald hx hb hK hS hz_b20 hk_b20 (Or.inr (by decide)) hn_b20 (lo := (-2147483648)) (hi := 2147483647) h33 ⟨by decide, by decide⟩ rg_full dX12_stays_32 (fun x38 k37 h36 => ?_)
        refine lv_aload_n hx hb dX12_stays_33 rfl (lv_at hl 1 rfl) ?_
        refine tw_getr hx hb hW hown hK hS f_X12_57_11 hz_a0 hk_a0 (t := 14) (n := 10) rfl dX12_stays_34 (fun b39 k40 hz_b39 hk_b39 hn_b39 => ?_)
        have hn_b39 := hn_b39 (by decide)
        refine lv_iload_n hx hb dX12_stays_37 rfl (lv_at hl 0 rfl) ?_
        refine tw_iald hx hb hK hS hz_b39 hk_b39 (Or.inl rfl) hn_b39 (lo := (-2147483648)) (hi := 2147483647) h19 ⟨by decide, by decide⟩ rg_u14 dX12_stays_38 (fun x43 k42 h41 => ?_)
        refine lv_iadd hx hb dX12_stays_39 ?_
        refine tw_top (fun x45 => ?_)
        have h44 := iv_any x45
        refine tw_iast hx hb hK hS hz_b20 hk_b20 (Or.inr (by decide)) hn_b20 h33 ⟨by decide, by decide⟩ h44 (rg_sas (Or.inl ⟨by decide, by decide⟩) ⟨by decide, by decide⟩) (jl := 30) (jh := 39) ⟨by decide, by decide⟩ rfl dX12_stays_40 (fun H locs M48 hS k46 f47 => ?_)
        refine lv_aload_n hx hb dX12_stays_41 rfl (lv_at hl 1 rfl) ?_
        refine tw_getrk hx hb hW hown hK hS f_X12_45_11 hz_a0 hk_a0 (b := b20) k21 dX12_stays_42 ?_
        refine lv_bipush (v := 40) hx hb dX12_stays_45 (by decide) ?_
        refine lv_iload_n hx hb dX12_stays_47 rfl (lv_at hl 0 rfl) ?_
        refine tw_iadd (lo := 40) (hi := 49) hx hb (iv_c (c := 40) (n := 40) (by decide)) h19 ⟨by decide, by decide⟩ ⟨by decide, by decide⟩ dX12_stays_48 (fun x51 e50 h49 => ?_)
        have e50 : x51.toInt = 40 + x1.toInt := e50
        refine lv_dup2_11 hx hb dX12_stays_49 rfl rfl ?_
        refine tw_iald hx hb hK hS hz_b20 hk_b20 (Or.inr (by decide)) hn_b20 (lo := (-2147483648)) (hi := 2147483647) h49 ⟨by decide, by decide⟩ rg_full dX12_stays_50 (fun x54 k53 h52 => ?_)
        refine lv_aload_n hx hb dX12_stays_51 rfl (lv_at hl 1 rfl) ?_
        refine tw_getr hx hb hW hown hK hS f_X12_60_11 hz_a0 hk_a0 (t := 14) (n := 10) rfl dX12_stays_52 (fun b55 k56 hz_b55 hk_b55 hn_b55 => ?_)
        have hn_b55 := hn_b55 (by decide)
        refine lv_iload_n hx hb dX12_stays_55 rfl (lv_at hl 0 rfl) ?_
        refine tw_iald hx hb hK hS hz_b55 hk_b55 (Or.inl rfl) hn_b55 (lo := (-2147483648)) (hi := 2147483647) h19 ⟨by decide, by decide⟩ rg_u14 dX12_stays_56 (fun x59 k58 h57 => ?_)
        refine lv_iadd hx hb dX12_stays_57 ?_
        refine tw_top (fun x61 => ?_)
        have h60 := iv_any x61
        refine tw_iast hx hb hK hS hz_b20 hk_b20 (Or.inr (by decide)) hn_b20 h49 ⟨by decide, by decide⟩ h60 (rg_sas (Or.inl ⟨by decide, by decide⟩) ⟨by decide, by decide⟩) (jl := 40) (jh := 49) ⟨by decide, by decide⟩ rfl dX12_stays_58 (fun H locs M64 hS k62 f63 => ?_)
        refine tw_iinc (lv' := fun x67 => [(1, .int x67), (0, .ref (base + a0))]) (lo := 1) (hi := 10) hx hb dX12_stays_59 hl (k := 0) rfl h19 (by decide) ⟨by decide, by decide⟩ ⟨by decide, by decide⟩ (by decide) (fun _ => rfl) (fun x67 ls e66 h65 hl => ?_)
        refine lv_goto (tgt := 2) hx hb dX12_stays_62 (by decide) ?_
        have hm68 : 10 - x67.toInt < (n_2 : Int) := by
          have := (h19).1; have := (h19).2; have := (h22).1; have := (h22).2; have := (h33).1; have := (h33).2; have := (h49).1; have := (h49).2; have := (h65).1; have := (h65).2; omega
        exact ih_2 x67 M64 R3 J4 H locs _ (iv_mono h65 (by decide) (by decide)) hm68 hS hl
  have hm69 : 10 - (0 : Int32).toInt < (((11 : Nat) : Int) : Int) := by
    have : (0 : Int32).toInt = 0 := (by decide); omega
  exact W2_2 11 0 Ma Ra Ja s.heap [] _ (iv_mono (iv_c (c := 0) (n := 0) (by decide)) (by decide) (by decide)) hm69 hS hl
def Lt_X12_bench : WL := [(12, 28, 29), (12, 30, 33), (14, 0, 2000000), (23, 3, 4), (23, 10, 20), (23, 30, 50), (30, 0, 2000000), (31, 0, 2000000)]
def LRt_X12_bench : WL := []
set_option maxRecDepth 100000 in
set_option maxHeartbeats 4000000 in
theorem t_X12_bench (l : Launch) (D : va_G) (cy : Nat → ClassId) (tx : (Nat → Nat) × (Nat → Nat)) (base Z : Nat) (K N : Nat → Nat) (Ma : MT) (Ra : RT) (Ja : JT) (hTy : Ty Z K N Ma Ra) (a0 : Nat) (hz_a0 : a0 < Z) (hk_a0 : K a0 = 12) (a1 : Int32) (h_a1 : iv (-2147483648) 2147483647 a1) (a2 : Int32) (h_a2 : iv (-2147483648) 2147483647 a2) : Met l yX12_bench [Cond.code yX12_bench cX12_bench 4 (some .int)] (md_rm 5 0 0) (va_Pc [.ref (base + a0), .int a1, .int a2] (md_U D cy tx base Z K N Ma Ra Ja)) (mQi D cy tx base (fun r u => TP Z K N Lt_X12_bench LRt_X12_bench Ma Ra u ∧ (iv (-2) 2 r))) 0 0 (fun q => base ≤ q) := by
  refine tw_ofW (L := Lt_X12_bench) (LR := LRt_X12_bench) (by decide) (Nat.le_of_ble_eq_true rfl) hTy ?_
  intro p e s m args below meth c Q ls hx hb hr hlocks hown hml hW hK hT hS hQ hl
  have hl : lv_has ls 4 [(0, .ref (base + a0)), (1, .int a1), (2, .int a2)] := hl
  refine lv_aload_n hx hb dX12_bench_0 rfl (lv_at hl 0 rfl) ?_
  refine tw_getr hx hb hW hown hK hS f_X12_45_11 hz_a0 hk_a0 (t := 23) (n := 226) rfl dX12_bench_1 (fun b1 k2 hz_b1 hk_b1 hn_b1 => ?_)
  have hn_b1 := hn_b1 (by decide)
  refine lv_iconst (v := 0) hx hb dX12_bench_4 (by decide) ?_
  refine tw_iald hx hb hK hS hz_b1 hk_b1 (Or.inr (by decide)) hn_b1 (lo := 0) (hi := 10) (iv_c (c := 0) (n := 0) (by decide)) ⟨by decide, by decide⟩ (rg_c (k0 := 0) rfl rfl rfl) dX12_bench_5 (fun x5 k4 h3 => ?_)
  refine lv_if_eq (tgt := 31) hx hb dX12_bench_6 (by decide) (fun c6 => ?_) (fun c6 => ?_)
  · have q7 : x5.toInt = 0 := ti_eq c6
    have h8 : iv 0 0 x5 := ⟨by have := (h3).1; have := ((iv_c (c := 0) (n := 0) (by decide))).1; omega, by have := (h3).2; have := ((iv_c (c := 0) (n := 0) (by decide))).2; omega⟩
    refine lv_aload_n hx hb dX12_bench_31 rfl (lv_at hl 0 rfl) ?_
    refine lv_iconst (v := 0) hx hb dX12_bench_32 (by decide) ?_
    refine tw_goi hS (md_runV (As := [.int 0]) (rest := []) hx hb hml hown hW hK hT hS.1 (t_X12_refuses l D cy tx base Z K N Ma Ra Ja hS.2.1 a0 hz_a0 hk_a0 0 (iv_mono (iv_c (c := 0) (n := 0) (by decide)) (by decide) (by decide))) s_X12_338 ⟨rfl, rfl, ⟨Nat.le_of_ble_eq_true rfl, Nat.le_of_ble_eq_true rfl⟩, ⟨Nat.le_of_ble_eq_true rfl, Nat.le_of_ble_eq_true rfl⟩⟩ hz_a0 hk_a0 (by decide) rfl rfl hl.1 rfl (Nat.le_of_ble_eq_true rfl) dX12_bench_33) rfl rfl (fun x15 H locs M12 R13 J11 hS f9 g10 E14 => ?_)
    have eR13 := Fr.nil g10 rfl
    subst eR13
    have h_x15 := E14
    clear E14
    exact tw_endi hx hb hr hlocks hK hT hS hQ ((iv_mono h_x15 (by decide) (by decide))) dX12_bench_36
  · have q16 : ¬ x5.toInt = 0 := ti_ne c6
    have h17 : iv 1 10 x5 := ⟨by have := (h3).1; have := ((iv_c (c := 0) (n := 0) (by decide))).1; have := ((iv_c (c := 0) (n := 0) (by decide))).2; omega, by have := (h3).2; have := ((iv_c (c := 0) (n := 0) (by decide))).1; have := ((iv_c (c := 0) (n := 0) (by decide))).2; omega⟩
    refine lv_aload_n hx hb dX12_bench_9 rfl (lv_at hl 0 rfl) ?_
    refine lv_iload_n hx hb dX12_bench_10 rfl (lv_at hl 1 rfl) ?_
    refine tw_goi hS (md_runV (As := [.int a1]) (rest := []) hx hb hml hown hW hK hT hS.1 (t_X12_isSet l D cy tx base Z K N Ma Ra Ja hS.2.1 a0 hz_a0 hk_a0 a1 h_a1) s_X12_404 ⟨rfl, rfl, ⟨Nat.le_of_ble_eq_true rfl, Nat.le_of_ble_eq_true rfl⟩, ⟨Nat.le_of_ble_eq_true rfl, Nat.le_of_ble_eq_true rfl⟩⟩ hz_a0 hk_a0 (by decide) rfl rfl hl.1 rfl (Nat.le_of_ble_eq_true rfl) dX12_bench_11) rfl rfl (fun x24 H locs M21 R22 J20 hS f18 g19 E23 => ?_)
    have eM21 := Fr.nil f18 rfl
    subst eM21
    have eR22 := Fr.nil g19 rfl
    subst eR22
    have h_x24 := E23
    clear E23
    refine lv_if_eq (tgt := 31) hx hb dX12_bench_14 (by decide) (fun c25 => ?_) (fun c25 => ?_)
    · have q26 : x24.toInt = 0 := ti_eq c25
      have h27 : iv 0 0 x24 := ⟨by have := (h_x24).1; have := ((iv_c (c := 0) (n := 0) (by decide))).1; omega, by have := (h_x24).2; have := ((iv_c (c := 0) (n := 0) (by decide))).2; omega⟩
      refine lv_aload_n hx hb dX12_bench_31 rfl (lv_at hl 0 rfl) ?_
      refine lv_iconst (v := 0) hx hb dX12_bench_32 (by decide) ?_
      refine tw_goi hS (md_runV (As := [.int 0]) (rest := []) hx hb hml hown hW hK hT hS.1 (t_X12_refuses l D cy tx base Z K N Ma Ra J20 hS.2.1 a0 hz_a0 hk_a0 0 (iv_mono (iv_c (c := 0) (n := 0) (by decide)) (by decide) (by decide))) s_X12_338 ⟨rfl, rfl, ⟨Nat.le_of_ble_eq_true rfl, Nat.le_of_ble_eq_true rfl⟩, ⟨Nat.le_of_ble_eq_true rfl, Nat.le_of_ble_eq_true rfl⟩⟩ hz_a0 hk_a0 (by decide) rfl rfl hl.1 rfl (Nat.le_of_ble_eq_true rfl) dX12_bench_33) rfl rfl (fun x34 H locs M31 R32 J30 hS f28 g29 E33 => ?_)
      have eR32 := Fr.nil g29 rfl
      subst eR32
      have h_x34 := E33
      clear E33
      exact tw_endi hx hb hr hlocks hK hT hS hQ ((iv_mono h_x34 (by decide) (by decide))) dX12_bench_36
    · have q35 : ¬ x24.toInt = 0 := ti_ne c25
      have h36 : iv 1 1 x24 := ⟨by have := (h_x24).1; have := ((iv_c (c := 0) (n := 0) (by decide))).1; have := ((iv_c (c := 0) (n := 0) (by decide))).2; omega, by have := (h_x24).2; have := ((iv_c (c := 0) (n := 0) (by decide))).1; have := ((iv_c (c := 0) (n := 0) (by decide))).2; omega⟩
      refine lv_aload_n hx hb dX12_bench_17 rfl (lv_at hl 0 rfl) ?_
      refine lv_iload_n hx hb dX12_bench_18 rfl (lv_at hl 2 rfl) ?_
      refine tw_goi hS (md_runV (As := [.int a2]) (rest := []) hx hb hml hown hW hK hT hS.1 (t_X12_isSet l D cy tx base Z K N Ma Ra J20 hS.2.1 a0 hz_a0 hk_a0 a2 h_a2) s_X12_404 ⟨rfl, rfl, ⟨Nat.le_of_ble_eq_true rfl, Nat.le_of_ble_eq_true rfl⟩, ⟨Nat.le_of_ble_eq_true rfl, Nat.le_of_ble_eq_true rfl⟩⟩ hz_a0 hk_a0 (by decide) rfl rfl hl.1 rfl (Nat.le_of_ble_eq_true rfl) dX12_bench_19) rfl rfl (fun x43 H locs M40 R41 J39 hS f37 g38 E42 => ?_)
      have eM40 := Fr.nil f37 rfl
      subst eM40
      have eR41 := Fr.nil g38 rfl
      subst eR41
      have h_x43 := E42
      clear E42
      refine lv_if_eq (tgt := 31) hx hb dX12_bench_22 (by decide) (fun c44 => ?_) (fun c44 => ?_)
      · have q45 : x43.toInt = 0 := ti_eq c44
        have h46 : iv 0 0 x43 := ⟨by have := (h_x43).1; have := ((iv_c (c := 0) (n := 0) (by decide))).1; omega, by have := (h_x43).2; have := ((iv_c (c := 0) (n := 0) (by decide))).2; omega⟩
        refine lv_aload_n hx hb dX12_bench_31 rfl (lv_at hl 0 rfl) ?_
        refine lv_iconst (v := 0) hx hb dX12_bench_32 (by decide) ?_
        refine tw_goi hS (md_runV (As := [.int 0]) (rest := []) hx hb hml hown hW hK hT hS.1 (t_X12_refuses l D cy tx base Z K N Ma Ra J39 hS.2.1 a0 hz_a0 hk_a0 0 (iv_mono (iv_c (c := 0) (n := 0) (by decide)) (by decide) (by decide))) s_X12_338 ⟨rfl, rfl, ⟨Nat.le_of_ble_eq_true rfl, Nat.le_of_ble_eq_true rfl⟩, ⟨Nat.le_of_ble_eq_true rfl, Nat.le_of_ble_eq_true rfl⟩⟩ hz_a0 hk_a0 (by decide) rfl rfl hl.1 rfl (Nat.le_of_ble_eq_true rfl) dX12_bench_33) rfl rfl (fun x53 H locs M50 R51 J49 hS f47 g48 E52 => ?_)
        have eR51 := Fr.nil g48 rfl
        subst eR51
        have h_x53 := E52
        clear E52
        exact tw_endi hx hb hr hlocks hK hT hS hQ ((iv_mono h_x53 (by decide) (by decide))) dX12_bench_36
      · have q54 : ¬ x43.toInt = 0 := ti_ne c44
        have h55 : iv 1 1 x43 := ⟨by have := (h_x43).1; have := ((iv_c (c := 0) (n := 0) (by decide))).1; have := ((iv_c (c := 0) (n := 0) (by decide))).2; omega, by have := (h_x43).2; have := ((iv_c (c := 0) (n := 0) (by decide))).1; have := ((iv_c (c := 0) (n := 0) (by decide))).2; omega⟩
        refine lv_iload_n hx hb dX12_bench_25 rfl (lv_at hl 1 rfl) ?_
        refine lv_iload_n hx hb dX12_bench_26 rfl (lv_at hl 2 rfl) ?_
        refine lv_iand hx hb dX12_bench_27 ?_
        refine tw_top (fun x57 => ?_)
        have h56 := iv_any x57
        refine lv_if_eq (tgt := 37) hx hb dX12_bench_28 (by decide) (fun c58 => ?_) (fun c58 => ?_)
        · have q59 : x57.toInt = 0 := ti_eq c58
          have h60 : iv 0 0 x57 := ⟨by have := (h56).1; have := ((iv_c (c := 0) (n := 0) (by decide))).1; omega, by have := (h56).2; have := ((iv_c (c := 0) (n := 0) (by decide))).2; omega⟩
          refine lv_aload_n hx hb dX12_bench_37 rfl (lv_at hl 0 rfl) ?_
          obtain ⟨x63, k61⟩ : ∃ x, Ma b1 (4 : Int32).toNatClampNeg = x := ⟨_, rfl⟩
          have h62 : iv 0 8 x63 := by rw [← k61]; exact hS.2.1.int hz_b1 hk_b1 (show rgI 23 (4 : Int32).toNatClampNeg = (0, 8) from rfl)
          refine tw_gov hS (md_runV (As := []) (rest := []) hx hb hml hown hW hK hT hS.1 (t_X12_begins l D cy tx base Z K N Ma Ra J39 hS.2.1 a0 hz_a0 hk_a0 b1 k2 x63 k61 (iv_mono h62 (by decide) (by decide))) s_X12_393 ⟨rfl, rfl, ⟨Nat.le_of_ble_eq_true rfl, Nat.le_of_ble_eq_true rfl⟩, ⟨Nat.le_of_ble_eq_true rfl, Nat.le_of_ble_eq_true rfl⟩⟩ hz_a0 hk_a0 (by decide) rfl rfl hl.1 rfl (Nat.le_of_ble_eq_true rfl) dX12_bench_38) rfl rfl (fun H locs M67 R68 J66 hS f64 g65 E69 => ?_)
          have eR68 := Fr.nil g65 rfl
          subst eR68
          have p70 := E69
          clear E69
          have k71 : M67 a0 30 = x63 := p70
          refine lv_aload_n hx hb dX12_bench_41 rfl (lv_at hl 0 rfl) ?_
          refine lv_iload_n hx hb dX12_bench_42 rfl (lv_at hl 1 rfl) ?_
          refine lv_aload_n hx hb dX12_bench_43 rfl (lv_at hl 0 rfl) ?_
          refine tw_getrk hx hb hW hown hK hS f_X12_45_11 hz_a0 hk_a0 (b := b1) k2 dX12_bench_44 ?_
          refine lv_iconst (v := 2) hx hb dX12_bench_47 (by decide) ?_
          refine tw_iald hx hb hK hS hz_b1 hk_b1 (Or.inr (by decide)) hn_b1 (lo := (-2147483648)) (hi := 2147483647) (iv_c (c := 2) (n := 2) (by decide)) ⟨by decide, by decide⟩ (rg_c (k0 := 2) rfl rfl rfl) dX12_bench_48 (fun x74 k73 h72 => ?_)
          refine lv_iand hx hb dX12_bench_49 ?_
          refine tw_top (fun x76 => ?_)
          have h75 := iv_any x76
          refine tw_puti hx hb hW hown hK hS f_X12_364_11 hz_a0 hk_a0 rfl rfl (lo := (-2147483648)) (hi := 2147483647) rfl h75 rfl dX12_bench_50 (fun H locs M79 hS k77 f78 => ?_)
          refine lv_aload_n hx hb dX12_bench_53 rfl (lv_at hl 0 rfl) ?_
          refine lv_iload_n hx hb dX12_bench_54 rfl (lv_at hl 2 rfl) ?_
          refine lv_aload_n hx hb dX12_bench_55 rfl (lv_at hl 0 rfl) ?_
          refine tw_getrk hx hb hW hown hK hS f_X12_45_11 hz_a0 hk_a0 (b := b1) k2 dX12_bench_56 ?_
          refine lv_iconst (v := 2) hx hb dX12_bench_59 (by decide) ?_
          have k80 : M79 b1 (2 : Int32).toNatClampNeg = x74 := (Fr.kp (k := (2 : Int32).toNatClampNeg) f78 hk_b1 rfl).trans k73
          refine tw_ialk hx hb hK hS hz_b1 hk_b1 (Or.inr (by decide)) hn_b1 (iv_c (c := 2) (n := 2) (by decide)) ⟨by decide, by decide⟩ (v := x74) k80 dX12_bench_60 ?_
          refine lv_iand hx hb dX12_bench_61 ?_
          refine tw_top (fun x82 => ?_)
          have h81 := iv_any x82
          refine tw_puti hx hb hW hown hK hS f_X12_367_11 hz_a0 hk_a0 rfl rfl (lo := (-2147483648)) (hi := 2147483647) rfl h81 rfl dX12_bench_62 (fun H locs M85 hS k83 f84 => ?_)
          refine lv_aload_n hx hb dX12_bench_65 rfl (lv_at hl 0 rfl) ?_
          refine tw_goi hS (md_runV (As := []) (rest := []) hx hb hml hown hW hK hT hS.1 (t_X12_settles_ l D cy tx base Z K N M85 Ra J66 hS.2.1 a0 hz_a0 hk_a0) s_X12_399 ⟨rfl, rfl, ⟨Nat.le_of_ble_eq_true rfl, Nat.le_of_ble_eq_true rfl⟩, ⟨Nat.le_of_ble_eq_true rfl, Nat.le_of_ble_eq_true rfl⟩⟩ hz_a0 hk_a0 (by decide) rfl rfl hl.1 rfl (Nat.le_of_ble_eq_true rfl) dX12_bench_66) rfl rfl (fun x92 H locs M89 R90 J88 hS f86 g87 E91 => ?_)
          have eR90 := Fr.nil g87 rfl
          subst eR90
          have h_x92 := E91
          clear E91
          refine lv_istore_n (lv' := [(3, .int x92), (0, .ref (base + a0)), (1, .int a1), (2, .int a2)]) hx hb dX12_bench_69 rfl hl (by decide) rfl (fun ls hl => ?_)
          refine lv_aload_n hx hb dX12_bench_70 rfl (lv_at hl 1 rfl) ?_
          refine tw_gov hS (md_runV (As := []) (rest := []) hx hb hml hown hW hK hT hS.1 (t_X12_stays l D cy tx base Z K N M89 Ra J88 hS.2.1 a0 hz_a0 hk_a0) s_X12_401 ⟨rfl, rfl, ⟨Nat.le_of_ble_eq_true rfl, Nat.le_of_ble_eq_true rfl⟩, ⟨Nat.le_of_ble_eq_true rfl, Nat.le_of_ble_eq_true rfl⟩⟩ hz_a0 hk_a0 (by decide) rfl rfl hl.1 rfl (Nat.le_of_ble_eq_true rfl) dX12_bench_71) rfl rfl (fun H locs M96 R97 J95 hS f93 g94 E98 => ?_)
          have eR97 := Fr.nil g94 rfl
          subst eR97
          refine lv_iload_n hx hb dX12_bench_74 rfl (lv_at hl 0 rfl) ?_
          exact tw_endi hx hb hr hlocks hK hT hS hQ ((iv_mono h_x92 (by decide) (by decide))) dX12_bench_75
        · have q99 : ¬ x57.toInt = 0 := ti_ne c58
          refine lv_aload_n hx hb dX12_bench_31 rfl (lv_at hl 0 rfl) ?_
          refine lv_iconst (v := 0) hx hb dX12_bench_32 (by decide) ?_
          refine tw_goi hS (md_runV (As := [.int 0]) (rest := []) hx hb hml hown hW hK hT hS.1 (t_X12_refuses l D cy tx base Z K N Ma Ra J39 hS.2.1 a0 hz_a0 hk_a0 0 (iv_mono (iv_c (c := 0) (n := 0) (by decide)) (by decide) (by decide))) s_X12_338 ⟨rfl, rfl, ⟨Nat.le_of_ble_eq_true rfl, Nat.le_of_ble_eq_true rfl⟩, ⟨Nat.le_of_ble_eq_true rfl, Nat.le_of_ble_eq_true rfl⟩⟩ hz_a0 hk_a0 (by decide) rfl rfl hl.1 rfl (Nat.le_of_ble_eq_true rfl) dX12_bench_33) rfl rfl (fun x106 H locs M103 R104 J102 hS f100 g101 E105 => ?_)
          have eR104 := Fr.nil g101 rfl
          subst eR104
          have h_x106 := E105
          clear E105
          exact tw_endi hx hb hr hlocks hK hT hS hQ ((iv_mono h_x106 (by decide) (by decide))) dX12_bench_36
