def Lt_J6_bitCount_0f7a4 : WL := []
def LRt_J6_bitCount_0f7a4 : WL := []
set_option maxRecDepth 100000 in
set_option maxHeartbeats 4000000 in
theorem t_J6_bitCount_0f7a4 (l : Launch) (D : va_G) (cy : Nat → ClassId) (tx : (Nat → Nat) × (Nat → Nat)) (base Z : Nat) (K N : Nat → Nat) (Ma : MT) (Ra : RT) (Ja : JT) (hTy : Ty Z K N Ma Ra) (a0 : Int32) (h_a0 : iv (-2147483648) 2147483647 a0) : Met l yJ6_bitCount_0f7a4 [Cond.code yJ6_bitCount_0f7a4 cJ6_bitCount_0f7a4 1 (some .int)] (md_rm 1 0 0) (va_Pc [.int a0] (md_U D cy tx base Z K N Ma Ra Ja)) (mQi D cy tx base (fun r u => TP Z K N Lt_J6_bitCount_0f7a4 LRt_J6_bitCount_0f7a4 Ma Ra u ∧ (iv 0 63 r))) 0 0 (fun q => base ≤ q) := by
  refine tw_ofW (L := Lt_J6_bitCount_0f7a4) (LR := LRt_J6_bitCount_0f7a4) (by decide) (Nat.le_of_ble_eq_true rfl) hTy ?_
  intro p e s m args below meth c Q ls hx hb hr hlocks hown hml hW hK hT hS hQ hl
  have hl : lv_has ls 1 [(0, .int a0)] := hl
  refine lv_iload_n hx hb dJ6_bitCount_0f7a4_0 rfl (lv_at hl 0 rfl) ?_
  refine lv_iload_n hx hb dJ6_bitCount_0f7a4_1 rfl (lv_at hl 0 rfl) ?_
  refine lv_iconst (v := 1) hx hb dJ6_bitCount_0f7a4_2 (by decide) ?_
  refine lv_iushr hx hb dJ6_bitCount_0f7a4_3 rfl ?_
  refine tw_top (fun x2 => ?_)
  have h1 := iv_any x2
  refine lv_ldcw hx hb hown (hW _ w_4_121 rfl) dJ6_bitCount_0f7a4_4 ?_
  refine tw_iand (hi := 1431655765) hx hb (iv_mono (iv_c (c := 1431655765) (n := 1431655765) (by decide)) (lo := 0) (hi := 1431655765) (by decide) (by decide)) (by decide) dJ6_bitCount_0f7a4_7 (fun x5 h3 => ?_)
  refine lv_isub hx hb dJ6_bitCount_0f7a4_8 ?_
  refine tw_top (fun x7 => ?_)
  have h6 := iv_any x7
  refine lv_istore_n (lv' := [(0, .int x7)]) hx hb dJ6_bitCount_0f7a4_9 rfl hl (by decide) rfl (fun ls hl => ?_)
  refine lv_iload_n hx hb dJ6_bitCount_0f7a4_10 rfl (lv_at hl 0 rfl) ?_
  refine lv_ldcw hx hb hown (hW _ w_4_122 rfl) dJ6_bitCount_0f7a4_11 ?_
  refine tw_iand (hi := 858993459) hx hb (iv_mono (iv_c (c := 858993459) (n := 858993459) (by decide)) (lo := 0) (hi := 858993459) (by decide) (by decide)) (by decide) dJ6_bitCount_0f7a4_14 (fun x10 h8 => ?_)
  refine lv_iload_n hx hb dJ6_bitCount_0f7a4_15 rfl (lv_at hl 0 rfl) ?_
  refine lv_iconst (v := 2) hx hb dJ6_bitCount_0f7a4_16 (by decide) ?_
  refine lv_iushr hx hb dJ6_bitCount_0f7a4_17 rfl ?_
  refine tw_top (fun x12 => ?_)
  have h11 := iv_any x12
  refine lv_ldcw hx hb hown (hW _ w_4_122 rfl) dJ6_bitCount_0f7a4_18 ?_
  refine tw_iand (hi := 858993459) hx hb (iv_mono (iv_c (c := 858993459) (n := 858993459) (by decide)) (lo := 0) (hi := 858993459) (by decide) (by decide)) (by decide) dJ6_bitCount_0f7a4_21 (fun x15 h13 => ?_)
  refine tw_iadd (lo := 0) (hi := 1717986918) hx hb h8 h13 ⟨by decide, by decide⟩ ⟨by decide, by decide⟩ dJ6_bitCount_0f7a4_22 (fun x18 e17 h16 => ?_)
  refine lv_istore_n (lv' := [(0, .int x18)]) hx hb dJ6_bitCount_0f7a4_23 rfl hl (by decide) rfl (fun ls hl => ?_)
  refine lv_iload_n hx hb dJ6_bitCount_0f7a4_24 rfl (lv_at hl 0 rfl) ?_
  refine lv_iload_n hx hb dJ6_bitCount_0f7a4_25 rfl (lv_at hl 0 rfl) ?_
  refine lv_iconst (v := 4) hx hb dJ6_bitCount_0f7a4_26 (by decide) ?_
  refine lv_iushr hx hb dJ6_bitCount_0f7a4_27 rfl ?_
  refine tw_top (fun x20 => ?_)
  have h19 := iv_any x20
  refine lv_iadd hx hb dJ6_bitCount_0f7a4_28 ?_
  refine tw_top (fun x22 => ?_)
  have h21 := iv_any x22
  refine lv_ldcw hx hb hown (hW _ w_4_123 rfl) dJ6_bitCount_0f7a4_29 ?_
  refine tw_iand (hi := 252645135) hx hb (iv_mono (iv_c (c := 252645135) (n := 252645135) (by decide)) (lo := 0) (hi := 252645135) (by decide) (by decide)) (by decide) dJ6_bitCount_0f7a4_32 (fun x25 h23 => ?_)
  refine lv_istore_n (lv' := [(0, .int x25)]) hx hb dJ6_bitCount_0f7a4_33 rfl hl (by decide) rfl (fun ls hl => ?_)
  refine lv_iload_n hx hb dJ6_bitCount_0f7a4_34 rfl (lv_at hl 0 rfl) ?_
  refine lv_iload_n hx hb dJ6_bitCount_0f7a4_35 rfl (lv_at hl 0 rfl) ?_
  refine lv_bipush (v := 8) hx hb dJ6_bitCount_0f7a4_36 (by decide) ?_
  refine lv_iushr hx hb dJ6_bitCount_0f7a4_38 rfl ?_
  refine tw_top (fun x27 => ?_)
  have h26 := iv_any x27
  refine lv_iadd hx hb dJ6_bitCount_0f7a4_39 ?_
  refine tw_top (fun x29 => ?_)
  have h28 := iv_any x29
  refine lv_istore_n (lv' := [(0, .int x29)]) hx hb dJ6_bitCount_0f7a4_40 rfl hl (by decide) rfl (fun ls hl => ?_)
  refine lv_iload_n hx hb dJ6_bitCount_0f7a4_41 rfl (lv_at hl 0 rfl) ?_
  refine lv_iload_n hx hb dJ6_bitCount_0f7a4_42 rfl (lv_at hl 0 rfl) ?_
  refine lv_bipush (v := 16) hx hb dJ6_bitCount_0f7a4_43 (by decide) ?_
  refine lv_iushr hx hb dJ6_bitCount_0f7a4_45 rfl ?_
  refine tw_top (fun x31 => ?_)
  have h30 := iv_any x31
  refine lv_iadd hx hb dJ6_bitCount_0f7a4_46 ?_
  refine tw_top (fun x33 => ?_)
  have h32 := iv_any x33
  refine lv_istore_n (lv' := [(0, .int x33)]) hx hb dJ6_bitCount_0f7a4_47 rfl hl (by decide) rfl (fun ls hl => ?_)
  refine lv_iload_n hx hb dJ6_bitCount_0f7a4_48 rfl (lv_at hl 0 rfl) ?_
  refine lv_bipush (v := 63) hx hb dJ6_bitCount_0f7a4_49 (by decide) ?_
  refine tw_iand (hi := 63) hx hb (iv_mono (iv_c (c := 63) (n := 63) (by decide)) (lo := 0) (hi := 63) (by decide) (by decide)) (by decide) dJ6_bitCount_0f7a4_51 (fun x36 h34 => ?_)
  exact tw_endi hx hb hr hlocks hK hT hS hQ (h34) dJ6_bitCount_0f7a4_52
def Lt_X5_grow : WL := [(20, 0, 2000000)]
def LRt_X5_grow : WL := []
set_option maxRecDepth 100000 in
set_option maxHeartbeats 4000000 in
theorem t_X5_grow (l : Launch) (D : va_G) (cy : Nat → ClassId) (tx : (Nat → Nat) × (Nat → Nat)) (base Z : Nat) (K N : Nat → Nat) (Ma : MT) (Ra : RT) (Ja : JT) (hTy : Ty Z K N Ma Ra) (a0 : Nat) (hz_a0 : a0 < Z) (hk_a0 : K a0 = 6) (a1 : Nat) (hz_a1 : a1 < Z) (hk_a1 : K a1 = 20) (hn_a1 : N a1 = 10) (a2 : Int32) (h_a2 : iv (-2147483648) 2147483647 a2) (a3 : Int32) (h_a3 : iv (-2147483648) 2147483647 a3) : Met l yX5_grow [Cond.code yX5_grow cX5_grow 6 none] (md_rm 1 0 0) (va_Pc [.ref (base + a0), .ref (base + a1), .int a2, .int a3] (md_U D cy tx base Z K N Ma Ra Ja)) (mQv D cy tx base (fun u => TP Z K N Lt_X5_grow LRt_X5_grow Ma Ra u ∧ (True))) 0 0 (fun q => base ≤ q) := by
  refine tw_ofW (L := Lt_X5_grow) (LR := LRt_X5_grow) (by decide) (Nat.le_of_ble_eq_true rfl) hTy ?_
  intro p e s m args below meth c Q ls hx hb hr hlocks hown hml hW hK hT hS hQ hl
  have hl : lv_has ls 6 [(0, .ref (base + a0)), (1, .ref (base + a1)), (2, .int a2), (3, .int a3)] := hl
  refine lv_iconst (v := 0) hx hb dX5_grow_0 (by decide) ?_
  refine lv_istore (lv' := [(4, .int 0), (0, .ref (base + a0)), (1, .ref (base + a1)), (2, .int a2), (3, .int a3)]) hx hb dX5_grow_1 hl (by decide) rfl (fun ls hl => ?_)
  have W3_2 : ∀ (n_2 : Nat) (x1 : Int32) (M2 : MT) (R3 : RT) (J4 : JT) (H : Heap) (locs : List Loc) (ls : Array Slot) (h_x1 : iv 0 10 x1) (hm_2 : 10 - x1.toInt < (n_2 : Int)) (hS : SB D cy base Z K N Lt_X5_grow LRt_X5_grow Ma Ra M2 R3 J4 s H locs) (hl : lv_has ls 6 [(4, .int x1), (0, .ref (base + a0)), (1, .ref (base + a1)), (2, .int a2), (3, .int a3)]), W p l e (md_rm 1 0 0) s m args below meth c H locs 0 0 Q (F0 m 3 ls []) := by
    intro n_2
    induction n_2 with
    | zero =>
      intro x1 M2 R3 J4 H locs ls h_x1 hm_2 hS hl
      exfalso
      have := (h_a2).1; have := (h_a2).2; have := (h_a3).1; have := (h_a3).2; have := (h_x1).1; have := (h_x1).2; omega
    | succ n_2 ih_2 =>
      intro x1 M2 R3 J4 H locs ls h_x1 hm_2 hS hl
      have f5 := hS.2.2.1
      have g6 := hS.2.2.2
      refine lv_iload hx hb dX5_grow_3 (lv_at hl 0 rfl) ?_
      refine lv_aload_n hx hb dX5_grow_5 rfl (lv_at hl 1 rfl) ?_
      refine tw_getr hx hb hW hown hK hS f_X5_9_5 hz_a0 hk_a0 (t := 10) (n := 0) rfl dX5_grow_6 (fun b7 k8 hz_b7 hk_b7 hn_b7 => ?_)
      refine tw_geti hx hb hW hown hK hS f_X5_53_9 hz_b7 hk_b7 (lo := (-2147483648)) (hi := 10) rfl dX5_grow_9 (fun x11 k10 h9 => ?_)
      refine lv_icmp_ge (tgt := 117) hx hb dX5_grow_12 (by decide) (fun c12 => ?_) (fun c12 => ?_)
      · have q13 : x11.toInt ≤ x1.toInt := ti_le c12
        exact tw_endv hx hb hr hlocks hK hT hS hQ (trivial) dX5_grow_117
      · have q14 : x1.toInt < x11.toInt := ti_nle c12
        have h15 : iv 0 9 x1 := iv_ltL (y := x11) h_x1 h9 q14 (by decide)
        have h16 : iv 1 10 x11 := iv_gtL (y := x1) h9 h_x1 q14 (by decide)
        refine lv_iload_n hx hb dX5_grow_15 rfl (lv_at hl 3 rfl) ?_
        refine lv_iload hx hb dX5_grow_16 (lv_at hl 0 rfl) ?_
        refine lv_ishr hx hb dX5_grow_18 ?_
        refine tw_top (fun x18 => ?_)
        have h17 := iv_any x18
        refine lv_iconst (v := 1) hx hb dX5_grow_19 (by decide) ?_
        refine tw_iand (hi := 1) hx hb (iv_mono (iv_c (c := 1) (n := 1) (by decide)) (lo := 0) (hi := 1) (by decide) (by decide)) (by decide) dX5_grow_20 (fun x21 h19 => ?_)
        refine lv_iconst (v := 1) hx hb dX5_grow_21 (by decide) ?_
        refine lv_icmp_ne (tgt := 57) hx hb dX5_grow_22 (by decide) (fun c22 => ?_) (fun c22 => ?_)
        · have q23 : ¬ x21.toInt = 1 := ti_ne c22
          have h24 : iv 0 0 x21 := ⟨by have := (h19).1; have := ((iv_c (c := 1) (n := 1) (by decide))).1; have := ((iv_c (c := 1) (n := 1) (by decide))).2; omega, by have := (h19).2; have := ((iv_c (c := 1) (n := 1) (by decide))).1; have := ((iv_c (c := 1) (n := 1) (by decide))).2; omega⟩
          refine lv_iload_n hx hb dX5_grow_57 rfl (lv_at hl 4 rfl) ?_
          refine lv_iload hx hb dX5_grow_58 (lv_at hl 0 rfl) ?_
          refine lv_ishr hx hb dX5_grow_60 ?_
          refine tw_top (fun x26 => ?_)
          have h25 := iv_any x26
          refine lv_iconst (v := 1) hx hb dX5_grow_61 (by decide) ?_
          refine tw_iand (hi := 1) hx hb (iv_mono (iv_c (c := 1) (n := 1) (by decide)) (lo := 0) (hi := 1) (by decide) (by decide)) (by decide) dX5_grow_62 (fun x29 h27 => ?_)
          refine lv_iconst (v := 1) hx hb dX5_grow_63 (by decide) ?_
          refine lv_icmp_ne (tgt := 111) hx hb dX5_grow_64 (by decide) (fun c30 => ?_) (fun c30 => ?_)
          · have q31 : ¬ x29.toInt = 1 := ti_ne c30
            have h32 : iv 0 0 x29 := ⟨by have := (h27).1; have := ((iv_c (c := 1) (n := 1) (by decide))).1; have := ((iv_c (c := 1) (n := 1) (by decide))).2; omega, by have := (h27).2; have := ((iv_c (c := 1) (n := 1) (by decide))).1; have := ((iv_c (c := 1) (n := 1) (by decide))).2; omega⟩
            refine tw_iinc (lv' := fun x35 => [(4, .int x35), (0, .ref (base + a0)), (1, .ref (base + a1)), (2, .int a2), (3, .int a3)]) (lo := 1) (hi := 10) hx hb dX5_grow_111 hl (k := 0) rfl h15 (by decide) ⟨by decide, by decide⟩ ⟨by decide, by decide⟩ (by decide) (fun _ => rfl) (fun x35 ls e34 h33 hl => ?_)
            refine lv_goto (tgt := 3) hx hb dX5_grow_114 (by decide) ?_
            have hm36 : 10 - x35.toInt < (n_2 : Int) := by
              have := (h_a2).1; have := (h_a2).2; have := (h_a3).1; have := (h_a3).2; have := (h15).1; have := (h15).2; have := (h33).1; have := (h33).2; omega
            exact ih_2 x35 M2 R3 J4 H locs _ (iv_mono h33 (by decide) (by decide)) hm36 hS hl
          · have q37 : x29.toInt = 1 := ti_eq c30
            have h38 : iv 1 1 x29 := ⟨by have := (h27).1; have := ((iv_c (c := 1) (n := 1) (by decide))).1; omega, by have := (h27).2; have := ((iv_c (c := 1) (n := 1) (by decide))).2; omega⟩
            refine lv_aload_n hx hb dX5_grow_67 rfl (lv_at hl 1 rfl) ?_
            refine tw_getrk hx hb hW hown hK hS f_X5_9_5 hz_a0 hk_a0 (b := b7) k8 dX5_grow_68 ?_
            refine tw_geti hx hb hW hown hK hS f_X5_105_9 hz_b7 hk_b7 (lo := (-2147483648)) (hi := 2147483647) rfl dX5_grow_71 (fun x41 k40 h39 => ?_)
            refine lv_iconst (v := 1) hx hb dX5_grow_74 (by decide) ?_
            refine lv_icmp_ne (tgt := 87) hx hb dX5_grow_75 (by decide) (fun c42 => ?_) (fun c42 => ?_)
            · have q43 : ¬ x41.toInt = 1 := ti_ne c42
              refine lv_aload_n hx hb dX5_grow_87 rfl (lv_at hl 2 rfl) ?_
              refine lv_iload hx hb dX5_grow_88 (lv_at hl 0 rfl) ?_
              refine tw_iald hx hb hK hS hz_a1 hk_a1 (Or.inr (by decide)) hn_a1 (lo := (-2147483648)) (hi := 2147483647) h15 ⟨by decide, by decide⟩ rg_u20 dX5_grow_90 (fun x46 k45 h44 => ?_)
              refine lv_iconst (v := 1) hx hb dX5_grow_91 (by decide) ?_
              refine lv_iadd hx hb dX5_grow_92 ?_
              refine tw_top (fun x48 => ?_)
              have h47 := iv_any x48
              refine lv_istore (lv' := [(5, .int x48), (4, .int x1), (0, .ref (base + a0)), (1, .ref (base + a1)), (2, .int a2), (3, .int a3)]) hx hb dX5_grow_93 hl (by decide) rfl (fun ls hl => ?_)
              refine lv_aload_n hx hb dX5_grow_95 rfl (lv_at hl 3 rfl) ?_
              refine lv_iload hx hb dX5_grow_96 (lv_at hl 1 rfl) ?_
              refine lv_aload_n hx hb dX5_grow_98 rfl (lv_at hl 2 rfl) ?_
              refine tw_getrk hx hb hW hown hK hS f_X5_9_5 hz_a0 hk_a0 (b := b7) k8 dX5_grow_99 ?_
              refine tw_geti hx hb hW hown hK hS f_X5_113_9 hz_b7 hk_b7 (lo := 0) (hi := 9999) rfl dX5_grow_102 (fun x51 k50 h49 => ?_)
              refine lv_iload hx hb dX5_grow_105 (lv_at hl 0 rfl) ?_
              refine va_mmin hx hb (hml.trans hl.1.symm) hown (hW _ w_4_188 rfl) (hW _ w_3_86 rfl) (hW _ w_1_13 rfl) (hW _ w_3_87 rfl) (Nat.le_of_ble_eq_true rfl) (Nat.le_of_ble_eq_true rfl) (Nat.le_of_ble_eq_true rfl) (Nat.le_of_ble_eq_true rfl) dX5_grow_107 ?_
              refine tw_mmin (lo := (-2147483648)) (hi := 9999) h49 h47 (by decide) (fun x54 e53 h52 => ?_)
              refine tw_iast hx hb hK hS hz_a1 hk_a1 (Or.inr (by decide)) hn_a1 h15 ⟨by decide, by decide⟩ h52 (rg_s20 ⟨by decide, by decide⟩) (jl := 0) (jh := 1999999) ⟨by decide, by decide⟩ rfl dX5_grow_110 (fun H locs M57 hS k55 f56 => ?_)
              refine tw_iinc (lv' := fun x60 => [(4, .int x60), (5, .int x48), (0, .ref (base + a0)), (1, .ref (base + a1)), (2, .int a2), (3, .int a3)]) (lo := 1) (hi := 10) hx hb dX5_grow_111 hl (k := 1) rfl h15 (by decide) ⟨by decide, by decide⟩ ⟨by decide, by decide⟩ (by decide) (fun _ => rfl) (fun x60 ls e59 h58 hl => ?_)
              refine lv_goto (tgt := 3) hx hb dX5_grow_114 (by decide) ?_
              have hm61 : 10 - x60.toInt < (n_2 : Int) := by
                have := (h_a2).1; have := (h_a2).2; have := (h_a3).1; have := (h_a3).2; have := (h15).1; have := (h15).2; have := (h58).1; have := (h58).2; omega
              exact ih_2 x60 M57 R3 J4 H locs _ (iv_mono h58 (by decide) (by decide)) hm61 hS (lv_sub hl [0, 2, 3, 4, 5] rfl)
            · have q62 : x41.toInt = 1 := ti_eq c42
              have h63 : iv 1 1 x41 := ⟨by have := (h39).1; have := ((iv_c (c := 1) (n := 1) (by decide))).1; omega, by have := (h39).2; have := ((iv_c (c := 1) (n := 1) (by decide))).2; omega⟩
              refine lv_iconst (v := 2) hx hb dX5_grow_78 (by decide) ?_
              refine lv_aload_n hx hb dX5_grow_79 rfl (lv_at hl 2 rfl) ?_
              refine lv_iload hx hb dX5_grow_80 (lv_at hl 0 rfl) ?_
              refine tw_iald hx hb hK hS hz_a1 hk_a1 (Or.inr (by decide)) hn_a1 (lo := (-2147483648)) (hi := 2147483647) h15 ⟨by decide, by decide⟩ rg_u20 dX5_grow_82 (fun x66 k65 h64 => ?_)
              refine lv_imul hx hb dX5_grow_83 ?_
              refine tw_top (fun x68 => ?_)
              have h67 := iv_any x68
              refine lv_goto (tgt := 93) hx hb dX5_grow_84 (by decide) ?_
              refine lv_istore (lv' := [(5, .int x68), (4, .int x1), (0, .ref (base + a0)), (1, .ref (base + a1)), (2, .int a2), (3, .int a3)]) hx hb dX5_grow_93 hl (by decide) rfl (fun ls hl => ?_)
              refine lv_aload_n hx hb dX5_grow_95 rfl (lv_at hl 3 rfl) ?_
              refine lv_iload hx hb dX5_grow_96 (lv_at hl 1 rfl) ?_
              refine lv_aload_n hx hb dX5_grow_98 rfl (lv_at hl 2 rfl) ?_
              refine tw_getrk hx hb hW hown hK hS f_X5_9_5 hz_a0 hk_a0 (b := b7) k8 dX5_grow_99 ?_
              refine tw_geti hx hb hW hown hK hS f_X5_113_9 hz_b7 hk_b7 (lo := 0) (hi := 9999) rfl dX5_grow_102 (fun x71 k70 h69 => ?_)
              refine lv_iload hx hb dX5_grow_105 (lv_at hl 0 rfl) ?_
              refine va_mmin hx hb (hml.trans hl.1.symm) hown (hW _ w_4_188 rfl) (hW _ w_3_86 rfl) (hW _ w_1_13 rfl) (hW _ w_3_87 rfl) (Nat.le_of_ble_eq_true rfl) (Nat.le_of_ble_eq_true rfl) (Nat.le_of_ble_eq_true rfl) (Nat.le_of_ble_eq_true rfl) dX5_grow_107 ?_
              refine tw_mmin (lo := (-2147483648)) (hi := 9999) h69 h67 (by decide) (fun x74 e73 h72 => ?_)
              refine tw_iast hx hb hK hS hz_a1 hk_a1 (Or.inr (by decide)) hn_a1 h15 ⟨by decide, by decide⟩ h72 (rg_s20 ⟨by decide, by decide⟩) (jl := 0) (jh := 1999999) ⟨by decide, by decide⟩ rfl dX5_grow_110 (fun H locs M77 hS k75 f76 => ?_)
              refine tw_iinc (lv' := fun x80 => [(4, .int x80), (5, .int x68), (0, .ref (base + a0)), (1, .ref (base + a1)), (2, .int a2), (3, .int a3)]) (lo := 1) (hi := 10) hx hb dX5_grow_111 hl (k := 1) rfl h15 (by decide) ⟨by decide, by decide⟩ ⟨by decide, by decide⟩ (by decide) (fun _ => rfl) (fun x80 ls e79 h78 hl => ?_)
              refine lv_goto (tgt := 3) hx hb dX5_grow_114 (by decide) ?_
              have hm81 : 10 - x80.toInt < (n_2 : Int) := by
                have := (h_a2).1; have := (h_a2).2; have := (h_a3).1; have := (h_a3).2; have := (h15).1; have := (h15).2; have := (h78).1; have := (h78).2; omega
              exact ih_2 x80 M77 R3 J4 H locs _ (iv_mono h78 (by decide) (by decide)) hm81 hS (lv_sub hl [0, 2, 3, 4, 5] rfl)
        · have q82 : x21.toInt = 1 := ti_eq c22
          have h83 : iv 1 1 x21 := ⟨by have := (h19).1; have := ((iv_c (c := 1) (n := 1) (by decide))).1; omega, by have := (h19).2; have := ((iv_c (c := 1) (n := 1) (by decide))).2; omega⟩
          refine lv_aload_n hx hb dX5_grow_25 rfl (lv_at hl 2 rfl) ?_
          refine lv_iload hx hb dX5_grow_26 (lv_at hl 0 rfl) ?_
          refine lv_aload_n hx hb dX5_grow_28 rfl (lv_at hl 1 rfl) ?_
          refine tw_getrk hx hb hW hown hK hS f_X5_9_5 hz_a0 hk_a0 (b := b7) k8 dX5_grow_29 ?_
          refine tw_geti hx hb hW hown hK hS f_X5_105_9 hz_b7 hk_b7 (lo := (-2147483648)) (hi := 2147483647) rfl dX5_grow_32 (fun x86 k85 h84 => ?_)
          refine lv_iconst (v := 2) hx hb dX5_grow_35 (by decide) ?_
          refine lv_icmp_ne (tgt := 52) hx hb dX5_grow_36 (by decide) (fun c87 => ?_) (fun c87 => ?_)
          · have q88 : ¬ x86.toInt = 2 := ti_ne c87
            refine lv_iconst (v := 1) hx hb dX5_grow_52 (by decide) ?_
            refine tw_iast hx hb hK hS hz_a1 hk_a1 (Or.inr (by decide)) hn_a1 h15 ⟨by decide, by decide⟩ (iv_c (c := 1) (n := 1) (by decide)) (rg_s20 ⟨by decide, by decide⟩) (jl := 0) (jh := 1999999) ⟨by decide, by decide⟩ rfl dX5_grow_53 (fun H locs M91 hS k89 f90 => ?_)
            refine lv_goto (tgt := 111) hx hb dX5_grow_54 (by decide) ?_
            refine tw_iinc (lv' := fun x94 => [(4, .int x94), (0, .ref (base + a0)), (1, .ref (base + a1)), (2, .int a2), (3, .int a3)]) (lo := 1) (hi := 10) hx hb dX5_grow_111 hl (k := 0) rfl h15 (by decide) ⟨by decide, by decide⟩ ⟨by decide, by decide⟩ (by decide) (fun _ => rfl) (fun x94 ls e93 h92 hl => ?_)
            refine lv_goto (tgt := 3) hx hb dX5_grow_114 (by decide) ?_
            have hm95 : 10 - x94.toInt < (n_2 : Int) := by
              have := (h_a2).1; have := (h_a2).2; have := (h_a3).1; have := (h_a3).2; have := (h15).1; have := (h15).2; have := (h92).1; have := (h92).2; omega
            exact ih_2 x94 M91 R3 J4 H locs _ (iv_mono h92 (by decide) (by decide)) hm95 hS hl
          · have q96 : x86.toInt = 2 := ti_eq c87
            have h97 : iv 2 2 x86 := ⟨by have := (h84).1; have := ((iv_c (c := 2) (n := 2) (by decide))).1; omega, by have := (h84).2; have := ((iv_c (c := 2) (n := 2) (by decide))).2; omega⟩
            refine lv_iconst (v := 1) hx hb dX5_grow_39 (by decide) ?_
            refine lv_aload_n hx hb dX5_grow_40 rfl (lv_at hl 2 rfl) ?_
            refine lv_iload hx hb dX5_grow_41 (lv_at hl 0 rfl) ?_
            refine tw_iald hx hb hK hS hz_a1 hk_a1 (Or.inr (by decide)) hn_a1 (lo := (-2147483648)) (hi := 2147483647) h15 ⟨by decide, by decide⟩ rg_u20 dX5_grow_43 (fun x100 k99 h98 => ?_)
            refine lv_iconst (v := 2) hx hb dX5_grow_44 (by decide) ?_
            refine tw_idivw hx hb (iv_c (c := 2) (n := 2) (by decide)) (Or.inl (by decide)) dX5_grow_45 (fun x102 => ?_)
            have h101 := iv_any x102
            refine va_mmax hx hb (hml.trans hl.1.symm) hown (hW _ w_4_187 rfl) (hW _ w_4_75 rfl) (hW _ w_1_13 rfl) (hW _ w_4_76 rfl) (Nat.le_of_ble_eq_true rfl) (Nat.le_of_ble_eq_true rfl) (Nat.le_of_ble_eq_true rfl) (Nat.le_of_ble_eq_true rfl) dX5_grow_46 ?_
            refine tw_mmax (lo := 1) (hi := 2147483647) (iv_c (c := 1) (n := 1) (by decide)) h101 (by decide) (fun x105 e104 h103 => ?_)
            refine lv_goto (tgt := 53) hx hb dX5_grow_49 (by decide) ?_
            refine tw_iast hx hb hK hS hz_a1 hk_a1 (Or.inr (by decide)) hn_a1 h15 ⟨by decide, by decide⟩ h103 (rg_s20 ⟨by decide, by decide⟩) (jl := 0) (jh := 1999999) ⟨by decide, by decide⟩ rfl dX5_grow_53 (fun H locs M108 hS k106 f107 => ?_)
            refine lv_goto (tgt := 111) hx hb dX5_grow_54 (by decide) ?_
            refine tw_iinc (lv' := fun x111 => [(4, .int x111), (0, .ref (base + a0)), (1, .ref (base + a1)), (2, .int a2), (3, .int a3)]) (lo := 1) (hi := 10) hx hb dX5_grow_111 hl (k := 0) rfl h15 (by decide) ⟨by decide, by decide⟩ ⟨by decide, by decide⟩ (by decide) (fun _ => rfl) (fun x111 ls e110 h109 hl => ?_)
            refine lv_goto (tgt := 3) hx hb dX5_grow_114 (by decide) ?_
            have hm112 : 10 - x111.toInt < (n_2 : Int) := by
              have := (h_a2).1; have := (h_a2).2; have := (h_a3).1; have := (h_a3).2; have := (h15).1; have := (h15).2; have := (h109).1; have := (h109).2; omega
            exact ih_2 x111 M108 R3 J4 H locs _ (iv_mono h109 (by decide) (by decide)) hm112 hS hl
  have hm113 : 10 - (0 : Int32).toInt < (((11 : Nat) : Int) : Int) := by
    have := (h_a2).1; have := (h_a2).2; have := (h_a3).1; have := (h_a3).2; have : (0 : Int32).toInt = 0 := (by decide); omega
  exact W3_2 11 0 Ma Ra Ja s.heap [] _ (iv_mono (iv_c (c := 0) (n := 0) (by decide)) (by decide) (by decide)) hm113 hS hl
def Lt_X5_lead : WL := []
def LRt_X5_lead : WL := []
set_option maxRecDepth 100000 in
set_option maxHeartbeats 4000000 in
theorem t_X5_lead (l : Launch) (D : va_G) (cy : Nat → ClassId) (tx : (Nat → Nat) × (Nat → Nat)) (base Z : Nat) (K N : Nat → Nat) (Ma : MT) (Ra : RT) (Ja : JT) (hTy : Ty Z K N Ma Ra) (a0 : Nat) (hz_a0 : a0 < Z) (hk_a0 : K a0 = 6) (a1 : Nat) (hz_a1 : a1 < Z) (hk_a1 : K a1 = 20) (hn_a1 : N a1 = 10) (a2 : Int32) (h_a2 : iv (-2147483648) 2147483647 a2) (a3 : Int32) (h_a3 : iv (-2147483648) 2147483647 a3) : Met l yX5_lead [Cond.code yX5_lead cX5_lead 6 (some .int)] (md_rm 1 0 0) (va_Pc [.ref (base + a0), .ref (base + a1), .int a2, .int a3] (md_U D cy tx base Z K N Ma Ra Ja)) (mQi D cy tx base (fun r u => TP Z K N Lt_X5_lead LRt_X5_lead Ma Ra u ∧ (iv (-2147483648) 2147483647 r))) 0 0 (fun q => base ≤ q) := by
  refine tw_ofW (L := Lt_X5_lead) (LR := LRt_X5_lead) (by decide) (Nat.le_of_ble_eq_true rfl) hTy ?_
  intro p e s m args below meth c Q ls hx hb hr hlocks hown hml hW hK hT hS hQ hl
  have hl : lv_has ls 6 [(0, .ref (base + a0)), (1, .ref (base + a1)), (2, .int a2), (3, .int a3)] := hl
  refine lv_iconst (v := 0) hx hb dX5_lead_0 (by decide) ?_
  refine lv_istore (lv' := [(4, .int 0), (0, .ref (base + a0)), (1, .ref (base + a1)), (2, .int a2), (3, .int a3)]) hx hb dX5_lead_1 hl (by decide) rfl (fun ls hl => ?_)
  refine lv_iconst (v := 0) hx hb dX5_lead_3 (by decide) ?_
  refine lv_istore (lv' := [(5, .int 0), (4, .int 0), (0, .ref (base + a0)), (1, .ref (base + a1)), (2, .int a2), (3, .int a3)]) hx hb dX5_lead_4 hl (by decide) rfl (fun ls hl => ?_)
  have W6_3 : ∀ (n_3 : Nat) (x1 : Int32) (x2 : Int32) (M3 : MT) (R4 : RT) (J5 : JT) (H : Heap) (locs : List Loc) (ls : Array Slot) (h_x1 : iv (-2147483648) 2147483647 x1) (h_x2 : iv 0 10 x2) (hm_3 : 10 - x2.toInt < (n_3 : Int)) (hS : SB D cy base Z K N Lt_X5_lead LRt_X5_lead Ma Ra M3 R4 J5 s H locs) (hl : lv_has ls 6 [(4, .int x1), (5, .int x2), (0, .ref (base + a0)), (1, .ref (base + a1)), (2, .int a2), (3, .int a3)]), W p l e (md_rm 1 0 0) s m args below meth c H locs 0 0 Q (F0 m 6 ls []) := by
    intro n_3
    induction n_3 with
    | zero =>
      intro x1 x2 M3 R4 J5 H locs ls h_x1 h_x2 hm_3 hS hl
      exfalso
      have := (h_a2).1; have := (h_a2).2; have := (h_a3).1; have := (h_a3).2; have := (h_x2).1; have := (h_x2).2; omega
    | succ n_3 ih_3 =>
      intro x1 x2 M3 R4 J5 H locs ls h_x1 h_x2 hm_3 hS hl
      have f6 := hS.2.2.1
      have g7 := hS.2.2.2
      refine lv_iload hx hb dX5_lead_6 (lv_at hl 1 rfl) ?_
      refine lv_aload_n hx hb dX5_lead_8 rfl (lv_at hl 2 rfl) ?_
      refine tw_getr hx hb hW hown hK hS f_X5_9_5 hz_a0 hk_a0 (t := 10) (n := 0) rfl dX5_lead_9 (fun b8 k9 hz_b8 hk_b8 hn_b8 => ?_)
      refine tw_geti hx hb hW hown hK hS f_X5_53_9 hz_b8 hk_b8 (lo := (-2147483648)) (hi := 10) rfl dX5_lead_12 (fun x12 k11 h10 => ?_)
      refine lv_icmp_ge (tgt := 65) hx hb dX5_lead_15 (by decide) (fun c13 => ?_) (fun c13 => ?_)
      · have q14 : x12.toInt ≤ x2.toInt := ti_le c13
        refine lv_iload hx hb dX5_lead_65 (lv_at hl 0 rfl) ?_
        exact tw_endi hx hb hr hlocks hK hT hS hQ (h_x1) dX5_lead_67
      · have q15 : x2.toInt < x12.toInt := ti_nle c13
        have h16 : iv 0 9 x2 := iv_ltL (y := x12) h_x2 h10 q15 (by decide)
        have h17 : iv 1 10 x12 := iv_gtL (y := x2) h10 h_x2 q15 (by decide)
        refine lv_iload_n hx hb dX5_lead_18 rfl (lv_at hl 4 rfl) ?_
        refine lv_iload hx hb dX5_lead_19 (lv_at hl 1 rfl) ?_
        refine lv_ishr hx hb dX5_lead_21 ?_
        refine tw_top (fun x19 => ?_)
        have h18 := iv_any x19
        refine lv_iconst (v := 1) hx hb dX5_lead_22 (by decide) ?_
        refine tw_iand (hi := 1) hx hb (iv_mono (iv_c (c := 1) (n := 1) (by decide)) (lo := 0) (hi := 1) (by decide) (by decide)) (by decide) dX5_lead_23 (fun x22 h20 => ?_)
        refine lv_iconst (v := 1) hx hb dX5_lead_24 (by decide) ?_
        refine lv_icmp_ne (tgt := 40) hx hb dX5_lead_25 (by decide) (fun c23 => ?_) (fun c23 => ?_)
        · have q24 : ¬ x22.toInt = 1 := ti_ne c23
          have h25 : iv 0 0 x22 := ⟨by have := (h20).1; have := ((iv_c (c := 1) (n := 1) (by decide))).1; have := ((iv_c (c := 1) (n := 1) (by decide))).2; omega, by have := (h20).2; have := ((iv_c (c := 1) (n := 1) (by decide))).1; have := ((iv_c (c := 1) (n := 1) (by decide))).2; omega⟩
          refine lv_iload_n hx hb dX5_lead_40 rfl (lv_at hl 5 rfl) ?_
          refine lv_iload hx hb dX5_lead_41 (lv_at hl 1 rfl) ?_
          refine lv_ishr hx hb dX5_lead_43 ?_
          refine tw_top (fun x27 => ?_)
          have h26 := iv_any x27
          refine lv_iconst (v := 1) hx hb dX5_lead_44 (by decide) ?_
          refine tw_iand (hi := 1) hx hb (iv_mono (iv_c (c := 1) (n := 1) (by decide)) (lo := 0) (hi := 1) (by decide) (by decide)) (by decide) dX5_lead_45 (fun x30 h28 => ?_)
          refine lv_iconst (v := 1) hx hb dX5_lead_46 (by decide) ?_
          refine lv_icmp_ne (tgt := 59) hx hb dX5_lead_47 (by decide) (fun c31 => ?_) (fun c31 => ?_)
          · have q32 : ¬ x30.toInt = 1 := ti_ne c31
            have h33 : iv 0 0 x30 := ⟨by have := (h28).1; have := ((iv_c (c := 1) (n := 1) (by decide))).1; have := ((iv_c (c := 1) (n := 1) (by decide))).2; omega, by have := (h28).2; have := ((iv_c (c := 1) (n := 1) (by decide))).1; have := ((iv_c (c := 1) (n := 1) (by decide))).2; omega⟩
            refine tw_iinc (lv' := fun x36 => [(5, .int x36), (4, .int x1), (0, .ref (base + a0)), (1, .ref (base + a1)), (2, .int a2), (3, .int a3)]) (lo := 1) (hi := 10) hx hb dX5_lead_59 hl (k := 1) rfl h16 (by decide) ⟨by decide, by decide⟩ ⟨by decide, by decide⟩ (by decide) (fun _ => rfl) (fun x36 ls e35 h34 hl => ?_)
            refine lv_goto (tgt := 6) hx hb dX5_lead_62 (by decide) ?_
            have hm37 : 10 - x36.toInt < (n_3 : Int) := by
              have := (h_a2).1; have := (h_a2).2; have := (h_a3).1; have := (h_a3).2; have := (h16).1; have := (h16).2; have := (h34).1; have := (h34).2; omega
            exact ih_3 x1 x36 M3 R4 J5 H locs _ h_x1 (iv_mono h34 (by decide) (by decide)) hm37 hS (lv_sub hl [1, 0, 2, 3, 4, 5] rfl)
          · have q38 : x30.toInt = 1 := ti_eq c31
            have h39 : iv 1 1 x30 := ⟨by have := (h28).1; have := ((iv_c (c := 1) (n := 1) (by decide))).1; omega, by have := (h28).2; have := ((iv_c (c := 1) (n := 1) (by decide))).2; omega⟩
            refine lv_iload hx hb dX5_lead_50 (lv_at hl 0 rfl) ?_
            refine lv_aload_n hx hb dX5_lead_52 rfl (lv_at hl 3 rfl) ?_
            refine lv_iload hx hb dX5_lead_53 (lv_at hl 1 rfl) ?_
            refine tw_iald hx hb hK hS hz_a1 hk_a1 (Or.inr (by decide)) hn_a1 (lo := (-2147483648)) (hi := 2147483647) h16 ⟨by decide, by decide⟩ rg_u20 dX5_lead_55 (fun x42 k41 h40 => ?_)
            refine lv_isub hx hb dX5_lead_56 ?_
            refine tw_top (fun x44 => ?_)
            have h43 := iv_any x44
            refine lv_istore (lv' := [(4, .int x44), (5, .int x2), (0, .ref (base + a0)), (1, .ref (base + a1)), (2, .int a2), (3, .int a3)]) hx hb dX5_lead_57 hl (by decide) rfl (fun ls hl => ?_)
            refine tw_iinc (lv' := fun x47 => [(5, .int x47), (4, .int x44), (0, .ref (base + a0)), (1, .ref (base + a1)), (2, .int a2), (3, .int a3)]) (lo := 1) (hi := 10) hx hb dX5_lead_59 hl (k := 1) rfl h16 (by decide) ⟨by decide, by decide⟩ ⟨by decide, by decide⟩ (by decide) (fun _ => rfl) (fun x47 ls e46 h45 hl => ?_)
            refine lv_goto (tgt := 6) hx hb dX5_lead_62 (by decide) ?_
            have hm48 : 10 - x47.toInt < (n_3 : Int) := by
              have := (h_a2).1; have := (h_a2).2; have := (h_a3).1; have := (h_a3).2; have := (h16).1; have := (h16).2; have := (h45).1; have := (h45).2; omega
            exact ih_3 x44 x47 M3 R4 J5 H locs _ h43 (iv_mono h45 (by decide) (by decide)) hm48 hS (lv_sub hl [1, 0, 2, 3, 4, 5] rfl)
        · have q49 : x22.toInt = 1 := ti_eq c23
          have h50 : iv 1 1 x22 := ⟨by have := (h20).1; have := ((iv_c (c := 1) (n := 1) (by decide))).1; omega, by have := (h20).2; have := ((iv_c (c := 1) (n := 1) (by decide))).2; omega⟩
          refine lv_iload hx hb dX5_lead_28 (lv_at hl 0 rfl) ?_
          refine lv_aload_n hx hb dX5_lead_30 rfl (lv_at hl 3 rfl) ?_
          refine lv_iload hx hb dX5_lead_31 (lv_at hl 1 rfl) ?_
          refine tw_iald hx hb hK hS hz_a1 hk_a1 (Or.inr (by decide)) hn_a1 (lo := (-2147483648)) (hi := 2147483647) h16 ⟨by decide, by decide⟩ rg_u20 dX5_lead_33 (fun x53 k52 h51 => ?_)
          refine lv_iadd hx hb dX5_lead_34 ?_
          refine tw_top (fun x55 => ?_)
          have h54 := iv_any x55
          refine lv_istore (lv' := [(4, .int x55), (5, .int x2), (0, .ref (base + a0)), (1, .ref (base + a1)), (2, .int a2), (3, .int a3)]) hx hb dX5_lead_35 hl (by decide) rfl (fun ls hl => ?_)
          refine lv_goto (tgt := 59) hx hb dX5_lead_37 (by decide) ?_
          refine tw_iinc (lv' := fun x58 => [(5, .int x58), (4, .int x55), (0, .ref (base + a0)), (1, .ref (base + a1)), (2, .int a2), (3, .int a3)]) (lo := 1) (hi := 10) hx hb dX5_lead_59 hl (k := 1) rfl h16 (by decide) ⟨by decide, by decide⟩ ⟨by decide, by decide⟩ (by decide) (fun _ => rfl) (fun x58 ls e57 h56 hl => ?_)
          refine lv_goto (tgt := 6) hx hb dX5_lead_62 (by decide) ?_
          have hm59 : 10 - x58.toInt < (n_3 : Int) := by
            have := (h_a2).1; have := (h_a2).2; have := (h_a3).1; have := (h_a3).2; have := (h16).1; have := (h16).2; have := (h56).1; have := (h56).2; omega
          exact ih_3 x55 x58 M3 R4 J5 H locs _ h54 (iv_mono h56 (by decide) (by decide)) hm59 hS (lv_sub hl [1, 0, 2, 3, 4, 5] rfl)
  have hm60 : 10 - (0 : Int32).toInt < (((11 : Nat) : Int) : Int) := by
    have := (h_a2).1; have := (h_a2).2; have := (h_a3).1; have := (h_a3).2; have : (0 : Int32).toInt = 0 := (by decide); omega
  exact W6_3 11 0 0 Ma Ra Ja s.heap [] _ (iv_mono (iv_c (c := 0) (n := 0) (by decide)) (by decide) (by decide)) (iv_mono (iv_c (c := 0) (n := 0) (by decide)) (by decide) (by decide)) hm60 hS (lv_sub hl [1, 0, 2, 3, 4, 5] rfl)
def Lt_X5_hold : WL := [(6, 14, 15), (20, 0, 2000000)]
def LRt_X5_hold : WL := []
set_option maxRecDepth 100000 in
set_option maxHeartbeats 4000000 in
theorem t_X5_hold (l : Launch) (D : va_G) (cy : Nat → ClassId) (tx : (Nat → Nat) × (Nat → Nat)) (base Z : Nat) (K N : Nat → Nat) (Ma : MT) (Ra : RT) (Ja : JT) (hTy : Ty Z K N Ma Ra) (a0 : Nat) (hz_a0 : a0 < Z) (hk_a0 : K a0 = 6) (a1 : Nat) (hz_a1 : a1 < Z) (hk_a1 : K a1 = 20) (hn_a1 : N a1 = 10) (a2 : Int32) (h_a2 : iv (-2147483648) 2147483647 a2) (a3 : Int32) (h_a3 : iv (-2147483648) 2147483647 a3) : Met l yX5_hold [Cond.code yX5_hold cX5_hold 5 (some .int)] (md_rm 2 0 0) (va_Pc [.ref (base + a0), .ref (base + a1), .int a2, .int a3] (md_U D cy tx base Z K N Ma Ra Ja)) (mQi D cy tx base (fun r u => TP Z K N Lt_X5_hold LRt_X5_hold Ma Ra u ∧ (iv 0 2 r))) 0 0 (fun q => base ≤ q) := by
  refine tw_ofW (L := Lt_X5_hold) (LR := LRt_X5_hold) (by decide) (Nat.le_of_ble_eq_true rfl) hTy ?_
  intro p e s m args below meth c Q ls hx hb hr hlocks hown hml hW hK hT hS hQ hl
  have hl : lv_has ls 5 [(0, .ref (base + a0)), (1, .ref (base + a1)), (2, .int a2), (3, .int a3)] := hl
  refine lv_aload_n hx hb dX5_hold_0 rfl (lv_at hl 0 rfl) ?_
  refine lv_aload_n hx hb dX5_hold_1 rfl (lv_at hl 1 rfl) ?_
  refine lv_iload_n hx hb dX5_hold_2 rfl (lv_at hl 2 rfl) ?_
  refine lv_iload_n hx hb dX5_hold_3 rfl (lv_at hl 3 rfl) ?_
  refine tw_goi hS (md_runV (As := [.ref (base + a1), .int a2, .int a3]) (rest := []) hx hb hml hown hW hK hT hS.1 (t_X5_lead l D cy tx base Z K N Ma Ra Ja hS.2.1 a0 hz_a0 hk_a0 a1 hz_a1 hk_a1 hn_a1 a2 h_a2 a3 h_a3) s_X5_94 ⟨rfl, rfl, ⟨Nat.le_of_ble_eq_true rfl, Nat.le_of_ble_eq_true rfl⟩, ⟨Nat.le_of_ble_eq_true rfl, Nat.le_of_ble_eq_true rfl⟩⟩ hz_a0 hk_a0 (by decide) rfl rfl hl.1 rfl (Nat.le_of_ble_eq_true rfl) dX5_hold_4) rfl rfl (fun x7 H locs M4 R5 J3 hS f1 g2 E6 => ?_)
  have eM4 := Fr.nil f1 rfl
  subst eM4
  have eR5 := Fr.nil g2 rfl
  subst eR5
  have h_x7 := E6
  clear E6
  refine lv_istore (lv' := [(4, .int x7), (0, .ref (base + a0)), (1, .ref (base + a1)), (2, .int a2), (3, .int a3)]) hx hb dX5_hold_7 hl (by decide) rfl (fun ls hl => ?_)
  refine lv_aload_n hx hb dX5_hold_9 rfl (lv_at hl 1 rfl) ?_
  refine lv_iload hx hb dX5_hold_10 (lv_at hl 0 rfl) ?_
  refine lv_if_le (tgt := 19) hx hb dX5_hold_12 (by decide) (fun c8 => ?_) (fun c8 => ?_)
  · have q9 : x7.toInt ≤ 0 := ti_le c8
    have h10 : iv (-2147483648) 0 x7 := iv_leL (y := 0) h_x7 (iv_c (c := 0) (n := 0) (by decide)) q9 (by decide)
    refine lv_iload hx hb dX5_hold_19 (lv_at hl 0 rfl) ?_
    refine lv_if_ge (tgt := 28) hx hb dX5_hold_21 (by decide) (fun c11 => ?_) (fun c11 => ?_)
    · have q12 : 0 ≤ x7.toInt := ti_le c11
      have h13 : iv 0 0 x7 := iv_geL (y := 0) h10 (iv_c (c := 0) (n := 0) (by decide)) q12 (by decide)
      refine lv_iconst (v := 0) hx hb dX5_hold_28 (by decide) ?_
      refine tw_puti hx hb hW hown hK hS f_X5_98_5 hz_a0 hk_a0 rfl rfl (lo := (-2147483648)) (hi := 2147483647) rfl (iv_mono (iv_c (c := 0) (n := 0) (by decide)) (by decide) (by decide)) rfl dX5_hold_29 (fun H locs M16 hS k14 f15 => ?_)
      refine lv_aload_n hx hb dX5_hold_32 rfl (lv_at hl 1 rfl) ?_
      refine lv_aload_n hx hb dX5_hold_33 rfl (lv_at hl 2 rfl) ?_
      refine lv_aload_n hx hb dX5_hold_34 rfl (lv_at hl 1 rfl) ?_
      refine tw_getk hx hb hW hown hK hS f_X5_98_5 hz_a0 hk_a0 (v := 0) k14 dX5_hold_35 ?_
      refine lv_iload_n hx hb dX5_hold_38 rfl (lv_at hl 3 rfl) ?_
      refine lv_iload_n hx hb dX5_hold_39 rfl (lv_at hl 4 rfl) ?_
      refine lv_ior hx hb dX5_hold_40 ?_
      refine tw_top (fun x18 => ?_)
      have h17 := iv_any x18
      refine lv_aload_n hx hb dX5_hold_41 rfl (lv_at hl 1 rfl) ?_
      refine tw_getk hx hb hW hown hK hS f_X5_98_5 hz_a0 hk_a0 (v := 0) k14 dX5_hold_42 ?_
      refine lv_iconst (v := (-1)) hx hb dX5_hold_45 (by decide) ?_
      refine lv_ixor hx hb dX5_hold_46 ?_
      refine md_top (y := (-1)) (by decide) ?_
      refine lv_iand hx hb dX5_hold_47 ?_
      refine tw_top (fun x20 => ?_)
      have h19 := iv_any x20
      refine tw_gov hS (md_runV (As := [.ref (base + a1), .int 0, .int x20]) (rest := []) hx hb hml hown hW hK hT hS.1 (t_X5_grow l D cy tx base Z K N M16 Ra J3 hS.2.1 a0 hz_a0 hk_a0 a1 hz_a1 hk_a1 hn_a1 0 (iv_mono (iv_c (c := 0) (n := 0) (by decide)) (by decide) (by decide)) x20 h19) s_X5_101 ⟨rfl, rfl, ⟨Nat.le_of_ble_eq_true rfl, Nat.le_of_ble_eq_true rfl⟩, ⟨Nat.le_of_ble_eq_true rfl, Nat.le_of_ble_eq_true rfl⟩⟩ hz_a0 hk_a0 (by decide) rfl rfl hl.1 rfl (Nat.le_of_ble_eq_true rfl) dX5_hold_48) rfl rfl (fun H locs M24 R25 J23 hS f21 g22 E26 => ?_)
      have eR25 := Fr.nil g22 rfl
      subst eR25
      refine lv_iload hx hb dX5_hold_51 (lv_at hl 0 rfl) ?_
      refine lv_if_le (tgt := 60) hx hb dX5_hold_53 (by decide) (fun c27 => ?_) (fun c27 => False.elim (by have q : 0 < x7.toInt := ti_nle c27; have := (h13).1; have := (h13).2; omega))
      have q28 : x7.toInt ≤ 0 := ti_le c27
      refine lv_iload hx hb dX5_hold_60 (lv_at hl 0 rfl) ?_
      refine lv_if_ge (tgt := 69) hx hb dX5_hold_62 (by decide) (fun c29 => ?_) (fun c29 => False.elim (by have q : x7.toInt < 0 := ti_nle c29; have := (h13).1; have := (h13).2; omega))
      have q30 : 0 ≤ x7.toInt := ti_le c29
      refine lv_iconst (v := 2) hx hb dX5_hold_69 (by decide) ?_
      exact tw_endi hx hb hr hlocks hK hT hS hQ ((iv_mono (iv_c (c := 2) (n := 2) (by decide)) (by decide) (by decide))) dX5_hold_70
    · have q31 : x7.toInt < 0 := ti_nle c11
      have h32 : iv (-2147483648) (-1) x7 := iv_ltL (y := 0) h10 (iv_c (c := 0) (n := 0) (by decide)) q31 (by decide)
      refine lv_iload_n hx hb dX5_hold_24 rfl (lv_at hl 4 rfl) ?_
      refine lv_goto (tgt := 29) hx hb dX5_hold_25 (by decide) ?_
      refine tw_puti hx hb hW hown hK hS f_X5_98_5 hz_a0 hk_a0 rfl rfl (lo := (-2147483648)) (hi := 2147483647) rfl h_a3 rfl dX5_hold_29 (fun H locs M35 hS k33 f34 => ?_)
      refine lv_aload_n hx hb dX5_hold_32 rfl (lv_at hl 1 rfl) ?_
      refine lv_aload_n hx hb dX5_hold_33 rfl (lv_at hl 2 rfl) ?_
      refine lv_aload_n hx hb dX5_hold_34 rfl (lv_at hl 1 rfl) ?_
      refine tw_getk hx hb hW hown hK hS f_X5_98_5 hz_a0 hk_a0 (v := a3) k33 dX5_hold_35 ?_
      refine lv_iload_n hx hb dX5_hold_38 rfl (lv_at hl 3 rfl) ?_
      refine lv_iload_n hx hb dX5_hold_39 rfl (lv_at hl 4 rfl) ?_
      refine lv_ior hx hb dX5_hold_40 ?_
      refine tw_top (fun x37 => ?_)
      have h36 := iv_any x37
      refine lv_aload_n hx hb dX5_hold_41 rfl (lv_at hl 1 rfl) ?_
      refine tw_getk hx hb hW hown hK hS f_X5_98_5 hz_a0 hk_a0 (v := a3) k33 dX5_hold_42 ?_
      refine lv_iconst (v := (-1)) hx hb dX5_hold_45 (by decide) ?_
      refine lv_ixor hx hb dX5_hold_46 ?_
      refine tw_top (fun x39 => ?_)
      have h38 := iv_any x39
      refine lv_iand hx hb dX5_hold_47 ?_
      refine tw_top (fun x41 => ?_)
      have h40 := iv_any x41
      refine tw_gov hS (md_runV (As := [.ref (base + a1), .int a3, .int x41]) (rest := []) hx hb hml hown hW hK hT hS.1 (t_X5_grow l D cy tx base Z K N M35 Ra J3 hS.2.1 a0 hz_a0 hk_a0 a1 hz_a1 hk_a1 hn_a1 a3 h_a3 x41 h40) s_X5_101 ⟨rfl, rfl, ⟨Nat.le_of_ble_eq_true rfl, Nat.le_of_ble_eq_true rfl⟩, ⟨Nat.le_of_ble_eq_true rfl, Nat.le_of_ble_eq_true rfl⟩⟩ hz_a0 hk_a0 (by decide) rfl rfl hl.1 rfl (Nat.le_of_ble_eq_true rfl) dX5_hold_48) rfl rfl (fun H locs M45 R46 J44 hS f42 g43 E47 => ?_)
      have eR46 := Fr.nil g43 rfl
      subst eR46
      refine lv_iload hx hb dX5_hold_51 (lv_at hl 0 rfl) ?_
      refine lv_if_le (tgt := 60) hx hb dX5_hold_53 (by decide) (fun c48 => ?_) (fun c48 => False.elim (by have q : 0 < x7.toInt := ti_nle c48; have := (h32).1; have := (h32).2; omega))
      have q49 : x7.toInt ≤ 0 := ti_le c48
      refine lv_iload hx hb dX5_hold_60 (lv_at hl 0 rfl) ?_
      refine lv_if_ge (tgt := 69) hx hb dX5_hold_62 (by decide) (fun c50 => False.elim (by have q : 0 ≤ x7.toInt := ti_le c50; have := (h32).1; have := (h32).2; omega)) (fun c50 => ?_)
      have q51 : x7.toInt < 0 := ti_nle c50
      refine lv_iconst (v := 0) hx hb dX5_hold_65 (by decide) ?_
      refine lv_goto (tgt := 70) hx hb dX5_hold_66 (by decide) ?_
      exact tw_endi hx hb hr hlocks hK hT hS hQ ((iv_mono (iv_c (c := 0) (n := 0) (by decide)) (by decide) (by decide))) dX5_hold_70
  · have q52 : 0 < x7.toInt := ti_nle c8
    have h53 : iv 1 2147483647 x7 := iv_gtL (y := 0) h_x7 (iv_c (c := 0) (n := 0) (by decide)) q52 (by decide)
    refine lv_iload_n hx hb dX5_hold_15 rfl (lv_at hl 3 rfl) ?_
    refine lv_goto (tgt := 29) hx hb dX5_hold_16 (by decide) ?_
    refine tw_puti hx hb hW hown hK hS f_X5_98_5 hz_a0 hk_a0 rfl rfl (lo := (-2147483648)) (hi := 2147483647) rfl h_a2 rfl dX5_hold_29 (fun H locs M56 hS k54 f55 => ?_)
    refine lv_aload_n hx hb dX5_hold_32 rfl (lv_at hl 1 rfl) ?_
    refine lv_aload_n hx hb dX5_hold_33 rfl (lv_at hl 2 rfl) ?_
    refine lv_aload_n hx hb dX5_hold_34 rfl (lv_at hl 1 rfl) ?_
    refine tw_getk hx hb hW hown hK hS f_X5_98_5 hz_a0 hk_a0 (v := a2) k54 dX5_hold_35 ?_
    refine lv_iload_n hx hb dX5_hold_38 rfl (lv_at hl 3 rfl) ?_
    refine lv_iload_n hx hb dX5_hold_39 rfl (lv_at hl 4 rfl) ?_
    refine lv_ior hx hb dX5_hold_40 ?_
    refine tw_top (fun x58 => ?_)
    have h57 := iv_any x58
    refine lv_aload_n hx hb dX5_hold_41 rfl (lv_at hl 1 rfl) ?_
    refine tw_getk hx hb hW hown hK hS f_X5_98_5 hz_a0 hk_a0 (v := a2) k54 dX5_hold_42 ?_
    refine lv_iconst (v := (-1)) hx hb dX5_hold_45 (by decide) ?_
    refine lv_ixor hx hb dX5_hold_46 ?_
    refine tw_top (fun x60 => ?_)
    have h59 := iv_any x60
    refine lv_iand hx hb dX5_hold_47 ?_
    refine tw_top (fun x62 => ?_)
    have h61 := iv_any x62
    refine tw_gov hS (md_runV (As := [.ref (base + a1), .int a2, .int x62]) (rest := []) hx hb hml hown hW hK hT hS.1 (t_X5_grow l D cy tx base Z K N M56 Ra J3 hS.2.1 a0 hz_a0 hk_a0 a1 hz_a1 hk_a1 hn_a1 a2 h_a2 x62 h61) s_X5_101 ⟨rfl, rfl, ⟨Nat.le_of_ble_eq_true rfl, Nat.le_of_ble_eq_true rfl⟩, ⟨Nat.le_of_ble_eq_true rfl, Nat.le_of_ble_eq_true rfl⟩⟩ hz_a0 hk_a0 (by decide) rfl rfl hl.1 rfl (Nat.le_of_ble_eq_true rfl) dX5_hold_48) rfl rfl (fun H locs M66 R67 J65 hS f63 g64 E68 => ?_)
    have eR67 := Fr.nil g64 rfl
    subst eR67
    refine lv_iload hx hb dX5_hold_51 (lv_at hl 0 rfl) ?_
    refine lv_if_le (tgt := 60) hx hb dX5_hold_53 (by decide) (fun c69 => False.elim (by have q : x7.toInt ≤ 0 := ti_le c69; have := (h53).1; have := (h53).2; omega)) (fun c69 => ?_)
    have q70 : 0 < x7.toInt := ti_nle c69
    refine lv_iconst (v := 1) hx hb dX5_hold_56 (by decide) ?_
    refine lv_goto (tgt := 70) hx hb dX5_hold_57 (by decide) ?_
    exact tw_endi hx hb hr hlocks hK hT hS hQ ((iv_mono (iv_c (c := 1) (n := 1) (by decide)) (by decide) (by decide))) dX5_hold_70
def Lt_X9_sumOf : WL := []
def LRt_X9_sumOf : WL := []
set_option maxRecDepth 100000 in
set_option maxHeartbeats 4000000 in
theorem t_X9_sumOf (l : Launch) (D : va_G) (cy : Nat → ClassId) (tx : (Nat → Nat) × (Nat → Nat)) (base Z : Nat) (K N : Nat → Nat) (Ma : MT) (Ra : RT) (Ja : JT) (hTy : Ty Z K N Ma Ra) (a0 : Nat) (hz_a0 : a0 < Z) (hk_a0 : K a0 = 10) (a1 : Nat) (hz_a1 : a1 < Z) (hk_a1 : K a1 = 20) (hn_a1 : N a1 = 10) (a2 : Int32) (h_a2 : iv (-2147483648) 2147483647 a2) : Met l yX9_sumOf [Cond.code yX9_sumOf cX9_sumOf 5 (some .int)] (md_rm 1 0 0) (va_Pc [.ref (base + a0), .ref (base + a1), .int a2] (md_U D cy tx base Z K N Ma Ra Ja)) (mQi D cy tx base (fun r u => TP Z K N Lt_X9_sumOf LRt_X9_sumOf Ma Ra u ∧ (iv (-2147483648) 2147483647 r))) 0 0 (fun q => base ≤ q) := by
  refine tw_ofW (L := Lt_X9_sumOf) (LR := LRt_X9_sumOf) (by decide) (Nat.le_of_ble_eq_true rfl) hTy ?_
  intro p e s m args below meth c Q ls hx hb hr hlocks hown hml hW hK hT hS hQ hl
  have hl : lv_has ls 5 [(0, .ref (base + a0)), (1, .ref (base + a1)), (2, .int a2)] := hl
  refine lv_iconst (v := 0) hx hb dX9_sumOf_0 (by decide) ?_
  refine lv_istore_n (lv' := [(3, .int 0), (0, .ref (base + a0)), (1, .ref (base + a1)), (2, .int a2)]) hx hb dX9_sumOf_1 rfl hl (by decide) rfl (fun ls hl => ?_)
  refine lv_iconst (v := 0) hx hb dX9_sumOf_2 (by decide) ?_
  refine lv_istore (lv' := [(4, .int 0), (3, .int 0), (0, .ref (base + a0)), (1, .ref (base + a1)), (2, .int a2)]) hx hb dX9_sumOf_3 hl (by decide) rfl (fun ls hl => ?_)
  have W5_3 : ∀ (n_3 : Nat) (x1 : Int32) (x2 : Int32) (M3 : MT) (R4 : RT) (J5 : JT) (H : Heap) (locs : List Loc) (ls : Array Slot) (h_x1 : iv (-2147483648) 2147483647 x1) (h_x2 : iv 0 10 x2) (hm_3 : 10 - x2.toInt < (n_3 : Int)) (hS : SB D cy base Z K N Lt_X9_sumOf LRt_X9_sumOf Ma Ra M3 R4 J5 s H locs) (hl : lv_has ls 5 [(3, .int x1), (4, .int x2), (0, .ref (base + a0)), (1, .ref (base + a1)), (2, .int a2)]), W p l e (md_rm 1 0 0) s m args below meth c H locs 0 0 Q (F0 m 5 ls []) := by
    intro n_3
    induction n_3 with
    | zero =>
      intro x1 x2 M3 R4 J5 H locs ls h_x1 h_x2 hm_3 hS hl
      exfalso
      have := (h_a2).1; have := (h_a2).2; have := (h_x2).1; have := (h_x2).2; omega
    | succ n_3 ih_3 =>
      intro x1 x2 M3 R4 J5 H locs ls h_x1 h_x2 hm_3 hS hl
      have f6 := hS.2.2.1
      have g7 := hS.2.2.2
      refine lv_iload hx hb dX9_sumOf_5 (lv_at hl 1 rfl) ?_
      refine lv_aload_n hx hb dX9_sumOf_7 rfl (lv_at hl 2 rfl) ?_
      refine tw_geti hx hb hW hown hK hS f_X9_33_9 hz_a0 hk_a0 (lo := (-2147483648)) (hi := 10) rfl dX9_sumOf_8 (fun x10 k9 h8 => ?_)
      refine lv_icmp_ge (tgt := 37) hx hb dX9_sumOf_11 (by decide) (fun c11 => ?_) (fun c11 => ?_)
      · have q12 : x10.toInt ≤ x2.toInt := ti_le c11
        refine lv_iload_n hx hb dX9_sumOf_37 rfl (lv_at hl 0 rfl) ?_
        exact tw_endi hx hb hr hlocks hK hT hS hQ (h_x1) dX9_sumOf_38
      · have q13 : x2.toInt < x10.toInt := ti_nle c11
        have h14 : iv 0 9 x2 := iv_ltL (y := x10) h_x2 h8 q13 (by decide)
        have h15 : iv 1 10 x10 := iv_gtL (y := x2) h8 h_x2 q13 (by decide)
        refine lv_iload_n hx hb dX9_sumOf_14 rfl (lv_at hl 4 rfl) ?_
        refine lv_iload hx hb dX9_sumOf_15 (lv_at hl 1 rfl) ?_
        refine lv_ishr hx hb dX9_sumOf_17 ?_
        refine tw_top (fun x17 => ?_)
        have h16 := iv_any x17
        refine lv_iconst (v := 1) hx hb dX9_sumOf_18 (by decide) ?_
        refine tw_iand (hi := 1) hx hb (iv_mono (iv_c (c := 1) (n := 1) (by decide)) (lo := 0) (hi := 1) (by decide) (by decide)) (by decide) dX9_sumOf_19 (fun x20 h18 => ?_)
        refine lv_iconst (v := 1) hx hb dX9_sumOf_20 (by decide) ?_
        refine lv_icmp_ne (tgt := 31) hx hb dX9_sumOf_21 (by decide) (fun c21 => ?_) (fun c21 => ?_)
        · have q22 : ¬ x20.toInt = 1 := ti_ne c21
          have h23 : iv 0 0 x20 := ⟨by have := (h18).1; have := ((iv_c (c := 1) (n := 1) (by decide))).1; have := ((iv_c (c := 1) (n := 1) (by decide))).2; omega, by have := (h18).2; have := ((iv_c (c := 1) (n := 1) (by decide))).1; have := ((iv_c (c := 1) (n := 1) (by decide))).2; omega⟩
          refine tw_iinc (lv' := fun x26 => [(4, .int x26), (3, .int x1), (0, .ref (base + a0)), (1, .ref (base + a1)), (2, .int a2)]) (lo := 1) (hi := 10) hx hb dX9_sumOf_31 hl (k := 1) rfl h14 (by decide) ⟨by decide, by decide⟩ ⟨by decide, by decide⟩ (by decide) (fun _ => rfl) (fun x26 ls e25 h24 hl => ?_)
          refine lv_goto (tgt := 5) hx hb dX9_sumOf_34 (by decide) ?_
          have hm27 : 10 - x26.toInt < (n_3 : Int) := by
            have := (h_a2).1; have := (h_a2).2; have := (h14).1; have := (h14).2; have := (h24).1; have := (h24).2; omega
          exact ih_3 x1 x26 M3 R4 J5 H locs _ h_x1 (iv_mono h24 (by decide) (by decide)) hm27 hS (lv_sub hl [1, 0, 2, 3, 4] rfl)
        · have q28 : x20.toInt = 1 := ti_eq c21
          have h29 : iv 1 1 x20 := ⟨by have := (h18).1; have := ((iv_c (c := 1) (n := 1) (by decide))).1; omega, by have := (h18).2; have := ((iv_c (c := 1) (n := 1) (by decide))).2; omega⟩
          refine lv_iload_n hx hb dX9_sumOf_24 rfl (lv_at hl 0 rfl) ?_
          refine lv_aload_n hx hb dX9_sumOf_25 rfl (lv_at hl 3 rfl) ?_
          refine lv_iload hx hb dX9_sumOf_26 (lv_at hl 1 rfl) ?_
          refine tw_iald hx hb hK hS hz_a1 hk_a1 (Or.inr (by decide)) hn_a1 (lo := (-2147483648)) (hi := 2147483647) h14 ⟨by decide, by decide⟩ rg_u20 dX9_sumOf_28 (fun x32 k31 h30 => ?_)
          refine lv_iadd hx hb dX9_sumOf_29 ?_
          refine tw_top (fun x34 => ?_)
          have h33 := iv_any x34
          refine lv_istore_n (lv' := [(3, .int x34), (4, .int x2), (0, .ref (base + a0)), (1, .ref (base + a1)), (2, .int a2)]) hx hb dX9_sumOf_30 rfl hl (by decide) rfl (fun ls hl => ?_)
          refine tw_iinc (lv' := fun x37 => [(4, .int x37), (3, .int x34), (0, .ref (base + a0)), (1, .ref (base + a1)), (2, .int a2)]) (lo := 1) (hi := 10) hx hb dX9_sumOf_31 hl (k := 1) rfl h14 (by decide) ⟨by decide, by decide⟩ ⟨by decide, by decide⟩ (by decide) (fun _ => rfl) (fun x37 ls e36 h35 hl => ?_)
          refine lv_goto (tgt := 5) hx hb dX9_sumOf_34 (by decide) ?_
          have hm38 : 10 - x37.toInt < (n_3 : Int) := by
            have := (h_a2).1; have := (h_a2).2; have := (h14).1; have := (h14).2; have := (h35).1; have := (h35).2; omega
          exact ih_3 x34 x37 M3 R4 J5 H locs _ h33 (iv_mono h35 (by decide) (by decide)) hm38 hS (lv_sub hl [1, 0, 2, 3, 4] rfl)
  have hm39 : 10 - (0 : Int32).toInt < (((11 : Nat) : Int) : Int) := by
    have := (h_a2).1; have := (h_a2).2; have : (0 : Int32).toInt = 0 := (by decide); omega
  exact W5_3 11 0 0 Ma Ra Ja s.heap [] _ (iv_mono (iv_c (c := 0) (n := 0) (by decide)) (by decide) (by decide)) (iv_mono (iv_c (c := 0) (n := 0) (by decide)) (by decide) (by decide)) hm39 hS (lv_sub hl [1, 0, 2, 3, 4] rfl)
def Lt_X0_holdAll : WL := [(6, 14, 15), (20, 0, 2000000)]
def LRt_X0_holdAll : WL := []
set_option maxRecDepth 100000 in
set_option maxHeartbeats 4000000 in
theorem t_X0_holdAll (l : Launch) (D : va_G) (cy : Nat → ClassId) (tx : (Nat → Nat) × (Nat → Nat)) (base Z : Nat) (K N : Nat → Nat) (Ma : MT) (Ra : RT) (Ja : JT) (hTy : Ty Z K N Ma Ra) (a0 : Nat) (hz_a0 : a0 < Z) (hk_a0 : K a0 = 1) : Met l yX0_holdAll [Cond.code yX0_holdAll cX0_holdAll 8 (some .boolean)] (md_rm 3 0 0) (va_Pc [.ref (base + a0)] (md_U D cy tx base Z K N Ma Ra Ja)) (mQi D cy tx base (fun r u => TP Z K N Lt_X0_holdAll LRt_X0_holdAll Ma Ra u ∧ (iv 0 1 r))) 0 0 (fun q => base ≤ q) := by
  refine tw_ofW (L := Lt_X0_holdAll) (LR := LRt_X0_holdAll) (by decide) (Nat.le_of_ble_eq_true rfl) hTy ?_
  intro p e s m args below meth c Q ls hx hb hr hlocks hown hml hW hK hT hS hQ hl
  have hl : lv_has ls 8 [(0, .ref (base + a0))] := hl
  refine lv_aload_n hx hb dX0_holdAll_0 rfl (lv_at hl 0 rfl) ?_
  refine tw_getr hx hb hW hown hK hS f_X0_9_0 hz_a0 hk_a0 (t := 20) (n := 10) rfl dX0_holdAll_1 (fun b1 k2 hz_b1 hk_b1 hn_b1 => ?_)
  have hn_b1 := hn_b1 (by decide)
  refine lv_iconst (v := 0) hx hb dX0_holdAll_4 (by decide) ?_
  refine lv_aload_n hx hb dX0_holdAll_5 rfl (lv_at hl 0 rfl) ?_
  refine tw_getr hx hb hW hown hK hS f_X0_15_0 hz_a0 hk_a0 (t := 20) (n := 10) rfl dX0_holdAll_6 (fun b3 k4 hz_b3 hk_b3 hn_b3 => ?_)
  have hn_b3 := hn_b3 (by decide)
  refine lv_iconst (v := 0) hx hb dX0_holdAll_9 (by decide) ?_
  refine lv_bipush (v := 10) hx hb dX0_holdAll_10 (by decide) ?_
  refine tw_copy hx hb (hml.trans hl.1.symm) hW hown hK hS (md_okc w_5_202 rfl (md_okc w_3_226 rfl (md_okc w_3_225 rfl (md_okc w_1_18 rfl (md_ok0))))) hz_b3 hk_b3 (Or.inr (by decide)) hz_b1 hk_b1 (Or.inr (by decide)) hn_b3 hn_b1 (by have := ((iv_c (c := 10) (n := 10) (by decide))).1; have := ((iv_c (c := 10) (n := 10) (by decide))).2; have := ((iv_c (c := 0) (n := 0) (by decide))).1; have := ((iv_c (c := 0) (n := 0) (by decide))).2; have := ((iv_c (c := 0) (n := 0) (by decide))).1; have := ((iv_c (c := 0) (n := 0) (by decide))).2; omega) (by have := ((iv_c (c := 10) (n := 10) (by decide))).1; have := ((iv_c (c := 10) (n := 10) (by decide))).2; have := ((iv_c (c := 0) (n := 0) (by decide))).1; have := ((iv_c (c := 0) (n := 0) (by decide))).2; have := ((iv_c (c := 0) (n := 0) (by decide))).1; have := ((iv_c (c := 0) (n := 0) (by decide))).2; omega) (by have := ((iv_c (c := 10) (n := 10) (by decide))).1; have := ((iv_c (c := 10) (n := 10) (by decide))).2; have := ((iv_c (c := 0) (n := 0) (by decide))).1; have := ((iv_c (c := 0) (n := 0) (by decide))).2; have := ((iv_c (c := 0) (n := 0) (by decide))).1; have := ((iv_c (c := 0) (n := 0) (by decide))).2; omega) (by have := ((iv_c (c := 10) (n := 10) (by decide))).1; have := ((iv_c (c := 10) (n := 10) (by decide))).2; have := ((iv_c (c := 0) (n := 0) (by decide))).1; have := ((iv_c (c := 0) (n := 0) (by decide))).2; have := ((iv_c (c := 0) (n := 0) (by decide))).1; have := ((iv_c (c := 0) (n := 0) (by decide))).2; omega) (by have := ((iv_c (c := 10) (n := 10) (by decide))).1; have := ((iv_c (c := 10) (n := 10) (by decide))).2; have := ((iv_c (c := 0) (n := 0) (by decide))).1; have := ((iv_c (c := 0) (n := 0) (by decide))).2; have := ((iv_c (c := 0) (n := 0) (by decide))).1; have := ((iv_c (c := 0) (n := 0) (by decide))).2; omega) (fun _ _ => ⟨by show (-2147483648 : Int) ≤ -2147483648; decide, by show (2147483647 : Int) ≤ 2147483647; decide⟩) (Nat.le_of_ble_eq_true rfl) (Nat.le_of_ble_eq_true rfl) rfl dX0_holdAll_12 (fun H locs M7 hS f5 k6 => ?_)
  refine lv_iconst (v := 1) hx hb dX0_holdAll_15 (by decide) ?_
  refine lv_istore_n (lv' := [(1, .int 1), (0, .ref (base + a0))]) hx hb dX0_holdAll_16 rfl hl (by decide) rfl (fun ls hl => ?_)
  refine lv_iconst (v := 0) hx hb dX0_holdAll_17 (by decide) ?_
  refine lv_istore_n (lv' := [(2, .int 0), (1, .int 1), (0, .ref (base + a0))]) hx hb dX0_holdAll_18 rfl hl (by decide) rfl (fun ls hl => ?_)
  have W19_10 : ∀ (n_10 : Nat) (x8 : Int32) (x9 : Int32) (M10 : MT) (R11 : RT) (J12 : JT) (H : Heap) (locs : List Loc) (ls : Array Slot) (h_x8 : iv 0 1 x8) (h_x9 : iv 0 12 x9) (hm_10 : 12 - x9.toInt < (n_10 : Int)) (hS : SB D cy base Z K N Lt_X0_holdAll LRt_X0_holdAll Ma Ra M10 R11 J12 s H locs) (hl : lv_has ls 8 [(1, .int x8), (2, .int x9), (0, .ref (base + a0))]), W p l e (md_rm 3 0 0) s m args below meth c H locs 0 0 Q (F0 m 19 ls []) := by
    intro n_10
    induction n_10 with
    | zero =>
      intro x8 x9 M10 R11 J12 H locs ls h_x8 h_x9 hm_10 hS hl
      exfalso
      have := (h_x9).1; have := (h_x9).2; omega
    | succ n_10 ih_10 =>
      intro x8 x9 M10 R11 J12 H locs ls h_x8 h_x9 hm_10 hS hl
      have f13 := hS.2.2.1
      have g14 := hS.2.2.2
      refine lv_iload_n hx hb dX0_holdAll_19 rfl (lv_at hl 1 rfl) ?_
      refine lv_aload_n hx hb dX0_holdAll_20 rfl (lv_at hl 2 rfl) ?_
      refine tw_getr hx hb hW hown hK hS f_X0_33_0 hz_a0 hk_a0 (t := 10) (n := 0) rfl dX0_holdAll_21 (fun b15 k16 hz_b15 hk_b15 hn_b15 => ?_)
      refine tw_geti hx hb hW hown hK hS f_X0_73_9 hz_b15 hk_b15 (lo := 0) (hi := 12) rfl dX0_holdAll_24 (fun x19 k18 h17 => ?_)
      refine lv_icmp_ge (tgt := 156) hx hb dX0_holdAll_27 (by decide) (fun c20 => ?_) (fun c20 => ?_)
      · have q21 : x19.toInt ≤ x9.toInt := ti_le c20
        refine lv_iload_n hx hb dX0_holdAll_156 rfl (lv_at hl 0 rfl) ?_
        exact tw_endz hx hb hr hlocks hK hT hS hQ (nar_b h_x8) (h_x8) dX0_holdAll_157
      · have q22 : x9.toInt < x19.toInt := ti_nle c20
        have h23 : iv 0 11 x9 := iv_ltL (y := x19) h_x9 h17 q22 (by decide)
        have h24 : iv 1 12 x19 := iv_gtL (y := x9) h17 h_x9 q22 (by decide)
        refine lv_iload_n hx hb dX0_holdAll_30 rfl (lv_at hl 0 rfl) ?_
        refine lv_if_eq (tgt := 156) hx hb dX0_holdAll_31 (by decide) (fun c25 => ?_) (fun c25 => ?_)
        · have q26 : x8.toInt = 0 := ti_eq c25
          have h27 : iv 0 0 x8 := ⟨by have := (h_x8).1; have := ((iv_c (c := 0) (n := 0) (by decide))).1; omega, by have := (h_x8).2; have := ((iv_c (c := 0) (n := 0) (by decide))).2; omega⟩
          refine lv_iload_n hx hb dX0_holdAll_156 rfl (lv_at hl 0 rfl) ?_
          exact tw_endz hx hb hr hlocks hK hT hS hQ (nar_b (iv_mono h27 (by decide) (by decide))) ((iv_mono h27 (by decide) (by decide))) dX0_holdAll_157
        · have q28 : ¬ x8.toInt = 0 := ti_ne c25
          have h29 : iv 1 1 x8 := ⟨by have := (h_x8).1; have := ((iv_c (c := 0) (n := 0) (by decide))).1; have := ((iv_c (c := 0) (n := 0) (by decide))).2; omega, by have := (h_x8).2; have := ((iv_c (c := 0) (n := 0) (by decide))).1; have := ((iv_c (c := 0) (n := 0) (by decide))).2; omega⟩
          refine lv_iload_n hx hb dX0_holdAll_34 rfl (lv_at hl 1 rfl) ?_
          refine lv_iconst (v := 4) hx hb dX0_holdAll_35 (by decide) ?_
          refine tw_imulc (k := 4) (lo := 0) (hi := 44) hx hb h23 (by decide) (by decide) ⟨by decide, by decide⟩ ⟨by decide, by decide⟩ dX0_holdAll_36 (fun x32 e31 h30 => ?_)
          refine lv_istore_n (lv' := [(3, .int x32), (1, .int x8), (2, .int x9), (0, .ref (base + a0))]) hx hb dX0_holdAll_37 rfl hl (by decide) rfl (fun ls hl => ?_)
          refine lv_aload_n hx hb dX0_holdAll_38 rfl (lv_at hl 3 rfl) ?_
          refine tw_getrk hx hb hW hown hK hS f_X0_33_0 hz_a0 hk_a0 (b := b15) k16 dX0_holdAll_39 ?_
          refine tw_getr hx hb hW hown hK hS f_X0_76_9 hz_b15 hk_b15 (t := 14) (n := 48) rfl dX0_holdAll_42 (fun b33 k34 hz_b33 hk_b33 hn_b33 => ?_)
          have hn_b33 := hn_b33 (by decide)
          refine lv_iload_n hx hb dX0_holdAll_45 rfl (lv_at hl 0 rfl) ?_
          refine tw_iald hx hb hK hS hz_b33 hk_b33 (Or.inl rfl) hn_b33 (lo := (-2147483648)) (hi := 2147483647) h30 ⟨by decide, by decide⟩ rg_u14 dX0_holdAll_46 (fun x37 k36 h35 => ?_)
          refine lv_istore (lv' := [(4, .int x37), (3, .int x32), (1, .int x8), (2, .int x9), (0, .ref (base + a0))]) hx hb dX0_holdAll_47 hl (by decide) rfl (fun ls hl => ?_)
          refine lv_aload_n hx hb dX0_holdAll_49 rfl (lv_at hl 4 rfl) ?_
          refine tw_getrk hx hb hW hown hK hS f_X0_33_0 hz_a0 hk_a0 (b := b15) k16 dX0_holdAll_50 ?_
          refine tw_getrk hx hb hW hown hK hS f_X0_76_9 hz_b15 hk_b15 (b := b33) k34 dX0_holdAll_53 ?_
          refine lv_iload_n hx hb dX0_holdAll_56 rfl (lv_at hl 1 rfl) ?_
          refine lv_iconst (v := 1) hx hb dX0_holdAll_57 (by decide) ?_
          refine tw_iadd (lo := 1) (hi := 45) hx hb h30 (iv_c (c := 1) (n := 1) (by decide)) ⟨by decide, by decide⟩ ⟨by decide, by decide⟩ dX0_holdAll_58 (fun x40 e39 h38 => ?_)
          have e39 : x40.toInt = x32.toInt + 1 := e39
          refine tw_iald hx hb hK hS hz_b33 hk_b33 (Or.inl rfl) hn_b33 (lo := (-2147483648)) (hi := 2147483647) h38 ⟨by decide, by decide⟩ rg_u14 dX0_holdAll_59 (fun x43 k42 h41 => ?_)
          refine lv_istore (lv' := [(5, .int x43), (4, .int x37), (3, .int x32), (1, .int x8), (2, .int x9), (0, .ref (base + a0))]) hx hb dX0_holdAll_60 hl (by decide) rfl (fun ls hl => ?_)
          refine lv_aload_n hx hb dX0_holdAll_62 rfl (lv_at hl 5 rfl) ?_
          refine tw_getrk hx hb hW hown hK hS f_X0_33_0 hz_a0 hk_a0 (b := b15) k16 dX0_holdAll_63 ?_
          refine tw_getrk hx hb hW hown hK hS f_X0_76_9 hz_b15 hk_b15 (b := b33) k34 dX0_holdAll_66 ?_
          refine lv_iload_n hx hb dX0_holdAll_69 rfl (lv_at hl 2 rfl) ?_
          refine lv_iconst (v := 2) hx hb dX0_holdAll_70 (by decide) ?_
          refine tw_iadd (lo := 2) (hi := 46) hx hb h30 (iv_c (c := 2) (n := 2) (by decide)) ⟨by decide, by decide⟩ ⟨by decide, by decide⟩ dX0_holdAll_71 (fun x46 e45 h44 => ?_)
          have e45 : x46.toInt = x32.toInt + 2 := e45
          refine tw_iald hx hb hK hS hz_b33 hk_b33 (Or.inl rfl) hn_b33 (lo := (-2147483648)) (hi := 2147483647) h44 ⟨by decide, by decide⟩ rg_u14 dX0_holdAll_72 (fun x49 k48 h47 => ?_)
          refine lv_istore (lv' := [(6, .int x49), (5, .int x43), (4, .int x37), (3, .int x32), (1, .int x8), (2, .int x9), (0, .ref (base + a0))]) hx hb dX0_holdAll_73 hl (by decide) rfl (fun ls hl => ?_)
          refine lv_aload_n hx hb dX0_holdAll_75 rfl (lv_at hl 6 rfl) ?_
          refine tw_getrk hx hb hW hown hK hS f_X0_33_0 hz_a0 hk_a0 (b := b15) k16 dX0_holdAll_76 ?_
          refine tw_getrk hx hb hW hown hK hS f_X0_76_9 hz_b15 hk_b15 (b := b33) k34 dX0_holdAll_79 ?_
          refine lv_iload_n hx hb dX0_holdAll_82 rfl (lv_at hl 3 rfl) ?_
          refine lv_iconst (v := 3) hx hb dX0_holdAll_83 (by decide) ?_
          refine tw_iadd (lo := 3) (hi := 47) hx hb h30 (iv_c (c := 3) (n := 3) (by decide)) ⟨by decide, by decide⟩ ⟨by decide, by decide⟩ dX0_holdAll_84 (fun x52 e51 h50 => ?_)
          have e51 : x52.toInt = x32.toInt + 3 := e51
          refine tw_iald hx hb hK hS hz_b33 hk_b33 (Or.inl rfl) hn_b33 (lo := (-2147483648)) (hi := 2147483647) h50 ⟨by decide, by decide⟩ rg_u14 dX0_holdAll_85 (fun x55 k54 h53 => ?_)
          refine lv_istore (lv' := [(7, .int x55), (6, .int x49), (5, .int x43), (4, .int x37), (3, .int x32), (1, .int x8), (2, .int x9), (0, .ref (base + a0))]) hx hb dX0_holdAll_86 hl (by decide) rfl (fun ls hl => ?_)
          refine lv_aload_n hx hb dX0_holdAll_88 rfl (lv_at hl 7 rfl) ?_
          refine tw_getrk hx hb hW hown hK hS f_X0_33_0 hz_a0 hk_a0 (b := b15) k16 dX0_holdAll_89 ?_
          refine lv_aload_n hx hb dX0_holdAll_92 rfl (lv_at hl 7 rfl) ?_
          have k56 : R11 a0 3 = some b3 := (Fr.kp (k := 3) g14 hk_a0 rfl).trans k4
          refine tw_getrk hx hb hW hown hK hS f_X0_15_0 hz_a0 hk_a0 (b := b3) k56 dX0_holdAll_93 ?_
          refine lv_iload hx hb dX0_holdAll_96 (lv_at hl 3 rfl) ?_
          refine tw_goi hS (md_runV (As := [.ref (base + b3), .int x37]) (rest := []) hx hb hml hown hW hK hT hS.1 (t_X9_sumOf l D cy tx base Z K N M10 R11 J12 hS.2.1 b15 hz_b15 hk_b15 b3 hz_b3 hk_b3 hn_b3 x37 h35) s_X0_79 ⟨rfl, rfl, ⟨Nat.le_of_ble_eq_true rfl, Nat.le_of_ble_eq_true rfl⟩, ⟨Nat.le_of_ble_eq_true rfl, Nat.le_of_ble_eq_true rfl⟩⟩ hz_b15 hk_b15 (by decide) rfl rfl hl.1 rfl (Nat.le_of_ble_eq_true rfl) dX0_holdAll_98) rfl rfl (fun x63 H locs M60 R61 J59 hS f57 g58 E62 => ?_)
          have eM60 := Fr.nil f57 rfl
          subst eM60
          have eR61 := Fr.nil g58 rfl
          subst eR61
          have h_x63 := E62
          clear E62
          refine lv_iload hx hb dX0_holdAll_101 (lv_at hl 1 rfl) ?_
          have J128_64 : ∀  (M64 : MT) (R65 : RT) (J66 : JT) (H : Heap) (locs : List Loc) (ls : Array Slot) (hS : SB D cy base Z K N Lt_X0_holdAll LRt_X0_holdAll Ma Ra M64 R65 J66 s H locs) (hl : lv_has ls 8 [(7, .int x55), (6, .int x49), (5, .int x43), (4, .int x37), (3, .int x32), (1, .int x8), (2, .int x9), (0, .ref (base + a0))]), W p l e (md_rm 3 0 0) s m args below meth c H locs 0 0 Q (F0 m 128 ls []) := by
            intro  M64 R65 J66 H locs ls  hS hl
            have f67 := hS.2.2.1
            have g68 := hS.2.2.2
            refine lv_iconst (v := 0) hx hb dX0_holdAll_128 (by decide) ?_
            refine lv_istore_n (lv' := [(1, .int 0), (7, .int x55), (6, .int x49), (5, .int x43), (4, .int x37), (3, .int x32), (2, .int x9), (0, .ref (base + a0))]) hx hb dX0_holdAll_129 rfl hl (by decide) rfl (fun ls hl => ?_)
            refine lv_iload_n hx hb dX0_holdAll_130 rfl (lv_at hl 0 rfl) ?_
            refine lv_if_eq (tgt := 150) hx hb dX0_holdAll_131 (by decide) (fun _ => ?_) (fun h => absurd h (by decide))
            refine tw_iinc (lv' := fun x71 => [(2, .int x71), (1, .int 0), (7, .int x55), (6, .int x49), (5, .int x43), (4, .int x37), (3, .int x32), (0, .ref (base + a0))]) (lo := 1) (hi := 12) hx hb dX0_holdAll_150 hl (k := 6) rfl h23 (by decide) ⟨by decide, by decide⟩ ⟨by decide, by decide⟩ (by decide) (fun _ => rfl) (fun x71 ls e70 h69 hl => ?_)
            refine lv_goto (tgt := 19) hx hb dX0_holdAll_153 (by decide) ?_
            have hm72 : 12 - x71.toInt < (n_10 : Int) := by
              have := (h30).1; have := (h30).2; have := (h69).1; have := (h69).2; have := (h23).1; have := (h23).2; omega
            exact ih_10 0 x71 M64 R65 J66 H locs _ (iv_mono (iv_c (c := 0) (n := 0) (by decide)) (by decide) (by decide)) (iv_mono h69 (by decide) (by decide)) hm72 hS (lv_sub hl [1, 0, 7] rfl)
          refine lv_icmp_ne (tgt := 128) hx hb dX0_holdAll_103 (by decide) (fun c73 => ?_) (fun c73 => ?_)
          · have q74 : ¬ x63.toInt = x49.toInt := ti_ne c73
            exact J128_64  M10 R11 J59 H locs _  hS hl
          · have q75 : x63.toInt = x49.toInt := ti_eq c73
            refine lv_aload_n hx hb dX0_holdAll_106 rfl (lv_at hl 7 rfl) ?_
            refine tw_getrk hx hb hW hown hK hS f_X0_33_0 hz_a0 hk_a0 (b := b15) k16 dX0_holdAll_107 ?_
            refine lv_aload_n hx hb dX0_holdAll_110 rfl (lv_at hl 7 rfl) ?_
            have k76 : R11 a0 3 = some b3 := (Fr.kp (k := 3) g14 hk_a0 rfl).trans k4
            refine tw_getrk hx hb hW hown hK hS f_X0_15_0 hz_a0 hk_a0 (b := b3) k76 dX0_holdAll_111 ?_
            refine lv_iload hx hb dX0_holdAll_114 (lv_at hl 2 rfl) ?_
            refine tw_goi hS (md_runV (As := [.ref (base + b3), .int x43]) (rest := []) hx hb hml hown hW hK hT hS.1 (t_X9_sumOf l D cy tx base Z K N M10 R11 J59 hS.2.1 b15 hz_b15 hk_b15 b3 hz_b3 hk_b3 hn_b3 x43 h41) s_X0_79 ⟨rfl, rfl, ⟨Nat.le_of_ble_eq_true rfl, Nat.le_of_ble_eq_true rfl⟩, ⟨Nat.le_of_ble_eq_true rfl, Nat.le_of_ble_eq_true rfl⟩⟩ hz_b15 hk_b15 (by decide) rfl rfl hl.1 rfl (Nat.le_of_ble_eq_true rfl) dX0_holdAll_116) rfl rfl (fun x83 H locs M80 R81 J79 hS f77 g78 E82 => ?_)
            have eM80 := Fr.nil f77 rfl
            subst eM80
            have eR81 := Fr.nil g78 rfl
            subst eR81
            have h_x83 := E82
            clear E82
            refine lv_iload hx hb dX0_holdAll_119 (lv_at hl 0 rfl) ?_
            refine lv_icmp_ne (tgt := 128) hx hb dX0_holdAll_121 (by decide) (fun c84 => ?_) (fun c84 => ?_)
            · have q85 : ¬ x83.toInt = x55.toInt := ti_ne c84
              exact J128_64  M10 R11 J79 H locs _  hS hl
            · have q86 : x83.toInt = x55.toInt := ti_eq c84
              refine lv_iconst (v := 1) hx hb dX0_holdAll_124 (by decide) ?_
              refine lv_goto (tgt := 129) hx hb dX0_holdAll_125 (by decide) ?_
              refine lv_istore_n (lv' := [(1, .int 1), (7, .int x55), (6, .int x49), (5, .int x43), (4, .int x37), (3, .int x32), (2, .int x9), (0, .ref (base + a0))]) hx hb dX0_holdAll_129 rfl hl (by decide) rfl (fun ls hl => ?_)
              refine lv_iload_n hx hb dX0_holdAll_130 rfl (lv_at hl 0 rfl) ?_
              refine lv_if_eq (tgt := 150) hx hb dX0_holdAll_131 (by decide) (fun h => absurd h (by decide)) (fun _ => ?_)
              refine lv_aload_n hx hb dX0_holdAll_134 rfl (lv_at hl 7 rfl) ?_
              refine tw_getr hx hb hW hown hK hS f_X0_37_0 hz_a0 hk_a0 (t := 6) (n := 0) rfl dX0_holdAll_135 (fun b87 k88 hz_b87 hk_b87 hn_b87 => ?_)
              refine lv_aload_n hx hb dX0_holdAll_138 rfl (lv_at hl 7 rfl) ?_
              have k89 : R11 a0 3 = some b3 := (Fr.kp (k := 3) g14 hk_a0 rfl).trans k4
              refine tw_getrk hx hb hW hown hK hS f_X0_15_0 hz_a0 hk_a0 (b := b3) k89 dX0_holdAll_139 ?_
              refine lv_iload hx hb dX0_holdAll_142 (lv_at hl 4 rfl) ?_
              refine lv_iload hx hb dX0_holdAll_144 (lv_at hl 3 rfl) ?_
              refine tw_goi hS (md_runV (As := [.ref (base + b3), .int x37, .int x43]) (rest := []) hx hb hml hown hW hK hT hS.1 (t_X5_hold l D cy tx base Z K N M10 R11 J79 hS.2.1 b87 hz_b87 hk_b87 b3 hz_b3 hk_b3 hn_b3 x37 h35 x43 h41) s_X0_83 ⟨rfl, rfl, ⟨Nat.le_of_ble_eq_true rfl, Nat.le_of_ble_eq_true rfl⟩, ⟨Nat.le_of_ble_eq_true rfl, Nat.le_of_ble_eq_true rfl⟩⟩ hz_b87 hk_b87 (by decide) rfl rfl hl.1 rfl (Nat.le_of_ble_eq_true rfl) dX0_holdAll_146) rfl rfl (fun x96 H locs M93 R94 J92 hS f90 g91 E95 => ?_)
              have eR94 := Fr.nil g91 rfl
              subst eR94
              have h_x96 := E95
              clear E95
              refine lv_pop hx hb dX0_holdAll_149 rfl ?_
              refine tw_iinc (lv' := fun x99 => [(2, .int x99), (1, .int 1), (7, .int x55), (6, .int x49), (5, .int x43), (4, .int x37), (3, .int x32), (0, .ref (base + a0))]) (lo := 1) (hi := 12) hx hb dX0_holdAll_150 hl (k := 6) rfl h23 (by decide) ⟨by decide, by decide⟩ ⟨by decide, by decide⟩ (by decide) (fun _ => rfl) (fun x99 ls e98 h97 hl => ?_)
              refine lv_goto (tgt := 19) hx hb dX0_holdAll_153 (by decide) ?_
              have hm100 : 12 - x99.toInt < (n_10 : Int) := by
                have := (h30).1; have := (h30).2; have := (h23).1; have := (h23).2; have := (h97).1; have := (h97).2; omega
              exact ih_10 1 x99 M93 R11 J92 H locs _ (iv_mono (iv_c (c := 1) (n := 1) (by decide)) (by decide) (by decide)) (iv_mono h97 (by decide) (by decide)) hm100 hS (lv_sub hl [1, 0, 7] rfl)
  have hm101 : 12 - (0 : Int32).toInt < (((13 : Nat) : Int) : Int) := by
    have : (0 : Int32).toInt = 0 := (by decide); omega
  exact W19_10 13 1 0 M7 Ra Ja H locs _ (iv_mono (iv_c (c := 1) (n := 1) (by decide)) (by decide) (by decide)) (iv_mono (iv_c (c := 0) (n := 0) (by decide)) (by decide) (by decide)) hm101 hS (lv_sub hl [1, 0, 2] rfl)
def Lt_X0_mark : WL := [(14, 0, 2000000)]
def LRt_X0_mark : WL := []
set_option maxRecDepth 100000 in
set_option maxHeartbeats 4000000 in
theorem t_X0_mark (l : Launch) (D : va_G) (cy : Nat → ClassId) (tx : (Nat → Nat) × (Nat → Nat)) (base Z : Nat) (K N : Nat → Nat) (Ma : MT) (Ra : RT) (Ja : JT) (hTy : Ty Z K N Ma Ra) (a0 : Nat) (hz_a0 : a0 < Z) (hk_a0 : K a0 = 1) : Met l yX0_mark [Cond.code yX0_mark cX0_mark 2 none] (md_rm 1 0 0) (va_Pc [.ref (base + a0)] (md_U D cy tx base Z K N Ma Ra Ja)) (mQv D cy tx base (fun u => TP Z K N Lt_X0_mark LRt_X0_mark Ma Ra u ∧ (True))) 0 0 (fun q => base ≤ q) := by
  refine tw_ofW (L := Lt_X0_mark) (LR := LRt_X0_mark) (by decide) (Nat.le_of_ble_eq_true rfl) hTy ?_
  intro p e s m args below meth c Q ls hx hb hr hlocks hown hml hW hK hT hS hQ hl
  have hl : lv_has ls 2 [(0, .ref (base + a0))] := hl
  refine lv_iconst (v := 0) hx hb dX0_mark_0 (by decide) ?_
  refine lv_istore_n (lv' := [(1, .int 0), (0, .ref (base + a0))]) hx hb dX0_mark_1 rfl hl (by decide) rfl (fun ls hl => ?_)
  have W2_2 : ∀ (n_2 : Nat) (x1 : Int32) (M2 : MT) (R3 : RT) (J4 : JT) (H : Heap) (locs : List Loc) (ls : Array Slot) (h_x1 : iv 0 10 x1) (hm_2 : 10 - x1.toInt < (n_2 : Int)) (hS : SB D cy base Z K N Lt_X0_mark LRt_X0_mark Ma Ra M2 R3 J4 s H locs) (hl : lv_has ls 2 [(1, .int x1), (0, .ref (base + a0))]), W p l e (md_rm 1 0 0) s m args below meth c H locs 0 0 Q (F0 m 2 ls []) := by
    intro n_2
    induction n_2 with
    | zero =>
      intro x1 M2 R3 J4 H locs ls h_x1 hm_2 hS hl
      exfalso
      have := (h_x1).1; have := (h_x1).2; omega
    | succ n_2 ih_2 =>
      intro x1 M2 R3 J4 H locs ls h_x1 hm_2 hS hl
      have f5 := hS.2.2.1
      have g6 := hS.2.2.2
      refine lv_iload_n hx hb dX0_mark_2 rfl (lv_at hl 0 rfl) ?_
      refine lv_aload_n hx hb dX0_mark_3 rfl (lv_at hl 1 rfl) ?_
      refine tw_getr hx hb hW hown hK hS f_X0_33_0 hz_a0 hk_a0 (t := 10) (n := 0) rfl dX0_mark_4 (fun b7 k8 hz_b7 hk_b7 hn_b7 => ?_)
      refine tw_geti hx hb hW hown hK hS f_X0_48_9 hz_b7 hk_b7 (lo := (-2147483648)) (hi := 10) rfl dX0_mark_7 (fun x11 k10 h9 => ?_)
      refine lv_icmp_ge (tgt := 61) hx hb dX0_mark_10 (by decide) (fun c12 => ?_) (fun c12 => ?_)
      · have q13 : x11.toInt ≤ x1.toInt := ti_le c12
        exact tw_endv hx hb hr hlocks hK hT hS hQ (trivial) dX0_mark_61
      · have q14 : x1.toInt < x11.toInt := ti_nle c12
        have h15 : iv 0 9 x1 := iv_ltL (y := x11) h_x1 h9 q14 (by decide)
        have h16 : iv 1 10 x11 := iv_gtL (y := x1) h9 h_x1 q14 (by decide)
        refine lv_aload_n hx hb dX0_mark_13 rfl (lv_at hl 1 rfl) ?_
        refine tw_getr hx hb hW hown hK hS f_X0_18_0 hz_a0 hk_a0 (t := 14) (n := 10) rfl dX0_mark_14 (fun b17 k18 hz_b17 hk_b17 hn_b17 => ?_)
        have hn_b17 := hn_b17 (by decide)
        refine lv_iload_n hx hb dX0_mark_17 rfl (lv_at hl 0 rfl) ?_
        refine lv_aload_n hx hb dX0_mark_18 rfl (lv_at hl 1 rfl) ?_
        refine tw_getrk hx hb hW hown hK hS f_X0_18_0 hz_a0 hk_a0 (b := b17) k18 dX0_mark_19 ?_
        refine lv_iload_n hx hb dX0_mark_22 rfl (lv_at hl 0 rfl) ?_
        refine tw_iald hx hb hK hS hz_b17 hk_b17 (Or.inl rfl) hn_b17 (lo := (-2147483648)) (hi := 2147483647) h15 ⟨by decide, by decide⟩ rg_u14 dX0_mark_23 (fun x21 k20 h19 => ?_)
        refine lv_aload_n hx hb dX0_mark_24 rfl (lv_at hl 1 rfl) ?_
        refine tw_getr hx hb hW hown hK hS f_X0_9_0 hz_a0 hk_a0 (t := 20) (n := 10) rfl dX0_mark_25 (fun b22 k23 hz_b22 hk_b22 hn_b22 => ?_)
        have hn_b22 := hn_b22 (by decide)
        refine lv_iload_n hx hb dX0_mark_28 rfl (lv_at hl 0 rfl) ?_
        refine tw_iald hx hb hK hS hz_b22 hk_b22 (Or.inr (by decide)) hn_b22 (lo := (-2147483648)) (hi := 2147483647) h15 ⟨by decide, by decide⟩ rg_u20 dX0_mark_29 (fun x26 k25 h24 => ?_)
        refine va_mmin hx hb (hml.trans hl.1.symm) hown (hW _ w_5_209 rfl) (hW _ w_3_86 rfl) (hW _ w_1_13 rfl) (hW _ w_3_87 rfl) (Nat.le_of_ble_eq_true rfl) (Nat.le_of_ble_eq_true rfl) (Nat.le_of_ble_eq_true rfl) (Nat.le_of_ble_eq_true rfl) dX0_mark_30 ?_
        refine tw_mmin (lo := (-2147483648)) (hi := 2147483647) h19 h24 (by decide) (fun x29 e28 h27 => ?_)
        refine tw_iast hx hb hK hS hz_b17 hk_b17 (Or.inl rfl) hn_b17 h15 ⟨by decide, by decide⟩ h27 (rg_s14 ⟨by decide, by decide⟩) (jl := 0) (jh := 1999999) ⟨by decide, by decide⟩ rfl dX0_mark_33 (fun H locs M32 hS k30 f31 => ?_)
        refine lv_aload_n hx hb dX0_mark_34 rfl (lv_at hl 1 rfl) ?_
        refine tw_getr hx hb hW hown hK hS f_X0_21_0 hz_a0 hk_a0 (t := 14) (n := 10) rfl dX0_mark_35 (fun b33 k34 hz_b33 hk_b33 hn_b33 => ?_)
        have hn_b33 := hn_b33 (by decide)
        refine lv_iload_n hx hb dX0_mark_38 rfl (lv_at hl 0 rfl) ?_
        refine lv_aload_n hx hb dX0_mark_39 rfl (lv_at hl 1 rfl) ?_
        refine tw_getrk hx hb hW hown hK hS f_X0_21_0 hz_a0 hk_a0 (b := b33) k34 dX0_mark_40 ?_
        refine lv_iload_n hx hb dX0_mark_43 rfl (lv_at hl 0 rfl) ?_
        refine tw_iald hx hb hK hS hz_b33 hk_b33 (Or.inl rfl) hn_b33 (lo := (-2147483648)) (hi := 2147483647) h15 ⟨by decide, by decide⟩ rg_u14 dX0_mark_44 (fun x37 k36 h35 => ?_)
        refine lv_aload_n hx hb dX0_mark_45 rfl (lv_at hl 1 rfl) ?_
        refine tw_getrk hx hb hW hown hK hS f_X0_9_0 hz_a0 hk_a0 (b := b22) k23 dX0_mark_46 ?_
        refine lv_iload_n hx hb dX0_mark_49 rfl (lv_at hl 0 rfl) ?_
        have k38 : M32 b22 x1.toNatClampNeg = x26 := (Fr.kpa f31 hk_b22 rfl x1.toNatClampNeg).trans k25
        refine tw_ialk hx hb hK hS hz_b22 hk_b22 (Or.inr (by decide)) hn_b22 h15 ⟨by decide, by decide⟩ (v := x26) k38 dX0_mark_50 ?_
        refine va_mmax hx hb (hml.trans hl.1.symm) hown (hW _ w_5_210 rfl) (hW _ w_4_75 rfl) (hW _ w_1_13 rfl) (hW _ w_4_76 rfl) (Nat.le_of_ble_eq_true rfl) (Nat.le_of_ble_eq_true rfl) (Nat.le_of_ble_eq_true rfl) (Nat.le_of_ble_eq_true rfl) dX0_mark_51 ?_
        refine tw_mmax (lo := (-2147483648)) (hi := 2147483647) h35 h24 (by decide) (fun x41 e40 h39 => ?_)
        refine tw_iast hx hb hK hS hz_b33 hk_b33 (Or.inl rfl) hn_b33 h15 ⟨by decide, by decide⟩ h39 (rg_s14 ⟨by decide, by decide⟩) (jl := 0) (jh := 1999999) ⟨by decide, by decide⟩ rfl dX0_mark_54 (fun H locs M44 hS k42 f43 => ?_)
        refine tw_iinc (lv' := fun x47 => [(1, .int x47), (0, .ref (base + a0))]) (lo := 1) (hi := 10) hx hb dX0_mark_55 hl (k := 0) rfl h15 (by decide) ⟨by decide, by decide⟩ ⟨by decide, by decide⟩ (by decide) (fun _ => rfl) (fun x47 ls e46 h45 hl => ?_)
        refine lv_goto (tgt := 2) hx hb dX0_mark_58 (by decide) ?_
        have hm48 : 10 - x47.toInt < (n_2 : Int) := by
          have := (h15).1; have := (h15).2; have := (h45).1; have := (h45).2; omega
        exact ih_2 x47 M44 R3 J4 H locs _ (iv_mono h45 (by decide) (by decide)) hm48 hS hl
  have hm49 : 10 - (0 : Int32).toInt < (((11 : Nat) : Int) : Int) := by
    have : (0 : Int32).toInt = 0 := (by decide); omega
  exact W2_2 11 0 Ma Ra Ja s.heap [] _ (iv_mono (iv_c (c := 0) (n := 0) (by decide)) (by decide) (by decide)) hm49 hS hl
def Lt_X0_stepOn : WL := [(20, 0, 2000000)]
def LRt_X0_stepOn : WL := []
set_option maxRecDepth 100000 in
set_option maxHeartbeats 4000000 in
theorem t_X0_stepOn (l : Launch) (D : va_G) (cy : Nat → ClassId) (tx : (Nat → Nat) × (Nat → Nat)) (base Z : Nat) (K N : Nat → Nat) (Ma : MT) (Ra : RT) (Ja : JT) (hTy : Ty Z K N Ma Ra) (a0 : Nat) (hz_a0 : a0 < Z) (hk_a0 : K a0 = 1) (a1 : Int32) (h_a1 : iv 1 6 a1) : Met l yX0_stepOn [Cond.code yX0_stepOn cX0_stepOn 3 none] (md_rm 1 0 0) (va_Pc [.ref (base + a0), .int a1] (md_U D cy tx base Z K N Ma Ra Ja)) (mQv D cy tx base (fun u => TP Z K N Lt_X0_stepOn LRt_X0_stepOn Ma Ra u ∧ (True))) 0 0 (fun q => base ≤ q) := by
  refine tw_ofW (L := Lt_X0_stepOn) (LR := LRt_X0_stepOn) (by decide) (Nat.le_of_ble_eq_true rfl) hTy ?_
  intro p e s m args below meth c Q ls hx hb hr hlocks hown hml hW hK hT hS hQ hl
  have hl : lv_has ls 3 [(0, .ref (base + a0)), (1, .int a1)] := hl
  refine lv_iconst (v := 0) hx hb dX0_stepOn_0 (by decide) ?_
  refine lv_istore_n (lv' := [(2, .int 0), (0, .ref (base + a0)), (1, .int a1)]) hx hb dX0_stepOn_1 rfl hl (by decide) rfl (fun ls hl => ?_)
  have W2_2 : ∀ (n_2 : Nat) (x1 : Int32) (M2 : MT) (R3 : RT) (J4 : JT) (H : Heap) (locs : List Loc) (ls : Array Slot) (h_x1 : iv 0 5 x1) (hm_2 : 5 - x1.toInt < (n_2 : Int)) (hS : SB D cy base Z K N Lt_X0_stepOn LRt_X0_stepOn Ma Ra M2 R3 J4 s H locs) (hl : lv_has ls 3 [(2, .int x1), (0, .ref (base + a0)), (1, .int a1)]), W p l e (md_rm 1 0 0) s m args below meth c H locs 0 0 Q (F0 m 2 ls []) := by
    intro n_2
    induction n_2 with
    | zero =>
      intro x1 M2 R3 J4 H locs ls h_x1 hm_2 hS hl
      exfalso
      have := (h_a1).1; have := (h_a1).2; have := (h_x1).1; have := (h_x1).2; omega
    | succ n_2 ih_2 =>
      intro x1 M2 R3 J4 H locs ls h_x1 hm_2 hS hl
      have f5 := hS.2.2.1
      have g6 := hS.2.2.2
      refine lv_iload_n hx hb dX0_stepOn_2 rfl (lv_at hl 0 rfl) ?_
      refine lv_iconst (v := 5) hx hb dX0_stepOn_3 (by decide) ?_
      have J30_7 : ∀  (M7 : MT) (R8 : RT) (J9 : JT) (H : Heap) (locs : List Loc) (ls : Array Slot) (hS : SB D cy base Z K N Lt_X0_stepOn LRt_X0_stepOn Ma Ra M7 R8 J9 s H locs) (hl : lv_has ls 3 [(2, .int x1), (0, .ref (base + a0)), (1, .int a1)]), W p l e (md_rm 1 0 0) s m args below meth c H locs 0 0 Q (F0 m 30 ls []) := by
        intro  M7 R8 J9 H locs ls  hS hl
        have f10 := hS.2.2.1
        have g11 := hS.2.2.2
        refine lv_aload_n hx hb dX0_stepOn_30 rfl (lv_at hl 1 rfl) ?_
        refine tw_getr hx hb hW hown hK hS f_X0_9_0 hz_a0 hk_a0 (t := 20) (n := 10) rfl dX0_stepOn_31 (fun b12 k13 hz_b12 hk_b12 hn_b12 => ?_)
        have hn_b12 := hn_b12 (by decide)
        refine lv_iload_n hx hb dX0_stepOn_34 rfl (lv_at hl 0 rfl) ?_
        refine lv_dup2_11 hx hb dX0_stepOn_35 rfl rfl ?_
        refine tw_iald hx hb hK hS hz_b12 hk_b12 (Or.inr (by decide)) hn_b12 (lo := (-2147483648)) (hi := 2147483647) h_x1 ⟨by decide, by decide⟩ rg_u20 dX0_stepOn_36 (fun x16 k15 h14 => ?_)
        refine lv_iconst (v := 1) hx hb dX0_stepOn_37 (by decide) ?_
        refine lv_iadd hx hb dX0_stepOn_38 ?_
        refine tw_top (fun x18 => ?_)
        have h17 := iv_any x18
        refine tw_iast hx hb hK hS hz_b12 hk_b12 (Or.inr (by decide)) hn_b12 h_x1 ⟨by decide, by decide⟩ h17 (rg_s20 ⟨by decide, by decide⟩) (jl := 0) (jh := 1999999) ⟨by decide, by decide⟩ rfl dX0_stepOn_39 (fun H locs M21 hS k19 f20 => ?_)
        exact tw_endv hx hb hr hlocks hK hT hS hQ (trivial) dX0_stepOn_40
      refine lv_icmp_ge (tgt := 30) hx hb dX0_stepOn_4 (by decide) (fun c22 => ?_) (fun c22 => ?_)
      · have q23 : 5 ≤ x1.toInt := ti_le c22
        have h24 : iv 5 5 x1 := iv_geL (y := 5) h_x1 (iv_c (c := 5) (n := 5) (by decide)) q23 (by decide)
        exact J30_7  M2 R3 J4 H locs _  hS hl
      · have q25 : x1.toInt < 5 := ti_nle c22
        have h26 : iv 0 4 x1 := iv_ltL (y := 5) h_x1 (iv_c (c := 5) (n := 5) (by decide)) q25 (by decide)
        refine lv_aload_n hx hb dX0_stepOn_7 rfl (lv_at hl 1 rfl) ?_
        refine tw_getr hx hb hW hown hK hS f_X0_9_0 hz_a0 hk_a0 (t := 20) (n := 10) rfl dX0_stepOn_8 (fun b27 k28 hz_b27 hk_b27 hn_b27 => ?_)
        have hn_b27 := hn_b27 (by decide)
        refine lv_iload_n hx hb dX0_stepOn_11 rfl (lv_at hl 0 rfl) ?_
        refine tw_iald hx hb hK hS hz_b27 hk_b27 (Or.inr (by decide)) hn_b27 (lo := (-2147483648)) (hi := 2147483647) h26 ⟨by decide, by decide⟩ rg_u20 dX0_stepOn_12 (fun x31 k30 h29 => ?_)
        refine lv_iload_n hx hb dX0_stepOn_13 rfl (lv_at hl 2 rfl) ?_
        refine lv_icmp_lt (tgt := 30) hx hb dX0_stepOn_14 (by decide) (fun c32 => ?_) (fun c32 => ?_)
        · have q33 : x31.toInt < a1.toInt := ti_lt c32
          have h34 : iv (-2147483648) 5 x31 := iv_ltL (y := a1) h29 h_a1 q33 (by decide)
          exact J30_7  M2 R3 J4 H locs _  hS hl
        · have q35 : a1.toInt ≤ x31.toInt := ti_nlt c32
          have h36 : iv 1 2147483647 x31 := iv_geL (y := a1) h29 h_a1 q35 (by decide)
          refine lv_aload_n hx hb dX0_stepOn_17 rfl (lv_at hl 1 rfl) ?_
          refine tw_getrk hx hb hW hown hK hS f_X0_9_0 hz_a0 hk_a0 (b := b27) k28 dX0_stepOn_18 ?_
          refine lv_iload_n hx hb dX0_stepOn_21 rfl (lv_at hl 0 rfl) ?_
          refine lv_iconst (v := 1) hx hb dX0_stepOn_22 (by decide) ?_
          refine tw_iast hx hb hK hS hz_b27 hk_b27 (Or.inr (by decide)) hn_b27 h26 ⟨by decide, by decide⟩ (iv_c (c := 1) (n := 1) (by decide)) (rg_s20 ⟨by decide, by decide⟩) (jl := 0) (jh := 1999999) ⟨by decide, by decide⟩ rfl dX0_stepOn_23 (fun H locs M39 hS k37 f38 => ?_)
          refine tw_iinc (lv' := fun x42 => [(2, .int x42), (0, .ref (base + a0)), (1, .int a1)]) (lo := 1) (hi := 5) hx hb dX0_stepOn_24 hl (k := 0) rfl h26 (by decide) ⟨by decide, by decide⟩ ⟨by decide, by decide⟩ (by decide) (fun _ => rfl) (fun x42 ls e41 h40 hl => ?_)
          refine lv_goto (tgt := 2) hx hb dX0_stepOn_27 (by decide) ?_
          have hm43 : 5 - x42.toInt < (n_2 : Int) := by
            have := (h_a1).1; have := (h_a1).2; have := (h26).1; have := (h26).2; have := (h40).1; have := (h40).2; omega
          exact ih_2 x42 M39 R3 J4 H locs _ (iv_mono h40 (by decide) (by decide)) hm43 hS hl
  have hm44 : 5 - (0 : Int32).toInt < (((6 : Nat) : Int) : Int) := by
    have := (h_a1).1; have := (h_a1).2; have : (0 : Int32).toInt = 0 := (by decide); omega
  exact W2_2 6 0 Ma Ra Ja s.heap [] _ (iv_mono (iv_c (c := 0) (n := 0) (by decide)) (by decide) (by decide)) hm44 hS hl
def Lt_X10_begin : WL := [(3, 1, 4)]
def LRt_X10_begin : WL := [(3, 0, 1)]
set_option maxRecDepth 100000 in
set_option maxHeartbeats 4000000 in
theorem t_X10_begin (l : Launch) (D : va_G) (cy : Nat → ClassId) (tx : (Nat → Nat) × (Nat → Nat)) (base Z : Nat) (K N : Nat → Nat) (Ma : MT) (Ra : RT) (Ja : JT) (hTy : Ty Z K N Ma Ra) (a0 : Nat) (hz_a0 : a0 < Z) (hk_a0 : K a0 = 3) (a1 : Nat) (hz_a1 : a1 < Z) (hk_a1 : K a1 = 13) (hn_a1 : N a1 = 400) (a2 : Int32) (h_a2 : iv 0 400 a2) : Met l yX10_begin [Cond.code yX10_begin cX10_begin 3 none] (md_rm 1 0 0) (va_Pc [.ref (base + a0), .ref (base + a1), .int a2] (md_U D cy tx base Z K N Ma Ra Ja)) (mQv D cy tx base (fun u => TP Z K N Lt_X10_begin LRt_X10_begin Ma Ra u ∧ (u.2.2.2.2.1 a0 0 = some a1 ∧ (∃ x0 x1 x2 : Int32, u.2.2.2.1 a0 1 = x0 ∧ u.2.2.2.1 a0 2 = x1 ∧ u.2.2.2.1 a0 3 = x2 ∧ iv 0 400 x0 ∧ iv 0 0 x1 ∧ iv 0 0 x2 ∧ (x1.toInt = 0 ∧ x2.toInt = 0))))) 0 0 (fun q => base ≤ q) := by
  refine tw_ofW (L := Lt_X10_begin) (LR := LRt_X10_begin) (by decide) (Nat.le_of_ble_eq_true rfl) hTy ?_
  intro p e s m args below meth c Q ls hx hb hr hlocks hown hml hW hK hT hS hQ hl
  have hl : lv_has ls 3 [(0, .ref (base + a0)), (1, .ref (base + a1)), (2, .int a2)] := hl
  refine lv_aload_n hx hb dX10_begin_0 rfl (lv_at hl 0 rfl) ?_
  refine lv_aload_n hx hb dX10_begin_1 rfl (lv_at hl 1 rfl) ?_
  refine tw_putr hx hb hW hown hK hS f_X10_9_2 hz_a0 hk_a0 rfl rfl (t := 13) (n := 400) rfl hz_a1 hk_a1 (fun _ => hn_a1) rfl dX10_begin_2 (fun H locs R3 hS k1 f2 => ?_)
  refine lv_aload_n hx hb dX10_begin_5 rfl (lv_at hl 0 rfl) ?_
  refine lv_aload_n hx hb dX10_begin_6 rfl (lv_at hl 1 rfl) ?_
  refine lv_ifnonnull (tgt := 14) hx hb dX10_begin_7 (by decide) ?_
  refine lv_iload_n hx hb dX10_begin_14 rfl (lv_at hl 2 rfl) ?_
  refine lv_aload_n hx hb dX10_begin_15 rfl (lv_at hl 1 rfl) ?_
  refine tw_alenk hx hb hK hS hz_a1 hk_a1 (by decide) hn_a1 (v := 400) (by decide) dX10_begin_16 ?_
  refine va_mmin hx hb (hml.trans hl.1.symm) hown (hW _ w_3_85 rfl) (hW _ w_3_86 rfl) (hW _ w_1_13 rfl) (hW _ w_3_87 rfl) (Nat.le_of_ble_eq_true rfl) (Nat.le_of_ble_eq_true rfl) (Nat.le_of_ble_eq_true rfl) (Nat.le_of_ble_eq_true rfl) dX10_begin_17 ?_
  refine tw_mmin (lo := 0) (hi := 400) h_a2 (iv_c (c := 400) (n := 400) (by decide)) (by decide) (fun x6 e5 h4 => ?_)
  refine tw_puti hx hb hW hown hK hS f_X10_21_2 hz_a0 hk_a0 rfl rfl (lo := 0) (hi := 400) rfl h4 rfl dX10_begin_20 (fun H locs M9 hS k7 f8 => ?_)
  refine lv_aload_n hx hb dX10_begin_23 rfl (lv_at hl 0 rfl) ?_
  refine lv_iconst (v := 0) hx hb dX10_begin_24 (by decide) ?_
  refine tw_puti hx hb hW hown hK hS f_X10_25_2 hz_a0 hk_a0 rfl rfl (lo := 0) (hi := 1000) rfl (iv_mono (iv_c (c := 0) (n := 0) (by decide)) (by decide) (by decide)) rfl dX10_begin_25 (fun H locs M12 hS k10 f11 => ?_)
  refine lv_aload_n hx hb dX10_begin_28 rfl (lv_at hl 0 rfl) ?_
  refine lv_iconst (v := 0) hx hb dX10_begin_29 (by decide) ?_
  refine tw_puti hx hb hW hown hK hS f_X10_28_2 hz_a0 hk_a0 rfl rfl (lo := (-2147483648)) (hi := 2147483647) rfl (iv_mono (iv_c (c := 0) (n := 0) (by decide)) (by decide) (by decide)) rfl dX10_begin_30 (fun H locs M15 hS k13 f14 => ?_)
  have k16 : M15 a0 1 = x6 := ((Fr.kp (k := 1) f14 hk_a0 rfl).trans (Fr.kp (k := 1) f11 hk_a0 rfl)).trans k7
  have k17 : M15 a0 2 = 0 := (Fr.kp (k := 2) f14 hk_a0 rfl).trans k10
  have q18 : (0 : Int32).toInt = 0 ∧ (0 : Int32).toInt = 0 := by
    have := (h_a2).1; have := (h_a2).2; have : (0 : Int32).toInt = 0 := (by decide); omega
  exact tw_endv hx hb hr hlocks hK hT hS hQ (⟨k1, ⟨x6, 0, 0, k16, k17, k13, h4, (iv_c (c := 0) (n := 0) (by decide)), (iv_c (c := 0) (n := 0) (by decide)), q18⟩⟩) dX10_begin_33
def Lt_X10_begin_1 : WL := [(9, 1, 4)]
def LRt_X10_begin_1 : WL := [(9, 0, 1)]
set_option maxRecDepth 100000 in
set_option maxHeartbeats 4000000 in
theorem t_X10_begin_1 (l : Launch) (D : va_G) (cy : Nat → ClassId) (tx : (Nat → Nat) × (Nat → Nat)) (base Z : Nat) (K N : Nat → Nat) (Ma : MT) (Ra : RT) (Ja : JT) (hTy : Ty Z K N Ma Ra) (a0 : Nat) (hz_a0 : a0 < Z) (hk_a0 : K a0 = 9) (a1 : Nat) (hz_a1 : a1 < Z) (hk_a1 : K a1 = 13) (hn_a1 : N a1 = 400) (a2 : Int32) (h_a2 : iv 0 400 a2) : Met l yX10_begin [Cond.code yX10_begin cX10_begin 3 none] (md_rm 1 0 0) (va_Pc [.ref (base + a0), .ref (base + a1), .int a2] (md_U D cy tx base Z K N Ma Ra Ja)) (mQv D cy tx base (fun u => TP Z K N Lt_X10_begin_1 LRt_X10_begin_1 Ma Ra u ∧ (u.2.2.2.2.1 a0 0 = some a1 ∧ (∃ x0 x1 x2 : Int32, u.2.2.2.1 a0 1 = x0 ∧ u.2.2.2.1 a0 2 = x1 ∧ u.2.2.2.1 a0 3 = x2 ∧ iv 0 400 x0 ∧ iv 0 0 x1 ∧ iv 0 0 x2 ∧ (x1.toInt = 0 ∧ x2.toInt = 0))))) 0 0 (fun q => base ≤ q) := by
  refine tw_ofW (L := Lt_X10_begin_1) (LR := LRt_X10_begin_1) (by decide) (Nat.le_of_ble_eq_true rfl) hTy ?_
  intro p e s m args below meth c Q ls hx hb hr hlocks hown hml hW hK hT hS hQ hl
  have hl : lv_has ls 3 [(0, .ref (base + a0)), (1, .ref (base + a1)), (2, .int a2)] := hl
  refine lv_aload_n hx hb dX10_begin_0 rfl (lv_at hl 0 rfl) ?_
  refine lv_aload_n hx hb dX10_begin_1 rfl (lv_at hl 1 rfl) ?_
  refine tw_putr hx hb hW hown hK hS f_X10_9_8 hz_a0 hk_a0 rfl rfl (t := 13) (n := 400) rfl hz_a1 hk_a1 (fun _ => hn_a1) rfl dX10_begin_2 (fun H locs R3 hS k1 f2 => ?_)
  refine lv_aload_n hx hb dX10_begin_5 rfl (lv_at hl 0 rfl) ?_
  refine lv_aload_n hx hb dX10_begin_6 rfl (lv_at hl 1 rfl) ?_
  refine lv_ifnonnull (tgt := 14) hx hb dX10_begin_7 (by decide) ?_
  refine lv_iload_n hx hb dX10_begin_14 rfl (lv_at hl 2 rfl) ?_
  refine lv_aload_n hx hb dX10_begin_15 rfl (lv_at hl 1 rfl) ?_
  refine tw_alenk hx hb hK hS hz_a1 hk_a1 (by decide) hn_a1 (v := 400) (by decide) dX10_begin_16 ?_
  refine va_mmin hx hb (hml.trans hl.1.symm) hown (hW _ w_3_85 rfl) (hW _ w_3_86 rfl) (hW _ w_1_13 rfl) (hW _ w_3_87 rfl) (Nat.le_of_ble_eq_true rfl) (Nat.le_of_ble_eq_true rfl) (Nat.le_of_ble_eq_true rfl) (Nat.le_of_ble_eq_true rfl) dX10_begin_17 ?_
  refine tw_mmin (lo := 0) (hi := 400) h_a2 (iv_c (c := 400) (n := 400) (by decide)) (by decide) (fun x6 e5 h4 => ?_)
  refine tw_puti hx hb hW hown hK hS f_X10_21_8 hz_a0 hk_a0 rfl rfl (lo := 0) (hi := 400) rfl h4 rfl dX10_begin_20 (fun H locs M9 hS k7 f8 => ?_)
  refine lv_aload_n hx hb dX10_begin_23 rfl (lv_at hl 0 rfl) ?_
  refine lv_iconst (v := 0) hx hb dX10_begin_24 (by decide) ?_
  refine tw_puti hx hb hW hown hK hS f_X10_25_8 hz_a0 hk_a0 rfl rfl (lo := 0) (hi := 1000) rfl (iv_mono (iv_c (c := 0) (n := 0) (by decide)) (by decide) (by decide)) rfl dX10_begin_25 (fun H locs M12 hS k10 f11 => ?_)
  refine lv_aload_n hx hb dX10_begin_28 rfl (lv_at hl 0 rfl) ?_
  refine lv_iconst (v := 0) hx hb dX10_begin_29 (by decide) ?_
  refine tw_puti hx hb hW hown hK hS f_X10_28_8 hz_a0 hk_a0 rfl rfl (lo := (-2147483648)) (hi := 2147483647) rfl (iv_mono (iv_c (c := 0) (n := 0) (by decide)) (by decide) (by decide)) rfl dX10_begin_30 (fun H locs M15 hS k13 f14 => ?_)
  have k16 : M15 a0 1 = x6 := ((Fr.kp (k := 1) f14 hk_a0 rfl).trans (Fr.kp (k := 1) f11 hk_a0 rfl)).trans k7
  have k17 : M15 a0 2 = 0 := (Fr.kp (k := 2) f14 hk_a0 rfl).trans k10
  have q18 : (0 : Int32).toInt = 0 ∧ (0 : Int32).toInt = 0 := by
    have := (h_a2).1; have := (h_a2).2; have : (0 : Int32).toInt = 0 := (by decide); omega
  exact tw_endv hx hb hr hlocks hK hT hS hQ (⟨k1, ⟨x6, 0, 0, k16, k17, k13, h4, (iv_c (c := 0) (n := 0) (by decide)), (iv_c (c := 0) (n := 0) (by decide)), q18⟩⟩) dX10_begin_33
def Lt_X10_fail : WL := [(9, 3, 4)]
def LRt_X10_fail : WL := []
set_option maxRecDepth 100000 in
set_option maxHeartbeats 4000000 in
theorem t_X10_fail (l : Launch) (D : va_G) (cy : Nat → ClassId) (tx : (Nat → Nat) × (Nat → Nat)) (base Z : Nat) (K N : Nat → Nat) (Ma : MT) (Ra : RT) (Ja : JT) (hTy : Ty Z K N Ma Ra) (a0 : Nat) (hz_a0 : a0 < Z) (hk_a0 : K a0 = 9) (a1 : Int32) (h_a1 : iv 0 1000 a1) (a2 : Int32) (h_a2 : iv 0 4 a2) : Met l yX10_fail [Cond.code yX10_fail cX10_fail 3 none] (md_rm 1 0 0) (va_Pc [.ref (base + a0), .int a1, .int a2] (md_U D cy tx base Z K N Ma Ra Ja)) (mQv D cy tx base (fun u => TP Z K N Lt_X10_fail LRt_X10_fail Ma Ra u ∧ ((∃ x0 : Int32, u.2.2.2.1 a0 3 = x0 ∧ iv (-2147483648) 2147483647 x0 ∧ (¬ x0.toInt = 0))))) 0 0 (fun q => base ≤ q) := by
  refine tw_ofW (L := Lt_X10_fail) (LR := LRt_X10_fail) (by decide) (Nat.le_of_ble_eq_true rfl) hTy ?_
  intro p e s m args below meth c Q ls hx hb hr hlocks hown hml hW hK hT hS hQ hl
  have hl : lv_has ls 3 [(0, .ref (base + a0)), (1, .int a1), (2, .int a2)] := hl
  refine lv_aload_n hx hb dX10_fail_0 rfl (lv_at hl 0 rfl) ?_
  refine tw_geti hx hb hW hown hK hS f_X10_28_8 hz_a0 hk_a0 (lo := (-2147483648)) (hi := 2147483647) rfl dX10_fail_1 (fun x3 k2 h1 => ?_)
  refine lv_if_ne (tgt := 19) hx hb dX10_fail_4 (by decide) (fun c4 => ?_) (fun c4 => ?_)
  · have q5 : ¬ x3.toInt = 0 := ti_ne c4
    have q6 : ¬ x3.toInt = 0 := by
      have := (h_a1).1; have := (h_a1).2; have := (h_a2).1; have := (h_a2).2; have := (h1).1; have := (h1).2; omega
    exact tw_endv hx hb hr hlocks hK hT hS hQ (⟨x3, k2, h1, q6⟩) dX10_fail_19
  · have q7 : x3.toInt = 0 := ti_eq c4
    have h8 : iv 0 0 x3 := ⟨by have := (h1).1; have := ((iv_c (c := 0) (n := 0) (by decide))).1; omega, by have := (h1).2; have := ((iv_c (c := 0) (n := 0) (by decide))).2; omega⟩
    refine lv_aload_n hx hb dX10_fail_7 rfl (lv_at hl 0 rfl) ?_
    refine lv_iconst (v := 1) hx hb dX10_fail_8 (by decide) ?_
    refine lv_bipush (v := 8) hx hb dX10_fail_9 (by decide) ?_
    refine lv_iload_n hx hb dX10_fail_11 rfl (lv_at hl 1 rfl) ?_
    refine tw_icmul (k := 8) (lo := 0) (hi := 8000) hx hb (by decide) h_a1 (by decide) ⟨by decide, by decide⟩ ⟨by decide, by decide⟩ dX10_fail_12 (fun x11 e10 h9 => ?_)
    refine tw_iadd (lo := 1) (hi := 8001) hx hb (iv_c (c := 1) (n := 1) (by decide)) h9 ⟨by decide, by decide⟩ ⟨by decide, by decide⟩ dX10_fail_13 (fun x14 e13 h12 => ?_)
    have e13 : x14.toInt = 1 + x11.toInt := e13
    refine lv_iload_n hx hb dX10_fail_14 rfl (lv_at hl 2 rfl) ?_
    refine tw_iadd (lo := 1) (hi := 8005) hx hb h12 h_a2 ⟨by decide, by decide⟩ ⟨by decide, by decide⟩ dX10_fail_15 (fun x17 e16 h15 => ?_)
    refine tw_puti hx hb hW hown hK hS f_X10_28_8 hz_a0 hk_a0 rfl rfl (lo := (-2147483648)) (hi := 2147483647) rfl (iv_mono h15 (by decide) (by decide)) rfl dX10_fail_16 (fun H locs M20 hS k18 f19 => ?_)
    have q21 : ¬ x17.toInt = 0 := by
      have := (h_a1).1; have := (h_a1).2; have := (h_a2).1; have := (h_a2).2; have := (h9).1; have := (h9).2; have := (h12).1; have := (h12).2; have := (h15).1; have := (h15).2; omega
    exact tw_endv hx hb hr hlocks hK hT hS hQ (⟨x17, k18, (iv_mono h15 (by decide) (by decide)), q21⟩) dX10_fail_19
def Lt_X10_fail_1 : WL := [(3, 3, 4)]
def LRt_X10_fail_1 : WL := []
set_option maxRecDepth 100000 in
set_option maxHeartbeats 4000000 in
theorem t_X10_fail_1 (l : Launch) (D : va_G) (cy : Nat → ClassId) (tx : (Nat → Nat) × (Nat → Nat)) (base Z : Nat) (K N : Nat → Nat) (Ma : MT) (Ra : RT) (Ja : JT) (hTy : Ty Z K N Ma Ra) (a0 : Nat) (hz_a0 : a0 < Z) (hk_a0 : K a0 = 3) (a1 : Int32) (h_a1 : iv 0 1000 a1) (a2 : Int32) (h_a2 : iv 0 4 a2) : Met l yX10_fail [Cond.code yX10_fail cX10_fail 3 none] (md_rm 1 0 0) (va_Pc [.ref (base + a0), .int a1, .int a2] (md_U D cy tx base Z K N Ma Ra Ja)) (mQv D cy tx base (fun u => TP Z K N Lt_X10_fail_1 LRt_X10_fail_1 Ma Ra u ∧ ((∃ x0 : Int32, u.2.2.2.1 a0 3 = x0 ∧ iv (-2147483648) 2147483647 x0 ∧ (¬ x0.toInt = 0))))) 0 0 (fun q => base ≤ q) := by
  refine tw_ofW (L := Lt_X10_fail_1) (LR := LRt_X10_fail_1) (by decide) (Nat.le_of_ble_eq_true rfl) hTy ?_
  intro p e s m args below meth c Q ls hx hb hr hlocks hown hml hW hK hT hS hQ hl
  have hl : lv_has ls 3 [(0, .ref (base + a0)), (1, .int a1), (2, .int a2)] := hl
  refine lv_aload_n hx hb dX10_fail_0 rfl (lv_at hl 0 rfl) ?_
  refine tw_geti hx hb hW hown hK hS f_X10_28_2 hz_a0 hk_a0 (lo := (-2147483648)) (hi := 2147483647) rfl dX10_fail_1 (fun x3 k2 h1 => ?_)
  refine lv_if_ne (tgt := 19) hx hb dX10_fail_4 (by decide) (fun c4 => ?_) (fun c4 => ?_)
  · have q5 : ¬ x3.toInt = 0 := ti_ne c4
    have q6 : ¬ x3.toInt = 0 := by
      have := (h_a1).1; have := (h_a1).2; have := (h_a2).1; have := (h_a2).2; have := (h1).1; have := (h1).2; omega
    exact tw_endv hx hb hr hlocks hK hT hS hQ (⟨x3, k2, h1, q6⟩) dX10_fail_19
  · have q7 : x3.toInt = 0 := ti_eq c4
    have h8 : iv 0 0 x3 := ⟨by have := (h1).1; have := ((iv_c (c := 0) (n := 0) (by decide))).1; omega, by have := (h1).2; have := ((iv_c (c := 0) (n := 0) (by decide))).2; omega⟩
    refine lv_aload_n hx hb dX10_fail_7 rfl (lv_at hl 0 rfl) ?_
    refine lv_iconst (v := 1) hx hb dX10_fail_8 (by decide) ?_
    refine lv_bipush (v := 8) hx hb dX10_fail_9 (by decide) ?_
    refine lv_iload_n hx hb dX10_fail_11 rfl (lv_at hl 1 rfl) ?_
    refine tw_icmul (k := 8) (lo := 0) (hi := 8000) hx hb (by decide) h_a1 (by decide) ⟨by decide, by decide⟩ ⟨by decide, by decide⟩ dX10_fail_12 (fun x11 e10 h9 => ?_)
    refine tw_iadd (lo := 1) (hi := 8001) hx hb (iv_c (c := 1) (n := 1) (by decide)) h9 ⟨by decide, by decide⟩ ⟨by decide, by decide⟩ dX10_fail_13 (fun x14 e13 h12 => ?_)
    have e13 : x14.toInt = 1 + x11.toInt := e13
    refine lv_iload_n hx hb dX10_fail_14 rfl (lv_at hl 2 rfl) ?_
    refine tw_iadd (lo := 1) (hi := 8005) hx hb h12 h_a2 ⟨by decide, by decide⟩ ⟨by decide, by decide⟩ dX10_fail_15 (fun x17 e16 h15 => ?_)
    refine tw_puti hx hb hW hown hK hS f_X10_28_2 hz_a0 hk_a0 rfl rfl (lo := (-2147483648)) (hi := 2147483647) rfl (iv_mono h15 (by decide) (by decide)) rfl dX10_fail_16 (fun H locs M20 hS k18 f19 => ?_)
    have q21 : ¬ x17.toInt = 0 := by
      have := (h_a1).1; have := (h_a1).2; have := (h_a2).1; have := (h_a2).2; have := (h9).1; have := (h9).2; have := (h12).1; have := (h12).2; have := (h15).1; have := (h15).2; omega
    exact tw_endv hx hb hr hlocks hK hT hS hQ (⟨x17, k18, (iv_mono h15 (by decide) (by decide)), q21⟩) dX10_fail_19
def Lt_X10_here : WL := []
def LRt_X10_here : WL := []
set_option maxRecDepth 100000 in
set_option maxHeartbeats 4000000 in
theorem t_X10_here (l : Launch) (D : va_G) (cy : Nat → ClassId) (tx : (Nat → Nat) × (Nat → Nat)) (base Z : Nat) (K N : Nat → Nat) (Ma : MT) (Ra : RT) (Ja : JT) (hTy : Ty Z K N Ma Ra) (a0 : Nat) (hz_a0 : a0 < Z) (hk_a0 : K a0 = 9) (tb : Nat) (k_tb : Ra a0 0 = some tb) (ln : Int32) (k_ln : Ma a0 1 = ln) (h_ln : iv 0 400 ln) (pa : Int32) (k_pa : Ma a0 2 = pa) (h_pa : iv 0 1000 pa) : Met l yX10_here [Cond.code yX10_here cX10_here 1 (some .int)] (md_rm 1 0 0) (va_Pc [.ref (base + a0)] (md_U D cy tx base Z K N Ma Ra Ja)) (mQi D cy tx base (fun r u => TP Z K N Lt_X10_here LRt_X10_here Ma Ra u ∧ (iv (-2147483648) 2147483647 r ∧ (r.toInt = -1 ∨ pa.toInt < ln.toInt)))) 0 0 (fun q => base ≤ q) := by
  refine tw_ofW (L := Lt_X10_here) (LR := LRt_X10_here) (by decide) (Nat.le_of_ble_eq_true rfl) hTy ?_
  intro p e s m args below meth c Q ls hx hb hr hlocks hown hml hW hK hT hS hQ hl
  have hl : lv_has ls 1 [(0, .ref (base + a0))] := hl
  obtain ⟨hz_tb, hk_tb, hn_tb⟩ := hTy.refn hz_a0 hk_a0 (show rtR 9 0 = (13, 400, 1) from rfl) k_tb
  have hn_tb := hn_tb (by decide)
  refine lv_aload_n hx hb dX10_here_0 rfl (lv_at hl 0 rfl) ?_
  refine tw_getk hx hb hW hown hK hS f_X10_25_8 hz_a0 hk_a0 (v := pa) k_pa dX10_here_1 ?_
  refine lv_if_lt (tgt := 30) hx hb dX10_here_4 (by decide) (fun c1 => False.elim (by have q : pa.toInt < 0 := ti_lt c1; have := (h_pa).1; have := (h_pa).2; omega)) (fun c1 => ?_)
  have q2 : 0 ≤ pa.toInt := ti_nlt c1
  refine lv_aload_n hx hb dX10_here_7 rfl (lv_at hl 0 rfl) ?_
  refine tw_getk hx hb hW hown hK hS f_X10_25_8 hz_a0 hk_a0 (v := pa) k_pa dX10_here_8 ?_
  refine lv_aload_n hx hb dX10_here_11 rfl (lv_at hl 0 rfl) ?_
  refine tw_getk hx hb hW hown hK hS f_X10_21_8 hz_a0 hk_a0 (v := ln) k_ln dX10_here_12 ?_
  refine lv_icmp_ge (tgt := 30) hx hb dX10_here_15 (by decide) (fun c3 => ?_) (fun c3 => ?_)
  · have q4 : ln.toInt ≤ pa.toInt := ti_le c3
    refine lv_iconst (v := (-1)) hx hb dX10_here_30 (by decide) ?_
    have q5 : (-1 : Int32).toInt = -1 ∨ pa.toInt < ln.toInt := by
      have := (h_ln).1; have := (h_ln).2; have := (h_pa).1; have := (h_pa).2; have : (-1 : Int32).toInt = -1 := (by decide); omega
    exact tw_endi hx hb hr hlocks hK hT hS hQ (⟨(iv_mono (iv_c (c := (-1)) (n := (-1)) (by decide)) (by decide) (by decide)), q5⟩) dX10_here_31
  · have q6 : pa.toInt < ln.toInt := ti_nle c3
    have h7 : iv 0 399 pa := iv_ltL (y := ln) h_pa h_ln q6 (by decide)
    have h8 : iv 1 400 ln := iv_gtL (y := pa) h_ln h_pa q6 (by decide)
    refine lv_aload_n hx hb dX10_here_18 rfl (lv_at hl 0 rfl) ?_
    refine tw_getrk hx hb hW hown hK hS f_X10_9_8 hz_a0 hk_a0 (b := tb) k_tb dX10_here_19 ?_
    refine lv_aload_n hx hb dX10_here_22 rfl (lv_at hl 0 rfl) ?_
    refine tw_getk hx hb hW hown hK hS f_X10_25_8 hz_a0 hk_a0 (v := pa) k_pa dX10_here_23 ?_
    refine tw_bald hx hb hK hS hz_tb hk_tb hn_tb h7 ⟨by decide, by decide⟩ dX10_here_26 (fun x11 k10 => ?_)
    have h9 := iv_any x11
    refine lv_goto (tgt := 31) hx hb dX10_here_27 (by decide) ?_
    have q12 : x11.toInt = -1 ∨ pa.toInt < ln.toInt := by
      have := (h8).1; have := (h8).2; have := (h7).1; have := (h7).2; have := (h9).1; have := (h9).2; omega
    exact tw_endi hx hb hr hlocks hK hT hS hQ (⟨h9, q12⟩) dX10_here_31
def Lt_X10_hereBehindBlanks : WL := [(9, 2, 3)]
def LRt_X10_hereBehindBlanks : WL := []
set_option maxRecDepth 100000 in
set_option maxHeartbeats 4000000 in
theorem t_X10_hereBehindBlanks (l : Launch) (D : va_G) (cy : Nat → ClassId) (tx : (Nat → Nat) × (Nat → Nat)) (base Z : Nat) (K N : Nat → Nat) (Ma : MT) (Ra : RT) (Ja : JT) (hTy : Ty Z K N Ma Ra) (a0 : Nat) (hz_a0 : a0 < Z) (hk_a0 : K a0 = 9) (tb : Nat) (k_tb : Ra a0 0 = some tb) (ln : Int32) (k_ln : Ma a0 1 = ln) (h_ln : iv 0 400 ln) (pa : Int32) (k_pa : Ma a0 2 = pa) (h_pa : iv 0 1000 pa) : Met l yX10_hereBehindBlanks [Cond.code yX10_hereBehindBlanks cX10_hereBehindBlanks 1 (some .int)] (md_rm 2 0 0) (va_Pc [.ref (base + a0)] (md_U D cy tx base Z K N Ma Ra Ja)) (mQi D cy tx base (fun r u => TP Z K N Lt_X10_hereBehindBlanks LRt_X10_hereBehindBlanks Ma Ra u ∧ (iv (-2147483648) 2147483647 r ∧ (∃ x0 : Int32, u.2.2.2.1 a0 2 = x0 ∧ iv 0 1000 x0 ∧ ((pa.toInt ≤ x0.toInt ∧ (x0.toInt ≤ ln.toInt ∨ x0.toInt = pa.toInt)) ∧ (r.toInt = -1 ∨ x0.toInt < ln.toInt)))))) 0 0 (fun q => base ≤ q) := by
  refine tw_ofW (L := Lt_X10_hereBehindBlanks) (LR := LRt_X10_hereBehindBlanks) (by decide) (Nat.le_of_ble_eq_true rfl) hTy ?_
  intro p e s m args below meth c Q ls hx hb hr hlocks hown hml hW hK hT hS hQ hl
  have hl : lv_has ls 1 [(0, .ref (base + a0))] := hl
  obtain ⟨hz_tb, hk_tb, hn_tb⟩ := hTy.refn hz_a0 hk_a0 (show rtR 9 0 = (13, 400, 1) from rfl) k_tb
  have hn_tb := hn_tb (by decide)
  have W0_1 : ∀ (n_1 : Nat) (x6 : Int32) (M1 : MT) (R2 : RT) (J3 : JT) (H : Heap) (locs : List Loc) (ls : Array Slot) (h_x6 : iv 0 1000 x6) (k7 : M1 a0 2 = x6) (w0_1 : pa.toInt ≤ x6.toInt ∧ (x6.toInt ≤ ln.toInt ∨ x6.toInt = pa.toInt)) (hm_1 : 1000 - x6.toInt < (n_1 : Int)) (hS : SB D cy base Z K N Lt_X10_hereBehindBlanks LRt_X10_hereBehindBlanks Ma Ra M1 R2 J3 s H locs) (hl : lv_has ls 1 [(0, .ref (base + a0))]), W p l e (md_rm 2 0 0) s m args below meth c H locs 0 0 Q (F0 m 0 ls []) := by
    intro n_1
    induction n_1 with
    | zero =>
      intro x6 M1 R2 J3 H locs ls h_x6 k7 w0_1 hm_1 hS hl
      exfalso
      have := (h_ln).1; have := (h_ln).2; have := (h_pa).1; have := (h_pa).2; have := (h_x6).1; have := (h_x6).2; omega
    | succ n_1 ih_1 =>
      intro x6 M1 R2 J3 H locs ls h_x6 k7 w0_1 hm_1 hS hl
      have f4 := hS.2.2.1
      have g5 := hS.2.2.2
      refine lv_aload_n hx hb dX10_hereBehindBlanks_0 rfl (lv_at hl 0 rfl) ?_
      refine tw_getk hx hb hW hown hK hS f_X10_25_8 hz_a0 hk_a0 (v := x6) k7 dX10_hereBehindBlanks_1 ?_
      refine lv_aload_n hx hb dX10_hereBehindBlanks_4 rfl (lv_at hl 0 rfl) ?_
      have k8 : M1 a0 1 = ln := (Fr.kp (k := 1) f4 hk_a0 rfl).trans k_ln
      refine tw_getk hx hb hW hown hK hS f_X10_21_8 hz_a0 hk_a0 (v := ln) k8 dX10_hereBehindBlanks_5 ?_
      refine lv_icmp_ge (tgt := 38) hx hb dX10_hereBehindBlanks_8 (by decide) (fun c9 => ?_) (fun c9 => ?_)
      · have q10 : ln.toInt ≤ x6.toInt := ti_le c9
        refine lv_aload_n hx hb dX10_hereBehindBlanks_38 rfl (lv_at hl 0 rfl) ?_
        have k11 : R2 a0 0 = some tb := (Fr.kp (k := 0) g5 hk_a0 rfl).trans k_tb
        have k12 : M1 a0 1 = ln := (Fr.kp (k := 1) f4 hk_a0 rfl).trans k_ln
        refine tw_goi hS (md_runU (As := []) (rest := []) hx hb hml hown hW hK hT hS.1 (t_X10_here l D cy tx base Z K N M1 R2 J3 hS.2.1 a0 hz_a0 hk_a0 tb k11 ln k12 (iv_mono h_ln (by decide) (by decide)) x6 k7 (iv_mono h_x6 (by decide) (by decide))) s_X10_31_X8 ⟨rfl, rfl, ⟨Nat.le_of_ble_eq_true rfl, Nat.le_of_ble_eq_true rfl⟩, ⟨Nat.le_of_ble_eq_true rfl, Nat.le_of_ble_eq_true rfl⟩⟩ hz_a0 hk_a0 (by decide) rfl rfl hl.1 rfl (Nat.le_of_ble_eq_true rfl) dX10_hereBehindBlanks_39) rfl rfl (fun x19 H locs M16 R17 J15 hS f13 g14 E18 => ?_)
        have eM16 := Fr.nil f13 rfl
        subst eM16
        have eR17 := Fr.nil g14 rfl
        subst eR17
        obtain ⟨h_x19, p20⟩ := E18
        have q21 : (pa.toInt ≤ x6.toInt ∧ (x6.toInt ≤ ln.toInt ∨ x6.toInt = pa.toInt)) ∧ (x19.toInt = -1 ∨ x6.toInt < ln.toInt) := by
          have := (h_ln).1; have := (h_ln).2; have := (h_pa).1; have := (h_pa).2; have := (h_x19).1; have := (h_x19).2; have := (h_x6).1; have := (h_x6).2; omega
        exact tw_endi hx hb hr hlocks hK hT hS hQ (⟨h_x19, ⟨x6, k7, h_x6, q21⟩⟩) dX10_hereBehindBlanks_42
      · have q22 : x6.toInt < ln.toInt := ti_nle c9
        have h23 : iv 0 399 x6 := iv_ltL (y := ln) h_x6 h_ln q22 (by decide)
        have h24 : iv 1 400 ln := iv_gtL (y := x6) h_ln h_x6 q22 (by decide)
        refine lv_aload_n hx hb dX10_hereBehindBlanks_11 rfl (lv_at hl 0 rfl) ?_
        have k25 : R2 a0 0 = some tb := (Fr.kp (k := 0) g5 hk_a0 rfl).trans k_tb
        refine tw_getrk hx hb hW hown hK hS f_X10_9_8 hz_a0 hk_a0 (b := tb) k25 dX10_hereBehindBlanks_12 ?_
        refine lv_aload_n hx hb dX10_hereBehindBlanks_15 rfl (lv_at hl 0 rfl) ?_
        refine tw_getk hx hb hW hown hK hS f_X10_25_8 hz_a0 hk_a0 (v := x6) k7 dX10_hereBehindBlanks_16 ?_
        refine tw_bald hx hb hK hS hz_tb hk_tb hn_tb h23 ⟨by decide, by decide⟩ dX10_hereBehindBlanks_19 (fun x28 k27 => ?_)
        have h26 := iv_any x28
        refine lv_bipush (v := 32) hx hb dX10_hereBehindBlanks_20 (by decide) ?_
        refine lv_icmp_ne (tgt := 38) hx hb dX10_hereBehindBlanks_22 (by decide) (fun c29 => ?_) (fun c29 => ?_)
        · have q30 : ¬ x28.toInt = 32 := ti_ne c29
          refine lv_aload_n hx hb dX10_hereBehindBlanks_38 rfl (lv_at hl 0 rfl) ?_
          have k31 : R2 a0 0 = some tb := (Fr.kp (k := 0) g5 hk_a0 rfl).trans k_tb
          have k32 : M1 a0 1 = ln := (Fr.kp (k := 1) f4 hk_a0 rfl).trans k_ln
          refine tw_goi hS (md_runU (As := []) (rest := []) hx hb hml hown hW hK hT hS.1 (t_X10_here l D cy tx base Z K N M1 R2 J3 hS.2.1 a0 hz_a0 hk_a0 tb k31 ln k32 (iv_mono h24 (by decide) (by decide)) x6 k7 (iv_mono h23 (by decide) (by decide))) s_X10_31_X8 ⟨rfl, rfl, ⟨Nat.le_of_ble_eq_true rfl, Nat.le_of_ble_eq_true rfl⟩, ⟨Nat.le_of_ble_eq_true rfl, Nat.le_of_ble_eq_true rfl⟩⟩ hz_a0 hk_a0 (by decide) rfl rfl hl.1 rfl (Nat.le_of_ble_eq_true rfl) dX10_hereBehindBlanks_39) rfl rfl (fun x39 H locs M36 R37 J35 hS f33 g34 E38 => ?_)
          have eM36 := Fr.nil f33 rfl
          subst eM36
          have eR37 := Fr.nil g34 rfl
          subst eR37
          obtain ⟨h_x39, p40⟩ := E38
          have q41 : (pa.toInt ≤ x6.toInt ∧ (x6.toInt ≤ ln.toInt ∨ x6.toInt = pa.toInt)) ∧ (x39.toInt = -1 ∨ x6.toInt < ln.toInt) := by
            have := (h24).1; have := (h24).2; have := (h_pa).1; have := (h_pa).2; have := (h_x39).1; have := (h_x39).2; have := (h23).1; have := (h23).2; omega
          exact tw_endi hx hb hr hlocks hK hT hS hQ (⟨h_x39, ⟨x6, k7, (iv_mono h23 (by decide) (by decide)), q41⟩⟩) dX10_hereBehindBlanks_42
        · have q42 : x28.toInt = 32 := ti_eq c29
          have h43 : iv 32 32 x28 := ⟨by have := (h26).1; have := ((iv_c (c := 32) (n := 32) (by decide))).1; omega, by have := (h26).2; have := ((iv_c (c := 32) (n := 32) (by decide))).2; omega⟩
          refine lv_aload_n hx hb dX10_hereBehindBlanks_25 rfl (lv_at hl 0 rfl) ?_
          refine lv_dup hx hb dX10_hereBehindBlanks_26 rfl ?_
          refine tw_getk hx hb hW hown hK hS f_X10_25_8 hz_a0 hk_a0 (v := x6) k7 dX10_hereBehindBlanks_27 ?_
          refine lv_iconst (v := 1) hx hb dX10_hereBehindBlanks_30 (by decide) ?_
          refine tw_iadd (lo := 1) (hi := 400) hx hb h23 (iv_c (c := 1) (n := 1) (by decide)) ⟨by decide, by decide⟩ ⟨by decide, by decide⟩ dX10_hereBehindBlanks_31 (fun x46 e45 h44 => ?_)
          have e45 : x46.toInt = x6.toInt + 1 := e45
          refine tw_puti hx hb hW hown hK hS f_X10_25_8 hz_a0 hk_a0 rfl rfl (lo := 0) (hi := 1000) rfl (iv_mono h44 (by decide) (by decide)) rfl dX10_hereBehindBlanks_32 (fun H locs M49 hS k47 f48 => ?_)
          refine lv_goto (tgt := 0) hx hb dX10_hereBehindBlanks_35 (by decide) ?_
          have w50 : pa.toInt ≤ x46.toInt ∧ (x46.toInt ≤ ln.toInt ∨ x46.toInt = pa.toInt) := by
            have := (h24).1; have := (h24).2; have := (h_pa).1; have := (h_pa).2; have := (h44).1; have := (h44).2; have := (h23).1; have := (h23).2; omega
          have hm51 : 1000 - x46.toInt < (n_1 : Int) := by
            have := (h24).1; have := (h24).2; have := (h_pa).1; have := (h_pa).2; have := (h44).1; have := (h44).2; have := (h23).1; have := (h23).2; omega
          exact ih_1 x46 M49 R2 J3 H locs _ (iv_mono h44 (by decide) (by decide)) k47 w50 hm51 hS hl
  have w52 : pa.toInt ≤ pa.toInt ∧ (pa.toInt ≤ ln.toInt ∨ pa.toInt = pa.toInt) := by
    have := (h_ln).1; have := (h_ln).2; have := (h_pa).1; have := (h_pa).2; omega
  have hm53 : 1000 - pa.toInt < (((1001 : Nat) : Int) : Int) := by
    have := (h_ln).1; have := (h_ln).2; have := (h_pa).1; have := (h_pa).2; omega
  exact W0_1 1001 pa Ma Ra Ja s.heap [] _ h_pa k_pa w52 hm53 hS hl
def Lt_X10_goesOn : WL := [(9, 2, 4)]
def LRt_X10_goesOn : WL := []
set_option maxRecDepth 100000 in
set_option maxHeartbeats 4000000 in
theorem t_X10_goesOn (l : Launch) (D : va_G) (cy : Nat → ClassId) (tx : (Nat → Nat) × (Nat → Nat)) (base Z : Nat) (K N : Nat → Nat) (Ma : MT) (Ra : RT) (Ja : JT) (hTy : Ty Z K N Ma Ra) (a0 : Nat) (hz_a0 : a0 < Z) (hk_a0 : K a0 = 9) (tb : Nat) (k_tb : Ra a0 0 = some tb) (ln : Int32) (k_ln : Ma a0 1 = ln) (h_ln : iv 0 400 ln) (pa : Int32) (k_pa : Ma a0 2 = pa) (h_pa : iv 0 1000 pa) (fa : Int32) (k_fa : Ma a0 3 = fa) (h_fa : iv (-2147483648) 2147483647 fa) : Met l yX10_goesOn [Cond.code yX10_goesOn cX10_goesOn 2 (some .boolean)] (md_rm 3 0 0) (va_Pc [.ref (base + a0)] (md_U D cy tx base Z K N Ma Ra Ja)) (mQi D cy tx base (fun r u => TP Z K N Lt_X10_goesOn LRt_X10_goesOn Ma Ra u ∧ (iv 0 1 r ∧ (∃ x0 x1 : Int32, u.2.2.2.1 a0 2 = x0 ∧ u.2.2.2.1 a0 3 = x1 ∧ iv 0 1000 x0 ∧ iv (-2147483648) 2147483647 x1 ∧ ((x0.toInt ≤ ln.toInt ∨ x0.toInt = pa.toInt) ∧ (r.toInt = 0 ∨ (x1.toInt = 0 ∧ x0.toInt ≤ ln.toInt))))))) 0 0 (fun q => base ≤ q) := by
  refine tw_ofW (L := Lt_X10_goesOn) (LR := LRt_X10_goesOn) (by decide) (Nat.le_of_ble_eq_true rfl) hTy ?_
  intro p e s m args below meth c Q ls hx hb hr hlocks hown hml hW hK hT hS hQ hl
  have hl : lv_has ls 2 [(0, .ref (base + a0))] := hl
  obtain ⟨hz_tb, hk_tb, hn_tb⟩ := hTy.refn hz_a0 hk_a0 (show rtR 9 0 = (13, 400, 1) from rfl) k_tb
  have hn_tb := hn_tb (by decide)
  refine lv_aload_n hx hb dX10_goesOn_0 rfl (lv_at hl 0 rfl) ?_
  refine tw_goi hS (md_runU (As := []) (rest := []) hx hb hml hown hW hK hT hS.1 (t_X10_hereBehindBlanks l D cy tx base Z K N Ma Ra Ja hS.2.1 a0 hz_a0 hk_a0 tb k_tb ln k_ln (iv_mono h_ln (by decide) (by decide)) pa k_pa (iv_mono h_pa (by decide) (by decide))) s_X10_54_X8 ⟨rfl, rfl, ⟨Nat.le_of_ble_eq_true rfl, Nat.le_of_ble_eq_true rfl⟩, ⟨Nat.le_of_ble_eq_true rfl, Nat.le_of_ble_eq_true rfl⟩⟩ hz_a0 hk_a0 (by decide) rfl rfl hl.1 rfl (Nat.le_of_ble_eq_true rfl) dX10_goesOn_1) rfl rfl (fun x7 H locs M4 R5 J3 hS f1 g2 E6 => ?_)
  have eR5 := Fr.nil g2 rfl
  subst eR5
  obtain ⟨h_x7, p8⟩ := E6
  obtain ⟨x10, k11, h9, q12⟩ := p8
  have k11 : M4 a0 2 = x10 := k11
  refine lv_istore_n (lv' := [(1, .int x7), (0, .ref (base + a0))]) hx hb dX10_goesOn_4 rfl hl (by decide) rfl (fun ls hl => ?_)
  refine lv_aload_n hx hb dX10_goesOn_5 rfl (lv_at hl 1 rfl) ?_
  have k13 : M4 a0 3 = fa := (Fr.kp (k := 3) f1 hk_a0 rfl).trans k_fa
  refine tw_getk hx hb hW hown hK hS f_X10_28_8 hz_a0 hk_a0 (v := fa) k13 dX10_goesOn_6 ?_
  refine lv_if_ne (tgt := 23) hx hb dX10_goesOn_9 (by decide) (fun c14 => ?_) (fun c14 => ?_)
  · have q15 : ¬ fa.toInt = 0 := ti_ne c14
    refine lv_iconst (v := 0) hx hb dX10_goesOn_23 (by decide) ?_
    have k16 : M4 a0 3 = fa := (Fr.kp (k := 3) f1 hk_a0 rfl).trans k_fa
    have q17 : (x10.toInt ≤ ln.toInt ∨ x10.toInt = pa.toInt) ∧ ((0 : Int32).toInt = 0 ∨ (fa.toInt = 0 ∧ x10.toInt ≤ ln.toInt)) := by
      have := (h_fa).1; have := (h_fa).2; have := (h_ln).1; have := (h_ln).2; have := (h_pa).1; have := (h_pa).2; have := (h9).1; have := (h9).2; have : (0 : Int32).toInt = 0 := (by decide); omega
    exact tw_endz hx hb hr hlocks hK hT hS hQ rfl (⟨(iv_mono (iv_c (c := 0) (n := 0) (by decide)) (by decide) (by decide)), ⟨x10, fa, k11, k16, h9, h_fa, q17⟩⟩) dX10_goesOn_24
  · have q18 : fa.toInt = 0 := ti_eq c14
    have h19 : iv 0 0 fa := ⟨by have := (h_fa).1; have := ((iv_c (c := 0) (n := 0) (by decide))).1; omega, by have := (h_fa).2; have := ((iv_c (c := 0) (n := 0) (by decide))).2; omega⟩
    refine lv_aload_n hx hb dX10_goesOn_12 rfl (lv_at hl 1 rfl) ?_
    refine tw_getk hx hb hW hown hK hS f_X10_25_8 hz_a0 hk_a0 (v := x10) k11 dX10_goesOn_13 ?_
    refine lv_aload_n hx hb dX10_goesOn_16 rfl (lv_at hl 1 rfl) ?_
    have k20 : M4 a0 1 = ln := (Fr.kp (k := 1) f1 hk_a0 rfl).trans k_ln
    refine tw_getk hx hb hW hown hK hS f_X10_21_8 hz_a0 hk_a0 (v := ln) k20 dX10_goesOn_17 ?_
    refine lv_icmp_lt (tgt := 25) hx hb dX10_goesOn_20 (by decide) (fun c21 => ?_) (fun c21 => ?_)
    · have q22 : x10.toInt < ln.toInt := ti_lt c21
      have h23 : iv 0 399 x10 := iv_ltL (y := ln) h9 h_ln q22 (by decide)
      have h24 : iv 1 400 ln := iv_gtL (y := x10) h_ln h9 q22 (by decide)
      refine lv_iload_n hx hb dX10_goesOn_25 rfl (lv_at hl 0 rfl) ?_
      refine lv_bipush (v := 59) hx hb dX10_goesOn_26 (by decide) ?_
      refine lv_icmp_eq (tgt := 42) hx hb dX10_goesOn_28 (by decide) (fun c25 => ?_) (fun c25 => ?_)
      · have q26 : x7.toInt = 59 := ti_eq c25
        have h27 : iv 59 59 x7 := ⟨by have := (h_x7).1; have := ((iv_c (c := 59) (n := 59) (by decide))).1; omega, by have := (h_x7).2; have := ((iv_c (c := 59) (n := 59) (by decide))).2; omega⟩
        refine lv_aload_n hx hb dX10_goesOn_42 rfl (lv_at hl 1 rfl) ?_
        refine lv_dup hx hb dX10_goesOn_43 rfl ?_
        refine tw_getk hx hb hW hown hK hS f_X10_25_8 hz_a0 hk_a0 (v := x10) k11 dX10_goesOn_44 ?_
        refine lv_iconst (v := 1) hx hb dX10_goesOn_47 (by decide) ?_
        refine tw_iadd (lo := 1) (hi := 400) hx hb h23 (iv_c (c := 1) (n := 1) (by decide)) ⟨by decide, by decide⟩ ⟨by decide, by decide⟩ dX10_goesOn_48 (fun x30 e29 h28 => ?_)
        have e29 : x30.toInt = x10.toInt + 1 := e29
        refine tw_puti hx hb hW hown hK hS f_X10_25_8 hz_a0 hk_a0 rfl rfl (lo := 0) (hi := 1000) rfl (iv_mono h28 (by decide) (by decide)) rfl dX10_goesOn_49 (fun H locs M33 hS k31 f32 => ?_)
        refine lv_iconst (v := 1) hx hb dX10_goesOn_52 (by decide) ?_
        have k34 : M33 a0 3 = fa := ((Fr.kp (k := 3) f32 hk_a0 rfl).trans (Fr.kp (k := 3) f1 hk_a0 rfl)).trans k_fa
        have q35 : (x30.toInt ≤ ln.toInt ∨ x30.toInt = pa.toInt) ∧ ((1 : Int32).toInt = 0 ∨ (fa.toInt = 0 ∧ x30.toInt ≤ ln.toInt)) := by
          have := (h19).1; have := (h19).2; have := (h24).1; have := (h24).2; have := (h_pa).1; have := (h_pa).2; have := (h23).1; have := (h23).2; have := (h28).1; have := (h28).2; have : (1 : Int32).toInt = 1 := (by decide); omega
        exact tw_endz hx hb hr hlocks hK hT hS hQ rfl (⟨(iv_mono (iv_c (c := 1) (n := 1) (by decide)) (by decide) (by decide)), ⟨x30, fa, k31, k34, (iv_mono h28 (by decide) (by decide)), (iv_mono h19 (by decide) (by decide)), q35⟩⟩) dX10_goesOn_53
      · have q36 : ¬ x7.toInt = 59 := ti_ne c25
        refine lv_aload_n hx hb dX10_goesOn_31 rfl (lv_at hl 1 rfl) ?_
        refine lv_aload_n hx hb dX10_goesOn_32 rfl (lv_at hl 1 rfl) ?_
        refine tw_getk hx hb hW hown hK hS f_X10_25_8 hz_a0 hk_a0 (v := x10) k11 dX10_goesOn_33 ?_
        refine lv_iconst (v := 0) hx hb dX10_goesOn_36 (by decide) ?_
        refine tw_gov hS (md_runU (As := [.int x10, .int 0]) (rest := []) hx hb hml hown hW hK hT hS.1 (t_X10_fail l D cy tx base Z K N M4 Ra J3 hS.2.1 a0 hz_a0 hk_a0 x10 (iv_mono h23 (by decide) (by decide)) 0 (iv_mono (iv_c (c := 0) (n := 0) (by decide)) (by decide) (by decide))) s_X10_50_X8 ⟨rfl, rfl, ⟨Nat.le_of_ble_eq_true rfl, Nat.le_of_ble_eq_true rfl⟩, ⟨Nat.le_of_ble_eq_true rfl, Nat.le_of_ble_eq_true rfl⟩⟩ hz_a0 hk_a0 (by decide) rfl rfl hl.1 rfl (Nat.le_of_ble_eq_true rfl) dX10_goesOn_37) rfl rfl (fun H locs M40 R41 J39 hS f37 g38 E42 => ?_)
        have eR41 := Fr.nil g38 rfl
        subst eR41
        have p43 := E42
        clear E42
        obtain ⟨x45, k46, h44, q47⟩ := p43
        have k46 : M40 a0 3 = x45 := k46
        refine lv_iconst (v := 0) hx hb dX10_goesOn_40 (by decide) ?_
        have k48 : M40 a0 2 = x10 := (Fr.kp (k := 2) f37 hk_a0 rfl).trans k11
        have q49 : (x10.toInt ≤ ln.toInt ∨ x10.toInt = pa.toInt) ∧ ((0 : Int32).toInt = 0 ∨ (x45.toInt = 0 ∧ x10.toInt ≤ ln.toInt)) := by
          have := (h19).1; have := (h19).2; have := (h24).1; have := (h24).2; have := (h_pa).1; have := (h_pa).2; have := (h23).1; have := (h23).2; have := (h44).1; have := (h44).2; have : (0 : Int32).toInt = 0 := (by decide); omega
        exact tw_endz hx hb hr hlocks hK hT hS hQ rfl (⟨(iv_mono (iv_c (c := 0) (n := 0) (by decide)) (by decide) (by decide)), ⟨x10, x45, k48, k46, (iv_mono h23 (by decide) (by decide)), h44, q49⟩⟩) dX10_goesOn_41
    · have q50 : ln.toInt ≤ x10.toInt := ti_nlt c21
      refine lv_iconst (v := 0) hx hb dX10_goesOn_23 (by decide) ?_
      have k51 : M4 a0 3 = fa := (Fr.kp (k := 3) f1 hk_a0 rfl).trans k_fa
      have q52 : (x10.toInt ≤ ln.toInt ∨ x10.toInt = pa.toInt) ∧ ((0 : Int32).toInt = 0 ∨ (fa.toInt = 0 ∧ x10.toInt ≤ ln.toInt)) := by
        have := (h19).1; have := (h19).2; have := (h_ln).1; have := (h_ln).2; have := (h_pa).1; have := (h_pa).2; have := (h9).1; have := (h9).2; have : (0 : Int32).toInt = 0 := (by decide); omega
      exact tw_endz hx hb hr hlocks hK hT hS hQ rfl (⟨(iv_mono (iv_c (c := 0) (n := 0) (by decide)) (by decide) (by decide)), ⟨x10, fa, k11, k51, h9, (iv_mono h19 (by decide) (by decide)), q52⟩⟩) dX10_goesOn_24
def Lt_X10_here_1 : WL := []
def LRt_X10_here_1 : WL := []
set_option maxRecDepth 100000 in
set_option maxHeartbeats 4000000 in
theorem t_X10_here_1 (l : Launch) (D : va_G) (cy : Nat → ClassId) (tx : (Nat → Nat) × (Nat → Nat)) (base Z : Nat) (K N : Nat → Nat) (Ma : MT) (Ra : RT) (Ja : JT) (hTy : Ty Z K N Ma Ra) (a0 : Nat) (hz_a0 : a0 < Z) (hk_a0 : K a0 = 3) (tb : Nat) (k_tb : Ra a0 0 = some tb) (ln : Int32) (k_ln : Ma a0 1 = ln) (h_ln : iv 0 400 ln) (pa : Int32) (k_pa : Ma a0 2 = pa) (h_pa : iv 0 1000 pa) : Met l yX10_here [Cond.code yX10_here cX10_here 1 (some .int)] (md_rm 1 0 0) (va_Pc [.ref (base + a0)] (md_U D cy tx base Z K N Ma Ra Ja)) (mQi D cy tx base (fun r u => TP Z K N Lt_X10_here_1 LRt_X10_here_1 Ma Ra u ∧ (iv (-2147483648) 2147483647 r ∧ (r.toInt = -1 ∨ pa.toInt < ln.toInt)))) 0 0 (fun q => base ≤ q) := by
  refine tw_ofW (L := Lt_X10_here_1) (LR := LRt_X10_here_1) (by decide) (Nat.le_of_ble_eq_true rfl) hTy ?_
  intro p e s m args below meth c Q ls hx hb hr hlocks hown hml hW hK hT hS hQ hl
  have hl : lv_has ls 1 [(0, .ref (base + a0))] := hl
  obtain ⟨hz_tb, hk_tb, hn_tb⟩ := hTy.refn hz_a0 hk_a0 (show rtR 3 0 = (13, 400, 1) from rfl) k_tb
  have hn_tb := hn_tb (by decide)
  refine lv_aload_n hx hb dX10_here_0 rfl (lv_at hl 0 rfl) ?_
  refine tw_getk hx hb hW hown hK hS f_X10_25_2 hz_a0 hk_a0 (v := pa) k_pa dX10_here_1 ?_
  refine lv_if_lt (tgt := 30) hx hb dX10_here_4 (by decide) (fun c1 => False.elim (by have q : pa.toInt < 0 := ti_lt c1; have := (h_pa).1; have := (h_pa).2; omega)) (fun c1 => ?_)
  have q2 : 0 ≤ pa.toInt := ti_nlt c1
  refine lv_aload_n hx hb dX10_here_7 rfl (lv_at hl 0 rfl) ?_
  refine tw_getk hx hb hW hown hK hS f_X10_25_2 hz_a0 hk_a0 (v := pa) k_pa dX10_here_8 ?_
  refine lv_aload_n hx hb dX10_here_11 rfl (lv_at hl 0 rfl) ?_
  refine tw_getk hx hb hW hown hK hS f_X10_21_2 hz_a0 hk_a0 (v := ln) k_ln dX10_here_12 ?_
  refine lv_icmp_ge (tgt := 30) hx hb dX10_here_15 (by decide) (fun c3 => ?_) (fun c3 => ?_)
  · have q4 : ln.toInt ≤ pa.toInt := ti_le c3
    refine lv_iconst (v := (-1)) hx hb dX10_here_30 (by decide) ?_
    have q5 : (-1 : Int32).toInt = -1 ∨ pa.toInt < ln.toInt := by
      have := (h_ln).1; have := (h_ln).2; have := (h_pa).1; have := (h_pa).2; have : (-1 : Int32).toInt = -1 := (by decide); omega
    exact tw_endi hx hb hr hlocks hK hT hS hQ (⟨(iv_mono (iv_c (c := (-1)) (n := (-1)) (by decide)) (by decide) (by decide)), q5⟩) dX10_here_31
  · have q6 : pa.toInt < ln.toInt := ti_nle c3
    have h7 : iv 0 399 pa := iv_ltL (y := ln) h_pa h_ln q6 (by decide)
    have h8 : iv 1 400 ln := iv_gtL (y := pa) h_ln h_pa q6 (by decide)
    refine lv_aload_n hx hb dX10_here_18 rfl (lv_at hl 0 rfl) ?_
    refine tw_getrk hx hb hW hown hK hS f_X10_9_2 hz_a0 hk_a0 (b := tb) k_tb dX10_here_19 ?_
    refine lv_aload_n hx hb dX10_here_22 rfl (lv_at hl 0 rfl) ?_
    refine tw_getk hx hb hW hown hK hS f_X10_25_2 hz_a0 hk_a0 (v := pa) k_pa dX10_here_23 ?_
    refine tw_bald hx hb hK hS hz_tb hk_tb hn_tb h7 ⟨by decide, by decide⟩ dX10_here_26 (fun x11 k10 => ?_)
    have h9 := iv_any x11
    refine lv_goto (tgt := 31) hx hb dX10_here_27 (by decide) ?_
    have q12 : x11.toInt = -1 ∨ pa.toInt < ln.toInt := by
      have := (h8).1; have := (h8).2; have := (h7).1; have := (h7).2; have := (h9).1; have := (h9).2; omega
    exact tw_endi hx hb hr hlocks hK hT hS hQ (⟨h9, q12⟩) dX10_here_31
def Lt_X10_hereBehindBlanks_1 : WL := [(3, 2, 3)]
def LRt_X10_hereBehindBlanks_1 : WL := []
set_option maxRecDepth 100000 in
set_option maxHeartbeats 4000000 in
theorem t_X10_hereBehindBlanks_1 (l : Launch) (D : va_G) (cy : Nat → ClassId) (tx : (Nat → Nat) × (Nat → Nat)) (base Z : Nat) (K N : Nat → Nat) (Ma : MT) (Ra : RT) (Ja : JT) (hTy : Ty Z K N Ma Ra) (a0 : Nat) (hz_a0 : a0 < Z) (hk_a0 : K a0 = 3) (tb : Nat) (k_tb : Ra a0 0 = some tb) (ln : Int32) (k_ln : Ma a0 1 = ln) (h_ln : iv 0 400 ln) (pa : Int32) (k_pa : Ma a0 2 = pa) (h_pa : iv 0 1000 pa) : Met l yX10_hereBehindBlanks [Cond.code yX10_hereBehindBlanks cX10_hereBehindBlanks 1 (some .int)] (md_rm 2 0 0) (va_Pc [.ref (base + a0)] (md_U D cy tx base Z K N Ma Ra Ja)) (mQi D cy tx base (fun r u => TP Z K N Lt_X10_hereBehindBlanks_1 LRt_X10_hereBehindBlanks_1 Ma Ra u ∧ (iv (-2147483648) 2147483647 r ∧ (∃ x0 : Int32, u.2.2.2.1 a0 2 = x0 ∧ iv 0 1000 x0 ∧ ((pa.toInt ≤ x0.toInt ∧ (x0.toInt ≤ ln.toInt ∨ x0.toInt = pa.toInt)) ∧ (r.toInt = -1 ∨ x0.toInt < ln.toInt)))))) 0 0 (fun q => base ≤ q) := by
  refine tw_ofW (L := Lt_X10_hereBehindBlanks_1) (LR := LRt_X10_hereBehindBlanks_1) (by decide) (Nat.le_of_ble_eq_true rfl) hTy ?_
  intro p e s m args below meth c Q ls hx hb hr hlocks hown hml hW hK hT hS hQ hl
  have hl : lv_has ls 1 [(0, .ref (base + a0))] := hl
  obtain ⟨hz_tb, hk_tb, hn_tb⟩ := hTy.refn hz_a0 hk_a0 (show rtR 3 0 = (13, 400, 1) from rfl) k_tb
  have hn_tb := hn_tb (by decide)
  have W0_1 : ∀ (n_1 : Nat) (x6 : Int32) (M1 : MT) (R2 : RT) (J3 : JT) (H : Heap) (locs : List Loc) (ls : Array Slot) (h_x6 : iv 0 1000 x6) (k7 : M1 a0 2 = x6) (w0_1 : pa.toInt ≤ x6.toInt ∧ (x6.toInt ≤ ln.toInt ∨ x6.toInt = pa.toInt)) (hm_1 : 1000 - x6.toInt < (n_1 : Int)) (hS : SB D cy base Z K N Lt_X10_hereBehindBlanks_1 LRt_X10_hereBehindBlanks_1 Ma Ra M1 R2 J3 s H locs) (hl : lv_has ls 1 [(0, .ref (base + a0))]), W p l e (md_rm 2 0 0) s m args below meth c H locs 0 0 Q (F0 m 0 ls []) := by
    intro n_1
    induction n_1 with
    | zero =>
      intro x6 M1 R2 J3 H locs ls h_x6 k7 w0_1 hm_1 hS hl
      exfalso
      have := (h_ln).1; have := (h_ln).2; have := (h_pa).1; have := (h_pa).2; have := (h_x6).1; have := (h_x6).2; omega
    | succ n_1 ih_1 =>
      intro x6 M1 R2 J3 H locs ls h_x6 k7 w0_1 hm_1 hS hl
      have f4 := hS.2.2.1
      have g5 := hS.2.2.2
      refine lv_aload_n hx hb dX10_hereBehindBlanks_0 rfl (lv_at hl 0 rfl) ?_
      refine tw_getk hx hb hW hown hK hS f_X10_25_2 hz_a0 hk_a0 (v := x6) k7 dX10_hereBehindBlanks_1 ?_
      refine lv_aload_n hx hb dX10_hereBehindBlanks_4 rfl (lv_at hl 0 rfl) ?_
      have k8 : M1 a0 1 = ln := (Fr.kp (k := 1) f4 hk_a0 rfl).trans k_ln
      refine tw_getk hx hb hW hown hK hS f_X10_21_2 hz_a0 hk_a0 (v := ln) k8 dX10_hereBehindBlanks_5 ?_
      refine lv_icmp_ge (tgt := 38) hx hb dX10_hereBehindBlanks_8 (by decide) (fun c9 => ?_) (fun c9 => ?_)
      · have q10 : ln.toInt ≤ x6.toInt := ti_le c9
        refine lv_aload_n hx hb dX10_hereBehindBlanks_38 rfl (lv_at hl 0 rfl) ?_
        have k11 : R2 a0 0 = some tb := (Fr.kp (k := 0) g5 hk_a0 rfl).trans k_tb
        have k12 : M1 a0 1 = ln := (Fr.kp (k := 1) f4 hk_a0 rfl).trans k_ln
        refine tw_goi hS (md_runU (As := []) (rest := []) hx hb hml hown hW hK hT hS.1 (t_X10_here_1 l D cy tx base Z K N M1 R2 J3 hS.2.1 a0 hz_a0 hk_a0 tb k11 ln k12 (iv_mono h_ln (by decide) (by decide)) x6 k7 (iv_mono h_x6 (by decide) (by decide))) s_X10_31_X2 ⟨rfl, rfl, ⟨Nat.le_of_ble_eq_true rfl, Nat.le_of_ble_eq_true rfl⟩, ⟨Nat.le_of_ble_eq_true rfl, Nat.le_of_ble_eq_true rfl⟩⟩ hz_a0 hk_a0 (by decide) rfl rfl hl.1 rfl (Nat.le_of_ble_eq_true rfl) dX10_hereBehindBlanks_39) rfl rfl (fun x19 H locs M16 R17 J15 hS f13 g14 E18 => ?_)
        have eM16 := Fr.nil f13 rfl
        subst eM16
        have eR17 := Fr.nil g14 rfl
        subst eR17
        obtain ⟨h_x19, p20⟩ := E18
        have q21 : (pa.toInt ≤ x6.toInt ∧ (x6.toInt ≤ ln.toInt ∨ x6.toInt = pa.toInt)) ∧ (x19.toInt = -1 ∨ x6.toInt < ln.toInt) := by
          have := (h_ln).1; have := (h_ln).2; have := (h_pa).1; have := (h_pa).2; have := (h_x19).1; have := (h_x19).2; have := (h_x6).1; have := (h_x6).2; omega
        exact tw_endi hx hb hr hlocks hK hT hS hQ (⟨h_x19, ⟨x6, k7, h_x6, q21⟩⟩) dX10_hereBehindBlanks_42
      · have q22 : x6.toInt < ln.toInt := ti_nle c9
        have h23 : iv 0 399 x6 := iv_ltL (y := ln) h_x6 h_ln q22 (by decide)
        have h24 : iv 1 400 ln := iv_gtL (y := x6) h_ln h_x6 q22 (by decide)
        refine lv_aload_n hx hb dX10_hereBehindBlanks_11 rfl (lv_at hl 0 rfl) ?_
        have k25 : R2 a0 0 = some tb := (Fr.kp (k := 0) g5 hk_a0 rfl).trans k_tb
        refine tw_getrk hx hb hW hown hK hS f_X10_9_2 hz_a0 hk_a0 (b := tb) k25 dX10_hereBehindBlanks_12 ?_
        refine lv_aload_n hx hb dX10_hereBehindBlanks_15 rfl (lv_at hl 0 rfl) ?_
        refine tw_getk hx hb hW hown hK hS f_X10_25_2 hz_a0 hk_a0 (v := x6) k7 dX10_hereBehindBlanks_16 ?_
        refine tw_bald hx hb hK hS hz_tb hk_tb hn_tb h23 ⟨by decide, by decide⟩ dX10_hereBehindBlanks_19 (fun x28 k27 => ?_)
        have h26 := iv_any x28
        refine lv_bipush (v := 32) hx hb dX10_hereBehindBlanks_20 (by decide) ?_
        refine lv_icmp_ne (tgt := 38) hx hb dX10_hereBehindBlanks_22 (by decide) (fun c29 => ?_) (fun c29 => ?_)
        · have q30 : ¬ x28.toInt = 32 := ti_ne c29
          refine lv_aload_n hx hb dX10_hereBehindBlanks_38 rfl (lv_at hl 0 rfl) ?_
          have k31 : R2 a0 0 = some tb := (Fr.kp (k := 0) g5 hk_a0 rfl).trans k_tb
          have k32 : M1 a0 1 = ln := (Fr.kp (k := 1) f4 hk_a0 rfl).trans k_ln
          refine tw_goi hS (md_runU (As := []) (rest := []) hx hb hml hown hW hK hT hS.1 (t_X10_here_1 l D cy tx base Z K N M1 R2 J3 hS.2.1 a0 hz_a0 hk_a0 tb k31 ln k32 (iv_mono h24 (by decide) (by decide)) x6 k7 (iv_mono h23 (by decide) (by decide))) s_X10_31_X2 ⟨rfl, rfl, ⟨Nat.le_of_ble_eq_true rfl, Nat.le_of_ble_eq_true rfl⟩, ⟨Nat.le_of_ble_eq_true rfl, Nat.le_of_ble_eq_true rfl⟩⟩ hz_a0 hk_a0 (by decide) rfl rfl hl.1 rfl (Nat.le_of_ble_eq_true rfl) dX10_hereBehindBlanks_39) rfl rfl (fun x39 H locs M36 R37 J35 hS f33 g34 E38 => ?_)
          have eM36 := Fr.nil f33 rfl
          subst eM36
          have eR37 := Fr.nil g34 rfl
          subst eR37
          obtain ⟨h_x39, p40⟩ := E38
          have q41 : (pa.toInt ≤ x6.toInt ∧ (x6.toInt ≤ ln.toInt ∨ x6.toInt = pa.toInt)) ∧ (x39.toInt = -1 ∨ x6.toInt < ln.toInt) := by
            have := (h24).1; have := (h24).2; have := (h_pa).1; have := (h_pa).2; have := (h_x39).1; have := (h_x39).2; have := (h23).1; have := (h23).2; omega
          exact tw_endi hx hb hr hlocks hK hT hS hQ (⟨h_x39, ⟨x6, k7, (iv_mono h23 (by decide) (by decide)), q41⟩⟩) dX10_hereBehindBlanks_42
        · have q42 : x28.toInt = 32 := ti_eq c29
          have h43 : iv 32 32 x28 := ⟨by have := (h26).1; have := ((iv_c (c := 32) (n := 32) (by decide))).1; omega, by have := (h26).2; have := ((iv_c (c := 32) (n := 32) (by decide))).2; omega⟩
          refine lv_aload_n hx hb dX10_hereBehindBlanks_25 rfl (lv_at hl 0 rfl) ?_
          refine lv_dup hx hb dX10_hereBehindBlanks_26 rfl ?_
          refine tw_getk hx hb hW hown hK hS f_X10_25_2 hz_a0 hk_a0 (v := x6) k7 dX10_hereBehindBlanks_27 ?_
          refine lv_iconst (v := 1) hx hb dX10_hereBehindBlanks_30 (by decide) ?_
          refine tw_iadd (lo := 1) (hi := 400) hx hb h23 (iv_c (c := 1) (n := 1) (by decide)) ⟨by decide, by decide⟩ ⟨by decide, by decide⟩ dX10_hereBehindBlanks_31 (fun x46 e45 h44 => ?_)
          have e45 : x46.toInt = x6.toInt + 1 := e45
          refine tw_puti hx hb hW hown hK hS f_X10_25_2 hz_a0 hk_a0 rfl rfl (lo := 0) (hi := 1000) rfl (iv_mono h44 (by decide) (by decide)) rfl dX10_hereBehindBlanks_32 (fun H locs M49 hS k47 f48 => ?_)
          refine lv_goto (tgt := 0) hx hb dX10_hereBehindBlanks_35 (by decide) ?_
          have w50 : pa.toInt ≤ x46.toInt ∧ (x46.toInt ≤ ln.toInt ∨ x46.toInt = pa.toInt) := by
            have := (h24).1; have := (h24).2; have := (h_pa).1; have := (h_pa).2; have := (h44).1; have := (h44).2; have := (h23).1; have := (h23).2; omega
          have hm51 : 1000 - x46.toInt < (n_1 : Int) := by
            have := (h24).1; have := (h24).2; have := (h_pa).1; have := (h_pa).2; have := (h44).1; have := (h44).2; have := (h23).1; have := (h23).2; omega
          exact ih_1 x46 M49 R2 J3 H locs _ (iv_mono h44 (by decide) (by decide)) k47 w50 hm51 hS hl
  have w52 : pa.toInt ≤ pa.toInt ∧ (pa.toInt ≤ ln.toInt ∨ pa.toInt = pa.toInt) := by
    have := (h_ln).1; have := (h_ln).2; have := (h_pa).1; have := (h_pa).2; omega
  have hm53 : 1000 - pa.toInt < (((1001 : Nat) : Int) : Int) := by
    have := (h_ln).1; have := (h_ln).2; have := (h_pa).1; have := (h_pa).2; omega
  exact W0_1 1001 pa Ma Ra Ja s.heap [] _ h_pa k_pa w52 hm53 hS hl
def Lt_X10_goesOn_1 : WL := [(3, 2, 4)]
def LRt_X10_goesOn_1 : WL := []
set_option maxRecDepth 100000 in
set_option maxHeartbeats 4000000 in
theorem t_X10_goesOn_1 (l : Launch) (D : va_G) (cy : Nat → ClassId) (tx : (Nat → Nat) × (Nat → Nat)) (base Z : Nat) (K N : Nat → Nat) (Ma : MT) (Ra : RT) (Ja : JT) (hTy : Ty Z K N Ma Ra) (a0 : Nat) (hz_a0 : a0 < Z) (hk_a0 : K a0 = 3) (tb : Nat) (k_tb : Ra a0 0 = some tb) (ln : Int32) (k_ln : Ma a0 1 = ln) (h_ln : iv 0 400 ln) (pa : Int32) (k_pa : Ma a0 2 = pa) (h_pa : iv 0 1000 pa) (fa : Int32) (k_fa : Ma a0 3 = fa) (h_fa : iv (-2147483648) 2147483647 fa) : Met l yX10_goesOn [Cond.code yX10_goesOn cX10_goesOn 2 (some .boolean)] (md_rm 3 0 0) (va_Pc [.ref (base + a0)] (md_U D cy tx base Z K N Ma Ra Ja)) (mQi D cy tx base (fun r u => TP Z K N Lt_X10_goesOn_1 LRt_X10_goesOn_1 Ma Ra u ∧ (iv 0 1 r ∧ (∃ x0 x1 : Int32, u.2.2.2.1 a0 2 = x0 ∧ u.2.2.2.1 a0 3 = x1 ∧ iv 0 1000 x0 ∧ iv (-2147483648) 2147483647 x1 ∧ ((x0.toInt ≤ ln.toInt ∨ x0.toInt = pa.toInt) ∧ (r.toInt = 0 ∨ (x1.toInt = 0 ∧ x0.toInt ≤ ln.toInt))))))) 0 0 (fun q => base ≤ q) := by
  refine tw_ofW (L := Lt_X10_goesOn_1) (LR := LRt_X10_goesOn_1) (by decide) (Nat.le_of_ble_eq_true rfl) hTy ?_
  intro p e s m args below meth c Q ls hx hb hr hlocks hown hml hW hK hT hS hQ hl
  have hl : lv_has ls 2 [(0, .ref (base + a0))] := hl
  obtain ⟨hz_tb, hk_tb, hn_tb⟩ := hTy.refn hz_a0 hk_a0 (show rtR 3 0 = (13, 400, 1) from rfl) k_tb
  have hn_tb := hn_tb (by decide)
  refine lv_aload_n hx hb dX10_goesOn_0 rfl (lv_at hl 0 rfl) ?_
  refine tw_goi hS (md_runU (As := []) (rest := []) hx hb hml hown hW hK hT hS.1 (t_X10_hereBehindBlanks_1 l D cy tx base Z K N Ma Ra Ja hS.2.1 a0 hz_a0 hk_a0 tb k_tb ln k_ln (iv_mono h_ln (by decide) (by decide)) pa k_pa (iv_mono h_pa (by decide) (by decide))) s_X10_54_X2 ⟨rfl, rfl, ⟨Nat.le_of_ble_eq_true rfl, Nat.le_of_ble_eq_true rfl⟩, ⟨Nat.le_of_ble_eq_true rfl, Nat.le_of_ble_eq_true rfl⟩⟩ hz_a0 hk_a0 (by decide) rfl rfl hl.1 rfl (Nat.le_of_ble_eq_true rfl) dX10_goesOn_1) rfl rfl (fun x7 H locs M4 R5 J3 hS f1 g2 E6 => ?_)
  have eR5 := Fr.nil g2 rfl
  subst eR5
  obtain ⟨h_x7, p8⟩ := E6
  obtain ⟨x10, k11, h9, q12⟩ := p8
  have k11 : M4 a0 2 = x10 := k11
  refine lv_istore_n (lv' := [(1, .int x7), (0, .ref (base + a0))]) hx hb dX10_goesOn_4 rfl hl (by decide) rfl (fun ls hl => ?_)
  refine lv_aload_n hx hb dX10_goesOn_5 rfl (lv_at hl 1 rfl) ?_
  have k13 : M4 a0 3 = fa := (Fr.kp (k := 3) f1 hk_a0 rfl).trans k_fa
  refine tw_getk hx hb hW hown hK hS f_X10_28_2 hz_a0 hk_a0 (v := fa) k13 dX10_goesOn_6 ?_
  refine lv_if_ne (tgt := 23) hx hb dX10_goesOn_9 (by decide) (fun c14 => ?_) (fun c14 => ?_)
  · have q15 : ¬ fa.toInt = 0 := ti_ne c14
    refine lv_iconst (v := 0) hx hb dX10_goesOn_23 (by decide) ?_
    have k16 : M4 a0 3 = fa := (Fr.kp (k := 3) f1 hk_a0 rfl).trans k_fa
    have q17 : (x10.toInt ≤ ln.toInt ∨ x10.toInt = pa.toInt) ∧ ((0 : Int32).toInt = 0 ∨ (fa.toInt = 0 ∧ x10.toInt ≤ ln.toInt)) := by
      have := (h_fa).1; have := (h_fa).2; have := (h_ln).1; have := (h_ln).2; have := (h_pa).1; have := (h_pa).2; have := (h9).1; have := (h9).2; have : (0 : Int32).toInt = 0 := (by decide); omega
    exact tw_endz hx hb hr hlocks hK hT hS hQ rfl (⟨(iv_mono (iv_c (c := 0) (n := 0) (by decide)) (by decide) (by decide)), ⟨x10, fa, k11, k16, h9, h_fa, q17⟩⟩) dX10_goesOn_24
  · have q18 : fa.toInt = 0 := ti_eq c14
    have h19 : iv 0 0 fa := ⟨by have := (h_fa).1; have := ((iv_c (c := 0) (n := 0) (by decide))).1; omega, by have := (h_fa).2; have := ((iv_c (c := 0) (n := 0) (by decide))).2; omega⟩
    refine lv_aload_n hx hb dX10_goesOn_12 rfl (lv_at hl 1 rfl) ?_
    refine tw_getk hx hb hW hown hK hS f_X10_25_2 hz_a0 hk_a0 (v := x10) k11 dX10_goesOn_13 ?_
    refine lv_aload_n hx hb dX10_goesOn_16 rfl (lv_at hl 1 rfl) ?_
    have k20 : M4 a0 1 = ln := (Fr.kp (k := 1) f1 hk_a0 rfl).trans k_ln
    refine tw_getk hx hb hW hown hK hS f_X10_21_2 hz_a0 hk_a0 (v := ln) k20 dX10_goesOn_17 ?_
    refine lv_icmp_lt (tgt := 25) hx hb dX10_goesOn_20 (by decide) (fun c21 => ?_) (fun c21 => ?_)
    · have q22 : x10.toInt < ln.toInt := ti_lt c21
      have h23 : iv 0 399 x10 := iv_ltL (y := ln) h9 h_ln q22 (by decide)
      have h24 : iv 1 400 ln := iv_gtL (y := x10) h_ln h9 q22 (by decide)
      refine lv_iload_n hx hb dX10_goesOn_25 rfl (lv_at hl 0 rfl) ?_
      refine lv_bipush (v := 59) hx hb dX10_goesOn_26 (by decide) ?_
      refine lv_icmp_eq (tgt := 42) hx hb dX10_goesOn_28 (by decide) (fun c25 => ?_) (fun c25 => ?_)
      · have q26 : x7.toInt = 59 := ti_eq c25
        have h27 : iv 59 59 x7 := ⟨by have := (h_x7).1; have := ((iv_c (c := 59) (n := 59) (by decide))).1; omega, by have := (h_x7).2; have := ((iv_c (c := 59) (n := 59) (by decide))).2; omega⟩
        refine lv_aload_n hx hb dX10_goesOn_42 rfl (lv_at hl 1 rfl) ?_
        refine lv_dup hx hb dX10_goesOn_43 rfl ?_
        refine tw_getk hx hb hW hown hK hS f_X10_25_2 hz_a0 hk_a0 (v := x10) k11 dX10_goesOn_44 ?_
        refine lv_iconst (v := 1) hx hb dX10_goesOn_47 (by decide) ?_
        refine tw_iadd (lo := 1) (hi := 400) hx hb h23 (iv_c (c := 1) (n := 1) (by decide)) ⟨by decide, by decide⟩ ⟨by decide, by decide⟩ dX10_goesOn_48 (fun x30 e29 h28 => ?_)
        have e29 : x30.toInt = x10.toInt + 1 := e29
        refine tw_puti hx hb hW hown hK hS f_X10_25_2 hz_a0 hk_a0 rfl rfl (lo := 0) (hi := 1000) rfl (iv_mono h28 (by decide) (by decide)) rfl dX10_goesOn_49 (fun H locs M33 hS k31 f32 => ?_)
        refine lv_iconst (v := 1) hx hb dX10_goesOn_52 (by decide) ?_
        have k34 : M33 a0 3 = fa := ((Fr.kp (k := 3) f32 hk_a0 rfl).trans (Fr.kp (k := 3) f1 hk_a0 rfl)).trans k_fa
        have q35 : (x30.toInt ≤ ln.toInt ∨ x30.toInt = pa.toInt) ∧ ((1 : Int32).toInt = 0 ∨ (fa.toInt = 0 ∧ x30.toInt ≤ ln.toInt)) := by
          have := (h19).1; have := (h19).2; have := (h24).1; have := (h24).2; have := (h_pa).1; have := (h_pa).2; have := (h23).1; have := (h23).2; have := (h28).1; have := (h28).2; have : (1 : Int32).toInt = 1 := (by decide); omega
        exact tw_endz hx hb hr hlocks hK hT hS hQ rfl (⟨(iv_mono (iv_c (c := 1) (n := 1) (by decide)) (by decide) (by decide)), ⟨x30, fa, k31, k34, (iv_mono h28 (by decide) (by decide)), (iv_mono h19 (by decide) (by decide)), q35⟩⟩) dX10_goesOn_53
      · have q36 : ¬ x7.toInt = 59 := ti_ne c25
        refine lv_aload_n hx hb dX10_goesOn_31 rfl (lv_at hl 1 rfl) ?_
        refine lv_aload_n hx hb dX10_goesOn_32 rfl (lv_at hl 1 rfl) ?_
        refine tw_getk hx hb hW hown hK hS f_X10_25_2 hz_a0 hk_a0 (v := x10) k11 dX10_goesOn_33 ?_
        refine lv_iconst (v := 0) hx hb dX10_goesOn_36 (by decide) ?_
        refine tw_gov hS (md_runU (As := [.int x10, .int 0]) (rest := []) hx hb hml hown hW hK hT hS.1 (t_X10_fail_1 l D cy tx base Z K N M4 Ra J3 hS.2.1 a0 hz_a0 hk_a0 x10 (iv_mono h23 (by decide) (by decide)) 0 (iv_mono (iv_c (c := 0) (n := 0) (by decide)) (by decide) (by decide))) s_X10_50_X2 ⟨rfl, rfl, ⟨Nat.le_of_ble_eq_true rfl, Nat.le_of_ble_eq_true rfl⟩, ⟨Nat.le_of_ble_eq_true rfl, Nat.le_of_ble_eq_true rfl⟩⟩ hz_a0 hk_a0 (by decide) rfl rfl hl.1 rfl (Nat.le_of_ble_eq_true rfl) dX10_goesOn_37) rfl rfl (fun H locs M40 R41 J39 hS f37 g38 E42 => ?_)
        have eR41 := Fr.nil g38 rfl
        subst eR41
        have p43 := E42
        clear E42
        obtain ⟨x45, k46, h44, q47⟩ := p43
        have k46 : M40 a0 3 = x45 := k46
        refine lv_iconst (v := 0) hx hb dX10_goesOn_40 (by decide) ?_
        have k48 : M40 a0 2 = x10 := (Fr.kp (k := 2) f37 hk_a0 rfl).trans k11
        have q49 : (x10.toInt ≤ ln.toInt ∨ x10.toInt = pa.toInt) ∧ ((0 : Int32).toInt = 0 ∨ (x45.toInt = 0 ∧ x10.toInt ≤ ln.toInt)) := by
          have := (h19).1; have := (h19).2; have := (h24).1; have := (h24).2; have := (h_pa).1; have := (h_pa).2; have := (h23).1; have := (h23).2; have := (h44).1; have := (h44).2; have : (0 : Int32).toInt = 0 := (by decide); omega
        exact tw_endz hx hb hr hlocks hK hT hS hQ rfl (⟨(iv_mono (iv_c (c := 0) (n := 0) (by decide)) (by decide) (by decide)), ⟨x10, x45, k48, k46, (iv_mono h23 (by decide) (by decide)), h44, q49⟩⟩) dX10_goesOn_41
    · have q50 : ln.toInt ≤ x10.toInt := ti_nlt c21
      refine lv_iconst (v := 0) hx hb dX10_goesOn_23 (by decide) ?_
      have k51 : M4 a0 3 = fa := (Fr.kp (k := 3) f1 hk_a0 rfl).trans k_fa
      have q52 : (x10.toInt ≤ ln.toInt ∨ x10.toInt = pa.toInt) ∧ ((0 : Int32).toInt = 0 ∨ (fa.toInt = 0 ∧ x10.toInt ≤ ln.toInt)) := by
        have := (h19).1; have := (h19).2; have := (h_ln).1; have := (h_ln).2; have := (h_pa).1; have := (h_pa).2; have := (h9).1; have := (h9).2; have : (0 : Int32).toInt = 0 := (by decide); omega
      exact tw_endz hx hb hr hlocks hK hT hS hQ rfl (⟨(iv_mono (iv_c (c := 0) (n := 0) (by decide)) (by decide) (by decide)), ⟨x10, fa, k11, k51, h9, (iv_mono h19 (by decide) (by decide)), q52⟩⟩) dX10_goesOn_24
def Lt_X10_isDigitHere : WL := []
def LRt_X10_isDigitHere : WL := []
set_option maxRecDepth 100000 in
set_option maxHeartbeats 4000000 in
theorem t_X10_isDigitHere (l : Launch) (D : va_G) (cy : Nat → ClassId) (tx : (Nat → Nat) × (Nat → Nat)) (base Z : Nat) (K N : Nat → Nat) (Ma : MT) (Ra : RT) (Ja : JT) (hTy : Ty Z K N Ma Ra) (a0 : Nat) (hz_a0 : a0 < Z) (hk_a0 : K a0 = 9) (tb : Nat) (k_tb : Ra a0 0 = some tb) (ln : Int32) (k_ln : Ma a0 1 = ln) (h_ln : iv 0 400 ln) (pa : Int32) (k_pa : Ma a0 2 = pa) (h_pa : iv 0 1000 pa) : Met l yX10_isDigitHere [Cond.code yX10_isDigitHere cX10_isDigitHere 1 (some .boolean)] (md_rm 1 0 0) (va_Pc [.ref (base + a0)] (md_U D cy tx base Z K N Ma Ra Ja)) (mQi D cy tx base (fun r u => TP Z K N Lt_X10_isDigitHere LRt_X10_isDigitHere Ma Ra u ∧ (iv 0 1 r ∧ (¬ r = 0 → pa.toInt < ln.toInt)))) 0 0 (fun q => base ≤ q) := by
  refine tw_ofW (L := Lt_X10_isDigitHere) (LR := LRt_X10_isDigitHere) (by decide) (Nat.le_of_ble_eq_true rfl) hTy ?_
  intro p e s m args below meth c Q ls hx hb hr hlocks hown hml hW hK hT hS hQ hl
  have hl : lv_has ls 1 [(0, .ref (base + a0))] := hl
  obtain ⟨hz_tb, hk_tb, hn_tb⟩ := hTy.refn hz_a0 hk_a0 (show rtR 9 0 = (13, 400, 1) from rfl) k_tb
  have hn_tb := hn_tb (by decide)
  refine lv_aload_n hx hb dX10_isDigitHere_0 rfl (lv_at hl 0 rfl) ?_
  refine tw_getk hx hb hW hown hK hS f_X10_25_8 hz_a0 hk_a0 (v := pa) k_pa dX10_isDigitHere_1 ?_
  refine lv_aload_n hx hb dX10_isDigitHere_4 rfl (lv_at hl 0 rfl) ?_
  refine tw_getk hx hb hW hown hK hS f_X10_21_8 hz_a0 hk_a0 (v := ln) k_ln dX10_isDigitHere_5 ?_
  refine lv_icmp_ge (tgt := 43) hx hb dX10_isDigitHere_8 (by decide) (fun c1 => ?_) (fun c1 => ?_)
  · have q2 : ln.toInt ≤ pa.toInt := ti_le c1
    refine lv_iconst (v := 0) hx hb dX10_isDigitHere_43 (by decide) ?_
    exact tw_endz hx hb hr hlocks hK hT hS hQ rfl (⟨(iv_mono (iv_c (c := 0) (n := 0) (by decide)) (by decide) (by decide)), (fun h => absurd rfl h)⟩) dX10_isDigitHere_44
  · have q3 : pa.toInt < ln.toInt := ti_nle c1
    have h4 : iv 0 399 pa := iv_ltL (y := ln) h_pa h_ln q3 (by decide)
    have h5 : iv 1 400 ln := iv_gtL (y := pa) h_ln h_pa q3 (by decide)
    refine lv_aload_n hx hb dX10_isDigitHere_11 rfl (lv_at hl 0 rfl) ?_
    refine tw_getrk hx hb hW hown hK hS f_X10_9_8 hz_a0 hk_a0 (b := tb) k_tb dX10_isDigitHere_12 ?_
    refine lv_aload_n hx hb dX10_isDigitHere_15 rfl (lv_at hl 0 rfl) ?_
    refine tw_getk hx hb hW hown hK hS f_X10_25_8 hz_a0 hk_a0 (v := pa) k_pa dX10_isDigitHere_16 ?_
    refine tw_bald hx hb hK hS hz_tb hk_tb hn_tb h4 ⟨by decide, by decide⟩ dX10_isDigitHere_19 (fun x8 k7 => ?_)
    have h6 := iv_any x8
    refine lv_bipush (v := 48) hx hb dX10_isDigitHere_20 (by decide) ?_
    refine lv_icmp_lt (tgt := 43) hx hb dX10_isDigitHere_22 (by decide) (fun c9 => ?_) (fun c9 => ?_)
    · have q10 : x8.toInt < 48 := ti_lt c9
      have h11 : iv (-2147483648) 47 x8 := iv_ltL (y := 48) h6 (iv_c (c := 48) (n := 48) (by decide)) q10 (by decide)
      refine lv_iconst (v := 0) hx hb dX10_isDigitHere_43 (by decide) ?_
      exact tw_endz hx hb hr hlocks hK hT hS hQ rfl (⟨(iv_mono (iv_c (c := 0) (n := 0) (by decide)) (by decide) (by decide)), (fun h => absurd rfl h)⟩) dX10_isDigitHere_44
    · have q12 : 48 ≤ x8.toInt := ti_nlt c9
      have h13 : iv 48 2147483647 x8 := iv_geL (y := 48) h6 (iv_c (c := 48) (n := 48) (by decide)) q12 (by decide)
      refine lv_aload_n hx hb dX10_isDigitHere_25 rfl (lv_at hl 0 rfl) ?_
      refine tw_getrk hx hb hW hown hK hS f_X10_9_8 hz_a0 hk_a0 (b := tb) k_tb dX10_isDigitHere_26 ?_
      refine lv_aload_n hx hb dX10_isDigitHere_29 rfl (lv_at hl 0 rfl) ?_
      refine tw_getk hx hb hW hown hK hS f_X10_25_8 hz_a0 hk_a0 (v := pa) k_pa dX10_isDigitHere_30 ?_
      refine tw_balk hx hb hK hS hz_tb hk_tb hn_tb h4 ⟨by decide, by decide⟩ (v := x8) k7 dX10_isDigitHere_33 ?_
      refine lv_bipush (v := 57) hx hb dX10_isDigitHere_34 (by decide) ?_
      refine lv_icmp_gt (tgt := 43) hx hb dX10_isDigitHere_36 (by decide) (fun c14 => ?_) (fun c14 => ?_)
      · have q15 : 57 < x8.toInt := ti_lt c14
        have h16 : iv 58 2147483647 x8 := iv_gtL (y := 57) h13 (iv_c (c := 57) (n := 57) (by decide)) q15 (by decide)
        refine lv_iconst (v := 0) hx hb dX10_isDigitHere_43 (by decide) ?_
        exact tw_endz hx hb hr hlocks hK hT hS hQ rfl (⟨(iv_mono (iv_c (c := 0) (n := 0) (by decide)) (by decide) (by decide)), (fun h => absurd rfl h)⟩) dX10_isDigitHere_44
      · have q17 : x8.toInt ≤ 57 := ti_nlt c14
        have h18 : iv 48 57 x8 := iv_leL (y := 57) h13 (iv_c (c := 57) (n := 57) (by decide)) q17 (by decide)
        refine lv_iconst (v := 1) hx hb dX10_isDigitHere_39 (by decide) ?_
        refine lv_goto (tgt := 44) hx hb dX10_isDigitHere_40 (by decide) ?_
        exact tw_endz hx hb hr hlocks hK hT hS hQ rfl (⟨(iv_mono (iv_c (c := 1) (n := 1) (by decide)) (by decide) (by decide)), (fun _ => by omega)⟩) dX10_isDigitHere_44
def Lt_X10_isDigitHere_1 : WL := []
def LRt_X10_isDigitHere_1 : WL := []
set_option maxRecDepth 100000 in
set_option maxHeartbeats 4000000 in
theorem t_X10_isDigitHere_1 (l : Launch) (D : va_G) (cy : Nat → ClassId) (tx : (Nat → Nat) × (Nat → Nat)) (base Z : Nat) (K N : Nat → Nat) (Ma : MT) (Ra : RT) (Ja : JT) (hTy : Ty Z K N Ma Ra) (a0 : Nat) (hz_a0 : a0 < Z) (hk_a0 : K a0 = 3) (tb : Nat) (k_tb : Ra a0 0 = some tb) (ln : Int32) (k_ln : Ma a0 1 = ln) (h_ln : iv 0 400 ln) (pa : Int32) (k_pa : Ma a0 2 = pa) (h_pa : iv 0 1000 pa) : Met l yX10_isDigitHere [Cond.code yX10_isDigitHere cX10_isDigitHere 1 (some .boolean)] (md_rm 1 0 0) (va_Pc [.ref (base + a0)] (md_U D cy tx base Z K N Ma Ra Ja)) (mQi D cy tx base (fun r u => TP Z K N Lt_X10_isDigitHere_1 LRt_X10_isDigitHere_1 Ma Ra u ∧ (iv 0 1 r ∧ (¬ r = 0 → pa.toInt < ln.toInt)))) 0 0 (fun q => base ≤ q) := by
  refine tw_ofW (L := Lt_X10_isDigitHere_1) (LR := LRt_X10_isDigitHere_1) (by decide) (Nat.le_of_ble_eq_true rfl) hTy ?_
  intro p e s m args below meth c Q ls hx hb hr hlocks hown hml hW hK hT hS hQ hl
  have hl : lv_has ls 1 [(0, .ref (base + a0))] := hl
  obtain ⟨hz_tb, hk_tb, hn_tb⟩ := hTy.refn hz_a0 hk_a0 (show rtR 3 0 = (13, 400, 1) from rfl) k_tb
  have hn_tb := hn_tb (by decide)
  refine lv_aload_n hx hb dX10_isDigitHere_0 rfl (lv_at hl 0 rfl) ?_
  refine tw_getk hx hb hW hown hK hS f_X10_25_2 hz_a0 hk_a0 (v := pa) k_pa dX10_isDigitHere_1 ?_
  refine lv_aload_n hx hb dX10_isDigitHere_4 rfl (lv_at hl 0 rfl) ?_
  refine tw_getk hx hb hW hown hK hS f_X10_21_2 hz_a0 hk_a0 (v := ln) k_ln dX10_isDigitHere_5 ?_
  refine lv_icmp_ge (tgt := 43) hx hb dX10_isDigitHere_8 (by decide) (fun c1 => ?_) (fun c1 => ?_)
  · have q2 : ln.toInt ≤ pa.toInt := ti_le c1
    refine lv_iconst (v := 0) hx hb dX10_isDigitHere_43 (by decide) ?_
    exact tw_endz hx hb hr hlocks hK hT hS hQ rfl (⟨(iv_mono (iv_c (c := 0) (n := 0) (by decide)) (by decide) (by decide)), (fun h => absurd rfl h)⟩) dX10_isDigitHere_44
  · have q3 : pa.toInt < ln.toInt := ti_nle c1
    have h4 : iv 0 399 pa := iv_ltL (y := ln) h_pa h_ln q3 (by decide)
    have h5 : iv 1 400 ln := iv_gtL (y := pa) h_ln h_pa q3 (by decide)
    refine lv_aload_n hx hb dX10_isDigitHere_11 rfl (lv_at hl 0 rfl) ?_
    refine tw_getrk hx hb hW hown hK hS f_X10_9_2 hz_a0 hk_a0 (b := tb) k_tb dX10_isDigitHere_12 ?_
    refine lv_aload_n hx hb dX10_isDigitHere_15 rfl (lv_at hl 0 rfl) ?_
    refine tw_getk hx hb hW hown hK hS f_X10_25_2 hz_a0 hk_a0 (v := pa) k_pa dX10_isDigitHere_16 ?_
    refine tw_bald hx hb hK hS hz_tb hk_tb hn_tb h4 ⟨by decide, by decide⟩ dX10_isDigitHere_19 (fun x8 k7 => ?_)
    have h6 := iv_any x8
    refine lv_bipush (v := 48) hx hb dX10_isDigitHere_20 (by decide) ?_
    refine lv_icmp_lt (tgt := 43) hx hb dX10_isDigitHere_22 (by decide) (fun c9 => ?_) (fun c9 => ?_)
    · have q10 : x8.toInt < 48 := ti_lt c9
      have h11 : iv (-2147483648) 47 x8 := iv_ltL (y := 48) h6 (iv_c (c := 48) (n := 48) (by decide)) q10 (by decide)
      refine lv_iconst (v := 0) hx hb dX10_isDigitHere_43 (by decide) ?_
      exact tw_endz hx hb hr hlocks hK hT hS hQ rfl (⟨(iv_mono (iv_c (c := 0) (n := 0) (by decide)) (by decide) (by decide)), (fun h => absurd rfl h)⟩) dX10_isDigitHere_44
    · have q12 : 48 ≤ x8.toInt := ti_nlt c9
      have h13 : iv 48 2147483647 x8 := iv_geL (y := 48) h6 (iv_c (c := 48) (n := 48) (by decide)) q12 (by decide)
      refine lv_aload_n hx hb dX10_isDigitHere_25 rfl (lv_at hl 0 rfl) ?_
      refine tw_getrk hx hb hW hown hK hS f_X10_9_2 hz_a0 hk_a0 (b := tb) k_tb dX10_isDigitHere_26 ?_
      refine lv_aload_n hx hb dX10_isDigitHere_29 rfl (lv_at hl 0 rfl) ?_
      refine tw_getk hx hb hW hown hK hS f_X10_25_2 hz_a0 hk_a0 (v := pa) k_pa dX10_isDigitHere_30 ?_
      refine tw_balk hx hb hK hS hz_tb hk_tb hn_tb h4 ⟨by decide, by decide⟩ (v := x8) k7 dX10_isDigitHere_33 ?_
      refine lv_bipush (v := 57) hx hb dX10_isDigitHere_34 (by decide) ?_
      refine lv_icmp_gt (tgt := 43) hx hb dX10_isDigitHere_36 (by decide) (fun c14 => ?_) (fun c14 => ?_)
      · have q15 : 57 < x8.toInt := ti_lt c14
        have h16 : iv 58 2147483647 x8 := iv_gtL (y := 57) h13 (iv_c (c := 57) (n := 57) (by decide)) q15 (by decide)
        refine lv_iconst (v := 0) hx hb dX10_isDigitHere_43 (by decide) ?_
        exact tw_endz hx hb hr hlocks hK hT hS hQ rfl (⟨(iv_mono (iv_c (c := 0) (n := 0) (by decide)) (by decide) (by decide)), (fun h => absurd rfl h)⟩) dX10_isDigitHere_44
      · have q17 : x8.toInt ≤ 57 := ti_nlt c14
        have h18 : iv 48 57 x8 := iv_leL (y := 57) h13 (iv_c (c := 57) (n := 57) (by decide)) q17 (by decide)
        refine lv_iconst (v := 1) hx hb dX10_isDigitHere_39 (by decide) ?_
        refine lv_goto (tgt := 44) hx hb dX10_isDigitHere_40 (by decide) ?_
        exact tw_endz hx hb hr hlocks hK hT hS hQ rfl (⟨(iv_mono (iv_c (c := 1) (n := 1) (by decide)) (by decide) (by decide)), (fun _ => by omega)⟩) dX10_isDigitHere_44
