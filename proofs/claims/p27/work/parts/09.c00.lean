def Lt_X5_grow_1 : WL := [(29, 0, 2000000)]
def LRt_X5_grow_1 : WL := []
set_option maxRecDepth 100000 in
set_option maxHeartbeats 4000000 in
theorem t_X5_grow_1 (l : Launch) (D : va_G) (cy : Nat → ClassId) (tx : (Nat → Nat) × (Nat → Nat)) (base Z : Nat) (K N : Nat → Nat) (Ma : MT) (Ra : RT) (Ja : JT) (hTy : Ty Z K N Ma Ra) (a0 : Nat) (hz_a0 : a0 < Z) (hk_a0 : K a0 = 6) (a1 : Nat) (hz_a1 : a1 < Z) (hk_a1 : K a1 = 29) (hn_a1 : N a1 = 10) (a2 : Int32) (h_a2 : iv (-2147483648) 2147483647 a2) (a3 : Int32) (h_a3 : iv (-2147483648) 2147483647 a3) : Met l yX5_grow [Cond.code yX5_grow cX5_grow 6 none] (md_rm 1 0 0) (va_Pc [.ref (base + a0), .ref (base + a1), .int a2, .int a3] (md_U D cy tx base Z K N Ma Ra Ja)) (mQv D cy tx base (fun u => TP Z K N Lt_X5_grow_1 LRt_X5_grow_1 Ma Ra u ∧ (True))) 0 0 (fun q => base ≤ q) := by
  refine tw_ofW (L := Lt_X5_grow_1) (LR := LRt_X5_grow_1) (by decide) (Nat.le_of_ble_eq_true rfl) hTy ?_
  intro p e s m args below meth c Q ls hx hb hr hlocks hown hml hW hK hT hS hQ hl
  have hl : lv_has ls 6 [(0, .ref (base + a0)), (1, .ref (base + a1)), (2, .int a2), (3, .int a3)] := hl
  refine lv_iconst (v := 0) hx hb dX5_grow_0 (by decide) ?_
  refine lv_istore (lv' := [(4, .int 0), (0, .ref (base + a0)), (1, .ref (base + a1)), (2, .int a2), (3, .int a3)]) hx hb dX5_grow_1 hl (by decide) rfl (fun ls hl => ?_)
  have W3_2 : ∀ (n_2 : Nat) (x1 : Int32) (M2 : MT) (R3 : RT) (J4 : JT) (H : Heap) (locs : List Loc) (ls : Array Slot) (h_x1 : iv 0 10 x1) (hm_2 : 10 - x1.toInt < (n_2 : Int)) (hS : SB D cy base Z K N Lt_X5_grow_1 LRt_X5_grow_1 Ma Ra M2 R3 J4 s H locs) (hl : lv_has ls 6 [(4, .int x1), (0, .ref (base + a0)), (1, .ref (base + a1)), (2, .int a2), (3, .int a3)]), W p l e (md_rm 1 0 0) s m args below meth c H locs 0 0 Q (F0 m 3 ls []) := by
    intro n_2
    induction n_2 with
    | zero =>
      intro x1 M2 R3 J4 H locs ls h_x1 hm_2 hS hl
      exfalso
      have := (h_a2).1; have := (h_a2).2; have := (h_a3).1; have := (h_a3).2; have := (h_x1).1; have := (h_x1).2; omega
    | succ n_2 ih_2 =>
      intro x1 M2 R3 J4 H locs ls h_x1 hm_2 hS hl
      have f5 := hS.2.2.1
      have g6 := hS.2.2.2
      refine lv_iload hx hb dX5_grow_3 (lv_at hl 0 rfl) ?_
      refine lv_aload_n hx hb dX5_grow_5 rfl (lv_at hl 1 rfl) ?_
      refine tw_getr hx hb hW hown hK hS f_X5_9_5 hz_a0 hk_a0 (t := 10) (n := 0) rfl dX5_grow_6 (fun b7 k8 hz_b7 hk_b7 hn_b7 => ?_)
      refine tw_geti hx hb hW hown hK hS f_X5_53_9 hz_b7 hk_b7 (lo := (-2147483648)) (hi := 10) rfl dX5_grow_9 (fun x11 k10 h9 => ?_)
      refine lv_icmp_ge (tgt := 117) hx hb dX5_grow_12 (by decide) (fun c12 => ?_) (fun c12 => ?_)
      · have q13 : x11.toInt ≤ x1.toInt := ti_le c12
        exact tw_endv hx hb hr hlocks hK hT hS hQ (trivial) dX5_grow_117
      · have q14 : x1.toInt < x11.toInt := ti_nle c12
        have h15 : iv 0 9 x1 := iv_ltL (y := x11) h_x1 h9 q14 (by decide)
        have h16 : iv 1 10 x11 := iv_gtL (y := x1) h9 h_x1 q14 (by decide)
        refine lv_iload_n hx hb dX5_grow_15 rfl (lv_at hl 3 rfl) ?_
        refine lv_iload hx hb dX5_grow_16 (lv_at hl 0 rfl) ?_
        refine lv_ishr hx hb dX5_grow_18 ?_
        refine tw_top (fun x18 => ?_)
        have h17 := iv_any x18
        refine lv_iconst (v := 1) hx hb dX5_grow_19 (by decide) ?_
        refine tw_iand (hi := 1) hx hb (iv_mono (iv_c (c := 1) (n := 1) (by decide)) (lo := 0) (hi := 1) (by decide) (by decide)) (by decide) dX5_grow_20 (fun x21 h19 => ?_)
        refine lv_iconst (v := 1) hx hb dX5_grow_21 (by decide) ?_
        refine lv_icmp_ne (tgt := 57) hx hb dX5_grow_22 (by decide) (fun c22 => ?_) (fun c22 => ?_)
        · have q23 : ¬ x21.toInt = 1 := ti_ne c22
          have h24 : iv 0 0 x21 := ⟨by have := (h19).1; have := ((iv_c (c := 1) (n := 1) (by decide))).1; have := ((iv_c (c := 1) (n := 1) (by decide))).2; omega, by have := (h19).2; have := ((iv_c (c := 1) (n := 1) (by decide))).1; have := ((iv_c (c := 1) (n := 1) (by decide))).2; omega⟩
          refine lv_iload_n hx hb dX5_grow_57 rfl (lv_at hl 4 rfl) ?_
          refine lv_iload hx hb dX5_grow_58 (lv_at hl 0 rfl) ?_
          refine lv_ishr hx hb dX5_grow_60 ?_
          refine tw_top (fun x26 => ?_)
          have h25 := iv_any x26
          refine lv_iconst (v := 1) hx hb dX5_grow_61 (by decide) ?_
          refine tw_iand (hi := 1) hx hb (iv_mono (iv_c (c := 1) (n := 1) (by decide)) (lo := 0) (hi := 1) (by decide) (by decide)) (by decide) dX5_grow_62 (fun x29 h27 => ?_)
          refine lv_iconst (v := 1) hx hb dX5_grow_63 (by decide) ?_
          refine lv_icmp_ne (tgt := 111) hx hb dX5_grow_64 (by decide) (fun c30 => ?_) (fun c30 => ?_)
          · have q31 : ¬ x29.toInt = 1 := ti_ne c30
            have h32 : iv 0 0 x29 := ⟨by have := (h27).1; have := ((iv_c (c := 1) (n := 1) (by decide))).1; have := ((iv_c (c := 1) (n := 1) (by decide))).2; omega, by have := (h27).2; have := ((iv_c (c := 1) (n := 1) (by decide))).1; have := ((iv_c (c := 1) (n := 1) (by decide))).2; omega⟩
            refine tw_iinc (lv' := fun x35 => [(4, .int x35), (0, .ref (base + a0)), (1, .ref (base + a1)), (2, .int a2), (3, .int a3)]) (lo := 1) (hi := 10) hx hb dX5_grow_111 hl (k := 0) rfl h15 (by decide) ⟨by decide, by decide⟩ ⟨by decide, by decide⟩ (by decide) (fun _ => rfl) (fun x35 ls e34 h33 hl => ?_)
            refine lv_goto (tgt := 3) hx hb dX5_grow_114 (by decide) ?_
            have hm36 : 10 - x35.toInt < (n_2 : Int) := by
              have := (h_a2).1; have := (h_a2).2; have := (h_a3).1; have := (h_a3).2; have := (h15).1; have := (h15).2; have := (h33).1; have := (h33).2; omega
            exact ih_2 x35 M2 R3 J4 H locs _ (iv_mono h33 (by decide) (by decide)) hm36 hS hl
          · have q37 : x29.toInt = 1 := ti_eq c30
            have h38 : iv 1 1 x29 := ⟨by have := (h27).1; have := ((iv_c (c := 1) (n := 1) (by decide))).1; omega, by have := (h27).2; have := ((iv_c (c := 1) (n := 1) (by decide))).2; omega⟩
            refine lv_aload_n hx hb dX5_grow_67 rfl (lv_at hl 1 rfl) ?_
            refine tw_getrk hx hb hW hown hK hS f_X5_9_5 hz_a0 hk_a0 (b := b7) k8 dX5_grow_68 ?_
            refine tw_geti hx hb hW hown hK hS f_X5_105_9 hz_b7 hk_b7 (lo := (-2147483648)) (hi := 2147483647) rfl dX5_grow_71 (fun x41 k40 h39 => ?_)
            refine lv_iconst (v := 1) hx hb dX5_grow_74 (by decide) ?_
            refine lv_icmp_ne (tgt := 87) hx hb dX5_grow_75 (by decide) (fun c42 => ?_) (fun c42 => ?_)
            · have q43 : ¬ x41.toInt = 1 := ti_ne c42
              refine lv_aload_n hx hb dX5_grow_87 rfl (lv_at hl 2 rfl) ?_
              refine lv_iload hx hb dX5_grow_88 (lv_at hl 0 rfl) ?_
              refine tw_iald hx hb hK hS hz_a1 hk_a1 (Or.inr (by decide)) hn_a1 (lo := 0) (hi := 9999) h15 ⟨by decide, by decide⟩ rg_u29 dX5_grow_90 (fun x46 k45 h44 => ?_)
              refine lv_iconst (v := 1) hx hb dX5_grow_91 (by decide) ?_
              refine tw_iadd (lo := 1) (hi := 10000) hx hb h44 (iv_c (c := 1) (n := 1) (by decide)) ⟨by decide, by decide⟩ ⟨by decide, by decide⟩ dX5_grow_92 (fun x49 e48 h47 => ?_)
              have e48 : x49.toInt = x46.toInt + 1 := e48
              refine lv_istore (lv' := [(5, .int x49), (4, .int x1), (0, .ref (base + a0)), (1, .ref (base + a1)), (2, .int a2), (3, .int a3)]) hx hb dX5_grow_93 hl (by decide) rfl (fun ls hl => ?_)
              refine lv_aload_n hx hb dX5_grow_95 rfl (lv_at hl 3 rfl) ?_
              refine lv_iload hx hb dX5_grow_96 (lv_at hl 1 rfl) ?_
              refine lv_aload_n hx hb dX5_grow_98 rfl (lv_at hl 2 rfl) ?_
              refine tw_getrk hx hb hW hown hK hS f_X5_9_5 hz_a0 hk_a0 (b := b7) k8 dX5_grow_99 ?_
              refine tw_geti hx hb hW hown hK hS f_X5_113_9 hz_b7 hk_b7 (lo := 0) (hi := 9999) rfl dX5_grow_102 (fun x52 k51 h50 => ?_)
              refine lv_iload hx hb dX5_grow_105 (lv_at hl 0 rfl) ?_
              refine va_mmin hx hb (hml.trans hl.1.symm) hown (hW _ w_4_188 rfl) (hW _ w_3_86 rfl) (hW _ w_1_13 rfl) (hW _ w_3_87 rfl) (Nat.le_of_ble_eq_true rfl) (Nat.le_of_ble_eq_true rfl) (Nat.le_of_ble_eq_true rfl) (Nat.le_of_ble_eq_true rfl) dX5_grow_107 ?_
              refine tw_mmin (lo := 0) (hi := 9999) h50 h47 (by decide) (fun x55 e54 h53 => ?_)
              refine tw_iast hx hb hK hS hz_a1 hk_a1 (Or.inr (by decide)) hn_a1 h15 ⟨by decide, by decide⟩ h53 (rg_s29 ⟨by decide, by decide⟩) (jl := 0) (jh := 1999999) ⟨by decide, by decide⟩ rfl dX5_grow_110 (fun H locs M58 hS k56 f57 => ?_)
              refine tw_iinc (lv' := fun x61 => [(4, .int x61), (5, .int x49), (0, .ref (base + a0)), (1, .ref (base + a1)), (2, .int a2), (3, .int a3)]) (lo := 1) (hi := 10) hx hb dX5_grow_111 hl (k := 1) rfl h15 (by decide) ⟨by decide, by decide⟩ ⟨by decide, by decide⟩ (by decide) (fun _ => rfl) (fun x61 ls e60 h59 hl => ?_)
              refine lv_goto (tgt := 3) hx hb dX5_grow_114 (by decide) ?_
              have hm62 : 10 - x61.toInt < (n_2 : Int) := by
                have := (h_a2).1; have := (h_a2).2; have := (h_a3).1; have := (h_a3).2; have := (h15).1; have := (h15).2; have := (h59).1; have := (h59).2; omega
              exact ih_2 x61 M58 R3 J4 H locs _ (iv_mono h59 (by decide) (by decide)) hm62 hS (lv_sub hl [0, 2, 3, 4, 5] rfl)
            · have q63 : x41.toInt = 1 := ti_eq c42
              have h64 : iv 1 1 x41 := ⟨by have := (h39).1; have := ((iv_c (c := 1) (n := 1) (by decide))).1; omega, by have := (h39).2; have := ((iv_c (c := 1) (n := 1) (by decide))).2; omega⟩
              refine lv_iconst (v := 2) hx hb dX5_grow_78 (by decide) ?_
              refine lv_aload_n hx hb dX5_grow_79 rfl (lv_at hl 2 rfl) ?_
              refine lv_iload hx hb dX5_grow_80 (lv_at hl 0 rfl) ?_
              refine tw_iald hx hb hK hS hz_a1 hk_a1 (Or.inr (by decide)) hn_a1 (lo := 0) (hi := 9999) h15 ⟨by decide, by decide⟩ rg_u29 dX5_grow_82 (fun x67 k66 h65 => ?_)
              refine tw_icmul (k := 2) (lo := 0) (hi := 19998) hx hb (by decide) h65 (by decide) ⟨by decide, by decide⟩ ⟨by decide, by decide⟩ dX5_grow_83 (fun x70 e69 h68 => ?_)
              refine lv_goto (tgt := 93) hx hb dX5_grow_84 (by decide) ?_
              refine lv_istore (lv' := [(5, .int x70), (4, .int x1), (0, .ref (base + a0)), (1, .ref (base + a1)), (2, .int a2), (3, .int a3)]) hx hb dX5_grow_93 hl (by decide) rfl (fun ls hl => ?_)
              refine lv_aload_n hx hb dX5_grow_95 rfl (lv_at hl 3 rfl) ?_
              refine lv_iload hx hb dX5_grow_96 (lv_at hl 1 rfl) ?_
              refine lv_aload_n hx hb dX5_grow_98 rfl (lv_at hl 2 rfl) ?_
              refine tw_getrk hx hb hW hown hK hS f_X5_9_5 hz_a0 hk_a0 (b := b7) k8 dX5_grow_99 ?_
              refine tw_geti hx hb hW hown hK hS f_X5_113_9 hz_b7 hk_b7 (lo := 0) (hi := 9999) rfl dX5_grow_102 (fun x73 k72 h71 => ?_)
              refine lv_iload hx hb dX5_grow_105 (lv_at hl 0 rfl) ?_
              refine va_mmin hx hb (hml.trans hl.1.symm) hown (hW _ w_4_188 rfl) (hW _ w_3_86 rfl) (hW _ w_1_13 rfl) (hW _ w_3_87 rfl) (Nat.le_of_ble_eq_true rfl) (Nat.le_of_ble_eq_true rfl) (Nat.le_of_ble_eq_true rfl) (Nat.le_of_ble_eq_true rfl) dX5_grow_107 ?_
              refine tw_mmin (lo := 0) (hi := 9999) h71 h68 (by decide) (fun x76 e75 h74 => ?_)
              refine tw_iast hx hb hK hS hz_a1 hk_a1 (Or.inr (by decide)) hn_a1 h15 ⟨by decide, by decide⟩ h74 (rg_s29 ⟨by decide, by decide⟩) (jl := 0) (jh := 1999999) ⟨by decide, by decide⟩ rfl dX5_grow_110 (fun H locs M79 hS k77 f78 => ?_)
              refine tw_iinc (lv' := fun x82 => [(4, .int x82), (5, .int x70), (0, .ref (base + a0)), (1, .ref (base + a1)), (2, .int a2), (3, .int a3)]) (lo := 1) (hi := 10) hx hb dX5_grow_111 hl (k := 1) rfl h15 (by decide) ⟨by decide, by decide⟩ ⟨by decide, by decide⟩ (by decide) (fun _ => rfl) (fun x82 ls e81 h80 hl => ?_)
              refine lv_goto (tgt := 3) hx hb dX5_grow_114 (by decide) ?_
              have hm83 : 10 - x82.toInt < (n_2 : Int) := by
                have := (h_a2).1; have := (h_a2).2; have := (h_a3).1; have := (h_a3).2; have := (h15).1; have := (h15).2; have := (h80).1; have := (h80).2; omega
              exact ih_2 x82 M79 R3 J4 H locs _ (iv_mono h80 (by decide) (by decide)) hm83 hS (lv_sub hl [0, 2, 3, 4, 5] rfl)
        · have q84 : x21.toInt = 1 := ti_eq c22
          have h85 : iv 1 1 x21 := ⟨by have := (h19).1; have := ((iv_c (c := 1) (n := 1) (by decide))).1; omega, by have := (h19).2; have := ((iv_c (c := 1) (n := 1) (by decide))).2; omega⟩
          refine lv_aload_n hx hb dX5_grow_25 rfl (lv_at hl 2 rfl) ?_
          refine lv_iload hx hb dX5_grow_26 (lv_at hl 0 rfl) ?_
          refine lv_aload_n hx hb dX5_grow_28 rfl (lv_at hl 1 rfl) ?_
          refine tw_getrk hx hb hW hown hK hS f_X5_9_5 hz_a0 hk_a0 (b := b7) k8 dX5_grow_29 ?_
          refine tw_geti hx hb hW hown hK hS f_X5_105_9 hz_b7 hk_b7 (lo := (-2147483648)) (hi := 2147483647) rfl dX5_grow_32 (fun x88 k87 h86 => ?_)
          refine lv_iconst (v := 2) hx hb dX5_grow_35 (by decide) ?_
          refine lv_icmp_ne (tgt := 52) hx hb dX5_grow_36 (by decide) (fun c89 => ?_) (fun c89 => ?_)
          · have q90 : ¬ x88.toInt = 2 := ti_ne c89
            refine lv_iconst (v := 1) hx hb dX5_grow_52 (by decide) ?_
            refine tw_iast hx hb hK hS hz_a1 hk_a1 (Or.inr (by decide)) hn_a1 h15 ⟨by decide, by decide⟩ (iv_c (c := 1) (n := 1) (by decide)) (rg_s29 ⟨by decide, by decide⟩) (jl := 0) (jh := 1999999) ⟨by decide, by decide⟩ rfl dX5_grow_53 (fun H locs M93 hS k91 f92 => ?_)
            refine lv_goto (tgt := 111) hx hb dX5_grow_54 (by decide) ?_
            refine tw_iinc (lv' := fun x96 => [(4, .int x96), (0, .ref (base + a0)), (1, .ref (base + a1)), (2, .int a2), (3, .int a3)]) (lo := 1) (hi := 10) hx hb dX5_grow_111 hl (k := 0) rfl h15 (by decide) ⟨by decide, by decide⟩ ⟨by decide, by decide⟩ (by decide) (fun _ => rfl) (fun x96 ls e95 h94 hl => ?_)
            refine lv_goto (tgt := 3) hx hb dX5_grow_114 (by decide) ?_
            have hm97 : 10 - x96.toInt < (n_2 : Int) := by
              have := (h_a2).1; have := (h_a2).2; have := (h_a3).1; have := (h_a3).2; have := (h15).1; have := (h15).2; have := (h94).1; have := (h94).2; omega
            exact ih_2 x96 M93 R3 J4 H locs _ (iv_mono h94 (by decide) (by decide)) hm97 hS hl
          · have q98 : x88.toInt = 2 := ti_eq c89
            have h99 : iv 2 2 x88 := ⟨by have := (h86).1; have := ((iv_c (c := 2) (n := 2) (by decide))).1; omega, by have := (h86).2; have := ((iv_c (c := 2) (n := 2) (by decide))).2; omega⟩
            refine lv_iconst (v := 1) hx hb dX5_grow_39 (by decide) ?_
            refine lv_aload_n hx hb dX5_grow_40 rfl (lv_at hl 2 rfl) ?_
            refine lv_iload hx hb dX5_grow_41 (lv_at hl 0 rfl) ?_
            refine tw_iald hx hb hK hS hz_a1 hk_a1 (Or.inr (by decide)) hn_a1 (lo := 0) (hi := 9999) h15 ⟨by decide, by decide⟩ rg_u29 dX5_grow_43 (fun x102 k101 h100 => ?_)
            refine lv_iconst (v := 2) hx hb dX5_grow_44 (by decide) ?_
            refine tw_idiv (lo := 0) (hi := 4999) hx hb h100 (iv_c (c := 2) (n := 2) (by decide)) ⟨by decide, by decide⟩ ⟨by decide, by decide⟩ dX5_grow_45 (fun x105 e104 h103 => ?_)
            have e104 : x105.toInt = x102.toInt / 2 := e104
            refine va_mmax hx hb (hml.trans hl.1.symm) hown (hW _ w_4_187 rfl) (hW _ w_4_75 rfl) (hW _ w_1_13 rfl) (hW _ w_4_76 rfl) (Nat.le_of_ble_eq_true rfl) (Nat.le_of_ble_eq_true rfl) (Nat.le_of_ble_eq_true rfl) (Nat.le_of_ble_eq_true rfl) dX5_grow_46 ?_
            refine tw_mmax (lo := 1) (hi := 4999) (iv_c (c := 1) (n := 1) (by decide)) h103 (by decide) (fun x108 e107 h106 => ?_)
            refine lv_goto (tgt := 53) hx hb dX5_grow_49 (by decide) ?_
            refine tw_iast hx hb hK hS hz_a1 hk_a1 (Or.inr (by decide)) hn_a1 h15 ⟨by decide, by decide⟩ h106 (rg_s29 ⟨by decide, by decide⟩) (jl := 0) (jh := 1999999) ⟨by decide, by decide⟩ rfl dX5_grow_53 (fun H locs M111 hS k109 f110 => ?_)
            refine lv_goto (tgt := 111) hx hb dX5_grow_54 (by decide) ?_
            refine tw_iinc (lv' := fun x114 => [(4, .int x114), (0, .ref (base + a0)), (1, .ref (base + a1)), (2, .int a2), (3, .int a3)]) (lo := 1) (hi := 10) hx hb dX5_grow_111 hl (k := 0) rfl h15 (by decide) ⟨by decide, by decide⟩ ⟨by decide, by decide⟩ (by decide) (fun _ => rfl) (fun x114 ls e113 h112 hl => ?_)
            refine lv_goto (tgt := 3) hx hb dX5_grow_114 (by decide) ?_
            have hm115 : 10 - x114.toInt < (n_2 : Int) := by
              have := (h_a2).1; have := (h_a2).2; have := (h_a3).1; have := (h_a3).2; have := (h15).1; have := (h15).2; have := (h112).1; have := (h112).2; omega
            exact ih_2 x114 M111 R3 J4 H locs _ (iv_mono h112 (by decide) (by decide)) hm115 hS hl
  have hm116 : 10 - (0 : Int32).toInt < (((11 : Nat) : Int) : Int) := by
    have := (h_a2).1; have := (h_a2).2; have := (h_a3).1; have := (h_a3).2; have : (0 : Int32).toInt = 0 := (by decide); omega
  exact W3_2 11 0 Ma Ra Ja s.heap [] _ (iv_mono (iv_c (c := 0) (n := 0) (by decide)) (by decide) (by decide)) hm116 hS hl
def Lt_X5_lead_1 : WL := []
def LRt_X5_lead_1 : WL := []
set_option maxRecDepth 100000 in
set_option maxHeartbeats 4000000 in
theorem t_X5_lead_1 (l : Launch) (D : va_G) (cy : Nat → ClassId) (tx : (Nat → Nat) × (Nat → Nat)) (base Z : Nat) (K N : Nat → Nat) (Ma : MT) (Ra : RT) (Ja : JT) (hTy : Ty Z K N Ma Ra) (a0 : Nat) (hz_a0 : a0 < Z) (hk_a0 : K a0 = 6) (a1 : Nat) (hz_a1 : a1 < Z) (hk_a1 : K a1 = 29) (hn_a1 : N a1 = 10) (a2 : Int32) (h_a2 : iv (-2147483648) 2147483647 a2) (a3 : Int32) (h_a3 : iv (-2147483648) 2147483647 a3) : Met l yX5_lead [Cond.code yX5_lead cX5_lead 6 (some .int)] (md_rm 1 0 0) (va_Pc [.ref (base + a0), .ref (base + a1), .int a2, .int a3] (md_U D cy tx base Z K N Ma Ra Ja)) (mQi D cy tx base (fun r u => TP Z K N Lt_X5_lead_1 LRt_X5_lead_1 Ma Ra u ∧ (iv (-2147483648) 2147483647 r))) 0 0 (fun q => base ≤ q) := by
  refine tw_ofW (L := Lt_X5_lead_1) (LR := LRt_X5_lead_1) (by decide) (Nat.le_of_ble_eq_true rfl) hTy ?_
  intro p e s m args below meth c Q ls hx hb hr hlocks hown hml hW hK hT hS hQ hl
  have hl : lv_has ls 6 [(0, .ref (base + a0)), (1, .ref (base + a1)), (2, .int a2), (3, .int a3)] := hl
  refine lv_iconst (v := 0) hx hb dX5_lead_0 (by decide) ?_
  refine lv_istore (lv' := [(4, .int 0), (0, .ref (base + a0)), (1, .ref (base + a1)), (2, .int a2), (3, .int a3)]) hx hb dX5_lead_1 hl (by decide) rfl (fun ls hl => ?_)
  refine lv_iconst (v := 0) hx hb dX5_lead_3 (by decide) ?_
  refine lv_istore (lv' := [(5, .int 0), (4, .int 0), (0, .ref (base + a0)), (1, .ref (base + a1)), (2, .int a2), (3, .int a3)]) hx hb dX5_lead_4 hl (by decide) rfl (fun ls hl => ?_)
  have W6_3 : ∀ (n_3 : Nat) (x1 : Int32) (x2 : Int32) (M3 : MT) (R4 : RT) (J5 : JT) (H : Heap) (locs : List Loc) (ls : Array Slot) (h_x1 : iv (-2147483648) 2147483647 x1) (h_x2 : iv 0 10 x2) (hm_3 : 10 - x2.toInt < (n_3 : Int)) (hS : SB D cy base Z K N Lt_X5_lead_1 LRt_X5_lead_1 Ma Ra M3 R4 J5 s H locs) (hl : lv_has ls 6 [(4, .int x1), (5, .int x2), (0, .ref (base + a0)), (1, .ref (base + a1)), (2, .int a2), (3, .int a3)]), W p l e (md_rm 1 0 0) s m args below meth c H locs 0 0 Q (F0 m 6 ls []) := by
    intro n_3
    induction n_3 with
    | zero =>
      intro x1 x2 M3 R4 J5 H locs ls h_x1 h_x2 hm_3 hS hl
      exfalso
      have := (h_a2).1; have := (h_a2).2; have := (h_a3).1; have := (h_a3).2; have := (h_x2).1; have := (h_x2).2; omega
    | succ n_3 ih_3 =>
      intro x1 x2 M3 R4 J5 H locs ls h_x1 h_x2 hm_3 hS hl
      have f6 := hS.2.2.1
      have g7 := hS.2.2.2
      refine lv_iload hx hb dX5_lead_6 (lv_at hl 1 rfl) ?_
      refine lv_aload_n hx hb dX5_lead_8 rfl (lv_at hl 2 rfl) ?_
      refine tw_getr hx hb hW hown hK hS f_X5_9_5 hz_a0 hk_a0 (t := 10) (n := 0) rfl dX5_lead_9 (fun b8 k9 hz_b8 hk_b8 hn_b8 => ?_)
      refine tw_geti hx hb hW hown hK hS f_X5_53_9 hz_b8 hk_b8 (lo := (-2147483648)) (hi := 10) rfl dX5_lead_12 (fun x12 k11 h10 => ?_)
      refine lv_icmp_ge (tgt := 65) hx hb dX5_lead_15 (by decide) (fun c13 => ?_) (fun c13 => ?_)
      · have q14 : x12.toInt ≤ x2.toInt := ti_le c13
        refine lv_iload hx hb dX5_lead_65 (lv_at hl 0 rfl) ?_
        exact tw_endi hx hb hr hlocks hK hT hS hQ (h_x1) dX5_lead_67
      · have q15 : x2.toInt < x12.toInt := ti_nle c13
        have h16 : iv 0 9 x2 := iv_ltL (y := x12) h_x2 h10 q15 (by decide)
        have h17 : iv 1 10 x12 := iv_gtL (y := x2) h10 h_x2 q15 (by decide)
        refine lv_iload_n hx hb dX5_lead_18 rfl (lv_at hl 4 rfl) ?_
        refine lv_iload hx hb dX5_lead_19 (lv_at hl 1 rfl) ?_
        refine lv_ishr hx hb dX5_lead_21 ?_
        refine tw_top (fun x19 => ?_)
        have h18 := iv_any x19
        refine lv_iconst (v := 1) hx hb dX5_lead_22 (by decide) ?_
        refine tw_iand (hi := 1) hx hb (iv_mono (iv_c (c := 1) (n := 1) (by decide)) (lo := 0) (hi := 1) (by decide) (by decide)) (by decide) dX5_lead_23 (fun x22 h20 => ?_)
        refine lv_iconst (v := 1) hx hb dX5_lead_24 (by decide) ?_
        refine lv_icmp_ne (tgt := 40) hx hb dX5_lead_25 (by decide) (fun c23 => ?_) (fun c23 => ?_)
        · have q24 : ¬ x22.toInt = 1 := ti_ne c23
          have h25 : iv 0 0 x22 := ⟨by have := (h20).1; have := ((iv_c (c := 1) (n := 1) (by decide))).1; have := ((iv_c (c := 1) (n := 1) (by decide))).2; omega, by have := (h20).2; have := ((iv_c (c := 1) (n := 1) (by decide))).1; have := ((iv_c (c := 1) (n := 1) (by decide))).2; omega⟩
          refine lv_iload_n hx hb dX5_lead_40 rfl (lv_at hl 5 rfl) ?_
          refine lv_iload hx hb dX5_lead_41 (lv_at hl 1 rfl) ?_
          refine lv_ishr hx hb dX5_lead_43 ?_
          refine tw_top (fun x27 => ?_)
          have h26 := iv_any x27
          refine lv_iconst (v := 1) hx hb dX5_lead_44 (by decide) ?_
          refine tw_iand (hi := 1) hx hb (iv_mono (iv_c (c := 1) (n := 1) (by decide)) (lo := 0) (hi := 1) (by decide) (by decide)) (by decide) dX5_lead_45 (fun x30 h28 => ?_)
          refine lv_iconst (v := 1) hx hb dX5_lead_46 (by decide) ?_
          refine lv_icmp_ne (tgt := 59) hx hb dX5_lead_47 (by decide) (fun c31 => ?_) (fun c31 => ?_)
          · have q32 : ¬ x30.toInt = 1 := ti_ne c31
            have h33 : iv 0 0 x30 := ⟨by have := (h28).1; have := ((iv_c (c := 1) (n := 1) (by decide))).1; have := ((iv_c (c := 1) (n := 1) (by decide))).2; omega, by have := (h28).2; have := ((iv_c (c := 1) (n := 1) (by decide))).1; have := ((iv_c (c := 1) (n := 1) (by decide))).2; omega⟩
            refine tw_iinc (lv' := fun x36 => [(5, .int x36), (4, .int x1), (0, .ref (base + a0)), (1, .ref (base + a1)), (2, .int a2), (3, .int a3)]) (lo := 1) (hi := 10) hx hb dX5_lead_59 hl (k := 1) rfl h16 (by decide) ⟨by decide, by decide⟩ ⟨by decide, by decide⟩ (by decide) (fun _ => rfl) (fun x36 ls e35 h34 hl => ?_)
            refine lv_goto (tgt := 6) hx hb dX5_lead_62 (by decide) ?_
            have hm37 : 10 - x36.toInt < (n_3 : Int) := by
              have := (h_a2).1; have := (h_a2).2; have := (h_a3).1; have := (h_a3).2; have := (h16).1; have := (h16).2; have := (h34).1; have := (h34).2; omega
            exact ih_3 x1 x36 M3 R4 J5 H locs _ h_x1 (iv_mono h34 (by decide) (by decide)) hm37 hS (lv_sub hl [1, 0, 2, 3, 4, 5] rfl)
          · have q38 : x30.toInt = 1 := ti_eq c31
            have h39 : iv 1 1 x30 := ⟨by have := (h28).1; have := ((iv_c (c := 1) (n := 1) (by decide))).1; omega, by have := (h28).2; have := ((iv_c (c := 1) (n := 1) (by decide))).2; omega⟩
            refine lv_iload hx hb dX5_lead_50 (lv_at hl 0 rfl) ?_
            refine lv_aload_n hx hb dX5_lead_52 rfl (lv_at hl 3 rfl) ?_
            refine lv_iload hx hb dX5_lead_53 (lv_at hl 1 rfl) ?_
            refine tw_iald hx hb hK hS hz_a1 hk_a1 (Or.inr (by decide)) hn_a1 (lo := 0) (hi := 9999) h16 ⟨by decide, by decide⟩ rg_u29 dX5_lead_55 (fun x42 k41 h40 => ?_)
            refine lv_isub hx hb dX5_lead_56 ?_
            refine tw_top (fun x44 => ?_)
            have h43 := iv_any x44
            refine lv_istore (lv' := [(4, .int x44), (5, .int x2), (0, .ref (base + a0)), (1, .ref (base + a1)), (2, .int a2), (3, .int a3)]) hx hb dX5_lead_57 hl (by decide) rfl (fun ls hl => ?_)
            refine tw_iinc (lv' := fun x47 => [(5, .int x47), (4, .int x44), (0, .ref (base + a0)), (1, .ref (base + a1)), (2, .int a2), (3, .int a3)]) (lo := 1) (hi := 10) hx hb dX5_lead_59 hl (k := 1) rfl h16 (by decide) ⟨by decide, by decide⟩ ⟨by decide, by decide⟩ (by decide) (fun _ => rfl) (fun x47 ls e46 h45 hl => ?_)
            refine lv_goto (tgt := 6) hx hb dX5_lead_62 (by decide) ?_
            have hm48 : 10 - x47.toInt < (n_3 : Int) := by
              have := (h_a2).1; have := (h_a2).2; have := (h_a3).1; have := (h_a3).2; have := (h16).1; have := (h16).2; have := (h45).1; have := (h45).2; omega
            exact ih_3 x44 x47 M3 R4 J5 H locs _ h43 (iv_mono h45 (by decide) (by decide)) hm48 hS (lv_sub hl [1, 0, 2, 3, 4, 5] rfl)
        · have q49 : x22.toInt = 1 := ti_eq c23
          have h50 : iv 1 1 x22 := ⟨by have := (h20).1; have := ((iv_c (c := 1) (n := 1) (by decide))).1; omega, by have := (h20).2; have := ((iv_c (c := 1) (n := 1) (by decide))).2; omega⟩
          refine lv_iload hx hb dX5_lead_28 (lv_at hl 0 rfl) ?_
          refine lv_aload_n hx hb dX5_lead_30 rfl (lv_at hl 3 rfl) ?_
          refine lv_iload hx hb dX5_lead_31 (lv_at hl 1 rfl) ?_
          refine tw_iald hx hb hK hS hz_a1 hk_a1 (Or.inr (by decide)) hn_a1 (lo := 0) (hi := 9999) h16 ⟨by decide, by decide⟩ rg_u29 dX5_lead_33 (fun x53 k52 h51 => ?_)
          refine lv_iadd hx hb dX5_lead_34 ?_
          refine tw_top (fun x55 => ?_)
          have h54 := iv_any x55
          refine lv_istore (lv' := [(4, .int x55), (5, .int x2), (0, .ref (base + a0)), (1, .ref (base + a1)), (2, .int a2), (3, .int a3)]) hx hb dX5_lead_35 hl (by decide) rfl (fun ls hl => ?_)
          refine lv_goto (tgt := 59) hx hb dX5_lead_37 (by decide) ?_
          refine tw_iinc (lv' := fun x58 => [(5, .int x58), (4, .int x55), (0, .ref (base + a0)), (1, .ref (base + a1)), (2, .int a2), (3, .int a3)]) (lo := 1) (hi := 10) hx hb dX5_lead_59 hl (k := 1) rfl h16 (by decide) ⟨by decide, by decide⟩ ⟨by decide, by decide⟩ (by decide) (fun _ => rfl) (fun x58 ls e57 h56 hl => ?_)
          refine lv_goto (tgt := 6) hx hb dX5_lead_62 (by decide) ?_
          have hm59 : 10 - x58.toInt < (n_3 : Int) := by
            have := (h_a2).1; have := (h_a2).2; have := (h_a3).1; have := (h_a3).2; have := (h16).1; have := (h16).2; have := (h56).1; have := (h56).2; omega
          exact ih_3 x55 x58 M3 R4 J5 H locs _ h54 (iv_mono h56 (by decide) (by decide)) hm59 hS (lv_sub hl [1, 0, 2, 3, 4, 5] rfl)
  have hm60 : 10 - (0 : Int32).toInt < (((11 : Nat) : Int) : Int) := by
    have := (h_a2).1; have := (h_a2).2; have := (h_a3).1; have := (h_a3).2; have : (0 : Int32).toInt = 0 := (by decide); omega
  exact W6_3 11 0 0 Ma Ra Ja s.heap [] _ (iv_mono (iv_c (c := 0) (n := 0) (by decide)) (by decide) (by decide)) (iv_mono (iv_c (c := 0) (n := 0) (by decide)) (by decide) (by decide)) hm60 hS (lv_sub hl [1, 0, 2, 3, 4, 5] rfl)
def Lt_X5_hold_1 : WL := [(6, 14, 15), (29, 0, 2000000)]
def LRt_X5_hold_1 : WL := []
set_option maxRecDepth 100000 in
set_option maxHeartbeats 4000000 in
theorem t_X5_hold_1 (l : Launch) (D : va_G) (cy : Nat → ClassId) (tx : (Nat → Nat) × (Nat → Nat)) (base Z : Nat) (K N : Nat → Nat) (Ma : MT) (Ra : RT) (Ja : JT) (hTy : Ty Z K N Ma Ra) (a0 : Nat) (hz_a0 : a0 < Z) (hk_a0 : K a0 = 6) (a1 : Nat) (hz_a1 : a1 < Z) (hk_a1 : K a1 = 29) (hn_a1 : N a1 = 10) (a2 : Int32) (h_a2 : iv (-2147483648) 2147483647 a2) (a3 : Int32) (h_a3 : iv (-2147483648) 2147483647 a3) : Met l yX5_hold [Cond.code yX5_hold cX5_hold 5 (some .int)] (md_rm 2 0 0) (va_Pc [.ref (base + a0), .ref (base + a1), .int a2, .int a3] (md_U D cy tx base Z K N Ma Ra Ja)) (mQi D cy tx base (fun r u => TP Z K N Lt_X5_hold_1 LRt_X5_hold_1 Ma Ra u ∧ (iv 0 2 r))) 0 0 (fun q => base ≤ q) := by
  refine tw_ofW (L := Lt_X5_hold_1) (LR := LRt_X5_hold_1) (by decide) (Nat.le_of_ble_eq_true rfl) hTy ?_
  intro p e s m args below meth c Q ls hx hb hr hlocks hown hml hW hK hT hS hQ hl
  have hl : lv_has ls 5 [(0, .ref (base + a0)), (1, .ref (base + a1)), (2, .int a2), (3, .int a3)] := hl
  refine lv_aload_n hx hb dX5_hold_0 rfl (lv_at hl 0 rfl) ?_
  refine lv_aload_n hx hb dX5_hold_1 rfl (lv_at hl 1 rfl) ?_
  refine lv_iload_n hx hb dX5_hold_2 rfl (lv_at hl 2 rfl) ?_
  refine lv_iload_n hx hb dX5_hold_3 rfl (lv_at hl 3 rfl) ?_
  refine tw_goi hS (md_runV (As := [.ref (base + a1), .int a2, .int a3]) (rest := []) hx hb hml hown hW hK hT hS.1 (t_X5_lead_1 l D cy tx base Z K N Ma Ra Ja hS.2.1 a0 hz_a0 hk_a0 a1 hz_a1 hk_a1 hn_a1 a2 h_a2 a3 h_a3) s_X5_94 ⟨rfl, rfl, ⟨Nat.le_of_ble_eq_true rfl, Nat.le_of_ble_eq_true rfl⟩, ⟨Nat.le_of_ble_eq_true rfl, Nat.le_of_ble_eq_true rfl⟩⟩ hz_a0 hk_a0 (by decide) rfl rfl hl.1 rfl (Nat.le_of_ble_eq_true rfl) dX5_hold_4) rfl rfl (fun x7 H locs M4 R5 J3 hS f1 g2 E6 => ?_)
  have eM4 := Fr.nil f1 rfl
  subst eM4
  have eR5 := Fr.nil g2 rfl
  subst eR5
  have h_x7 := E6
  clear E6
  refine lv_istore (lv' := [(4, .int x7), (0, .ref (base + a0)), (1, .ref (base + a1)), (2, .int a2), (3, .int a3)]) hx hb dX5_hold_7 hl (by decide) rfl (fun ls hl => ?_)
  refine lv_aload_n hx hb dX5_hold_9 rfl (lv_at hl 1 rfl) ?_
  refine lv_iload hx hb dX5_hold_10 (lv_at hl 0 rfl) ?_
  refine lv_if_le (tgt := 19) hx hb dX5_hold_12 (by decide) (fun c8 => ?_) (fun c8 => ?_)
  · have q9 : x7.toInt ≤ 0 := ti_le c8
    have h10 : iv (-2147483648) 0 x7 := iv_leL (y := 0) h_x7 (iv_c (c := 0) (n := 0) (by decide)) q9 (by decide)
    refine lv_iload hx hb dX5_hold_19 (lv_at hl 0 rfl) ?_
    refine lv_if_ge (tgt := 28) hx hb dX5_hold_21 (by decide) (fun c11 => ?_) (fun c11 => ?_)
    · have q12 : 0 ≤ x7.toInt := ti_le c11
      have h13 : iv 0 0 x7 := iv_geL (y := 0) h10 (iv_c (c := 0) (n := 0) (by decide)) q12 (by decide)
      refine lv_iconst (v := 0) hx hb dX5_hold_28 (by decide) ?_
      refine tw_puti hx hb hW hown hK hS f_X5_98_5 hz_a0 hk_a0 rfl rfl (lo := (-2147483648)) (hi := 2147483647) rfl (iv_mono (iv_c (c := 0) (n := 0) (by decide)) (by decide) (by decide)) rfl dX5_hold_29 (fun H locs M16 hS k14 f15 => ?_)
      refine lv_aload_n hx hb dX5_hold_32 rfl (lv_at hl 1 rfl) ?_
      refine lv_aload_n hx hb dX5_hold_33 rfl (lv_at hl 2 rfl) ?_
      refine lv_aload_n hx hb dX5_hold_34 rfl (lv_at hl 1 rfl) ?_
      refine tw_getk hx hb hW hown hK hS f_X5_98_5 hz_a0 hk_a0 (v := 0) k14 dX5_hold_35 ?_
      refine lv_iload_n hx hb dX5_hold_38 rfl (lv_at hl 3 rfl) ?_
      refine lv_iload_n hx hb dX5_hold_39 rfl (lv_at hl 4 rfl) ?_
      refine lv_ior hx hb dX5_hold_40 ?_
      refine tw_top (fun x18 => ?_)
      have h17 := iv_any x18
      refine lv_aload_n hx hb dX5_hold_41 rfl (lv_at hl 1 rfl) ?_
      refine tw_getk hx hb hW hown hK hS f_X5_98_5 hz_a0 hk_a0 (v := 0) k14 dX5_hold_42 ?_
      refine lv_iconst (v := (-1)) hx hb dX5_hold_45 (by decide) ?_
      refine lv_ixor hx hb dX5_hold_46 ?_
      refine md_top (y := (-1)) (by decide) ?_
      refine lv_iand hx hb dX5_hold_47 ?_
      refine tw_top (fun x20 => ?_)
      have h19 := iv_any x20
      refine tw_gov hS (md_runV (As := [.ref (base + a1), .int 0, .int x20]) (rest := []) hx hb hml hown hW hK hT hS.1 (t_X5_grow_1 l D cy tx base Z K N M16 Ra J3 hS.2.1 a0 hz_a0 hk_a0 a1 hz_a1 hk_a1 hn_a1 0 (iv_mono (iv_c (c := 0) (n := 0) (by decide)) (by decide) (by decide)) x20 h19) s_X5_101 ⟨rfl, rfl, ⟨Nat.le_of_ble_eq_true rfl, Nat.le_of_ble_eq_true rfl⟩, ⟨Nat.le_of_ble_eq_true rfl, Nat.le_of_ble_eq_true rfl⟩⟩ hz_a0 hk_a0 (by decide) rfl rfl hl.1 rfl (Nat.le_of_ble_eq_true rfl) dX5_hold_48) rfl rfl (fun H locs M24 R25 J23 hS f21 g22 E26 => ?_)
      have eR25 := Fr.nil g22 rfl
      subst eR25
      refine lv_iload hx hb dX5_hold_51 (lv_at hl 0 rfl) ?_
      refine lv_if_le (tgt := 60) hx hb dX5_hold_53 (by decide) (fun c27 => ?_) (fun c27 => False.elim (by have q : 0 < x7.toInt := ti_nle c27; have := (h13).1; have := (h13).2; omega))
      have q28 : x7.toInt ≤ 0 := ti_le c27
      refine lv_iload hx hb dX5_hold_60 (lv_at hl 0 rfl) ?_
      refine lv_if_ge (tgt := 69) hx hb dX5_hold_62 (by decide) (fun c29 => ?_) (fun c29 => False.elim (by have q : x7.toInt < 0 := ti_nle c29; have := (h13).1; have := (h13).2; omega))
      have q30 : 0 ≤ x7.toInt := ti_le c29
      refine lv_iconst (v := 2) hx hb dX5_hold_69 (by decide) ?_
      exact tw_endi hx hb hr hlocks hK hT hS hQ ((iv_mono (iv_c (c := 2) (n := 2) (by decide)) (by decide) (by decide))) dX5_hold_70
    · have q31 : x7.toInt < 0 := ti_nle c11
      have h32 : iv (-2147483648) (-1) x7 := iv_ltL (y := 0) h10 (iv_c (c := 0) (n := 0) (by decide)) q31 (by decide)
      refine lv_iload_n hx hb dX5_hold_24 rfl (lv_at hl 4 rfl) ?_
      refine lv_goto (tgt := 29) hx hb dX5_hold_25 (by decide) ?_
      refine tw_puti hx hb hW hown hK hS f_X5_98_5 hz_a0 hk_a0 rfl rfl (lo := (-2147483648)) (hi := 2147483647) rfl h_a3 rfl dX5_hold_29 (fun H locs M35 hS k33 f34 => ?_)
      refine lv_aload_n hx hb dX5_hold_32 rfl (lv_at hl 1 rfl) ?_
      refine lv_aload_n hx hb dX5_hold_33 rfl (lv_at hl 2 rfl) ?_
      refine lv_aload_n hx hb dX5_hold_34 rfl (lv_at hl 1 rfl) ?_
      refine tw_getk hx hb hW hown hK hS f_X5_98_5 hz_a0 hk_a0 (v := a3) k33 dX5_hold_35 ?_
      refine lv_iload_n hx hb dX5_hold_38 rfl (lv_at hl 3 rfl) ?_
      refine lv_iload_n hx hb dX5_hold_39 rfl (lv_at hl 4 rfl) ?_
      refine lv_ior hx hb dX5_hold_40 ?_
      refine tw_top (fun x37 => ?_)
      have h36 := iv_any x37
      refine lv_aload_n hx hb dX5_hold_41 rfl (lv_at hl 1 rfl) ?_
      refine tw_getk hx hb hW hown hK hS f_X5_98_5 hz_a0 hk_a0 (v := a3) k33 dX5_hold_42 ?_
      refine lv_iconst (v := (-1)) hx hb dX5_hold_45 (by decide) ?_
      refine lv_ixor hx hb dX5_hold_46 ?_
      refine tw_top (fun x39 => ?_)
      have h38 := iv_any x39
      refine lv_iand hx hb dX5_hold_47 ?_
      refine tw_top (fun x41 => ?_)
      have h40 := iv_any x41
      refine tw_gov hS (md_runV (As := [.ref (base + a1), .int a3, .int x41]) (rest := []) hx hb hml hown hW hK hT hS.1 (t_X5_grow_1 l D cy tx base Z K N M35 Ra J3 hS.2.1 a0 hz_a0 hk_a0 a1 hz_a1 hk_a1 hn_a1 a3 h_a3 x41 h40) s_X5_101 ⟨rfl, rfl, ⟨Nat.le_of_ble_eq_true rfl, Nat.le_of_ble_eq_true rfl⟩, ⟨Nat.le_of_ble_eq_true rfl, Nat.le_of_ble_eq_true rfl⟩⟩ hz_a0 hk_a0 (by decide) rfl rfl hl.1 rfl (Nat.le_of_ble_eq_true rfl) dX5_hold_48) rfl rfl (fun H locs M45 R46 J44 hS f42 g43 E47 => ?_)
      have eR46 := Fr.nil g43 rfl
      subst eR46
      refine lv_iload hx hb dX5_hold_51 (lv_at hl 0 rfl) ?_
      refine lv_if_le (tgt := 60) hx hb dX5_hold_53 (by decide) (fun c48 => ?_) (fun c48 => False.elim (by have q : 0 < x7.toInt := ti_nle c48; have := (h32).1; have := (h32).2; omega))
      have q49 : x7.toInt ≤ 0 := ti_le c48
      refine lv_iload hx hb dX5_hold_60 (lv_at hl 0 rfl) ?_
      refine lv_if_ge (tgt := 69) hx hb dX5_hold_62 (by decide) (fun c50 => False.elim (by have q : 0 ≤ x7.toInt := ti_le c50; have := (h32).1; have := (h32).2; omega)) (fun c50 => ?_)
      have q51 : x7.toInt < 0 := ti_nle c50
      refine lv_iconst (v := 0) hx hb dX5_hold_65 (by decide) ?_
      refine lv_goto (tgt := 70) hx hb dX5_hold_66 (by decide) ?_
      exact tw_endi hx hb hr hlocks hK hT hS hQ ((iv_mono (iv_c (c := 0) (n := 0) (by decide)) (by decide) (by decide))) dX5_hold_70
  · have q52 : 0 < x7.toInt := ti_nle c8
    have h53 : iv 1 2147483647 x7 := iv_gtL (y := 0) h_x7 (iv_c (c := 0) (n := 0) (by decide)) q52 (by decide)
    refine lv_iload_n hx hb dX5_hold_15 rfl (lv_at hl 3 rfl) ?_
    refine lv_goto (tgt := 29) hx hb dX5_hold_16 (by decide) ?_
    refine tw_puti hx hb hW hown hK hS f_X5_98_5 hz_a0 hk_a0 rfl rfl (lo := (-2147483648)) (hi := 2147483647) rfl h_a2 rfl dX5_hold_29 (fun H locs M56 hS k54 f55 => ?_)
    refine lv_aload_n hx hb dX5_hold_32 rfl (lv_at hl 1 rfl) ?_
    refine lv_aload_n hx hb dX5_hold_33 rfl (lv_at hl 2 rfl) ?_
    refine lv_aload_n hx hb dX5_hold_34 rfl (lv_at hl 1 rfl) ?_
    refine tw_getk hx hb hW hown hK hS f_X5_98_5 hz_a0 hk_a0 (v := a2) k54 dX5_hold_35 ?_
    refine lv_iload_n hx hb dX5_hold_38 rfl (lv_at hl 3 rfl) ?_
    refine lv_iload_n hx hb dX5_hold_39 rfl (lv_at hl 4 rfl) ?_
    refine lv_ior hx hb dX5_hold_40 ?_
    refine tw_top (fun x58 => ?_)
    have h57 := iv_any x58
    refine lv_aload_n hx hb dX5_hold_41 rfl (lv_at hl 1 rfl) ?_
    refine tw_getk hx hb hW hown hK hS f_X5_98_5 hz_a0 hk_a0 (v := a2) k54 dX5_hold_42 ?_
    refine lv_iconst (v := (-1)) hx hb dX5_hold_45 (by decide) ?_
    refine lv_ixor hx hb dX5_hold_46 ?_
    refine tw_top (fun x60 => ?_)
    have h59 := iv_any x60
    refine lv_iand hx hb dX5_hold_47 ?_
    refine tw_top (fun x62 => ?_)
    have h61 := iv_any x62
    refine tw_gov hS (md_runV (As := [.ref (base + a1), .int a2, .int x62]) (rest := []) hx hb hml hown hW hK hT hS.1 (t_X5_grow_1 l D cy tx base Z K N M56 Ra J3 hS.2.1 a0 hz_a0 hk_a0 a1 hz_a1 hk_a1 hn_a1 a2 h_a2 x62 h61) s_X5_101 ⟨rfl, rfl, ⟨Nat.le_of_ble_eq_true rfl, Nat.le_of_ble_eq_true rfl⟩, ⟨Nat.le_of_ble_eq_true rfl, Nat.le_of_ble_eq_true rfl⟩⟩ hz_a0 hk_a0 (by decide) rfl rfl hl.1 rfl (Nat.le_of_ble_eq_true rfl) dX5_hold_48) rfl rfl (fun H locs M66 R67 J65 hS f63 g64 E68 => ?_)
    have eR67 := Fr.nil g64 rfl
    subst eR67
    refine lv_iload hx hb dX5_hold_51 (lv_at hl 0 rfl) ?_
    refine lv_if_le (tgt := 60) hx hb dX5_hold_53 (by decide) (fun c69 => False.elim (by have q : x7.toInt ≤ 0 := ti_le c69; have := (h53).1; have := (h53).2; omega)) (fun c69 => ?_)
    have q70 : 0 < x7.toInt := ti_nle c69
    refine lv_iconst (v := 1) hx hb dX5_hold_56 (by decide) ?_
    refine lv_goto (tgt := 70) hx hb dX5_hold_57 (by decide) ?_
    exact tw_endi hx hb hr hlocks hK hT hS hQ ((iv_mono (iv_c (c := 1) (n := 1) (by decide)) (by decide) (by decide))) dX5_hold_70
def Lt_X9_sumOf_1 : WL := []
def LRt_X9_sumOf_1 : WL := []
set_option maxRecDepth 100000 in
set_option maxHeartbeats 4000000 in
theorem t_X9_sumOf_1 (l : Launch) (D : va_G) (cy : Nat → ClassId) (tx : (Nat → Nat) × (Nat → Nat)) (base Z : Nat) (K N : Nat → Nat) (Ma : MT) (Ra : RT) (Ja : JT) (hTy : Ty Z K N Ma Ra) (a0 : Nat) (hz_a0 : a0 < Z) (hk_a0 : K a0 = 10) (a1 : Nat) (hz_a1 : a1 < Z) (hk_a1 : K a1 = 29) (hn_a1 : N a1 = 10) (a2 : Int32) (h_a2 : iv (-2147483648) 2147483647 a2) : Met l yX9_sumOf [Cond.code yX9_sumOf cX9_sumOf 5 (some .int)] (md_rm 1 0 0) (va_Pc [.ref (base + a0), .ref (base + a1), .int a2] (md_U D cy tx base Z K N Ma Ra Ja)) (mQi D cy tx base (fun r u => TP Z K N Lt_X9_sumOf_1 LRt_X9_sumOf_1 Ma Ra u ∧ (iv (-2147483648) 2147483647 r))) 0 0 (fun q => base ≤ q) := by
  refine tw_ofW (L := Lt_X9_sumOf_1) (LR := LRt_X9_sumOf_1) (by decide) (Nat.le_of_ble_eq_true rfl) hTy ?_
  intro p e s m args below meth c Q ls hx hb hr hlocks hown hml hW hK hT hS hQ hl
  have hl : lv_has ls 5 [(0, .ref (base + a0)), (1, .ref (base + a1)), (2, .int a2)] := hl
  refine lv_iconst (v := 0) hx hb dX9_sumOf_0 (by decide) ?_
  refine lv_istore_n (lv' := [(3, .int 0), (0, .ref (base + a0)), (1, .ref (base + a1)), (2, .int a2)]) hx hb dX9_sumOf_1 rfl hl (by decide) rfl (fun ls hl => ?_)
  refine lv_iconst (v := 0) hx hb dX9_sumOf_2 (by decide) ?_
  refine lv_istore (lv' := [(4, .int 0), (3, .int 0), (0, .ref (base + a0)), (1, .ref (base + a1)), (2, .int a2)]) hx hb dX9_sumOf_3 hl (by decide) rfl (fun ls hl => ?_)
  have W5_3 : ∀ (n_3 : Nat) (x1 : Int32) (x2 : Int32) (M3 : MT) (R4 : RT) (J5 : JT) (H : Heap) (locs : List Loc) (ls : Array Slot) (h_x1 : iv (-2147483648) 2147483647 x1) (h_x2 : iv 0 10 x2) (hm_3 : 10 - x2.toInt < (n_3 : Int)) (hS : SB D cy base Z K N Lt_X9_sumOf_1 LRt_X9_sumOf_1 Ma Ra M3 R4 J5 s H locs) (hl : lv_has ls 5 [(3, .int x1), (4, .int x2), (0, .ref (base + a0)), (1, .ref (base + a1)), (2, .int a2)]), W p l e (md_rm 1 0 0) s m args below meth c H locs 0 0 Q (F0 m 5 ls []) := by
    intro n_3
    induction n_3 with
    | zero =>
      intro x1 x2 M3 R4 J5 H locs ls h_x1 h_x2 hm_3 hS hl
      exfalso
      have := (h_a2).1; have := (h_a2).2; have := (h_x2).1; have := (h_x2).2; omega
    | succ n_3 ih_3 =>
      intro x1 x2 M3 R4 J5 H locs ls h_x1 h_x2 hm_3 hS hl
      have f6 := hS.2.2.1
      have g7 := hS.2.2.2
      refine lv_iload hx hb dX9_sumOf_5 (lv_at hl 1 rfl) ?_
      refine lv_aload_n hx hb dX9_sumOf_7 rfl (lv_at hl 2 rfl) ?_
      refine tw_geti hx hb hW hown hK hS f_X9_33_9 hz_a0 hk_a0 (lo := (-2147483648)) (hi := 10) rfl dX9_sumOf_8 (fun x10 k9 h8 => ?_)
      refine lv_icmp_ge (tgt := 37) hx hb dX9_sumOf_11 (by decide) (fun c11 => ?_) (fun c11 => ?_)
      · have q12 : x10.toInt ≤ x2.toInt := ti_le c11
        refine lv_iload_n hx hb dX9_sumOf_37 rfl (lv_at hl 0 rfl) ?_
        exact tw_endi hx hb hr hlocks hK hT hS hQ (h_x1) dX9_sumOf_38
      · have q13 : x2.toInt < x10.toInt := ti_nle c11
        have h14 : iv 0 9 x2 := iv_ltL (y := x10) h_x2 h8 q13 (by decide)
        have h15 : iv 1 10 x10 := iv_gtL (y := x2) h8 h_x2 q13 (by decide)
        refine lv_iload_n hx hb dX9_sumOf_14 rfl (lv_at hl 4 rfl) ?_
        refine lv_iload hx hb dX9_sumOf_15 (lv_at hl 1 rfl) ?_
        refine lv_ishr hx hb dX9_sumOf_17 ?_
        refine tw_top (fun x17 => ?_)
        have h16 := iv_any x17
        refine lv_iconst (v := 1) hx hb dX9_sumOf_18 (by decide) ?_
        refine tw_iand (hi := 1) hx hb (iv_mono (iv_c (c := 1) (n := 1) (by decide)) (lo := 0) (hi := 1) (by decide) (by decide)) (by decide) dX9_sumOf_19 (fun x20 h18 => ?_)
        refine lv_iconst (v := 1) hx hb dX9_sumOf_20 (by decide) ?_
        refine lv_icmp_ne (tgt := 31) hx hb dX9_sumOf_21 (by decide) (fun c21 => ?_) (fun c21 => ?_)
        · have q22 : ¬ x20.toInt = 1 := ti_ne c21
          have h23 : iv 0 0 x20 := ⟨by have := (h18).1; have := ((iv_c (c := 1) (n := 1) (by decide))).1; have := ((iv_c (c := 1) (n := 1) (by decide))).2; omega, by have := (h18).2; have := ((iv_c (c := 1) (n := 1) (by decide))).1; have := ((iv_c (c := 1) (n := 1) (by decide))).2; omega⟩
          refine tw_iinc (lv' := fun x26 => [(4, .int x26), (3, .int x1), (0, .ref (base + a0)), (1, .ref (base + a1)), (2, .int a2)]) (lo := 1) (hi := 10) hx hb dX9_sumOf_31 hl (k := 1) rfl h14 (by decide) ⟨by decide, by decide⟩ ⟨by decide, by decide⟩ (by decide) (fun _ => rfl) (fun x26 ls e25 h24 hl => ?_)
          refine lv_goto (tgt := 5) hx hb dX9_sumOf_34 (by decide) ?_
          have hm27 : 10 - x26.toInt < (n_3 : Int) := by
            have := (h_a2).1; have := (h_a2).2; have := (h14).1; have := (h14).2; have := (h24).1; have := (h24).2; omega
          exact ih_3 x1 x26 M3 R4 J5 H locs _ h_x1 (iv_mono h24 (by decide) (by decide)) hm27 hS (lv_sub hl [1, 0, 2, 3, 4] rfl)
        · have q28 : x20.toInt = 1 := ti_eq c21
          have h29 : iv 1 1 x20 := ⟨by have := (h18).1; have := ((iv_c (c := 1) (n := 1) (by decide))).1; omega, by have := (h18).2; have := ((iv_c (c := 1) (n := 1) (by decide))).2; omega⟩
          refine lv_iload_n hx hb dX9_sumOf_24 rfl (lv_at hl 0 rfl) ?_
          refine lv_aload_n hx hb dX9_sumOf_25 rfl (lv_at hl 3 rfl) ?_
          refine lv_iload hx hb dX9_sumOf_26 (lv_at hl 1 rfl) ?_
          refine tw_iald hx hb hK hS hz_a1 hk_a1 (Or.inr (by decide)) hn_a1 (lo := 0) (hi := 9999) h14 ⟨by decide, by decide⟩ rg_u29 dX9_sumOf_28 (fun x32 k31 h30 => ?_)
          refine lv_iadd hx hb dX9_sumOf_29 ?_
          refine tw_top (fun x34 => ?_)
          have h33 := iv_any x34
          refine lv_istore_n (lv' := [(3, .int x34), (4, .int x2), (0, .ref (base + a0)), (1, .ref (base + a1)), (2, .int a2)]) hx hb dX9_sumOf_30 rfl hl (by decide) rfl (fun ls hl => ?_)
          refine tw_iinc (lv' := fun x37 => [(4, .int x37), (3, .int x34), (0, .ref (base + a0)), (1, .ref (base + a1)), (2, .int a2)]) (lo := 1) (hi := 10) hx hb dX9_sumOf_31 hl (k := 1) rfl h14 (by decide) ⟨by decide, by decide⟩ ⟨by decide, by decide⟩ (by decide) (fun _ => rfl) (fun x37 ls e36 h35 hl => ?_)
          refine lv_goto (tgt := 5) hx hb dX9_sumOf_34 (by decide) ?_
          have hm38 : 10 - x37.toInt < (n_3 : Int) := by
            have := (h_a2).1; have := (h_a2).2; have := (h14).1; have := (h14).2; have := (h35).1; have := (h35).2; omega
          exact ih_3 x34 x37 M3 R4 J5 H locs _ h33 (iv_mono h35 (by decide) (by decide)) hm38 hS (lv_sub hl [1, 0, 2, 3, 4] rfl)
  have hm39 : 10 - (0 : Int32).toInt < (((11 : Nat) : Int) : Int) := by
    have := (h_a2).1; have := (h_a2).2; have : (0 : Int32).toInt = 0 := (by decide); omega
  exact W5_3 11 0 0 Ma Ra Ja s.heap [] _ (iv_mono (iv_c (c := 0) (n := 0) (by decide)) (by decide) (by decide)) (iv_mono (iv_c (c := 0) (n := 0) (by decide)) (by decide) (by decide)) hm39 hS (lv_sub hl [1, 0, 2, 3, 4] rfl)
def Lt_X0_holdAll : WL := [(6, 14, 15), (29, 0, 2000000)]
def LRt_X0_holdAll : WL := []
set_option maxRecDepth 100000 in
set_option maxHeartbeats 4000000 in
theorem t_X0_holdAll (l : Launch) (D : va_G) (cy : Nat → ClassId) (tx : (Nat → Nat) × (Nat → Nat)) (base Z : Nat) (K N : Nat → Nat) (Ma : MT) (Ra : RT) (Ja : JT) (hTy : Ty Z K N Ma Ra) (a0 : Nat) (hz_a0 : a0 < Z) (hk_a0 : K a0 = 1) : Met l yX0_holdAll [Cond.code yX0_holdAll cX0_holdAll 8 (some .boolean)] (md_rm 3 0 0) (va_Pc [.ref (base + a0)] (md_U D cy tx base Z K N Ma Ra Ja)) (mQi D cy tx base (fun r u => TP Z K N Lt_X0_holdAll LRt_X0_holdAll Ma Ra u ∧ (iv 0 1 r))) 0 0 (fun q => base ≤ q) := by
  refine tw_ofW (L := Lt_X0_holdAll) (LR := LRt_X0_holdAll) (by decide) (Nat.le_of_ble_eq_true rfl) hTy ?_
  intro p e s m args below meth c Q ls hx hb hr hlocks hown hml hW hK hT hS hQ hl
  have hl : lv_has ls 8 [(0, .ref (base + a0))] := hl
  refine lv_aload_n hx hb dX0_holdAll_0 rfl (lv_at hl 0 rfl) ?_
  refine tw_getr hx hb hW hown hK hS f_X0_9_0 hz_a0 hk_a0 (t := 37) (n := 10) rfl dX0_holdAll_1 (fun b1 k2 hz_b1 hk_b1 hn_b1 => ?_)
  have hn_b1 := hn_b1 (by decide)
  refine lv_iconst (v := 0) hx hb dX0_holdAll_4 (by decide) ?_
  refine lv_aload_n hx hb dX0_holdAll_5 rfl (lv_at hl 0 rfl) ?_
  refine tw_getr hx hb hW hown hK hS f_X0_15_0 hz_a0 hk_a0 (t := 29) (n := 10) rfl dX0_holdAll_6 (fun b3 k4 hz_b3 hk_b3 hn_b3 => ?_)
  have hn_b3 := hn_b3 (by decide)
  refine lv_iconst (v := 0) hx hb dX0_holdAll_9 (by decide) ?_
  refine lv_bipush (v := 10) hx hb dX0_holdAll_10 (by decide) ?_
  refine tw_copy hx hb (hml.trans hl.1.symm) hW hown hK hS (md_okc w_5_202 rfl (md_okc w_3_226 rfl (md_okc w_3_225 rfl (md_okc w_1_18 rfl (md_ok0))))) hz_b3 hk_b3 (Or.inr (by decide)) hz_b1 hk_b1 (Or.inr (by decide)) hn_b3 hn_b1 (by have := ((iv_c (c := 10) (n := 10) (by decide))).1; have := ((iv_c (c := 10) (n := 10) (by decide))).2; have := ((iv_c (c := 0) (n := 0) (by decide))).1; have := ((iv_c (c := 0) (n := 0) (by decide))).2; have := ((iv_c (c := 0) (n := 0) (by decide))).1; have := ((iv_c (c := 0) (n := 0) (by decide))).2; omega) (by have := ((iv_c (c := 10) (n := 10) (by decide))).1; have := ((iv_c (c := 10) (n := 10) (by decide))).2; have := ((iv_c (c := 0) (n := 0) (by decide))).1; have := ((iv_c (c := 0) (n := 0) (by decide))).2; have := ((iv_c (c := 0) (n := 0) (by decide))).1; have := ((iv_c (c := 0) (n := 0) (by decide))).2; omega) (by have := ((iv_c (c := 10) (n := 10) (by decide))).1; have := ((iv_c (c := 10) (n := 10) (by decide))).2; have := ((iv_c (c := 0) (n := 0) (by decide))).1; have := ((iv_c (c := 0) (n := 0) (by decide))).2; have := ((iv_c (c := 0) (n := 0) (by decide))).1; have := ((iv_c (c := 0) (n := 0) (by decide))).2; omega) (by have := ((iv_c (c := 10) (n := 10) (by decide))).1; have := ((iv_c (c := 10) (n := 10) (by decide))).2; have := ((iv_c (c := 0) (n := 0) (by decide))).1; have := ((iv_c (c := 0) (n := 0) (by decide))).2; have := ((iv_c (c := 0) (n := 0) (by decide))).1; have := ((iv_c (c := 0) (n := 0) (by decide))).2; omega) (by have := ((iv_c (c := 10) (n := 10) (by decide))).1; have := ((iv_c (c := 10) (n := 10) (by decide))).2; have := ((iv_c (c := 0) (n := 0) (by decide))).1; have := ((iv_c (c := 0) (n := 0) (by decide))).2; have := ((iv_c (c := 0) (n := 0) (by decide))).1; have := ((iv_c (c := 0) (n := 0) (by decide))).2; omega) (fun _ _ => ⟨by show (0 : Int) ≤ 0; decide, by show (9999 : Int) ≤ 9999; decide⟩) (Nat.le_of_ble_eq_true rfl) (Nat.le_of_ble_eq_true rfl) rfl dX0_holdAll_12 (fun H locs M7 hS f5 k6 => ?_)
  refine lv_iconst (v := 1) hx hb dX0_holdAll_15 (by decide) ?_
  refine lv_istore_n (lv' := [(1, .int 1), (0, .ref (base + a0))]) hx hb dX0_holdAll_16 rfl hl (by decide) rfl (fun ls hl => ?_)
  refine lv_iconst (v := 0) hx hb dX0_holdAll_17 (by decide) ?_
  refine lv_istore_n (lv' := [(2, .int 0), (1, .int 1), (0, .ref (base + a0))]) hx hb dX0_holdAll_18 rfl hl (by decide) rfl (fun ls hl => ?_)
  have W19_10 : ∀ (n_10 : Nat) (x8 : Int32) (x9 : Int32) (M10 : MT) (R11 : RT) (J12 : JT) (H : Heap) (locs : List Loc) (ls : Array Slot) (h_x8 : iv 0 1 x8) (h_x9 : iv 0 12 x9) (hm_10 : 12 - x9.toInt < (n_10 : Int)) (hS : SB D cy base Z K N Lt_X0_holdAll LRt_X0_holdAll Ma Ra M10 R11 J12 s H locs) (hl : lv_has ls 8 [(1, .int x8), (2, .int x9), (0, .ref (base + a0))]), W p l e (md_rm 3 0 0) s m args below meth c H locs 0 0 Q (F0 m 19 ls []) := by
    intro n_10
    induction n_10 with
    | zero =>
      intro x8 x9 M10 R11 J12 H locs ls h_x8 h_x9 hm_10 hS hl
      exfalso
      have := (h_x9).1; have := (h_x9).2; omega
    | succ n_10 ih_10 =>
      intro x8 x9 M10 R11 J12 H locs ls h_x8 h_x9 hm_10 hS hl
      have f13 := hS.2.2.1
      have g14 := hS.2.2.2
      refine lv_iload_n hx hb dX0_holdAll_19 rfl (lv_at hl 1 rfl) ?_
      refine lv_aload_n hx hb dX0_holdAll_20 rfl (lv_at hl 2 rfl) ?_
      refine tw_getr hx hb hW hown hK hS f_X0_33_0 hz_a0 hk_a0 (t := 10) (n := 0) rfl dX0_holdAll_21 (fun b15 k16 hz_b15 hk_b15 hn_b15 => ?_)
      refine tw_geti hx hb hW hown hK hS f_X0_73_9 hz_b15 hk_b15 (lo := 0) (hi := 12) rfl dX0_holdAll_24 (fun x19 k18 h17 => ?_)
      refine lv_icmp_ge (tgt := 156) hx hb dX0_holdAll_27 (by decide) (fun c20 => ?_) (fun c20 => ?_)
      · have q21 : x19.toInt ≤ x9.toInt := ti_le c20
        refine lv_iload_n hx hb dX0_holdAll_156 rfl (lv_at hl 0 rfl) ?_
        exact tw_endz hx hb hr hlocks hK hT hS hQ (nar_b h_x8) (h_x8) dX0_holdAll_157
      · have q22 : x9.toInt < x19.toInt := ti_nle c20
        have h23 : iv 0 11 x9 := iv_ltL (y := x19) h_x9 h17 q22 (by decide)
        have h24 : iv 1 12 x19 := iv_gtL (y := x9) h17 h_x9 q22 (by decide)
        refine lv_iload_n hx hb dX0_holdAll_30 rfl (lv_at hl 0 rfl) ?_
        refine lv_if_eq (tgt := 156) hx hb dX0_holdAll_31 (by decide) (fun c25 => ?_) (fun c25 => ?_)
        · have q26 : x8.toInt = 0 := ti_eq c25
          have h27 : iv 0 0 x8 := ⟨by have := (h_x8).1; have := ((iv_c (c := 0) (n := 0) (by decide))).1; omega, by have := (h_x8).2; have := ((iv_c (c := 0) (n := 0) (by decide))).2; omega⟩
          refine lv_iload_n hx hb dX0_holdAll_156 rfl (lv_at hl 0 rfl) ?_
          exact tw_endz hx hb hr hlocks hK hT hS hQ (nar_b (iv_mono h27 (by decide) (by decide))) ((iv_mono h27 (by decide) (by decide))) dX0_holdAll_157
        · have q28 : ¬ x8.toInt = 0 := ti_ne c25
          have h29 : iv 1 1 x8 := ⟨by have := (h_x8).1; have := ((iv_c (c := 0) (n := 0) (by decide))).1; have := ((iv_c (c := 0) (n := 0) (by decide))).2; omega, by have := (h_x8).2; have := ((iv_c (c := 0) (n := 0) (by decide))).1; have := ((iv_c (c := 0) (n := 0) (by decide))).2; omega⟩
          refine lv_iload_n hx hb dX0_holdAll_34 rfl (lv_at hl 1 rfl) ?_
          refine lv_iconst (v := 4) hx hb dX0_holdAll_35 (by decide) ?_
          refine tw_imulc (k := 4) (lo := 0) (hi := 44) hx hb h23 (by decide) (by decide) ⟨by decide, by decide⟩ ⟨by decide, by decide⟩ dX0_holdAll_36 (fun x32 e31 h30 => ?_)
          refine lv_istore_n (lv' := [(3, .int x32), (1, .int x8), (2, .int x9), (0, .ref (base + a0))]) hx hb dX0_holdAll_37 rfl hl (by decide) rfl (fun ls hl => ?_)
          refine lv_aload_n hx hb dX0_holdAll_38 rfl (lv_at hl 3 rfl) ?_
          refine tw_getrk hx hb hW hown hK hS f_X0_33_0 hz_a0 hk_a0 (b := b15) k16 dX0_holdAll_39 ?_
          refine tw_getr hx hb hW hown hK hS f_X0_76_9 hz_b15 hk_b15 (t := 14) (n := 48) rfl dX0_holdAll_42 (fun b33 k34 hz_b33 hk_b33 hn_b33 => ?_)
          have hn_b33 := hn_b33 (by decide)
          refine lv_iload_n hx hb dX0_holdAll_45 rfl (lv_at hl 0 rfl) ?_
          refine tw_iald hx hb hK hS hz_b33 hk_b33 (Or.inl rfl) hn_b33 (lo := (-2147483648)) (hi := 2147483647) h30 ⟨by decide, by decide⟩ rg_u14 dX0_holdAll_46 (fun x37 k36 h35 => ?_)
          refine lv_istore (lv' := [(4, .int x37), (3, .int x32), (1, .int x8), (2, .int x9), (0, .ref (base + a0))]) hx hb dX0_holdAll_47 hl (by decide) rfl (fun ls hl => ?_)
          refine lv_aload_n hx hb dX0_holdAll_49 rfl (lv_at hl 4 rfl) ?_
          refine tw_getrk hx hb hW hown hK hS f_X0_33_0 hz_a0 hk_a0 (b := b15) k16 dX0_holdAll_50 ?_
          refine tw_getrk hx hb hW hown hK hS f_X0_76_9 hz_b15 hk_b15 (b := b33) k34 dX0_holdAll_53 ?_
          refine lv_iload_n hx hb dX0_holdAll_56 rfl (lv_at hl 1 rfl) ?_
          refine lv_iconst (v := 1) hx hb dX0_holdAll_57 (by decide) ?_
          refine tw_iadd (lo := 1) (hi := 45) hx hb h30 (iv_c (c := 1) (n := 1) (by decide)) ⟨by decide, by decide⟩ ⟨by decide, by decide⟩ dX0_holdAll_58 (fun x40 e39 h38 => ?_)
          have e39 : x40.toInt = x32.toInt + 1 := e39
          refine tw_iald hx hb hK hS hz_b33 hk_b33 (Or.inl rfl) hn_b33 (lo := (-2147483648)) (hi := 2147483647) h38 ⟨by decide, by decide⟩ rg_u14 dX0_holdAll_59 (fun x43 k42 h41 => ?_)
          refine lv_istore (lv' := [(5, .int x43), (4, .int x37), (3, .int x32), (1, .int x8), (2, .int x9), (0, .ref (base + a0))]) hx hb dX0_holdAll_60 hl (by decide) rfl (fun ls hl => ?_)
          refine lv_aload_n hx hb dX0_holdAll_62 rfl (lv_at hl 5 rfl) ?_
          refine tw_getrk hx hb hW hown hK hS f_X0_33_0 hz_a0 hk_a0 (b := b15) k16 dX0_holdAll_63 ?_
          refine tw_getrk hx hb hW hown hK hS f_X0_76_9 hz_b15 hk_b15 (b := b33) k34 dX0_holdAll_66 ?_
          refine lv_iload_n hx hb dX0_holdAll_69 rfl (lv_at hl 2 rfl) ?_
          refine lv_iconst (v := 2) hx hb dX0_holdAll_70 (by decide) ?_
          refine tw_iadd (lo := 2) (hi := 46) hx hb h30 (iv_c (c := 2) (n := 2) (by decide)) ⟨by decide, by decide⟩ ⟨by decide, by decide⟩ dX0_holdAll_71 (fun x46 e45 h44 => ?_)
          have e45 : x46.toInt = x32.toInt + 2 := e45
          refine tw_iald hx hb hK hS hz_b33 hk_b33 (Or.inl rfl) hn_b33 (lo := (-2147483648)) (hi := 2147483647) h44 ⟨by decide, by decide⟩ rg_u14 dX0_holdAll_72 (fun x49 k48 h47 => ?_)
          refine lv_istore (lv' := [(6, .int x49), (5, .int x43), (4, .int x37), (3, .int x32), (1, .int x8), (2, .int x9), (0, .ref (base + a0))]) hx hb dX0_holdAll_73 hl (by decide) rfl (fun ls hl => ?_)
          refine lv_aload_n hx hb dX0_holdAll_75 rfl (lv_at hl 6 rfl) ?_
          refine tw_getrk hx hb hW hown hK hS f_X0_33_0 hz_a0 hk_a0 (b := b15) k16 dX0_holdAll_76 ?_
          refine tw_getrk hx hb hW hown hK hS f_X0_76_9 hz_b15 hk_b15 (b := b33) k34 dX0_holdAll_79 ?_
          refine lv_iload_n hx hb dX0_holdAll_82 rfl (lv_at hl 3 rfl) ?_
          refine lv_iconst (v := 3) hx hb dX0_holdAll_83 (by decide) ?_
          refine tw_iadd (lo := 3) (hi := 47) hx hb h30 (iv_c (c := 3) (n := 3) (by decide)) ⟨by decide, by decide⟩ ⟨by decide, by decide⟩ dX0_holdAll_84 (fun x52 e51 h50 => ?_)
          have e51 : x52.toInt = x32.toInt + 3 := e51
          refine tw_iald hx hb hK hS hz_b33 hk_b33 (Or.inl rfl) hn_b33 (lo := (-2147483648)) (hi := 2147483647) h50 ⟨by decide, by decide⟩ rg_u14 dX0_holdAll_85 (fun x55 k54 h53 => ?_)
          refine lv_istore (lv' := [(7, .int x55), (6, .int x49), (5, .int x43), (4, .int x37), (3, .int x32), (1, .int x8), (2, .int x9), (0, .ref (base + a0))]) hx hb dX0_holdAll_86 hl (by decide) rfl (fun ls hl => ?_)
          refine lv_aload_n hx hb dX0_holdAll_88 rfl (lv_at hl 7 rfl) ?_
          refine tw_getrk hx hb hW hown hK hS f_X0_33_0 hz_a0 hk_a0 (b := b15) k16 dX0_holdAll_89 ?_
          refine lv_aload_n hx hb dX0_holdAll_92 rfl (lv_at hl 7 rfl) ?_
          have k56 : R11 a0 3 = some b3 := (Fr.kp (k := 3) g14 hk_a0 rfl).trans k4
          refine tw_getrk hx hb hW hown hK hS f_X0_15_0 hz_a0 hk_a0 (b := b3) k56 dX0_holdAll_93 ?_
          refine lv_iload hx hb dX0_holdAll_96 (lv_at hl 3 rfl) ?_
          refine tw_goi hS (md_runV (As := [.ref (base + b3), .int x37]) (rest := []) hx hb hml hown hW hK hT hS.1 (t_X9_sumOf_1 l D cy tx base Z K N M10 R11 J12 hS.2.1 b15 hz_b15 hk_b15 b3 hz_b3 hk_b3 hn_b3 x37 h35) s_X0_79 ⟨rfl, rfl, ⟨Nat.le_of_ble_eq_true rfl, Nat.le_of_ble_eq_true rfl⟩, ⟨Nat.le_of_ble_eq_true rfl, Nat.le_of_ble_eq_true rfl⟩⟩ hz_b15 hk_b15 (by decide) rfl rfl hl.1 rfl (Nat.le_of_ble_eq_true rfl) dX0_holdAll_98) rfl rfl (fun x63 H locs M60 R61 J59 hS f57 g58 E62 => ?_)
          have eM60 := Fr.nil f57 rfl
          subst eM60
          have eR61 := Fr.nil g58 rfl
          subst eR61
          have h_x63 := E62
          clear E62
          refine lv_iload hx hb dX0_holdAll_101 (lv_at hl 1 rfl) ?_
          have J128_64 : ∀  (M64 : MT) (R65 : RT) (J66 : JT) (H : Heap) (locs : List Loc) (ls : Array Slot) (hS : SB D cy base Z K N Lt_X0_holdAll LRt_X0_holdAll Ma Ra M64 R65 J66 s H locs) (hl : lv_has ls 8 [(7, .int x55), (6, .int x49), (5, .int x43), (4, .int x37), (3, .int x32), (1, .int x8), (2, .int x9), (0, .ref (base + a0))]), W p l e (md_rm 3 0 0) s m args below meth c H locs 0 0 Q (F0 m 128 ls []) := by
            intro  M64 R65 J66 H locs ls  hS hl
            have f67 := hS.2.2.1
            have g68 := hS.2.2.2
            refine lv_iconst (v := 0) hx hb dX0_holdAll_128 (by decide) ?_
            refine lv_istore_n (lv' := [(1, .int 0), (7, .int x55), (6, .int x49), (5, .int x43), (4, .int x37), (3, .int x32), (2, .int x9), (0, .ref (base + a0))]) hx hb dX0_holdAll_129 rfl hl (by decide) rfl (fun ls hl => ?_)
            refine lv_iload_n hx hb dX0_holdAll_130 rfl (lv_at hl 0 rfl) ?_
            refine lv_if_eq (tgt := 150) hx hb dX0_holdAll_131 (by decide) (fun _ => ?_) (fun h => absurd h (by decide))
            refine tw_iinc (lv' := fun x71 => [(2, .int x71), (1, .int 0), (7, .int x55), (6, .int x49), (5, .int x43), (4, .int x37), (3, .int x32), (0, .ref (base + a0))]) (lo := 1) (hi := 12) hx hb dX0_holdAll_150 hl (k := 6) rfl h23 (by decide) ⟨by decide, by decide⟩ ⟨by decide, by decide⟩ (by decide) (fun _ => rfl) (fun x71 ls e70 h69 hl => ?_)
            refine lv_goto (tgt := 19) hx hb dX0_holdAll_153 (by decide) ?_
            have hm72 : 12 - x71.toInt < (n_10 : Int) := by
              have := (h30).1; have := (h30).2; have := (h69).1; have := (h69).2; have := (h23).1; have := (h23).2; omega
            exact ih_10 0 x71 M64 R65 J66 H locs _ (iv_mono (iv_c (c := 0) (n := 0) (by decide)) (by decide) (by decide)) (iv_mono h69 (by decide) (by decide)) hm72 hS (lv_sub hl [1, 0, 7] rfl)
          refine lv_icmp_ne (tgt := 128) hx hb dX0_holdAll_103 (by decide) (fun c73 => ?_) (fun c73 => ?_)
          · have q74 : ¬ x63.toInt = x49.toInt := ti_ne c73
            exact J128_64  M10 R11 J59 H locs _  hS hl
          · have q75 : x63.toInt = x49.toInt := ti_eq c73
            refine lv_aload_n hx hb dX0_holdAll_106 rfl (lv_at hl 7 rfl) ?_
            refine tw_getrk hx hb hW hown hK hS f_X0_33_0 hz_a0 hk_a0 (b := b15) k16 dX0_holdAll_107 ?_
            refine lv_aload_n hx hb dX0_holdAll_110 rfl (lv_at hl 7 rfl) ?_
            have k76 : R11 a0 3 = some b3 := (Fr.kp (k := 3) g14 hk_a0 rfl).trans k4
            refine tw_getrk hx hb hW hown hK hS f_X0_15_0 hz_a0 hk_a0 (b := b3) k76 dX0_holdAll_111 ?_
            refine lv_iload hx hb dX0_holdAll_114 (lv_at hl 2 rfl) ?_
            refine tw_goi hS (md_runV (As := [.ref (base + b3), .int x43]) (rest := []) hx hb hml hown hW hK hT hS.1 (t_X9_sumOf_1 l D cy tx base Z K N M10 R11 J59 hS.2.1 b15 hz_b15 hk_b15 b3 hz_b3 hk_b3 hn_b3 x43 h41) s_X0_79 ⟨rfl, rfl, ⟨Nat.le_of_ble_eq_true rfl, Nat.le_of_ble_eq_true rfl⟩, ⟨Nat.le_of_ble_eq_true rfl, Nat.le_of_ble_eq_true rfl⟩⟩ hz_b15 hk_b15 (by decide) rfl rfl hl.1 rfl (Nat.le_of_ble_eq_true rfl) dX0_holdAll_116) rfl rfl (fun x83 H locs M80 R81 J79 hS f77 g78 E82 => ?_)
            have eM80 := Fr.nil f77 rfl
            subst eM80
            have eR81 := Fr.nil g78 rfl
            subst eR81
            have h_x83 := E82
            clear E82
            refine lv_iload hx hb dX0_holdAll_119 (lv_at hl 0 rfl) ?_
            refine lv_icmp_ne (tgt := 128) hx hb dX0_holdAll_121 (by decide) (fun c84 => ?_) (fun c84 => ?_)
            · have q85 : ¬ x83.toInt = x55.toInt := ti_ne c84
              exact J128_64  M10 R11 J79 H locs _  hS hl
            · have q86 : x83.toInt = x55.toInt := ti_eq c84
              refine lv_iconst (v := 1) hx hb dX0_holdAll_124 (by decide) ?_
              refine lv_goto (tgt := 129) hx hb dX0_holdAll_125 (by decide) ?_
              refine lv_istore_n (lv' := [(1, .int 1), (7, .int x55), (6, .int x49), (5, .int x43), (4, .int x37), (3, .int x32), (2, .int x9), (0, .ref (base + a0))]) hx hb dX0_holdAll_129 rfl hl (by decide) rfl (fun ls hl => ?_)
              refine lv_iload_n hx hb dX0_holdAll_130 rfl (lv_at hl 0 rfl) ?_
              refine lv_if_eq (tgt := 150) hx hb dX0_holdAll_131 (by decide) (fun h => absurd h (by decide)) (fun _ => ?_)
              refine lv_aload_n hx hb dX0_holdAll_134 rfl (lv_at hl 7 rfl) ?_
              refine tw_getr hx hb hW hown hK hS f_X0_37_0 hz_a0 hk_a0 (t := 6) (n := 0) rfl dX0_holdAll_135 (fun b87 k88 hz_b87 hk_b87 hn_b87 => ?_)
              refine lv_aload_n hx hb dX0_holdAll_138 rfl (lv_at hl 7 rfl) ?_
              have k89 : R11 a0 3 = some b3 := (Fr.kp (k := 3) g14 hk_a0 rfl).trans k4
              refine tw_getrk hx hb hW hown hK hS f_X0_15_0 hz_a0 hk_a0 (b := b3) k89 dX0_holdAll_139 ?_
              refine lv_iload hx hb dX0_holdAll_142 (lv_at hl 4 rfl) ?_
              refine lv_iload hx hb dX0_holdAll_144 (lv_at hl 3 rfl) ?_
              refine tw_goi hS (md_runV (As := [.ref (base + b3), .int x37, .int x43]) (rest := []) hx hb hml hown hW hK hT hS.1 (t_X5_hold_1 l D cy tx base Z K N M10 R11 J79 hS.2.1 b87 hz_b87 hk_b87 b3 hz_b3 hk_b3 hn_b3 x37 h35 x43 h41) s_X0_83 ⟨rfl, rfl, ⟨Nat.le_of_ble_eq_true rfl, Nat.le_of_ble_eq_true rfl⟩, ⟨Nat.le_of_ble_eq_true rfl, Nat.le_of_ble_eq_true rfl⟩⟩ hz_b87 hk_b87 (by decide) rfl rfl hl.1 rfl (Nat.le_of_ble_eq_true rfl) dX0_holdAll_146) rfl rfl (fun x96 H locs M93 R94 J92 hS f90 g91 E95 => ?_)
              have eR94 := Fr.nil g91 rfl
              subst eR94
              have h_x96 := E95
              clear E95
              refine lv_pop hx hb dX0_holdAll_149 rfl ?_
              refine tw_iinc (lv' := fun x99 => [(2, .int x99), (1, .int 1), (7, .int x55), (6, .int x49), (5, .int x43), (4, .int x37), (3, .int x32), (0, .ref (base + a0))]) (lo := 1) (hi := 12) hx hb dX0_holdAll_150 hl (k := 6) rfl h23 (by decide) ⟨by decide, by decide⟩ ⟨by decide, by decide⟩ (by decide) (fun _ => rfl) (fun x99 ls e98 h97 hl => ?_)
              refine lv_goto (tgt := 19) hx hb dX0_holdAll_153 (by decide) ?_
              have hm100 : 12 - x99.toInt < (n_10 : Int) := by
                have := (h30).1; have := (h30).2; have := (h23).1; have := (h23).2; have := (h97).1; have := (h97).2; omega
              exact ih_10 1 x99 M93 R11 J92 H locs _ (iv_mono (iv_c (c := 1) (n := 1) (by decide)) (by decide) (by decide)) (iv_mono h97 (by decide) (by decide)) hm100 hS (lv_sub hl [1, 0, 7] rfl)
  have hm101 : 12 - (0 : Int32).toInt < (((13 : Nat) : Int) : Int) := by
    have : (0 : Int32).toInt = 0 := (by decide); omega
  exact W19_10 13 1 0 M7 Ra Ja H locs _ (iv_mono (iv_c (c := 1) (n := 1) (by decide)) (by decide) (by decide)) (iv_mono (iv_c (c := 0) (n := 0) (by decide)) (by decide) (by decide)) hm101 hS (lv_sub hl [1, 0, 2] rfl)
def Lt_X0_mark : WL := [(14, 0, 2000000)]
def LRt_X0_mark : WL := []
set_option maxRecDepth 100000 in
set_option maxHeartbeats 4000000 in
theorem t_X0_mark (l : Launch) (D : va_G) (cy : Nat → ClassId) (tx : (Nat → Nat) × (Nat → Nat)) (base Z : Nat) (K N : Nat → Nat) (Ma : MT) (Ra : RT) (Ja : JT) (hTy : Ty Z K N Ma Ra) (a0 : Nat) (hz_a0 : a0 < Z) (hk_a0 : K a0 = 1) : Met l yX0_mark [Cond.code yX0_mark cX0_mark 2 none] (md_rm 1 0 0) (va_Pc [.ref (base + a0)] (md_U D cy tx base Z K N Ma Ra Ja)) (mQv D cy tx base (fun u => TP Z K N Lt_X0_mark LRt_X0_mark Ma Ra u ∧ (True))) 0 0 (fun q => base ≤ q) := by
  refine tw_ofW (L := Lt_X0_mark) (LR := LRt_X0_mark) (by decide) (Nat.le_of_ble_eq_true rfl) hTy ?_
  intro p e s m args below meth c Q ls hx hb hr hlocks hown hml hW hK hT hS hQ hl
  have hl : lv_has ls 2 [(0, .ref (base + a0))] := hl
  refine lv_iconst (v := 0) hx hb dX0_mark_0 (by decide) ?_
  refine lv_istore_n (lv' := [(1, .int 0), (0, .ref (base + a0))]) hx hb dX0_mark_1 rfl hl (by decide) rfl (fun ls hl => ?_)
  have W2_2 : ∀ (n_2 : Nat) (x1 : Int32) (M2 : MT) (R3 : RT) (J4 : JT) (H : Heap) (locs : List Loc) (ls : Array Slot) (h_x1 : iv 0 10 x1) (hm_2 : 10 - x1.toInt < (n_2 : Int)) (hS : SB D cy base Z K N Lt_X0_mark LRt_X0_mark Ma Ra M2 R3 J4 s H locs) (hl : lv_has ls 2 [(1, .int x1), (0, .ref (base + a0))]), W p l e (md_rm 1 0 0) s m args below meth c H locs 0 0 Q (F0 m 2 ls []) := by
    intro n_2
    induction n_2 with
    | zero =>
      intro x1 M2 R3 J4 H locs ls h_x1 hm_2 hS hl
      exfalso
      have := (h_x1).1; have := (h_x1).2; omega
    | succ n_2 ih_2 =>
      intro x1 M2 R3 J4 H locs ls h_x1 hm_2 hS hl
      have f5 := hS.2.2.1
      have g6 := hS.2.2.2
      refine lv_iload_n hx hb dX0_mark_2 rfl (lv_at hl 0 rfl) ?_
      refine lv_aload_n hx hb dX0_mark_3 rfl (lv_at hl 1 rfl) ?_
      refine tw_getr hx hb hW hown hK hS f_X0_33_0 hz_a0 hk_a0 (t := 10) (n := 0) rfl dX0_mark_4 (fun b7 k8 hz_b7 hk_b7 hn_b7 => ?_)
      refine tw_geti hx hb hW hown hK hS f_X0_48_9 hz_b7 hk_b7 (lo := (-2147483648)) (hi := 10) rfl dX0_mark_7 (fun x11 k10 h9 => ?_)
      refine lv_icmp_ge (tgt := 61) hx hb dX0_mark_10 (by decide) (fun c12 => ?_) (fun c12 => ?_)
      · have q13 : x11.toInt ≤ x1.toInt := ti_le c12
        exact tw_endv hx hb hr hlocks hK hT hS hQ (trivial) dX0_mark_61
      · have q14 : x1.toInt < x11.toInt := ti_nle c12
        have h15 : iv 0 9 x1 := iv_ltL (y := x11) h_x1 h9 q14 (by decide)
        have h16 : iv 1 10 x11 := iv_gtL (y := x1) h9 h_x1 q14 (by decide)
        refine lv_aload_n hx hb dX0_mark_13 rfl (lv_at hl 1 rfl) ?_
        refine tw_getr hx hb hW hown hK hS f_X0_18_0 hz_a0 hk_a0 (t := 14) (n := 10) rfl dX0_mark_14 (fun b17 k18 hz_b17 hk_b17 hn_b17 => ?_)
        have hn_b17 := hn_b17 (by decide)
        refine lv_iload_n hx hb dX0_mark_17 rfl (lv_at hl 0 rfl) ?_
        refine lv_aload_n hx hb dX0_mark_18 rfl (lv_at hl 1 rfl) ?_
        refine tw_getrk hx hb hW hown hK hS f_X0_18_0 hz_a0 hk_a0 (b := b17) k18 dX0_mark_19 ?_
        refine lv_iload_n hx hb dX0_mark_22 rfl (lv_at hl 0 rfl) ?_
        refine tw_iald hx hb hK hS hz_b17 hk_b17 (Or.inl rfl) hn_b17 (lo := (-2147483648)) (hi := 2147483647) h15 ⟨by decide, by decide⟩ rg_u14 dX0_mark_23 (fun x21 k20 h19 => ?_)
        refine lv_aload_n hx hb dX0_mark_24 rfl (lv_at hl 1 rfl) ?_
        refine tw_getr hx hb hW hown hK hS f_X0_9_0 hz_a0 hk_a0 (t := 37) (n := 10) rfl dX0_mark_25 (fun b22 k23 hz_b22 hk_b22 hn_b22 => ?_)
        have hn_b22 := hn_b22 (by decide)
        refine lv_iload_n hx hb dX0_mark_28 rfl (lv_at hl 0 rfl) ?_
        refine tw_iald hx hb hK hS hz_b22 hk_b22 (Or.inr (by decide)) hn_b22 (lo := 0) (hi := 9999) h15 ⟨by decide, by decide⟩ rg_u37 dX0_mark_29 (fun x26 k25 h24 => ?_)
        refine va_mmin hx hb (hml.trans hl.1.symm) hown (hW _ w_5_209 rfl) (hW _ w_3_86 rfl) (hW _ w_1_13 rfl) (hW _ w_3_87 rfl) (Nat.le_of_ble_eq_true rfl) (Nat.le_of_ble_eq_true rfl) (Nat.le_of_ble_eq_true rfl) (Nat.le_of_ble_eq_true rfl) dX0_mark_30 ?_
        refine tw_mmin (lo := (-2147483648)) (hi := 9999) h19 h24 (by decide) (fun x29 e28 h27 => ?_)
        refine tw_iast hx hb hK hS hz_b17 hk_b17 (Or.inl rfl) hn_b17 h15 ⟨by decide, by decide⟩ h27 (rg_s14 ⟨by decide, by decide⟩) (jl := 0) (jh := 1999999) ⟨by decide, by decide⟩ rfl dX0_mark_33 (fun H locs M32 hS k30 f31 => ?_)
        refine lv_aload_n hx hb dX0_mark_34 rfl (lv_at hl 1 rfl) ?_
        refine tw_getr hx hb hW hown hK hS f_X0_21_0 hz_a0 hk_a0 (t := 14) (n := 10) rfl dX0_mark_35 (fun b33 k34 hz_b33 hk_b33 hn_b33 => ?_)
        have hn_b33 := hn_b33 (by decide)
        refine lv_iload_n hx hb dX0_mark_38 rfl (lv_at hl 0 rfl) ?_
        refine lv_aload_n hx hb dX0_mark_39 rfl (lv_at hl 1 rfl) ?_
        refine tw_getrk hx hb hW hown hK hS f_X0_21_0 hz_a0 hk_a0 (b := b33) k34 dX0_mark_40 ?_
        refine lv_iload_n hx hb dX0_mark_43 rfl (lv_at hl 0 rfl) ?_
        refine tw_iald hx hb hK hS hz_b33 hk_b33 (Or.inl rfl) hn_b33 (lo := (-2147483648)) (hi := 2147483647) h15 ⟨by decide, by decide⟩ rg_u14 dX0_mark_44 (fun x37 k36 h35 => ?_)
        refine lv_aload_n hx hb dX0_mark_45 rfl (lv_at hl 1 rfl) ?_
        refine tw_getrk hx hb hW hown hK hS f_X0_9_0 hz_a0 hk_a0 (b := b22) k23 dX0_mark_46 ?_
        refine lv_iload_n hx hb dX0_mark_49 rfl (lv_at hl 0 rfl) ?_
        have k38 : M32 b22 x1.toNatClampNeg = x26 := (Fr.kpa f31 hk_b22 rfl x1.toNatClampNeg).trans k25
        refine tw_ialk hx hb hK hS hz_b22 hk_b22 (Or.inr (by decide)) hn_b22 h15 ⟨by decide, by decide⟩ (v := x26) k38 dX0_mark_50 ?_
        refine va_mmax hx hb (hml.trans hl.1.symm) hown (hW _ w_5_210 rfl) (hW _ w_4_75 rfl) (hW _ w_1_13 rfl) (hW _ w_4_76 rfl) (Nat.le_of_ble_eq_true rfl) (Nat.le_of_ble_eq_true rfl) (Nat.le_of_ble_eq_true rfl) (Nat.le_of_ble_eq_true rfl) dX0_mark_51 ?_
        refine tw_mmax (lo := 0) (hi := 2147483647) h35 h24 (by decide) (fun x41 e40 h39 => ?_)
        refine tw_iast hx hb hK hS hz_b33 hk_b33 (Or.inl rfl) hn_b33 h15 ⟨by decide, by decide⟩ h39 (rg_s14 ⟨by decide, by decide⟩) (jl := 0) (jh := 1999999) ⟨by decide, by decide⟩ rfl dX0_mark_54 (fun H locs M44 hS k42 f43 => ?_)
        refine tw_iinc (lv' := fun x47 => [(1, .int x47), (0, .ref (base + a0))]) (lo := 1) (hi := 10) hx hb dX0_mark_55 hl (k := 0) rfl h15 (by decide) ⟨by decide, by decide⟩ ⟨by decide, by decide⟩ (by decide) (fun _ => rfl) (fun x47 ls e46 h45 hl => ?_)
        refine lv_goto (tgt := 2) hx hb dX0_mark_58 (by decide) ?_
        have hm48 : 10 - x47.toInt < (n_2 : Int) := by
          have := (h15).1; have := (h15).2; have := (h45).1; have := (h45).2; omega
        exact ih_2 x47 M44 R3 J4 H locs _ (iv_mono h45 (by decide) (by decide)) hm48 hS hl
  have hm49 : 10 - (0 : Int32).toInt < (((11 : Nat) : Int) : Int) := by
    have : (0 : Int32).toInt = 0 := (by decide); omega
  exact W2_2 11 0 Ma Ra Ja s.heap [] _ (iv_mono (iv_c (c := 0) (n := 0) (by decide)) (by decide) (by decide)) hm49 hS hl
def Lt_X0_roomFor : WL := [(40, 0, 2000000)]
def LRt_X0_roomFor : WL := []
set_option maxRecDepth 100000 in
set_option maxHeartbeats 4000000 in
theorem t_X0_roomFor (l : Launch) (D : va_G) (cy : Nat → ClassId) (tx : (Nat → Nat) × (Nat → Nat)) (base Z0 : Nat) (K0 N0 : Nat → Nat) (Ma0 : MT) (Ra0 : RT) (Ja : JT) (hTy : Ty Z0 K0 N0 Ma0 Ra0) (a0 : Nat) (hz_a0 : a0 < Z0) (hk_a0 : K0 a0 = 40) (a1 : Int32) (h_a1 : iv 0 7776 a1) (hB_a0 : 64 ≤ N0 a0 ∧ N0 a0 ≤ 100000) : Met l yX0_roomFor [Cond.code yX0_roomFor cX0_roomFor 4 (some (.array .int))] (md_rm 1 1 100000) (va_Pc [.ref (base + a0), .int a1] (md_U D cy tx base Z0 K0 N0 Ma0 Ra0 Ja)) (mQr D cy tx base (fun r u => TM Z0 K0 N0 Lt_X0_roomFor LRt_X0_roomFor Ma0 Ra0 u ∧ (RF Z0 K0 N0 Ma0 a0 a1.toInt r u))) 1 100000 (fun q => base ≤ q) := by
  refine tw_ofW (L := Lt_X0_roomFor) (LR := LRt_X0_roomFor) (by decide) (Nat.le_of_ble_eq_true rfl) hTy ?_
  intro p e s m args below meth c Q ls hx hb hr hlocks hown hml hW hK hT hS hQ hl
  have hl : lv_has ls 4 [(0, .ref (base + a0)), (1, .int a1)] := hl
  have hs0 : s.heap.size = base + Z0 := hS.1.2.1
  obtain ⟨Z, K, N, Ma, Ra, hE0, hGR, hTy, hS, hz_a0, hk_a0, hB_a0⟩ : ∃ (Z : Nat) (K N : Nat → Nat) (Ma : MT) (Ra : RT), (Z = Z0 ∧ K = K0 ∧ N = N0 ∧ Ma = Ma0 ∧ Ra = Ra0) ∧ GR Z0 K0 N0 Ma0 Ra0 Z K N Ma Ra ∧ Ty Z K N Ma Ra ∧ SB D cy base Z K N Lt_X0_roomFor LRt_X0_roomFor Ma Ra Ma Ra Ja s s.heap [] ∧ (a0 < Z) ∧ (K a0 = 40) ∧ (64 ≤ N a0 ∧ N a0 ≤ 100000) := ⟨Z0, K0, N0, Ma0, Ra0, ⟨rfl, rfl, rfl, rfl, rfl⟩, GR.rf, hTy, hS, hz_a0, hk_a0, hB_a0⟩
  refine lv_aload_n hx hb dX0_roomFor_0 rfl (lv_at hl 0 rfl) ?_
  refine tw_alen hx hb hK hS hz_a0 hk_a0 (by decide) dX0_roomFor_1 (fun x3 e2 h1 => ?_)
  refine lv_istore_n (lv' := [(2, .int x3), (0, .ref (base + a0)), (1, .int a1)]) hx hb dX0_roomFor_2 rfl hl (by decide) rfl (fun ls hl => ?_)
  refine lv_iconst (v := 0) hx hb dX0_roomFor_3 (by decide) ?_
  refine lv_istore_n (lv' := [(3, .int 0), (2, .int x3), (0, .ref (base + a0)), (1, .int a1)]) hx hb dX0_roomFor_4 rfl hl (by decide) rfl (fun ls hl => ?_)
  have W5_6 : ∀ (n_6 : Nat) (x4 : Int32) (x5 : Int32) (M6 : MT) (R7 : RT) (J8 : JT) (H : Heap) (locs : List Loc) (ls : Array Slot) (h_x4 : iv 64 100000 x4) (h_x5 : iv 0 30 x5) (w0_6 : ((N a0 : Nat) : Int) ≤ x4.toInt) (w1_6 : (2 : Int) ^ x5.toInt.toNat ≤ x4.toInt) (w2_6 : (x4.toInt = ((N a0 : Nat) : Int) ∨ (2 * ((N a0 : Nat) : Int) ≤ x4.toInt ∧ x4.toInt ≤ 2 * a1.toInt))) (w3_6 : M6 = Ma) (hm_6 : 30 - x5.toInt < (n_6 : Int)) (hS : SB D cy base Z K N Lt_X0_roomFor LRt_X0_roomFor Ma Ra M6 R7 J8 s H locs) (hl : lv_has ls 4 [(2, .int x4), (3, .int x5), (0, .ref (base + a0)), (1, .int a1)]), W p l e (md_rm 1 1 100000) s m args below meth c H locs 0 0 Q (F0 m 5 ls []) := by
    intro n_6
    induction n_6 with
    | zero =>
      intro x4 x5 M6 R7 J8 H locs ls h_x4 h_x5 w0_6 w1_6 w2_6 w3_6 hm_6 hS hl
      exfalso
      have := (h_a1).1; have := (h_a1).2; have := (h_x4).1; have := (h_x4).2; have := (h_x5).1; have := (h_x5).2; omega
    | succ n_6 ih_6 =>
      intro x4 x5 M6 R7 J8 H locs ls h_x4 h_x5 w0_6 w1_6 w2_6 w3_6 hm_6 hS hl
      have f9 := hS.2.2.1
      have g10 := hS.2.2.2
      refine lv_iload_n hx hb dX0_roomFor_5 rfl (lv_at hl 1 rfl) ?_
      refine lv_bipush (v := 30) hx hb dX0_roomFor_6 (by decide) ?_
      refine lv_icmp_ge (tgt := 26) hx hb dX0_roomFor_8 (by decide) (fun c11 => ?_) (fun c11 => ?_)
      · have q12 : 30 ≤ x5.toInt := ti_le c11
        have h13 : iv 30 30 x5 := iv_geL (y := 30) h_x5 (iv_c (c := 30) (n := 30) (by decide)) q12 (by decide)
        have hsz : a1.toInt ≤ x4.toInt := by
          have := pw30 w1_6 (by have := (h13).1; have := (h13).2; omega); have := (h_x4).2; omega
        refine lv_iload_n hx hb dX0_roomFor_26 rfl (lv_at hl 0 rfl) ?_
        refine lv_aload_n hx hb dX0_roomFor_27 rfl (lv_at hl 2 rfl) ?_
        refine tw_alen hx hb hK hS hz_a0 hk_a0 (by decide) dX0_roomFor_28 (fun x16 e15 h14 => ?_)
        refine lv_icmp_ne (tgt := 34) hx hb dX0_roomFor_29 (by decide) (fun c17 => ?_) (fun c17 => ?_)
        · have q18 : ¬ x4.toInt = x16.toInt := ti_ne c17
          refine lv_iload_n hx hb dX0_roomFor_34 rfl (lv_at hl 0 rfl) ?_
          obtain ⟨b19, eb19⟩ : ∃ q, q = Z := ⟨_, rfl⟩
          refine tw_newz (zq := b19) eb19 hx hb hW hK hS (t := 40) (Or.inr (by decide)) (fun _ => rfl) w_1_144 (na := 100000) h_x4 ⟨by decide, by decide, by decide⟩ (Nat.le_of_ble_eq_true rfl) (Nat.le_of_ble_eq_true rfl) dX0_roomFor_35 (fun H Z K N Ma Ra M20 R21 J22 eZ_b19 hz_b19 hk_b19 e25 o24 hS g23 => ?_)
          have hzo_a0 := hz_a0
          have eN_a0 := GR.n g23 hz_a0 rfl
          have hk_a0 : K a0 = 40 := GR.k g23 hz_a0 hk_a0
          have hB_a0 : 64 ≤ N a0 ∧ N a0 ≤ 100000 := by rw [eN_a0]; exact hB_a0
          have hz_a0 : a0 < Z := GR.z g23 hz_a0
          have hGR := GR.tr hGR g23
          have f26 := hS.2.2.1
          have g27 := hS.2.2.2
          refine lv_astore_n (lv' := [(3, .ref (base + b19)), (2, .int x4), (0, .ref (base + a0)), (1, .int a1)]) hx hb dX0_roomFor_37 rfl hl (by decide) rfl (fun ls hl => ?_)
          refine lv_aload_n hx hb dX0_roomFor_38 rfl (lv_at hl 2 rfl) ?_
          refine lv_iconst (v := 0) hx hb dX0_roomFor_39 (by decide) ?_
          refine lv_aload_n hx hb dX0_roomFor_40 rfl (lv_at hl 0 rfl) ?_
          refine lv_iconst (v := 0) hx hb dX0_roomFor_41 (by decide) ?_
          refine lv_aload_n hx hb dX0_roomFor_42 rfl (lv_at hl 2 rfl) ?_
          refine tw_alen hx hb hK hS hz_a0 hk_a0 (by decide) dX0_roomFor_43 (fun x30 e29 h28 => ?_)
          refine tw_copy hx hb (hml.trans hl.1.symm) hW hown hK hS (md_okc w_5_202 rfl (md_okc w_3_226 rfl (md_okc w_3_225 rfl (md_okc w_1_18 rfl (md_ok0))))) hz_b19 hk_b19 (Or.inr (by decide)) hz_a0 hk_a0 (Or.inr (by decide)) rfl rfl (by have := (h28).1; have := (h28).2; have := ((iv_c (c := 0) (n := 0) (by decide))).1; have := ((iv_c (c := 0) (n := 0) (by decide))).2; have := ((iv_c (c := 0) (n := 0) (by decide))).1; have := ((iv_c (c := 0) (n := 0) (by decide))).2; omega) (by have := (h28).1; have := (h28).2; have := ((iv_c (c := 0) (n := 0) (by decide))).1; have := ((iv_c (c := 0) (n := 0) (by decide))).2; have := ((iv_c (c := 0) (n := 0) (by decide))).1; have := ((iv_c (c := 0) (n := 0) (by decide))).2; omega) (by have := (h28).1; have := (h28).2; have := ((iv_c (c := 0) (n := 0) (by decide))).1; have := ((iv_c (c := 0) (n := 0) (by decide))).2; have := ((iv_c (c := 0) (n := 0) (by decide))).1; have := ((iv_c (c := 0) (n := 0) (by decide))).2; omega) (by have := (h28).1; have := (h28).2; have := ((iv_c (c := 0) (n := 0) (by decide))).1; have := ((iv_c (c := 0) (n := 0) (by decide))).2; have := ((iv_c (c := 0) (n := 0) (by decide))).1; have := ((iv_c (c := 0) (n := 0) (by decide))).2; omega) (by have := (h28).1; have := (h28).2; have := ((iv_c (c := 0) (n := 0) (by decide))).1; have := ((iv_c (c := 0) (n := 0) (by decide))).2; have := ((iv_c (c := 0) (n := 0) (by decide))).1; have := ((iv_c (c := 0) (n := 0) (by decide))).2; omega) (fun _ _ => ⟨by show (-2147483648 : Int) ≤ -2147483648; decide, by show (2147483647 : Int) ≤ 2147483647; decide⟩) (Nat.le_of_ble_eq_true rfl) (Nat.le_of_ble_eq_true rfl) rfl dX0_roomFor_44 (fun H locs M33 hS f31 k32 => ?_)
          refine lv_aload_n hx hb dX0_roomFor_47 rfl (lv_at hl 0 rfl) ?_
          have q34 : 2 * ((N a0 : Nat) : Int) ≤ x4.toInt := by
            have := (h_a1).1; have := (h_a1).2; have := (h_x4).1; have := (h_x4).2; have := (h13).1; have := (h13).2; omega
          have q35 : x4.toInt ≤ 2 * a1.toInt := by
            have := (h_a1).1; have := (h_a1).2; have := (h_x4).1; have := (h_x4).2; have := (h13).1; have := (h13).2; omega
          exact tw_emr hx hb hr hlocks hK hT hS hGR hQ ⟨Nat.le_of_ble_eq_true rfl, Nat.le_of_ble_eq_true rfl⟩ ((RF.new hE0 w3_6 g23 o24 hzo_a0 eb19 eZ_b19 hk_b19 hk_a0 e25 hsz ⟨q34, q35⟩ e29 k32)) dX0_roomFor_48
        · have q36 : x4.toInt = x16.toInt := ti_eq c17
          have h37 : iv 64 100000 x16 := ⟨by have := (h_x4).1; have := (h14).1; omega, by have := (h_x4).2; have := (h14).2; omega⟩
          refine lv_aload_n hx hb dX0_roomFor_32 rfl (lv_at hl 2 rfl) ?_
          have q38 : a1.toInt ≤ ((N a0 : Nat) : Int) := by
            have := (h_a1).1; have := (h_a1).2; have := (h_x4).1; have := (h_x4).2; have := (h13).1; have := (h13).2; omega
          exact tw_emr hx hb hr hlocks hK hT hS hGR hQ ⟨Nat.le_of_ble_eq_true rfl, Nat.le_of_ble_eq_true rfl⟩ ((RF.same hE0 w3_6 hz_a0 q38)) dX0_roomFor_33
      · have q39 : x5.toInt < 30 := ti_nle c11
        have h40 : iv 0 29 x5 := iv_ltL (y := 30) h_x5 (iv_c (c := 30) (n := 30) (by decide)) q39 (by decide)
        refine lv_iload_n hx hb dX0_roomFor_11 rfl (lv_at hl 0 rfl) ?_
        refine lv_iload_n hx hb dX0_roomFor_12 rfl (lv_at hl 3 rfl) ?_
        refine lv_icmp_ge (tgt := 26) hx hb dX0_roomFor_13 (by decide) (fun c41 => ?_) (fun c41 => ?_)
        · have q42 : a1.toInt ≤ x4.toInt := ti_le c41
          have hsz : a1.toInt ≤ x4.toInt := by
            have := (h_a1).1; have := (h_a1).2; have := (h_x4).1; have := (h_x4).2; have := (h40).1; have := (h40).2; omega
          refine lv_iload_n hx hb dX0_roomFor_26 rfl (lv_at hl 0 rfl) ?_
          refine lv_aload_n hx hb dX0_roomFor_27 rfl (lv_at hl 2 rfl) ?_
          refine tw_alen hx hb hK hS hz_a0 hk_a0 (by decide) dX0_roomFor_28 (fun x45 e44 h43 => ?_)
          refine lv_icmp_ne (tgt := 34) hx hb dX0_roomFor_29 (by decide) (fun c46 => ?_) (fun c46 => ?_)
          · have q47 : ¬ x4.toInt = x45.toInt := ti_ne c46
            refine lv_iload_n hx hb dX0_roomFor_34 rfl (lv_at hl 0 rfl) ?_
            obtain ⟨b48, eb48⟩ : ∃ q, q = Z := ⟨_, rfl⟩
            refine tw_newz (zq := b48) eb48 hx hb hW hK hS (t := 40) (Or.inr (by decide)) (fun _ => rfl) w_1_144 (na := 100000) h_x4 ⟨by decide, by decide, by decide⟩ (Nat.le_of_ble_eq_true rfl) (Nat.le_of_ble_eq_true rfl) dX0_roomFor_35 (fun H Z K N Ma Ra M49 R50 J51 eZ_b48 hz_b48 hk_b48 e54 o53 hS g52 => ?_)
            have hzo_a0 := hz_a0
            have eN_a0 := GR.n g52 hz_a0 rfl
            have hk_a0 : K a0 = 40 := GR.k g52 hz_a0 hk_a0
            have hB_a0 : 64 ≤ N a0 ∧ N a0 ≤ 100000 := by rw [eN_a0]; exact hB_a0
            have hz_a0 : a0 < Z := GR.z g52 hz_a0
            have hGR := GR.tr hGR g52
            have f55 := hS.2.2.1
            have g56 := hS.2.2.2
            refine lv_astore_n (lv' := [(3, .ref (base + b48)), (2, .int x4), (0, .ref (base + a0)), (1, .int a1)]) hx hb dX0_roomFor_37 rfl hl (by decide) rfl (fun ls hl => ?_)
            refine lv_aload_n hx hb dX0_roomFor_38 rfl (lv_at hl 2 rfl) ?_
            refine lv_iconst (v := 0) hx hb dX0_roomFor_39 (by decide) ?_
            refine lv_aload_n hx hb dX0_roomFor_40 rfl (lv_at hl 0 rfl) ?_
            refine lv_iconst (v := 0) hx hb dX0_roomFor_41 (by decide) ?_
            refine lv_aload_n hx hb dX0_roomFor_42 rfl (lv_at hl 2 rfl) ?_
            refine tw_alen hx hb hK hS hz_a0 hk_a0 (by decide) dX0_roomFor_43 (fun x59 e58 h57 => ?_)
            refine tw_copy hx hb (hml.trans hl.1.symm) hW hown hK hS (md_okc w_5_202 rfl (md_okc w_3_226 rfl (md_okc w_3_225 rfl (md_okc w_1_18 rfl (md_ok0))))) hz_b48 hk_b48 (Or.inr (by decide)) hz_a0 hk_a0 (Or.inr (by decide)) rfl rfl (by have := (h57).1; have := (h57).2; have := ((iv_c (c := 0) (n := 0) (by decide))).1; have := ((iv_c (c := 0) (n := 0) (by decide))).2; have := ((iv_c (c := 0) (n := 0) (by decide))).1; have := ((iv_c (c := 0) (n := 0) (by decide))).2; omega) (by have := (h57).1; have := (h57).2; have := ((iv_c (c := 0) (n := 0) (by decide))).1; have := ((iv_c (c := 0) (n := 0) (by decide))).2; have := ((iv_c (c := 0) (n := 0) (by decide))).1; have := ((iv_c (c := 0) (n := 0) (by decide))).2; omega) (by have := (h57).1; have := (h57).2; have := ((iv_c (c := 0) (n := 0) (by decide))).1; have := ((iv_c (c := 0) (n := 0) (by decide))).2; have := ((iv_c (c := 0) (n := 0) (by decide))).1; have := ((iv_c (c := 0) (n := 0) (by decide))).2; omega) (by have := (h57).1; have := (h57).2; have := ((iv_c (c := 0) (n := 0) (by decide))).1; have := ((iv_c (c := 0) (n := 0) (by decide))).2; have := ((iv_c (c := 0) (n := 0) (by decide))).1; have := ((iv_c (c := 0) (n := 0) (by decide))).2; omega) (by have := (h57).1; have := (h57).2; have := ((iv_c (c := 0) (n := 0) (by decide))).1; have := ((iv_c (c := 0) (n := 0) (by decide))).2; have := ((iv_c (c := 0) (n := 0) (by decide))).1; have := ((iv_c (c := 0) (n := 0) (by decide))).2; omega) (fun _ _ => ⟨by show (-2147483648 : Int) ≤ -2147483648; decide, by show (2147483647 : Int) ≤ 2147483647; decide⟩) (Nat.le_of_ble_eq_true rfl) (Nat.le_of_ble_eq_true rfl) rfl dX0_roomFor_44 (fun H locs M62 hS f60 k61 => ?_)
            refine lv_aload_n hx hb dX0_roomFor_47 rfl (lv_at hl 0 rfl) ?_
            have q63 : 2 * ((N a0 : Nat) : Int) ≤ x4.toInt := by
              have := (h_a1).1; have := (h_a1).2; have := (h_x4).1; have := (h_x4).2; have := (h40).1; have := (h40).2; omega
            have q64 : x4.toInt ≤ 2 * a1.toInt := by
              have := (h_a1).1; have := (h_a1).2; have := (h_x4).1; have := (h_x4).2; have := (h40).1; have := (h40).2; omega
            exact tw_emr hx hb hr hlocks hK hT hS hGR hQ ⟨Nat.le_of_ble_eq_true rfl, Nat.le_of_ble_eq_true rfl⟩ ((RF.new hE0 w3_6 g52 o53 hzo_a0 eb48 eZ_b48 hk_b48 hk_a0 e54 hsz ⟨q63, q64⟩ e58 k61)) dX0_roomFor_48
          · have q65 : x4.toInt = x45.toInt := ti_eq c46
            have h66 : iv 64 100000 x45 := ⟨by have := (h_x4).1; have := (h43).1; omega, by have := (h_x4).2; have := (h43).2; omega⟩
            refine lv_aload_n hx hb dX0_roomFor_32 rfl (lv_at hl 2 rfl) ?_
            have q67 : a1.toInt ≤ ((N a0 : Nat) : Int) := by
              have := (h_a1).1; have := (h_a1).2; have := (h_x4).1; have := (h_x4).2; have := (h40).1; have := (h40).2; omega
            exact tw_emr hx hb hr hlocks hK hT hS hGR hQ ⟨Nat.le_of_ble_eq_true rfl, Nat.le_of_ble_eq_true rfl⟩ ((RF.same hE0 w3_6 hz_a0 q67)) dX0_roomFor_33
        · have q68 : x4.toInt < a1.toInt := ti_nle c41
          have h69 : iv 64 7775 x4 := iv_ltL (y := a1) h_x4 h_a1 q68 (by decide)
          have h70 : iv 65 7776 a1 := iv_gtL (y := x4) h_a1 h_x4 q68 (by decide)
          refine lv_iload_n hx hb dX0_roomFor_16 rfl (lv_at hl 0 rfl) ?_
          refine lv_iconst (v := 2) hx hb dX0_roomFor_17 (by decide) ?_
          refine tw_imulc (k := 2) (lo := 128) (hi := 15550) hx hb h69 (by decide) (by decide) ⟨by decide, by decide⟩ ⟨by decide, by decide⟩ dX0_roomFor_18 (fun x73 e72 h71 => ?_)
          refine lv_istore_n (lv' := [(2, .int x73), (3, .int x5), (0, .ref (base + a0)), (1, .int a1)]) hx hb dX0_roomFor_19 rfl hl (by decide) rfl (fun ls hl => ?_)
          refine tw_iinc (lv' := fun x76 => [(3, .int x76), (2, .int x73), (0, .ref (base + a0)), (1, .int a1)]) (lo := 1) (hi := 30) hx hb dX0_roomFor_20 hl (k := 1) rfl h40 (by decide) ⟨by decide, by decide⟩ ⟨by decide, by decide⟩ (by decide) (fun _ => rfl) (fun x76 ls e75 h74 hl => ?_)
          refine lv_goto (tgt := 5) hx hb dX0_roomFor_23 (by decide) ?_
          have w77 : ((N a0 : Nat) : Int) ≤ x73.toInt := by
            have := (h70).1; have := (h70).2; have := (h69).1; have := (h69).2; have := (h40).1; have := (h40).2; have := (h71).1; have := (h71).2; have := (h74).1; have := (h74).2; omega
          have q79 : 0 ≤ x5.toInt := by
            have := (h70).1; have := (h70).2; have := (h69).1; have := (h69).2; have := (h40).1; have := (h40).2; have := (h71).1; have := (h71).2; have := (h74).1; have := (h74).2; omega
          have q80 : x76.toInt = x5.toInt + 1 := by
            have := (h70).1; have := (h70).2; have := (h69).1; have := (h69).2; have := (h40).1; have := (h40).2; have := (h71).1; have := (h71).2; have := (h74).1; have := (h74).2; omega
          have q81 : x73.toInt = x4.toInt * 2 := by
            have := (h70).1; have := (h70).2; have := (h69).1; have := (h69).2; have := (h40).1; have := (h40).2; have := (h71).1; have := (h71).2; have := (h74).1; have := (h74).2; omega
          have w78 : (2 : Int) ^ x76.toInt.toNat ≤ x73.toInt := pw1 w1_6 q79 q80 q81
          have w82 : (x73.toInt = ((N a0 : Nat) : Int) ∨ (2 * ((N a0 : Nat) : Int) ≤ x73.toInt ∧ x73.toInt ≤ 2 * a1.toInt)) := by
            have := (h70).1; have := (h70).2; have := (h69).1; have := (h69).2; have := (h40).1; have := (h40).2; have := (h71).1; have := (h71).2; have := (h74).1; have := (h74).2; omega
          have w83 : M6 = Ma := w3_6
          have hm84 : 30 - x76.toInt < (n_6 : Int) := by
            have := (h70).1; have := (h70).2; have := (h69).1; have := (h69).2; have := (h40).1; have := (h40).2; have := (h71).1; have := (h71).2; have := (h74).1; have := (h74).2; omega
          exact ih_6 x73 x76 M6 R7 J8 H locs _ (iv_mono h71 (by decide) (by decide)) (iv_mono h74 (by decide) (by decide)) w77 w78 w82 w83 hm84 hS (lv_sub hl [1, 0, 2, 3] rfl)
  have h85 : iv 64 100000 x3 := by
    have := (h_a1).1; have := (h_a1).2; have := (h1).1; have := (h1).2; exact ⟨by omega, by omega⟩
  have w86 : ((N a0 : Nat) : Int) ≤ x3.toInt := by
    have := (h_a1).1; have := (h_a1).2; have := (h1).1; have := (h1).2; omega
  have q88 : 1 ≤ x3.toInt := by
    have := (h_a1).1; have := (h_a1).2; have := (h1).1; have := (h1).2; omega
  have w87 : (2 : Int) ^ (0 : Int32).toInt.toNat ≤ x3.toInt := pw0 q88
  have w89 : (x3.toInt = ((N a0 : Nat) : Int) ∨ (2 * ((N a0 : Nat) : Int) ≤ x3.toInt ∧ x3.toInt ≤ 2 * a1.toInt)) := by
    have := (h_a1).1; have := (h_a1).2; have := (h1).1; have := (h1).2; omega
  have w90 : Ma = Ma := rfl
  have hm91 : 30 - (0 : Int32).toInt < (((31 : Nat) : Int) : Int) := by
    have := (h_a1).1; have := (h_a1).2; have : (0 : Int32).toInt = 0 := (by decide); omega
  exact W5_6 31 x3 0 Ma Ra Ja s.heap [] _ h85 (iv_mono (iv_c (c := 0) (n := 0) (by decide)) (by decide) (by decide)) w86 w87 w89 w90 hm91 hS (lv_sub hl [1, 0, 2, 3] rfl)
def Lt_X0_roomFor_1 : WL := [(38, 0, 2000000)]
def LRt_X0_roomFor_1 : WL := []
set_option maxRecDepth 100000 in
set_option maxHeartbeats 4000000 in
theorem t_X0_roomFor_1 (l : Launch) (D : va_G) (cy : Nat → ClassId) (tx : (Nat → Nat) × (Nat → Nat)) (base Z0 : Nat) (K0 N0 : Nat → Nat) (Ma0 : MT) (Ra0 : RT) (Ja : JT) (hTy : Ty Z0 K0 N0 Ma0 Ra0) (a0 : Nat) (hz_a0 : a0 < Z0) (hk_a0 : K0 a0 = 38) (a1 : Int32) (h_a1 : iv 5 38885 a1) (hB_a0 : 64 ≤ N0 a0 ∧ N0 a0 ≤ 100000) : Met l yX0_roomFor [Cond.code yX0_roomFor cX0_roomFor 4 (some (.array .int))] (md_rm 1 1 100000) (va_Pc [.ref (base + a0), .int a1] (md_U D cy tx base Z0 K0 N0 Ma0 Ra0 Ja)) (mQr D cy tx base (fun r u => TM Z0 K0 N0 Lt_X0_roomFor_1 LRt_X0_roomFor_1 Ma0 Ra0 u ∧ (RF Z0 K0 N0 Ma0 a0 a1.toInt r u))) 1 100000 (fun q => base ≤ q) := by
  refine tw_ofW (L := Lt_X0_roomFor_1) (LR := LRt_X0_roomFor_1) (by decide) (Nat.le_of_ble_eq_true rfl) hTy ?_
  intro p e s m args below meth c Q ls hx hb hr hlocks hown hml hW hK hT hS hQ hl
  have hl : lv_has ls 4 [(0, .ref (base + a0)), (1, .int a1)] := hl
  have hs0 : s.heap.size = base + Z0 := hS.1.2.1
  obtain ⟨Z, K, N, Ma, Ra, hE0, hGR, hTy, hS, hz_a0, hk_a0, hB_a0⟩ : ∃ (Z : Nat) (K N : Nat → Nat) (Ma : MT) (Ra : RT), (Z = Z0 ∧ K = K0 ∧ N = N0 ∧ Ma = Ma0 ∧ Ra = Ra0) ∧ GR Z0 K0 N0 Ma0 Ra0 Z K N Ma Ra ∧ Ty Z K N Ma Ra ∧ SB D cy base Z K N Lt_X0_roomFor_1 LRt_X0_roomFor_1 Ma Ra Ma Ra Ja s s.heap [] ∧ (a0 < Z) ∧ (K a0 = 38) ∧ (64 ≤ N a0 ∧ N a0 ≤ 100000) := ⟨Z0, K0, N0, Ma0, Ra0, ⟨rfl, rfl, rfl, rfl, rfl⟩, GR.rf, hTy, hS, hz_a0, hk_a0, hB_a0⟩
  refine lv_aload_n hx hb dX0_roomFor_0 rfl (lv_at hl 0 rfl) ?_
  refine tw_alen hx hb hK hS hz_a0 hk_a0 (by decide) dX0_roomFor_1 (fun x3 e2 h1 => ?_)
  refine lv_istore_n (lv' := [(2, .int x3), (0, .ref (base + a0)), (1, .int a1)]) hx hb dX0_roomFor_2 rfl hl (by decide) rfl (fun ls hl => ?_)
  refine lv_iconst (v := 0) hx hb dX0_roomFor_3 (by decide) ?_
  refine lv_istore_n (lv' := [(3, .int 0), (2, .int x3), (0, .ref (base + a0)), (1, .int a1)]) hx hb dX0_roomFor_4 rfl hl (by decide) rfl (fun ls hl => ?_)
  have W5_6 : ∀ (n_6 : Nat) (x4 : Int32) (x5 : Int32) (M6 : MT) (R7 : RT) (J8 : JT) (H : Heap) (locs : List Loc) (ls : Array Slot) (h_x4 : iv 64 100000 x4) (h_x5 : iv 0 30 x5) (w0_6 : ((N a0 : Nat) : Int) ≤ x4.toInt) (w1_6 : (2 : Int) ^ x5.toInt.toNat ≤ x4.toInt) (w2_6 : (x4.toInt = ((N a0 : Nat) : Int) ∨ (2 * ((N a0 : Nat) : Int) ≤ x4.toInt ∧ x4.toInt ≤ 2 * a1.toInt))) (w3_6 : M6 = Ma) (hm_6 : 30 - x5.toInt < (n_6 : Int)) (hS : SB D cy base Z K N Lt_X0_roomFor_1 LRt_X0_roomFor_1 Ma Ra M6 R7 J8 s H locs) (hl : lv_has ls 4 [(2, .int x4), (3, .int x5), (0, .ref (base + a0)), (1, .int a1)]), W p l e (md_rm 1 1 100000) s m args below meth c H locs 0 0 Q (F0 m 5 ls []) := by
    intro n_6
    induction n_6 with
    | zero =>
      intro x4 x5 M6 R7 J8 H locs ls h_x4 h_x5 w0_6 w1_6 w2_6 w3_6 hm_6 hS hl
      exfalso
      have := (h_a1).1; have := (h_a1).2; have := (h_x4).1; have := (h_x4).2; have := (h_x5).1; have := (h_x5).2; omega
    | succ n_6 ih_6 =>
      intro x4 x5 M6 R7 J8 H locs ls h_x4 h_x5 w0_6 w1_6 w2_6 w3_6 hm_6 hS hl
      have f9 := hS.2.2.1
      have g10 := hS.2.2.2
      refine lv_iload_n hx hb dX0_roomFor_5 rfl (lv_at hl 1 rfl) ?_
      refine lv_bipush (v := 30) hx hb dX0_roomFor_6 (by decide) ?_
      refine lv_icmp_ge (tgt := 26) hx hb dX0_roomFor_8 (by decide) (fun c11 => ?_) (fun c11 => ?_)
      · have q12 : 30 ≤ x5.toInt := ti_le c11
        have h13 : iv 30 30 x5 := iv_geL (y := 30) h_x5 (iv_c (c := 30) (n := 30) (by decide)) q12 (by decide)
        have hsz : a1.toInt ≤ x4.toInt := by
          have := pw30 w1_6 (by have := (h13).1; have := (h13).2; omega); have := (h_x4).2; omega
        refine lv_iload_n hx hb dX0_roomFor_26 rfl (lv_at hl 0 rfl) ?_
        refine lv_aload_n hx hb dX0_roomFor_27 rfl (lv_at hl 2 rfl) ?_
        refine tw_alen hx hb hK hS hz_a0 hk_a0 (by decide) dX0_roomFor_28 (fun x16 e15 h14 => ?_)
        refine lv_icmp_ne (tgt := 34) hx hb dX0_roomFor_29 (by decide) (fun c17 => ?_) (fun c17 => ?_)
        · have q18 : ¬ x4.toInt = x16.toInt := ti_ne c17
          refine lv_iload_n hx hb dX0_roomFor_34 rfl (lv_at hl 0 rfl) ?_
          obtain ⟨b19, eb19⟩ : ∃ q, q = Z := ⟨_, rfl⟩
          refine tw_newz (zq := b19) eb19 hx hb hW hK hS (t := 38) (Or.inr (by decide)) (fun _ => rfl) w_1_144 (na := 100000) h_x4 ⟨by decide, by decide, by decide⟩ (Nat.le_of_ble_eq_true rfl) (Nat.le_of_ble_eq_true rfl) dX0_roomFor_35 (fun H Z K N Ma Ra M20 R21 J22 eZ_b19 hz_b19 hk_b19 e25 o24 hS g23 => ?_)
          have hzo_a0 := hz_a0
          have eN_a0 := GR.n g23 hz_a0 rfl
          have hk_a0 : K a0 = 38 := GR.k g23 hz_a0 hk_a0
          have hB_a0 : 64 ≤ N a0 ∧ N a0 ≤ 100000 := by rw [eN_a0]; exact hB_a0
          have hz_a0 : a0 < Z := GR.z g23 hz_a0
          have hGR := GR.tr hGR g23
          have f26 := hS.2.2.1
          have g27 := hS.2.2.2
          refine lv_astore_n (lv' := [(3, .ref (base + b19)), (2, .int x4), (0, .ref (base + a0)), (1, .int a1)]) hx hb dX0_roomFor_37 rfl hl (by decide) rfl (fun ls hl => ?_)
          refine lv_aload_n hx hb dX0_roomFor_38 rfl (lv_at hl 2 rfl) ?_
          refine lv_iconst (v := 0) hx hb dX0_roomFor_39 (by decide) ?_
          refine lv_aload_n hx hb dX0_roomFor_40 rfl (lv_at hl 0 rfl) ?_
          refine lv_iconst (v := 0) hx hb dX0_roomFor_41 (by decide) ?_
          refine lv_aload_n hx hb dX0_roomFor_42 rfl (lv_at hl 2 rfl) ?_
          refine tw_alen hx hb hK hS hz_a0 hk_a0 (by decide) dX0_roomFor_43 (fun x30 e29 h28 => ?_)
          refine tw_copy hx hb (hml.trans hl.1.symm) hW hown hK hS (md_okc w_5_202 rfl (md_okc w_3_226 rfl (md_okc w_3_225 rfl (md_okc w_1_18 rfl (md_ok0))))) hz_b19 hk_b19 (Or.inr (by decide)) hz_a0 hk_a0 (Or.inr (by decide)) rfl rfl (by have := (h28).1; have := (h28).2; have := ((iv_c (c := 0) (n := 0) (by decide))).1; have := ((iv_c (c := 0) (n := 0) (by decide))).2; have := ((iv_c (c := 0) (n := 0) (by decide))).1; have := ((iv_c (c := 0) (n := 0) (by decide))).2; omega) (by have := (h28).1; have := (h28).2; have := ((iv_c (c := 0) (n := 0) (by decide))).1; have := ((iv_c (c := 0) (n := 0) (by decide))).2; have := ((iv_c (c := 0) (n := 0) (by decide))).1; have := ((iv_c (c := 0) (n := 0) (by decide))).2; omega) (by have := (h28).1; have := (h28).2; have := ((iv_c (c := 0) (n := 0) (by decide))).1; have := ((iv_c (c := 0) (n := 0) (by decide))).2; have := ((iv_c (c := 0) (n := 0) (by decide))).1; have := ((iv_c (c := 0) (n := 0) (by decide))).2; omega) (by have := (h28).1; have := (h28).2; have := ((iv_c (c := 0) (n := 0) (by decide))).1; have := ((iv_c (c := 0) (n := 0) (by decide))).2; have := ((iv_c (c := 0) (n := 0) (by decide))).1; have := ((iv_c (c := 0) (n := 0) (by decide))).2; omega) (by have := (h28).1; have := (h28).2; have := ((iv_c (c := 0) (n := 0) (by decide))).1; have := ((iv_c (c := 0) (n := 0) (by decide))).2; have := ((iv_c (c := 0) (n := 0) (by decide))).1; have := ((iv_c (c := 0) (n := 0) (by decide))).2; omega) (fun _ _ => ⟨by show (0 : Int) ≤ 0; decide, by show (9999 : Int) ≤ 9999; decide⟩) (Nat.le_of_ble_eq_true rfl) (Nat.le_of_ble_eq_true rfl) rfl dX0_roomFor_44 (fun H locs M33 hS f31 k32 => ?_)
          refine lv_aload_n hx hb dX0_roomFor_47 rfl (lv_at hl 0 rfl) ?_
          have q34 : 2 * ((N a0 : Nat) : Int) ≤ x4.toInt := by
            have := (h_a1).1; have := (h_a1).2; have := (h_x4).1; have := (h_x4).2; have := (h13).1; have := (h13).2; omega
          have q35 : x4.toInt ≤ 2 * a1.toInt := by
            have := (h_a1).1; have := (h_a1).2; have := (h_x4).1; have := (h_x4).2; have := (h13).1; have := (h13).2; omega
          exact tw_emr hx hb hr hlocks hK hT hS hGR hQ ⟨Nat.le_of_ble_eq_true rfl, Nat.le_of_ble_eq_true rfl⟩ ((RF.new hE0 w3_6 g23 o24 hzo_a0 eb19 eZ_b19 hk_b19 hk_a0 e25 hsz ⟨q34, q35⟩ e29 k32)) dX0_roomFor_48
        · have q36 : x4.toInt = x16.toInt := ti_eq c17
          have h37 : iv 64 100000 x16 := ⟨by have := (h_x4).1; have := (h14).1; omega, by have := (h_x4).2; have := (h14).2; omega⟩
          refine lv_aload_n hx hb dX0_roomFor_32 rfl (lv_at hl 2 rfl) ?_
          have q38 : a1.toInt ≤ ((N a0 : Nat) : Int) := by
            have := (h_a1).1; have := (h_a1).2; have := (h_x4).1; have := (h_x4).2; have := (h13).1; have := (h13).2; omega
          exact tw_emr hx hb hr hlocks hK hT hS hGR hQ ⟨Nat.le_of_ble_eq_true rfl, Nat.le_of_ble_eq_true rfl⟩ ((RF.same hE0 w3_6 hz_a0 q38)) dX0_roomFor_33
      · have q39 : x5.toInt < 30 := ti_nle c11
        have h40 : iv 0 29 x5 := iv_ltL (y := 30) h_x5 (iv_c (c := 30) (n := 30) (by decide)) q39 (by decide)
        refine lv_iload_n hx hb dX0_roomFor_11 rfl (lv_at hl 0 rfl) ?_
        refine lv_iload_n hx hb dX0_roomFor_12 rfl (lv_at hl 3 rfl) ?_
        refine lv_icmp_ge (tgt := 26) hx hb dX0_roomFor_13 (by decide) (fun c41 => ?_) (fun c41 => ?_)
        · have q42 : a1.toInt ≤ x4.toInt := ti_le c41
          have hsz : a1.toInt ≤ x4.toInt := by
            have := (h_a1).1; have := (h_a1).2; have := (h_x4).1; have := (h_x4).2; have := (h40).1; have := (h40).2; omega
          refine lv_iload_n hx hb dX0_roomFor_26 rfl (lv_at hl 0 rfl) ?_
          refine lv_aload_n hx hb dX0_roomFor_27 rfl (lv_at hl 2 rfl) ?_
          refine tw_alen hx hb hK hS hz_a0 hk_a0 (by decide) dX0_roomFor_28 (fun x45 e44 h43 => ?_)
          refine lv_icmp_ne (tgt := 34) hx hb dX0_roomFor_29 (by decide) (fun c46 => ?_) (fun c46 => ?_)
          · have q47 : ¬ x4.toInt = x45.toInt := ti_ne c46
            refine lv_iload_n hx hb dX0_roomFor_34 rfl (lv_at hl 0 rfl) ?_
            obtain ⟨b48, eb48⟩ : ∃ q, q = Z := ⟨_, rfl⟩
            refine tw_newz (zq := b48) eb48 hx hb hW hK hS (t := 38) (Or.inr (by decide)) (fun _ => rfl) w_1_144 (na := 100000) h_x4 ⟨by decide, by decide, by decide⟩ (Nat.le_of_ble_eq_true rfl) (Nat.le_of_ble_eq_true rfl) dX0_roomFor_35 (fun H Z K N Ma Ra M49 R50 J51 eZ_b48 hz_b48 hk_b48 e54 o53 hS g52 => ?_)
            have hzo_a0 := hz_a0
            have eN_a0 := GR.n g52 hz_a0 rfl
            have hk_a0 : K a0 = 38 := GR.k g52 hz_a0 hk_a0
            have hB_a0 : 64 ≤ N a0 ∧ N a0 ≤ 100000 := by rw [eN_a0]; exact hB_a0
            have hz_a0 : a0 < Z := GR.z g52 hz_a0
            have hGR := GR.tr hGR g52
            have f55 := hS.2.2.1
            have g56 := hS.2.2.2
            refine lv_astore_n (lv' := [(3, .ref (base + b48)), (2, .int x4), (0, .ref (base + a0)), (1, .int a1)]) hx hb dX0_roomFor_37 rfl hl (by decide) rfl (fun ls hl => ?_)
            refine lv_aload_n hx hb dX0_roomFor_38 rfl (lv_at hl 2 rfl) ?_
            refine lv_iconst (v := 0) hx hb dX0_roomFor_39 (by decide) ?_
            refine lv_aload_n hx hb dX0_roomFor_40 rfl (lv_at hl 0 rfl) ?_
            refine lv_iconst (v := 0) hx hb dX0_roomFor_41 (by decide) ?_
            refine lv_aload_n hx hb dX0_roomFor_42 rfl (lv_at hl 2 rfl) ?_
            refine tw_alen hx hb hK hS hz_a0 hk_a0 (by decide) dX0_roomFor_43 (fun x59 e58 h57 => ?_)
            refine tw_copy hx hb (hml.trans hl.1.symm) hW hown hK hS (md_okc w_5_202 rfl (md_okc w_3_226 rfl (md_okc w_3_225 rfl (md_okc w_1_18 rfl (md_ok0))))) hz_b48 hk_b48 (Or.inr (by decide)) hz_a0 hk_a0 (Or.inr (by decide)) rfl rfl (by have := (h57).1; have := (h57).2; have := ((iv_c (c := 0) (n := 0) (by decide))).1; have := ((iv_c (c := 0) (n := 0) (by decide))).2; have := ((iv_c (c := 0) (n := 0) (by decide))).1; have := ((iv_c (c := 0) (n := 0) (by decide))).2; omega) (by have := (h57).1; have := (h57).2; have := ((iv_c (c := 0) (n := 0) (by decide))).1; have := ((iv_c (c := 0) (n := 0) (by decide))).2; have := ((iv_c (c := 0) (n := 0) (by decide))).1; have := ((iv_c (c := 0) (n := 0) (by decide))).2; omega) (by have := (h57).1; have := (h57).2; have := ((iv_c (c := 0) (n := 0) (by decide))).1; have := ((iv_c (c := 0) (n := 0) (by decide))).2; have := ((iv_c (c := 0) (n := 0) (by decide))).1; have := ((iv_c (c := 0) (n := 0) (by decide))).2; omega) (by have := (h57).1; have := (h57).2; have := ((iv_c (c := 0) (n := 0) (by decide))).1; have := ((iv_c (c := 0) (n := 0) (by decide))).2; have := ((iv_c (c := 0) (n := 0) (by decide))).1; have := ((iv_c (c := 0) (n := 0) (by decide))).2; omega) (by have := (h57).1; have := (h57).2; have := ((iv_c (c := 0) (n := 0) (by decide))).1; have := ((iv_c (c := 0) (n := 0) (by decide))).2; have := ((iv_c (c := 0) (n := 0) (by decide))).1; have := ((iv_c (c := 0) (n := 0) (by decide))).2; omega) (fun _ _ => ⟨by show (0 : Int) ≤ 0; decide, by show (9999 : Int) ≤ 9999; decide⟩) (Nat.le_of_ble_eq_true rfl) (Nat.le_of_ble_eq_true rfl) rfl dX0_roomFor_44 (fun H locs M62 hS f60 k61 => ?_)
            refine lv_aload_n hx hb dX0_roomFor_47 rfl (lv_at hl 0 rfl) ?_
            have q63 : 2 * ((N a0 : Nat) : Int) ≤ x4.toInt := by
              have := (h_a1).1; have := (h_a1).2; have := (h_x4).1; have := (h_x4).2; have := (h40).1; have := (h40).2; omega
            have q64 : x4.toInt ≤ 2 * a1.toInt := by
              have := (h_a1).1; have := (h_a1).2; have := (h_x4).1; have := (h_x4).2; have := (h40).1; have := (h40).2; omega
            exact tw_emr hx hb hr hlocks hK hT hS hGR hQ ⟨Nat.le_of_ble_eq_true rfl, Nat.le_of_ble_eq_true rfl⟩ ((RF.new hE0 w3_6 g52 o53 hzo_a0 eb48 eZ_b48 hk_b48 hk_a0 e54 hsz ⟨q63, q64⟩ e58 k61)) dX0_roomFor_48
          · have q65 : x4.toInt = x45.toInt := ti_eq c46
            have h66 : iv 64 100000 x45 := ⟨by have := (h_x4).1; have := (h43).1; omega, by have := (h_x4).2; have := (h43).2; omega⟩
            refine lv_aload_n hx hb dX0_roomFor_32 rfl (lv_at hl 2 rfl) ?_
            have q67 : a1.toInt ≤ ((N a0 : Nat) : Int) := by
              have := (h_a1).1; have := (h_a1).2; have := (h_x4).1; have := (h_x4).2; have := (h40).1; have := (h40).2; omega
            exact tw_emr hx hb hr hlocks hK hT hS hGR hQ ⟨Nat.le_of_ble_eq_true rfl, Nat.le_of_ble_eq_true rfl⟩ ((RF.same hE0 w3_6 hz_a0 q67)) dX0_roomFor_33
        · have q68 : x4.toInt < a1.toInt := ti_nle c41
          have h69 : iv 64 38884 x4 := iv_ltL (y := a1) h_x4 h_a1 q68 (by decide)
          have h70 : iv 65 38885 a1 := iv_gtL (y := x4) h_a1 h_x4 q68 (by decide)
          refine lv_iload_n hx hb dX0_roomFor_16 rfl (lv_at hl 0 rfl) ?_
          refine lv_iconst (v := 2) hx hb dX0_roomFor_17 (by decide) ?_
          refine tw_imulc (k := 2) (lo := 128) (hi := 77768) hx hb h69 (by decide) (by decide) ⟨by decide, by decide⟩ ⟨by decide, by decide⟩ dX0_roomFor_18 (fun x73 e72 h71 => ?_)
          refine lv_istore_n (lv' := [(2, .int x73), (3, .int x5), (0, .ref (base + a0)), (1, .int a1)]) hx hb dX0_roomFor_19 rfl hl (by decide) rfl (fun ls hl => ?_)
          refine tw_iinc (lv' := fun x76 => [(3, .int x76), (2, .int x73), (0, .ref (base + a0)), (1, .int a1)]) (lo := 1) (hi := 30) hx hb dX0_roomFor_20 hl (k := 1) rfl h40 (by decide) ⟨by decide, by decide⟩ ⟨by decide, by decide⟩ (by decide) (fun _ => rfl) (fun x76 ls e75 h74 hl => ?_)
          refine lv_goto (tgt := 5) hx hb dX0_roomFor_23 (by decide) ?_
          have w77 : ((N a0 : Nat) : Int) ≤ x73.toInt := by
            have := (h70).1; have := (h70).2; have := (h69).1; have := (h69).2; have := (h40).1; have := (h40).2; have := (h71).1; have := (h71).2; have := (h74).1; have := (h74).2; omega
          have q79 : 0 ≤ x5.toInt := by
            have := (h70).1; have := (h70).2; have := (h69).1; have := (h69).2; have := (h40).1; have := (h40).2; have := (h71).1; have := (h71).2; have := (h74).1; have := (h74).2; omega
          have q80 : x76.toInt = x5.toInt + 1 := by
            have := (h70).1; have := (h70).2; have := (h69).1; have := (h69).2; have := (h40).1; have := (h40).2; have := (h71).1; have := (h71).2; have := (h74).1; have := (h74).2; omega
          have q81 : x73.toInt = x4.toInt * 2 := by
            have := (h70).1; have := (h70).2; have := (h69).1; have := (h69).2; have := (h40).1; have := (h40).2; have := (h71).1; have := (h71).2; have := (h74).1; have := (h74).2; omega
          have w78 : (2 : Int) ^ x76.toInt.toNat ≤ x73.toInt := pw1 w1_6 q79 q80 q81
          have w82 : (x73.toInt = ((N a0 : Nat) : Int) ∨ (2 * ((N a0 : Nat) : Int) ≤ x73.toInt ∧ x73.toInt ≤ 2 * a1.toInt)) := by
            have := (h70).1; have := (h70).2; have := (h69).1; have := (h69).2; have := (h40).1; have := (h40).2; have := (h71).1; have := (h71).2; have := (h74).1; have := (h74).2; omega
          have w83 : M6 = Ma := w3_6
          have hm84 : 30 - x76.toInt < (n_6 : Int) := by
            have := (h70).1; have := (h70).2; have := (h69).1; have := (h69).2; have := (h40).1; have := (h40).2; have := (h71).1; have := (h71).2; have := (h74).1; have := (h74).2; omega
          exact ih_6 x73 x76 M6 R7 J8 H locs _ (iv_mono h71 (by decide) (by decide)) (iv_mono h74 (by decide) (by decide)) w77 w78 w82 w83 hm84 hS (lv_sub hl [1, 0, 2, 3] rfl)
  have h85 : iv 64 100000 x3 := by
    have := (h_a1).1; have := (h_a1).2; have := (h1).1; have := (h1).2; exact ⟨by omega, by omega⟩
  have w86 : ((N a0 : Nat) : Int) ≤ x3.toInt := by
    have := (h_a1).1; have := (h_a1).2; have := (h1).1; have := (h1).2; omega
  have q88 : 1 ≤ x3.toInt := by
    have := (h_a1).1; have := (h_a1).2; have := (h1).1; have := (h1).2; omega
  have w87 : (2 : Int) ^ (0 : Int32).toInt.toNat ≤ x3.toInt := pw0 q88
  have w89 : (x3.toInt = ((N a0 : Nat) : Int) ∨ (2 * ((N a0 : Nat) : Int) ≤ x3.toInt ∧ x3.toInt ≤ 2 * a1.toInt)) := by
    have := (h_a1).1; have := (h_a1).2; have := (h1).1; have := (h1).2; omega
  have w90 : Ma = Ma := rfl
  have hm91 : 30 - (0 : Int32).toInt < (((31 : Nat) : Int) : Int) := by
    have := (h_a1).1; have := (h_a1).2; have : (0 : Int32).toInt = 0 := (by decide); omega
  exact W5_6 31 x3 0 Ma Ra Ja s.heap [] _ h85 (iv_mono (iv_c (c := 0) (n := 0) (by decide)) (by decide) (by decide)) w86 w87 w89 w90 hm91 hS (lv_sub hl [1, 0, 2, 3] rfl)
def Lt_X0_stepOn : WL := [(37, 0, 2000000)]
def LRt_X0_stepOn : WL := []
set_option maxRecDepth 100000 in
set_option maxHeartbeats 4000000 in
theorem t_X0_stepOn (l : Launch) (D : va_G) (cy : Nat → ClassId) (tx : (Nat → Nat) × (Nat → Nat)) (base Z : Nat) (K N : Nat → Nat) (Ma : MT) (Ra : RT) (Ja : JT) (hTy : Ty Z K N Ma Ra) (a0 : Nat) (hz_a0 : a0 < Z) (hk_a0 : K a0 = 1) (a1 : Int32) (h_a1 : iv 1 6 a1) (be : Nat) (k_be : Ra a0 2 = some be) (b5 : Int32) (k_b5 : Ma be (5 : Int32).toNatClampNeg = b5) (h_b5 : iv 0 9998 b5) : Met l yX0_stepOn [Cond.code yX0_stepOn cX0_stepOn 3 none] (md_rm 1 0 0) (va_Pc [.ref (base + a0), .int a1] (md_U D cy tx base Z K N Ma Ra Ja)) (mQv D cy tx base (fun u => TP Z K N Lt_X0_stepOn LRt_X0_stepOn Ma Ra u ∧ ((∃ x : Int32, u.2.2.2.1 be (5 : Int32).toNatClampNeg = x ∧ iv 0 9999 x ∧ (x.toInt ≤ b5.toInt + 1))))) 0 0 (fun q => base ≤ q) := by
  refine tw_ofW (L := Lt_X0_stepOn) (LR := LRt_X0_stepOn) (by decide) (Nat.le_of_ble_eq_true rfl) hTy ?_
  intro p e s m args below meth c Q ls hx hb hr hlocks hown hml hW hK hT hS hQ hl
  have hl : lv_has ls 3 [(0, .ref (base + a0)), (1, .int a1)] := hl
  obtain ⟨hz_be, hk_be, hn_be⟩ := hTy.refn hz_a0 hk_a0 (show rtR 1 2 = (37, 10, 0) from rfl) k_be
  have hn_be := hn_be (by decide)
  refine lv_iconst (v := 0) hx hb dX0_stepOn_0 (by decide) ?_
  refine lv_istore_n (lv' := [(2, .int 0), (0, .ref (base + a0)), (1, .int a1)]) hx hb dX0_stepOn_1 rfl hl (by decide) rfl (fun ls hl => ?_)
  have W2_2 : ∀ (n_2 : Nat) (x1 : Int32) (x7 : Int32) (M2 : MT) (R3 : RT) (J4 : JT) (H : Heap) (locs : List Loc) (ls : Array Slot) (h_x1 : iv 0 5 x1) (h_x7 : iv 0 9998 x7) (k8 : M2 be (5 : Int32).toNatClampNeg = x7) (w0_2 : x7.toInt = b5.toInt) (hm_2 : 5 - x1.toInt < (n_2 : Int)) (hS : SB D cy base Z K N Lt_X0_stepOn LRt_X0_stepOn Ma Ra M2 R3 J4 s H locs) (hl : lv_has ls 3 [(2, .int x1), (0, .ref (base + a0)), (1, .int a1)]), W p l e (md_rm 1 0 0) s m args below meth c H locs 0 0 Q (F0 m 2 ls []) := by
    intro n_2
    induction n_2 with
    | zero =>
      intro x1 x7 M2 R3 J4 H locs ls h_x1 h_x7 k8 w0_2 hm_2 hS hl
      exfalso
      have := (h_a1).1; have := (h_a1).2; have := (h_b5).1; have := (h_b5).2; have := (h_x1).1; have := (h_x1).2; omega
    | succ n_2 ih_2 =>
      intro x1 x7 M2 R3 J4 H locs ls h_x1 h_x7 k8 w0_2 hm_2 hS hl
      have f5 := hS.2.2.1
      have g6 := hS.2.2.2
      refine lv_iload_n hx hb dX0_stepOn_2 rfl (lv_at hl 0 rfl) ?_
      refine lv_iconst (v := 5) hx hb dX0_stepOn_3 (by decide) ?_
      refine lv_icmp_ge (tgt := 30) hx hb dX0_stepOn_4 (by decide) (fun c9 => ?_) (fun c9 => ?_)
      · have q10 : 5 ≤ x1.toInt := ti_le c9
        have h11 : iv 5 5 x1 := iv_geL (y := 5) h_x1 (iv_c (c := 5) (n := 5) (by decide)) q10 (by decide)
        obtain rfl : x1 = 5 := Int32.toInt_inj.mp (by have := (h11).1; have := (h11).2; show x1.toInt = 5; omega)
        refine lv_aload_n hx hb dX0_stepOn_30 rfl (lv_at hl 1 rfl) ?_
        have k12 : R3 a0 2 = some be := (Fr.kp (k := 2) g6 hk_a0 rfl).trans k_be
        refine tw_getrk hx hb hW hown hK hS f_X0_9_0 hz_a0 hk_a0 (b := be) k12 dX0_stepOn_31 ?_
        refine lv_iload_n hx hb dX0_stepOn_34 rfl (lv_at hl 0 rfl) ?_
        refine lv_dup2_11 hx hb dX0_stepOn_35 rfl rfl ?_
        refine tw_ialk hx hb hK hS hz_be hk_be (Or.inr (by decide)) hn_be (iv_c (c := 5) (n := 5) (by decide)) ⟨by decide, by decide⟩ (v := x7) k8 dX0_stepOn_36 ?_
        refine lv_iconst (v := 1) hx hb dX0_stepOn_37 (by decide) ?_
        refine tw_iadd (lo := 1) (hi := 9999) hx hb h_x7 (iv_c (c := 1) (n := 1) (by decide)) ⟨by decide, by decide⟩ ⟨by decide, by decide⟩ dX0_stepOn_38 (fun x15 e14 h13 => ?_)
        have e14 : x15.toInt = x7.toInt + 1 := e14
        refine tw_iasx hx hb hK hS hz_be hk_be (Or.inr (by decide)) hn_be (iv_c (c := 5) (n := 5) (by decide)) ⟨by decide, by decide⟩ (iv_mono h13 (lo := 0) (hi := 9999) (by decide) (by decide)) (jl := 0) (jh := 1999999) ⟨by decide, by decide⟩ rfl dX0_stepOn_39 (fun H locs M19 hS k16 f17 e18 => ?_)
        have q21 : x15.toInt ≤ b5.toInt + 1 := by
          have := (h_a1).1; have := (h_a1).2; have := (h_b5).1; have := (h_b5).2; have := (h13).1; have := (h13).2; have := (h_x7).1; have := (h_x7).2; omega
        exact tw_endv hx hb hr hlocks hK hT hS hQ (⟨x15, k16, (iv_mono h13 (by decide) (by decide)), q21⟩) dX0_stepOn_40
      · have q22 : x1.toInt < 5 := ti_nle c9
        have h23 : iv 0 4 x1 := iv_ltL (y := 5) h_x1 (iv_c (c := 5) (n := 5) (by decide)) q22 (by decide)
        refine lv_aload_n hx hb dX0_stepOn_7 rfl (lv_at hl 1 rfl) ?_
        have k24 : R3 a0 2 = some be := (Fr.kp (k := 2) g6 hk_a0 rfl).trans k_be
        refine tw_getrk hx hb hW hown hK hS f_X0_9_0 hz_a0 hk_a0 (b := be) k24 dX0_stepOn_8 ?_
        refine lv_iload_n hx hb dX0_stepOn_11 rfl (lv_at hl 0 rfl) ?_
        refine tw_iald hx hb hK hS hz_be hk_be (Or.inr (by decide)) hn_be (lo := 0) (hi := 9999) h23 ⟨by decide, by decide⟩ rg_u37 dX0_stepOn_12 (fun x27 k26 h25 => ?_)
        refine lv_iload_n hx hb dX0_stepOn_13 rfl (lv_at hl 2 rfl) ?_
        refine lv_icmp_lt (tgt := 30) hx hb dX0_stepOn_14 (by decide) (fun c28 => ?_) (fun c28 => ?_)
        · have q29 : x27.toInt < a1.toInt := ti_lt c28
          have h30 : iv 0 5 x27 := iv_ltL (y := a1) h25 h_a1 q29 (by decide)
          refine lv_aload_n hx hb dX0_stepOn_30 rfl (lv_at hl 1 rfl) ?_
          have k31 : R3 a0 2 = some be := (Fr.kp (k := 2) g6 hk_a0 rfl).trans k_be
          refine tw_getrk hx hb hW hown hK hS f_X0_9_0 hz_a0 hk_a0 (b := be) k31 dX0_stepOn_31 ?_
          refine lv_iload_n hx hb dX0_stepOn_34 rfl (lv_at hl 0 rfl) ?_
          refine lv_dup2_11 hx hb dX0_stepOn_35 rfl rfl ?_
          refine tw_ialk hx hb hK hS hz_be hk_be (Or.inr (by decide)) hn_be h23 ⟨by decide, by decide⟩ (v := x27) k26 dX0_stepOn_36 ?_
          refine lv_iconst (v := 1) hx hb dX0_stepOn_37 (by decide) ?_
          refine tw_iadd (lo := 1) (hi := 6) hx hb h30 (iv_c (c := 1) (n := 1) (by decide)) ⟨by decide, by decide⟩ ⟨by decide, by decide⟩ dX0_stepOn_38 (fun x34 e33 h32 => ?_)
          have e33 : x34.toInt = x27.toInt + 1 := e33
          refine tw_iasx hx hb hK hS hz_be hk_be (Or.inr (by decide)) hn_be h23 ⟨by decide, by decide⟩ (iv_mono h32 (lo := 0) (hi := 9999) (by decide) (by decide)) (jl := 0) (jh := 1999999) ⟨by decide, by decide⟩ rfl dX0_stepOn_39 (fun H locs M38 hS k35 f36 e37 => ?_)
          have k39 : M38 be (5 : Int32).toNatClampNeg = x7 := by rw [e37]; refine (u2_nk (fun q => ?_)).trans k8; have := ti_cl (x := x1) (by have := (h23).1; omega); have := (h23).2; have : (5 : Int32).toNatClampNeg = 5 := (by decide); omega
          have q40 : x7.toInt ≤ b5.toInt + 1 := by
            have := (h_a1).1; have := (h_a1).2; have := (h_b5).1; have := (h_b5).2; have := (h_x7).1; have := (h_x7).2; omega
          exact tw_endv hx hb hr hlocks hK hT hS hQ (⟨x7, k39, (iv_mono h_x7 (by decide) (by decide)), q40⟩) dX0_stepOn_40
        · have q41 : a1.toInt ≤ x27.toInt := ti_nlt c28
          have h42 : iv 1 9999 x27 := iv_geL (y := a1) h25 h_a1 q41 (by decide)
          refine lv_aload_n hx hb dX0_stepOn_17 rfl (lv_at hl 1 rfl) ?_
          have k43 : R3 a0 2 = some be := (Fr.kp (k := 2) g6 hk_a0 rfl).trans k_be
          refine tw_getrk hx hb hW hown hK hS f_X0_9_0 hz_a0 hk_a0 (b := be) k43 dX0_stepOn_18 ?_
          refine lv_iload_n hx hb dX0_stepOn_21 rfl (lv_at hl 0 rfl) ?_
          refine lv_iconst (v := 1) hx hb dX0_stepOn_22 (by decide) ?_
          refine tw_iasx hx hb hK hS hz_be hk_be (Or.inr (by decide)) hn_be h23 ⟨by decide, by decide⟩ (iv_mono (iv_c (c := 1) (n := 1) (by decide)) (lo := 0) (hi := 9999) (by decide) (by decide)) (jl := 0) (jh := 1999999) ⟨by decide, by decide⟩ rfl dX0_stepOn_23 (fun H locs M47 hS k44 f45 e46 => ?_)
          have k48 : M47 be (5 : Int32).toNatClampNeg = x7 := by rw [e46]; refine (u2_nk (fun q => ?_)).trans k8; have := ti_cl (x := x1) (by have := (h23).1; omega); have := (h23).2; have : (5 : Int32).toNatClampNeg = 5 := (by decide); omega
          refine tw_iinc (lv' := fun x51 => [(2, .int x51), (0, .ref (base + a0)), (1, .int a1)]) (lo := 1) (hi := 5) hx hb dX0_stepOn_24 hl (k := 0) rfl h23 (by decide) ⟨by decide, by decide⟩ ⟨by decide, by decide⟩ (by decide) (fun _ => rfl) (fun x51 ls e50 h49 hl => ?_)
          refine lv_goto (tgt := 2) hx hb dX0_stepOn_27 (by decide) ?_
          have w52 : x7.toInt = b5.toInt := by
            have := (h_a1).1; have := (h_a1).2; have := (h_b5).1; have := (h_b5).2; have := (h_x7).1; have := (h_x7).2; omega
          have hm53 : 5 - x51.toInt < (n_2 : Int) := by
            have := (h_a1).1; have := (h_a1).2; have := (h_b5).1; have := (h_b5).2; have := (h23).1; have := (h23).2; have := (h49).1; have := (h49).2; omega
          exact ih_2 x51 x7 M47 R3 J4 H locs _ (iv_mono h49 (by decide) (by decide)) h_x7 k48 w52 hm53 hS hl
  have w54 : b5.toInt = b5.toInt := by
    have := (h_a1).1; have := (h_a1).2; have := (h_b5).1; have := (h_b5).2; omega
  have hm55 : 5 - (0 : Int32).toInt < (((6 : Nat) : Int) : Int) := by
    have := (h_a1).1; have := (h_a1).2; have := (h_b5).1; have := (h_b5).2; have : (0 : Int32).toInt = 0 := (by decide); omega
  exact W2_2 6 0 b5 Ma Ra Ja s.heap [] _ (iv_mono (iv_c (c := 0) (n := 0) (by decide)) (by decide) (by decide)) h_b5 k_b5 w54 hm55 hS hl
def Lt_X11_isForBooks : WL := []
def LRt_X11_isForBooks : WL := []
set_option maxRecDepth 100000 in
set_option maxHeartbeats 4000000 in
theorem t_X11_isForBooks (l : Launch) (D : va_G) (cy : Nat → ClassId) (tx : (Nat → Nat) × (Nat → Nat)) (base Z : Nat) (K N : Nat → Nat) (Ma : MT) (Ra : RT) (Ja : JT) (hTy : Ty Z K N Ma Ra) (a0 : Nat) (hz_a0 : a0 < Z) (hk_a0 : K a0 = 11) (a1 : Int32) (h_a1 : iv (-2147483648) 2147483647 a1) : Met l yX11_isForBooks [Cond.code yX11_isForBooks cX11_isForBooks 2 (some .boolean)] (md_rm 2 0 0) (va_Pc [.ref (base + a0), .int a1] (md_U D cy tx base Z K N Ma Ra Ja)) (mQi D cy tx base (fun r u => TP Z K N Lt_X11_isForBooks LRt_X11_isForBooks Ma Ra u ∧ (iv 0 1 r ∧ (¬ r = 0 → iv 1 6 a1)))) 0 0 (fun q => base ≤ q) := by
  refine tw_ofW (L := Lt_X11_isForBooks) (LR := LRt_X11_isForBooks) (by decide) (Nat.le_of_ble_eq_true rfl) hTy ?_
  intro p e s m args below meth c Q ls hx hb hr hlocks hown hml hW hK hT hS hQ hl
  have hl : lv_has ls 2 [(0, .ref (base + a0)), (1, .int a1)] := hl
  refine lv_aload_n hx hb dX11_isForBooks_0 rfl (lv_at hl 0 rfl) ?_
  refine tw_getr hx hb hW hown hK hS f_X11_31_10 hz_a0 hk_a0 (t := 10) (n := 0) rfl dX11_isForBooks_1 (fun b1 k2 hz_b1 hk_b1 hn_b1 => ?_)
  refine tw_goi hS (md_runV (As := []) (rest := []) hx hb hml hown hW hK hT hS.1 (t_X9_hasCouncil l D cy tx base Z K N Ma Ra Ja hS.2.1 b1 hz_b1 hk_b1) s_X11_170 ⟨rfl, rfl, ⟨Nat.le_of_ble_eq_true rfl, Nat.le_of_ble_eq_true rfl⟩, ⟨Nat.le_of_ble_eq_true rfl, Nat.le_of_ble_eq_true rfl⟩⟩ hz_b1 hk_b1 (by decide) rfl rfl hl.1 rfl (Nat.le_of_ble_eq_true rfl) dX11_isForBooks_4) rfl rfl (fun x9 H locs M6 R7 J5 hS f3 g4 E8 => ?_)
  have eM6 := Fr.nil f3 rfl
  subst eM6
  have eR7 := Fr.nil g4 rfl
  subst eR7
  have h_x9 := E8
  clear E8
  refine lv_if_eq (tgt := 36) hx hb dX11_isForBooks_7 (by decide) (fun c10 => ?_) (fun c10 => ?_)
  · have q11 : x9.toInt = 0 := ti_eq c10
    have h12 : iv 0 0 x9 := ⟨by have := (h_x9).1; have := ((iv_c (c := 0) (n := 0) (by decide))).1; omega, by have := (h_x9).2; have := ((iv_c (c := 0) (n := 0) (by decide))).2; omega⟩
    refine lv_iconst (v := 0) hx hb dX11_isForBooks_36 (by decide) ?_
    exact tw_endz hx hb hr hlocks hK hT hS hQ rfl (⟨(iv_mono (iv_c (c := 0) (n := 0) (by decide)) (by decide) (by decide)), (fun h => absurd rfl h)⟩) dX11_isForBooks_37
  · have q13 : ¬ x9.toInt = 0 := ti_ne c10
    have h14 : iv 1 1 x9 := ⟨by have := (h_x9).1; have := ((iv_c (c := 0) (n := 0) (by decide))).1; have := ((iv_c (c := 0) (n := 0) (by decide))).2; omega, by have := (h_x9).2; have := ((iv_c (c := 0) (n := 0) (by decide))).1; have := ((iv_c (c := 0) (n := 0) (by decide))).2; omega⟩
    refine lv_aload_n hx hb dX11_isForBooks_10 rfl (lv_at hl 0 rfl) ?_
    refine tw_getrk hx hb hW hown hK hS f_X11_31_10 hz_a0 hk_a0 (b := b1) k2 dX11_isForBooks_11 ?_
    refine tw_geti hx hb hW hown hK hS f_X11_116_9 hz_b1 hk_b1 (lo := (-2147483648)) (hi := 10) rfl dX11_isForBooks_14 (fun x17 k16 h15 => ?_)
    refine lv_iconst (v := 5) hx hb dX11_isForBooks_17 (by decide) ?_
    refine lv_icmp_gt (tgt := 36) hx hb dX11_isForBooks_18 (by decide) (fun c18 => ?_) (fun c18 => ?_)
    · have q19 : 5 < x17.toInt := ti_lt c18
      have h20 : iv 6 10 x17 := iv_gtL (y := 5) h15 (iv_c (c := 5) (n := 5) (by decide)) q19 (by decide)
      refine lv_iconst (v := 0) hx hb dX11_isForBooks_36 (by decide) ?_
      exact tw_endz hx hb hr hlocks hK hT hS hQ rfl (⟨(iv_mono (iv_c (c := 0) (n := 0) (by decide)) (by decide) (by decide)), (fun h => absurd rfl h)⟩) dX11_isForBooks_37
    · have q21 : x17.toInt ≤ 5 := ti_nlt c18
      have h22 : iv (-2147483648) 5 x17 := iv_leL (y := 5) h15 (iv_c (c := 5) (n := 5) (by decide)) q21 (by decide)
      refine lv_iload_n hx hb dX11_isForBooks_21 rfl (lv_at hl 1 rfl) ?_
      refine lv_iconst (v := 1) hx hb dX11_isForBooks_22 (by decide) ?_
      refine lv_icmp_lt (tgt := 36) hx hb dX11_isForBooks_23 (by decide) (fun c23 => ?_) (fun c23 => ?_)
      · have q24 : a1.toInt < 1 := ti_lt c23
        have h25 : iv (-2147483648) 0 a1 := iv_ltL (y := 1) h_a1 (iv_c (c := 1) (n := 1) (by decide)) q24 (by decide)
        refine lv_iconst (v := 0) hx hb dX11_isForBooks_36 (by decide) ?_
        exact tw_endz hx hb hr hlocks hK hT hS hQ rfl (⟨(iv_mono (iv_c (c := 0) (n := 0) (by decide)) (by decide) (by decide)), (fun h => absurd rfl h)⟩) dX11_isForBooks_37
      · have q26 : 1 ≤ a1.toInt := ti_nlt c23
        have h27 : iv 1 2147483647 a1 := iv_geL (y := 1) h_a1 (iv_c (c := 1) (n := 1) (by decide)) q26 (by decide)
        refine lv_iload_n hx hb dX11_isForBooks_26 rfl (lv_at hl 1 rfl) ?_
        refine lv_bipush (v := 6) hx hb dX11_isForBooks_27 (by decide) ?_
        refine lv_icmp_gt (tgt := 36) hx hb dX11_isForBooks_29 (by decide) (fun c28 => ?_) (fun c28 => ?_)
        · have q29 : 6 < a1.toInt := ti_lt c28
          have h30 : iv 7 2147483647 a1 := iv_gtL (y := 6) h27 (iv_c (c := 6) (n := 6) (by decide)) q29 (by decide)
          refine lv_iconst (v := 0) hx hb dX11_isForBooks_36 (by decide) ?_
          exact tw_endz hx hb hr hlocks hK hT hS hQ rfl (⟨(iv_mono (iv_c (c := 0) (n := 0) (by decide)) (by decide) (by decide)), (fun h => absurd rfl h)⟩) dX11_isForBooks_37
        · have q31 : a1.toInt ≤ 6 := ti_nlt c28
          have h32 : iv 1 6 a1 := iv_leL (y := 6) h27 (iv_c (c := 6) (n := 6) (by decide)) q31 (by decide)
          refine lv_iconst (v := 1) hx hb dX11_isForBooks_32 (by decide) ?_
          refine lv_goto (tgt := 37) hx hb dX11_isForBooks_33 (by decide) ?_
          exact tw_endz hx hb hr hlocks hK hT hS hQ rfl (⟨(iv_mono (iv_c (c := 1) (n := 1) (by decide)) (by decide) (by decide)), (fun _ => h32)⟩) dX11_isForBooks_37
