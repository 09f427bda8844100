def Lt_X5_grow_1 : WL := [(29, 0, 2000000)]
def LRt_X5_grow_1 : WL := []
set_option maxRecDepth 100000 in
set_option maxHeartbeats 4000000 in
theorem t_X5_grow_1 (l : Launch) (D : va_G) (cy : Nat → ClassId) (tx : (Nat → Nat) × (Nat → Nat)) (base Z : Nat) (K N : Nat → Nat) (Ma : MT) (Ra : RT) (Ja : JT) (hTy : Ty Z K N Ma Ra) (a0 : Nat) (hz_a0 : a0 < Z) (hk_a0 : K a0 = 6) (a1 : Nat) (hz_a1 : a1 < Z) (hk_a1 : K a1 = 29) (hn_a1 : N a1 = 10) (a2 : Int32) (h_a2 : iv (-2147483648) 2147483647 a2) (a3 : Int32) (h_a3 : iv (-2147483648) 2147483647 a3) : Met l yX5_grow [Cond.code yX5_grow cX5_grow 6 none] (md_rm 1 0 0) (va_Pc [.ref (base + a0), .ref (base + a1), .int a2, .int a3] (md_U D cy tx base Z K N Ma Ra Ja)) (mQv D cy tx base (fun u => TP Z K N Lt_X5_grow_1 LRt_X5_grow_1 Ma Ra u ∧ (True))) 0 0 (fun q => base ≤ q) := by
  refine tw_ofW (L := Lt_X5_grow_1) (LR := LRt_X5_grow_1) (by decide) (Nat.le_of_ble_eq_true rfl) hTy ?_
  intro p e s m args below meth c Q ls hx hb hr hlocks hown hml hW hK hT hS hQ hl
  have hl : lv_has ls 6 [(0, .ref (base + a0)), (1, .ref (base + a1)), (2, .int a2), (3, .int a3)] := hl
  refine lv_iconst (v := 0) hx hb dX5_grow_0 (by decide) ?_
  refine lv_istore (lv' := [(4, .int 0), (0, .ref (base + a0)), (1, .ref (base + a1)), (2, .int a2), (3, .int a3)]) hx hb dX5_grow_1 hl (by decide) rfl (fun ls hl => ?_)
  have W3_2 : ∀ (n_2 : Nat) (x1 : Int32) (M2 : MT) (R3 : RT) (J4 : JT) (H : Heap) (locs : List Loc) (ls : Array Slot) (h_x1 : iv 0 10 x1) (hm_2 : 10 - x1.toInt < (n_2 : Int)) (hS : SB D cy base Z K N Lt_X5_grow_1 LRt_X5_grow_1 Ma Ra M2 R3 J4 s H locs) (hl : lv_has ls 6 [(4, .int x1), (0, .ref (base + a0)), (1, .ref (base + a1)), (2, .int a2), (3, .int a3)]), W p l e (md_rm 1 0 0) s m args below meth c H locs 0 0 Q (F0 m 3 ls []) := by
    intro n_2
    induction n_2 with
    | zero =>
      intro x1 M2 R3 J4 H locs ls h_x1 hm_2 hS hl
      exfalso
      have := (h_a2).1; have := (h_a2).2; have := (h_a3).1; have := (h_a3).2; have := (h_x1).1; have := (h_x1).2; omega
    | succ n_2 ih_2 =>
      intro x1 M2 R3 J4 H locs ls h_x1 hm_2 hS hl
      have f5 := hS.2.2.1
      have g6 := hS.2.2.2
      refine lv_iload hx hb dX5_grow_3 (lv_at hl 0 rfl) ?_
      refine lv_aload_n hx hb dX5_grow_5 rfl (lv_at hl 1 rfl) ?_
      refine tw_getr hx hb hW hown hK hS f_X5_9_5 hz_a0 hk_a0 (t := 10) (n := 0) rfl dX5_grow_6 (fun b7 k8 hz_b7 hk_b7 hn_b7 => ?_)
      refine tw_geti hx hb hW hown hK hS f_X5_53_9 hz_b7 hk_b7 (lo := (-2147483648)) (hi := 10) rfl dX5_grow_9 (fun x11 k10 h9 => ?_)
      refine lv_icmp_ge (tgt := 117) hx hb dX5_grow_12 (by decide) (fun c12 => ?_) (fun c12 => ?_)
      · have q13 : x11.toInt ≤ x1.toInt := ti_le c12
        exact tw_endv hx hb hr hlocks hK hT hS hQ (trivial) dX5_grow_117
      · have q14 : x1.toInt < x11.toInt := ti_nle c12
        have h15 : iv 0 9 x1 := iv_ltL (y := x11) h_x1 h9 q14 (by decide)
        have h16 : iv 1 10 x11 := iv_gtL (y := x1) h9 h_x1 q14 (by decide)
        refine lv_iload_n hx hb dX5_grow_15 rfl (lv_at hl 3 rfl) ?_
        refine lv_iload hx hb dX5_grow_16 (lv_at hl 0 rfl) ?_
        refine lv_ishr hx hb dX5_grow_18 ?_
        refine tw_top (fun x18 => ?_)
        have h17 := iv_any x18
        refine lv_iconst (v := 1) hx hb dX5_grow_19 (by decide) ?_
        refine tw_iand (hi := 1) hx hb (iv_mono (iv_c (c := 1) (n := 1) (by decide)) (lo := 0) (hi := 1) (by decide) (by decide)) (by decide) dX5_grow_20 (fun x21 h19 => ?_)
        refine lv_iconst (v := 1) hx hb dX5_grow_21 (by decide) ?_
        refine lv_icmp_ne (tgt := 57) hx hb dX5_grow_22 (by decide) (fun c22 => ?_) (fun c22 => ?_)
        · have q23 : ¬ x21.toInt = 1 := ti_ne c22
          have h24 : iv 0 0 x21 := ⟨by have := (h19).1; have := ((iv_c (c := 1) (n := 1) (by decide))).1; have := ((iv_c (c := 1) (n := 1) (by decide))).2; omega, by have := (h19).2; have := ((iv_c (c := 1) (n := 1) (by decide))).1; have := ((iv_c (c := 1) (n := 1) (by decide))).2; omega⟩
          refine lv_iload_n hx hb dX5_grow_57 rfl (lv_at hl 4 rfl) ?_
          refine lv_iload hx hb dX5_grow_58 (lv_at hl 0 rfl) ?_
          refine lv_ishr hx hb dX5_grow_60 ?_
          refine tw_top (fun x26 => ?_)
          have h25 := iv_any x26
          refine lv_iconst (v := 1) hx hb dX5_grow_61 (by decide) ?_
          refine tw_iand (hi := 1) hx hb (iv_mono (iv_c (c := 1) (n := 1) (by decide)) (lo := 0) (hi := 1) (by decide) (by decide)) (by decide) dX5_grow_62 (fun x29 h27 => ?_)
          refine lv_iconst (v := 1) hx hb dX5_grow_63 (by decide) ?_
          refine lv_icmp_ne (tgt := 111) hx hb dX5_grow_64 (by decide) (fun c30 => ?_) (fun c30 => ?_)
          · have q31 : ¬ x29.toInt = 1 := ti_ne c30
            have h32 : iv 0 0 x29 := ⟨by have := (h27).1; have := ((iv_c (c := 1) (n := 1) (by decide))).1; have := ((iv_c (c := 1) (n := 1) (by decide))).2; omega, by have := (h27).2; have := ((iv_c (c := 1) (n := 1) (by decide))).1; have := ((iv_c (c := 1) (n := 1) (by decide))).2; omega⟩
            refine tw_iinc (lv' := fun x35 => [(4, .int x35), (0, .ref (base + a0)), (1, .ref (base + a1)), (2, .int a2), (3, .int a3)]) (lo := 1) (hi := 10) hx hb dX5_grow_111 hl (k := 0) rfl h15 (by decide) ⟨by decide, by decide⟩ ⟨by decide, by decide⟩ (by decide) (fun _ => rfl) (fun x35 ls e34 h33 hl => ?_)
            refine lv_goto (tgt := 3) hx hb dX5_grow_114 (by decide) ?_
            have hm36 : 10 - x35.toInt < (n_2 : Int) := by
              have := (h_a2).1; have := (h_a2).2; have := (h_a3).1; have := (h_a3).2; have := (h15).1; have := (h15).2; have := (h33).1; have := (h33).2; omega
            exact ih_2 x35 M2 R3 J4 H locs _ (iv_mono h33 (by decide) (by decide)) hm36 hS hl
          · have q37 : x29.toInt = 1 := ti_eq c30
            have h38 : iv 1 1 x29 := ⟨by have := (h27).1; have := ((iv_c (c := 1) (n := 1) (by decide))).1; omega, by have := (h27).2; have := ((iv_c (c := 1) (n := 1) (by decide))).2; omega⟩
            refine lv_aload_n hx hb dX5_grow_67 rfl (lv_at hl 1 rfl) ?_
            refine tw_getrk hx hb hW hown hK hS f_X5_9_5 hz_a0 hk_a0 (b := b7) k8 dX5_grow_68 ?_
            refine tw_geti hx hb hW hown hK hS f_X5_105_9 hz_b7 hk_b7 (lo := (-2147483648)) (hi := 2147483647) rfl dX5_grow_71 (fun x41 k40 h39 => ?_)
            refine lv_iconst (v := 1) hx hb dX5_grow_74 (by decide) ?_
            refine lv_icmp_ne (tgt := 87) hx hb dX5_grow_75 (by decide) (fun c42 => ?_) (fun c42 => ?_)
            · have q43 : ¬ x41.toInt = 1 := ti_ne c42
              refine lv_aload_n hx hb dX5_grow_87 rfl (lv_at hl 2 rfl) ?_
              refine lv_iload hx hb dX5_grow_88 (lv_at hl 0 rfl) ?_
              refine tw_iald hx hb hK hS hz_a1 hk_a1 (Or.inr (by decide)) hn_a1 (lo := 0) (hi := 9999) h15 ⟨by decide, by decide⟩ rg_u29 dX5_grow_90 (fun x46 k45 h44 => ?_)
              refine lv_iconst (v := 1) hx hb dX5_grow_91 (by decide) ?_
              refine tw_iadd (lo := 1) (hi := 10000) hx hb h44 (iv_c (c := 1) (n := 1) (by decide)) ⟨by decide, by decide⟩ ⟨by decide, by decide⟩ dX5_grow_92 (fun x49 e48 h47 => ?_)
              have e48 : x49.toInt = x46.toInt + 1 := e48
              refine lv_istore (lv' := [(5, .int x49), (4, .int x1), (0, .ref (base + a0)), (1, .ref (base + a1)), (2, .int a2), (3, .int a3)]) hx hb dX5_grow_93 hl (by decide) rfl (fun ls hl => ?_)
              refine lv_aload_n hx hb dX5_grow_95 rfl (lv_at hl 3 rfl) ?_
              refine lv_iload hx hb dX5_grow_96 (lv_at hl 1 rfl) ?_
              refine lv_aload_n hx hb dX5_grow_98 rfl (lv_at hl 2 rfl) ?_
              refine tw_getrk hx hb hW hown hK hS f_X5_9_5 hz_a0 hk_a0 (b := b7) k8 dX5_grow_99 ?_
              refine tw_geti hx hb hW hown hK hS f_X5_113_9 hz_b7 hk_b7 (lo := 0) (hi := 9999) rfl dX5_grow_102 (fun x52 k51 h50 => ?_)
              refine lv_iload hx hb dX5_grow_105 (lv_at hl 0 rfl) ?_
              refine va_mmin hx hb (hml.trans hl.1.symm) hown (hW _ w_4_188 rfl) (hW _ w_3_86 rfl) (hW _ w_1_13 rfl) (hW _ w_3_87 rfl) (Nat.le_of_ble_eq_true rfl) (Nat.le_of_ble_eq_true rfl) (Nat.le_of_ble_eq_true rfl) (Nat.le_of_ble_eq_true rfl) dX5_grow_107 ?_
              refine tw_mmin (lo := 0) (hi := 9999) h50 h47 (by decide) (fun x55 e54 h53 => ?_)
              refine tw_iast hx hb hK hS hz_a1 hk_a1 (Or.inr (by decide)) hn_a1 h15 ⟨by decide, by decide⟩ h53 (rg_s29 ⟨by decide, by decide⟩) (jl := 0) (jh := 1999999) ⟨by decide, by decide⟩ rfl dX5_grow_110 (fun H locs M58 hS k56 f57 => ?_)
              refine tw_iinc (lv' := fun x61 => [(4, .int x61), (5, .int x49), (0, .ref (base + a0)), (1, .ref (base + a1)), (2, .int a2), (3, .int a3)]) (lo := 1) (hi := 10) hx hb dX5_grow_111 hl (k := 1) rfl h15 (by decide) ⟨by decide, by decide⟩ ⟨by decide, by decide⟩ (by decide) (fun _ => rfl) (fun x61 ls e60 h59 hl => ?_)
              refine lv_goto (tgt := 3) hx hb dX5_grow_114 (by decide) ?_
              have hm62 : 10 - x61.toInt < (n_2 : Int) := by
                have := (h_a2).1; have := (h_a2).2; have := (h_a3).1; have := (h_a3).2; have := (h15).1; have := (h15).2; have := (h59).1; have := (h59).2; omega
              exact ih_2 x61 M58 R3 J4 H locs _ (iv_mono h59 (by decide) (by decide)) hm62 hS (lv_sub hl [0, 2, 3, 4, 5] rfl)
            · have q63 : x41.toInt = 1 := ti_eq c42
              have h64 : iv 1 1 x41 := ⟨by have := (h39).1; have := ((iv_c (c := 1) (n := 1) (by decide))).1; omega, by have := (h39).2; have := ((iv_c (c := 1) (n := 1) (by decide))).2; omega⟩
              refine lv_iconst (v := 2) hx hb dX5_grow_78 (by decide) ?_
              refine lv_aload_n hx hb dX5_grow_79 rfl (lv_at hl 2 rfl) ?_
              refine lv_iload hx hb dX5_grow_80 (lv_at hl 0 rfl) ?_
              refine tw_iald hx hb hK hS hz_a1 hk_a1 (Or.inr (by decide)) hn_a1 (lo := 0) (hi := 9999) h15 ⟨by decide, by decide⟩ rg_u29 dX5_grow_82 (fun x67 k66 h65 => ?_)
              refine tw_icmul (k := 2) (lo := 0) (hi := 19998) hx hb (by decide) h65 (by decide) ⟨by decide, by decide⟩ ⟨by decide, by decide⟩ dX5_grow_83 (fun x70 e69 h68 => ?_)
              refine lv_goto (tgt := 93) hx hb dX5_grow_84 (by decide) ?_
              refine lv_istore (lv' := [(5, .int x70), (4, .int x1), (0, .ref (base + a0)), (1, .ref (base + a1)), (2, .int a2), (3, .int a3)]) hx hb dX5_grow_93 hl (by decide) rfl (fun ls hl => ?_)
              refine lv_aload_n hx hb dX5_grow_95 rfl (lv_at hl 3 rfl) ?_
              refine lv_iload hx hb dX5_grow_96 (lv_at hl 1 rfl) ?_
              refine lv_aload_n hx hb dX5_grow_98 rfl (lv_at hl 2 rfl) ?_
              refine tw_getrk hx hb hW hown hK hS f_X5_9_5 hz_a0 hk_a0 (b := b7) k8 dX5_grow_99 ?_
              refine tw_geti hx hb hW hown hK hS f_X5_113_9 hz_b7 hk_b7 (lo := 0) (hi := 9999) rfl dX5_grow_102 (fun x73 k72 h71 => ?_)
              refine lv_iload hx hb dX5_grow_105 (lv_at hl 0 rfl) ?_
              refine va_mmin hx hb (hml.trans hl.1.symm) hown (hW _ w_4_188 rfl) (hW _ w_3_86 rfl) (hW _ w_1_13 rfl) (hW _ w_3_87 rfl) (Nat.le_of_ble_eq_true rfl) (Nat.le_of_ble_eq_true rfl) (Nat.le_of_ble_eq_true rfl) (Nat.le_of_ble_eq_true rfl) dX5_grow_107 ?_
              refine tw_mmin (lo := 0) (hi := 9999) h71 h68 (by decide) (fun x76 e75 h74 => ?_)
              refine tw_iast hx hb hK hS hz_a1 hk_a1 (Or.inr (by decide)) hn_a1 h15 ⟨by decide, by decide⟩ h74 (rg_s29 ⟨by decide, by decide⟩) (jl := 0) (jh := 1999999) ⟨by decide, by decide⟩ rfl dX5_grow_110 (fun H locs M79 hS k77 f78 => ?_)
              refine tw_iinc (lv' := fun x82 => [(4, .int x82), (5, .int x70), (0, .ref (base + a0)), (1, .ref (base + a1)), (2, .int a2), (3, .int a3)]) (lo := 1) (hi := 10) hx hb dX5_grow_111 hl (k := 1) rfl h15 (by decide) ⟨by decide, by decide⟩ ⟨by decide, by decide⟩ (by decide) (fun _ => rfl) (fun x82 ls e81 h80 hl => ?_)
              refine lv_goto (tgt := 3) hx hb dX5_grow_114 (by decide) ?_
              have hm83 : 10 - x82.toInt < (n_2 : Int) := by
                have := (h_a2).1; have := (h_a2).2; have := (h_a3).1; have := (h_a3).2; have := (h15).1; have := (h15).2; have := (h80).1; have := (h80).2; omega
              exact ih_2 x82 M79 R3 J4 H locs _ (iv_mono h80 (by decide) (by decide)) hm83 hS (lv_sub hl [0, 2, 3, 4, 5] rfl)
        · have q84 : x21.toInt = 1 := ti_eq c22
          have h85 : iv 1 1 x21 := ⟨by have := (h19).1; have := ((iv_c (c := 1) (n := 1) (by decide))).1; omega, by have := (h19).2; have := ((iv_c (c := 1) (n := 1) (by decide))).2; omega⟩
          refine lv_aload_n hx hb dX5_grow_25 rfl (lv_at hl 2 rfl) ?_
          refine lv_iload hx hb dX5_grow_26 (lv_at hl 0 rfl) ?_
          refine lv_aload_n hx hb dX5_grow_28 rfl (lv_at hl 1 rfl) ?_
          refine tw_getrk hx hb hW hown hK hS f_X5_9_5 hz_a0 hk_a0 (b := b7) k8 dX5_grow_29 ?_
          refine tw_geti hx hb hW hown hK hS f_X5_105_9 hz_b7 hk_b7 (lo := (-2147483648)) (hi := 2147483647) rfl dX5_grow_32 (fun x88 k87 h86 => ?_)
          refine lv_iconst (v := 2) hx hb dX5_grow_35 (by decide) ?_
          refine lv_icmp_ne (tgt := 52) hx hb dX5_grow_36 (by decide) (fun c89 => ?_) (fun c89 => ?_)
          · have q90 : ¬ x88.toInt = 2 := ti_ne c89
            refine lv_iconst (v := 1) hx hb dX5_grow_52 (by decide) ?_
            refine tw_iast hx hb hK hS hz_a1 hk_a1 (Or.inr (by decide)) hn_a1 h15 ⟨by decide, by decide⟩ (iv_c (c := 1) (n := 1) (by decide)) (rg_s29 ⟨by decide, by decide⟩) (jl := 0) (jh := 1999999) ⟨by decide, by decide⟩ rfl dX5_grow_53 (fun H locs M93 hS k91 f92 => ?_)
            refine lv_goto (tgt := 111) hx hb dX5_grow_54 (by decide) ?_
            refine tw_iinc (lv' := fun x96 => [(4, .int x96), (0, .ref (base + a0)), (1, .ref (base + a1)), (2, .int a2), (3, .int a3)]) (lo := 1) (hi := 10) hx hb dX5_grow_111 hl (k := 0) rfl h15 (by decide) ⟨by decide, by decide⟩ ⟨by decide, by decide⟩ (by decide) (fun _ => rfl) (fun x96 ls e95 h94 hl => ?_)
            refine lv_goto (tgt := 3) hx hb dX5_grow_114 (by decide) ?_
            have hm97 : 10 - x96.toInt < (n_2 : Int) := by
              have := (h_a2).1; have := (h_a2).2; have := (h_a3).1; have := (h_a3).2; have := (h15).1; have := (h15).2; have := (h94).1; have := (h94).2; omega
            exact ih_2 x96 M93 R3 J4 H locs _ (iv_mono h94 (by decide) (by decide)) hm97 hS hl
          · have q98 : x88.toInt = 2 := ti_eq c89
            have h99 : iv 2 2 x88 := ⟨by have := (h86).1; have := ((iv_c (c := 2) (n := 2) (by decide))).1; omega, by have := (h86).2; have := ((iv_c (c := 2) (n := 2) (by decide))).2; omega⟩
            refine lv_iconst (v := 1) hx hb dX5_grow_39 (by decide) ?_
            refine lv_aload_n hx hb dX5_grow_40 rfl (lv_at hl 2 rfl) ?_
            refine lv_iload hx hb dX5_grow_41 (lv_at hl 0 rfl) ?_
            refine tw_iald hx hb hK hS hz_a1 hk_a1 (Or.inr (by decide)) hn_a1 (lo := 0) (hi := 9999) h15 ⟨by decide, by decide⟩ rg_u29 dX5_grow_43 (fun x102 k101 h100 => ?_)
            refine lv_iconst (v := 2) hx hb dX5_grow_44 (by decide) ?_
            refine tw_idiv (lo := 0) (hi := 4999) hx hb h100 (iv_c (c := 2) (n := 2) (by decide)) ⟨by decide, by decide⟩ ⟨by decide, by decide⟩ dX5_grow_45 (fun x105 e104 h103 => ?_)
            have e104 : x105.toInt = x102.toInt / 2 := e104
            refine va_mmax hx hb (hml.trans hl.1.symm) hown (hW _ w_4_187 rfl) (hW _ w_4_75 rfl) (hW _ w_1_13 rfl) (hW _ w_4_76 rfl) (Nat.le_of_ble_eq_true rfl) (Nat.le_of_ble_eq_true rfl) (Nat.le_of_ble_eq_true rfl) (Nat.le_of_ble_eq_true rfl) dX5_grow_46 ?_
            refine tw_mmax (lo := 1) (hi := 4999) (iv_c (c := 1) (n := 1) (by decide)) h103 (by decide) (fun x108 e107 h106 => ?_)
            refine lv_goto (tgt := 53) hx hb dX5_grow_49 (by decide) ?_
            refine tw_iast hx hb hK hS hz_a1 hk_a1 (Or.inr (by decide)) hn_a1 h15 ⟨by decide, by decide⟩ h106 (rg_s29 ⟨by decide, by decide⟩) (jl := 0) (jh := 1999999) ⟨by decide, by decide⟩ rfl dX5_grow_53 (fun H locs M111 hS k109 f110 => ?_)
            refine lv_goto (tgt := 111) hx hb dX5_grow_54 (by decide) ?_
            refine tw_iinc (lv' := fun x114 => [(4, .int x114), (0, .ref (base + a0)), (1, .ref (base + a1)), (2, .int a2), (3, .int a3)]) (lo := 1) (hi := 10) hx hb dX5_grow_111 hl (k := 0) rfl h15 (by decide) ⟨by decide, by decide⟩ ⟨by decide, by decide⟩ (by decide) (fun _ => rfl) (fun x114 ls e113 h112 hl => ?_)
            refine lv_goto (tgt := 3) hx hb dX5_grow_114 (by decide) ?_
            have hm115 : 10 - x114.toInt < (n_2 : Int) := by
              have := (h_a2).1; have := (h_a2).2; have := (h_a3).1; have := (h_a3).2; have := (h15).1; have := (h15).2; have := (h112).1; have := (h112).2; omega
            exact ih_2 x114 M111 R3 J4 H locs _ (iv_mono h112 (by decide) (by decide)) hm115 hS hl
  have hm116 : 10 - (0 : Int32).toInt < (((11 : Nat) : Int) : Int) := by
    have := (h_a2).1; have := (h_a2).2; have := (h_a3).1; have := (h_a3).2; have : (0 : Int32).toInt = 0 := (by decide); omega
  exact W3_2 11 0 Ma Ra Ja s.heap [] _ (iv_mono (iv_c (c := 0) (n := 0) (by decide)) (by decide) (by decide)) hm116 hS hl
def Lt_X5_lead_1 : WL := []
def LRt_X5_lead_1 : WL := []
set_option maxRecDepth 100000 in
set_option maxHeartbeats 4000000 in
theorem t_X5_lead_1 (l : Launch) (D : va_G) (cy : Nat → ClassId) (tx : (Nat → Nat) × (Nat → Nat)) (base Z : Nat) (K N : Nat → Nat) (Ma : MT) (Ra : RT) (Ja : JT) (hTy : Ty Z K N Ma Ra) (a0 : Nat) (hz_a0 : a0 < Z) (hk_a0 : K a0 = 6) (a1 : Nat) (hz_a1 : a1 < Z) (hk_a1 : K a1 = 29) (hn_a1 : N a1 = 10) (a2 : Int32) (h_a2 : iv (-2147483648) 2147483647 a2) (a3 : Int32) (h_a3 : iv (-2147483648) 2147483647 a3) : Met l yX5_lead [Cond.code yX5_lead cX5_lead 6 (some .int)] (md_rm 1 0 0) (va_Pc [.ref (base + a0), .ref (base + a1), .int a2, .int a3] (md_U D cy tx base Z K N Ma Ra Ja)) (mQi D cy tx base (fun r u => TP Z K N Lt_X5_lead_1 LRt_X5_lead_1 Ma Ra u ∧ (iv (-2147483648) 2147483647 r))) 0 0 (fun q => base ≤ q) := by
  refine tw_ofW (L := Lt_X5_lead_1) (LR := LRt_X5_lead_1) (by decide) (Nat.le_of_ble_eq_true rfl) hTy ?_
  intro p e s m args below meth c Q ls hx hb hr hlocks hown hml hW hK hT hS hQ hl
  have hl : lv_has ls 6 [(0, .ref (base + a0)), (1, .ref (base + a1)), (2, .int a2), (3, .int a3)] := hl
  refine lv_iconst (v := 0) hx hb dX5_lead_0 (by decide) ?_
  refine lv_istore (lv' := [(4, .int 0), (0, .ref (base + a0)), (1, .ref (base + a1)), (2, .int a2), (3, .int a3)]) hx hb dX5_lead_1 hl (by decide) rfl (fun ls hl => ?_)
  refine lv_iconst (v := 0) hx hb dX5_lead_3 (by decide) ?_
  refine lv_istore (lv' := [(5, .int 0), (4, .int 0), (0, .ref (base + a0)), (1, .ref (base + a1)), (2, .int a2), (3, .int a3)]) hx hb dX5_lead_4 hl (by decide) rfl (fun ls hl => ?_)
  have W6_3 : ∀ (n_3 : Nat) (x1 : Int32) (x2 : Int32) (M3 : MT) (R4 : RT) (J5 : JT) (H : Heap) (locs : List Loc) (ls : Array Slot) (h_x1 : iv (-2147483648) 2147483647 x1) (h_x2 : iv 0 10 x2) (hm_3 : 10 - x2.toInt < (n_3 : Int)) (hS : SB D cy base Z K N Lt_X5_lead_1 LRt_X5_lead_1 Ma Ra M3 R4 J5 s H locs) (hl : lv_has ls 6 [(4, .int x1), (5, .int x2), (0, .ref (base + a0)), (1, .ref (base + a1)), (2, .int a2), (3, .int a3)]), W p l e (md_rm 1 0 0) s m args below meth c H locs 0 0 Q (F0 m 6 ls []) := by
    intro n_3
    induction n_3 with
    | zero =>
      intro x1 x2 M3 R4 J5 H locs ls h_x1 h_x2 hm_3 hS hl
      exfalso
      have := (h_a2).1; have := (h_a2).2; have := (h_a3).1; have := (h_a3).2; have := (h_x2).1; have := (h_x2).2; omega
    | succ n_3 ih_3 =>
      intro x1 x2 M3 R4 J5 H locs ls h_x1 h_x2 hm_3 hS hl
      have f6 := hS.2.2.1
      have g7 := hS.2.2.2
      refine lv_iload hx hb dX5_lead_6 (lv_at hl 1 rfl) ?_
      refine lv_aload_n hx hb dX5_lead_8 rfl (lv_at hl 2 rfl) ?_
      refine tw_getr hx hb hW hown hK hS f_X5_9_5 hz_a0 hk_a0 (t := 10) (n := 0) rfl dX5_lead_9 (fun b8 k9 hz_b8 hk_b8 hn_b8 => ?_)
      refine tw_geti hx hb hW hown hK hS f_X5_53_9 hz_b8 hk_b8 (lo := (-2147483648)) (hi := 10) rfl dX5_lead_12 (fun x12 k11 h10 => ?_)
      refine lv_icmp_ge (tgt := 65) hx hb dX5_lead_15 (by decide) (fun c13 => ?_) (fun c13 => ?_)
      · have q14 : x12.toInt ≤ x2.toInt := ti_le c13
        refine lv_iload hx hb dX5_lead_65 (lv_at hl 0 rfl) ?_
        exact tw_endi hx hb hr hlocks hK hT hS hQ (h_x1) dX5_lead_67
      · have q15 : x2.toInt < x12.toInt := ti_nle c13
        have h16 : iv 0 9 x2 := iv_ltL (y := x12) h_x2 h10 q15 (by decide)
        have h17 : iv 1 10 x12 := iv_gtL (y := x2) h10 h_x2 q15 (by decide)
        refine lv_iload_n hx hb dX5_lead_18 rfl (lv_at hl 4 rfl) ?_
        refine lv_iload hx hb dX5_lead_19 (lv_at hl 1 rfl) ?_
        refine lv_ishr hx hb dX5_lead_21 ?_
        refine tw_top (fun x19 => ?_)
        have h18 := iv_any x19
        refine lv_iconst (v := 1) hx hb dX5_lead_22 (by decide) ?_
        refine tw_iand (hi := 1) hx hb (iv_mono (iv_c (c := 1) (n := 1) (by decide)) (lo := 0) (hi := 1) (by decide) (by decide)) (by decide) dX5_lead_23 (fun x22 h20 => ?_)
        refine lv_iconst (v := 1) hx hb dX5_lead_24 (by decide) ?_
        refine lv_icmp_ne (tgt := 40) hx hb dX5_lead_25 (by decide) (fun c23 => ?_) (fun c23 => ?_)
        · have q24 : ¬ x22.toInt = 1 := ti_ne c23
          have h25 : iv 0 0 x22 := ⟨by have := (h20).1; have := ((iv_c (c := 1) (n := 1) (by decide))).1; have := ((iv_c (c := 1) (n := 1) (by decide))).2; omega, by have := (h20).2; have := ((iv_c (c := 1) (n := 1) (by decide))).1; have := ((iv_c (c := 1) (n := 1) (by decide))).2; omega⟩
          refine lv_iload_n hx hb dX5_lead_40 rfl (lv_at hl 5 rfl) ?_
          refine lv_iload hx hb dX5_lead_41 (lv_at hl 1 rfl) ?_
          refine lv_ishr hx hb dX5_lead_43 ?_
          refine tw_top (fun x27 => ?_)
          have h26 := iv_any x27
          refine lv_iconst (v := 1) hx hb dX5_lead_44 (by decide) ?_
          refine tw_iand (hi := 1) hx hb (iv_mono (iv_c (c := 1) (n := 1) (by decide)) (lo := 0) (hi := 1) (by decide) (by decide)) (by decide) dX5_lead_45 (fun x30 h28 => ?_)
          refine lv_iconst (v := 1) hx hb dX5_lead_46 (by decide) ?_
          refine lv_icmp_ne (tgt := 59) hx hb dX5_lead_47 (by decide) (fun c31 => ?_) (fun c31 => ?_)
          · have q32 : ¬ x30.toInt = 1 := ti_ne c31
            have h33 : iv 0 0 x30 := ⟨by have := (h28).1; have := ((iv_c (c := 1) (n := 1) (by decide))).1; have := ((iv_c (c := 1) (n := 1) (by decide))).2; omega, by have := (h28).2; have := ((iv_c (c := 1) (n := 1) (by decide))).1; have := ((iv_c (c := 1) (n := 1) (by decide))).2; omega⟩
            refine tw_iinc (lv' := fun x36 => [(5, .int x36), (4, .int x1), (0, .ref (base + a0)), (1, .ref (base + a1)), (2, .int a2), (3, .int a3)]) (lo := 1) (hi := 10) hx hb dX5_lead_59 hl (k := 1) rfl h16 (by decide) ⟨by decide, by decide⟩ ⟨by decide, by decide⟩ (by decide) (fun _ => rfl) (fun x36 ls e35 h34 hl => ?_)
            refine lv_goto (tgt := 6) hx hb dX5_lead_62 (by decide) ?_
            have hm37 : 10 - x36.toInt < (n_3 : Int) := by
              have := (h_a2).1; have := (h_a2).2; have := (h_a3).1; have := (h_a3).2; have := (h16).1; have := (h16).2; have := (h34).1; have := (h34).2; omega
            exact ih_3 x1 x36 M3 R4 J5 H locs _ h_x1 (iv_mono h34 (by decide) (by decide)) hm37 hS (lv_sub hl [1, 0, 2, 3, 4, 5] rfl)
          · have q38 : x30.toInt = 1 := ti_eq c31
            have h39 : iv 1 1 x30 := ⟨by have := (h28).1; have := ((iv_c (c := 1) (n := 1) (by decide))).1; omega, by have := (h28).2; have := ((iv_c (c := 1) (n := 1) (by decide))).2; omega⟩
            refine lv_iload hx hb dX5_lead_50 (lv_at hl 0 rfl) ?_
            refine lv_aload_n hx hb dX5_lead_52 rfl (lv_at hl 3 rfl) ?_
            refine lv_iload hx hb dX5_lead_53 (lv_at hl 1 rfl) ?_
            refine tw_iald hx hb hK hS hz_a1 hk_a1 (Or.inr (by decide)) hn_a1 (lo := 0) (hi := 9999) h16 ⟨by decide, by decide⟩ rg_u29 dX5_lead_55 (fun x42 k41 h40 => ?_)
            refine lv_isub hx hb dX5_lead_56 ?_
            refine tw_top (fun x44 => ?_)
            have h43 := iv_any x44
            refine lv_istore (lv' := [(4, .int x44), (5, .int x2), (0, .ref (base + a0)), (1, .ref (base + a1)), (2, .int a2), (3, .int a3)]) hx hb dX5_lead_57 hl (by decide) rfl (fun ls hl => ?_)
            refine tw_iinc (lv' := fun x47 => [(5, .int x47), (4, .int x44), (0, .ref (base + a0)), (1, .ref (base + a1)), (2, .int a2), (3, .int a3)]) (lo := 1) (hi := 10) hx hb dX5_lead_59 hl (k := 1) rfl h16 (by decide) ⟨by decide, by decide⟩ ⟨by decide, by decide⟩ (by decide) (fun _ => rfl) (fun x47 ls e46 h45 hl => ?_)
            refine lv_goto (tgt := 6) hx hb dX5_lead_62 (by decide) ?_
            have hm48 : 10 - x47.toInt < (n_3 : Int) := by
              have := (h_a2).1; have := (h_a2).2; have := (h_a3).1; have := (h_a3).2; have := (h16).1; have := (h16).2; have := (h45).1; have := (h45).2; omega
            exact ih_3 x44 x47 M3 R4 J5 H locs _ h43 (iv_mono h45 (by decide) (by decide)) hm48 hS (lv_sub hl [1, 0, 2, 3, 4, 5] rfl)
        · have q49 : x22.toInt = 1 := ti_eq c23
          have h50 : iv 1 1 x22 := ⟨by have := (h20).1; have := ((iv_c (c := 1) (n := 1) (by decide))).1; omega, by have := (h20).2; have := ((iv_c (c := 1) (n := 1) (by decide))).2; omega⟩
          refine lv_iload hx hb dX5_lead_28 (lv_at hl 0 rfl) ?_
          refine lv_aload_n hx hb dX5_lead_30 rfl (lv_at hl 3 rfl) ?_
          refine lv_iload hx hb dX5_lead_31 (lv_at hl 1 rfl) ?_
          refine tw_iald hx hb hK hS hz_a1 hk_a1 (Or.inr (by decide)) hn_a1 (lo := 0) (hi := 9999) h16 ⟨by decide, by decide⟩ rg_u29 dX5_lead_33 (fun x53 k52 h51 => ?_)
          refine lv_iadd hx hb dX5_lead_34 ?_
          refine tw_top (fun x55 => ?_)
          have h54 := iv_any x55
          refine lv_istore (lv' := [(4, .int x55), (5, .int x2), (0, .ref (base + a0)), (1, .ref (base + a1)), (2, .int a2), (3, .int a3)]) hx hb dX5_lead_35 hl (by decide) rfl (fun ls hl => ?_)
          refine lv_goto (tgt := 59) hx hb dX5_lead_37 (by decide) ?_
          refine tw_iinc (lv' := fun x58 => [(5, .int x58), (4, .int x55), (0, .ref (base + a0)), (1, .ref (base + a1)), (2, .int a2), (3, .int a3)]) (lo := 1) (hi := 10) hx hb dX5_lead_59 hl (k := 1) rfl h16 (by decide) ⟨by decide, by decide⟩ ⟨by decide, by decide⟩ (by decide) (fun _ => rfl) (fun x58 ls e57 h56 hl => ?_)
          refine lv_goto (tgt := 6) hx hb dX5_lead_62 (by decide) ?_
          have hm59 : 10 - x58.toInt < (n_3 : Int) := by
            have := (h_a2).1; have := (h_a2).2; have := (h_a3).1; have := (h_a3).2; have := (h16).1; have := (h16).2; have := (h56).1; have := (h56).2; omega
          exact ih_3 x55 x58 M3 R4 J5 H locs _ h54 (iv_mono h56 (by decide) (by decide)) hm59 hS (lv_sub hl [1, 0, 2, 3, 4, 5] rfl)
  have hm60 : 10 - (0 : Int32).toInt < (((11 : Nat) : Int) : Int) := by
    have := (h_a2).1; have := (h_a2).2; have := (h_a3).1; have := (h_a3).2; have : (0 : Int32).toInt = 0 := (by decide); omega
  exact W6_3 11 0 0 Ma Ra Ja s.heap [] _ (iv_mono (iv_c (c := 0) (n := 0) (by decide)) (by decide) (by decide)) (iv_mono (iv_c (c := 0) (n := 0) (by decide)) (by decide) (by decide)) hm60 hS (lv_sub hl [1, 0, 2, 3, 4, 5] rfl)
def Lt_X5_hold_1 : WL := [(6, 14, 15), (29, 0, 2000000)]
def LRt_X5_hold_1 : WL := []
set_option maxRecDepth 100000 in
set_option maxHeartbeats 4000000 in
theorem t_X5_hold_1 (l : Launch) (D : va_G) (cy : Nat → ClassId) (tx : (Nat → Nat) × (Nat → Nat)) (base Z : Nat) (K N : Nat → Nat) (Ma : MT) (Ra : RT) (Ja : JT) (hTy : Ty Z K N Ma Ra) (a0 : Nat) (hz_a0 : a0 < Z) (hk_a0 : K a0 = 6) (a1 : Nat) (hz_a1 : a1 < Z) (hk_a1 : K a1 = 29) (hn_a1 : N a1 = 10) (a2 : Int32) (h_a2 : iv (-2147483648) 2147483647 a2) (a3 : Int32) (h_a3 : iv (-2147483648) 2147483647 a3) : Met l yX5_hold [Cond.code yX5_hold cX5_hold 5 (some .int)] (md_rm 2 0 0) (va_Pc [.ref (base + a0), .ref (base + a1), .int a2, .int a3] (md_U D cy tx base Z K N Ma Ra Ja)) (mQi D cy tx base (fun r u => TP Z K N Lt_X5_hold_1 LRt_X5_hold_1 Ma Ra u ∧ (iv 0 2 r))) 0 0 (fun q => base ≤ q) := by
  refine tw_ofW (L := Lt_X5_hold_1) (LR := LRt_X5_hold_1) (by decide) (Nat.le_of_ble_eq_true rfl) hTy ?_
  intro p e s m args below meth c Q ls hx hb hr hlocks hown hml hW hK hT hS hQ hl
  have hl : lv_has ls 5 [(0, .ref (base + a0)), (1, .ref (base + a1)), (2, .int a2), (3, .int a3)] := hl
  refine lv_aload_n hx hb dX5_hold_0 rfl (lv_at hl 0 rfl) ?_
  refine lv_aload_n hx hb dX5_hold_1 rfl (lv_at hl 1 rfl) ?_
  refine lv_iload_n hx hb dX5_hold_2 rfl (lv_at hl 2 rfl) ?_
  refine lv_iload_n hx hb dX5_hold_3 rfl (lv_at hl 3 rfl) ?_
  refine tw_goi hS (md_runV (As := [.ref (base + a1), .int a2, .int a3]) (rest := []) hx hb hml hown hW hK hT hS.1 (t_X5_lead_1 l D cy tx base Z K N Ma Ra Ja hS.2.1 a0 hz_a0 hk_a0 a1 hz_a1 hk_a1 hn_a1 a2 h_a2 a3 h_a3) s_X5_94 ⟨rfl, rfl, ⟨Nat.le_of_ble_eq_true rfl, Nat.le_of_ble_eq_true rfl⟩, ⟨Nat.le_of_ble_eq_true rfl, Nat.le_of_ble_eq_true rfl⟩⟩ hz_a0 hk_a0 (by decide) rfl rfl hl.1 rfl (Nat.le_of_ble_eq_true rfl) dX5_hold_4) rfl rfl (fun x7 H locs M4 R5 J3 hS f1 g2 E6 => ?_)
  have eM4 := Fr.nil f1 rfl
  subst eM4
  have eR5 := Fr.nil g2 rfl
  subst eR5
  have h_x7 := E6
  clear E6
  refine lv_istore (lv' := [(4, .int x7), (0, .ref (base + a0)), (1, .ref (base + a1)), (2, .int a2), (3, .int a3)]) hx hb dX5_hold_7 hl (by decide) rfl (fun ls hl => ?_)
  refine lv_aload_n hx hb dX5_hold_9 rfl (lv_at hl 1 rfl) ?_
  refine lv_iload hx hb dX5_hold_10 (lv_at hl 0 rfl) ?_
  refine lv_if_le (tgt := 19) hx hb dX5_hold_12 (by decide) (fun c8 => ?_) (fun c8 => ?_)
  · have q9 : x7.toInt ≤ 0 := ti_le c8
    have h10 : iv (-2147483648) 0 x7 := iv_leL (y := 0) h_x7 (iv_c (c := 0) (n := 0) (by decide)) q9 (by decide)
    refine lv_iload hx hb dX5_hold_19 (lv_at hl 0 rfl) ?_
    refine lv_if_ge (tgt := 28) hx hb dX5_hold_21 (by decide) (fun c11 => ?_) (fun c11 => ?_)
    · have q12 : 0 ≤ x7.toInt := ti_le c11
      have h13 : iv 0 0 x7 := iv_geL (y := 0) h10 (iv_c (c := 0) (n := 0) (by decide)) q12 (by decide)
      refine lv_iconst (v := 0) hx hb dX5_hold_28 (by decide) ?_
      refine tw_puti hx hb hW hown hK hS f_X5_98_5 hz_a0 hk_a0 rfl rfl (lo := (-2147483648)) (hi := 2147483647) rfl (iv_mono (iv_c (c := 0) (n := 0) (by decide)) (by decide) (by decide)) rfl dX5_hold_29 (fun H locs M16 hS k14 f15 => ?_)
      refine lv_aload_n hx hb dX5_hold_32 rfl (lv_at hl 1 rfl) ?_
      refine lv_aload_n hx hb dX5_hold_33 rfl (lv_at hl 2 rfl) ?_
      refine lv_aload_n hx hb dX5_hold_34 rfl (lv_at hl 1 rfl) ?_
      refine tw_getk hx hb hW hown hK hS f_X5_98_5 hz_a0 hk_a0 (v := 0) k14 dX5_hold_35 ?_
      refine lv_iload_n hx hb dX5_hold_38 rfl (lv_at hl 3 rfl) ?_
      refine lv_iload_n hx hb dX5_hold_39 rfl (lv_at hl 4 rfl) ?_
      refine lv_ior hx hb dX5_hold_40 ?_
      refine tw_top (fun x18 => ?_)
      have h17 := iv_any x18
      refine lv_aload_n hx hb dX5_hold_41 rfl (lv_at hl 1 rfl) ?_
      refine tw_getk hx hb hW hown hK hS f_X5_98_5 hz_a0 hk_a0 (v := 0) k14 dX5_hold_42 ?_
      refine lv_iconst (v := (-1)) hx hb dX5_hold_45 (by decide) ?_
      refine lv_ixor hx hb dX5_hold_46 ?_
      refine md_top (y := (-1)) (by decide) ?_
      refine lv_iand hx hb dX5_hold_47 ?_
      refine tw_top (fun x20 => ?_)
      have h19 := iv_any x20
      refine tw_gov hS (md_runV (As := [.ref (base + a1), .int 0, .int x20]) (rest := []) hx hb hml hown hW hK hT hS.1 (t_X5_grow_1 l D cy tx base Z K N M16 Ra J3 hS.2.1 a0 hz_a0 hk_a0 a1 hz_a1 hk_a1 hn_a1 0 (iv_mono (iv_c (c := 0) (n := 0) (by decide)) (by decide) (by decide)) x20 h19) s_X5_101 ⟨rfl, rfl, ⟨Nat.le_of_ble_eq_true rfl, Nat.le_of_ble_eq_true rfl⟩, ⟨Nat.le_of_ble_eq_true rfl, Nat.le_of_ble_eq_true rfl⟩⟩ hz_a0 hk_a0 (by decide) rfl rfl hl.1 rfl (Nat.le_of_ble_eq_true rfl) dX5_hold_48) rfl rfl (fun H locs M24 R25 J23 hS f21 g22 E26 => ?_)
      have eR25 := Fr.nil g22 rfl
      subst eR25
      refine lv_iload hx hb dX5_hold_51 (lv_at hl 0 rfl) ?_
      refine lv_if_le (tgt := 60) hx hb dX5_hold_53 (by decide) (fun c27 => ?_) (fun c27 => False.elim (by have q : 0 < x7.toInt := ti_nle c27; have := (h13).1; have := (h13).2; omega))
      have q28 : x7.toInt ≤ 0 := ti_le c27
      refine lv_iload hx hb dX5_hold_60 (lv_at hl 0 rfl) ?_
      refine lv_if_ge (tgt := 69) hx hb dX5_hold_62 (by decide) (fun c29 => ?_) (fun c29 => False.elim (by have q : x7.toInt < 0 := ti_nle c29; have := (h13).1; have := (h13).2; omega))
      have q30 : 0 ≤ x7.toInt := ti_le c29
      refine lv_iconst (v := 2) hx hb dX5_hold_69 (by decide) ?_
      exact tw_endi hx hb hr hlocks hK hT hS hQ ((iv_mono (iv_c (c := 2) (n := 2) (by decide)) (by decide) (by decide))) dX5_hold_70
    · have q31 : x7.toInt < 0 := ti_nle c11
      have h32 : iv (-2147483648) (-1) x7 := iv_ltL (y := 0) h10 (iv_c (c := 0) (n := 0) (by decide)) q31 (by decide)
      refine lv_iload_n hx hb dX5_hold_24 rfl (lv_at hl 4 rfl) ?_
      refine lv_goto (tgt := 29) hx hb dX5_hold_25 (by decide) ?_
      refine tw_puti hx hb hW hown hK hS f_X5_98_5 hz_a0 hk_a0 rfl rfl (lo := (-2147483648)) (hi := 2147483647) rfl h_a3 rfl dX5_hold_29 (fun H locs M35 hS k33 f34 => ?_)
      refine lv_aload_n hx hb dX5_hold_32 rfl (lv_at hl 1 rfl) ?_
      refine lv_aload_n hx hb dX5_hold_33 rfl (lv_at hl 2 rfl) ?_
      refine lv_aload_n hx hb dX5_hold_34 rfl (lv_at hl 1 rfl) ?_
      refine tw_getk hx hb hW hown hK hS f_X5_98_5 hz_a0 hk_a0 (v := a3) k33 dX5_hold_35 ?_
      refine lv_iload_n hx hb dX5_hold_38 rfl (lv_at hl 3 rfl) ?_
      refine lv_iload_n hx hb dX5_hold_39 rfl (lv_at hl 4 rfl) ?_
      refine lv_ior hx hb dX5_hold_40 ?_
      refine tw_top (fun x37 => ?_)
      have h36 := iv_any x37
      refine lv_aload_n hx hb dX5_hold_41 rfl (lv_at hl 1 rfl) ?_
      refine tw_getk hx hb hW hown hK hS f_X5_98_5 hz_a0 hk_a0 (v := a3) k33 dX5_hold_42 ?_
      refine lv_iconst (v := (-1)) hx hb dX5_hold_45 (by decide) ?_
      refine lv_ixor hx hb dX5_hold_46 ?_
      refine tw_top (fun x39 => ?_)
      have h38 := iv_any x39
      refine lv_iand hx hb dX5_hold_47 ?_
      refine tw_top (fun x41 => ?_)
      have h40 := iv_any x41
      refine tw_gov hS (md_runV (As := [.ref (base + a1), .int a3, .int x41]) (rest := []) hx hb hml hown hW hK hT hS.1 (t_X5_grow_1 l D cy tx base Z K N M35 Ra J3 hS.2.1 a0 hz_a0 hk_a0 a1 hz_a1 hk_a1 hn_a1 a3 h_a3 x41 h40) s_X5_101 ⟨rfl, rfl, ⟨Nat.le_of_ble_eq_true rfl, Nat.le_of_ble_eq_true rfl⟩, ⟨Nat.le_of_ble_eq_true rfl, Nat.le_of_ble_eq_true rfl⟩⟩ hz_a0 hk_a0 (by decide) rfl rfl hl.1 rfl (Nat.le_of_ble_eq_true rfl) dX5_hold_48) rfl rfl (fun H locs M45 R46 J44 hS f42 g43 E47 => ?_)
      have eR46 := Fr.nil g43 rfl
      subst eR46
      refine lv_iload hx hb dX5_hold_51 (lv_at hl 0 rfl) ?_
      refine lv_if_le (tgt := 60) hx hb dX5_hold_53 (by decide) (fun c48 => ?_) (fun c48 => False.elim (by have q : 0 < x7.toInt := ti_nle c48; have := (h32).1; have := (h32).2; omega))
      have q49 : x7.toInt ≤ 0 := ti_le c48
      refine lv_iload hx hb dX5_hold_60 (lv_at hl 0 rfl) ?_
      refine lv_if_ge (tgt := 69) hx hb dX5_hold_62 (by decide) (fun c50 => False.elim (by have q : 0 ≤ x7.toInt := ti_le c50; have := (h32).1; have := (h32).2; omega)) (fun c50 => ?_)
      have q51 : x7.toInt < 0 := ti_nle c50
      refine lv_iconst (v := 0) hx hb dX5_hold_65 (by decide) ?_
      refine lv_goto (tgt := 70) hx hb dX5_hold_66 (by decide) ?_
      exact tw_endi hx hb hr hlocks hK hT hS hQ ((iv_mono (iv_c (c := 0) (n := 0) (by decide)) (by decide) (by decide))) dX5_hold_70
  · have q52 : 0 < x7.toInt := ti_nle c8
    have h53 : iv 1 2147483647 x7 := iv_gtL (y := 0) h_x7 (iv_c (c := 0) (n := 0) (by decide)) q52 (by decide)
    refine lv_iload_n hx hb dX5_hold_15 rfl (lv_at hl 3 rfl) ?_
    refine lv_goto (tgt := 29) hx hb dX5_hold_16 (by decide) ?_
    refine tw_puti hx hb hW hown hK hS f_X5_98_5 hz_a0 hk_a0 rfl rfl (lo := (-2147483648)) (hi := 2147483647) rfl h_a2 rfl dX5_hold_29 (fun H locs M56 hS k54 f55 => ?_)
    refine lv_aload_n hx hb dX5_hold_32 rfl (lv_at hl 1 rfl) ?_
    refine lv_aload_n hx hb dX5_hold_33 rfl (lv_at hl 2 rfl) ?_
    refine lv_aload_n hx hb dX5_hold_34 rfl (lv_at hl 1 rfl) ?_
    refine tw_getk hx hb hW hown hK hS f_X5_98_5 hz_a0 hk_a0 (v := a2) k54 dX5_hold_35 ?_
    refine lv_iload_n hx hb dX5_hold_38 rfl (lv_at hl 3 rfl) ?_
    refine lv_iload_n hx hb dX5_hold_39 rfl (lv_at hl 4 rfl) ?_
    refine lv_ior hx hb dX5_hold_40 ?_
    refine tw_top (fun x58 => ?_)
    have h57 := iv_any x58
    refine lv_aload_n hx hb dX5_hold_41 rfl (lv_at hl 1 rfl) ?_
    refine tw_getk hx hb hW hown hK hS f_X5_98_5 hz_a0 hk_a0 (v := a2) k54 dX5_hold_42 ?_
    refine lv_iconst (v := (-1)) hx hb dX5_hold_45 (by decide) ?_
    refine lv_ixor hx hb dX5_hold_46 ?_
    refine tw_top (fun x60 => ?_)
    have h59 := iv_any x60
    refine lv_iand hx hb dX5_hold_47 ?_
    refine tw_top (fun x62 => ?_)
    have h61 := iv_any x62
    refine tw_gov hS (md_runV (As := [.ref (base + a1), .int a2, .int x62]) (rest := []) hx hb hml hown hW hK hT hS.1 (t_X5_grow_1 l D cy tx base Z K N M56 Ra J3 hS.2.1 a0 hz_a0 hk_a0 a1 hz_a1 hk_a1 hn_a1 a2 h_a2 x62 h61) s_X5_101 ⟨rfl, rfl, ⟨Nat.le_of_ble_eq_true rfl, Nat.le_of_ble_eq_true rfl⟩, ⟨Nat.le_of_ble_eq_true rfl, Nat.le_of_ble_eq_true rfl⟩⟩ hz_a0 hk_a0 (by decide) rfl rfl hl.1 rfl (Nat.le_of_ble_eq_true rfl) dX5_hold_48) rfl rfl (fun H locs M66 R67 J65 hS f63 g64 E68 => ?_)
    have eR67 := Fr.nil g64 rfl
    subst eR67
    refine lv_iload hx hb dX5_hold_51 (lv_at hl 0 rfl) ?_
    refine lv_if_le (tgt := 60) hx hb dX5_hold_53 (by decide) (fun c69 => False.elim (by have q : x7.toInt ≤ 0 := ti_le c69; have := (h53).1; have := (h53).2; omega)) (fun c69 => ?_)
    have q70 : 0 < x7.toInt := ti_nle c69
    refine lv_iconst (v := 1) hx hb dX5_hold_56 (by decide) ?_
    refine lv_goto (tgt := 70) hx hb dX5_hold_57 (by decide) ?_
    exact tw_endi hx hb hr hlocks hK hT hS hQ ((iv_mono (iv_c (c := 1) (n := 1) (by decide)) (by decide) (by decide))) dX5_hold_70
def Lt_X9_sumOf_1 : WL := []
def LRt_X9_sumOf_1 : WL := []
set_option maxRecDepth 100000 in
set_option maxHeartbeats 4000000 in
theorem t_X9_sumOf_1 (l : Launch) (D : va_G) (cy : Nat → ClassId) (tx : (Nat → Nat) × (Nat → Nat)) (base Z : Nat) (K N : Nat → Nat) (Ma : MT) (Ra : RT) (Ja : JT) (hTy : Ty Z K N Ma Ra) (a0 : Nat) (hz_a0 : a0 < Z) (hk_a0 : K a0 = 10) (a1 : Nat) (hz_a1 : a1 < Z) (hk_a1 : K a1 = 29) (hn_a1 : N a1 = 10) (a2 : Int32) (h_a2 : iv (-2147483648) 2147483647 a2) : Met l yX9_sumOf [Cond.code yX9_sumOf cX9_sumOf 5 (some .int)] (md_rm 1 0 0) (va_Pc [.ref (base + a0), .ref (base + a1), .int a2] (md_U D cy tx base Z K N Ma Ra Ja)) (mQi D cy tx base (fun r u => TP Z K N Lt_X9_sumOf_1 LRt_X9_sumOf_1 Ma Ra u ∧ (iv (-2147483648) 2147483647 r))) 0 0 (fun q => base ≤ q) := by
  refine tw_ofW (L := Lt_X9_sumOf_1) (LR := LRt_X9_sumOf_1) (by decide) (Nat.le_of_ble_eq_true rfl) hTy ?_
  intro p e s m args below meth c Q ls hx hb hr hlocks hown hml hW hK hT hS hQ hl
  have hl : lv_has ls 5 [(0, .ref (base + a0)), (1, .ref (base + a1)), (2, .int a2)] := hl
  refine lv_iconst (v := 0) hx hb dX9_sumOf_0 (by decide) ?_
  refine lv_istore_n (lv' := [(3, .int 0), (0, .ref (base + a0)), (1, .ref (base + a1)), (2, .int a2)]) hx hb dX9_sumOf_1 rfl hl (by decide) rfl (fun ls hl => ?_)
  refine lv_iconst (v := 0) hx hb dX9_sumOf_2 (by decide) ?_
  refine lv_istore (lv' := [(4, .int 0), (3, .int 0), (0, .ref (base + a0)), (1, .ref (base + a1)), (2, .int a2)]) hx hb dX9_sumOf_3 hl (by decide) rfl (fun ls hl => ?_)
  have W5_3 : ∀ (n_3 : Nat) (x1 : Int32) (x2 : Int32) (M3 : MT) (R4 : RT) (J5 : JT) (H : Heap) (locs : List Loc) (ls : Array Slot) (h_x1 : iv (-2147483648) 2147483647 x1) (h_x2 : iv 0 10 x2) (hm_3 : 10 - x2.toInt < (n_3 : Int)) (hS : SB D cy base Z K N Lt_X9_sumOf_1 LRt_X9_sumOf_1 Ma Ra M3 R4 J5 s H locs) (hl : lv_has ls 5 [(3, .int x1), (4, .int x2), (0, .ref (base + a0)), (1, .ref (base + a1)), (2, .int a2)]), W p l e (md_rm 1 0 0) s m args below meth c H locs 0 0 Q (F0 m 5 ls []) := by
    intro n_3
    induction n_3 with
    | zero =>
      intro x1 x2 M3 R4 J5 H locs ls h_x1 h_x2 hm_3 hS hl
      exfalso
      have := (h_a2).1; have := (h_a2).2; have := (h_x2).1; have := (h_x2).2; omega
    | succ n_3 ih_3 =>
      intro x1 x2 M3 R4 J5 H locs ls h_x1 h_x2 hm_3 hS hl
      have f6 := hS.2.2.1
      have g7 := hS.2.2.2
      refine lv_iload hx hb dX9_sumOf_5 (lv_at hl 1 rfl) ?_
      refine lv_aload_n hx hb dX9_sumOf_7 rfl (lv_at hl 2 rfl) ?_
      refine tw_geti hx hb hW hown hK hS f_X9_33_9 hz_a0 hk_a0 (lo := (-2147483648)) (hi := 10) rfl dX9_sumOf_8 (fun x10 k9 h8 => ?_)
      refine lv_icmp_ge (tgt := 37) hx hb dX9_sumOf_11 (by decide) (fun c11 => ?_) (fun c11 => ?_)
      · have q12 : x10.toInt ≤ x2.toInt := ti_le c11
        refine lv_iload_n hx hb dX9_sumOf_37 rfl (lv_at hl 0 rfl) ?_
        exact tw_endi hx hb hr hlocks hK hT hS hQ (h_x1) dX9_sumOf_38
      · have q13 : x2.toInt < x10.toInt := ti_nle c11
        have h14 : iv 0 9 x2 := iv_ltL (y := x10) h_x2 h8 q13 (by decide)
        have h15 : iv 1 10 x10 := iv_gtL (y := x2) h8 h_x2 q13 (by decide)
        refine lv_iload_n hx hb dX9_sumOf_14 rfl (lv_at hl 4 rfl) ?_
        refine lv_iload hx hb dX9_sumOf_15 (lv_at hl 1 rfl) ?_
        refine lv_ishr hx hb dX9_sumOf_17 ?_
        refine tw_top (fun x17 => ?_)
        have h16 := iv_any x17
        refine lv_iconst (v := 1) hx hb dX9_sumOf_18 (by decide) ?_
        refine tw_iand (hi := 1) hx hb (iv_mono (iv_c (c := 1) (n := 1) (by decide)) (lo := 0) (hi := 1) (by decide) (by decide)) (by decide) dX9_sumOf_19 (fun x20 h18 => ?_)
        refine lv_iconst (v := 1) hx hb dX9_sumOf_20 (by decide) ?_
        refine lv_icmp_ne (tgt := 31) hx hb dX9_sumOf_21 (by decide) (fun c21 => ?_) (fun c21 => ?_)
        · have q22 : ¬ x20.toInt = 1 := ti_ne c21
          have h23 : iv 0 0 x20 := ⟨by have := (h18).1; have := ((iv_c (c := 1) (n := 1) (by decide))).1; have := ((iv_c (c := 1) (n := 1) (by decide))).2; omega, by have := (h18).2; have := ((iv_c (c := 1) (n := 1) (by decide))).1; have := ((iv_c (c := 1) (n := 1) (by decide))).2; omega⟩
          refine tw_iinc (lv' := fun x26 => [(4, .int x26), (3, .int x1), (0, .ref (base + a0)), (1, .ref (base + a1)), (2, .int a2)]) (lo := 1) (hi := 10) hx hb dX9_sumOf_31 hl (k := 1) rfl h14 (by decide) ⟨by decide, by decide⟩ ⟨by decide, by decide⟩ (by decide) (fun _ => rfl) (fun x26 ls e25 h24 hl => ?_)
          refine lv_goto (tgt := 5) hx hb dX9_sumOf_34 (by decide) ?_
          have hm27 : 10 - x26.toInt < (n_3 : Int) := by
            have := (h_a2).1; have := (h_a2).2; have := (h14).1; have := (h14).2; have := (h24).1; have := (h24).2; omega
          exact ih_3 x1 x26 M3 R4 J5 H locs _ h_x1 (iv_mono h24 (by decide) (by decide)) hm27 hS (lv_sub hl [1, 0, 2, 3, 4] rfl)
        · have q28 : x20.toInt = 1 := ti_eq c21
          have h29 : iv 1 1 x20 := ⟨by have := (h18).1; have := ((iv_c (c := 1) (n := 1) (by decide))).1; omega, by have := (h18).2; have := ((iv_c (c := 1) (n := 1) (by decide))).2; omega⟩
          refine lv_iload_n hx hb dX9_sumOf_24 rfl (lv_at hl 0 rfl) ?_
          refine lv_aload_n hx hb dX9_sumOf_25 rfl (lv_at hl 3 rfl) ?_
          refine lv_iload hx hb dX9_sumOf_26 (lv_at hl 1 rfl) ?_
          refine tw_iald hx hb hK hS hz_a1 hk_a1 (Or.inr (by decide)) hn_a1 (lo := 0) (hi := 9999) h14 ⟨by decide, by decide⟩ rg_u29 dX9_sumOf_28 (fun x32 k31 h30 => ?_)
          refine lv_iadd hx hb dX9_sumOf_29 ?_
          refine tw_top (fun x34 => ?_)
          have h33 := iv_any x34
          refine lv_istore_n (lv' := [(3, .int x34), (4, .int x2), (0, .ref (base + a0)), (1, .ref (base + a1)), (2, .int a2)]) hx hb dX9_sumOf_30 rfl hl (by decide) rfl (fun ls hl => ?_)
          refine tw_iinc (lv' := fun x37 => [(4, .int x37), (3, .int x34), (0, .ref (base + a0)), (1, .ref (base + a1)), (2, .int a2)]) (lo := 1) (hi := 10) hx hb dX9_sumOf_31 hl (k := 1) rfl h14 (by decide) ⟨by decide, by decide⟩ ⟨by decide, by decide⟩ (by decide) (fun _ => rfl) (fun x37 ls e36 h35 hl => ?_)
          refine lv_goto (tgt := 5) hx hb dX9_sumOf_34 (by decide) ?_
          have hm38 : 10 - x37.toInt < (n_3 : Int) := by
            have := (h_a2).1; have := (h_a2).2; have := (h14).1; have := (h14).2; have := (h35).1; have := (h35).2; omega
          exact ih_3 x34 x37 M3 R4 J5 H locs _ h33 (iv_mono h35 (by decide) (by decide)) hm38 hS (lv_sub hl [1, 0, 2, 3, 4] rfl)
  have hm39 : 10 - (0 : Int32).toInt < (((11 : Nat) : Int) : Int) := by
    have := (h_a2).1; have := (h_a2).2; have : (0 : Int32).toInt = 0 := (by decide); omega
  exact W5_3 11 0 0 Ma Ra Ja s.heap [] _ (iv_mono (iv_c (c := 0) (n := 0) (by decide)) (by decide) (by decide)) (iv_mono (iv_c (c := 0) (n := 0) (by decide)) (by decide) (by decide)) hm39 hS (lv_sub hl [1, 0, 2, 3, 4] rfl)
def Lt_X0_holdAll : WL := [(6, 14, 15), (29, 0, 2000000)]
def LRt_X0_holdAll : WL := []
set_option maxRecDepth 100000 in
set_option maxHeartbeats 4000000 in
theorem t_X0_holdAll (l : Launch) (D : va_G) (cy : Nat → ClassId) (tx : (Nat → Nat) × (Nat → Nat)) (base Z : Nat) (K N : Nat → Nat) (Ma : MT) (Ra : RT) (Ja : JT) (hTy : Ty Z K N Ma Ra) (a0 : Nat) (hz_a0 : a0 < Z) (hk_a0 : K a0 = 1) : Met l yX0_holdAll [Cond.code yX0_holdAll cX0_holdAll 8 (some .boolean)] (md_rm 3 0 0) (va_Pc [.ref (base + a0)] (md_U D cy tx base Z K N Ma Ra Ja)) (mQi D cy tx base (fun r u => TP Z K N Lt_X0_holdAll LRt_X0_holdAll Ma Ra u ∧ (iv 0 1 r))) 0 0 (fun q => base ≤ q) := by
  refine tw_ofW (L := Lt_X0_holdAll) (LR := LRt_X0_holdAll) (by decide) (Nat.le_of_ble_eq_true rfl) hTy ?_
  intro p e s m args below meth c Q ls hx hb hr hlocks hown hml hW hK hT hS hQ hl
  have hl : lv_has ls 8 [(0, .ref (base + a0))] := hl
  refine lv_aload_n hx hb dX0_holdAll_0 rfl (lv_at hl 0 rfl) ?_
  refine tw_getr hx hb hW hown hK hS f_X0_9_0 hz_a0 hk_a0 (t := 37) (n := 10) rfl dX0_holdAll_1 (fun b1 k2 hz_b1 hk_b1 hn_b1 => ?_)
  have hn_b1 := hn_b1 (by decide)
  refine lv_iconst (v := 0) hx hb dX0_holdAll_4 (by decide) ?_
  refine lv_aload_n hx hb dX0_holdAll_5 rfl (lv_at hl 0 rfl) ?_
  refine tw_getr hx hb hW hown hK hS f_X0_15_0 hz_a0 hk_a0 (t := 29) (n := 10) rfl dX0_holdAll_6 (fun b3 k4 hz_b3 hk_b3 hn_b3 => ?_)
  have hn_b3 := hn_b3 (by decide)
  refine lv_iconst (v := 0) hx hb dX0_holdAll_9 (by decide) ?_
  refine lv_bipush (v := 10) hx hb dX0_holdAll_10 (by decide) ?_
  refine tw_copy hx hb (hml.trans hl.1.symm) hW hown hK hS (md_okc w_5_202 rfl (md_okc w_3_226 rfl (md_okc w_3_225 rfl (md_okc w_1_18 rfl (md_ok0))))) hz_b3 hk_b3 (Or.inr (by decide)) hz_b1 hk_b1 (Or.inr (by decide)) hn_b3 hn_b1 (by have := ((iv_c (c := 10) (n := 10) (by decide))).1; have := ((iv_c (c := 10) (n := 10) (by decide))).2; have := ((iv_c (c := 0) (n := 0) (by decide))).1; have := ((iv_c (c := 0) (n := 0) (by decide))).2; have := ((iv_c (c := 0) (n := 0) (by decide))).1; have := ((iv_c (c := 0) (n := 0) (by decide))).2; omega) (by have := ((iv_c (c := 10) (n := 10) (by decide))).1; have := ((iv_c (c := 10) (n := 10) (by decide))).2; have := ((iv_c (c := 0) (n := 0) (by decide))).1; have := ((iv_c (c := 0) (n := 0) (by decide))).2; have := ((iv_c (c := 0) (n := 0) (by decide))).1; have := ((iv_c (c := 0) (n := 0) (by decide))).2; omega) (by have := ((iv_c (c := 10) (n := 10) (by decide))).1; have := ((iv_c (c := 10) (n := 10) (by decide))).2; have := ((iv_c (c := 0) (n := 0) (by decide))).1; have := ((iv_c (c := 0) (n := 0) (by decide))).2; have := ((iv_c (c := 0) (n := 0) (by decide))).1; have := ((iv_c (c := 0) (n := 0) (by decide))).2; omega) (by have := ((iv_c (c := 10) (n := 10) (by decide))).1; have := ((iv_c (c := 10) (n := 10) (by decide))).2; have := ((iv_c (c := 0) (n := 0) (by decide))).1; have := ((iv_c (c := 0) (n := 0) (by decide))).2; have := ((iv_c (c := 0) (n := 0) (by decide))).1; have := ((iv_c (c := 0) (n := 0) (by decide))).2; omega) (by have := ((iv_c (c := 10) (n := 10) (by decide))).1; have := ((iv_c (c := 10) (n := 10) (by decide))).2; have := ((iv_c (c := 0) (n := 0) (by decide))).1; have := ((iv_c (c := 0) (n := 0) (by decide))).2; have := ((iv_c (c := 0) (n := 0) (by decide))).1; have := ((iv_c (c := 0) (n := 0) (by decide))).2; omega) (fun _ _ => ⟨by show (0 : Int) ≤ 0; decide, by show (9999 : Int) ≤ 9999; decide⟩) (Nat.le_of_ble_eq_true rfl) (Nat.le_of_ble_eq_true rfl) rfl dX0_holdAll_12 (fun H locs M7 hS f5 k6 => ?_)
  refine lv_iconst (v := 1) hx hb dX0_holdAll_15 (by decide) ?_
  refine lv_istore_n (lv' := [(1, .int 1), (0, .ref (base + a0))]) hx hb dX0_holdAll_16 rfl hl (by decide) rfl (fun ls hl => ?_)
  refine lv_iconst (v := 0) hx hb dX0_holdAll_17 (by decide) ?_
  refine lv_istore_n (lv' := [(2, .int 0), (1, .int 1), (0, .ref (base + a0))]) hx hb dX0_holdAll_18 rfl hl (by decide) rfl (fun ls hl => ?_)
  have W19_10 : ∀ (n_10 : Nat) (x8 : Int32) (x9 : Int32) (M10 : MT) (R11 : RT) (J12 : JT) (H : Heap) (locs : List Loc) (ls : Array Slot) (h_x8 : iv 0 1 x8) (h_x9 : iv 0 12 x9) (hm_10 : 12 - x9.toInt < (n_10 : Int)) (hS : SB D cy base Z K N Lt_X0_holdAll LRt_X0_holdAll Ma Ra M10 R11 J12 s H locs) (hl : lv_has ls 8 [(1, .int x8), (2, .int x9), (0, .ref (base + a0))]), W p l e (md_rm 3 0 0) s m args below meth c H locs 0 0 Q (F0 m 19 ls []) := by
    intro n_10
    induction n_10 with
    | zero =>
      intro x8 x9 M10 R11 J12 H locs ls h_x8 h_x9 hm_10 hS hl
      exfalso
      have := (h_x9).1; have := (h_x9).2; omega
    | succ n_10 ih_10 =>
      intro x8 x9 M10 R11 J12 H locs ls h_x8 h_x9 hm_10 hS hl
      have f13 := hS.2.2.1
      have g14 := hS.2.2.2
      refine lv_iload_n hx hb dX0_holdAll_19 rfl (lv_at hl 1 rfl) ?_
      refine lv_aload_n hx hb dX0_holdAll_20 rfl (lv_at hl 2 rfl) ?_
      refine tw_getr hx hb hW hown hK hS f_X0_33_0 hz_a0 hk_a0 (t := 10) (n := 0) rfl dX0_holdAll_21 (fun b15 k16 hz_b15 hk_b15 hn_b15 => ?_)
      refine tw_geti hx hb hW hown hK hS f_X0_73_9 hz_b15 hk_b15 (lo := 0) (hi := 12) rfl dX0_holdAll_24 (fun x19 k18 h17 => ?_)
      refine lv_icmp_ge (tgt := 156) hx hb dX0_holdAll_27 (by decide) (fun c20 => ?_) (fun c20 => ?_)
      · have q21 : x19.toInt ≤ x9.toInt := ti_le c20
        refine lv_iload_n hx hb dX0_holdAll_156 rfl (lv_at hl 0 rfl) ?_
        exact tw_endz hx hb hr hlocks hK hT hS hQ (nar_b h_x8) (h_x8) dX0_holdAll_157
      · have q22 : x9.toInt < x19.toInt := ti_nle c20
        have h23 : iv 0 11 x9 := iv_ltL (y := x19) h_x9 h17 q22 (by decide)
        have h24 : iv 1 12 x19 := iv_gtL (y := x9) h17 h_x9 q22 (by decide)
        refine lv_iload_n hx hb dX0_holdAll_30 rfl (lv_at hl 0 rfl) ?_
        refine lv_if_eq (tgt := 156) hx hb dX0_holdAll_31 (by decide) (fun c25 => ?_) (fun c25 => ?_)
        · have q26 : x8.toInt = 0 := ti_eq c25
          have h27 : iv 0 0 x8 := ⟨by have := (h_x8).1; have := ((iv_c (c := 0) (n := 0) (by decide))).1; omega, by have := (h_x8).2; have := ((iv_c (c := 0) (n := 0) (by decide))).2; omega⟩
          refine lv_iload_n hx hb dX0_holdAll_156 rfl (lv_at hl 0 rfl) ?_
          exact tw_endz hx hb hr hlocks hK hT hS hQ (nar_b (iv_mono h27 (by decide) (by decide))) ((iv_mono h27 (by decide) (by decide))) dX0_holdAll_157
        · have q28 : ¬ x8.toInt = 0 := ti_ne c25
          have h29 : iv 1 1 x8 := ⟨by have := (h_x8).1; have := ((iv_c (c := 0) (n := 0) (by decide))).1; have := ((iv_c (c := 0) (n := 0) (by decide))).2; omega, by have := (h_x8).2; have := ((iv_c (c := 0) (n := 0) (by decide))).1; have := ((iv_c (c := 0) (n := 0) (by decide))).2; omega⟩
          refine lv_iload_n hx hb dX0_holdAll_34 rfl (lv_at hl 1 rfl) ?_
          refine lv_iconst (v := 4) hx hb dX0_holdAll_35 (by decide) ?_
          refine tw_imulc (k := 4) (lo := 0) (hi := 44) hx hb h23 (by decide) (by decide) ⟨by decide, by decide⟩ ⟨by decide, by decide⟩ dX0_holdAll_36 (fun x32 e31 h30 => ?_)
          refine lv_istore_n (lv' := [(3, .int x32), (1, .int x8), (2, .int x9), (0, .ref (base + a0))]) hx hb dX0_holdAll_37 rfl hl (by decide) rfl (fun ls hl => ?_)
          refine lv_aload_n hx hb dX0_holdAll_38 rfl (lv_at hl 3 rfl) ?_
          refine tw_getrk hx hb hW hown hK hS f_X0_33_0 hz_a0 hk_a0 (b := b15) k16 dX0_holdAll_39 ?_
          refine tw_getr hx hb hW hown hK hS f_X0_76_9 hz_b15 hk_b15 (t := 14) (n := 48) rfl dX0_holdAll_42 (fun b33 k34 hz_b33 hk_b33 hn_b33 => ?_)
          have hn_b33 := hn_b33 (by decide)
          refine lv_iload_n hx hb dX0_holdAll_45 rfl (lv_at hl 0 rfl) ?_
          refine tw_iald hx hb hK hS hz_b33 hk_b33 (Or.inl rfl) hn_b33 (lo := (-2147483648)) (hi := 2147483647) h30 ⟨by decide, by decide⟩ rg_u14 dX0_holdAll_46 (fun x37 k36 h35 => ?_)
          refine lv_istore (lv' := [(4, .int x37), (3, .int x32), (1, .int x8), (2, .int x9), (0, .ref (base + a0))]) hx hb dX0_holdAll_47 hl (by decide) rfl (fun ls hl => ?_)
          refine lv_aload_n hx hb dX0_holdAll_49 rfl (lv_at hl 4 rfl) ?_
          refine tw_getrk hx hb hW hown hK hS f_X0_33_0 hz_a0 hk_a0 (b := b15) k16 dX0_holdAll_50 ?_
          refine tw_getrk hx hb hW hown hK hS f_X0_76_9 hz_b15 hk_b15 (b := b33) k34 dX0_holdAll_53 ?_
          refine lv_iload_n hx hb dX0_holdAll_56 rfl (lv_at hl 1 rfl) ?_
          refine lv_iconst (v := 1) hx hb dX0_holdAll_57 (by decide) ?_
          refine tw_iadd (lo := 1) (hi := 45) hx hb h30 (iv_c (c := 1) (n := 1) (by decide)) ⟨by decide, by decide⟩ ⟨by decide, by decide⟩ dX0_holdAll_58 (fun x40 e39 h38 => ?_)
          have e39 : x40.toInt = x32.toInt + 1 := e39
          refine tw_iald hx hb hK hS hz_b33 hk_b33 (Or.inl rfl) hn_b33 (lo := (-2147483648)) (hi := 2147483647) h38 ⟨by decide, by decide⟩ rg_u14 dX0_holdAll_59 (fun x43 k42 h41 => ?_)
          refine lv_istore (lv' := [(5, .int x43), (4, .int x37), (3, .int x32), (1, .int x8), (2, .int x9), (0, .ref (base + a0))]) hx hb dX0_holdAll_60 hl (by decide) rfl (fun ls hl => ?_)
          refine lv_aload_n hx hb dX0_holdAll_62 rfl (lv_at hl 5 rfl) ?_
          refine tw_getrk hx hb hW hown hK hS f_X0_33_0 hz_a0 hk_a0 (b := b15) k16 dX0_holdAll_63 ?_
          refine tw_getrk hx hb hW hown hK hS f_X0_76_9 hz_b15 hk_b15 (b := b33) k34 dX0_holdAll_66 ?_
          refine lv_iload_n hx hb dX0_holdAll_69 rfl (lv_at hl 2 rfl) ?_
          refine lv_iconst (v := 2) hx hb dX0_holdAll_70 (by decide) ?_
          refine tw_iadd (lo := 2) (hi := 46) hx hb h30 (iv_c (c := 2) (n := 2) (by decide)) ⟨by decide, by decide⟩ ⟨by decide, by decide⟩ dX0_holdAll_71 (fun x46 e45 h44 => ?_)
          have e45 : x46.toInt = x32.toInt + 2 := e45
          refine tw_iald hx hb hK hS hz_b33 hk_b33 (Or.inl rfl) hn_b33 (lo := (-2147483648)) (hi := 2147483647) h44 ⟨by decide, by decide⟩ rg_u14 dX0_holdAll_72 (fun x49 k48 h47 => ?_)
          refine lv_istore (lv' := [(6, .int x49), (5, .int x43), (4, .int x37), (3, .int x32), (1, .int x8), (2, .int x9), (0, .ref (base + a0))]) hx hb dX0_holdAll_73 hl (by decide) rfl (fun ls hl => ?_)
          refine lv_aload_n hx hb dX0_holdAll_75 rfl (lv_at hl 6 rfl) ?_
          refine tw_getrk hx hb hW hown hK hS f_X0_33_0 hz_a0 hk_a0 (b := b15) k16 dX0_holdAll_76 ?_
          refine tw_getrk hx hb hW hown hK hS f_X0_76_9 hz_b15 hk_b15 (b := b33) k34 dX0_holdAll_79 ?_
          refine lv_iload_n hx hb dX0_holdAll_82 rfl (lv_at hl 3 rfl) ?_
          refine lv_iconst (v := 3) hx hb dX0_holdAll_83 (by decide) ?_
          refine tw_iadd (lo := 3) (hi := 47) hx hb h30 (iv_c (c := 3) (n := 3) (by decide)) ⟨by decide, by decide⟩ ⟨by decide, by decide⟩ dX0_holdAll_84 (fun x52 e51 h50 => ?_)
          have e51 : x52.toInt = x32.toInt + 3 := e51
          refine tw_iald hx hb hK hS hz_b33 hk_b33 (Or.inl rfl) hn_b33 (lo := (-2147483648)) (hi := 2147483647) h50 ⟨by decide, by decide⟩ rg_u14 dX0_holdAll_85 (fun x55 k54 h53 => ?_)
          refine lv_istore (lv' := [(7, .int x55), (6, .int x49), (5, .int x43), (4, .int x37), (3, .int x32), (1, .int x8), (2, .int x9), (0, .ref (base + a0))]) hx hb dX0_holdAll_86 hl (by decide) rfl (fun ls hl => ?_)
          refine lv_aload_n hx hb dX0_holdAll_88 rfl (lv_at hl 7 rfl) ?_
          refine tw_getrk hx hb hW hown hK hS f_X0_33_0 hz_a0 hk_a0 (b := b15) k16 dX0_holdAll_89 ?_
          refine lv_aload_n hx hb dX0_holdAll_92 rfl (lv_at hl 7 rfl) ?_
          have k56 : R11 a0 3 = some b3 := (Fr.kp (k := 3) g14 hk_a0 rfl).trans k4
          refine tw_getrk hx hb hW hown hK hS f_X0_15_0 hz_a0 hk_a0 (b := b3) k56 dX0_holdAll_93 ?_
          refine lv_iload hx hb dX0_holdAll_96 (lv_at hl 3 rfl) ?_
          refine tw_goi hS (md_runV (As := [.ref (base + b3), .int x37]) (rest := []) hx hb hml hown hW hK hT hS.1 (t_X9_sumOf_1 l D cy tx base Z K N M10 R11 J12 hS.2.1 b15 hz_b15 hk_b15 b3 hz_b3 hk_b3 hn_b3 x37 h35) s_X0_79 ⟨rfl, rfl, ⟨Nat.le_of_ble_eq_true rfl, Nat.le_of_ble_eq_true rfl⟩, ⟨Nat.le_of_ble_eq_true rfl, Nat.le_of_ble_eq_true rfl⟩⟩ hz_b15 hk_b15 (by decide) rfl rfl hl.1 rfl (Nat.le_of_ble_eq_true rfl) dX0_holdAll_98) rfl rfl (fun x63 H locs M60 R61 J59 hS f57 g58 E62 => ?_)
          have eM60 := Fr.nil f57 rfl
          subst eM60
          have eR61 := Fr.nil g58 rfl
          subst eR61
          have h_x63 := E62
          clear E62
          refine lv_iload hx hb dX0_holdAll_101 (lv_at hl 1 rfl) ?_
          have J128_64 : ∀  (M64 : MT) (R65 : RT) (J66 : JT) (H : Heap) (locs : List Loc) (ls : Array Slot) (hS : SB D cy base Z K N Lt_X0_holdAll LRt_X0_holdAll Ma Ra M64 R65 J66 s H locs) (hl : lv_has ls 8 [(7, .int x55), (6, .int x49), (5, .int x43), (4, .int x37), (3, .int x32), (1, .int x8), (2, .int x9), (0, .ref (base + a0))]), W p l e (md_rm 3 0 0) s m args below meth c H locs 0 0 Q (F0 m 128 ls []) := by
            intro  M64 R65 J66 H locs ls  hS hl
            have f67 := hS.2.2.1
            have g68 := hS.2.2.2
            refine lv_iconst (v := 0) hx hb dX0_holdAll_128 (by decide) ?_
            refine lv_istore_n (lv' := [(1, .int 0), (7, .int x55), (6, .int x49), (5, .int x43), (4, .int x37), (3, .int x32), (2, .int x9), (0, .ref (base + a0))]) hx hb dX0_holdAll_129 rfl hl (by decide) rfl (fun ls hl => ?_)
            refine lv_iload_n hx hb dX0_holdAll_130 rfl (lv_at hl 0 rfl) ?_
            refine lv_if_eq (tgt := 150) hx hb dX0_holdAll_131 (by decide) (fun _ => ?_) (fun h => absurd h (by decide))
            refine tw_iinc (lv' := fun x71 => [(2, .int x71), (1, .int 0), (7, .int x55), (6, .int x49), (5, .int x43), (4, .int x37), (3, .int x32), (0, .ref (base + a0))]) (lo := 1) (hi := 12) hx hb dX0_holdAll_150 hl (k := 6) rfl h23 (by decide) ⟨by decide, by decide⟩ ⟨by decide, by decide⟩ (by decide) (fun _ => rfl) (fun x71 ls e70 h69 hl => ?_)
            refine lv_goto (tgt := 19) hx hb dX0_holdAll_153 (by decide) ?_
            have hm72 : 12 - x71.toInt < (n_10 : Int) := by
              have := (h30).1; have := (h30).2; have := (h69).1; have := (h69).2; have := (h23).1; have := (h23).2; omega
            exact ih_10 0 x71 M64 R65 J66 H locs _ (iv_mono (iv_c (c := 0) (n := 0) (by decide)) (by decide) (by decide)) (iv_mono h69 (by decide) (by decide)) hm72 hS (lv_sub hl [1, 0, 7] rfl)
          refine lv_icmp_ne (tgt := 128) hx hb dX0_holdAll_103 (by decide) (fun c73 => ?_) (fun c73 => ?_)
          · have q74 : ¬ x63.toInt = x49.toInt := ti_ne c73
            exact J128_64  M10 R11 J59 H locs _  hS hl
          · have q75 : x63.toInt = x49.toInt := ti_eq c73
            refine lv_aload_n hx hb dX0_holdAll_106 rfl (lv_at hl 7 rfl) ?_
            refine tw_getrk hx hb hW hown hK hS f_X0_33_0 hz_a0 hk_a0 (b := b15) k16 dX0_holdAll_107 ?_
            refine lv_aload_n hx hb dX0_holdAll_110 rfl (lv_at hl 7 rfl) ?_
            have k76 : R11 a0 3 = some b3 := (Fr.kp (k := 3) g14 hk_a0 rfl).trans k4
            refine tw_getrk hx hb hW hown hK hS f_X0_15_0 hz_a0 hk_a0 (b := b3) k76 dX0_holdAll_111 ?_
            refine lv_iload hx hb dX0_holdAll_114 (lv_at hl 2 rfl) ?_
            refine tw_goi hS (md_runV (As := [.ref (base + b3), .int x43]) (rest := []) hx hb hml hown hW hK hT hS.1 (t_X9_sumOf_1 l D cy tx base Z K N M10 R11 J59 hS.2.1 b15 hz_b15 hk_b15 b3 hz_b3 hk_b3 hn_b3 x43 h41) s_X0_79 ⟨rfl, rfl, ⟨Nat.le_of_ble_eq_true rfl, Nat.le_of_ble_eq_true rfl⟩, ⟨Nat.le_of_ble_eq_true rfl, Nat.le_of_ble_eq_true rfl⟩⟩ hz_b15 hk_b15 (by decide) rfl rfl hl.1 rfl (Nat.le_of_ble_eq_true rfl) dX0_holdAll_116) rfl rfl (fun x83 H locs M80 R81 J79 hS f77 g78 E82 => ?_)
            have eM80 := Fr.nil f77 rfl
            subst eM80
            have eR81 := Fr.nil g78 rfl
            subst eR81
            have h_x83 := E82
            clear E82
            refine lv_iload hx hb dX0_holdAll_119 (lv_at hl 0 rfl) ?_
            refine lv_icmp_ne (tgt := 128) hx hb dX0_holdAll_121 (by decide) (fun c84 => ?_) (fun c84 => ?_)
            · have q85 : ¬ x83.toInt = x55.toInt := ti_ne c84
              exact J128_64  M10 R11 J79 H locs _  hS hl
            · have q86 : x83.toInt = x55.toInt := ti_eq c84
              refine lv_iconst (v := 1) hx hb dX0_holdAll_124 (by decide) ?_
              refine lv_goto (tgt := 129) hx hb dX0_holdAll_125 (by decide) ?_
              refine lv_istore_n (lv' := [(1, .int 1), (7, .int x55), (6, .int x49), (5, .int x43), (4, .int x37), (3, .int x32), (2, .int x9), (0, .ref (base + a0))]) hx hb dX0_holdAll_129 rfl hl (by decide) rfl (fun ls hl => ?_)
              refine lv_iload_n hx hb dX0_holdAll_130 rfl (lv_at hl 0 rfl) ?_
              refine lv_if_eq (tgt := 150) hx hb dX0_holdAll_131 (by decide) (fun h => absurd h (by decide)) (fun _ => ?_)
              refine lv_aload_n hx hb dX0_holdAll_134 rfl (lv_at hl 7 rfl) ?_
              refine tw_getr hx hb hW hown hK hS f_X0_37_0 hz_a0 hk_a0 (t := 6) (n := 0) rfl dX0_holdAll_135 (fun b87 k88 hz_b87 hk_b87 hn_b87 => ?_)
              refine lv_aload_n hx hb dX0_holdAll_138 rfl (lv_at hl 7 rfl) ?_
              have k89 : R11 a0 3 = some b3 := (Fr.kp (k := 3) g14 hk_a0 rfl).trans k4
              refine tw_getrk hx hb hW hown hK hS f_X0_15_0 hz_a0 hk_a0 (b := b3) k89 dX0_holdAll_139 ?_
              refine lv_iload hx hb dX0_holdAll_142 (lv_at hl 4 rfl) ?_
              refine lv_iload hx hb dX0_holdAll_144 (lv_at hl 3 rfl) ?_
              refine tw_goi hS (md_runV (As := [.ref (base + b3), .int x37, .int x43]) (rest := []) hx hb hml hown hW hK hT hS.1 (t_X5_hold_1 l D cy tx base Z K N M10 R11 J79 hS.2.1 b87 hz_b87 hk_b87 b3 hz_b3 hk_b3 hn_b3 x37 h35 x43 h41) s_X0_83 ⟨rfl, rfl, ⟨Nat.le_of_ble_eq_true rfl, Nat.le_of_ble_eq_true rfl⟩, ⟨Nat.le_of_ble_eq_true rfl, Nat.le_of_ble_eq_true rfl⟩⟩ hz_b87 hk_b87 (by decide) rfl rfl hl.1 rfl (Nat.le_of_ble_eq_true rfl) dX0_holdAll_146) rfl rfl (fun x96 H locs M93 R94 J92 hS f90 g91 E95 => ?_)
              have eR94 := Fr.nil g91 rfl
              subst eR94
              have h_x96 := E95
              clear E95
              refine lv_pop hx hb dX0_holdAll_149 rfl ?_
              refine tw_iinc (lv' := fun x99 => [(2, .int x99), (1, .int 1), (7, .int x55), (6, .int x49), (5, .int x43), (4, .int x37), (3, .int x32), (0, .ref (base + a0))]) (lo := 1) (hi := 12) hx hb dX0_holdAll_150 hl (k := 6) rfl h23 (by decide) ⟨by decide, by decide⟩ ⟨by decide, by decide⟩ (by decide) (fun _ => rfl) (fun x99 ls e98 h97 hl => ?_)
              refine lv_goto (tgt := 19) hx hb dX0_holdAll_153 (by decide) ?_
              have hm100 : 12 - x99.toInt < (n_10 : Int) := by
                have := (h30).1; have := (h30).2; have := (h23).1; have := (h23).2; have := (h97).1; have := (h97).2; omega
              exact ih_10 1 x99 M93 R11 J92 H locs _ (iv_mono (iv_c (c := 1) (n := 1) (by decide)) (by decide) (by decide)) (iv_mono h97 (by decide) (by decide)) hm100 hS (lv_sub hl [1, 0, 7] rfl)
  have hm101 : 12 - (0 : Int32).toInt < (((13 : Nat) : Int) : Int) := by
    have : (0 : Int32).toInt = 0 := (by decide); omega
  exact W19_10 13 1 0 M7 Ra Ja H locs _ (iv_mono (iv_c (c := 1) (n := 1) (by decide)) (by decide) (by decide)) (iv_mono (iv_c (c := 0) (n := 0) (by decide)) (by decide) (by decide)) hm101 hS (lv_sub hl [1, 0, 2] rfl)
def Lt_X0_roomFor_2 : WL := [(38, 0, 2000000)]
def LRt_X0_roomFor_2 : WL := []
set_option maxRecDepth 100000 in
set_option maxHeartbeats 4000000 in
theorem t_X0_roomFor_2 (l : Launch) (D : va_G) (cy : Nat → ClassId) (tx : (Nat → Nat) × (Nat → Nat)) (base Z0 : Nat) (K0 N0 : Nat → Nat) (Ma0 : MT) (Ra0 : RT) (Ja : JT) (hTy : Ty Z0 K0 N0 Ma0 Ra0) (a0 : Nat) (hz_a0 : a0 < Z0) (hk_a0 : K0 a0 = 38) (a1 : Int32) (h_a1 : iv 5 38880 a1) (hB_a0 : 64 ≤ N0 a0 ∧ N0 a0 ≤ 100000) : Met l yX0_roomFor [Cond.code yX0_roomFor cX0_roomFor 4 (some (.array .int))] (md_rm 1 1 100000) (va_Pc [.ref (base + a0), .int a1] (md_U D cy tx base Z0 K0 N0 Ma0 Ra0 Ja)) (mQr D cy tx base (fun r u => TM Z0 K0 N0 Lt_X0_roomFor_2 LRt_X0_roomFor_2 Ma0 Ra0 u ∧ (RF Z0 K0 N0 Ma0 a0 a1.toInt r u))) 1 100000 (fun q => base ≤ q) := by
  refine tw_ofW (L := Lt_X0_roomFor_2) (LR := LRt_X0_roomFor_2) (by decide) (Nat.le_of_ble_eq_true rfl) hTy ?_
  intro p e s m args below meth c Q ls hx hb hr hlocks hown hml hW hK hT hS hQ hl
  have hl : lv_has ls 4 [(0, .ref (base + a0)), (1, .int a1)] := hl
  have hs0 : s.heap.size = base + Z0 := hS.1.2.1
  obtain ⟨Z, K, N, Ma, Ra, hE0, hGR, hTy, hS, hz_a0, hk_a0, hB_a0⟩ : ∃ (Z : Nat) (K N : Nat → Nat) (Ma : MT) (Ra : RT), (Z = Z0 ∧ K = K0 ∧ N = N0 ∧ Ma = Ma0 ∧ Ra = Ra0) ∧ GR Z0 K0 N0 Ma0 Ra0 Z K N Ma Ra ∧ Ty Z K N Ma Ra ∧ SB D cy base Z K N Lt_X0_roomFor_2 LRt_X0_roomFor_2 Ma Ra Ma Ra Ja s s.heap [] ∧ (a0 < Z) ∧ (K a0 = 38) ∧ (64 ≤ N a0 ∧ N a0 ≤ 100000) := ⟨Z0, K0, N0, Ma0, Ra0, ⟨rfl, rfl, rfl, rfl, rfl⟩, GR.rf, hTy, hS, hz_a0, hk_a0, hB_a0⟩
  refine lv_aload_n hx hb dX0_roomFor_0 rfl (lv_at hl 0 rfl) ?_
  refine tw_alen hx hb hK hS hz_a0 hk_a0 (by decide) dX0_roomFor_1 (fun x3 e2 h1 => ?_)
  refine lv_istore_n (lv' := [(2, .int x3), (0, .ref (base + a0)), (1, .int a1)]) hx hb dX0_roomFor_2 rfl hl (by decide) rfl (fun ls hl => ?_)
  refine lv_iconst (v := 0) hx hb dX0_roomFor_3 (by decide) ?_
  refine lv_istore_n (lv' := [(3, .int 0), (2, .int x3), (0, .ref (base + a0)), (1, .int a1)]) hx hb dX0_roomFor_4 rfl hl (by decide) rfl (fun ls hl => ?_)
  have W5_6 : ∀ (n_6 : Nat) (x4 : Int32) (x5 : Int32) (M6 : MT) (R7 : RT) (J8 : JT) (H : Heap) (locs : List Loc) (ls : Array Slot) (h_x4 : iv 64 100000 x4) (h_x5 : iv 0 30 x5) (w0_6 : ((N a0 : Nat) : Int) ≤ x4.toInt) (w1_6 : (2 : Int) ^ x5.toInt.toNat ≤ x4.toInt) (w2_6 : (x4.toInt = ((N a0 : Nat) : Int) ∨ (2 * ((N a0 : Nat) : Int) ≤ x4.toInt ∧ x4.toInt ≤ 2 * a1.toInt))) (w3_6 : M6 = Ma) (hm_6 : 30 - x5.toInt < (n_6 : Int)) (hS : SB D cy base Z K N Lt_X0_roomFor_2 LRt_X0_roomFor_2 Ma Ra M6 R7 J8 s H locs) (hl : lv_has ls 4 [(2, .int x4), (3, .int x5), (0, .ref (base + a0)), (1, .int a1)]), W p l e (md_rm 1 1 100000) s m args below meth c H locs 0 0 Q (F0 m 5 ls []) := by
    intro n_6
    induction n_6 with
    | zero =>
      intro x4 x5 M6 R7 J8 H locs ls h_x4 h_x5 w0_6 w1_6 w2_6 w3_6 hm_6 hS hl
      exfalso
      have := (h_a1).1; have := (h_a1).2; have := (h_x4).1; have := (h_x4).2; have := (h_x5).1; have := (h_x5).2; omega
    | succ n_6 ih_6 =>
      intro x4 x5 M6 R7 J8 H locs ls h_x4 h_x5 w0_6 w1_6 w2_6 w3_6 hm_6 hS hl
      have f9 := hS.2.2.1
      have g10 := hS.2.2.2
      refine lv_iload_n hx hb dX0_roomFor_5 rfl (lv_at hl 1 rfl) ?_
      refine lv_bipush (v := 30) hx hb dX0_roomFor_6 (by decide) ?_
      refine lv_icmp_ge (tgt := 26) hx hb dX0_roomFor_8 (by decide) (fun c11 => ?_) (fun c11 => ?_)
      · have q12 : 30 ≤ x5.toInt := ti_le c11
        have h13 : iv 30 30 x5 := iv_geL (y := 30) h_x5 (iv_c (c := 30) (n := 30) (by decide)) q12 (by decide)
        have hsz : a1.toInt ≤ x4.toInt := by
          have := pw30 w1_6 (by have := (h13).1; have := (h13).2; omega); have := (h_x4).2; omega
        refine lv_iload_n hx hb dX0_roomFor_26 rfl (lv_at hl 0 rfl) ?_
        refine lv_aload_n hx hb dX0_roomFor_27 rfl (lv_at hl 2 rfl) ?_
        refine tw_alen hx hb hK hS hz_a0 hk_a0 (by decide) dX0_roomFor_28 (fun x16 e15 h14 => ?_)
        refine lv_icmp_ne (tgt := 34) hx hb dX0_roomFor_29 (by decide) (fun c17 => ?_) (fun c17 => ?_)
        · have q18 : ¬ x4.toInt = x16.toInt := ti_ne c17
          refine lv_iload_n hx hb dX0_roomFor_34 rfl (lv_at hl 0 rfl) ?_
          obtain ⟨b19, eb19⟩ : ∃ q, q = Z := ⟨_, rfl⟩
          refine tw_newz (zq := b19) eb19 hx hb hW hK hS (t := 38) (Or.inr (by decide)) (fun _ => rfl) w_1_144 (na := 100000) h_x4 ⟨by decide, by decide, by decide⟩ (Nat.le_of_ble_eq_true rfl) (Nat.le_of_ble_eq_true rfl) dX0_roomFor_35 (fun H Z K N Ma Ra M20 R21 J22 eZ_b19 hz_b19 hk_b19 e25 o24 hS g23 => ?_)
          have hzo_a0 := hz_a0
          have hko_a0 := hk_a0
          have eN_a0 := GR.n g23 hz_a0 rfl
          have hk_a0 : K a0 = 38 := GR.k g23 hz_a0 hk_a0
          have hB_a0 : 64 ≤ N a0 ∧ N a0 ≤ 100000 := by rw [eN_a0]; exact hB_a0
          have hz_a0 : a0 < Z := GR.z g23 hz_a0
          have hGR := GR.tr hGR g23
          have f26 := hS.2.2.1
          have g27 := hS.2.2.2
          refine lv_astore_n (lv' := [(3, .ref (base + b19)), (2, .int x4), (0, .ref (base + a0)), (1, .int a1)]) hx hb dX0_roomFor_37 rfl hl (by decide) rfl (fun ls hl => ?_)
          refine lv_aload_n hx hb dX0_roomFor_38 rfl (lv_at hl 2 rfl) ?_
          refine lv_iconst (v := 0) hx hb dX0_roomFor_39 (by decide) ?_
          refine lv_aload_n hx hb dX0_roomFor_40 rfl (lv_at hl 0 rfl) ?_
          refine lv_iconst (v := 0) hx hb dX0_roomFor_41 (by decide) ?_
          refine lv_aload_n hx hb dX0_roomFor_42 rfl (lv_at hl 2 rfl) ?_
          refine tw_alen hx hb hK hS hz_a0 hk_a0 (by decide) dX0_roomFor_43 (fun x30 e29 h28 => ?_)
          refine tw_copy hx hb (hml.trans hl.1.symm) hW hown hK hS (md_okc w_5_202 rfl (md_okc w_3_226 rfl (md_okc w_3_225 rfl (md_okc w_1_18 rfl (md_ok0))))) hz_b19 hk_b19 (Or.inr (by decide)) hz_a0 hk_a0 (Or.inr (by decide)) rfl rfl (by have := (h28).1; have := (h28).2; have := ((iv_c (c := 0) (n := 0) (by decide))).1; have := ((iv_c (c := 0) (n := 0) (by decide))).2; have := ((iv_c (c := 0) (n := 0) (by decide))).1; have := ((iv_c (c := 0) (n := 0) (by decide))).2; omega) (by have := (h28).1; have := (h28).2; have := ((iv_c (c := 0) (n := 0) (by decide))).1; have := ((iv_c (c := 0) (n := 0) (by decide))).2; have := ((iv_c (c := 0) (n := 0) (by decide))).1; have := ((iv_c (c := 0) (n := 0) (by decide))).2; omega) (by have := (h28).1; have := (h28).2; have := ((iv_c (c := 0) (n := 0) (by decide))).1; have := ((iv_c (c := 0) (n := 0) (by decide))).2; have := ((iv_c (c := 0) (n := 0) (by decide))).1; have := ((iv_c (c := 0) (n := 0) (by decide))).2; omega) (by have := (h28).1; have := (h28).2; have := ((iv_c (c := 0) (n := 0) (by decide))).1; have := ((iv_c (c := 0) (n := 0) (by decide))).2; have := ((iv_c (c := 0) (n := 0) (by decide))).1; have := ((iv_c (c := 0) (n := 0) (by decide))).2; omega) (by have := (h28).1; have := (h28).2; have := ((iv_c (c := 0) (n := 0) (by decide))).1; have := ((iv_c (c := 0) (n := 0) (by decide))).2; have := ((iv_c (c := 0) (n := 0) (by decide))).1; have := ((iv_c (c := 0) (n := 0) (by decide))).2; omega) (fun _ _ => ⟨by show (0 : Int) ≤ 0; decide, by show (9999 : Int) ≤ 9999; decide⟩) (Nat.le_of_ble_eq_true rfl) (Nat.le_of_ble_eq_true rfl) rfl dX0_roomFor_44 (fun H locs M33 hS f31 k32 => ?_)
          refine lv_aload_n hx hb dX0_roomFor_47 rfl (lv_at hl 0 rfl) ?_
          have q34 : 2 * ((N a0 : Nat) : Int) ≤ x4.toInt := by
            have := (h_a1).1; have := (h_a1).2; have := (h_x4).1; have := (h_x4).2; have := (h13).1; have := (h13).2; omega
          have q35 : x4.toInt ≤ 2 * a1.toInt := by
            have := (h_a1).1; have := (h_a1).2; have := (h_x4).1; have := (h_x4).2; have := (h13).1; have := (h13).2; omega
          exact tw_emr hx hb hr hlocks hK hT hS hGR hQ ⟨Nat.le_of_ble_eq_true rfl, Nat.le_of_ble_eq_true rfl⟩ ((RF.new hE0 w3_6 g23 o24 hzo_a0 eb19 eZ_b19 hk_b19 hk_a0 e25 hsz ⟨q34, q35⟩ e29 k32)) dX0_roomFor_48
        · have q36 : x4.toInt = x16.toInt := ti_eq c17
          have h37 : iv 64 100000 x16 := ⟨by have := (h_x4).1; have := (h14).1; omega, by have := (h_x4).2; have := (h14).2; omega⟩
          refine lv_aload_n hx hb dX0_roomFor_32 rfl (lv_at hl 2 rfl) ?_
          have q38 : a1.toInt ≤ ((N a0 : Nat) : Int) := by
            have := (h_a1).1; have := (h_a1).2; have := (h_x4).1; have := (h_x4).2; have := (h13).1; have := (h13).2; omega
          exact tw_emr hx hb hr hlocks hK hT hS hGR hQ ⟨Nat.le_of_ble_eq_true rfl, Nat.le_of_ble_eq_true rfl⟩ ((RF.same hE0 w3_6 hz_a0 q38)) dX0_roomFor_33
      · have q39 : x5.toInt < 30 := ti_nle c11
        have h40 : iv 0 29 x5 := iv_ltL (y := 30) h_x5 (iv_c (c := 30) (n := 30) (by decide)) q39 (by decide)
        refine lv_iload_n hx hb dX0_roomFor_11 rfl (lv_at hl 0 rfl) ?_
        refine lv_iload_n hx hb dX0_roomFor_12 rfl (lv_at hl 3 rfl) ?_
        refine lv_icmp_ge (tgt := 26) hx hb dX0_roomFor_13 (by decide) (fun c41 => ?_) (fun c41 => ?_)
        · have q42 : a1.toInt ≤ x4.toInt := ti_le c41
          have hsz : a1.toInt ≤ x4.toInt := by
            have := (h_a1).1; have := (h_a1).2; have := (h_x4).1; have := (h_x4).2; have := (h40).1; have := (h40).2; omega
          refine lv_iload_n hx hb dX0_roomFor_26 rfl (lv_at hl 0 rfl) ?_
          refine lv_aload_n hx hb dX0_roomFor_27 rfl (lv_at hl 2 rfl) ?_
          refine tw_alen hx hb hK hS hz_a0 hk_a0 (by decide) dX0_roomFor_28 (fun x45 e44 h43 => ?_)
          refine lv_icmp_ne (tgt := 34) hx hb dX0_roomFor_29 (by decide) (fun c46 => ?_) (fun c46 => ?_)
          · have q47 : ¬ x4.toInt = x45.toInt := ti_ne c46
            refine lv_iload_n hx hb dX0_roomFor_34 rfl (lv_at hl 0 rfl) ?_
            obtain ⟨b48, eb48⟩ : ∃ q, q = Z := ⟨_, rfl⟩
            refine tw_newz (zq := b48) eb48 hx hb hW hK hS (t := 38) (Or.inr (by decide)) (fun _ => rfl) w_1_144 (na := 100000) h_x4 ⟨by decide, by decide, by decide⟩ (Nat.le_of_ble_eq_true rfl) (Nat.le_of_ble_eq_true rfl) dX0_roomFor_35 (fun H Z K N Ma Ra M49 R50 J51 eZ_b48 hz_b48 hk_b48 e54 o53 hS g52 => ?_)
            have hzo_a0 := hz_a0
            have hko_a0 := hk_a0
            have eN_a0 := GR.n g52 hz_a0 rfl
            have hk_a0 : K a0 = 38 := GR.k g52 hz_a0 hk_a0
            have hB_a0 : 64 ≤ N a0 ∧ N a0 ≤ 100000 := by rw [eN_a0]; exact hB_a0
            have hz_a0 : a0 < Z := GR.z g52 hz_a0
            have hGR := GR.tr hGR g52
            have f55 := hS.2.2.1
            have g56 := hS.2.2.2
            refine lv_astore_n (lv' := [(3, .ref (base + b48)), (2, .int x4), (0, .ref (base + a0)), (1, .int a1)]) hx hb dX0_roomFor_37 rfl hl (by decide) rfl (fun ls hl => ?_)
            refine lv_aload_n hx hb dX0_roomFor_38 rfl (lv_at hl 2 rfl) ?_
            refine lv_iconst (v := 0) hx hb dX0_roomFor_39 (by decide) ?_
            refine lv_aload_n hx hb dX0_roomFor_40 rfl (lv_at hl 0 rfl) ?_
            refine lv_iconst (v := 0) hx hb dX0_roomFor_41 (by decide) ?_
            refine lv_aload_n hx hb dX0_roomFor_42 rfl (lv_at hl 2 rfl) ?_
            refine tw_alen hx hb hK hS hz_a0 hk_a0 (by decide) dX0_roomFor_43 (fun x59 e58 h57 => ?_)
            refine tw_copy hx hb (hml.trans hl.1.symm) hW hown hK hS (md_okc w_5_202 rfl (md_okc w_3_226 rfl (md_okc w_3_225 rfl (md_okc w_1_18 rfl (md_ok0))))) hz_b48 hk_b48 (Or.inr (by decide)) hz_a0 hk_a0 (Or.inr (by decide)) rfl rfl (by have := (h57).1; have := (h57).2; have := ((iv_c (c := 0) (n := 0) (by decide))).1; have := ((iv_c (c := 0) (n := 0) (by decide))).2; have := ((iv_c (c := 0) (n := 0) (by decide))).1; have := ((iv_c (c := 0) (n := 0) (by decide))).2; omega) (by have := (h57).1; have := (h57).2; have := ((iv_c (c := 0) (n := 0) (by decide))).1; have := ((iv_c (c := 0) (n := 0) (by decide))).2; have := ((iv_c (c := 0) (n := 0) (by decide))).1; have := ((iv_c (c := 0) (n := 0) (by decide))).2; omega) (by have := (h57).1; have := (h57).2; have := ((iv_c (c := 0) (n := 0) (by decide))).1; have := ((iv_c (c := 0) (n := 0) (by decide))).2; have := ((iv_c (c := 0) (n := 0) (by decide))).1; have := ((iv_c (c := 0) (n := 0) (by decide))).2; omega) (by have := (h57).1; have := (h57).2; have := ((iv_c (c := 0) (n := 0) (by decide))).1; have := ((iv_c (c := 0) (n := 0) (by decide))).2; have := ((iv_c (c := 0) (n := 0) (by decide))).1; have := ((iv_c (c := 0) (n := 0) (by decide))).2; omega) (by have := (h57).1; have := (h57).2; have := ((iv_c (c := 0) (n := 0) (by decide))).1; have := ((iv_c (c := 0) (n := 0) (by decide))).2; have := ((iv_c (c := 0) (n := 0) (by decide))).1; have := ((iv_c (c := 0) (n := 0) (by decide))).2; omega) (fun _ _ => ⟨by show (0 : Int) ≤ 0; decide, by show (9999 : Int) ≤ 9999; decide⟩) (Nat.le_of_ble_eq_true rfl) (Nat.le_of_ble_eq_true rfl) rfl dX0_roomFor_44 (fun H locs M62 hS f60 k61 => ?_)
            refine lv_aload_n hx hb dX0_roomFor_47 rfl (lv_at hl 0 rfl) ?_
            have q63 : 2 * ((N a0 : Nat) : Int) ≤ x4.toInt := by
              have := (h_a1).1; have := (h_a1).2; have := (h_x4).1; have := (h_x4).2; have := (h40).1; have := (h40).2; omega
            have q64 : x4.toInt ≤ 2 * a1.toInt := by
              have := (h_a1).1; have := (h_a1).2; have := (h_x4).1; have := (h_x4).2; have := (h40).1; have := (h40).2; omega
            exact tw_emr hx hb hr hlocks hK hT hS hGR hQ ⟨Nat.le_of_ble_eq_true rfl, Nat.le_of_ble_eq_true rfl⟩ ((RF.new hE0 w3_6 g52 o53 hzo_a0 eb48 eZ_b48 hk_b48 hk_a0 e54 hsz ⟨q63, q64⟩ e58 k61)) dX0_roomFor_48
          · have q65 : x4.toInt = x45.toInt := ti_eq c46
            have h66 : iv 64 100000 x45 := ⟨by have := (h_x4).1; have := (h43).1; omega, by have := (h_x4).2; have := (h43).2; omega⟩
            refine lv_aload_n hx hb dX0_roomFor_32 rfl (lv_at hl 2 rfl) ?_
            have q67 : a1.toInt ≤ ((N a0 : Nat) : Int) := by
              have := (h_a1).1; have := (h_a1).2; have := (h_x4).1; have := (h_x4).2; have := (h40).1; have := (h40).2; omega
            exact tw_emr hx hb hr hlocks hK hT hS hGR hQ ⟨Nat.le_of_ble_eq_true rfl, Nat.le_of_ble_eq_true rfl⟩ ((RF.same hE0 w3_6 hz_a0 q67)) dX0_roomFor_33
        · have q68 : x4.toInt < a1.toInt := ti_nle c41
          have h69 : iv 64 38879 x4 := iv_ltL (y := a1) h_x4 h_a1 q68 (by decide)
          have h70 : iv 65 38880 a1 := iv_gtL (y := x4) h_a1 h_x4 q68 (by decide)
          refine lv_iload_n hx hb dX0_roomFor_16 rfl (lv_at hl 0 rfl) ?_
          refine lv_iconst (v := 2) hx hb dX0_roomFor_17 (by decide) ?_
          refine tw_imulc (k := 2) (lo := 128) (hi := 77758) hx hb h69 (by decide) (by decide) ⟨by decide, by decide⟩ ⟨by decide, by decide⟩ dX0_roomFor_18 (fun x73 e72 h71 => ?_)
          refine lv_istore_n (lv' := [(2, .int x73), (3, .int x5), (0, .ref (base + a0)), (1, .int a1)]) hx hb dX0_roomFor_19 rfl hl (by decide) rfl (fun ls hl => ?_)
          refine tw_iinc (lv' := fun x76 => [(3, .int x76), (2, .int x73), (0, .ref (base + a0)), (1, .int a1)]) (lo := 1) (hi := 30) hx hb dX0_roomFor_20 hl (k := 1) rfl h40 (by decide) ⟨by decide, by decide⟩ ⟨by decide, by decide⟩ (by decide) (fun _ => rfl) (fun x76 ls e75 h74 hl => ?_)
          refine lv_goto (tgt := 5) hx hb dX0_roomFor_23 (by decide) ?_
          have w77 : ((N a0 : Nat) : Int) ≤ x73.toInt := by
            have := (h70).1; have := (h70).2; have := (h69).1; have := (h69).2; have := (h40).1; have := (h40).2; have := (h71).1; have := (h71).2; have := (h74).1; have := (h74).2; omega
          have q79 : 0 ≤ x5.toInt := by
            have := (h70).1; have := (h70).2; have := (h69).1; have := (h69).2; have := (h40).1; have := (h40).2; have := (h71).1; have := (h71).2; have := (h74).1; have := (h74).2; omega
          have q80 : x76.toInt = x5.toInt + 1 := by
            have := (h70).1; have := (h70).2; have := (h69).1; have := (h69).2; have := (h40).1; have := (h40).2; have := (h71).1; have := (h71).2; have := (h74).1; have := (h74).2; omega
          have q81 : x73.toInt = x4.toInt * 2 := by
            have := (h70).1; have := (h70).2; have := (h69).1; have := (h69).2; have := (h40).1; have := (h40).2; have := (h71).1; have := (h71).2; have := (h74).1; have := (h74).2; omega
          have w78 : (2 : Int) ^ x76.toInt.toNat ≤ x73.toInt := pw1 w1_6 q79 q80 q81
          have w82 : (x73.toInt = ((N a0 : Nat) : Int) ∨ (2 * ((N a0 : Nat) : Int) ≤ x73.toInt ∧ x73.toInt ≤ 2 * a1.toInt)) := by
            have := (h70).1; have := (h70).2; have := (h69).1; have := (h69).2; have := (h40).1; have := (h40).2; have := (h71).1; have := (h71).2; have := (h74).1; have := (h74).2; omega
          have w83 : M6 = Ma := w3_6
          have hm84 : 30 - x76.toInt < (n_6 : Int) := by
            have := (h70).1; have := (h70).2; have := (h69).1; have := (h69).2; have := (h40).1; have := (h40).2; have := (h71).1; have := (h71).2; have := (h74).1; have := (h74).2; omega
          exact ih_6 x73 x76 M6 R7 J8 H locs _ (iv_mono h71 (by decide) (by decide)) (iv_mono h74 (by decide) (by decide)) w77 w78 w82 w83 hm84 hS (lv_sub hl [1, 0, 2, 3] rfl)
  have h85 : iv 64 100000 x3 := by
    have := (h_a1).1; have := (h_a1).2; have := (h1).1; have := (h1).2; exact ⟨by omega, by omega⟩
  have w86 : ((N a0 : Nat) : Int) ≤ x3.toInt := by
    have := (h_a1).1; have := (h_a1).2; have := (h1).1; have := (h1).2; omega
  have q88 : 1 ≤ x3.toInt := by
    have := (h_a1).1; have := (h_a1).2; have := (h1).1; have := (h1).2; omega
  have w87 : (2 : Int) ^ (0 : Int32).toInt.toNat ≤ x3.toInt := pw0 q88
  have w89 : (x3.toInt = ((N a0 : Nat) : Int) ∨ (2 * ((N a0 : Nat) : Int) ≤ x3.toInt ∧ x3.toInt ≤ 2 * a1.toInt)) := by
    have := (h_a1).1; have := (h_a1).2; have := (h1).1; have := (h1).2; omega
  have w90 : Ma = Ma := rfl
  have hm91 : 30 - (0 : Int32).toInt < (((31 : Nat) : Int) : Int) := by
    have := (h_a1).1; have := (h_a1).2; have : (0 : Int32).toInt = 0 := (by decide); omega
  exact W5_6 31 x3 0 Ma Ra Ja s.heap [] _ h85 (iv_mono (iv_c (c := 0) (n := 0) (by decide)) (by decide) (by decide)) w86 w87 w89 w90 hm91 hS (lv_sub hl [1, 0, 2, 3] rfl)
def Lt_X9_sumOf_vb : WL := []
def LRt_X9_sumOf_vb : WL := []
set_option maxRecDepth 100000 in
set_option maxHeartbeats 4000000 in
theorem t_X9_sumOf_vb (l : Launch) (D : va_G) (cy : Nat → ClassId) (tx : (Nat → Nat) × (Nat → Nat)) (base Z : Nat) (K N : Nat → Nat) (Ma : MT) (Ra : RT) (Ja : JT) (hTy : Ty Z K N Ma Ra) (a0 : Nat) (hz_a0 : a0 < Z) (hk_a0 : K a0 = 10) (a1 : Nat) (hz_a1 : a1 < Z) (hk_a1 : K a1 = 29) (hn_a1 : N a1 = 10) (a2 : Int32) (h_a2 : iv (-2147483648) 2147483647 a2) (mem : Int32) (k_mem : Ma a0 0 = mem) (h_mem : iv 1 5 mem) (hall : ∀ m : Int32, 0 ≤ m.toInt → m.toInt < mem.toInt → (a2 >>> (m &&& 31)) &&& 1 = 1) : Met l yX9_sumOf [Cond.code yX9_sumOf cX9_sumOf 5 (some .int)] (md_rm 1 0 0) (va_Pc [.ref (base + a0), .ref (base + a1), .int a2] (md_U D cy tx base Z K N Ma Ra Ja)) (mQi D cy tx base (fun r u => TP Z K N Lt_X9_sumOf_vb LRt_X9_sumOf_vb Ma Ra u ∧ (iv 0 49995 r ∧ vsum Ma a1 mem.toInt.toNat = r.toInt))) 0 0 (fun q => base ≤ q) := by
  refine tw_ofW (L := Lt_X9_sumOf_vb) (LR := LRt_X9_sumOf_vb) (by decide) (Nat.le_of_ble_eq_true rfl) hTy ?_
  intro p e s m args below meth c Q ls hx hb hr hlocks hown hml hW hK hT hS hQ hl
  have hl : lv_has ls 5 [(0, .ref (base + a0)), (1, .ref (base + a1)), (2, .int a2)] := hl
  refine lv_iconst (v := 0) hx hb dX9_sumOf_0 (by decide) ?_
  refine lv_istore_n (lv' := [(3, .int 0), (0, .ref (base + a0)), (1, .ref (base + a1)), (2, .int a2)]) hx hb dX9_sumOf_1 rfl hl (by decide) rfl (fun ls hl => ?_)
  refine lv_iconst (v := 0) hx hb dX9_sumOf_2 (by decide) ?_
  refine lv_istore (lv' := [(4, .int 0), (3, .int 0), (0, .ref (base + a0)), (1, .ref (base + a1)), (2, .int a2)]) hx hb dX9_sumOf_3 hl (by decide) rfl (fun ls hl => ?_)
  have W5_3 : ∀ (n_3 : Nat) (x1 : Int32) (x2 : Int32) (M3 : MT) (R4 : RT) (J5 : JT) (H : Heap) (locs : List Loc) (ls : Array Slot) (h_x1 : iv 0 49995 x1) (h_x2 : iv 0 5 x2) (w0_3 : x2.toInt ≤ mem.toInt) (w1_3 : x1.toInt ≤ 9999 * x2.toInt) (w2_3 : x1.toInt = vsum Ma a1 x2.toInt.toNat) (hm_3 : 5 - x2.toInt < (n_3 : Int)) (hS : SB D cy base Z K N Lt_X9_sumOf_vb LRt_X9_sumOf_vb Ma Ra M3 R4 J5 s H locs) (hl : lv_has ls 5 [(3, .int x1), (4, .int x2), (0, .ref (base + a0)), (1, .ref (base + a1)), (2, .int a2)]), W p l e (md_rm 1 0 0) s m args below meth c H locs 0 0 Q (F0 m 5 ls []) := by
    intro n_3
    induction n_3 with
    | zero =>
      intro x1 x2 M3 R4 J5 H locs ls h_x1 h_x2 w0_3 w1_3 w2_3 hm_3 hS hl
      exfalso
      have := (h_a2).1; have := (h_a2).2; have := (h_mem).1; have := (h_mem).2; have := (h_x1).1; have := (h_x1).2; have := (h_x2).1; have := (h_x2).2; omega
    | succ n_3 ih_3 =>
      intro x1 x2 M3 R4 J5 H locs ls h_x1 h_x2 w0_3 w1_3 w2_3 hm_3 hS hl
      have f6 := hS.2.2.1
      have g7 := hS.2.2.2
      refine lv_iload hx hb dX9_sumOf_5 (lv_at hl 1 rfl) ?_
      refine lv_aload_n hx hb dX9_sumOf_7 rfl (lv_at hl 2 rfl) ?_
      have k8 : M3 a0 0 = mem := (Fr.kp (k := 0) f6 hk_a0 rfl).trans k_mem
      refine tw_getk hx hb hW hown hK hS f_X9_33_9 hz_a0 hk_a0 (v := mem) k8 dX9_sumOf_8 ?_
      refine lv_icmp_ge (tgt := 37) hx hb dX9_sumOf_11 (by decide) (fun c9 => ?_) (fun c9 => ?_)
      · have q10 : mem.toInt ≤ x2.toInt := ti_le c9
        have h11 : iv 1 5 x2 := iv_geL (y := mem) h_x2 h_mem q10 (by decide)
        refine lv_iload_n hx hb dX9_sumOf_37 rfl (lv_at hl 0 rfl) ?_
        have q12 : x2.toInt = mem.toInt := by
          have := (h_a2).1; have := (h_a2).2; have := (h_mem).1; have := (h_mem).2; have := (h_x1).1; have := (h_x1).2; have := (h11).1; have := (h11).2; omega
        exact tw_endi hx hb hr hlocks hK hT hS hQ (⟨h_x1, (by rw [← q12]; exact w2_3.symm)⟩) dX9_sumOf_38
      · have q13 : x2.toInt < mem.toInt := ti_nle c9
        have h14 : iv 0 4 x2 := iv_ltL (y := mem) h_x2 h_mem q13 (by decide)
        refine lv_iload_n hx hb dX9_sumOf_14 rfl (lv_at hl 4 rfl) ?_
        refine lv_iload hx hb dX9_sumOf_15 (lv_at hl 1 rfl) ?_
        refine lv_ishr hx hb dX9_sumOf_17 ?_
        refine lv_topi (fun x17 e16 => ?_)
        have h15 := iv_any x17
        refine lv_iconst (v := 1) hx hb dX9_sumOf_18 (by decide) ?_
        refine lv_iand hx hb dX9_sumOf_19 ?_
        refine lv_topi (fun x20 e19 => ?_)
        have h18 := iv_any x20
        have q21 : x2.toInt < mem.toInt := by
          have := (h_a2).1; have := (h_a2).2; have := (h_mem).1; have := (h_mem).2; have := (h_x1).1; have := (h_x1).2; have := (h14).1; have := (h14).2; omega
        obtain rfl : x20 = 1 := by rw [e19, e16]; exact hall x2 (h14).1 q21
        refine lv_iconst (v := 1) hx hb dX9_sumOf_20 (by decide) ?_
        refine lv_icmp_ne (tgt := 31) hx hb dX9_sumOf_21 (by decide) (fun h => absurd h (by decide)) (fun _ => ?_)
        refine lv_iload_n hx hb dX9_sumOf_24 rfl (lv_at hl 0 rfl) ?_
        refine lv_aload_n hx hb dX9_sumOf_25 rfl (lv_at hl 3 rfl) ?_
        refine lv_iload hx hb dX9_sumOf_26 (lv_at hl 1 rfl) ?_
        refine tw_iald hx hb hK hS hz_a1 hk_a1 (Or.inr (by decide)) hn_a1 (lo := 0) (hi := 9999) h14 ⟨by decide, by decide⟩ rg_u29 dX9_sumOf_28 (fun x24 k23 h22 => ?_)
        refine tw_iadd (lo := 0) (hi := 59994) hx hb h_x1 h22 ⟨by decide, by decide⟩ ⟨by decide, by decide⟩ dX9_sumOf_29 (fun x27 e26 h25 => ?_)
        refine lv_istore_n (lv' := [(3, .int x27), (4, .int x2), (0, .ref (base + a0)), (1, .ref (base + a1)), (2, .int a2)]) hx hb dX9_sumOf_30 rfl hl (by decide) rfl (fun ls hl => ?_)
        refine tw_iinc (lv' := fun x30 => [(4, .int x30), (3, .int x27), (0, .ref (base + a0)), (1, .ref (base + a1)), (2, .int a2)]) (lo := 1) (hi := 5) hx hb dX9_sumOf_31 hl (k := 1) rfl h14 (by decide) ⟨by decide, by decide⟩ ⟨by decide, by decide⟩ (by decide) (fun _ => rfl) (fun x30 ls e29 h28 hl => ?_)
        refine lv_goto (tgt := 5) hx hb dX9_sumOf_34 (by decide) ?_
        have h31 : iv 0 49995 x27 := by
          have := (h_a2).1; have := (h_a2).2; have := (h_mem).1; have := (h_mem).2; have := (h_x1).1; have := (h_x1).2; have := (h14).1; have := (h14).2; have := (h22).1; have := (h22).2; have := (h25).1; have := (h25).2; have := (h28).1; have := (h28).2; exact ⟨by omega, by omega⟩
        have w32 : x30.toInt ≤ mem.toInt := by
          have := (h_a2).1; have := (h_a2).2; have := (h_mem).1; have := (h_mem).2; have := (h_x1).1; have := (h_x1).2; have := (h14).1; have := (h14).2; have := (h25).1; have := (h25).2; have := (h28).1; have := (h28).2; omega
        have w33 : x27.toInt ≤ 9999 * x30.toInt := by
          have := (h_a2).1; have := (h_a2).2; have := (h_mem).1; have := (h_mem).2; have := (h_x1).1; have := (h_x1).2; have := (h14).1; have := (h14).2; have := (h22).1; have := (h22).2; have := (h25).1; have := (h25).2; have := (h28).1; have := (h28).2; omega
        have q35 : 0 ≤ x2.toInt := by
          have := (h_a2).1; have := (h_a2).2; have := (h_mem).1; have := (h_mem).2; have := (h_x1).1; have := (h_x1).2; have := (h14).1; have := (h14).2; have := (h25).1; have := (h25).2; have := (h28).1; have := (h28).2; omega
        have q36 : x30.toInt = x2.toInt + 1 := by
          have := (h_a2).1; have := (h_a2).2; have := (h_mem).1; have := (h_mem).2; have := (h_x1).1; have := (h_x1).2; have := (h14).1; have := (h14).2; have := (h25).1; have := (h25).2; have := (h28).1; have := (h28).2; omega
        have q37 : x27.toInt = x1.toInt + x24.toInt := by
          have := (h_a2).1; have := (h_a2).2; have := (h_mem).1; have := (h_mem).2; have := (h_x1).1; have := (h_x1).2; have := (h14).1; have := (h14).2; have := (h22).1; have := (h22).2; have := (h25).1; have := (h25).2; have := (h28).1; have := (h28).2; omega
        have w34 : x27.toInt = vsum Ma a1 x30.toInt.toNat := vsum1 w2_3 q35 q36 (by rw [Fr.nil f6 rfl]; exact k23) q37
        have hm38 : 5 - x30.toInt < (n_3 : Int) := by
          have := (h_a2).1; have := (h_a2).2; have := (h_mem).1; have := (h_mem).2; have := (h_x1).1; have := (h_x1).2; have := (h14).1; have := (h14).2; have := (h25).1; have := (h25).2; have := (h28).1; have := (h28).2; omega
        exact ih_3 x27 x30 M3 R4 J5 H locs _ h31 (iv_mono h28 (by decide) (by decide)) w32 w33 w34 hm38 hS (lv_sub hl [1, 0, 2, 3, 4] rfl)
  have w39 : (0 : Int32).toInt ≤ mem.toInt := by
    have := (h_a2).1; have := (h_a2).2; have := (h_mem).1; have := (h_mem).2; have : (0 : Int32).toInt = 0 := (by decide); omega
  have w40 : (0 : Int32).toInt ≤ 9999 * (0 : Int32).toInt := by
    have := (h_a2).1; have := (h_a2).2; have := (h_mem).1; have := (h_mem).2; have : (0 : Int32).toInt = 0 := (by decide); omega
  have w41 : (0 : Int32).toInt = vsum Ma a1 (0 : Int32).toInt.toNat := vsum0
  have hm42 : 5 - (0 : Int32).toInt < (((6 : Nat) : Int) : Int) := by
    have := (h_a2).1; have := (h_a2).2; have := (h_mem).1; have := (h_mem).2; have : (0 : Int32).toInt = 0 := (by decide); omega
  exact W5_3 6 0 0 Ma Ra Ja s.heap [] _ (iv_mono (iv_c (c := 0) (n := 0) (by decide)) (by decide) (by decide)) (iv_mono (iv_c (c := 0) (n := 0) (by decide)) (by decide) (by decide)) w39 w40 w41 hm42 hS (lv_sub hl [1, 0, 2, 3, 4] rfl)
def Lt_X0_keep : WL := [(1, 9, 10), (38, 0, 2000000)]
def LRt_X0_keep : WL := [(1, 6, 7)]
set_option maxRecDepth 100000 in
set_option maxHeartbeats 4000000 in
theorem t_X0_keep (l : Launch) (D : va_G) (cy : Nat → ClassId) (tx : (Nat → Nat) × (Nat → Nat)) (base Z0 : Nat) (K0 N0 : Nat → Nat) (Ma0 : MT) (Ra0 : RT) (Ja : JT) (hTy : Ty Z0 K0 N0 Ma0 Ra0) (a0 : Nat) (hz_a0 : a0 < Z0) (hk_a0 : K0 a0 = 1) (st : Nat) (k_st : Ra0 a0 0 = some st) (mem : Int32) (k_mem : Ma0 st 0 = mem) (h_mem : iv 1 5 mem) (fo : Int32) (k_fo : Ma0 a0 10 = fo) (h_fo : iv 0 7775 fo) (hi : Int32) (k_hi : Ma0 a0 9 = hi) (h_hi : iv 0 49995 hi) (en : Nat) (k_en : Ra0 a0 6 = some en) (hB_en : 64 ≤ N0 en ∧ N0 en ≤ 80000) (hBK : BKI N0 Ma0 a0 en mem.toInt.toNat fo.toInt.toNat) : Met l yX0_keep [Cond.code yX0_keep cX0_keep 2 none] (md_rm 2 1 100000) (va_Pc [.ref (base + a0)] (md_U D cy tx base Z0 K0 N0 Ma0 Ra0 Ja)) (mQv D cy tx base (fun u => TM Z0 K0 N0 Lt_X0_keep LRt_X0_keep Ma0 Ra0 u ∧ (KP Z0 K0 N0 Ra0 a0 mem.toInt.toNat (fo.toInt.toNat + 1) u))) 1 100000 (fun q => base ≤ q) := by
  refine tw_ofW (L := Lt_X0_keep) (LR := LRt_X0_keep) (by decide) (Nat.le_of_ble_eq_true rfl) hTy ?_
  intro p e s m args below meth c Q ls hx hb hr hlocks hown hml hW hK hT hS hQ hl
  have hl : lv_has ls 2 [(0, .ref (base + a0))] := hl
  have hs0 : s.heap.size = base + Z0 := hS.1.2.1
  obtain ⟨Z, K, N, Ma, Ra, hE0, hGR, hTy, hS, hz_a0, hk_a0, k_st, k_mem, k_fo, k_hi, k_en, hB_en, hBK⟩ : ∃ (Z : Nat) (K N : Nat → Nat) (Ma : MT) (Ra : RT), (Z = Z0 ∧ K = K0 ∧ N = N0 ∧ Ma = Ma0 ∧ Ra = Ra0) ∧ GR Z0 K0 N0 Ma0 Ra0 Z K N Ma Ra ∧ Ty Z K N Ma Ra ∧ SB D cy base Z K N Lt_X0_keep LRt_X0_keep Ma Ra Ma Ra Ja s s.heap [] ∧ (a0 < Z) ∧ (K a0 = 1) ∧ (Ra a0 0 = some st) ∧ (Ma st 0 = mem) ∧ (Ma a0 10 = fo) ∧ (Ma a0 9 = hi) ∧ (Ra a0 6 = some en) ∧ (64 ≤ N en ∧ N en ≤ 80000) ∧ (BKI N Ma a0 en mem.toInt.toNat fo.toInt.toNat) := ⟨Z0, K0, N0, Ma0, Ra0, ⟨rfl, rfl, rfl, rfl, rfl⟩, GR.rf, hTy, hS, hz_a0, hk_a0, k_st, k_mem, k_fo, k_hi, k_en, hB_en, hBK⟩
  obtain ⟨hz_st, hk_st, hn_st⟩ := hTy.refn hz_a0 hk_a0 (show rtR 1 0 = (10, 0, 0) from rfl) k_st
  obtain ⟨hz_en, hk_en, hn_en⟩ := hTy.refn hz_a0 hk_a0 (show rtR 1 6 = (38, 0, 0) from rfl) k_en
  have heo := k_en
  have hho := k_hi
  refine lv_aload_n hx hb dX0_keep_0 rfl (lv_at hl 0 rfl) ?_
  refine tw_getk hx hb hW hown hK hS f_X0_41_0 hz_a0 hk_a0 (v := fo) k_fo dX0_keep_1 ?_
  refine lv_iconst (v := 5) hx hb dX0_keep_4 (by decide) ?_
  refine tw_imulc (k := 5) (lo := 0) (hi := 38875) hx hb h_fo (by decide) (by decide) ⟨by decide, by decide⟩ ⟨by decide, by decide⟩ dX0_keep_5 (fun x3 e2 h1 => ?_)
  refine lv_istore_n (lv' := [(1, .int x3), (0, .ref (base + a0))]) hx hb dX0_keep_6 rfl hl (by decide) rfl (fun ls hl => ?_)
  refine lv_aload_n hx hb dX0_keep_7 rfl (lv_at hl 1 rfl) ?_
  refine lv_aload_n hx hb dX0_keep_8 rfl (lv_at hl 1 rfl) ?_
  refine tw_getrk hx hb hW hown hK hS f_X0_24_0 hz_a0 hk_a0 (b := en) k_en dX0_keep_9 ?_
  refine lv_iload_n hx hb dX0_keep_12 rfl (lv_at hl 0 rfl) ?_
  refine lv_iconst (v := 5) hx hb dX0_keep_13 (by decide) ?_
  refine tw_iadd (lo := 5) (hi := 38880) hx hb h1 (iv_c (c := 5) (n := 5) (by decide)) ⟨by decide, by decide⟩ ⟨by decide, by decide⟩ dX0_keep_14 (fun x6 e5 h4 => ?_)
  have e5 : x6.toInt = x3.toInt + 5 := e5
  refine tw_gomr hS (md_runS (As := [.ref (base + en), .int x6]) (rest := [.ref (base + a0)]) hx hb hml hown hW hK hT hS.1 (t_X0_roomFor_2 l D cy tx base Z K N Ma Ra Ja hS.2.1 en hz_en hk_en x6 h4 ⟨hB_en.1, Nat.le_trans hB_en.2 (by decide)⟩) s_X0_98 ⟨rfl, rfl, ⟨Nat.le_of_ble_eq_true rfl, Nat.le_of_ble_eq_true rfl⟩, ⟨Nat.le_of_ble_eq_true rfl, Nat.le_of_ble_eq_true rfl⟩⟩ rfl hl.1 rfl (Nat.le_of_ble_eq_true rfl) dX0_keep_15) rfl rfl (fun x13 H locs Z K N Ma Ra M10 R11 J9 hS g14 f7 g8 E12 => ?_)
  have k15 : M10 st 0 = mem := f7.kp hz_st hk_st rfl k_mem
  have k16 : M10 a0 10 = fo := f7.kp hz_a0 hk_a0 rfl k_fo
  have k17 : M10 a0 9 = hi := f7.kp hz_a0 hk_a0 rfl k_hi
  have k18 : R11 a0 0 = some st := g8.kp hz_a0 hk_a0 rfl k_st
  have k19 : R11 a0 6 = some en := g8.kp hz_a0 hk_a0 rfl k_en
  have k_st : Ra a0 0 = some st := GR.r g14 hz_a0 k_st
  have k_mem : Ma st 0 = mem := GR.m g14 hz_st k_mem
  have k_fo : Ma a0 10 = fo := GR.m g14 hz_a0 k_fo
  have k_hi : Ma a0 9 = hi := GR.m g14 hz_a0 k_hi
  have k_en : Ra a0 6 = some en := GR.r g14 hz_a0 k_en
  have hzo_a0 := hz_a0
  have hko_a0 := hk_a0
  have hk_a0 : K a0 = 1 := GR.k g14 hz_a0 hk_a0
  have hzo_st := hz_st
  have hko_st := hk_st
  have hk_st : K st = 10 := GR.k g14 hz_st hk_st
  have hzo_en := hz_en
  have hko_en := hk_en
  have eN_en := GR.n g14 hz_en rfl
  have hk_en : K en = 38 := GR.k g14 hz_en hk_en
  have hB_en : 64 ≤ N en ∧ N en ≤ 80000 := by rw [eN_en]; exact hB_en
  have hz_a0 : a0 < Z := GR.z g14 hz_a0
  have hz_st : st < Z := GR.z g14 hz_st
  have hz_en : en < Z := GR.z g14 hz_en
  have hGR := GR.tr hGR g14
  have f20 := hS.2.2.1
  have g21 := hS.2.2.2
  have p22 := E12
  clear E12
  have hz_x13 : x13 < Z := p22.1
  have hk_x13 : K x13 = 38 := p22.2.1.trans ((g14.2.1 en hzo_en).1.symm.trans hk_en)
  have hsz_x13 : x6.toInt ≤ (N x13 : Int) := p22.2.2.1
  have hpg_x13 := RF.pg p22 g14 (by rw [← eN_en]; exact hB_en.1) (by rw [← (g14.2.1 en hzo_en).1, hk_en]; decide)
  have hB_x13 : 64 ≤ N x13 ∧ N x13 ≤ 80000 := by
    have q1 := hB_en; have q2 := eN_en; have q4 := (h4).2; rcases p22.2.2.2.2 with ⟨-, -, q3⟩ | ⟨-, -, q3, q5⟩; (· have q3 : N x13 = _ := q3; omega); (· have q3 : 2 * _ ≤ N x13 := q3; have q5 : (N x13 : Int) ≤ _ := q5; omega)
  refine tw_putr hx hb hW hown hK hS f_X0_24_0 hz_a0 hk_a0 rfl rfl (t := 38) (n := 0) rfl hz_x13 hk_x13 (fun h => absurd rfl h) rfl dX0_keep_18 (fun H locs R25 hS k23 f24 => ?_)
  refine lv_aload_n hx hb dX0_keep_21 rfl (lv_at hl 1 rfl) ?_
  refine tw_getr hx hb hW hown hK hS f_X0_15_0 hz_a0 hk_a0 (t := 29) (n := 10) rfl dX0_keep_22 (fun b26 k27 hz_b26 hk_b26 hn_b26 => ?_)
  have hn_b26 := hn_b26 (by decide)
  refine lv_iconst (v := 0) hx hb dX0_keep_25 (by decide) ?_
  refine lv_aload_n hx hb dX0_keep_26 rfl (lv_at hl 1 rfl) ?_
  refine tw_getrk hx hb hW hown hK hS f_X0_24_0 hz_a0 hk_a0 (b := x13) k23 dX0_keep_27 ?_
  refine lv_iload_n hx hb dX0_keep_30 rfl (lv_at hl 0 rfl) ?_
  refine lv_iconst (v := 5) hx hb dX0_keep_31 (by decide) ?_
  refine tw_copy hx hb (hml.trans hl.1.symm) hW hown hK hS (md_okc w_5_202 rfl (md_okc w_3_226 rfl (md_okc w_3_225 rfl (md_okc w_1_18 rfl (md_ok0))))) hz_x13 hk_x13 (Or.inr (by decide)) hz_b26 hk_b26 (Or.inr (by decide)) rfl hn_b26 (by have := (h_fo).1; have := (h_fo).2; have := ((iv_c (c := 5) (n := 5) (by decide))).1; have := ((iv_c (c := 5) (n := 5) (by decide))).2; have := (h1).1; have := (h1).2; have := ((iv_c (c := 0) (n := 0) (by decide))).1; have := ((iv_c (c := 0) (n := 0) (by decide))).2; omega) (by have := (h_fo).1; have := (h_fo).2; have := ((iv_c (c := 5) (n := 5) (by decide))).1; have := ((iv_c (c := 5) (n := 5) (by decide))).2; have := (h1).1; have := (h1).2; have := ((iv_c (c := 0) (n := 0) (by decide))).1; have := ((iv_c (c := 0) (n := 0) (by decide))).2; omega) (by have := (h_fo).1; have := (h_fo).2; have := ((iv_c (c := 5) (n := 5) (by decide))).1; have := ((iv_c (c := 5) (n := 5) (by decide))).2; have := (h1).1; have := (h1).2; have := ((iv_c (c := 0) (n := 0) (by decide))).1; have := ((iv_c (c := 0) (n := 0) (by decide))).2; omega) (by have := (h_fo).1; have := (h_fo).2; have := ((iv_c (c := 5) (n := 5) (by decide))).1; have := ((iv_c (c := 5) (n := 5) (by decide))).2; have := (h1).1; have := (h1).2; have := ((iv_c (c := 0) (n := 0) (by decide))).1; have := ((iv_c (c := 0) (n := 0) (by decide))).2; omega) (by have := (h_fo).1; have := (h_fo).2; have := ((iv_c (c := 5) (n := 5) (by decide))).1; have := ((iv_c (c := 5) (n := 5) (by decide))).2; have := (h1).1; have := (h1).2; have := ((iv_c (c := 0) (n := 0) (by decide))).1; have := ((iv_c (c := 0) (n := 0) (by decide))).2; omega) (fun _ _ => ⟨by show (0 : Int) ≤ 0; decide, by show (9999 : Int) ≤ 9999; decide⟩) (Nat.le_of_ble_eq_true rfl) (Nat.le_of_ble_eq_true rfl) rfl dX0_keep_32 (fun H locs M30 hS f28 k29 => ?_)
  refine lv_aload_n hx hb dX0_keep_35 rfl (lv_at hl 1 rfl) ?_
  refine lv_aload_n hx hb dX0_keep_36 rfl (lv_at hl 1 rfl) ?_
  have k31 : M30 a0 9 = hi := (Fr.kp (k := 9) f28 hk_a0 rfl).trans k17
  refine tw_getk hx hb hW hown hK hS f_X0_45_0 hz_a0 hk_a0 (v := hi) k31 dX0_keep_37 ?_
  refine lv_aload_n hx hb dX0_keep_40 rfl (lv_at hl 1 rfl) ?_
  have k32 : R25 a0 0 = some st := (Fr.kp (k := 0) f24 hk_a0 rfl).trans k18
  refine tw_getrk hx hb hW hown hK hS f_X0_33_0 hz_a0 hk_a0 (b := st) k32 dX0_keep_41 ?_
  refine lv_aload_n hx hb dX0_keep_44 rfl (lv_at hl 1 rfl) ?_
  refine tw_getrk hx hb hW hown hK hS f_X0_15_0 hz_a0 hk_a0 (b := b26) k27 dX0_keep_45 ?_
  refine lv_iconst (v := 1) hx hb dX0_keep_48 (by decide) ?_
  refine lv_aload_n hx hb dX0_keep_49 rfl (lv_at hl 1 rfl) ?_
  refine tw_getrk hx hb hW hown hK hS f_X0_33_0 hz_a0 hk_a0 (b := st) k32 dX0_keep_50 ?_
  have k33 : M30 st 0 = mem := (Fr.kp (k := 0) f28 hk_st rfl).trans k15
  refine tw_getk hx hb hW hown hK hS f_X0_48_9 hz_st hk_st (v := mem) k33 dX0_keep_53 ?_
  refine lv_ishl hx hb dX0_keep_56 ?_
  refine lv_topi (fun x36 e35 => ?_)
  have h34 := iv_any x36
  refine lv_iconst (v := 1) hx hb dX0_keep_57 (by decide) ?_
  refine lv_isub hx hb dX0_keep_58 ?_
  refine lv_topi (fun x39 e38 => ?_)
  have h37 := iv_any x39
  refine tw_goi hS (md_runV (As := [.ref (base + b26), .int x39]) (rest := [.int hi, .ref (base + a0)]) hx hb hml hown hW hK hT hS.1 (t_X9_sumOf_vb l D cy tx base Z K N M30 R25 J9 hS.2.1 st hz_st hk_st b26 hz_b26 hk_b26 hn_b26 x39 h37 mem k33 (iv_mono h_mem (by decide) (by decide)) (mask_all h_mem e35 e38)) s_X0_79 ⟨rfl, rfl, ⟨Nat.le_of_ble_eq_true rfl, Nat.le_of_ble_eq_true rfl⟩, ⟨Nat.le_of_ble_eq_true rfl, Nat.le_of_ble_eq_true rfl⟩⟩ hz_st hk_st (by decide) rfl rfl hl.1 rfl (Nat.le_of_ble_eq_true rfl) dX0_keep_59) rfl rfl (fun x46 H locs M43 R44 J42 hS f40 g41 E45 => ?_)
  have eM43 := Fr.nil f40 rfl
  subst eM43
  have eR44 := Fr.nil g41 rfl
  subst eR44
  obtain ⟨h_x46, p47⟩ := E45
  refine va_mmax hx hb (hml.trans hl.1.symm) hown (hW _ w_5_210 rfl) (hW _ w_4_75 rfl) (hW _ w_1_13 rfl) (hW _ w_4_76 rfl) (Nat.le_of_ble_eq_true rfl) (Nat.le_of_ble_eq_true rfl) (Nat.le_of_ble_eq_true rfl) (Nat.le_of_ble_eq_true rfl) dX0_keep_62 ?_
  refine tw_mmax (lo := 0) (hi := 49995) h_hi h_x46 (by decide) (fun x50 e49 h48 => ?_)
  refine tw_puti hx hb hW hown hK hS f_X0_45_0 hz_a0 hk_a0 rfl rfl (lo := 0) (hi := 49995) rfl h48 rfl dX0_keep_65 (fun H locs M53 hS k51 f52 => ?_)
  have q54 : 5 * (fo.toInt.toNat + 1) ≤ N x13 := by
    have := (h_fo).1; have := (h_fo).2; have := (h_hi).1; have := (h_hi).2; have := (h_mem).1; have := (h_mem).2; have := (h1).1; have := (h1).2; omega
  have q55 : x3.toInt = 5 * (fo.toInt.toNat : Int) := by
    have := (h_fo).1; have := (h_fo).2; have := (h_hi).1; have := (h_hi).2; have := (h_mem).1; have := (h_mem).2; have := (h1).1; have := (h1).2; have := (h4).1; have := (h4).2; omega
  have q56 : hi.toInt ≤ x50.toInt := by
    have := (h_fo).1; have := (h_fo).2; have := (h_hi).1; have := (h_hi).2; have := (h_mem).1; have := (h_mem).2; have := (h_x46).1; have := (h_x46).2; have := (h48).1; have := (h48).2; omega
  have q57 : x46.toInt ≤ x50.toInt := by
    have := (h_fo).1; have := (h_fo).2; have := (h_hi).1; have := (h_hi).2; have := (h_mem).1; have := (h_mem).2; have := (h_x46).1; have := (h_x46).2; have := (h48).1; have := (h48).2; omega
  have q58 : b26 ≠ x13 := fun q => by have q1 := hk_b26; rw [q, hk_x13] at q1; exact absurd q1 (by decide)
  have q59 := bki_keep (M3 := M53) (N1 := N) hBK (by have := (h_mem).2; omega) q54 p22.2.2.2.1 k29 q55 q58 (fun j => (Fr.kpa f52 hk_x13 rfl j)) (congrArg Int32.toInt hho) (congrArg Int32.toInt k51) ⟨q56, q57⟩ p47
  exact tw_emv hx hb hr hlocks hK hT hS hGR hQ ⟨Nat.le_of_ble_eq_true rfl, Nat.le_of_ble_eq_true rfl⟩ ((KP.mk hE0 heo k23 hB_x13 q59 hpg_x13)) dX0_keep_68
def Lt_X0_mark : WL := [(14, 0, 2000000)]
def LRt_X0_mark : WL := []
set_option maxRecDepth 100000 in
set_option maxHeartbeats 4000000 in
theorem t_X0_mark (l : Launch) (D : va_G) (cy : Nat → ClassId) (tx : (Nat → Nat) × (Nat → Nat)) (base Z : Nat) (K N : Nat → Nat) (Ma : MT) (Ra : RT) (Ja : JT) (hTy : Ty Z K N Ma Ra) (a0 : Nat) (hz_a0 : a0 < Z) (hk_a0 : K a0 = 1) : Met l yX0_mark [Cond.code yX0_mark cX0_mark 2 none] (md_rm 1 0 0) (va_Pc [.ref (base + a0)] (md_U D cy tx base Z K N Ma Ra Ja)) (mQv D cy tx base (fun u => TP Z K N Lt_X0_mark LRt_X0_mark Ma Ra u ∧ (True))) 0 0 (fun q => base ≤ q) := by
  refine tw_ofW (L := Lt_X0_mark) (LR := LRt_X0_mark) (by decide) (Nat.le_of_ble_eq_true rfl) hTy ?_
  intro p e s m args below meth c Q ls hx hb hr hlocks hown hml hW hK hT hS hQ hl
  have hl : lv_has ls 2 [(0, .ref (base + a0))] := hl
  refine lv_iconst (v := 0) hx hb dX0_mark_0 (by decide) ?_
  refine lv_istore_n (lv' := [(1, .int 0), (0, .ref (base + a0))]) hx hb dX0_mark_1 rfl hl (by decide) rfl (fun ls hl => ?_)
  have W2_2 : ∀ (n_2 : Nat) (x1 : Int32) (M2 : MT) (R3 : RT) (J4 : JT) (H : Heap) (locs : List Loc) (ls : Array Slot) (h_x1 : iv 0 10 x1) (hm_2 : 10 - x1.toInt < (n_2 : Int)) (hS : SB D cy base Z K N Lt_X0_mark LRt_X0_mark Ma Ra M2 R3 J4 s H locs) (hl : lv_has ls 2 [(1, .int x1), (0, .ref (base + a0))]), W p l e (md_rm 1 0 0) s m args below meth c H locs 0 0 Q (F0 m 2 ls []) := by
    intro n_2
    induction n_2 with
    | zero =>
      intro x1 M2 R3 J4 H locs ls h_x1 hm_2 hS hl
      exfalso
      have := (h_x1).1; have := (h_x1).2; omega
    | succ n_2 ih_2 =>
      intro x1 M2 R3 J4 H locs ls h_x1 hm_2 hS hl
      have f5 := hS.2.2.1
      have g6 := hS.2.2.2
      refine lv_iload_n hx hb dX0_mark_2 rfl (lv_at hl 0 rfl) ?_
      refine lv_aload_n hx hb dX0_mark_3 rfl (lv_at hl 1 rfl) ?_
      refine tw_getr hx hb hW hown hK hS f_X0_33_0 hz_a0 hk_a0 (t := 10) (n := 0) rfl dX0_mark_4 (fun b7 k8 hz_b7 hk_b7 hn_b7 => ?_)
      refine tw_geti hx hb hW hown hK hS f_X0_48_9 hz_b7 hk_b7 (lo := (-2147483648)) (hi := 10) rfl dX0_mark_7 (fun x11 k10 h9 => ?_)
      refine lv_icmp_ge (tgt := 61) hx hb dX0_mark_10 (by decide) (fun c12 => ?_) (fun c12 => ?_)
      · have q13 : x11.toInt ≤ x1.toInt := ti_le c12
        exact tw_endv hx hb hr hlocks hK hT hS hQ (trivial) dX0_mark_61
      · have q14 : x1.toInt < x11.toInt := ti_nle c12
        have h15 : iv 0 9 x1 := iv_ltL (y := x11) h_x1 h9 q14 (by decide)
        have h16 : iv 1 10 x11 := iv_gtL (y := x1) h9 h_x1 q14 (by decide)
        refine lv_aload_n hx hb dX0_mark_13 rfl (lv_at hl 1 rfl) ?_
        refine tw_getr hx hb hW hown hK hS f_X0_18_0 hz_a0 hk_a0 (t := 14) (n := 10) rfl dX0_mark_14 (fun b17 k18 hz_b17 hk_b17 hn_b17 => ?_)
        have hn_b17 := hn_b17 (by decide)
        refine lv_iload_n hx hb dX0_mark_17 rfl (lv_at hl 0 rfl) ?_
        refine lv_aload_n hx hb dX0_mark_18 rfl (lv_at hl 1 rfl) ?_
        refine tw_getrk hx hb hW hown hK hS f_X0_18_0 hz_a0 hk_a0 (b := b17) k18 dX0_mark_19 ?_
        refine lv_iload_n hx hb dX0_mark_22 rfl (lv_at hl 0 rfl) ?_
        refine tw_iald hx hb hK hS hz_b17 hk_b17 (Or.inl rfl) hn_b17 (lo := (-2147483648)) (hi := 2147483647) h15 ⟨by decide, by decide⟩ rg_u14 dX0_mark_23 (fun x21 k20 h19 => ?_)
        refine lv_aload_n hx hb dX0_mark_24 rfl (lv_at hl 1 rfl) ?_
        refine tw_getr hx hb hW hown hK hS f_X0_9_0 hz_a0 hk_a0 (t := 37) (n := 10) rfl dX0_mark_25 (fun b22 k23 hz_b22 hk_b22 hn_b22 => ?_)
        have hn_b22 := hn_b22 (by decide)
        refine lv_iload_n hx hb dX0_mark_28 rfl (lv_at hl 0 rfl) ?_
        refine tw_iald hx hb hK hS hz_b22 hk_b22 (Or.inr (by decide)) hn_b22 (lo := 0) (hi := 9999) h15 ⟨by decide, by decide⟩ rg_u37 dX0_mark_29 (fun x26 k25 h24 => ?_)
        refine va_mmin hx hb (hml.trans hl.1.symm) hown (hW _ w_5_209 rfl) (hW _ w_3_86 rfl) (hW _ w_1_13 rfl) (hW _ w_3_87 rfl) (Nat.le_of_ble_eq_true rfl) (Nat.le_of_ble_eq_true rfl) (Nat.le_of_ble_eq_true rfl) (Nat.le_of_ble_eq_true rfl) dX0_mark_30 ?_
        refine tw_mmin (lo := (-2147483648)) (hi := 9999) h19 h24 (by decide) (fun x29 e28 h27 => ?_)
        refine tw_iast hx hb hK hS hz_b17 hk_b17 (Or.inl rfl) hn_b17 h15 ⟨by decide, by decide⟩ h27 (rg_s14 ⟨by decide, by decide⟩) (jl := 0) (jh := 1999999) ⟨by decide, by decide⟩ rfl dX0_mark_33 (fun H locs M32 hS k30 f31 => ?_)
        refine lv_aload_n hx hb dX0_mark_34 rfl (lv_at hl 1 rfl) ?_
        refine tw_getr hx hb hW hown hK hS f_X0_21_0 hz_a0 hk_a0 (t := 14) (n := 10) rfl dX0_mark_35 (fun b33 k34 hz_b33 hk_b33 hn_b33 => ?_)
        have hn_b33 := hn_b33 (by decide)
        refine lv_iload_n hx hb dX0_mark_38 rfl (lv_at hl 0 rfl) ?_
        refine lv_aload_n hx hb dX0_mark_39 rfl (lv_at hl 1 rfl) ?_
        refine tw_getrk hx hb hW hown hK hS f_X0_21_0 hz_a0 hk_a0 (b := b33) k34 dX0_mark_40 ?_
        refine lv_iload_n hx hb dX0_mark_43 rfl (lv_at hl 0 rfl) ?_
        refine tw_iald hx hb hK hS hz_b33 hk_b33 (Or.inl rfl) hn_b33 (lo := (-2147483648)) (hi := 2147483647) h15 ⟨by decide, by decide⟩ rg_u14 dX0_mark_44 (fun x37 k36 h35 => ?_)
        refine lv_aload_n hx hb dX0_mark_45 rfl (lv_at hl 1 rfl) ?_
        refine tw_getrk hx hb hW hown hK hS f_X0_9_0 hz_a0 hk_a0 (b := b22) k23 dX0_mark_46 ?_
        refine lv_iload_n hx hb dX0_mark_49 rfl (lv_at hl 0 rfl) ?_
        have k38 : M32 b22 x1.toNatClampNeg = x26 := (Fr.kpa f31 hk_b22 rfl x1.toNatClampNeg).trans k25
        refine tw_ialk hx hb hK hS hz_b22 hk_b22 (Or.inr (by decide)) hn_b22 h15 ⟨by decide, by decide⟩ (v := x26) k38 dX0_mark_50 ?_
        refine va_mmax hx hb (hml.trans hl.1.symm) hown (hW _ w_5_210 rfl) (hW _ w_4_75 rfl) (hW _ w_1_13 rfl) (hW _ w_4_76 rfl) (Nat.le_of_ble_eq_true rfl) (Nat.le_of_ble_eq_true rfl) (Nat.le_of_ble_eq_true rfl) (Nat.le_of_ble_eq_true rfl) dX0_mark_51 ?_
        refine tw_mmax (lo := 0) (hi := 2147483647) h35 h24 (by decide) (fun x41 e40 h39 => ?_)
        refine tw_iast hx hb hK hS hz_b33 hk_b33 (Or.inl rfl) hn_b33 h15 ⟨by decide, by decide⟩ h39 (rg_s14 ⟨by decide, by decide⟩) (jl := 0) (jh := 1999999) ⟨by decide, by decide⟩ rfl dX0_mark_54 (fun H locs M44 hS k42 f43 => ?_)
        refine tw_iinc (lv' := fun x47 => [(1, .int x47), (0, .ref (base + a0))]) (lo := 1) (hi := 10) hx hb dX0_mark_55 hl (k := 0) rfl h15 (by decide) ⟨by decide, by decide⟩ ⟨by decide, by decide⟩ (by decide) (fun _ => rfl) (fun x47 ls e46 h45 hl => ?_)
        refine lv_goto (tgt := 2) hx hb dX0_mark_58 (by decide) ?_
        have hm48 : 10 - x47.toInt < (n_2 : Int) := by
          have := (h15).1; have := (h15).2; have := (h45).1; have := (h45).2; omega
        exact ih_2 x47 M44 R3 J4 H locs _ (iv_mono h45 (by decide) (by decide)) hm48 hS hl
  have hm49 : 10 - (0 : Int32).toInt < (((11 : Nat) : Int) : Int) := by
    have : (0 : Int32).toInt = 0 := (by decide); omega
  exact W2_2 11 0 Ma Ra Ja s.heap [] _ (iv_mono (iv_c (c := 0) (n := 0) (by decide)) (by decide) (by decide)) hm49 hS hl
def Lt_X0_sumOfEnds : WL := []
def LRt_X0_sumOfEnds : WL := []
set_option maxRecDepth 100000 in
set_option maxHeartbeats 4000000 in
theorem t_X0_sumOfEnds (l : Launch) (D : va_G) (cy : Nat → ClassId) (tx : (Nat → Nat) × (Nat → Nat)) (base Z : Nat) (K N : Nat → Nat) (Ma : MT) (Ra : RT) (Ja : JT) (hTy : Ty Z K N Ma Ra) (a0 : Nat) (hz_a0 : a0 < Z) (hk_a0 : K a0 = 1) (a1 : Int32) (h_a1 : iv 0 7775 a1) (a2 : Int32) (h_a2 : iv 1 31 a2) (en : Nat) (k_en : Ra a0 6 = some en) (gm : Nat) (hgs : gm ≤ 5 ∧ 0 ≤ a2.toInt ∧ a2.toInt < (2 : Int) ^ gm) (hwN : 5 * a1.toInt + 5 ≤ ((N en : Nat) : Int)) : Met l yX0_sumOfEnds [Cond.code yX0_sumOfEnds cX0_sumOfEnds 6 (some .int)] (md_rm 1 0 0) (va_Pc [.ref (base + a0), .int a1, .int a2] (md_U D cy tx base Z K N Ma Ra Ja)) (mQi D cy tx base (fun r u => TP Z K N Lt_X0_sumOfEnds LRt_X0_sumOfEnds Ma Ra u ∧ (iv 0 49995 r ∧ r.toInt ≤ rsum Ma en a1.toInt.toNat gm))) 0 0 (fun q => base ≤ q) := by
  refine tw_ofW (L := Lt_X0_sumOfEnds) (LR := LRt_X0_sumOfEnds) (by decide) (Nat.le_of_ble_eq_true rfl) hTy ?_
  intro p e s m args below meth c Q ls hx hb hr hlocks hown hml hW hK hT hS hQ hl
  have hl : lv_has ls 6 [(0, .ref (base + a0)), (1, .int a1), (2, .int a2)] := hl
  obtain ⟨hz_en, hk_en, hn_en⟩ := hTy.refn hz_a0 hk_a0 (show rtR 1 6 = (38, 0, 0) from rfl) k_en
  refine lv_iconst (v := 0) hx hb dX0_sumOfEnds_0 (by decide) ?_
  refine lv_istore_n (lv' := [(3, .int 0), (0, .ref (base + a0)), (1, .int a1), (2, .int a2)]) hx hb dX0_sumOfEnds_1 rfl hl (by decide) rfl (fun ls hl => ?_)
  refine lv_iload_n hx hb dX0_sumOfEnds_2 rfl (lv_at hl 2 rfl) ?_
  refine lv_iconst (v := 5) hx hb dX0_sumOfEnds_3 (by decide) ?_
  refine tw_imulc (k := 5) (lo := 0) (hi := 38875) hx hb h_a1 (by decide) (by decide) ⟨by decide, by decide⟩ ⟨by decide, by decide⟩ dX0_sumOfEnds_4 (fun x3 e2 h1 => ?_)
  refine lv_istore (lv' := [(4, .int x3), (3, .int 0), (0, .ref (base + a0)), (1, .int a1), (2, .int a2)]) hx hb dX0_sumOfEnds_5 hl (by decide) rfl (fun ls hl => ?_)
  refine lv_iconst (v := 0) hx hb dX0_sumOfEnds_7 (by decide) ?_
  refine lv_istore (lv' := [(5, .int 0), (4, .int x3), (3, .int 0), (0, .ref (base + a0)), (1, .int a1), (2, .int a2)]) hx hb dX0_sumOfEnds_8 hl (by decide) rfl (fun ls hl => ?_)
  have W10_6 : ∀ (n_6 : Nat) (x4 : Int32) (x5 : Int32) (M6 : MT) (R7 : RT) (J8 : JT) (H : Heap) (locs : List Loc) (ls : Array Slot) (h_x4 : iv 0 49995 x4) (h_x5 : iv 0 5 x5) (w0_6 : x4.toInt ≤ 9999 * x5.toInt) (w1_6 : x4.toInt ≤ rsum Ma en a1.toInt.toNat (min x5.toInt.toNat gm)) (hm_6 : 5 - x5.toInt < (n_6 : Int)) (hS : SB D cy base Z K N Lt_X0_sumOfEnds LRt_X0_sumOfEnds Ma Ra M6 R7 J8 s H locs) (hl : lv_has ls 6 [(3, .int x4), (5, .int x5), (4, .int x3), (0, .ref (base + a0)), (1, .int a1), (2, .int a2)]), W p l e (md_rm 1 0 0) s m args below meth c H locs 0 0 Q (F0 m 10 ls []) := by
    intro n_6
    induction n_6 with
    | zero =>
      intro x4 x5 M6 R7 J8 H locs ls h_x4 h_x5 w0_6 w1_6 hm_6 hS hl
      exfalso
      have := (h_a1).1; have := (h_a1).2; have := (h_a2).1; have := (h_a2).2; have := (h1).1; have := (h1).2; have := (h_x4).1; have := (h_x4).2; have := (h_x5).1; have := (h_x5).2; omega
    | succ n_6 ih_6 =>
      intro x4 x5 M6 R7 J8 H locs ls h_x4 h_x5 w0_6 w1_6 hm_6 hS hl
      have f9 := hS.2.2.1
      have g10 := hS.2.2.2
      refine lv_iload hx hb dX0_sumOfEnds_10 (lv_at hl 1 rfl) ?_
      refine lv_iconst (v := 5) hx hb dX0_sumOfEnds_12 (by decide) ?_
      refine lv_icmp_ge (tgt := 45) hx hb dX0_sumOfEnds_13 (by decide) (fun c11 => ?_) (fun c11 => ?_)
      · have q12 : 5 ≤ x5.toInt := ti_le c11
        have h13 : iv 5 5 x5 := iv_geL (y := 5) h_x5 (iv_c (c := 5) (n := 5) (by decide)) q12 (by decide)
        refine lv_iload_n hx hb dX0_sumOfEnds_45 rfl (lv_at hl 0 rfl) ?_
        have q14 : x5.toInt = 5 := by
          have := (h_a1).1; have := (h_a1).2; have := (h_a2).1; have := (h_a2).2; have := (h1).1; have := (h1).2; have := (h_x4).1; have := (h_x4).2; have := (h13).1; have := (h13).2; omega
        exact tw_endi hx hb hr hlocks hK hT hS hQ (⟨h_x4, (rs_end w1_6 q14 hgs.1)⟩) dX0_sumOfEnds_46
      · have q15 : x5.toInt < 5 := ti_nle c11
        have h16 : iv 0 4 x5 := iv_ltL (y := 5) h_x5 (iv_c (c := 5) (n := 5) (by decide)) q15 (by decide)
        refine lv_iload_n hx hb dX0_sumOfEnds_16 rfl (lv_at hl 5 rfl) ?_
        refine lv_iload hx hb dX0_sumOfEnds_17 (lv_at hl 1 rfl) ?_
        refine lv_ishr hx hb dX0_sumOfEnds_19 ?_
        refine lv_topi (fun x19 e18 => ?_)
        have h17 := iv_any x19
        refine lv_iconst (v := 1) hx hb dX0_sumOfEnds_20 (by decide) ?_
        refine lv_iand hx hb dX0_sumOfEnds_21 ?_
        refine lv_topi (fun x22 e21 => ?_)
        have h20 := iv_any x22
        refine lv_iconst (v := 1) hx hb dX0_sumOfEnds_22 (by decide) ?_
        refine lv_icmp_ne (tgt := 39) hx hb dX0_sumOfEnds_23 (by decide) (fun c23 => ?_) (fun c23 => ?_)
        · have q24 : ¬ x22.toInt = 1 := ti_ne c23
          refine tw_iinc (lv' := fun x27 => [(5, .int x27), (3, .int x4), (4, .int x3), (0, .ref (base + a0)), (1, .int a1), (2, .int a2)]) (lo := 1) (hi := 5) hx hb dX0_sumOfEnds_39 hl (k := 1) rfl h16 (by decide) ⟨by decide, by decide⟩ ⟨by decide, by decide⟩ (by decide) (fun _ => rfl) (fun x27 ls e26 h25 hl => ?_)
          refine lv_goto (tgt := 10) hx hb dX0_sumOfEnds_42 (by decide) ?_
          have w28 : x4.toInt ≤ 9999 * x27.toInt := by
            have := (h_a1).1; have := (h_a1).2; have := (h_a2).1; have := (h_a2).2; have := (h25).1; have := (h25).2; have := (h1).1; have := (h1).2; have := (h_x4).1; have := (h_x4).2; have := (h16).1; have := (h16).2; omega
          have q30 : x27.toInt = x5.toInt + 1 := by
            have := (h_a1).1; have := (h_a1).2; have := (h_a2).1; have := (h_a2).2; have := (h25).1; have := (h25).2; have := (h1).1; have := (h1).2; have := (h_x4).1; have := (h_x4).2; have := (h16).1; have := (h16).2; omega
          have w29 : x4.toInt ≤ rsum Ma en a1.toInt.toNat (min x27.toInt.toNat gm) := rs_skip (ends_nn hTy hz_en hk_en) w1_6 q30
          have hm31 : 5 - x27.toInt < (n_6 : Int) := by
            have := (h_a1).1; have := (h_a1).2; have := (h_a2).1; have := (h_a2).2; have := (h25).1; have := (h25).2; have := (h1).1; have := (h1).2; have := (h_x4).1; have := (h_x4).2; have := (h16).1; have := (h16).2; omega
          exact ih_6 x4 x27 M6 R7 J8 H locs _ h_x4 (iv_mono h25 (by decide) (by decide)) w28 w29 hm31 hS (lv_sub hl [1, 0, 2, 3, 4, 5] rfl)
        · have q32 : x22.toInt = 1 := ti_eq c23
          have h33 : iv 1 1 x22 := ⟨by have := (h20).1; have := ((iv_c (c := 1) (n := 1) (by decide))).1; omega, by have := (h20).2; have := ((iv_c (c := 1) (n := 1) (by decide))).2; omega⟩
          refine lv_iload_n hx hb dX0_sumOfEnds_26 rfl (lv_at hl 0 rfl) ?_
          refine lv_aload_n hx hb dX0_sumOfEnds_27 rfl (lv_at hl 3 rfl) ?_
          have k34 : R7 a0 6 = some en := (Fr.kp (k := 6) g10 hk_a0 rfl).trans k_en
          refine tw_getrk hx hb hW hown hK hS f_X0_24_0 hz_a0 hk_a0 (b := en) k34 dX0_sumOfEnds_28 ?_
          refine lv_iload hx hb dX0_sumOfEnds_31 (lv_at hl 2 rfl) ?_
          refine lv_iload hx hb dX0_sumOfEnds_33 (lv_at hl 1 rfl) ?_
          refine tw_iadd (lo := 0) (hi := 38879) hx hb h1 h16 ⟨by decide, by decide⟩ ⟨by decide, by decide⟩ dX0_sumOfEnds_35 (fun x37 e36 h35 => ?_)
          refine tw_ialn hx hb hK hS hz_en hk_en (Or.inr (by decide)) (by have := (h_a1).1; have := (h_a1).2; have := (h_a2).1; have := (h_a2).2; have := (h1).1; have := (h1).2; have := (h35).1; have := (h35).2; have := (h_x4).1; have := (h_x4).2; have := (h16).1; have := (h16).2; omega) (by have := (h_a1).1; have := (h_a1).2; have := (h_a2).1; have := (h_a2).2; have := (h1).1; have := (h1).2; have := (h35).1; have := (h35).2; have := (h_x4).1; have := (h_x4).2; have := (h16).1; have := (h16).2; omega) (lo := 0) (hi := 9999) rg_u38 dX0_sumOfEnds_36 (fun x40 k39 h38 => ?_)
          refine tw_iadd (lo := 0) (hi := 59994) hx hb h_x4 h38 ⟨by decide, by decide⟩ ⟨by decide, by decide⟩ dX0_sumOfEnds_37 (fun x43 e42 h41 => ?_)
          refine lv_istore_n (lv' := [(3, .int x43), (5, .int x5), (4, .int x3), (0, .ref (base + a0)), (1, .int a1), (2, .int a2)]) hx hb dX0_sumOfEnds_38 rfl hl (by decide) rfl (fun ls hl => ?_)
          refine tw_iinc (lv' := fun x46 => [(5, .int x46), (3, .int x43), (4, .int x3), (0, .ref (base + a0)), (1, .int a1), (2, .int a2)]) (lo := 1) (hi := 5) hx hb dX0_sumOfEnds_39 hl (k := 1) rfl h16 (by decide) ⟨by decide, by decide⟩ ⟨by decide, by decide⟩ (by decide) (fun _ => rfl) (fun x46 ls e45 h44 hl => ?_)
          refine lv_goto (tgt := 10) hx hb dX0_sumOfEnds_42 (by decide) ?_
          have h47 : iv 0 49995 x43 := by
            have := (h_a1).1; have := (h_a1).2; have := (h_a2).1; have := (h_a2).2; have := (h1).1; have := (h1).2; have := (h35).1; have := (h35).2; have := (h_x4).1; have := (h_x4).2; have := (h38).1; have := (h38).2; have := (h41).1; have := (h41).2; have := (h44).1; have := (h44).2; have := (h16).1; have := (h16).2; exact ⟨by omega, by omega⟩
          have w48 : x43.toInt ≤ 9999 * x46.toInt := by
            have := (h_a1).1; have := (h_a1).2; have := (h_a2).1; have := (h_a2).2; have := (h1).1; have := (h1).2; have := (h35).1; have := (h35).2; have := (h_x4).1; have := (h_x4).2; have := (h38).1; have := (h38).2; have := (h41).1; have := (h41).2; have := (h44).1; have := (h44).2; have := (h16).1; have := (h16).2; omega
          have q50 : x46.toInt = x5.toInt + 1 := by
            have := (h_a1).1; have := (h_a1).2; have := (h_a2).1; have := (h_a2).2; have := (h1).1; have := (h1).2; have := (h35).1; have := (h35).2; have := (h_x4).1; have := (h_x4).2; have := (h41).1; have := (h41).2; have := (h44).1; have := (h44).2; have := (h16).1; have := (h16).2; omega
          have q51 : x22.toInt = 1 := by
            have := (h_a1).1; have := (h_a1).2; have := (h_a2).1; have := (h_a2).2; have := (h33).1; have := (h33).2; omega
          have q52 : 0 ≤ x5.toInt := by
            have := (h_a1).1; have := (h_a1).2; have := (h_a2).1; have := (h_a2).2; have := (h1).1; have := (h1).2; have := (h35).1; have := (h35).2; have := (h_x4).1; have := (h_x4).2; have := (h41).1; have := (h41).2; have := (h44).1; have := (h44).2; have := (h16).1; have := (h16).2; omega
          have q53 : 0 ≤ a1.toInt := by
            have := (h_a1).1; have := (h_a1).2; have := (h_a2).1; have := (h_a2).2; have := (h1).1; have := (h1).2; have := (h35).1; have := (h35).2; have := (h_x4).1; have := (h_x4).2; have := (h41).1; have := (h41).2; have := (h44).1; have := (h44).2; have := (h16).1; have := (h16).2; omega
          have q54 : x37.toInt = 5 * a1.toInt + x5.toInt := by
            have := (h_a1).1; have := (h_a1).2; have := (h_a2).1; have := (h_a2).2; have := (h1).1; have := (h1).2; have := (h35).1; have := (h35).2; have := (h_x4).1; have := (h_x4).2; have := (h41).1; have := (h41).2; have := (h44).1; have := (h44).2; have := (h16).1; have := (h16).2; omega
          have q55 : x43.toInt = x4.toInt + x40.toInt := by
            have := (h_a1).1; have := (h_a1).2; have := (h_a2).1; have := (h_a2).2; have := (h1).1; have := (h1).2; have := (h35).1; have := (h35).2; have := (h_x4).1; have := (h_x4).2; have := (h38).1; have := (h38).2; have := (h41).1; have := (h41).2; have := (h44).1; have := (h44).2; have := (h16).1; have := (h16).2; omega
          have w49 : x43.toInt ≤ rsum Ma en a1.toInt.toNat (min x46.toInt.toNat gm) := rs_add w1_6 (bit_lt e18 e21 q51 hgs.2.1 hgs.2.2 (iv_mono h16 (lo := 0) (hi := 5) (by decide) (by decide))) ⟨q52, q53⟩ q50 q54 (by rw [Fr.nil f9 rfl]; exact k39) q55
          have hm56 : 5 - x46.toInt < (n_6 : Int) := by
            have := (h_a1).1; have := (h_a1).2; have := (h_a2).1; have := (h_a2).2; have := (h1).1; have := (h1).2; have := (h35).1; have := (h35).2; have := (h_x4).1; have := (h_x4).2; have := (h41).1; have := (h41).2; have := (h44).1; have := (h44).2; have := (h16).1; have := (h16).2; omega
          exact ih_6 x43 x46 M6 R7 J8 H locs _ h47 (iv_mono h44 (by decide) (by decide)) w48 w49 hm56 hS (lv_sub hl [1, 0, 2, 3, 4, 5] rfl)
  have w57 : (0 : Int32).toInt ≤ 9999 * (0 : Int32).toInt := by
    have := (h_a1).1; have := (h_a1).2; have := (h_a2).1; have := (h_a2).2; have : (0 : Int32).toInt = 0 := (by decide); omega
  have w58 : (0 : Int32).toInt ≤ rsum Ma en a1.toInt.toNat (min (0 : Int32).toInt.toNat gm) := rs0
  have hm59 : 5 - (0 : Int32).toInt < (((6 : Nat) : Int) : Int) := by
    have := (h_a1).1; have := (h_a1).2; have := (h_a2).1; have := (h_a2).2; have : (0 : Int32).toInt = 0 := (by decide); omega
  exact W10_6 6 0 0 Ma Ra Ja s.heap [] _ (iv_mono (iv_c (c := 0) (n := 0) (by decide)) (by decide) (by decide)) (iv_mono (iv_c (c := 0) (n := 0) (by decide)) (by decide) (by decide)) w57 w58 hm59 hS (lv_sub hl [2, 0, 1, 3, 4, 5] rfl)
def Lt_X0_mostWithOneSum : WL := [(39, 0, 2000000), (40, 0, 2000000)]
def LRt_X0_mostWithOneSum : WL := []
set_option maxRecDepth 100000 in
set_option maxHeartbeats 4000000 in
theorem t_X0_mostWithOneSum (l : Launch) (D : va_G) (cy : Nat → ClassId) (tx : (Nat → Nat) × (Nat → Nat)) (base Z : Nat) (K N : Nat → Nat) (Ma : MT) (Ra : RT) (Ja : JT) (hTy : Ty Z K N Ma Ra) (a0 : Nat) (hz_a0 : a0 < Z) (hk_a0 : K a0 = 1) (a1 : Int32) (h_a1 : iv 1 31 a1) (en : Nat) (k_en : Ra a0 6 = some en) (ta : Nat) (k_ta : Ra a0 7 = some ta) (su : Nat) (k_su : Ra a0 8 = some su) (fo : Int32) (k_fo : Ma a0 10 = fo) (h_fo : iv 0 7776 fo) (hi : Int32) (k_hi : Ma a0 9 = hi) (h_hi : iv 0 49995 hi) (gm : Nat) (hgs : gm ≤ 5 ∧ 0 ≤ a1.toInt ∧ a1.toInt < (2 : Int) ^ gm) (hBK : BKI N Ma a0 en gm fo.toInt.toNat) (hta : hi.toInt + 1 ≤ ((N ta : Nat) : Int)) (hsu : fo.toInt ≤ ((N su : Nat) : Int)) : Met l yX0_mostWithOneSum [Cond.code yX0_mostWithOneSum cX0_mostWithOneSum 5 (some .int)] (md_rm 2 0 0) (va_Pc [.ref (base + a0), .int a1] (md_U D cy tx base Z K N Ma Ra Ja)) (mQi D cy tx base (fun r u => TP Z K N Lt_X0_mostWithOneSum LRt_X0_mostWithOneSum Ma Ra u ∧ (iv (-2147483648) 2147483647 r))) 0 0 (fun q => base ≤ q) := by
  refine tw_ofW (L := Lt_X0_mostWithOneSum) (LR := LRt_X0_mostWithOneSum) (by decide) (Nat.le_of_ble_eq_true rfl) hTy ?_
  intro p e s m args below meth c Q ls hx hb hr hlocks hown hml hW hK hT hS hQ hl
  have hl : lv_has ls 5 [(0, .ref (base + a0)), (1, .int a1)] := hl
  obtain ⟨hz_en, hk_en, hn_en⟩ := hTy.refn hz_a0 hk_a0 (show rtR 1 6 = (38, 0, 0) from rfl) k_en
  obtain ⟨hz_ta, hk_ta, hn_ta⟩ := hTy.refn hz_a0 hk_a0 (show rtR 1 7 = (39, 0, 0) from rfl) k_ta
  obtain ⟨hz_su, hk_su, hn_su⟩ := hTy.refn hz_a0 hk_a0 (show rtR 1 8 = (40, 0, 0) from rfl) k_su
  have hB5 : 5 * fo.toInt ≤ ((N en : Nat) : Int) := by have := hBK.1; have := (h_fo).1; omega
  refine lv_iconst (v := 0) hx hb dX0_mostWithOneSum_0 (by decide) ?_
  refine lv_istore_n (lv' := [(2, .int 0), (0, .ref (base + a0)), (1, .int a1)]) hx hb dX0_mostWithOneSum_1 rfl hl (by decide) rfl (fun ls hl => ?_)
  refine lv_iconst (v := 0) hx hb dX0_mostWithOneSum_2 (by decide) ?_
  refine lv_istore_n (lv' := [(3, .int 0), (2, .int 0), (0, .ref (base + a0)), (1, .int a1)]) hx hb dX0_mostWithOneSum_3 rfl hl (by decide) rfl (fun ls hl => ?_)
  have W4_3 : ∀ (n_3 : Nat) (x1 : Int32) (x2 : Int32) (M3 : MT) (R4 : RT) (J5 : JT) (H : Heap) (locs : List Loc) (ls : Array Slot) (h_x1 : iv (-2147483648) 2147483647 x1) (h_x2 : iv 0 7776 x2) (w0_3 : SUB M3 su hi.toInt x2.toInt.toNat) (w1_3 : x2.toInt ≤ fo.toInt) (hm_3 : 7776 - x2.toInt < (n_3 : Int)) (hS : SB D cy base Z K N Lt_X0_mostWithOneSum LRt_X0_mostWithOneSum Ma Ra M3 R4 J5 s H locs) (hl : lv_has ls 5 [(2, .int x1), (3, .int x2), (0, .ref (base + a0)), (1, .int a1)]), W p l e (md_rm 2 0 0) s m args below meth c H locs 0 0 Q (F0 m 4 ls []) := by
    intro n_3
    induction n_3 with
    | zero =>
      intro x1 x2 M3 R4 J5 H locs ls h_x1 h_x2 w0_3 w1_3 hm_3 hS hl
      exfalso
      have := (h_a1).1; have := (h_a1).2; have := (h_fo).1; have := (h_fo).2; have := (h_hi).1; have := (h_hi).2; have := (h_x2).1; have := (h_x2).2; omega
    | succ n_3 ih_3 =>
      intro x1 x2 M3 R4 J5 H locs ls h_x1 h_x2 w0_3 w1_3 hm_3 hS hl
      have f6 := hS.2.2.1
      have g7 := hS.2.2.2
      refine lv_iload_n hx hb dX0_mostWithOneSum_4 rfl (lv_at hl 1 rfl) ?_
      refine lv_aload_n hx hb dX0_mostWithOneSum_5 rfl (lv_at hl 2 rfl) ?_
      have k8 : M3 a0 10 = fo := (Fr.kp (k := 10) f6 hk_a0 rfl).trans k_fo
      refine tw_getk hx hb hW hown hK hS f_X0_41_0 hz_a0 hk_a0 (v := fo) k8 dX0_mostWithOneSum_6 ?_
      refine lv_icmp_ge (tgt := 68) hx hb dX0_mostWithOneSum_9 (by decide) (fun c9 => ?_) (fun c9 => ?_)
      · have q10 : fo.toInt ≤ x2.toInt := ti_le c9
        refine lv_iconst (v := 0) hx hb dX0_mostWithOneSum_68 (by decide) ?_
        refine lv_istore_n (lv' := [(3, .int 0), (2, .int x1), (0, .ref (base + a0)), (1, .int a1)]) hx hb dX0_mostWithOneSum_69 rfl hl (by decide) rfl (fun ls hl => ?_)
        have W70_12 : ∀ (n_12 : Nat) (x11 : Int32) (M12 : MT) (R13 : RT) (J14 : JT) (H : Heap) (locs : List Loc) (ls : Array Slot) (h_x11 : iv 0 7776 x11) (w0_12 : SUB M12 su hi.toInt fo.toInt.toNat) (w1_12 : x11.toInt ≤ fo.toInt) (hm_12 : 7776 - x11.toInt < (n_12 : Int)) (hS : SB D cy base Z K N Lt_X0_mostWithOneSum LRt_X0_mostWithOneSum Ma Ra M12 R13 J14 s H locs) (hl : lv_has ls 5 [(3, .int x11), (2, .int x1), (0, .ref (base + a0)), (1, .int a1)]), W p l e (md_rm 2 0 0) s m args below meth c H locs 0 0 Q (F0 m 70 ls []) := by
          intro n_12
          induction n_12 with
          | zero =>
            intro x11 M12 R13 J14 H locs ls h_x11 w0_12 w1_12 hm_12 hS hl
            exfalso
            have := (h_a1).1; have := (h_a1).2; have := (h_fo).1; have := (h_fo).2; have := (h_hi).1; have := (h_hi).2; have := (h_x11).1; have := (h_x11).2; have := (h_x2).1; have := (h_x2).2; omega
          | succ n_12 ih_12 =>
            intro x11 M12 R13 J14 H locs ls h_x11 w0_12 w1_12 hm_12 hS hl
            have f15 := hS.2.2.1
            have g16 := hS.2.2.2
            refine lv_iload_n hx hb dX0_mostWithOneSum_70 rfl (lv_at hl 0 rfl) ?_
            refine lv_aload_n hx hb dX0_mostWithOneSum_71 rfl (lv_at hl 2 rfl) ?_
            have k17 : M12 a0 10 = fo := (Fr.kp (k := 10) f15 hk_a0 rfl).trans k_fo
            refine tw_getk hx hb hW hown hK hS f_X0_41_0 hz_a0 hk_a0 (v := fo) k17 dX0_mostWithOneSum_72 ?_
            refine lv_icmp_ge (tgt := 96) hx hb dX0_mostWithOneSum_75 (by decide) (fun c18 => ?_) (fun c18 => ?_)
            · have q19 : fo.toInt ≤ x11.toInt := ti_le c18
              refine lv_iload_n hx hb dX0_mostWithOneSum_96 rfl (lv_at hl 1 rfl) ?_
              exact tw_endi hx hb hr hlocks hK hT hS hQ (h_x1) dX0_mostWithOneSum_97
            · have q20 : x11.toInt < fo.toInt := ti_nle c18
              have h21 : iv 0 7775 x11 := iv_ltL (y := fo) h_x11 h_fo q20 (by decide)
              have h22 : iv 1 7776 fo := iv_gtL (y := x11) h_fo h_x11 q20 (by decide)
              refine lv_aload_n hx hb dX0_mostWithOneSum_78 rfl (lv_at hl 2 rfl) ?_
              have k23 : R13 a0 7 = some ta := (Fr.kp (k := 7) g16 hk_a0 rfl).trans k_ta
              refine tw_getrk hx hb hW hown hK hS f_X0_27_0 hz_a0 hk_a0 (b := ta) k23 dX0_mostWithOneSum_79 ?_
              refine lv_aload_n hx hb dX0_mostWithOneSum_82 rfl (lv_at hl 2 rfl) ?_
              have k24 : R13 a0 8 = some su := (Fr.kp (k := 8) g16 hk_a0 rfl).trans k_su
              refine tw_getrk hx hb hW hown hK hS f_X0_30_0 hz_a0 hk_a0 (b := su) k24 dX0_mostWithOneSum_83 ?_
              refine lv_iload_n hx hb dX0_mostWithOneSum_86 rfl (lv_at hl 0 rfl) ?_
              refine tw_ialn hx hb hK hS hz_su hk_su (Or.inr (by decide)) (by have := (h_a1).1; have := (h_a1).2; have := (h22).1; have := (h22).2; have := (h_hi).1; have := (h_hi).2; have := (h21).1; have := (h21).2; have := (h_x2).1; have := (h_x2).2; omega) (by have := (h_a1).1; have := (h_a1).2; have := (h22).1; have := (h22).2; have := (h_hi).1; have := (h_hi).2; have := (h21).1; have := (h21).2; have := (h_x2).1; have := (h_x2).2; omega) (lo := (-2147483648)) (hi := 2147483647) rg_u40 dX0_mostWithOneSum_87 (fun x27 k26 h25 => ?_)
              refine lv_iconst (v := 0) hx hb dX0_mostWithOneSum_88 (by decide) ?_
              have q28 : 0 ≤ x27.toInt ∧ x27.toInt ≤ hi.toInt := by have q1 := w0_12 x11.toNatClampNeg (by show x11.toInt.toNat < _; have := (h21).1; omega); rw [k26] at q1; exact q1
              refine tw_iasn hx hb hK hS hz_ta hk_ta (Or.inr (by decide)) (by have := (h_a1).1; have := (h_a1).2; have := (h22).1; have := (h22).2; have := (h_hi).1; have := (h_hi).2; have := (h25).1; have := (h25).2; omega) (by have := (h_a1).1; have := (h_a1).2; have := (h22).1; have := (h22).2; have := (h_hi).1; have := (h_hi).2; have := (h25).1; have := (h25).2; omega) (iv_c (c := 0) (n := 0) (by decide)) (rg_s39 ⟨by decide, by decide⟩) rfl dX0_mostWithOneSum_89 (fun H locs M32 hS k29 f31 k30 => ?_)
              refine tw_iinc (lv' := fun x35 => [(3, .int x35), (2, .int x1), (0, .ref (base + a0)), (1, .int a1)]) (lo := 1) (hi := 7776) hx hb dX0_mostWithOneSum_90 hl (k := 0) rfl h21 (by decide) ⟨by decide, by decide⟩ ⟨by decide, by decide⟩ (by decide) (fun _ => rfl) (fun x35 ls e34 h33 hl => ?_)
              refine lv_goto (tgt := 70) hx hb dX0_mostWithOneSum_93 (by decide) ?_
              have w36 : SUB M32 su hi.toInt fo.toInt.toNat := SUB.to w0_12 (Nat.le_refl _) (fun j => (Fr.kpa f31 hk_su rfl j))
              have w37 : x35.toInt ≤ fo.toInt := by
                have := (h_a1).1; have := (h_a1).2; have := (h22).1; have := (h22).2; have := (h_hi).1; have := (h_hi).2; have := (h21).1; have := (h21).2; have := (h_x2).1; have := (h_x2).2; have := (h33).1; have := (h33).2; omega
              have hm38 : 7776 - x35.toInt < (n_12 : Int) := by
                have := (h_a1).1; have := (h_a1).2; have := (h22).1; have := (h22).2; have := (h_hi).1; have := (h_hi).2; have := (h21).1; have := (h21).2; have := (h_x2).1; have := (h_x2).2; have := (h33).1; have := (h33).2; omega
              exact ih_12 x35 M32 R13 J14 H locs _ (iv_mono h33 (by decide) (by decide)) w36 w37 hm38 hS hl
        have q40 : fo.toInt.toNat ≤ x2.toInt.toNat := by
          have := (h_a1).1; have := (h_a1).2; have := (h_fo).1; have := (h_fo).2; have := (h_hi).1; have := (h_hi).2; have := (h_x2).1; have := (h_x2).2; omega
        have w39 : SUB M3 su hi.toInt fo.toInt.toNat := SUB.to w0_3 q40 (fun j => rfl)
        have w41 : (0 : Int32).toInt ≤ fo.toInt := by
          have := (h_a1).1; have := (h_a1).2; have := (h_fo).1; have := (h_fo).2; have := (h_hi).1; have := (h_hi).2; have := (h_x2).1; have := (h_x2).2; have : (0 : Int32).toInt = 0 := (by decide); omega
        have hm42 : 7776 - (0 : Int32).toInt < (((7777 : Nat) : Int) : Int) := by
          have := (h_a1).1; have := (h_a1).2; have := (h_fo).1; have := (h_fo).2; have := (h_hi).1; have := (h_hi).2; have : (0 : Int32).toInt = 0 := (by decide); omega
        exact W70_12 7777 0 M3 R4 J5 H locs _ (iv_mono (iv_c (c := 0) (n := 0) (by decide)) (by decide) (by decide)) w39 w41 hm42 hS hl
      · have q43 : x2.toInt < fo.toInt := ti_nle c9
        have h44 : iv 0 7775 x2 := iv_ltL (y := fo) h_x2 h_fo q43 (by decide)
        have h45 : iv 1 7776 fo := iv_gtL (y := x2) h_fo h_x2 q43 (by decide)
        refine lv_aload_n hx hb dX0_mostWithOneSum_12 rfl (lv_at hl 2 rfl) ?_
        refine lv_iload_n hx hb dX0_mostWithOneSum_13 rfl (lv_at hl 1 rfl) ?_
        refine lv_iload_n hx hb dX0_mostWithOneSum_14 rfl (lv_at hl 3 rfl) ?_
        have k46 : R4 a0 6 = some en := (Fr.kp (k := 6) g7 hk_a0 rfl).trans k_en
        have q47 : 5 * x2.toInt + 5 ≤ ((N en : Nat) : Int) := by
          have := (h_a1).1; have := (h_a1).2; have := (h45).1; have := (h45).2; have := (h_hi).1; have := (h_hi).2; have := (h44).1; have := (h44).2; omega
        refine tw_goi hS (md_runV (As := [.int x2, .int a1]) (rest := []) hx hb hml hown hW hK hT hS.1 (t_X0_sumOfEnds l D cy tx base Z K N M3 R4 J5 hS.2.1 a0 hz_a0 hk_a0 x2 h44 a1 h_a1 en k46 (gm) hgs q47) s_X0_112 ⟨rfl, rfl, ⟨Nat.le_of_ble_eq_true rfl, Nat.le_of_ble_eq_true rfl⟩, ⟨Nat.le_of_ble_eq_true rfl, Nat.le_of_ble_eq_true rfl⟩⟩ hz_a0 hk_a0 (by decide) rfl rfl hl.1 rfl (Nat.le_of_ble_eq_true rfl) dX0_mostWithOneSum_15) rfl rfl (fun x54 H locs M51 R52 J50 hS f48 g49 E53 => ?_)
        have eM51 := Fr.nil f48 rfl
        subst eM51
        have eR52 := Fr.nil g49 rfl
        subst eR52
        obtain ⟨h_x54, p55⟩ := E53
        have q56 : x54.toInt ≤ hi.toInt := by
          have q1 := hBK.2 x2.toInt.toNat (by have := (h44).1; omega); have q2 := p55; rw [rsum_eq (M := Ma) (e := en) (fun j _ => Fr.kpa f6 hk_en rfl _)] at q2; rw [k_hi] at q1; omega
        refine lv_istore (lv' := [(4, .int x54), (2, .int x1), (3, .int x2), (0, .ref (base + a0)), (1, .int a1)]) hx hb dX0_mostWithOneSum_18 hl (by decide) rfl (fun ls hl => ?_)
        refine lv_aload_n hx hb dX0_mostWithOneSum_20 rfl (lv_at hl 3 rfl) ?_
        have k57 : R4 a0 8 = some su := (Fr.kp (k := 8) g7 hk_a0 rfl).trans k_su
        refine tw_getrk hx hb hW hown hK hS f_X0_30_0 hz_a0 hk_a0 (b := su) k57 dX0_mostWithOneSum_21 ?_
        refine lv_iload_n hx hb dX0_mostWithOneSum_24 rfl (lv_at hl 2 rfl) ?_
        refine lv_iload hx hb dX0_mostWithOneSum_25 (lv_at hl 0 rfl) ?_
        refine tw_iasn hx hb hK hS hz_su hk_su (Or.inr (by decide)) (by have := (h_a1).1; have := (h_a1).2; have := (h45).1; have := (h45).2; have := (h_hi).1; have := (h_hi).2; have := (h44).1; have := (h44).2; have := (h_x54).1; have := (h_x54).2; omega) (by have := (h_a1).1; have := (h_a1).2; have := (h45).1; have := (h45).2; have := (h_hi).1; have := (h_hi).2; have := (h44).1; have := (h44).2; have := (h_x54).1; have := (h_x54).2; omega) h_x54 (rg_s40 ⟨by decide, by decide⟩) rfl dX0_mostWithOneSum_27 (fun H locs M61 hS k58 f60 k59 => ?_)
        refine lv_aload_n hx hb dX0_mostWithOneSum_28 rfl (lv_at hl 3 rfl) ?_
        have k62 : R4 a0 7 = some ta := (Fr.kp (k := 7) g7 hk_a0 rfl).trans k_ta
        refine tw_getrk hx hb hW hown hK hS f_X0_27_0 hz_a0 hk_a0 (b := ta) k62 dX0_mostWithOneSum_29 ?_
        refine lv_iload hx hb dX0_mostWithOneSum_32 (lv_at hl 0 rfl) ?_
        refine lv_dup2_11 hx hb dX0_mostWithOneSum_34 rfl rfl ?_
        refine tw_ialn hx hb hK hS hz_ta hk_ta (Or.inr (by decide)) (by have := (h_a1).1; have := (h_a1).2; have := (h45).1; have := (h45).2; have := (h_hi).1; have := (h_hi).2; have := (h44).1; have := (h44).2; have := (h_x54).1; have := (h_x54).2; omega) (by have := (h_a1).1; have := (h_a1).2; have := (h45).1; have := (h45).2; have := (h_hi).1; have := (h_hi).2; have := (h44).1; have := (h44).2; have := (h_x54).1; have := (h_x54).2; omega) (lo := (-2147483648)) (hi := 2147483647) rg_u39 dX0_mostWithOneSum_35 (fun x65 k64 h63 => ?_)
        refine lv_iconst (v := 1) hx hb dX0_mostWithOneSum_36 (by decide) ?_
        refine lv_iadd hx hb dX0_mostWithOneSum_37 ?_
        refine tw_top (fun x67 => ?_)
        have h66 := iv_any x67
        refine tw_iasn hx hb hK hS hz_ta hk_ta (Or.inr (by decide)) (by have := (h_a1).1; have := (h_a1).2; have := (h45).1; have := (h45).2; have := (h_hi).1; have := (h_hi).2; have := (h44).1; have := (h44).2; have := (h_x54).1; have := (h_x54).2; omega) (by have := (h_a1).1; have := (h_a1).2; have := (h45).1; have := (h45).2; have := (h_hi).1; have := (h_hi).2; have := (h44).1; have := (h44).2; have := (h_x54).1; have := (h_x54).2; omega) h66 (rg_s39 ⟨by decide, by decide⟩) rfl dX0_mostWithOneSum_38 (fun H locs M71 hS k68 f70 k69 => ?_)
        refine lv_aload_n hx hb dX0_mostWithOneSum_39 rfl (lv_at hl 3 rfl) ?_
        have k72 : R4 a0 7 = some ta := (Fr.kp (k := 7) g7 hk_a0 rfl).trans k_ta
        refine tw_getrk hx hb hW hown hK hS f_X0_27_0 hz_a0 hk_a0 (b := ta) k72 dX0_mostWithOneSum_40 ?_
        refine lv_iload hx hb dX0_mostWithOneSum_43 (lv_at hl 0 rfl) ?_
        refine tw_ialn hx hb hK hS hz_ta hk_ta (Or.inr (by decide)) (by have := (h_a1).1; have := (h_a1).2; have := (h45).1; have := (h45).2; have := (h_hi).1; have := (h_hi).2; have := (h44).1; have := (h44).2; have := (h_x54).1; have := (h_x54).2; omega) (by have := (h_a1).1; have := (h_a1).2; have := (h45).1; have := (h45).2; have := (h_hi).1; have := (h_hi).2; have := (h44).1; have := (h44).2; have := (h_x54).1; have := (h_x54).2; omega) (lo := (-2147483648)) (hi := 2147483647) rg_u39 dX0_mostWithOneSum_45 (fun x75 k74 h73 => ?_)
        refine lv_iload_n hx hb dX0_mostWithOneSum_46 rfl (lv_at hl 1 rfl) ?_
        refine lv_icmp_le (tgt := 60) hx hb dX0_mostWithOneSum_47 (by decide) (fun c76 => ?_) (fun c76 => ?_)
        · have q77 : x75.toInt ≤ x1.toInt := ti_le c76
          refine lv_iload_n hx hb dX0_mostWithOneSum_60 rfl (lv_at hl 1 rfl) ?_
          refine lv_istore_n (lv' := [(2, .int x1), (4, .int x54), (3, .int x2), (0, .ref (base + a0)), (1, .int a1)]) hx hb dX0_mostWithOneSum_61 rfl hl (by decide) rfl (fun ls hl => ?_)
          refine tw_iinc (lv' := fun x80 => [(3, .int x80), (2, .int x1), (4, .int x54), (0, .ref (base + a0)), (1, .int a1)]) (lo := 1) (hi := 7776) hx hb dX0_mostWithOneSum_62 hl (k := 2) rfl h44 (by decide) ⟨by decide, by decide⟩ ⟨by decide, by decide⟩ (by decide) (fun _ => rfl) (fun x80 ls e79 h78 hl => ?_)
          refine lv_goto (tgt := 4) hx hb dX0_mostWithOneSum_65 (by decide) ?_
          have q82 : 0 ≤ x2.toInt := by
            have := (h_a1).1; have := (h_a1).2; have := (h45).1; have := (h45).2; have := (h_hi).1; have := (h_hi).2; have := (h44).1; have := (h44).2; have := (h_x54).1; have := (h_x54).2; have := (h78).1; have := (h78).2; omega
          have q83 : x80.toInt = x2.toInt + 1 := by
            have := (h_a1).1; have := (h_a1).2; have := (h45).1; have := (h45).2; have := (h_hi).1; have := (h_hi).2; have := (h44).1; have := (h44).2; have := (h_x54).1; have := (h_x54).2; have := (h78).1; have := (h78).2; omega
          have q84 : 0 ≤ x54.toInt := by
            have := (h_a1).1; have := (h_a1).2; have := (h45).1; have := (h45).2; have := (h_hi).1; have := (h_hi).2; have := (h44).1; have := (h44).2; have := (h_x54).1; have := (h_x54).2; have := (h78).1; have := (h78).2; omega
          have w81 : SUB M71 su hi.toInt x80.toInt.toNat := SUB.add w0_3 q82 q83 k59 ⟨q84, q56⟩ (fun j => (Fr.kpa f70 hk_su rfl j))
          have w85 : x80.toInt ≤ fo.toInt := by
            have := (h_a1).1; have := (h_a1).2; have := (h45).1; have := (h45).2; have := (h_hi).1; have := (h_hi).2; have := (h44).1; have := (h44).2; have := (h_x54).1; have := (h_x54).2; have := (h78).1; have := (h78).2; omega
          have hm86 : 7776 - x80.toInt < (n_3 : Int) := by
            have := (h_a1).1; have := (h_a1).2; have := (h45).1; have := (h45).2; have := (h_hi).1; have := (h_hi).2; have := (h44).1; have := (h44).2; have := (h_x54).1; have := (h_x54).2; have := (h78).1; have := (h78).2; omega
          exact ih_3 x1 x80 M71 R4 J50 H locs _ h_x1 (iv_mono h78 (by decide) (by decide)) w81 w85 hm86 hS (lv_sub hl [1, 0, 3, 4] rfl)
        · have q87 : x1.toInt < x75.toInt := ti_nle c76
          have h88 : iv (-2147483647) 2147483647 x75 := iv_gtL (y := x1) h73 h_x1 q87 (by decide)
          have h89 : iv (-2147483648) 2147483646 x1 := iv_ltL (y := x75) h_x1 h73 q87 (by decide)
          refine lv_aload_n hx hb dX0_mostWithOneSum_50 rfl (lv_at hl 3 rfl) ?_
          have k90 : R4 a0 7 = some ta := (Fr.kp (k := 7) g7 hk_a0 rfl).trans k_ta
          refine tw_getrk hx hb hW hown hK hS f_X0_27_0 hz_a0 hk_a0 (b := ta) k90 dX0_mostWithOneSum_51 ?_
          refine lv_iload hx hb dX0_mostWithOneSum_54 (lv_at hl 0 rfl) ?_
          refine tw_ialn hx hb hK hS hz_ta hk_ta (Or.inr (by decide)) (by have := (h_a1).1; have := (h_a1).2; have := (h45).1; have := (h45).2; have := (h_hi).1; have := (h_hi).2; have := (h44).1; have := (h44).2; have := (h_x54).1; have := (h_x54).2; omega) (by have := (h_a1).1; have := (h_a1).2; have := (h45).1; have := (h45).2; have := (h_hi).1; have := (h_hi).2; have := (h44).1; have := (h44).2; have := (h_x54).1; have := (h_x54).2; omega) (lo := (-2147483648)) (hi := 2147483647) rg_u39 dX0_mostWithOneSum_56 (fun x93 k92 h91 => ?_)
          refine lv_goto (tgt := 61) hx hb dX0_mostWithOneSum_57 (by decide) ?_
          refine lv_istore_n (lv' := [(2, .int x93), (4, .int x54), (3, .int x2), (0, .ref (base + a0)), (1, .int a1)]) hx hb dX0_mostWithOneSum_61 rfl hl (by decide) rfl (fun ls hl => ?_)
          refine tw_iinc (lv' := fun x96 => [(3, .int x96), (2, .int x93), (4, .int x54), (0, .ref (base + a0)), (1, .int a1)]) (lo := 1) (hi := 7776) hx hb dX0_mostWithOneSum_62 hl (k := 2) rfl h44 (by decide) ⟨by decide, by decide⟩ ⟨by decide, by decide⟩ (by decide) (fun _ => rfl) (fun x96 ls e95 h94 hl => ?_)
          refine lv_goto (tgt := 4) hx hb dX0_mostWithOneSum_65 (by decide) ?_
          have q98 : 0 ≤ x2.toInt := by
            have := (h_a1).1; have := (h_a1).2; have := (h45).1; have := (h45).2; have := (h_hi).1; have := (h_hi).2; have := (h44).1; have := (h44).2; have := (h_x54).1; have := (h_x54).2; have := (h94).1; have := (h94).2; omega
          have q99 : x96.toInt = x2.toInt + 1 := by
            have := (h_a1).1; have := (h_a1).2; have := (h45).1; have := (h45).2; have := (h_hi).1; have := (h_hi).2; have := (h44).1; have := (h44).2; have := (h_x54).1; have := (h_x54).2; have := (h94).1; have := (h94).2; omega
          have q100 : 0 ≤ x54.toInt := by
            have := (h_a1).1; have := (h_a1).2; have := (h45).1; have := (h45).2; have := (h_hi).1; have := (h_hi).2; have := (h44).1; have := (h44).2; have := (h_x54).1; have := (h_x54).2; have := (h94).1; have := (h94).2; omega
          have w97 : SUB M71 su hi.toInt x96.toInt.toNat := SUB.add w0_3 q98 q99 k59 ⟨q100, q56⟩ (fun j => (Fr.kpa f70 hk_su rfl j))
          have w101 : x96.toInt ≤ fo.toInt := by
            have := (h_a1).1; have := (h_a1).2; have := (h45).1; have := (h45).2; have := (h_hi).1; have := (h_hi).2; have := (h44).1; have := (h44).2; have := (h_x54).1; have := (h_x54).2; have := (h94).1; have := (h94).2; omega
          have hm102 : 7776 - x96.toInt < (n_3 : Int) := by
            have := (h_a1).1; have := (h_a1).2; have := (h45).1; have := (h45).2; have := (h_hi).1; have := (h_hi).2; have := (h44).1; have := (h44).2; have := (h_x54).1; have := (h_x54).2; have := (h94).1; have := (h94).2; omega
          exact ih_3 x93 x96 M71 R4 J50 H locs _ h91 (iv_mono h94 (by decide) (by decide)) w97 w101 hm102 hS (lv_sub hl [1, 0, 3, 4] rfl)
  have w103 : SUB Ma su hi.toInt (0 : Int32).toInt.toNat := SUB.z
  have w104 : (0 : Int32).toInt ≤ fo.toInt := by
    have := (h_a1).1; have := (h_a1).2; have := (h_fo).1; have := (h_fo).2; have := (h_hi).1; have := (h_hi).2; have : (0 : Int32).toInt = 0 := (by decide); omega
  have hm105 : 7776 - (0 : Int32).toInt < (((7777 : Nat) : Int) : Int) := by
    have := (h_a1).1; have := (h_a1).2; have := (h_fo).1; have := (h_fo).2; have := (h_hi).1; have := (h_hi).2; have : (0 : Int32).toInt = 0 := (by decide); omega
  exact W4_3 7777 0 0 Ma Ra Ja s.heap [] _ (iv_mono (iv_c (c := 0) (n := 0) (by decide)) (by decide) (by decide)) (iv_mono (iv_c (c := 0) (n := 0) (by decide)) (by decide) (by decide)) w103 w104 hm105 hS (lv_sub hl [1, 0, 2, 3] rfl)
