def Lt_X12_best : WL := []
def LRt_X12_best : WL := []
set_option maxRecDepth 100000 in
set_option maxHeartbeats 4000000 in
theorem t_X12_best (l : Launch) (D : va_G) (cy : Nat → ClassId) (tx : (Nat → Nat) × (Nat → Nat)) (base Z : Nat) (K N : Nat → Nat) (Ma : MT) (Ra : RT) (Ja : JT) (hTy : Ty Z K N Ma Ra) (a0 : Nat) (hz_a0 : a0 < Z) (hk_a0 : K a0 = 12) (a1 : Int32) (h_a1 : iv 0 728 a1) (a2 : Int32) (h_a2 : iv 0 1 a2) : Met l yX12_best [Cond.code yX12_best cX12_best 8 (some .int)] (md_rm 1 0 0) (va_Pc [.ref (base + a0), .int a1, .int a2] (md_U D cy tx base Z K N Ma Ra Ja)) (mQi D cy tx base (fun r u => TP Z K N Lt_X12_best LRt_X12_best Ma Ra u ∧ (iv (-2147483648) 2147483647 r))) 0 0 (fun q => base ≤ q) := by
  refine tw_ofW (L := Lt_X12_best) (LR := LRt_X12_best) (by decide) (Nat.le_of_ble_eq_true rfl) hTy ?_
  intro p e s m args below meth c Q ls hx hb hr hlocks hown hml hW hK hT hS hQ hl
  have hl : lv_has ls 8 [(0, .ref (base + a0)), (1, .int a1), (2, .int a2)] := hl
  refine lv_iconst (v := 0) hx hb dX12_best_0 (by decide) ?_
  refine lv_istore_n (lv' := [(3, .int 0), (0, .ref (base + a0)), (1, .int a1), (2, .int a2)]) hx hb dX12_best_1 rfl hl (by decide) rfl (fun ls hl => ?_)
  refine lv_iconst (v := 0) hx hb dX12_best_2 (by decide) ?_
  refine lv_istore (lv' := [(4, .int 0), (3, .int 0), (0, .ref (base + a0)), (1, .int a1), (2, .int a2)]) hx hb dX12_best_3 hl (by decide) rfl (fun ls hl => ?_)
  refine lv_iconst (v := 0) hx hb dX12_best_5 (by decide) ?_
  refine lv_istore (lv' := [(5, .int 0), (4, .int 0), (3, .int 0), (0, .ref (base + a0)), (1, .int a1), (2, .int a2)]) hx hb dX12_best_6 hl (by decide) rfl (fun ls hl => ?_)
  have W8_4 : ∀ (n_4 : Nat) (x1 : Int32) (x2 : Int32) (x3 : Int32) (M4 : MT) (R5 : RT) (J6 : JT) (H : Heap) (locs : List Loc) (ls : Array Slot) (h_x1 : iv 0 2 x1) (h_x2 : iv (-2147483648) 2147483647 x2) (h_x3 : iv 0 3 x3) (hm_4 : 3 - x3.toInt < (n_4 : Int)) (hS : SB D cy base Z K N Lt_X12_best LRt_X12_best Ma Ra M4 R5 J6 s H locs) (hl : lv_has ls 8 [(3, .int x1), (4, .int x2), (5, .int x3), (0, .ref (base + a0)), (1, .int a1), (2, .int a2)]), W p l e (md_rm 1 0 0) s m args below meth c H locs 0 0 Q (F0 m 8 ls []) := by
    intro n_4
    induction n_4 with
    | zero =>
      intro x1 x2 x3 M4 R5 J6 H locs ls h_x1 h_x2 h_x3 hm_4 hS hl
      exfalso
      have := (h_a1).1; have := (h_a1).2; have := (h_a2).1; have := (h_a2).2; have := (h_x3).1; have := (h_x3).2; omega
    | succ n_4 ih_4 =>
      intro x1 x2 x3 M4 R5 J6 H locs ls h_x1 h_x2 h_x3 hm_4 hS hl
      have f7 := hS.2.2.1
      have g8 := hS.2.2.2
      refine lv_iload hx hb dX12_best_8 (lv_at hl 2 rfl) ?_
      refine lv_iconst (v := 3) hx hb dX12_best_10 (by decide) ?_
      refine lv_icmp_ge (tgt := 119) hx hb dX12_best_11 (by decide) (fun c9 => ?_) (fun c9 => ?_)
      · have q10 : 3 ≤ x3.toInt := ti_le c9
        have h11 : iv 3 3 x3 := iv_geL (y := 3) h_x3 (iv_c (c := 3) (n := 3) (by decide)) q10 (by decide)
        refine lv_iload_n hx hb dX12_best_119 rfl (lv_at hl 5 rfl) ?_
        refine lv_if_eq (tgt := 127) hx hb dX12_best_120 (by decide) (fun c12 => ?_) (fun c12 => ?_)
        · have q13 : a2.toInt = 0 := ti_eq c12
          have h14 : iv 0 0 a2 := ⟨by have := (h_a2).1; have := ((iv_c (c := 0) (n := 0) (by decide))).1; omega, by have := (h_a2).2; have := ((iv_c (c := 0) (n := 0) (by decide))).2; omega⟩
          refine lv_iload hx hb dX12_best_127 (lv_at hl 1 rfl) ?_
          exact tw_endi hx hb hr hlocks hK hT hS hQ (h_x2) dX12_best_129
        · have q15 : ¬ a2.toInt = 0 := ti_ne c12
          have h16 : iv 1 1 a2 := ⟨by have := (h_a2).1; have := ((iv_c (c := 0) (n := 0) (by decide))).1; have := ((iv_c (c := 0) (n := 0) (by decide))).2; omega, by have := (h_a2).2; have := ((iv_c (c := 0) (n := 0) (by decide))).1; have := ((iv_c (c := 0) (n := 0) (by decide))).2; omega⟩
          refine lv_iload_n hx hb dX12_best_123 rfl (lv_at hl 0 rfl) ?_
          refine lv_goto (tgt := 129) hx hb dX12_best_124 (by decide) ?_
          exact tw_endi hx hb hr hlocks hK hT hS hQ ((iv_mono h_x1 (by decide) (by decide))) dX12_best_129
      · have q17 : x3.toInt < 3 := ti_nle c9
        have h18 : iv 0 2 x3 := iv_ltL (y := 3) h_x3 (iv_c (c := 3) (n := 3) (by decide)) q17 (by decide)
        refine lv_aload_n hx hb dX12_best_14 rfl (lv_at hl 3 rfl) ?_
        refine tw_getr hx hb hW hown hK hS f_X12_81_11 hz_a0 hk_a0 (t := 14) (n := 6561) rfl dX12_best_15 (fun b19 k20 hz_b19 hk_b19 hn_b19 => ?_)
        have hn_b19 := hn_b19 (by decide)
        refine lv_bipush (v := 9) hx hb dX12_best_18 (by decide) ?_
        refine lv_iload_n hx hb dX12_best_20 rfl (lv_at hl 4 rfl) ?_
        refine tw_icmul (k := 9) (lo := 0) (hi := 6552) hx hb (by decide) h_a1 (by decide) ⟨by decide, by decide⟩ ⟨by decide, by decide⟩ dX12_best_21 (fun x23 e22 h21 => ?_)
        refine lv_iconst (v := 3) hx hb dX12_best_22 (by decide) ?_
        refine lv_iload hx hb dX12_best_23 (lv_at hl 2 rfl) ?_
        refine tw_icmul (k := 3) (lo := 0) (hi := 6) hx hb (by decide) h18 (by decide) ⟨by decide, by decide⟩ ⟨by decide, by decide⟩ dX12_best_25 (fun x26 e25 h24 => ?_)
        refine tw_iadd (lo := 0) (hi := 6558) hx hb h21 h24 ⟨by decide, by decide⟩ ⟨by decide, by decide⟩ dX12_best_26 (fun x29 e28 h27 => ?_)
        refine tw_iald hx hb hK hS hz_b19 hk_b19 (Or.inl rfl) hn_b19 (lo := (-2147483648)) (hi := 2147483647) h27 ⟨by decide, by decide⟩ rg_u14 dX12_best_27 (fun x32 k31 h30 => ?_)
        refine lv_istore (lv' := [(6, .int x32), (3, .int x1), (4, .int x2), (5, .int x3), (0, .ref (base + a0)), (1, .int a1), (2, .int a2)]) hx hb dX12_best_28 hl (by decide) rfl (fun ls hl => ?_)
        refine lv_iconst (v := 1) hx hb dX12_best_30 (by decide) ?_
        refine lv_istore (lv' := [(7, .int 1), (6, .int x32), (3, .int x1), (4, .int x2), (5, .int x3), (0, .ref (base + a0)), (1, .int a1), (2, .int a2)]) hx hb dX12_best_31 hl (by decide) rfl (fun ls hl => ?_)
        have W33_35 : ∀ (n_35 : Nat) (x33 : Int32) (x34 : Int32) (M35 : MT) (R36 : RT) (J37 : JT) (H : Heap) (locs : List Loc) (ls : Array Slot) (h_x33 : iv (-2147483648) 2147483647 x33) (h_x34 : iv 1 3 x34) (hm_35 : 3 - x34.toInt < (n_35 : Int)) (hS : SB D cy base Z K N Lt_X12_best LRt_X12_best Ma Ra M35 R36 J37 s H locs) (hl : lv_has ls 8 [(6, .int x33), (7, .int x34), (3, .int x1), (4, .int x2), (5, .int x3), (0, .ref (base + a0)), (1, .int a1), (2, .int a2)]), W p l e (md_rm 1 0 0) s m args below meth c H locs 0 0 Q (F0 m 33 ls []) := by
          intro n_35
          induction n_35 with
          | zero =>
            intro x33 x34 M35 R36 J37 H locs ls h_x33 h_x34 hm_35 hS hl
            exfalso
            have := (h_a1).1; have := (h_a1).2; have := (h_a2).1; have := (h_a2).2; have := (h_x34).1; have := (h_x34).2; omega
          | succ n_35 ih_35 =>
            intro x33 x34 M35 R36 J37 H locs ls h_x33 h_x34 hm_35 hS hl
            have f38 := hS.2.2.1
            have g39 := hS.2.2.2
            refine lv_iload hx hb dX12_best_33 (lv_at hl 1 rfl) ?_
            refine lv_iconst (v := 3) hx hb dX12_best_35 (by decide) ?_
            refine lv_icmp_ge (tgt := 91) hx hb dX12_best_36 (by decide) (fun c40 => ?_) (fun c40 => ?_)
            · have q41 : 3 ≤ x34.toInt := ti_le c40
              have h42 : iv 3 3 x34 := iv_geL (y := 3) h_x34 (iv_c (c := 3) (n := 3) (by decide)) q41 (by decide)
              refine lv_iload hx hb dX12_best_91 (lv_at hl 4 rfl) ?_
              refine lv_if_le (tgt := 106) hx hb dX12_best_93 (by decide) (fun c43 => ?_) (fun c43 => ?_)
              · have q44 : x3.toInt ≤ 0 := ti_le c43
                have h45 : iv 0 0 x3 := iv_leL (y := 0) h18 (iv_c (c := 0) (n := 0) (by decide)) q44 (by decide)
                refine lv_iload hx hb dX12_best_106 (lv_at hl 4 rfl) ?_
                refine lv_istore_n (lv' := [(3, .int x3), (6, .int x33), (7, .int x34), (4, .int x2), (5, .int x3), (0, .ref (base + a0)), (1, .int a1), (2, .int a2)]) hx hb dX12_best_108 rfl hl (by decide) rfl (fun ls hl => ?_)
                refine lv_iload hx hb dX12_best_109 (lv_at hl 1 rfl) ?_
                refine lv_istore (lv' := [(4, .int x33), (3, .int x3), (6, .int x33), (7, .int x34), (5, .int x3), (0, .ref (base + a0)), (1, .int a1), (2, .int a2)]) hx hb dX12_best_111 hl (by decide) rfl (fun ls hl => ?_)
                refine tw_iinc (lv' := fun x48 => [(5, .int x48), (4, .int x33), (3, .int x3), (6, .int x33), (7, .int x34), (0, .ref (base + a0)), (1, .int a1), (2, .int a2)]) (lo := 1) (hi := 1) hx hb dX12_best_113 hl (k := 4) rfl h45 (by decide) ⟨by decide, by decide⟩ ⟨by decide, by decide⟩ (by decide) (fun _ => rfl) (fun x48 ls e47 h46 hl => ?_)
                refine lv_goto (tgt := 8) hx hb dX12_best_116 (by decide) ?_
                have hm49 : 3 - x48.toInt < (n_4 : Int) := by
                  have := (h_a1).1; have := (h_a1).2; have := (h_a2).1; have := (h_a2).2; have := (h24).1; have := (h24).2; have := (h45).1; have := (h45).2; have := (h46).1; have := (h46).2; omega
                exact ih_4 x3 x33 x48 M35 R36 J37 H locs _ (iv_mono h45 (by decide) (by decide)) h_x33 (iv_mono h46 (by decide) (by decide)) hm49 hS (lv_sub hl [2, 1, 0, 5, 6, 7] rfl)
              · have q50 : 0 < x3.toInt := ti_nle c43
                have h51 : iv 1 2 x3 := iv_gtL (y := 0) h18 (iv_c (c := 0) (n := 0) (by decide)) q50 (by decide)
                refine lv_iload hx hb dX12_best_96 (lv_at hl 0 rfl) ?_
                refine lv_iload hx hb dX12_best_98 (lv_at hl 3 rfl) ?_
                refine lv_icmp_gt (tgt := 106) hx hb dX12_best_100 (by decide) (fun c52 => ?_) (fun c52 => ?_)
                · have q53 : x2.toInt < x33.toInt := ti_lt c52
                  have h54 : iv (-2147483647) 2147483647 x33 := iv_gtL (y := x2) h_x33 h_x2 q53 (by decide)
                  have h55 : iv (-2147483648) 2147483646 x2 := iv_ltL (y := x33) h_x2 h_x33 q53 (by decide)
                  refine lv_iload hx hb dX12_best_106 (lv_at hl 4 rfl) ?_
                  refine lv_istore_n (lv' := [(3, .int x3), (6, .int x33), (7, .int x34), (4, .int x2), (5, .int x3), (0, .ref (base + a0)), (1, .int a1), (2, .int a2)]) hx hb dX12_best_108 rfl hl (by decide) rfl (fun ls hl => ?_)
                  refine lv_iload hx hb dX12_best_109 (lv_at hl 1 rfl) ?_
                  refine lv_istore (lv' := [(4, .int x33), (3, .int x3), (6, .int x33), (7, .int x34), (5, .int x3), (0, .ref (base + a0)), (1, .int a1), (2, .int a2)]) hx hb dX12_best_111 hl (by decide) rfl (fun ls hl => ?_)
                  refine tw_iinc (lv' := fun x58 => [(5, .int x58), (4, .int x33), (3, .int x3), (6, .int x33), (7, .int x34), (0, .ref (base + a0)), (1, .int a1), (2, .int a2)]) (lo := 2) (hi := 3) hx hb dX12_best_113 hl (k := 4) rfl h51 (by decide) ⟨by decide, by decide⟩ ⟨by decide, by decide⟩ (by decide) (fun _ => rfl) (fun x58 ls e57 h56 hl => ?_)
                  refine lv_goto (tgt := 8) hx hb dX12_best_116 (by decide) ?_
                  have hm59 : 3 - x58.toInt < (n_4 : Int) := by
                    have := (h_a1).1; have := (h_a1).2; have := (h_a2).1; have := (h_a2).2; have := (h24).1; have := (h24).2; have := (h51).1; have := (h51).2; have := (h56).1; have := (h56).2; omega
                  exact ih_4 x3 x33 x58 M35 R36 J37 H locs _ (iv_mono h51 (by decide) (by decide)) (iv_mono h54 (by decide) (by decide)) (iv_mono h56 (by decide) (by decide)) hm59 hS (lv_sub hl [2, 1, 0, 5, 6, 7] rfl)
                · have q60 : x33.toInt ≤ x2.toInt := ti_nlt c52
                  refine lv_goto (tgt := 113) hx hb dX12_best_103 (by decide) ?_
                  refine tw_iinc (lv' := fun x63 => [(5, .int x63), (6, .int x33), (7, .int x34), (3, .int x1), (4, .int x2), (0, .ref (base + a0)), (1, .int a1), (2, .int a2)]) (lo := 2) (hi := 3) hx hb dX12_best_113 hl (k := 4) rfl h51 (by decide) ⟨by decide, by decide⟩ ⟨by decide, by decide⟩ (by decide) (fun _ => rfl) (fun x63 ls e62 h61 hl => ?_)
                  refine lv_goto (tgt := 8) hx hb dX12_best_116 (by decide) ?_
                  have hm64 : 3 - x63.toInt < (n_4 : Int) := by
                    have := (h_a1).1; have := (h_a1).2; have := (h_a2).1; have := (h_a2).2; have := (h24).1; have := (h24).2; have := (h51).1; have := (h51).2; have := (h61).1; have := (h61).2; omega
                  exact ih_4 x1 x2 x63 M35 R36 J37 H locs _ h_x1 h_x2 (iv_mono h61 (by decide) (by decide)) hm64 hS (lv_sub hl [3, 4, 0, 5, 6, 7] rfl)
            · have q65 : x34.toInt < 3 := ti_nle c40
              have h66 : iv 1 2 x34 := iv_ltL (y := 3) h_x34 (iv_c (c := 3) (n := 3) (by decide)) q65 (by decide)
              refine lv_aload_n hx hb dX12_best_39 rfl (lv_at hl 5 rfl) ?_
              refine tw_getr hx hb hW hown hK hS f_X12_81_11 hz_a0 hk_a0 (t := 14) (n := 6561) rfl dX12_best_40 (fun b67 k68 hz_b67 hk_b67 hn_b67 => ?_)
              have hn_b67 := hn_b67 (by decide)
              refine lv_bipush (v := 9) hx hb dX12_best_43 (by decide) ?_
              refine lv_iload_n hx hb dX12_best_45 rfl (lv_at hl 6 rfl) ?_
              refine tw_icmul (k := 9) (lo := 0) (hi := 6552) hx hb (by decide) h_a1 (by decide) ⟨by decide, by decide⟩ ⟨by decide, by decide⟩ dX12_best_46 (fun x71 e70 h69 => ?_)
              refine lv_iconst (v := 3) hx hb dX12_best_47 (by decide) ?_
              refine lv_iload hx hb dX12_best_48 (lv_at hl 4 rfl) ?_
              refine tw_icmul (k := 3) (lo := 0) (hi := 6) hx hb (by decide) h18 (by decide) ⟨by decide, by decide⟩ ⟨by decide, by decide⟩ dX12_best_50 (fun x74 e73 h72 => ?_)
              refine tw_iadd (lo := 0) (hi := 6558) hx hb h69 h72 ⟨by decide, by decide⟩ ⟨by decide, by decide⟩ dX12_best_51 (fun x77 e76 h75 => ?_)
              refine lv_iload hx hb dX12_best_52 (lv_at hl 1 rfl) ?_
              refine tw_iadd (lo := 1) (hi := 6560) hx hb h75 h66 ⟨by decide, by decide⟩ ⟨by decide, by decide⟩ dX12_best_54 (fun x80 e79 h78 => ?_)
              refine tw_iald hx hb hK hS hz_b67 hk_b67 (Or.inl rfl) hn_b67 (lo := (-2147483648)) (hi := 2147483647) h78 ⟨by decide, by decide⟩ rg_u14 dX12_best_55 (fun x83 k82 h81 => ?_)
              refine lv_iload hx hb dX12_best_56 (lv_at hl 0 rfl) ?_
              refine lv_icmp_ge (tgt := 81) hx hb dX12_best_58 (by decide) (fun c84 => ?_) (fun c84 => ?_)
              · have q85 : x33.toInt ≤ x83.toInt := ti_le c84
                refine lv_iload hx hb dX12_best_81 (lv_at hl 0 rfl) ?_
                refine lv_istore (lv' := [(6, .int x33), (7, .int x34), (3, .int x1), (4, .int x2), (5, .int x3), (0, .ref (base + a0)), (1, .int a1), (2, .int a2)]) hx hb dX12_best_83 hl (by decide) rfl (fun ls hl => ?_)
                refine tw_iinc (lv' := fun x88 => [(7, .int x88), (6, .int x33), (3, .int x1), (4, .int x2), (5, .int x3), (0, .ref (base + a0)), (1, .int a1), (2, .int a2)]) (lo := 2) (hi := 3) hx hb dX12_best_85 hl (k := 1) rfl h66 (by decide) ⟨by decide, by decide⟩ ⟨by decide, by decide⟩ (by decide) (fun _ => rfl) (fun x88 ls e87 h86 hl => ?_)
                refine lv_goto (tgt := 33) hx hb dX12_best_88 (by decide) ?_
                have hm89 : 3 - x88.toInt < (n_35 : Int) := by
                  have := (h_a1).1; have := (h_a1).2; have := (h_a2).1; have := (h_a2).2; have := (h66).1; have := (h66).2; have := (h78).1; have := (h78).2; have := (h86).1; have := (h86).2; omega
                exact ih_35 x33 x88 M35 R36 J37 H locs _ h_x33 (iv_mono h86 (by decide) (by decide)) hm89 hS (lv_sub hl [1, 0, 2, 3, 4, 5, 6, 7] rfl)
              · have q90 : x83.toInt < x33.toInt := ti_nle c84
                have h91 : iv (-2147483648) 2147483646 x83 := iv_ltL (y := x33) h81 h_x33 q90 (by decide)
                have h92 : iv (-2147483647) 2147483647 x33 := iv_gtL (y := x83) h_x33 h81 q90 (by decide)
                refine lv_aload_n hx hb dX12_best_61 rfl (lv_at hl 5 rfl) ?_
                refine tw_getrk hx hb hW hown hK hS f_X12_81_11 hz_a0 hk_a0 (b := b67) k68 dX12_best_62 ?_
                refine lv_bipush (v := 9) hx hb dX12_best_65 (by decide) ?_
                refine lv_iload_n hx hb dX12_best_67 rfl (lv_at hl 6 rfl) ?_
                refine tw_icmul (k := 9) (lo := 0) (hi := 6552) hx hb (by decide) h_a1 (by decide) ⟨by decide, by decide⟩ ⟨by decide, by decide⟩ dX12_best_68 (fun x95 e94 h93 => ?_)
                refine lv_iconst (v := 3) hx hb dX12_best_69 (by decide) ?_
                refine lv_iload hx hb dX12_best_70 (lv_at hl 4 rfl) ?_
                refine tw_icmul (k := 3) (lo := 0) (hi := 6) hx hb (by decide) h18 (by decide) ⟨by decide, by decide⟩ ⟨by decide, by decide⟩ dX12_best_72 (fun x98 e97 h96 => ?_)
                refine tw_iadd (lo := 0) (hi := 6558) hx hb h93 h96 ⟨by decide, by decide⟩ ⟨by decide, by decide⟩ dX12_best_73 (fun x101 e100 h99 => ?_)
                refine lv_iload hx hb dX12_best_74 (lv_at hl 1 rfl) ?_
                refine tw_iadd (lo := 1) (hi := 6560) hx hb h99 h66 ⟨by decide, by decide⟩ ⟨by decide, by decide⟩ dX12_best_76 (fun x104 e103 h102 => ?_)
                refine tw_iald hx hb hK hS hz_b67 hk_b67 (Or.inl rfl) hn_b67 (lo := (-2147483648)) (hi := 2147483647) h102 ⟨by decide, by decide⟩ rg_u14 dX12_best_77 (fun x107 k106 h105 => ?_)
                refine lv_goto (tgt := 83) hx hb dX12_best_78 (by decide) ?_
                refine lv_istore (lv' := [(6, .int x107), (7, .int x34), (3, .int x1), (4, .int x2), (5, .int x3), (0, .ref (base + a0)), (1, .int a1), (2, .int a2)]) hx hb dX12_best_83 hl (by decide) rfl (fun ls hl => ?_)
                refine tw_iinc (lv' := fun x110 => [(7, .int x110), (6, .int x107), (3, .int x1), (4, .int x2), (5, .int x3), (0, .ref (base + a0)), (1, .int a1), (2, .int a2)]) (lo := 2) (hi := 3) hx hb dX12_best_85 hl (k := 1) rfl h66 (by decide) ⟨by decide, by decide⟩ ⟨by decide, by decide⟩ (by decide) (fun _ => rfl) (fun x110 ls e109 h108 hl => ?_)
                refine lv_goto (tgt := 33) hx hb dX12_best_88 (by decide) ?_
                have hm111 : 3 - x110.toInt < (n_35 : Int) := by
                  have := (h_a1).1; have := (h_a1).2; have := (h_a2).1; have := (h_a2).2; have := (h102).1; have := (h102).2; have := (h108).1; have := (h108).2; have := (h66).1; have := (h66).2; have := (h78).1; have := (h78).2; omega
                exact ih_35 x107 x110 M35 R36 J37 H locs _ h105 (iv_mono h108 (by decide) (by decide)) hm111 hS (lv_sub hl [1, 0, 2, 3, 4, 5, 6, 7] rfl)
        have hm112 : 3 - (1 : Int32).toInt < (((3 : Nat) : Int) : Int) := by
          have := (h_a1).1; have := (h_a1).2; have := (h_a2).1; have := (h_a2).2; have : (1 : Int32).toInt = 1 := (by decide); omega
        exact W33_35 3 x32 1 M4 R5 J6 H locs _ h30 (iv_mono (iv_c (c := 1) (n := 1) (by decide)) (by decide) (by decide)) hm112 hS (lv_sub hl [1, 0, 2, 3, 4, 5, 6, 7] rfl)
  have hm113 : 3 - (0 : Int32).toInt < (((4 : Nat) : Int) : Int) := by
    have := (h_a1).1; have := (h_a1).2; have := (h_a2).1; have := (h_a2).2; have : (0 : Int32).toInt = 0 := (by decide); omega
  exact W8_4 4 0 0 0 Ma Ra Ja s.heap [] _ (iv_mono (iv_c (c := 0) (n := 0) (by decide)) (by decide) (by decide)) (iv_mono (iv_c (c := 0) (n := 0) (by decide)) (by decide) (by decide)) (iv_mono (iv_c (c := 0) (n := 0) (by decide)) (by decide) (by decide)) hm113 hS (lv_sub hl [2, 1, 0, 3, 4, 5] rfl)
def Lt_X12_isAhead : WL := []
def LRt_X12_isAhead : WL := []
set_option maxRecDepth 100000 in
set_option maxHeartbeats 4000000 in
theorem t_X12_isAhead (l : Launch) (D : va_G) (cy : Nat → ClassId) (tx : (Nat → Nat) × (Nat → Nat)) (base Z : Nat) (K N : Nat → Nat) (Ma : MT) (Ra : RT) (Ja : JT) (hTy : Ty Z K N Ma Ra) (a0 : Nat) (hz_a0 : a0 < Z) (hk_a0 : K a0 = 12) (rm : Int32) (k_rm : Ma a0 30 = rm) (h_rm : iv 0 6 rm) : Met l yX12_isAhead [Cond.code yX12_isAhead cX12_isAhead 2 (some .boolean)] (md_rm 1 0 0) (va_Pc [.ref (base + a0)] (md_U D cy tx base Z K N Ma Ra Ja)) (mQi D cy tx base (fun r u => TP Z K N Lt_X12_isAhead LRt_X12_isAhead Ma Ra u ∧ (iv 0 1 r))) 0 0 (fun q => base ≤ q) := by
  refine tw_ofW (L := Lt_X12_isAhead) (LR := LRt_X12_isAhead) (by decide) (Nat.le_of_ble_eq_true rfl) hTy ?_
  intro p e s m args below meth c Q ls hx hb hr hlocks hown hml hW hK hT hS hQ hl
  have hl : lv_has ls 2 [(0, .ref (base + a0))] := hl
  refine lv_iconst (v := 0) hx hb dX12_isAhead_0 (by decide) ?_
  refine lv_istore_n (lv' := [(1, .int 0), (0, .ref (base + a0))]) hx hb dX12_isAhead_1 rfl hl (by decide) rfl (fun ls hl => ?_)
  have W2_2 : ∀ (n_2 : Nat) (x1 : Int32) (M2 : MT) (R3 : RT) (J4 : JT) (H : Heap) (locs : List Loc) (ls : Array Slot) (h_x1 : iv 0 6 x1) (hm_2 : 6 - x1.toInt < (n_2 : Int)) (hS : SB D cy base Z K N Lt_X12_isAhead LRt_X12_isAhead Ma Ra M2 R3 J4 s H locs) (hl : lv_has ls 2 [(1, .int x1), (0, .ref (base + a0))]), W p l e (md_rm 1 0 0) s m args below meth c H locs 0 0 Q (F0 m 2 ls []) := by
    intro n_2
    induction n_2 with
    | zero =>
      intro x1 M2 R3 J4 H locs ls h_x1 hm_2 hS hl
      exfalso
      have := (h_rm).1; have := (h_rm).2; have := (h_x1).1; have := (h_x1).2; omega
    | succ n_2 ih_2 =>
      intro x1 M2 R3 J4 H locs ls h_x1 hm_2 hS hl
      have f5 := hS.2.2.1
      have g6 := hS.2.2.2
      refine lv_iload_n hx hb dX12_isAhead_2 rfl (lv_at hl 0 rfl) ?_
      refine lv_aload_n hx hb dX12_isAhead_3 rfl (lv_at hl 1 rfl) ?_
      have k7 : M2 a0 30 = rm := (Fr.kp (k := 30) f5 hk_a0 rfl).trans k_rm
      refine tw_getk hx hb hW hown hK hS f_X12_351_11 hz_a0 hk_a0 (v := rm) k7 dX12_isAhead_4 ?_
      refine lv_icmp_ge (tgt := 52) hx hb dX12_isAhead_7 (by decide) (fun c8 => ?_) (fun c8 => ?_)
      · have q9 : rm.toInt ≤ x1.toInt := ti_le c8
        refine lv_iconst (v := 0) hx hb dX12_isAhead_52 (by decide) ?_
        exact tw_endz hx hb hr hlocks hK hT hS hQ rfl ((iv_mono (iv_c (c := 0) (n := 0) (by decide)) (by decide) (by decide))) dX12_isAhead_53
      · have q10 : x1.toInt < rm.toInt := ti_nle c8
        have h11 : iv 0 5 x1 := iv_ltL (y := rm) h_x1 h_rm q10 (by decide)
        have h12 : iv 1 6 rm := iv_gtL (y := x1) h_rm h_x1 q10 (by decide)
        refine lv_aload_n hx hb dX12_isAhead_10 rfl (lv_at hl 1 rfl) ?_
        refine tw_getr hx hb hW hown hK hS f_X12_54_11 hz_a0 hk_a0 (t := 31) (n := 8) rfl dX12_isAhead_11 (fun b13 k14 hz_b13 hk_b13 hn_b13 => ?_)
        have hn_b13 := hn_b13 (by decide)
        refine lv_iload_n hx hb dX12_isAhead_14 rfl (lv_at hl 0 rfl) ?_
        refine tw_iald hx hb hK hS hz_b13 hk_b13 (Or.inr (by decide)) hn_b13 (lo := 0) (hi := 11) h11 ⟨by decide, by decide⟩ rg_u31 dX12_isAhead_15 (fun x17 k16 h15 => ?_)
        refine lv_aload_n hx hb dX12_isAhead_16 rfl (lv_at hl 1 rfl) ?_
        refine tw_getr hx hb hW hown hK hS f_X12_87_11 hz_a0 hk_a0 (t := 14) (n := 6) rfl dX12_isAhead_17 (fun b18 k19 hz_b18 hk_b18 hn_b18 => ?_)
        have hn_b18 := hn_b18 (by decide)
        refine lv_iload_n hx hb dX12_isAhead_20 rfl (lv_at hl 0 rfl) ?_
        refine tw_iald hx hb hK hS hz_b18 hk_b18 (Or.inl rfl) hn_b18 (lo := (-2147483648)) (hi := 2147483647) h11 ⟨by decide, by decide⟩ rg_u14 dX12_isAhead_21 (fun x22 k21 h20 => ?_)
        refine lv_icmp_eq (tgt := 46) hx hb dX12_isAhead_22 (by decide) (fun c23 => ?_) (fun c23 => ?_)
        · have q24 : x17.toInt = x22.toInt := ti_eq c23
          have h25 : iv 0 11 x22 := ⟨by have := (h15).1; have := (h20).1; omega, by have := (h15).2; have := (h20).2; omega⟩
          refine tw_iinc (lv' := fun x28 => [(1, .int x28), (0, .ref (base + a0))]) (lo := 1) (hi := 6) hx hb dX12_isAhead_46 hl (k := 0) rfl h11 (by decide) ⟨by decide, by decide⟩ ⟨by decide, by decide⟩ (by decide) (fun _ => rfl) (fun x28 ls e27 h26 hl => ?_)
          refine lv_goto (tgt := 2) hx hb dX12_isAhead_49 (by decide) ?_
          have hm29 : 6 - x28.toInt < (n_2 : Int) := by
            have := (h12).1; have := (h12).2; have := (h11).1; have := (h11).2; have := (h26).1; have := (h26).2; omega
          exact ih_2 x28 M2 R3 J4 H locs _ (iv_mono h26 (by decide) (by decide)) hm29 hS hl
        · have q30 : ¬ x17.toInt = x22.toInt := ti_ne c23
          refine lv_aload_n hx hb dX12_isAhead_25 rfl (lv_at hl 1 rfl) ?_
          refine tw_getrk hx hb hW hown hK hS f_X12_54_11 hz_a0 hk_a0 (b := b13) k14 dX12_isAhead_26 ?_
          refine lv_iload_n hx hb dX12_isAhead_29 rfl (lv_at hl 0 rfl) ?_
          refine tw_ialk hx hb hK hS hz_b13 hk_b13 (Or.inr (by decide)) hn_b13 h11 ⟨by decide, by decide⟩ (v := x17) k16 dX12_isAhead_30 ?_
          refine lv_aload_n hx hb dX12_isAhead_31 rfl (lv_at hl 1 rfl) ?_
          refine tw_getrk hx hb hW hown hK hS f_X12_87_11 hz_a0 hk_a0 (b := b18) k19 dX12_isAhead_32 ?_
          refine lv_iload_n hx hb dX12_isAhead_35 rfl (lv_at hl 0 rfl) ?_
          refine tw_ialk hx hb hK hS hz_b18 hk_b18 (Or.inl rfl) hn_b18 h11 ⟨by decide, by decide⟩ (v := x22) k21 dX12_isAhead_36 ?_
          refine lv_icmp_ge (tgt := 44) hx hb dX12_isAhead_37 (by decide) (fun c31 => ?_) (fun c31 => ?_)
          · have q32 : x22.toInt ≤ x17.toInt := ti_le c31
            have h33 : iv (-2147483648) 11 x22 := iv_leL (y := x17) h20 h15 q32 (by decide)
            refine lv_iconst (v := 0) hx hb dX12_isAhead_44 (by decide) ?_
            exact tw_endz hx hb hr hlocks hK hT hS hQ rfl ((iv_mono (iv_c (c := 0) (n := 0) (by decide)) (by decide) (by decide))) dX12_isAhead_45
          · have q34 : x17.toInt < x22.toInt := ti_nle c31
            have h35 : iv 1 2147483647 x22 := iv_gtL (y := x17) h20 h15 q34 (by decide)
            refine lv_iconst (v := 1) hx hb dX12_isAhead_40 (by decide) ?_
            refine lv_goto (tgt := 45) hx hb dX12_isAhead_41 (by decide) ?_
            exact tw_endz hx hb hr hlocks hK hT hS hQ rfl ((iv_mono (iv_c (c := 1) (n := 1) (by decide)) (by decide) (by decide))) dX12_isAhead_45
  have hm36 : 6 - (0 : Int32).toInt < (((7 : Nat) : Int) : Int) := by
    have := (h_rm).1; have := (h_rm).2; have : (0 : Int32).toInt = 0 := (by decide); omega
  exact W2_2 7 0 Ma Ra Ja s.heap [] _ (iv_mono (iv_c (c := 0) (n := 0) (by decide)) (by decide) (by decide)) hm36 hS hl
def Lt_X12_isRow : WL := [(33, 0, 2000000)]
def LRt_X12_isRow : WL := []
set_option maxRecDepth 100000 in
set_option maxHeartbeats 4000000 in
theorem t_X12_isRow (l : Launch) (D : va_G) (cy : Nat → ClassId) (tx : (Nat → Nat) × (Nat → Nat)) (base Z : Nat) (K N : Nat → Nat) (Ma : MT) (Ra : RT) (Ja : JT) (hTy : Ty Z K N Ma Ra) (a0 : Nat) (hz_a0 : a0 < Z) (hk_a0 : K a0 = 12) (a1 : Int32) (h_a1 : iv 0 2147483647 a1) (a2 : Int32) (h_a2 : iv 1 6 a2) : Met l yX12_isRow [Cond.code yX12_isRow cX12_isRow 6 (some .boolean)] (md_rm 1 0 0) (va_Pc [.ref (base + a0), .int a1, .int a2] (md_U D cy tx base Z K N Ma Ra Ja)) (mQi D cy tx base (fun r u => TP Z K N Lt_X12_isRow LRt_X12_isRow Ma Ra u ∧ (iv 0 1 r))) 0 0 (fun q => base ≤ q) := by
  refine tw_ofW (L := Lt_X12_isRow) (LR := LRt_X12_isRow) (by decide) (Nat.le_of_ble_eq_true rfl) hTy ?_
  intro p e s m args below meth c Q ls hx hb hr hlocks hown hml hW hK hT hS hQ hl
  have hl : lv_has ls 6 [(0, .ref (base + a0)), (1, .int a1), (2, .int a2)] := hl
  refine lv_iload_n hx hb dX12_isRow_0 rfl (lv_at hl 1 rfl) ?_
  refine lv_istore_n (lv' := [(3, .int a1), (0, .ref (base + a0)), (1, .int a1), (2, .int a2)]) hx hb dX12_isRow_1 rfl hl (by decide) rfl (fun ls hl => ?_)
  refine lv_iconst (v := 0) hx hb dX12_isRow_2 (by decide) ?_
  refine lv_istore (lv' := [(4, .int 0), (3, .int a1), (0, .ref (base + a0)), (1, .int a1), (2, .int a2)]) hx hb dX12_isRow_3 hl (by decide) rfl (fun ls hl => ?_)
  refine lv_iload_n hx hb dX12_isRow_5 rfl (lv_at hl 4 rfl) ?_
  refine lv_iconst (v := 1) hx hb dX12_isRow_6 (by decide) ?_
  refine tw_isub (lo := 0) (hi := 5) hx hb h_a2 (iv_c (c := 1) (n := 1) (by decide)) ⟨by decide, by decide⟩ ⟨by decide, by decide⟩ dX12_isRow_7 (fun x3 e2 h1 => ?_)
  have e2 : x3.toInt = a2.toInt - 1 := e2
  refine lv_istore (lv' := [(5, .int x3), (4, .int 0), (3, .int a1), (0, .ref (base + a0)), (1, .int a1), (2, .int a2)]) hx hb dX12_isRow_8 hl (by decide) rfl (fun ls hl => ?_)
  have W10_7 : ∀ (n_7 : Nat) (x4 : Int32) (x5 : Int32) (x6 : Int32) (M7 : MT) (R8 : RT) (J9 : JT) (H : Heap) (locs : List Loc) (ls : Array Slot) (h_x4 : iv 0 2147483647 x4) (h_x5 : iv (-2147483648) 2147483647 x5) (h_x6 : iv (-1) 5 x6) (hm_7 : x6.toInt - (-1) < (n_7 : Int)) (hS : SB D cy base Z K N Lt_X12_isRow LRt_X12_isRow Ma Ra M7 R8 J9 s H locs) (hl : lv_has ls 6 [(3, .int x4), (4, .int x5), (5, .int x6), (0, .ref (base + a0)), (1, .int a1), (2, .int a2)]), W p l e (md_rm 1 0 0) s m args below meth c H locs 0 0 Q (F0 m 10 ls []) := by
    intro n_7
    induction n_7 with
    | zero =>
      intro x4 x5 x6 M7 R8 J9 H locs ls h_x4 h_x5 h_x6 hm_7 hS hl
      exfalso
      have := (h_a1).1; have := (h_a1).2; have := (h_a2).1; have := (h_a2).2; have := (h_x6).1; have := (h_x6).2; omega
    | succ n_7 ih_7 =>
      intro x4 x5 x6 M7 R8 J9 H locs ls h_x4 h_x5 h_x6 hm_7 hS hl
      have f10 := hS.2.2.1
      have g11 := hS.2.2.2
      refine lv_iload hx hb dX12_isRow_10 (lv_at hl 2 rfl) ?_
      refine lv_if_lt (tgt := 49) hx hb dX12_isRow_12 (by decide) (fun c12 => ?_) (fun c12 => ?_)
      · have q13 : x6.toInt < 0 := ti_lt c12
        have h14 : iv (-1) (-1) x6 := iv_ltL (y := 0) h_x6 (iv_c (c := 0) (n := 0) (by decide)) q13 (by decide)
        refine lv_iload hx hb dX12_isRow_49 (lv_at hl 1 rfl) ?_
        refine lv_iconst (v := 1) hx hb dX12_isRow_51 (by decide) ?_
        refine lv_iload_n hx hb dX12_isRow_52 rfl (lv_at hl 5 rfl) ?_
        refine lv_ishl hx hb dX12_isRow_53 ?_
        refine tw_top (fun x16 => ?_)
        have h15 := iv_any x16
        refine lv_iconst (v := 1) hx hb dX12_isRow_54 (by decide) ?_
        refine lv_isub hx hb dX12_isRow_55 ?_
        refine tw_top (fun x18 => ?_)
        have h17 := iv_any x18
        refine lv_icmp_ne (tgt := 63) hx hb dX12_isRow_56 (by decide) (fun c19 => ?_) (fun c19 => ?_)
        · have q20 : ¬ x5.toInt = x18.toInt := ti_ne c19
          refine lv_iconst (v := 0) hx hb dX12_isRow_63 (by decide) ?_
          exact tw_endz hx hb hr hlocks hK hT hS hQ rfl ((iv_mono (iv_c (c := 0) (n := 0) (by decide)) (by decide) (by decide))) dX12_isRow_64
        · have q21 : x5.toInt = x18.toInt := ti_eq c19
          refine lv_iconst (v := 1) hx hb dX12_isRow_59 (by decide) ?_
          refine lv_goto (tgt := 64) hx hb dX12_isRow_60 (by decide) ?_
          exact tw_endz hx hb hr hlocks hK hT hS hQ rfl ((iv_mono (iv_c (c := 1) (n := 1) (by decide)) (by decide) (by decide))) dX12_isRow_64
      · have q22 : 0 ≤ x6.toInt := ti_nlt c12
        have h23 : iv 0 5 x6 := iv_geL (y := 0) h_x6 (iv_c (c := 0) (n := 0) (by decide)) q22 (by decide)
        refine lv_aload_n hx hb dX12_isRow_15 rfl (lv_at hl 3 rfl) ?_
        refine tw_getr hx hb hW hown hK hS f_X12_90_11 hz_a0 hk_a0 (t := 33) (n := 6) rfl dX12_isRow_16 (fun b24 k25 hz_b24 hk_b24 hn_b24 => ?_)
        have hn_b24 := hn_b24 (by decide)
        refine lv_iload hx hb dX12_isRow_19 (lv_at hl 2 rfl) ?_
        refine lv_iload_n hx hb dX12_isRow_21 rfl (lv_at hl 0 rfl) ?_
        refine lv_iload_n hx hb dX12_isRow_22 rfl (lv_at hl 5 rfl) ?_
        refine tw_irem (lo := 0) (hi := 5) hx hb h_x4 h_a2 ⟨by decide, by decide⟩ ⟨by decide, by decide⟩ dX12_isRow_23 (fun x28 e27 h26 => ?_)
        refine tw_iast hx hb hK hS hz_b24 hk_b24 (Or.inr (by decide)) hn_b24 h23 ⟨by decide, by decide⟩ h26 (rg_s33 ⟨by decide, by decide⟩) (jl := 0) (jh := 1999999) ⟨by decide, by decide⟩ rfl dX12_isRow_24 (fun H locs M31 hS k29 f30 => ?_)
        refine lv_iload_n hx hb dX12_isRow_25 rfl (lv_at hl 0 rfl) ?_
        refine lv_iload_n hx hb dX12_isRow_26 rfl (lv_at hl 5 rfl) ?_
        refine tw_idiv (lo := 0) (hi := 2147483647) hx hb h_x4 h_a2 ⟨by decide, by decide⟩ ⟨by decide, by decide⟩ dX12_isRow_27 (fun x34 e33 h32 => ?_)
        refine lv_istore_n (lv' := [(3, .int x34), (4, .int x5), (5, .int x6), (0, .ref (base + a0)), (1, .int a1), (2, .int a2)]) hx hb dX12_isRow_28 rfl hl (by decide) rfl (fun ls hl => ?_)
        refine lv_iload hx hb dX12_isRow_29 (lv_at hl 1 rfl) ?_
        refine lv_iconst (v := 1) hx hb dX12_isRow_31 (by decide) ?_
        refine lv_aload_n hx hb dX12_isRow_32 rfl (lv_at hl 3 rfl) ?_
        refine tw_getrk hx hb hW hown hK hS f_X12_90_11 hz_a0 hk_a0 (b := b24) k25 dX12_isRow_33 ?_
        refine lv_iload hx hb dX12_isRow_36 (lv_at hl 2 rfl) ?_
        refine tw_ialk hx hb hK hS hz_b24 hk_b24 (Or.inr (by decide)) hn_b24 h23 ⟨by decide, by decide⟩ (v := x28) k29 dX12_isRow_38 ?_
        refine lv_ishl hx hb dX12_isRow_39 ?_
        refine tw_top (fun x36 => ?_)
        have h35 := iv_any x36
        refine lv_ior hx hb dX12_isRow_40 ?_
        refine tw_top (fun x38 => ?_)
        have h37 := iv_any x38
        refine lv_istore (lv' := [(4, .int x38), (3, .int x34), (5, .int x6), (0, .ref (base + a0)), (1, .int a1), (2, .int a2)]) hx hb dX12_isRow_41 hl (by decide) rfl (fun ls hl => ?_)
        refine tw_iinc (lv' := fun x41 => [(5, .int x41), (4, .int x38), (3, .int x34), (0, .ref (base + a0)), (1, .int a1), (2, .int a2)]) (lo := (-1)) (hi := 4) hx hb dX12_isRow_43 hl (k := 2) rfl h23 (by decide) ⟨by decide, by decide⟩ ⟨by decide, by decide⟩ (by decide) (fun _ => rfl) (fun x41 ls e40 h39 hl => ?_)
        refine lv_goto (tgt := 10) hx hb dX12_isRow_46 (by decide) ?_
        have hm42 : x41.toInt - (-1) < (n_7 : Int) := by
          have := (h_a1).1; have := (h_a1).2; have := (h_a2).1; have := (h_a2).2; have := (h39).1; have := (h39).2; have := (h23).1; have := (h23).2; omega
        exact ih_7 x34 x38 x41 M31 R8 J9 H locs _ h32 h37 (iv_mono h39 (by decide) (by decide)) hm42 hS (lv_sub hl [2, 1, 0, 3, 4, 5] rfl)
  have hm43 : x3.toInt - (-1) < (((7 : Nat) : Int) : Int) := by
    have := (h_a1).1; have := (h_a1).2; have := (h_a2).1; have := (h_a2).2; have := (h1).1; have := (h1).2; omega
  exact W10_7 7 a1 0 x3 Ma Ra Ja s.heap [] _ h_a1 (iv_mono (iv_c (c := 0) (n := 0) (by decide)) (by decide) (by decide)) (iv_mono h1 (by decide) (by decide)) hm43 hS (lv_sub hl [2, 1, 0, 3, 4, 5] rfl)
def Lt_X12_counts : WL := [(12, 35, 37)]
def LRt_X12_counts : WL := []
set_option maxRecDepth 100000 in
set_option maxHeartbeats 4000000 in
theorem t_X12_counts (l : Launch) (D : va_G) (cy : Nat → ClassId) (tx : (Nat → Nat) × (Nat → Nat)) (base Z : Nat) (K N : Nat → Nat) (Ma : MT) (Ra : RT) (Ja : JT) (hTy : Ty Z K N Ma Ra) (a0 : Nat) (hz_a0 : a0 < Z) (hk_a0 : K a0 = 12) (a1 : Int32) (h_a1 : iv 0 9 a1) (a2 : Int32) (h_a2 : iv 0 11 a2) (a3 : Int32) (h_a3 : iv 0 2 a3) : Met l yX12_counts [Cond.code yX12_counts cX12_counts 4 none] (md_rm 2 0 0) (va_Pc [.ref (base + a0), .int a1, .int a2, .int a3] (md_U D cy tx base Z K N Ma Ra Ja)) (mQv D cy tx base (fun u => TP Z K N Lt_X12_counts LRt_X12_counts Ma Ra u ∧ (True))) 0 0 (fun q => base ≤ q) := by
  refine tw_ofW (L := Lt_X12_counts) (LR := LRt_X12_counts) (by decide) (Nat.le_of_ble_eq_true rfl) hTy ?_
  intro p e s m args below meth c Q ls hx hb hr hlocks hown hml hW hK hT hS hQ hl
  have hl : lv_has ls 4 [(0, .ref (base + a0)), (1, .int a1), (2, .int a2), (3, .int a3)] := hl
  refine lv_iload_n hx hb dX12_counts_0 rfl (lv_at hl 3 rfl) ?_
  refine lv_iconst (v := 1) hx hb dX12_counts_1 (by decide) ?_
  refine lv_icmp_eq (tgt := 6) hx hb dX12_counts_2 (by decide) (fun c1 => ?_) (fun c1 => ?_)
  · have q2 : a3.toInt = 1 := ti_eq c1
    have h3 : iv 1 1 a3 := ⟨by have := (h_a3).1; have := ((iv_c (c := 1) (n := 1) (by decide))).1; omega, by have := (h_a3).2; have := ((iv_c (c := 1) (n := 1) (by decide))).2; omega⟩
    refine lv_aload_n hx hb dX12_counts_6 rfl (lv_at hl 0 rfl) ?_
    refine lv_dup hx hb dX12_counts_7 rfl ?_
    refine tw_geti hx hb hW hown hK hS f_X12_407_11 hz_a0 hk_a0 (lo := (-2147483648)) (hi := 2147483647) rfl dX12_counts_8 (fun x6 k5 h4 => ?_)
    refine lv_iconst (v := 1) hx hb dX12_counts_11 (by decide) ?_
    refine lv_iadd hx hb dX12_counts_12 ?_
    refine tw_top (fun x8 => ?_)
    have h7 := iv_any x8
    refine tw_puti hx hb hW hown hK hS f_X12_407_11 hz_a0 hk_a0 rfl rfl (lo := (-2147483648)) (hi := 2147483647) rfl h7 rfl dX12_counts_13 (fun H locs M11 hS k9 f10 => ?_)
    refine lv_aload_n hx hb dX12_counts_16 rfl (lv_at hl 0 rfl) ?_
    refine lv_dup hx hb dX12_counts_17 rfl ?_
    refine tw_geti hx hb hW hown hK hS f_X12_410_11 hz_a0 hk_a0 (lo := (-2147483648)) (hi := 2147483647) rfl dX12_counts_18 (fun x14 k13 h12 => ?_)
    refine lv_aload_n hx hb dX12_counts_21 rfl (lv_at hl 0 rfl) ?_
    refine lv_iload_n hx hb dX12_counts_22 rfl (lv_at hl 1 rfl) ?_
    refine lv_iload_n hx hb dX12_counts_23 rfl (lv_at hl 2 rfl) ?_
    refine tw_goi hS (md_runV (As := [.int a1, .int a2]) (rest := [.int x14, .ref (base + a0)]) hx hb hml hown hW hK hT hS.1 (t_X12_worthOf l D cy tx base Z K N M11 Ra Ja hS.2.1 a0 hz_a0 hk_a0 a1 h_a1 a2 h_a2) s_X12_330 ⟨rfl, rfl, ⟨Nat.le_of_ble_eq_true rfl, Nat.le_of_ble_eq_true rfl⟩, ⟨Nat.le_of_ble_eq_true rfl, Nat.le_of_ble_eq_true rfl⟩⟩ hz_a0 hk_a0 (by decide) rfl rfl hl.1 rfl (Nat.le_of_ble_eq_true rfl) dX12_counts_24) rfl rfl (fun x21 H locs M18 R19 J17 hS f15 g16 E20 => ?_)
    have eM18 := Fr.nil f15 rfl
    subst eM18
    have eR19 := Fr.nil g16 rfl
    subst eR19
    have h_x21 := E20
    clear E20
    refine lv_iadd hx hb dX12_counts_27 ?_
    refine tw_top (fun x23 => ?_)
    have h22 := iv_any x23
    refine tw_puti hx hb hW hown hK hS f_X12_410_11 hz_a0 hk_a0 rfl rfl (lo := (-2147483648)) (hi := 2147483647) rfl h22 rfl dX12_counts_28 (fun H locs M26 hS k24 f25 => ?_)
    exact tw_endv hx hb hr hlocks hK hT hS hQ (trivial) dX12_counts_31
  · have q27 : ¬ a3.toInt = 1 := ti_ne c1
    exact tw_endv hx hb hr hlocks hK hT hS hQ (trivial) dX12_counts_5
def Lt_X12_passes : WL := [(12, 23, 24), (12, 28, 29), (12, 31, 33), (12, 35, 37), (14, 0, 2000000), (30, 0, 2000000)]
def LRt_X12_passes : WL := []
set_option maxRecDepth 100000 in
set_option maxHeartbeats 4000000 in
theorem t_X12_passes (l : Launch) (D : va_G) (cy : Nat → ClassId) (tx : (Nat → Nat) × (Nat → Nat)) (base Z : Nat) (K N : Nat → Nat) (Ma : MT) (Ra : RT) (Ja : JT) (hTy : Ty Z K N Ma Ra) (a0 : Nat) (hz_a0 : a0 < Z) (hk_a0 : K a0 = 12) (a1 : Int32) (h_a1 : iv 0 9 a1) (co_a0 : Codes Ma Ra a0) : Met l yX12_passes [Cond.code yX12_passes cX12_passes 3 none] (md_rm 5 0 0) (va_Pc [.ref (base + a0), .int a1] (md_U D cy tx base Z K N Ma Ra Ja)) (mQv D cy tx base (fun u => TP Z K N Lt_X12_passes LRt_X12_passes Ma Ra u ∧ (True))) 0 0 (fun q => base ≤ q) := by
  refine tw_ofW (L := Lt_X12_passes) (LR := LRt_X12_passes) (by decide) (Nat.le_of_ble_eq_true rfl) hTy ?_
  intro p e s m args below meth c Q ls hx hb hr hlocks hown hml hW hK hT hS hQ hl
  have hl : lv_has ls 3 [(0, .ref (base + a0)), (1, .int a1)] := hl
  refine lv_iconst (v := 0) hx hb dX12_passes_0 (by decide) ?_
  refine lv_istore_n (lv' := [(2, .int 0), (0, .ref (base + a0)), (1, .int a1)]) hx hb dX12_passes_1 rfl hl (by decide) rfl (fun ls hl => ?_)
  have W2_2 : ∀ (n_2 : Nat) (x1 : Int32) (M2 : MT) (R3 : RT) (J4 : JT) (H : Heap) (locs : List Loc) (ls : Array Slot) (h_x1 : iv 0 8 x1) (hm_2 : 8 - x1.toInt < (n_2 : Int)) (hS : SB D cy base Z K N Lt_X12_passes LRt_X12_passes Ma Ra M2 R3 J4 s H locs) (hl : lv_has ls 3 [(2, .int x1), (0, .ref (base + a0)), (1, .int a1)]), W p l e (md_rm 5 0 0) s m args below meth c H locs 0 0 Q (F0 m 2 ls []) := by
    intro n_2
    induction n_2 with
    | zero =>
      intro x1 M2 R3 J4 H locs ls h_x1 hm_2 hS hl
      exfalso
      have := (h_a1).1; have := (h_a1).2; have := (h_x1).1; have := (h_x1).2; omega
    | succ n_2 ih_2 =>
      intro x1 M2 R3 J4 H locs ls h_x1 hm_2 hS hl
      have f5 := hS.2.2.1
      have g6 := hS.2.2.2
      refine lv_iload_n hx hb dX12_passes_2 rfl (lv_at hl 0 rfl) ?_
      refine lv_aload_n hx hb dX12_passes_3 rfl (lv_at hl 1 rfl) ?_
      refine tw_geti hx hb hW hown hK hS f_X12_351_11 hz_a0 hk_a0 (lo := 0) (hi := 8) rfl dX12_passes_4 (fun x9 k8 h7 => ?_)
      refine lv_icmp_ge (tgt := 42) hx hb dX12_passes_7 (by decide) (fun c10 => ?_) (fun c10 => ?_)
      · have q11 : x9.toInt ≤ x1.toInt := ti_le c10
        exact tw_endv hx hb hr hlocks hK hT hS hQ (trivial) dX12_passes_42
      · have q12 : x1.toInt < x9.toInt := ti_nle c10
        have h13 : iv 0 7 x1 := iv_ltL (y := x9) h_x1 h7 q12 (by decide)
        have h14 : iv 1 8 x9 := iv_gtL (y := x1) h7 h_x1 q12 (by decide)
        refine lv_aload_n hx hb dX12_passes_10 rfl (lv_at hl 1 rfl) ?_
        refine lv_aload_n hx hb dX12_passes_11 rfl (lv_at hl 1 rfl) ?_
        refine tw_getr hx hb hW hown hK hS f_X12_54_11 hz_a0 hk_a0 (t := 31) (n := 8) rfl dX12_passes_12 (fun b15 k16 hz_b15 hk_b15 hn_b15 => ?_)
        have hn_b15 := hn_b15 (by decide)
        refine lv_iload_n hx hb dX12_passes_15 rfl (lv_at hl 0 rfl) ?_
        refine tw_iald hx hb hK hS hz_b15 hk_b15 (Or.inr (by decide)) hn_b15 (lo := 0) (hi := 11) h13 ⟨by decide, by decide⟩ rg_u31 dX12_passes_16 (fun x19 k18 h17 => ?_)
        refine lv_iload_n hx hb dX12_passes_17 rfl (lv_at hl 0 rfl) ?_
        refine tw_gov hS (md_runV (As := [.int x19, .int x1]) (rest := []) hx hb hml hown hW hK hT hS.1 (t_X12_asks l D cy tx base Z K N M2 R3 J4 hS.2.1 a0 hz_a0 hk_a0 x19 h17 x1 (iv_mono h13 (by decide) (by decide)) (Codes.fr co_a0 hTy hz_a0 hk_a0 hS.2.2.1 hS.2.2.2 rfl)) s_X12_396 ⟨rfl, rfl, ⟨Nat.le_of_ble_eq_true rfl, Nat.le_of_ble_eq_true rfl⟩, ⟨Nat.le_of_ble_eq_true rfl, Nat.le_of_ble_eq_true rfl⟩⟩ hz_a0 hk_a0 (by decide) rfl rfl hl.1 rfl (Nat.le_of_ble_eq_true rfl) dX12_passes_18) rfl rfl (fun H locs M23 R24 J22 hS f20 g21 E25 => ?_)
        have eR24 := Fr.nil g21 rfl
        subst eR24
        refine lv_aload_n hx hb dX12_passes_21 rfl (lv_at hl 1 rfl) ?_
        refine lv_iload_n hx hb dX12_passes_22 rfl (lv_at hl 2 rfl) ?_
        refine lv_aload_n hx hb dX12_passes_23 rfl (lv_at hl 1 rfl) ?_
        refine tw_getrk hx hb hW hown hK hS f_X12_54_11 hz_a0 hk_a0 (b := b15) k16 dX12_passes_24 ?_
        refine lv_iload_n hx hb dX12_passes_27 rfl (lv_at hl 0 rfl) ?_
        have k26 : M23 b15 x1.toNatClampNeg = x19 := (Fr.kpa f20 hk_b15 rfl x1.toNatClampNeg).trans k18
        refine tw_ialk hx hb hK hS hz_b15 hk_b15 (Or.inr (by decide)) hn_b15 h13 ⟨by decide, by decide⟩ (v := x19) k26 dX12_passes_28 ?_
        refine lv_aload_n hx hb dX12_passes_29 rfl (lv_at hl 1 rfl) ?_
        refine tw_goi hS (md_runV (As := []) (rest := [.int x19, .int a1, .ref (base + a0)]) hx hb hml hown hW hK hT hS.1 (t_X12_settles_ l D cy tx base Z K N M23 R3 J22 hS.2.1 a0 hz_a0 hk_a0) s_X12_399 ⟨rfl, rfl, ⟨Nat.le_of_ble_eq_true rfl, Nat.le_of_ble_eq_true rfl⟩, ⟨Nat.le_of_ble_eq_true rfl, Nat.le_of_ble_eq_true rfl⟩⟩ hz_a0 hk_a0 (by decide) rfl rfl hl.1 rfl (Nat.le_of_ble_eq_true rfl) dX12_passes_30) rfl rfl (fun x33 H locs M30 R31 J29 hS f27 g28 E32 => ?_)
        have eR31 := Fr.nil g28 rfl
        subst eR31
        have h_x33 := E32
        clear E32
        refine tw_gov hS (md_runV (As := [.int a1, .int x19, .int x33]) (rest := []) hx hb hml hown hW hK hT hS.1 (t_X12_counts l D cy tx base Z K N M30 R3 J29 hS.2.1 a0 hz_a0 hk_a0 a1 h_a1 x19 h17 x33 h_x33) s_X12_413 ⟨rfl, rfl, ⟨Nat.le_of_ble_eq_true rfl, Nat.le_of_ble_eq_true rfl⟩, ⟨Nat.le_of_ble_eq_true rfl, Nat.le_of_ble_eq_true rfl⟩⟩ hz_a0 hk_a0 (by decide) rfl rfl hl.1 rfl (Nat.le_of_ble_eq_true rfl) dX12_passes_33) rfl rfl (fun H locs M37 R38 J36 hS f34 g35 E39 => ?_)
        have eR38 := Fr.nil g35 rfl
        subst eR38
        refine tw_iinc (lv' := fun x42 => [(2, .int x42), (0, .ref (base + a0)), (1, .int a1)]) (lo := 1) (hi := 8) hx hb dX12_passes_36 hl (k := 0) rfl h13 (by decide) ⟨by decide, by decide⟩ ⟨by decide, by decide⟩ (by decide) (fun _ => rfl) (fun x42 ls e41 h40 hl => ?_)
        refine lv_goto (tgt := 2) hx hb dX12_passes_39 (by decide) ?_
        have hm43 : 8 - x42.toInt < (n_2 : Int) := by
          have := (h_a1).1; have := (h_a1).2; have := (h13).1; have := (h13).2; have := (h40).1; have := (h40).2; omega
        exact ih_2 x42 M37 R3 J36 H locs _ (iv_mono h40 (by decide) (by decide)) hm43 hS hl
  have hm44 : 8 - (0 : Int32).toInt < (((9 : Nat) : Int) : Int) := by
    have := (h_a1).1; have := (h_a1).2; have : (0 : Int32).toInt = 0 := (by decide); omega
  exact W2_2 9 0 Ma Ra Ja s.heap [] _ (iv_mono (iv_c (c := 0) (n := 0) (by decide)) (by decide) (by decide)) hm44 hS hl
def Lt_X12_isDigitHere : WL := []
def LRt_X12_isDigitHere : WL := []
set_option maxRecDepth 100000 in
set_option maxHeartbeats 4000000 in
theorem t_X12_isDigitHere (l : Launch) (D : va_G) (cy : Nat → ClassId) (tx : (Nat → Nat) × (Nat → Nat)) (base Z : Nat) (K N : Nat → Nat) (Ma : MT) (Ra : RT) (Ja : JT) (hTy : Ty Z K N Ma Ra) (a0 : Nat) (hz_a0 : a0 < Z) (hk_a0 : K a0 = 12) : Met l yX12_isDigitHere [Cond.code yX12_isDigitHere cX12_isDigitHere 1 (some .boolean)] (md_rm 1 0 0) (va_Pc [.ref (base + a0)] (md_U D cy tx base Z K N Ma Ra Ja)) (mQi D cy tx base (fun r u => TP Z K N Lt_X12_isDigitHere LRt_X12_isDigitHere Ma Ra u ∧ (iv 0 1 r))) 0 0 (fun q => base ≤ q) := by
  refine tw_ofW (L := Lt_X12_isDigitHere) (LR := LRt_X12_isDigitHere) (by decide) (Nat.le_of_ble_eq_true rfl) hTy ?_
  intro p e s m args below meth c Q ls hx hb hr hlocks hown hml hW hK hT hS hQ hl
  have hl : lv_has ls 1 [(0, .ref (base + a0))] := hl
  refine lv_aload_n hx hb dX12_isDigitHere_0 rfl (lv_at hl 0 rfl) ?_
  refine tw_geti hx hb hW hown hK hS f_X12_127_11 hz_a0 hk_a0 (lo := 0) (hi := 400) rfl dX12_isDigitHere_1 (fun x3 k2 h1 => ?_)
  refine lv_aload_n hx hb dX12_isDigitHere_4 rfl (lv_at hl 0 rfl) ?_
  refine tw_geti hx hb hW hown hK hS f_X12_116_11 hz_a0 hk_a0 (lo := 0) (hi := 400) rfl dX12_isDigitHere_5 (fun x6 k5 h4 => ?_)
  refine lv_icmp_ge (tgt := 43) hx hb dX12_isDigitHere_8 (by decide) (fun c7 => ?_) (fun c7 => ?_)
  · have q8 : x6.toInt ≤ x3.toInt := ti_le c7
    refine lv_iconst (v := 0) hx hb dX12_isDigitHere_43 (by decide) ?_
    exact tw_endz hx hb hr hlocks hK hT hS hQ rfl ((iv_mono (iv_c (c := 0) (n := 0) (by decide)) (by decide) (by decide))) dX12_isDigitHere_44
  · have q9 : x3.toInt < x6.toInt := ti_nle c7
    have h10 : iv 0 399 x3 := iv_ltL (y := x6) h1 h4 q9 (by decide)
    have h11 : iv 1 400 x6 := iv_gtL (y := x3) h4 h1 q9 (by decide)
    refine lv_aload_n hx hb dX12_isDigitHere_11 rfl (lv_at hl 0 rfl) ?_
    refine tw_getr hx hb hW hown hK hS f_X12_7_11 hz_a0 hk_a0 (t := 13) (n := 400) rfl dX12_isDigitHere_12 (fun b12 k13 hz_b12 hk_b12 hn_b12 => ?_)
    have hn_b12 := hn_b12 (by decide)
    refine lv_aload_n hx hb dX12_isDigitHere_15 rfl (lv_at hl 0 rfl) ?_
    refine tw_getk hx hb hW hown hK hS f_X12_127_11 hz_a0 hk_a0 (v := x3) k2 dX12_isDigitHere_16 ?_
    refine tw_bald hx hb hK hS hz_b12 hk_b12 hn_b12 h10 ⟨by decide, by decide⟩ dX12_isDigitHere_19 (fun x16 k15 => ?_)
    have h14 := iv_any x16
    refine lv_bipush (v := 48) hx hb dX12_isDigitHere_20 (by decide) ?_
    refine lv_icmp_lt (tgt := 43) hx hb dX12_isDigitHere_22 (by decide) (fun c17 => ?_) (fun c17 => ?_)
    · have q18 : x16.toInt < 48 := ti_lt c17
      have h19 : iv (-2147483648) 47 x16 := iv_ltL (y := 48) h14 (iv_c (c := 48) (n := 48) (by decide)) q18 (by decide)
      refine lv_iconst (v := 0) hx hb dX12_isDigitHere_43 (by decide) ?_
      exact tw_endz hx hb hr hlocks hK hT hS hQ rfl ((iv_mono (iv_c (c := 0) (n := 0) (by decide)) (by decide) (by decide))) dX12_isDigitHere_44
    · have q20 : 48 ≤ x16.toInt := ti_nlt c17
      have h21 : iv 48 2147483647 x16 := iv_geL (y := 48) h14 (iv_c (c := 48) (n := 48) (by decide)) q20 (by decide)
      refine lv_aload_n hx hb dX12_isDigitHere_25 rfl (lv_at hl 0 rfl) ?_
      refine tw_getrk hx hb hW hown hK hS f_X12_7_11 hz_a0 hk_a0 (b := b12) k13 dX12_isDigitHere_26 ?_
      refine lv_aload_n hx hb dX12_isDigitHere_29 rfl (lv_at hl 0 rfl) ?_
      refine tw_getk hx hb hW hown hK hS f_X12_127_11 hz_a0 hk_a0 (v := x3) k2 dX12_isDigitHere_30 ?_
      refine tw_balk hx hb hK hS hz_b12 hk_b12 hn_b12 h10 ⟨by decide, by decide⟩ (v := x16) k15 dX12_isDigitHere_33 ?_
      refine lv_bipush (v := 57) hx hb dX12_isDigitHere_34 (by decide) ?_
      refine lv_icmp_gt (tgt := 43) hx hb dX12_isDigitHere_36 (by decide) (fun c22 => ?_) (fun c22 => ?_)
      · have q23 : 57 < x16.toInt := ti_lt c22
        have h24 : iv 58 2147483647 x16 := iv_gtL (y := 57) h21 (iv_c (c := 57) (n := 57) (by decide)) q23 (by decide)
        refine lv_iconst (v := 0) hx hb dX12_isDigitHere_43 (by decide) ?_
        exact tw_endz hx hb hr hlocks hK hT hS hQ rfl ((iv_mono (iv_c (c := 0) (n := 0) (by decide)) (by decide) (by decide))) dX12_isDigitHere_44
      · have q25 : x16.toInt ≤ 57 := ti_nlt c22
        have h26 : iv 48 57 x16 := iv_leL (y := 57) h21 (iv_c (c := 57) (n := 57) (by decide)) q25 (by decide)
        refine lv_iconst (v := 1) hx hb dX12_isDigitHere_39 (by decide) ?_
        refine lv_goto (tgt := 44) hx hb dX12_isDigitHere_40 (by decide) ?_
        exact tw_endz hx hb hr hlocks hK hT hS hQ rfl ((iv_mono (iv_c (c := 1) (n := 1) (by decide)) (by decide) (by decide))) dX12_isDigitHere_44
def Lt_X12_comesTo : WL := [(12, 23, 24), (12, 28, 29), (12, 31, 33), (14, 0, 2000000), (36, 0, 2000000), (41, 0, 2000000)]
def LRt_X12_comesTo : WL := []
set_option maxRecDepth 100000 in
set_option maxHeartbeats 4000000 in
theorem t_X12_comesTo (l : Launch) (D : va_G) (cy : Nat → ClassId) (tx : (Nat → Nat) × (Nat → Nat)) (base Z : Nat) (K N : Nat → Nat) (Ma : MT) (Ra : RT) (Ja : JT) (hTy : Ty Z K N Ma Ra) (a0 : Nat) (hz_a0 : a0 < Z) (hk_a0 : K a0 = 12) (a1 : Int32) (h_a1 : iv 0 0 a1) (co_a0 : Codes Ma Ra a0) : Met l yX12_comesTo [Cond.code yX12_comesTo cX12_comesTo 3 none] (md_rm 5 0 0) (va_Pc [.ref (base + a0), .int a1] (md_U D cy tx base Z K N Ma Ra Ja)) (mQv D cy tx base (fun u => TP Z K N Lt_X12_comesTo LRt_X12_comesTo Ma Ra u ∧ (True))) 0 0 (fun q => base ≤ q) := by
  refine tw_ofW (L := Lt_X12_comesTo) (LR := LRt_X12_comesTo) (by decide) (Nat.le_of_ble_eq_true rfl) hTy ?_
  intro p e s m args below meth c Q ls hx hb hr hlocks hown hml hW hK hT hS hQ hl
  have hl : lv_has ls 3 [(0, .ref (base + a0)), (1, .int a1)] := hl
  refine lv_iconst (v := 0) hx hb dX12_comesTo_0 (by decide) ?_
  refine lv_istore_n (lv' := [(2, .int 0), (0, .ref (base + a0)), (1, .int a1)]) hx hb dX12_comesTo_1 rfl hl (by decide) rfl (fun ls hl => ?_)
  have W2_2 : ∀ (n_2 : Nat) (x1 : Int32) (M2 : MT) (R3 : RT) (J4 : JT) (H : Heap) (locs : List Loc) (ls : Array Slot) (h_x1 : iv 0 10 x1) (hm_2 : 10 - x1.toInt < (n_2 : Int)) (hS : SB D cy base Z K N Lt_X12_comesTo LRt_X12_comesTo Ma Ra M2 R3 J4 s H locs) (hl : lv_has ls 3 [(2, .int x1), (0, .ref (base + a0)), (1, .int a1)]), W p l e (md_rm 5 0 0) s m args below meth c H locs 0 0 Q (F0 m 2 ls []) := by
    intro n_2
    induction n_2 with
    | zero =>
      intro x1 M2 R3 J4 H locs ls h_x1 hm_2 hS hl
      exfalso
      have := (h_a1).1; have := (h_a1).2; have := (h_x1).1; have := (h_x1).2; omega
    | succ n_2 ih_2 =>
      intro x1 M2 R3 J4 H locs ls h_x1 hm_2 hS hl
      have f5 := hS.2.2.1
      have g6 := hS.2.2.2
      refine lv_iload_n hx hb dX12_comesTo_2 rfl (lv_at hl 0 rfl) ?_
      refine lv_bipush (v := 10) hx hb dX12_comesTo_3 (by decide) ?_
      refine lv_icmp_ge (tgt := 31) hx hb dX12_comesTo_5 (by decide) (fun c7 => ?_) (fun c7 => ?_)
      · have q8 : 10 ≤ x1.toInt := ti_le c7
        have h9 : iv 10 10 x1 := iv_geL (y := 10) h_x1 (iv_c (c := 10) (n := 10) (by decide)) q8 (by decide)
        refine lv_aload_n hx hb dX12_comesTo_31 rfl (lv_at hl 1 rfl) ?_
        refine lv_aload_n hx hb dX12_comesTo_32 rfl (lv_at hl 1 rfl) ?_
        refine tw_getr hx hb hW hown hK hS f_X12_45_11 hz_a0 hk_a0 (t := 23) (n := 226) rfl dX12_comesTo_33 (fun b10 k11 hz_b10 hk_b10 hn_b10 => ?_)
        have hn_b10 := hn_b10 (by decide)
        refine lv_iconst (v := 3) hx hb dX12_comesTo_36 (by decide) ?_
        refine tw_iald hx hb hK hS hz_b10 hk_b10 (Or.inr (by decide)) hn_b10 (lo := (-2147483648)) (hi := 2147483647) (iv_c (c := 3) (n := 3) (by decide)) ⟨by decide, by decide⟩ (rg_c (k0 := 3) rfl rfl rfl) dX12_comesTo_37 (fun x14 k13 h12 => ?_)
        refine lv_iload_n hx hb dX12_comesTo_38 rfl (lv_at hl 2 rfl) ?_
        refine tw_iadd (lo := (-2147483648)) (hi := 2147483647) hx hb h12 h_a1 ⟨by decide, by decide⟩ ⟨by decide, by decide⟩ dX12_comesTo_39 (fun x17 e16 h15 => ?_)
        refine tw_puti hx hb hW hown hK hS f_X12_348_11 hz_a0 hk_a0 rfl rfl (lo := (-2147483648)) (hi := 2147483647) rfl h15 rfl dX12_comesTo_40 (fun H locs M20 hS k18 f19 => ?_)
        refine lv_aload_n hx hb dX12_comesTo_43 rfl (lv_at hl 1 rfl) ?_
        refine lv_aload_n hx hb dX12_comesTo_44 rfl (lv_at hl 1 rfl) ?_
        refine tw_getr hx hb hW hown hK hS f_X12_54_11 hz_a0 hk_a0 (t := 31) (n := 8) rfl dX12_comesTo_45 (fun b21 k22 hz_b21 hk_b21 hn_b21 => ?_)
        have hn_b21 := hn_b21 (by decide)
        refine lv_iload_n hx hb dX12_comesTo_48 rfl (lv_at hl 2 rfl) ?_
        refine tw_iald hx hb hK hS hz_b21 hk_b21 (Or.inr (by decide)) hn_b21 (lo := 0) (hi := 11) h_a1 ⟨by decide, by decide⟩ rg_u31 dX12_comesTo_49 (fun x25 k24 h23 => ?_)
        refine lv_iload_n hx hb dX12_comesTo_50 rfl (lv_at hl 2 rfl) ?_
        refine tw_gov hS (md_runV (As := [.int x25, .int a1]) (rest := []) hx hb hml hown hW hK hT hS.1 (t_X12_asks l D cy tx base Z K N M20 R3 J4 hS.2.1 a0 hz_a0 hk_a0 x25 h23 a1 (iv_mono h_a1 (by decide) (by decide)) (Codes.fr co_a0 hTy hz_a0 hk_a0 hS.2.2.1 hS.2.2.2 rfl)) s_X12_396 ⟨rfl, rfl, ⟨Nat.le_of_ble_eq_true rfl, Nat.le_of_ble_eq_true rfl⟩, ⟨Nat.le_of_ble_eq_true rfl, Nat.le_of_ble_eq_true rfl⟩⟩ hz_a0 hk_a0 (by decide) rfl rfl hl.1 rfl (Nat.le_of_ble_eq_true rfl) dX12_comesTo_51) rfl rfl (fun H locs M29 R30 J28 hS f26 g27 E31 => ?_)
        have eR30 := Fr.nil g27 rfl
        subst eR30
        refine lv_aload_n hx hb dX12_comesTo_54 rfl (lv_at hl 1 rfl) ?_
        refine tw_getr hx hb hW hown hK hS f_X12_72_11 hz_a0 hk_a0 (t := 14) (n := 5) rfl dX12_comesTo_55 (fun b32 k33 hz_b32 hk_b32 hn_b32 => ?_)
        have hn_b32 := hn_b32 (by decide)
        refine lv_iload_n hx hb dX12_comesTo_58 rfl (lv_at hl 2 rfl) ?_
        refine lv_aload_n hx hb dX12_comesTo_59 rfl (lv_at hl 1 rfl) ?_
        refine tw_geti hx hb hW hown hK hS f_X12_364_11 hz_a0 hk_a0 (lo := (-2147483648)) (hi := 2147483647) rfl dX12_comesTo_60 (fun x36 k35 h34 => ?_)
        refine tw_iast hx hb hK hS hz_b32 hk_b32 (Or.inl rfl) hn_b32 h_a1 ⟨by decide, by decide⟩ h34 (rg_s14 ⟨by decide, by decide⟩) (jl := 0) (jh := 1999999) ⟨by decide, by decide⟩ rfl dX12_comesTo_63 (fun H locs M39 hS k37 f38 => ?_)
        refine lv_aload_n hx hb dX12_comesTo_64 rfl (lv_at hl 1 rfl) ?_
        refine tw_getr hx hb hW hown hK hS f_X12_75_11 hz_a0 hk_a0 (t := 14) (n := 5) rfl dX12_comesTo_65 (fun b40 k41 hz_b40 hk_b40 hn_b40 => ?_)
        have hn_b40 := hn_b40 (by decide)
        refine lv_iload_n hx hb dX12_comesTo_68 rfl (lv_at hl 2 rfl) ?_
        refine lv_aload_n hx hb dX12_comesTo_69 rfl (lv_at hl 1 rfl) ?_
        refine tw_geti hx hb hW hown hK hS f_X12_367_11 hz_a0 hk_a0 (lo := (-2147483648)) (hi := 2147483647) rfl dX12_comesTo_70 (fun x44 k43 h42 => ?_)
        refine tw_iast hx hb hK hS hz_b40 hk_b40 (Or.inl rfl) hn_b40 h_a1 ⟨by decide, by decide⟩ h42 (rg_s14 ⟨by decide, by decide⟩) (jl := 0) (jh := 1999999) ⟨by decide, by decide⟩ rfl dX12_comesTo_73 (fun H locs M47 hS k45 f46 => ?_)
        refine lv_aload_n hx hb dX12_comesTo_74 rfl (lv_at hl 1 rfl) ?_
        refine tw_getr hx hb hW hown hK hS f_X12_66_11 hz_a0 hk_a0 (t := 41) (n := 5) rfl dX12_comesTo_75 (fun b48 k49 hz_b48 hk_b48 hn_b48 => ?_)
        have hn_b48 := hn_b48 (by decide)
        refine lv_iload_n hx hb dX12_comesTo_78 rfl (lv_at hl 2 rfl) ?_
        refine lv_iconst (v := (-1)) hx hb dX12_comesTo_79 (by decide) ?_
        refine tw_iast hx hb hK hS hz_b48 hk_b48 (Or.inr (by decide)) hn_b48 h_a1 ⟨by decide, by decide⟩ (iv_c (c := (-1)) (n := (-1)) (by decide)) (rg_s41 ⟨by decide, by decide⟩) (jl := 0) (jh := 1999999) ⟨by decide, by decide⟩ rfl dX12_comesTo_80 (fun H locs M52 hS k50 f51 => ?_)
        exact tw_endv hx hb hr hlocks hK hT hS hQ (trivial) dX12_comesTo_81
      · have q53 : x1.toInt < 10 := ti_nle c7
        have h54 : iv 0 9 x1 := iv_ltL (y := 10) h_x1 (iv_c (c := 10) (n := 10) (by decide)) q53 (by decide)
        refine lv_aload_n hx hb dX12_comesTo_8 rfl (lv_at hl 1 rfl) ?_
        refine tw_getr hx hb hW hown hK hS f_X12_63_11 hz_a0 hk_a0 (t := 36) (n := 60) rfl dX12_comesTo_9 (fun b55 k56 hz_b55 hk_b55 hn_b55 => ?_)
        have hn_b55 := hn_b55 (by decide)
        refine lv_bipush (v := 10) hx hb dX12_comesTo_12 (by decide) ?_
        refine lv_iload_n hx hb dX12_comesTo_14 rfl (lv_at hl 2 rfl) ?_
        refine tw_icmul (k := 10) (lo := 0) (hi := 0) hx hb (by decide) h_a1 (by decide) ⟨by decide, by decide⟩ ⟨by decide, by decide⟩ dX12_comesTo_15 (fun x59 e58 h57 => ?_)
        refine lv_iload_n hx hb dX12_comesTo_16 rfl (lv_at hl 0 rfl) ?_
        refine tw_iadd (lo := 0) (hi := 9) hx hb h57 h54 ⟨by decide, by decide⟩ ⟨by decide, by decide⟩ dX12_comesTo_17 (fun x62 e61 h60 => ?_)
        refine lv_aload_n hx hb dX12_comesTo_18 rfl (lv_at hl 1 rfl) ?_
        refine tw_getr hx hb hW hown hK hS f_X12_51_11 hz_a0 hk_a0 (t := 30) (n := 10) rfl dX12_comesTo_19 (fun b63 k64 hz_b63 hk_b63 hn_b63 => ?_)
        have hn_b63 := hn_b63 (by decide)
        refine lv_iload_n hx hb dX12_comesTo_22 rfl (lv_at hl 0 rfl) ?_
        refine tw_iald hx hb hK hS hz_b63 hk_b63 (Or.inr (by decide)) hn_b63 (lo := 0) (hi := 9999) h54 ⟨by decide, by decide⟩ rg_u30 dX12_comesTo_23 (fun x67 k66 h65 => ?_)
        refine tw_iast hx hb hK hS hz_b55 hk_b55 (Or.inr (by decide)) hn_b55 h60 ⟨by decide, by decide⟩ h65 (rg_s36 ⟨by decide, by decide⟩) (jl := 0) (jh := 1999999) ⟨by decide, by decide⟩ rfl dX12_comesTo_24 (fun H locs M70 hS k68 f69 => ?_)
        refine tw_iinc (lv' := fun x73 => [(2, .int x73), (0, .ref (base + a0)), (1, .int a1)]) (lo := 1) (hi := 10) hx hb dX12_comesTo_25 hl (k := 0) rfl h54 (by decide) ⟨by decide, by decide⟩ ⟨by decide, by decide⟩ (by decide) (fun _ => rfl) (fun x73 ls e72 h71 hl => ?_)
        refine lv_goto (tgt := 2) hx hb dX12_comesTo_28 (by decide) ?_
        have hm74 : 10 - x73.toInt < (n_2 : Int) := by
          have := (h_a1).1; have := (h_a1).2; have := (h54).1; have := (h54).2; have := (h60).1; have := (h60).2; have := (h71).1; have := (h71).2; omega
        exact ih_2 x73 M70 R3 J4 H locs _ (iv_mono h71 (by decide) (by decide)) hm74 hS hl
  have hm75 : 10 - (0 : Int32).toInt < (((11 : Nat) : Int) : Int) := by
    have := (h_a1).1; have := (h_a1).2; have : (0 : Int32).toInt = 0 := (by decide); omega
  exact W2_2 11 0 Ma Ra Ja s.heap [] _ (iv_mono (iv_c (c := 0) (n := 0) (by decide)) (by decide) (by decide)) hm75 hS hl
def Lt_X12_count : WL := []
def LRt_X12_count : WL := []
set_option maxRecDepth 100000 in
set_option maxHeartbeats 4000000 in
theorem t_X12_count (l : Launch) (D : va_G) (cy : Nat → ClassId) (tx : (Nat → Nat) × (Nat → Nat)) (base Z : Nat) (K N : Nat → Nat) (Ma : MT) (Ra : RT) (Ja : JT) (hTy : Ty Z K N Ma Ra) (a0 : Nat) (hz_a0 : a0 < Z) (hk_a0 : K a0 = 12) (a1 : Int32) (h_a1 : iv (-2147483648) 2147483647 a1) : Met l yX12_count [Cond.code yX12_count cX12_count 4 (some .int)] (md_rm 2 0 0) (va_Pc [.ref (base + a0), .int a1] (md_U D cy tx base Z K N Ma Ra Ja)) (mQi D cy tx base (fun r u => TP Z K N Lt_X12_count LRt_X12_count Ma Ra u ∧ (iv (-2147483648) 2147483647 r))) 0 0 (fun q => base ≤ q) := by
  refine tw_ofW (L := Lt_X12_count) (LR := LRt_X12_count) (by decide) (Nat.le_of_ble_eq_true rfl) hTy ?_
  intro p e s m args below meth c Q ls hx hb hr hlocks hown hml hW hK hT hS hQ hl
  have hl : lv_has ls 4 [(0, .ref (base + a0)), (1, .int a1)] := hl
  refine lv_iconst (v := 0) hx hb dX12_count_0 (by decide) ?_
  refine lv_istore_n (lv' := [(2, .int 0), (0, .ref (base + a0)), (1, .int a1)]) hx hb dX12_count_1 rfl hl (by decide) rfl (fun ls hl => ?_)
  refine lv_iload_n hx hb dX12_count_2 rfl (lv_at hl 2 rfl) ?_
  by_cases c1 : a1 = 0
  · subst c1
    refine lv_tableIn (off := 61) (tgt := 64) hx hb dX12_count_3 (by decide) (by decide) rfl (by decide) ?_
    refine lv_aload_n hx hb dX12_count_64 rfl (lv_at hl 1 rfl) ?_
    refine tw_getr hx hb hW hown hK hS f_X12_45_11 hz_a0 hk_a0 (t := 23) (n := 226) rfl dX12_count_65 (fun b2 k3 hz_b2 hk_b2 hn_b2 => ?_)
    have hn_b2 := hn_b2 (by decide)
    refine lv_iload_n hx hb dX12_count_68 rfl (lv_at hl 2 rfl) ?_
    refine tw_iald hx hb hK hS hz_b2 hk_b2 (Or.inr (by decide)) hn_b2 (lo := 0) (hi := 10) (iv_c (c := 0) (n := 0) (by decide)) ⟨by decide, by decide⟩ (rg_c (k0 := 0) rfl rfl rfl) dX12_count_69 (fun x6 k5 h4 => ?_)
    exact tw_endi hx hb hr hlocks hK hT hS hQ ((iv_mono h4 (by decide) (by decide))) dX12_count_70
  have q7 : ¬ a1.toInt = 0 := ti_ne c1
  by_cases c8 : a1 = 1
  · subst c8
    refine lv_tableIn (off := 61) (tgt := 64) hx hb dX12_count_3 (by decide) (by decide) rfl (by decide) ?_
    refine lv_aload_n hx hb dX12_count_64 rfl (lv_at hl 1 rfl) ?_
    refine tw_getr hx hb hW hown hK hS f_X12_45_11 hz_a0 hk_a0 (t := 23) (n := 226) rfl dX12_count_65 (fun b9 k10 hz_b9 hk_b9 hn_b9 => ?_)
    have hn_b9 := hn_b9 (by decide)
    refine lv_iload_n hx hb dX12_count_68 rfl (lv_at hl 2 rfl) ?_
    refine tw_iald hx hb hK hS hz_b9 hk_b9 (Or.inr (by decide)) hn_b9 (lo := 0) (hi := 12) (iv_c (c := 1) (n := 1) (by decide)) ⟨by decide, by decide⟩ (rg_c (k0 := 1) rfl rfl rfl) dX12_count_69 (fun x13 k12 h11 => ?_)
    exact tw_endi hx hb hr hlocks hK hT hS hQ ((iv_mono h11 (by decide) (by decide))) dX12_count_70
  have q14 : ¬ a1.toInt = 1 := ti_ne c8
  by_cases c15 : a1 = 2
  · subst c15
    refine lv_tableIn (off := 68) (tgt := 71) hx hb dX12_count_3 (by decide) (by decide) rfl (by decide) ?_
    refine lv_aload_n hx hb dX12_count_71 rfl (lv_at hl 1 rfl) ?_
    refine tw_geti hx hb hW hown hK hS f_X12_298_11 hz_a0 hk_a0 (lo := 0) (hi := 6) rfl dX12_count_72 (fun x18 k17 h16 => ?_)
    exact tw_endi hx hb hr hlocks hK hT hS hQ ((iv_mono h16 (by decide) (by decide))) dX12_count_75
  have q19 : ¬ a1.toInt = 2 := ti_ne c15
  by_cases c20 : a1 = 3
  · subst c20
    refine lv_tableIn (off := 73) (tgt := 76) hx hb dX12_count_3 (by decide) (by decide) rfl (by decide) ?_
    refine lv_aload_n hx hb dX12_count_76 rfl (lv_at hl 1 rfl) ?_
    refine tw_getr hx hb hW hown hK hS f_X12_45_11 hz_a0 hk_a0 (t := 23) (n := 226) rfl dX12_count_77 (fun b21 k22 hz_b21 hk_b21 hn_b21 => ?_)
    have hn_b21 := hn_b21 (by decide)
    refine lv_iconst (v := 2) hx hb dX12_count_80 (by decide) ?_
    refine tw_iald hx hb hK hS hz_b21 hk_b21 (Or.inr (by decide)) hn_b21 (lo := (-2147483648)) (hi := 2147483647) (iv_c (c := 2) (n := 2) (by decide)) ⟨by decide, by decide⟩ (rg_c (k0 := 2) rfl rfl rfl) dX12_count_81 (fun x25 k24 h23 => ?_)
    refine tw_goi hS (md_runS (As := [.int x25]) (rest := []) hx hb hml hown hW hK hT hS.1 (t_X12_bits l D cy tx base Z K N Ma Ra Ja hS.2.1 x25 h23) s_X12_341 ⟨rfl, rfl, ⟨Nat.le_of_ble_eq_true rfl, Nat.le_of_ble_eq_true rfl⟩, ⟨Nat.le_of_ble_eq_true rfl, Nat.le_of_ble_eq_true rfl⟩⟩ rfl hl.1 rfl (Nat.le_of_ble_eq_true rfl) dX12_count_82) rfl rfl (fun x32 H locs M29 R30 J28 hS f26 g27 E31 => ?_)
    have eM29 := Fr.nil f26 rfl
    subst eM29
    have eR30 := Fr.nil g27 rfl
    subst eR30
    have h_x32 := E31
    clear E31
    exact tw_endi hx hb hr hlocks hK hT hS hQ (h_x32) dX12_count_85
  have q33 : ¬ a1.toInt = 3 := ti_ne c20
  by_cases c34 : a1 = 4
  · subst c34
    refine lv_tableIn (off := 83) (tgt := 86) hx hb dX12_count_3 (by decide) (by decide) rfl (by decide) ?_
    refine lv_iconst (v := 0) hx hb dX12_count_86 (by decide) ?_
    refine lv_istore_n (lv' := [(3, .int 0), (2, .int 0), (0, .ref (base + a0)), (1, .int 4)]) hx hb dX12_count_87 rfl hl (by decide) rfl (fun ls hl => ?_)
    have W88_37 : ∀ (n_37 : Nat) (x35 : Int32) (x36 : Int32) (M37 : MT) (R38 : RT) (J39 : JT) (H : Heap) (locs : List Loc) (ls : Array Slot) (h_x35 : iv (-2147483648) 2147483647 x35) (h_x36 : iv 0 10 x36) (hm_37 : 10 - x36.toInt < (n_37 : Int)) (hS : SB D cy base Z K N Lt_X12_count LRt_X12_count Ma Ra M37 R38 J39 s H locs) (hl : lv_has ls 4 [(2, .int x35), (3, .int x36), (0, .ref (base + a0)), (1, .int 4)]), W p l e (md_rm 2 0 0) s m args below meth c H locs 0 0 Q (F0 m 88 ls []) := by
      intro n_37
      induction n_37 with
      | zero =>
        intro x35 x36 M37 R38 J39 H locs ls h_x35 h_x36 hm_37 hS hl
        exfalso
        have := (h_x36).1; have := (h_x36).2; omega
      | succ n_37 ih_37 =>
        intro x35 x36 M37 R38 J39 H locs ls h_x35 h_x36 hm_37 hS hl
        have f40 := hS.2.2.1
        have g41 := hS.2.2.2
        refine lv_iload_n hx hb dX12_count_88 rfl (lv_at hl 1 rfl) ?_
        refine lv_aload_n hx hb dX12_count_89 rfl (lv_at hl 2 rfl) ?_
        refine tw_getr hx hb hW hown hK hS f_X12_45_11 hz_a0 hk_a0 (t := 23) (n := 226) rfl dX12_count_90 (fun b42 k43 hz_b42 hk_b42 hn_b42 => ?_)
        have hn_b42 := hn_b42 (by decide)
        refine lv_iconst (v := 0) hx hb dX12_count_93 (by decide) ?_
        refine tw_iald hx hb hK hS hz_b42 hk_b42 (Or.inr (by decide)) hn_b42 (lo := 0) (hi := 10) (iv_c (c := 0) (n := 0) (by decide)) ⟨by decide, by decide⟩ (rg_c (k0 := 0) rfl rfl rfl) dX12_count_94 (fun x46 k45 h44 => ?_)
        refine lv_icmp_ge (tgt := 133) hx hb dX12_count_95 (by decide) (fun c47 => ?_) (fun c47 => ?_)
        · have q48 : x46.toInt ≤ x36.toInt := ti_le c47
          refine lv_iload_n hx hb dX12_count_133 rfl (lv_at hl 0 rfl) ?_
          exact tw_endi hx hb hr hlocks hK hT hS hQ (h_x35) dX12_count_134
        · have q49 : x36.toInt < x46.toInt := ti_nle c47
          have h50 : iv 0 9 x36 := iv_ltL (y := x46) h_x36 h44 q49 (by decide)
          have h51 : iv 1 10 x46 := iv_gtL (y := x36) h44 h_x36 q49 (by decide)
          refine lv_iload_n hx hb dX12_count_98 rfl (lv_at hl 0 rfl) ?_
          refine lv_aload_n hx hb dX12_count_99 rfl (lv_at hl 2 rfl) ?_
          refine tw_getrk hx hb hW hown hK hS f_X12_45_11 hz_a0 hk_a0 (b := b42) k43 dX12_count_100 ?_
          refine lv_iconst (v := 2) hx hb dX12_count_103 (by decide) ?_
          refine tw_iald hx hb hK hS hz_b42 hk_b42 (Or.inr (by decide)) hn_b42 (lo := (-2147483648)) (hi := 2147483647) (iv_c (c := 2) (n := 2) (by decide)) ⟨by decide, by decide⟩ (rg_c (k0 := 2) rfl rfl rfl) dX12_count_104 (fun x54 k53 h52 => ?_)
          refine lv_iload_n hx hb dX12_count_105 rfl (lv_at hl 1 rfl) ?_
          refine tw_goi hS (md_runS (As := [.int x54, .int x36]) (rest := [.int x35]) hx hb hml hown hW hK hT hS.1 (t_X12_isOf l D cy tx base Z K N M37 R38 J39 hS.2.1 x54 h52 x36 h50) s_X12_322 ⟨rfl, rfl, ⟨Nat.le_of_ble_eq_true rfl, Nat.le_of_ble_eq_true rfl⟩, ⟨Nat.le_of_ble_eq_true rfl, Nat.le_of_ble_eq_true rfl⟩⟩ rfl hl.1 rfl (Nat.le_of_ble_eq_true rfl) dX12_count_106) rfl rfl (fun x61 H locs M58 R59 J57 hS f55 g56 E60 => ?_)
          have eM58 := Fr.nil f55 rfl
          subst eM58
          have eR59 := Fr.nil g56 rfl
          subst eR59
          have h_x61 := E60
          clear E60
          refine lv_if_eq (tgt := 124) hx hb dX12_count_109 (by decide) (fun c62 => ?_) (fun c62 => ?_)
          · have q63 : x61.toInt = 0 := ti_eq c62
            have h64 : iv 0 0 x61 := ⟨by have := (h_x61).1; have := ((iv_c (c := 0) (n := 0) (by decide))).1; omega, by have := (h_x61).2; have := ((iv_c (c := 0) (n := 0) (by decide))).2; omega⟩
            refine lv_iconst (v := 0) hx hb dX12_count_124 (by decide) ?_
            refine tw_iadd (lo := (-2147483648)) (hi := 2147483647) hx hb h_x35 (iv_c (c := 0) (n := 0) (by decide)) ⟨by decide, by decide⟩ ⟨by decide, by decide⟩ dX12_count_125 (fun x67 e66 h65 => ?_)
            have e66 : x67.toInt = x35.toInt + 0 := e66
            refine lv_istore_n (lv' := [(2, .int x67), (3, .int x36), (0, .ref (base + a0)), (1, .int 4)]) hx hb dX12_count_126 rfl hl (by decide) rfl (fun ls hl => ?_)
            refine tw_iinc (lv' := fun x70 => [(3, .int x70), (2, .int x67), (0, .ref (base + a0)), (1, .int 4)]) (lo := 1) (hi := 10) hx hb dX12_count_127 hl (k := 1) rfl h50 (by decide) ⟨by decide, by decide⟩ ⟨by decide, by decide⟩ (by decide) (fun _ => rfl) (fun x70 ls e69 h68 hl => ?_)
            refine lv_goto (tgt := 88) hx hb dX12_count_130 (by decide) ?_
            have hm71 : 10 - x70.toInt < (n_37 : Int) := by
              have := (h50).1; have := (h50).2; have := (h68).1; have := (h68).2; omega
            exact ih_37 x67 x70 M37 R38 J57 H locs _ h65 (iv_mono h68 (by decide) (by decide)) hm71 hS (lv_sub hl [1, 0, 2, 3] rfl)
          · have q72 : ¬ x61.toInt = 0 := ti_ne c62
            have h73 : iv 1 1 x61 := ⟨by have := (h_x61).1; have := ((iv_c (c := 0) (n := 0) (by decide))).1; have := ((iv_c (c := 0) (n := 0) (by decide))).2; omega, by have := (h_x61).2; have := ((iv_c (c := 0) (n := 0) (by decide))).1; have := ((iv_c (c := 0) (n := 0) (by decide))).2; omega⟩
            refine lv_aload_n hx hb dX12_count_112 rfl (lv_at hl 2 rfl) ?_
            refine tw_getrk hx hb hW hown hK hS f_X12_45_11 hz_a0 hk_a0 (b := b42) k43 dX12_count_113 ?_
            refine lv_bipush (v := 10) hx hb dX12_count_116 (by decide) ?_
            refine lv_iload_n hx hb dX12_count_118 rfl (lv_at hl 1 rfl) ?_
            refine tw_iadd (lo := 10) (hi := 19) hx hb (iv_c (c := 10) (n := 10) (by decide)) h50 ⟨by decide, by decide⟩ ⟨by decide, by decide⟩ dX12_count_119 (fun x76 e75 h74 => ?_)
            have e75 : x76.toInt = 10 + x36.toInt := e75
            refine tw_iald hx hb hK hS hz_b42 hk_b42 (Or.inr (by decide)) hn_b42 (lo := 0) (hi := 9999) h74 ⟨by decide, by decide⟩ (rg_sv ⟨by decide, by decide⟩) dX12_count_120 (fun x79 k78 h77 => ?_)
            refine lv_goto (tgt := 125) hx hb dX12_count_121 (by decide) ?_
            refine lv_iadd hx hb dX12_count_125 ?_
            refine tw_top (fun x81 => ?_)
            have h80 := iv_any x81
            refine lv_istore_n (lv' := [(2, .int x81), (3, .int x36), (0, .ref (base + a0)), (1, .int 4)]) hx hb dX12_count_126 rfl hl (by decide) rfl (fun ls hl => ?_)
            refine tw_iinc (lv' := fun x84 => [(3, .int x84), (2, .int x81), (0, .ref (base + a0)), (1, .int 4)]) (lo := 1) (hi := 10) hx hb dX12_count_127 hl (k := 1) rfl h50 (by decide) ⟨by decide, by decide⟩ ⟨by decide, by decide⟩ (by decide) (fun _ => rfl) (fun x84 ls e83 h82 hl => ?_)
            refine lv_goto (tgt := 88) hx hb dX12_count_130 (by decide) ?_
            have hm85 : 10 - x84.toInt < (n_37 : Int) := by
              have := (h50).1; have := (h50).2; have := (h74).1; have := (h74).2; have := (h82).1; have := (h82).2; omega
            exact ih_37 x81 x84 M37 R38 J57 H locs _ h80 (iv_mono h82 (by decide) (by decide)) hm85 hS (lv_sub hl [1, 0, 2, 3] rfl)
    have hm86 : 10 - (0 : Int32).toInt < (((11 : Nat) : Int) : Int) := by
      have : (0 : Int32).toInt = 0 := (by decide); omega
    exact W88_37 11 0 0 Ma Ra Ja s.heap [] _ (iv_mono (iv_c (c := 0) (n := 0) (by decide)) (by decide) (by decide)) (iv_mono (iv_c (c := 0) (n := 0) (by decide)) (by decide) (by decide)) hm86 hS (lv_sub hl [1, 0, 2, 3] rfl)
  have q87 : ¬ a1.toInt = 4 := ti_ne c34
  by_cases c88 : a1 = 5
  · subst c88
    refine lv_tableIn (off := 132) (tgt := 135) hx hb dX12_count_3 (by decide) (by decide) rfl (by decide) ?_
    refine lv_aload_n hx hb dX12_count_135 rfl (lv_at hl 1 rfl) ?_
    refine tw_getr hx hb hW hown hK hS f_X12_45_11 hz_a0 hk_a0 (t := 23) (n := 226) rfl dX12_count_136 (fun b89 k90 hz_b89 hk_b89 hn_b89 => ?_)
    have hn_b89 := hn_b89 (by decide)
    refine lv_iconst (v := 3) hx hb dX12_count_139 (by decide) ?_
    refine tw_iald hx hb hK hS hz_b89 hk_b89 (Or.inr (by decide)) hn_b89 (lo := (-2147483648)) (hi := 2147483647) (iv_c (c := 3) (n := 3) (by decide)) ⟨by decide, by decide⟩ (rg_c (k0 := 3) rfl rfl rfl) dX12_count_140 (fun x93 k92 h91 => ?_)
    exact tw_endi hx hb hr hlocks hK hT hS hQ (h91) dX12_count_141
  have q94 : ¬ a1.toInt = 5 := ti_ne c88
  by_cases c95 : a1 = 6
  · subst c95
    refine lv_tableIn (off := 139) (tgt := 142) hx hb dX12_count_3 (by decide) (by decide) rfl (by decide) ?_
    refine lv_aload_n hx hb dX12_count_142 rfl (lv_at hl 1 rfl) ?_
    refine tw_getr hx hb hW hown hK hS f_X12_45_11 hz_a0 hk_a0 (t := 23) (n := 226) rfl dX12_count_143 (fun b96 k97 hz_b96 hk_b96 hn_b96 => ?_)
    have hn_b96 := hn_b96 (by decide)
    refine lv_iconst (v := 4) hx hb dX12_count_146 (by decide) ?_
    refine tw_iald hx hb hK hS hz_b96 hk_b96 (Or.inr (by decide)) hn_b96 (lo := 0) (hi := 8) (iv_c (c := 4) (n := 4) (by decide)) ⟨by decide, by decide⟩ (rg_c (k0 := 4) rfl rfl rfl) dX12_count_147 (fun x100 k99 h98 => ?_)
    exact tw_endi hx hb hr hlocks hK hT hS hQ ((iv_mono h98 (by decide) (by decide))) dX12_count_148
  have q101 : ¬ a1.toInt = 6 := ti_ne c95
  by_cases c102 : a1 = 7
  · subst c102
    refine lv_tableIn (off := 146) (tgt := 149) hx hb dX12_count_3 (by decide) (by decide) rfl (by decide) ?_
    refine lv_aload_n hx hb dX12_count_149 rfl (lv_at hl 1 rfl) ?_
    refine tw_getr hx hb hW hown hK hS f_X12_45_11 hz_a0 hk_a0 (t := 23) (n := 226) rfl dX12_count_150 (fun b103 k104 hz_b103 hk_b103 hn_b103 => ?_)
    have hn_b103 := hn_b103 (by decide)
    refine lv_iconst (v := 5) hx hb dX12_count_153 (by decide) ?_
    refine tw_iald hx hb hK hS hz_b103 hk_b103 (Or.inr (by decide)) hn_b103 (lo := 0) (hi := 12) (iv_c (c := 5) (n := 5) (by decide)) ⟨by decide, by decide⟩ (rg_c (k0 := 5) rfl rfl rfl) dX12_count_154 (fun x107 k106 h105 => ?_)
    exact tw_endi hx hb hr hlocks hK hT hS hQ ((iv_mono h105 (by decide) (by decide))) dX12_count_155
  have q108 : ¬ a1.toInt = 7 := ti_ne c102
  by_cases c109 : a1 = 8
  · subst c109
    refine lv_tableIn (off := 153) (tgt := 156) hx hb dX12_count_3 (by decide) (by decide) rfl (by decide) ?_
    refine lv_aload_n hx hb dX12_count_156 rfl (lv_at hl 1 rfl) ?_
    refine tw_getr hx hb hW hown hK hS f_X12_45_11 hz_a0 hk_a0 (t := 23) (n := 226) rfl dX12_count_157 (fun b110 k111 hz_b110 hk_b110 hn_b110 => ?_)
    have hn_b110 := hn_b110 (by decide)
    refine lv_bipush (v := 6) hx hb dX12_count_160 (by decide) ?_
    refine tw_iald hx hb hK hS hz_b110 hk_b110 (Or.inr (by decide)) hn_b110 (lo := 0) (hi := 2147483647) (iv_c (c := 6) (n := 6) (by decide)) ⟨by decide, by decide⟩ (rg_c (k0 := 6) rfl rfl rfl) dX12_count_162 (fun x114 k113 h112 => ?_)
    exact tw_endi hx hb hr hlocks hK hT hS hQ ((iv_mono h112 (by decide) (by decide))) dX12_count_163
  have q115 : ¬ a1.toInt = 8 := ti_ne c109
  by_cases c116 : a1 = 9
  · subst c116
    refine lv_tableIn (off := 161) (tgt := 164) hx hb dX12_count_3 (by decide) (by decide) rfl (by decide) ?_
    refine lv_aload_n hx hb dX12_count_164 rfl (lv_at hl 1 rfl) ?_
    refine tw_geti hx hb hW hown hK hS f_X12_116_11 hz_a0 hk_a0 (lo := 0) (hi := 400) rfl dX12_count_165 (fun x119 k118 h117 => ?_)
    exact tw_endi hx hb hr hlocks hK hT hS hQ ((iv_mono h117 (by decide) (by decide))) dX12_count_168
  have q120 : ¬ a1.toInt = 9 := ti_ne c116
  by_cases c121 : a1 = 10
  · subst c121
    refine lv_tableIn (off := 166) (tgt := 169) hx hb dX12_count_3 (by decide) (by decide) rfl (by decide) ?_
    refine lv_aload_n hx hb dX12_count_169 rfl (lv_at hl 1 rfl) ?_
    refine tw_getr hx hb hW hown hK hS f_X12_45_11 hz_a0 hk_a0 (t := 23) (n := 226) rfl dX12_count_170 (fun b122 k123 hz_b122 hk_b122 hn_b122 => ?_)
    have hn_b122 := hn_b122 (by decide)
    refine lv_iload_n hx hb dX12_count_173 rfl (lv_at hl 2 rfl) ?_
    refine lv_iconst (v := 3) hx hb dX12_count_174 (by decide) ?_
    refine lv_isub hx hb dX12_count_175 ?_
    refine md_top (y := 7) (by decide) ?_
    refine tw_iald hx hb hK hS hz_b122 hk_b122 (Or.inr (by decide)) hn_b122 (lo := (-2147483648)) (hi := 2147483647) (iv_c (c := 7) (n := 7) (by decide)) ⟨by decide, by decide⟩ (rg_c (k0 := 7) rfl rfl rfl) dX12_count_176 (fun x126 k125 h124 => ?_)
    exact tw_endi hx hb hr hlocks hK hT hS hQ (h124) dX12_count_177
  have q127 : ¬ a1.toInt = 10 := ti_ne c121
  by_cases c128 : a1 = 11
  · subst c128
    refine lv_tableIn (off := 166) (tgt := 169) hx hb dX12_count_3 (by decide) (by decide) rfl (by decide) ?_
    refine lv_aload_n hx hb dX12_count_169 rfl (lv_at hl 1 rfl) ?_
    refine tw_getr hx hb hW hown hK hS f_X12_45_11 hz_a0 hk_a0 (t := 23) (n := 226) rfl dX12_count_170 (fun b129 k130 hz_b129 hk_b129 hn_b129 => ?_)
    have hn_b129 := hn_b129 (by decide)
    refine lv_iload_n hx hb dX12_count_173 rfl (lv_at hl 2 rfl) ?_
    refine lv_iconst (v := 3) hx hb dX12_count_174 (by decide) ?_
    refine lv_isub hx hb dX12_count_175 ?_
    refine md_top (y := 8) (by decide) ?_
    refine tw_iald hx hb hK hS hz_b129 hk_b129 (Or.inr (by decide)) hn_b129 (lo := 0) (hi := 9999) (iv_c (c := 8) (n := 8) (by decide)) ⟨by decide, by decide⟩ (rg_c (k0 := 8) rfl rfl rfl) dX12_count_176 (fun x133 k132 h131 => ?_)
    exact tw_endi hx hb hr hlocks hK hT hS hQ ((iv_mono h131 (by decide) (by decide))) dX12_count_177
  have q134 : ¬ a1.toInt = 11 := ti_ne c128
  refine lv_tableOut (tgt := 178) hx hb dX12_count_3 (by have := (h_a1).1; have := (h_a1).2; omega) (by decide) ?_
  refine lv_iconst (v := (-1)) hx hb dX12_count_178 (by decide) ?_
  exact tw_endi hx hb hr hlocks hK hT hS hQ ((iv_mono (iv_c (c := (-1)) (n := (-1)) (by decide)) (by decide) (by decide))) dX12_count_179
def Lt_X12_day : WL := [(12, 23, 24), (12, 28, 29), (12, 30, 33), (12, 35, 37), (14, 0, 2000000), (23, 3, 4), (23, 10, 20), (23, 30, 50), (30, 0, 2000000), (31, 0, 2000000)]
def LRt_X12_day : WL := []
set_option maxRecDepth 100000 in
set_option maxHeartbeats 4000000 in
theorem t_X12_day (l : Launch) (D : va_G) (cy : Nat → ClassId) (tx : (Nat → Nat) × (Nat → Nat)) (base Z : Nat) (K N : Nat → Nat) (Ma : MT) (Ra : RT) (Ja : JT) (hTy : Ty Z K N Ma Ra) (a0 : Nat) (hz_a0 : a0 < Z) (hk_a0 : K a0 = 12) (co_a0 : Codes Ma Ra a0) : Met l yX12_day [Cond.code yX12_day cX12_day 1 (some .int)] (md_rm 6 0 0) (va_Pc [.ref (base + a0)] (md_U D cy tx base Z K N Ma Ra Ja)) (mQi D cy tx base (fun r u => TP Z K N Lt_X12_day LRt_X12_day Ma Ra u ∧ (iv (-2147483648) 2147483647 r))) 0 0 (fun q => base ≤ q) := by
  refine tw_ofW (L := Lt_X12_day) (LR := LRt_X12_day) (by decide) (Nat.le_of_ble_eq_true rfl) hTy ?_
  intro p e s m args below meth c Q ls hx hb hr hlocks hown hml hW hK hT hS hQ hl
  have hl : lv_has ls 1 [(0, .ref (base + a0))] := hl
  refine lv_aload_n hx hb dX12_day_0 rfl (lv_at hl 0 rfl) ?_
  refine tw_getr hx hb hW hown hK hS f_X12_45_11 hz_a0 hk_a0 (t := 23) (n := 226) rfl dX12_day_1 (fun b1 k2 hz_b1 hk_b1 hn_b1 => ?_)
  have hn_b1 := hn_b1 (by decide)
  refine lv_iconst (v := 0) hx hb dX12_day_4 (by decide) ?_
  refine tw_iald hx hb hK hS hz_b1 hk_b1 (Or.inr (by decide)) hn_b1 (lo := 0) (hi := 10) (iv_c (c := 0) (n := 0) (by decide)) ⟨by decide, by decide⟩ (rg_c (k0 := 0) rfl rfl rfl) dX12_day_5 (fun x5 k4 h3 => ?_)
  refine lv_if_ne (tgt := 15) hx hb dX12_day_6 (by decide) (fun c6 => ?_) (fun c6 => ?_)
  · have q7 : ¬ x5.toInt = 0 := ti_ne c6
    have h8 : iv 1 10 x5 := ⟨by have := (h3).1; have := ((iv_c (c := 0) (n := 0) (by decide))).1; have := ((iv_c (c := 0) (n := 0) (by decide))).2; omega, by have := (h3).2; have := ((iv_c (c := 0) (n := 0) (by decide))).1; have := ((iv_c (c := 0) (n := 0) (by decide))).2; omega⟩
    refine lv_aload_n hx hb dX12_day_15 rfl (lv_at hl 0 rfl) ?_
    obtain ⟨x11, k9⟩ : ∃ x, Ma b1 (4 : Int32).toNatClampNeg = x := ⟨_, rfl⟩
    have h10 : iv 0 8 x11 := by rw [← k9]; exact hS.2.1.int hz_b1 hk_b1 (show rgI 23 (4 : Int32).toNatClampNeg = (0, 8) from rfl)
    refine tw_gov hS (md_runV (As := []) (rest := []) hx hb hml hown hW hK hT hS.1 (t_X12_begins l D cy tx base Z K N Ma Ra Ja hS.2.1 a0 hz_a0 hk_a0 b1 k2 x11 k9 (iv_mono h10 (by decide) (by decide))) s_X12_393 ⟨rfl, rfl, ⟨Nat.le_of_ble_eq_true rfl, Nat.le_of_ble_eq_true rfl⟩, ⟨Nat.le_of_ble_eq_true rfl, Nat.le_of_ble_eq_true rfl⟩⟩ hz_a0 hk_a0 (by decide) rfl rfl hl.1 rfl (Nat.le_of_ble_eq_true rfl) dX12_day_16) rfl rfl (fun H locs M15 R16 J14 hS f12 g13 E17 => ?_)
    have eR16 := Fr.nil g13 rfl
    subst eR16
    have p18 := E17
    clear E17
    have k19 : M15 a0 30 = x11 := p18
    refine lv_aload_n hx hb dX12_day_19 rfl (lv_at hl 0 rfl) ?_
    refine lv_iconst (v := 0) hx hb dX12_day_20 (by decide) ?_
    refine tw_puti hx hb hW hown hK hS f_X12_407_11 hz_a0 hk_a0 rfl rfl (lo := (-2147483648)) (hi := 2147483647) rfl (iv_mono (iv_c (c := 0) (n := 0) (by decide)) (by decide) (by decide)) rfl dX12_day_21 (fun H locs M22 hS k20 f21 => ?_)
    refine lv_aload_n hx hb dX12_day_24 rfl (lv_at hl 0 rfl) ?_
    refine lv_iconst (v := 0) hx hb dX12_day_25 (by decide) ?_
    refine tw_gov hS (md_runV (As := [.int 0]) (rest := []) hx hb hml hown hW hK hT hS.1 (t_X12_passes l D cy tx base Z K N M22 Ra J14 hS.2.1 a0 hz_a0 hk_a0 0 (iv_mono (iv_c (c := 0) (n := 0) (by decide)) (by decide) (by decide)) (Codes.fr co_a0 hTy hz_a0 hk_a0 hS.2.2.1 hS.2.2.2 rfl)) s_X12_417 ⟨rfl, rfl, ⟨Nat.le_of_ble_eq_true rfl, Nat.le_of_ble_eq_true rfl⟩, ⟨Nat.le_of_ble_eq_true rfl, Nat.le_of_ble_eq_true rfl⟩⟩ hz_a0 hk_a0 (by decide) rfl rfl hl.1 rfl (Nat.le_of_ble_eq_true rfl) dX12_day_26) rfl rfl (fun H locs M26 R27 J25 hS f23 g24 E28 => ?_)
    have eR27 := Fr.nil g24 rfl
    subst eR27
    refine lv_aload_n hx hb dX12_day_29 rfl (lv_at hl 0 rfl) ?_
    refine tw_gov hS (md_runV (As := []) (rest := []) hx hb hml hown hW hK hT hS.1 (t_X12_stays l D cy tx base Z K N M26 Ra J25 hS.2.1 a0 hz_a0 hk_a0) s_X12_401 ⟨rfl, rfl, ⟨Nat.le_of_ble_eq_true rfl, Nat.le_of_ble_eq_true rfl⟩, ⟨Nat.le_of_ble_eq_true rfl, Nat.le_of_ble_eq_true rfl⟩⟩ hz_a0 hk_a0 (by decide) rfl rfl hl.1 rfl (Nat.le_of_ble_eq_true rfl) dX12_day_30) rfl rfl (fun H locs M32 R33 J31 hS f29 g30 E34 => ?_)
    have eR33 := Fr.nil g30 rfl
    subst eR33
    refine lv_aload_n hx hb dX12_day_33 rfl (lv_at hl 0 rfl) ?_
    refine tw_geti hx hb hW hown hK hS f_X12_407_11 hz_a0 hk_a0 (lo := (-2147483648)) (hi := 2147483647) rfl dX12_day_34 (fun x37 k36 h35 => ?_)
    exact tw_endi hx hb hr hlocks hK hT hS hQ (h35) dX12_day_37
  · have q38 : x5.toInt = 0 := ti_eq c6
    have h39 : iv 0 0 x5 := ⟨by have := (h3).1; have := ((iv_c (c := 0) (n := 0) (by decide))).1; omega, by have := (h3).2; have := ((iv_c (c := 0) (n := 0) (by decide))).2; omega⟩
    refine lv_aload_n hx hb dX12_day_9 rfl (lv_at hl 0 rfl) ?_
    refine lv_iconst (v := 0) hx hb dX12_day_10 (by decide) ?_
    refine tw_goi hS (md_runV (As := [.int 0]) (rest := []) hx hb hml hown hW hK hT hS.1 (t_X12_refuses l D cy tx base Z K N Ma Ra Ja hS.2.1 a0 hz_a0 hk_a0 0 (iv_mono (iv_c (c := 0) (n := 0) (by decide)) (by decide) (by decide))) s_X12_338 ⟨rfl, rfl, ⟨Nat.le_of_ble_eq_true rfl, Nat.le_of_ble_eq_true rfl⟩, ⟨Nat.le_of_ble_eq_true rfl, Nat.le_of_ble_eq_true rfl⟩⟩ hz_a0 hk_a0 (by decide) rfl rfl hl.1 rfl (Nat.le_of_ble_eq_true rfl) dX12_day_11) rfl rfl (fun x46 H locs M43 R44 J42 hS f40 g41 E45 => ?_)
    have eR44 := Fr.nil g41 rfl
    subst eR44
    have h_x46 := E45
    clear E45
    exact tw_endi hx hb hr hlocks hK hT hS hQ ((iv_mono h_x46 (by decide) (by decide))) dX12_day_14
def Lt_X12_end : WL := [(12, 1, 2)]
def LRt_X12_end : WL := []
set_option maxRecDepth 100000 in
set_option maxHeartbeats 4000000 in
theorem t_X12_end (l : Launch) (D : va_G) (cy : Nat → ClassId) (tx : (Nat → Nat) × (Nat → Nat)) (base Z : Nat) (K N : Nat → Nat) (Ma : MT) (Ra : RT) (Ja : JT) (hTy : Ty Z K N Ma Ra) (a0 : Nat) (hz_a0 : a0 < Z) (hk_a0 : K a0 = 12) (a1 : Int32) (h_a1 : iv (-2147483648) 2147483647 a1) : Met l yX12_end [Cond.code yX12_end cX12_end 2 (some .int)] (md_rm 1 0 0) (va_Pc [.ref (base + a0), .int a1] (md_U D cy tx base Z K N Ma Ra Ja)) (mQi D cy tx base (fun r u => TP Z K N Lt_X12_end LRt_X12_end Ma Ra u ∧ (iv (-1) 400 r))) 0 0 (fun q => base ≤ q) := by
  refine tw_ofW (L := Lt_X12_end) (LR := LRt_X12_end) (by decide) (Nat.le_of_ble_eq_true rfl) hTy ?_
  intro p e s m args below meth c Q ls hx hb hr hlocks hown hml hW hK hT hS hQ hl
  have hl : lv_has ls 2 [(0, .ref (base + a0)), (1, .int a1)] := hl
  refine lv_iload_n hx hb dX12_end_0 rfl (lv_at hl 1 rfl) ?_
  refine lv_if_lt (tgt := 12) hx hb dX12_end_1 (by decide) (fun c1 => ?_) (fun c1 => ?_)
  · have q2 : a1.toInt < 0 := ti_lt c1
    have h3 : iv (-2147483648) (-1) a1 := iv_ltL (y := 0) h_a1 (iv_c (c := 0) (n := 0) (by decide)) q2 (by decide)
    refine lv_iconst (v := (-1)) hx hb dX12_end_12 (by decide) ?_
    exact tw_endi hx hb hr hlocks hK hT hS hQ ((iv_mono (iv_c (c := (-1)) (n := (-1)) (by decide)) (by decide) (by decide))) dX12_end_13
  · have q4 : 0 ≤ a1.toInt := ti_nlt c1
    have h5 : iv 0 2147483647 a1 := iv_geL (y := 0) h_a1 (iv_c (c := 0) (n := 0) (by decide)) q4 (by decide)
    refine lv_iload_n hx hb dX12_end_4 rfl (lv_at hl 1 rfl) ?_
    refine lv_aload_n hx hb dX12_end_5 rfl (lv_at hl 0 rfl) ?_
    refine tw_geti hx hb hW hown hK hS f_X12_116_11 hz_a0 hk_a0 (lo := 0) (hi := 400) rfl dX12_end_6 (fun x8 k7 h6 => ?_)
    refine lv_icmp_le (tgt := 14) hx hb dX12_end_9 (by decide) (fun c9 => ?_) (fun c9 => ?_)
    · have q10 : a1.toInt ≤ x8.toInt := ti_le c9
      have h11 : iv 0 400 a1 := iv_leL (y := x8) h5 h6 q10 (by decide)
      refine lv_aload_n hx hb dX12_end_14 rfl (lv_at hl 0 rfl) ?_
      refine lv_iload_n hx hb dX12_end_15 rfl (lv_at hl 1 rfl) ?_
      refine tw_puti hx hb hW hown hK hS f_X12_116_11 hz_a0 hk_a0 rfl rfl (lo := 0) (hi := 400) rfl h11 rfl dX12_end_16 (fun H locs M14 hS k12 f13 => ?_)
      refine lv_iload_n hx hb dX12_end_19 rfl (lv_at hl 1 rfl) ?_
      exact tw_endi hx hb hr hlocks hK hT hS hQ ((iv_mono h11 (by decide) (by decide))) dX12_end_20
    · have q15 : x8.toInt < a1.toInt := ti_nle c9
      have h16 : iv 1 2147483647 a1 := iv_gtL (y := x8) h5 h6 q15 (by decide)
      refine lv_iconst (v := (-1)) hx hb dX12_end_12 (by decide) ?_
      exact tw_endi hx hb hr hlocks hK hT hS hQ ((iv_mono (iv_c (c := (-1)) (n := (-1)) (by decide)) (by decide) (by decide))) dX12_end_13
def Lt_X12_four : WL := [(12, 1, 2), (13, 0, 2000000)]
def LRt_X12_four : WL := []
set_option maxRecDepth 100000 in
set_option maxHeartbeats 4000000 in
theorem t_X12_four (l : Launch) (D : va_G) (cy : Nat → ClassId) (tx : (Nat → Nat) × (Nat → Nat)) (base Z : Nat) (K N : Nat → Nat) (Ma : MT) (Ra : RT) (Ja : JT) (hTy : Ty Z K N Ma Ra) (a0 : Nat) (hz_a0 : a0 < Z) (hk_a0 : K a0 = 12) (a1 : Int32) (h_a1 : iv (-2147483648) 2147483647 a1) (t0 : Int32) (k_t0 : Ma a0 1 = t0) (h_t0 : iv 0 396 t0) : Met l yX12_four [Cond.code yX12_four cX12_four 3 none] (md_rm 1 0 0) (va_Pc [.ref (base + a0), .int a1] (md_U D cy tx base Z K N Ma Ra Ja)) (mQv D cy tx base (fun u => TP Z K N Lt_X12_four LRt_X12_four Ma Ra u ∧ ((∃ x : Int32, u.2.2.2.1 a0 1 = x ∧ iv 4 400 x ∧ (x.toInt = t0.toInt + 4))))) 0 0 (fun q => base ≤ q) := by
  refine tw_ofW (L := Lt_X12_four) (LR := LRt_X12_four) (by decide) (Nat.le_of_ble_eq_true rfl) hTy ?_
  intro p e s m args below meth c Q ls hx hb hr hlocks hown hml hW hK hT hS hQ hl
  have hl : lv_has ls 3 [(0, .ref (base + a0)), (1, .int a1)] := hl
  refine lv_bipush (v := 24) hx hb dX12_four_0 (by decide) ?_
  refine lv_istore_n (lv' := [(2, .int 24), (0, .ref (base + a0)), (1, .int a1)]) hx hb dX12_four_2 rfl hl (by decide) rfl (fun ls hl => ?_)
  have W3_2 : ∀ (n_2 : Nat) (x1 : Int32) (x7 : Int32) (M2 : MT) (R3 : RT) (J4 : JT) (H : Heap) (locs : List Loc) (ls : Array Slot) (h_x1 : iv (-8) 24 x1) (h_x7 : iv 0 400 x7) (k8 : M2 a0 1 = x7) (w0_2 : 8 * x7.toInt + x1.toInt = 8 * t0.toInt + 24) (hm_2 : x1.toInt - (-8) < (n_2 : Int)) (hS : SB D cy base Z K N Lt_X12_four LRt_X12_four Ma Ra M2 R3 J4 s H locs) (hl : lv_has ls 3 [(2, .int x1), (0, .ref (base + a0)), (1, .int a1)]), W p l e (md_rm 1 0 0) s m args below meth c H locs 0 0 Q (F0 m 3 ls []) := by
    intro n_2
    induction n_2 with
    | zero =>
      intro x1 x7 M2 R3 J4 H locs ls h_x1 h_x7 k8 w0_2 hm_2 hS hl
      exfalso
      have := (h_a1).1; have := (h_a1).2; have := (h_t0).1; have := (h_t0).2; have := (h_x1).1; have := (h_x1).2; have := (h_x7).1; have := (h_x7).2; omega
    | succ n_2 ih_2 =>
      intro x1 x7 M2 R3 J4 H locs ls h_x1 h_x7 k8 w0_2 hm_2 hS hl
      have f5 := hS.2.2.1
      have g6 := hS.2.2.2
      refine lv_iload_n hx hb dX12_four_3 rfl (lv_at hl 0 rfl) ?_
      refine lv_if_lt (tgt := 36) hx hb dX12_four_4 (by decide) (fun c9 => ?_) (fun c9 => ?_)
      · have q10 : x1.toInt < 0 := ti_lt c9
        have h11 : iv (-8) (-1) x1 := iv_ltL (y := 0) h_x1 (iv_c (c := 0) (n := 0) (by decide)) q10 (by decide)
        have h12 : iv 4 400 x7 := by
          have := (h_a1).1; have := (h_a1).2; have := (h_t0).1; have := (h_t0).2; have := (h11).1; have := (h11).2; have := (h_x7).1; have := (h_x7).2; exact ⟨by omega, by omega⟩
        have q13 : x7.toInt = t0.toInt + 4 := by
          have := (h_a1).1; have := (h_a1).2; have := (h_t0).1; have := (h_t0).2; have := (h11).1; have := (h11).2; have := (h_x7).1; have := (h_x7).2; omega
        exact tw_endv hx hb hr hlocks hK hT hS hQ (⟨x7, k8, h12, q13⟩) dX12_four_36
      · have q14 : 0 ≤ x1.toInt := ti_nlt c9
        have h15 : iv 0 24 x1 := iv_geL (y := 0) h_x1 (iv_c (c := 0) (n := 0) (by decide)) q14 (by decide)
        refine lv_aload_n hx hb dX12_four_7 rfl (lv_at hl 1 rfl) ?_
        refine tw_getr hx hb hW hown hK hS f_X12_7_11 hz_a0 hk_a0 (t := 13) (n := 400) rfl dX12_four_8 (fun b16 k17 hz_b16 hk_b16 hn_b16 => ?_)
        have hn_b16 := hn_b16 (by decide)
        refine lv_aload_n hx hb dX12_four_11 rfl (lv_at hl 1 rfl) ?_
        refine tw_getk hx hb hW hown hK hS f_X12_116_11 hz_a0 hk_a0 (v := x7) k8 dX12_four_12 ?_
        refine lv_iload_n hx hb dX12_four_15 rfl (lv_at hl 2 rfl) ?_
        refine lv_iload_n hx hb dX12_four_16 rfl (lv_at hl 0 rfl) ?_
        refine lv_ishr hx hb dX12_four_17 ?_
        refine tw_top (fun x19 => ?_)
        have h18 := iv_any x19
        refine lv_i2b hx hb dX12_four_18 rfl ?_
        refine tw_top (fun x21 => ?_)
        have h20 := iv_any x21
        have h22 : iv 0 399 x7 := by
          have := (h_a1).1; have := (h_a1).2; have := (h_t0).1; have := (h_t0).2; have := (h15).1; have := (h15).2; have := (h_x7).1; have := (h_x7).2; exact ⟨by omega, by omega⟩
        refine tw_bast hx hb hK hS hz_b16 hk_b16 hn_b16 h22 ⟨by decide, by decide⟩ (jl := 0) (jh := 1999999) ⟨by decide, by decide⟩ rfl dX12_four_19 (fun H locs M24 hS f23 => ?_)
        refine lv_aload_n hx hb dX12_four_20 rfl (lv_at hl 1 rfl) ?_
        refine lv_dup hx hb dX12_four_21 rfl ?_
        have k25 : M24 a0 1 = x7 := (Fr.kp (k := 1) f23 hk_a0 rfl).trans k8
        refine tw_getk hx hb hW hown hK hS f_X12_116_11 hz_a0 hk_a0 (v := x7) k25 dX12_four_22 ?_
        refine lv_iconst (v := 1) hx hb dX12_four_25 (by decide) ?_
        refine tw_iadd (lo := 1) (hi := 400) hx hb h22 (iv_c (c := 1) (n := 1) (by decide)) ⟨by decide, by decide⟩ ⟨by decide, by decide⟩ dX12_four_26 (fun x28 e27 h26 => ?_)
        have e27 : x28.toInt = x7.toInt + 1 := e27
        refine tw_puti hx hb hW hown hK hS f_X12_116_11 hz_a0 hk_a0 rfl rfl (lo := 0) (hi := 400) rfl (iv_mono h26 (by decide) (by decide)) rfl dX12_four_27 (fun H locs M31 hS k29 f30 => ?_)
        refine tw_iinc (lv' := fun x34 => [(2, .int x34), (0, .ref (base + a0)), (1, .int a1)]) (lo := (-8)) (hi := 16) hx hb dX12_four_30 hl (k := 0) rfl h15 (by decide) ⟨by decide, by decide⟩ ⟨by decide, by decide⟩ (by decide) (fun _ => rfl) (fun x34 ls e33 h32 hl => ?_)
        refine lv_goto (tgt := 3) hx hb dX12_four_33 (by decide) ?_
        have w35 : 8 * x28.toInt + x34.toInt = 8 * t0.toInt + 24 := by
          have := (h_a1).1; have := (h_a1).2; have := (h_t0).1; have := (h_t0).2; have := (h15).1; have := (h15).2; have := (h26).1; have := (h26).2; have := (h32).1; have := (h32).2; have := (h22).1; have := (h22).2; omega
        have hm36 : x34.toInt - (-8) < (n_2 : Int) := by
          have := (h_a1).1; have := (h_a1).2; have := (h_t0).1; have := (h_t0).2; have := (h15).1; have := (h15).2; have := (h26).1; have := (h26).2; have := (h32).1; have := (h32).2; have := (h22).1; have := (h22).2; omega
        exact ih_2 x34 x28 M31 R3 J4 H locs _ (iv_mono h32 (by decide) (by decide)) (iv_mono h26 (by decide) (by decide)) k29 w35 hm36 hS hl
  have w37 : 8 * t0.toInt + (24 : Int32).toInt = 8 * t0.toInt + 24 := by
    have := (h_a1).1; have := (h_a1).2; have := (h_t0).1; have := (h_t0).2; have : (24 : Int32).toInt = 24 := (by decide); omega
  have hm38 : (24 : Int32).toInt - (-8) < (((33 : Nat) : Int) : Int) := by
    have := (h_a1).1; have := (h_a1).2; have := (h_t0).1; have := (h_t0).2; have : (24 : Int32).toInt = 24 := (by decide); omega
  exact W3_2 33 24 t0 Ma Ra Ja s.heap [] _ (iv_mono (iv_c (c := 24) (n := 24) (by decide)) (by decide) (by decide)) (iv_mono h_t0 (by decide) (by decide)) k_t0 w37 hm38 hS hl
def Lt_X12_feed : WL := [(12, 1, 2), (13, 0, 2000000)]
def LRt_X12_feed : WL := []
set_option maxRecDepth 100000 in
set_option maxHeartbeats 4000000 in
theorem t_X12_feed (l : Launch) (D : va_G) (cy : Nat → ClassId) (tx : (Nat → Nat) × (Nat → Nat)) (base Z : Nat) (K N : Nat → Nat) (Ma : MT) (Ra : RT) (Ja : JT) (hTy : Ty Z K N Ma Ra) (a0 : Nat) (hz_a0 : a0 < Z) (hk_a0 : K a0 = 12) (a1 : Int32) (h_a1 : iv (-2147483648) 2147483647 a1) (a2 : Int32) (h_a2 : iv (-2147483648) 2147483647 a2) (a3 : Int32) (h_a3 : iv (-2147483648) 2147483647 a3) (a4 : Int32) (h_a4 : iv (-2147483648) 2147483647 a4) (a5 : Int32) (h_a5 : iv (-2147483648) 2147483647 a5) : Met l yX12_feed [Cond.code yX12_feed cX12_feed 6 (some .int)] (md_rm 2 0 0) (va_Pc [.ref (base + a0), .int a1, .int a2, .int a3, .int a4, .int a5] (md_U D cy tx base Z K N Ma Ra Ja)) (mQi D cy tx base (fun r u => TP Z K N Lt_X12_feed LRt_X12_feed Ma Ra u ∧ (iv (-1) 400 r))) 0 0 (fun q => base ≤ q) := by
  refine tw_ofW (L := Lt_X12_feed) (LR := LRt_X12_feed) (by decide) (Nat.le_of_ble_eq_true rfl) hTy ?_
  intro p e s m args below meth c Q ls hx hb hr hlocks hown hml hW hK hT hS hQ hl
  have hl : lv_has ls 6 [(0, .ref (base + a0)), (1, .int a1), (2, .int a2), (3, .int a3), (4, .int a4), (5, .int a5)] := hl
  refine lv_aload_n hx hb dX12_feed_0 rfl (lv_at hl 0 rfl) ?_
  refine tw_geti hx hb hW hown hK hS f_X12_116_11 hz_a0 hk_a0 (lo := 0) (hi := 400) rfl dX12_feed_1 (fun x3 k2 h1 => ?_)
  refine lv_bipush (v := 20) hx hb dX12_feed_4 (by decide) ?_
  refine tw_iadd (lo := 20) (hi := 420) hx hb h1 (iv_c (c := 20) (n := 20) (by decide)) ⟨by decide, by decide⟩ ⟨by decide, by decide⟩ dX12_feed_6 (fun x6 e5 h4 => ?_)
  have e5 : x6.toInt = x3.toInt + 20 := e5
  refine lv_sipush (v := 400) hx hb dX12_feed_7 (by decide) ?_
  refine lv_icmp_le (tgt := 15) hx hb dX12_feed_10 (by decide) (fun c7 => ?_) (fun c7 => ?_)
  · have q8 : x6.toInt ≤ 400 := ti_le c7
    have h9 : iv 20 400 x6 := iv_leL (y := 400) h4 (iv_c (c := 400) (n := 400) (by decide)) q8 (by decide)
    refine lv_aload_n hx hb dX12_feed_15 rfl (lv_at hl 0 rfl) ?_
    refine lv_iload_n hx hb dX12_feed_16 rfl (lv_at hl 1 rfl) ?_
    have h10 : iv 0 396 x3 := by
      have := (h_a1).1; have := (h_a1).2; have := (h_a2).1; have := (h_a2).2; have := (h_a3).1; have := (h_a3).2; have := (h_a4).1; have := (h_a4).2; have := (h_a5).1; have := (h_a5).2; have := (h1).1; have := (h1).2; have := (h9).1; have := (h9).2; exact ⟨by omega, by omega⟩
    refine tw_gov hS (md_runV (As := [.int a1]) (rest := []) hx hb hml hown hW hK hT hS.1 (t_X12_four l D cy tx base Z K N Ma Ra Ja hS.2.1 a0 hz_a0 hk_a0 a1 h_a1 x3 k2 h10) s_X12_120 ⟨rfl, rfl, ⟨Nat.le_of_ble_eq_true rfl, Nat.le_of_ble_eq_true rfl⟩, ⟨Nat.le_of_ble_eq_true rfl, Nat.le_of_ble_eq_true rfl⟩⟩ hz_a0 hk_a0 (by decide) rfl rfl hl.1 rfl (Nat.le_of_ble_eq_true rfl) dX12_feed_17) rfl rfl (fun H locs M14 R15 J13 hS f11 g12 E16 => ?_)
    have eR15 := Fr.nil g12 rfl
    subst eR15
    have p17 := E16
    clear E16
    obtain ⟨x20, k18, h19, q21⟩ := p17
    have k18 : M14 a0 1 = x20 := k18
    refine lv_aload_n hx hb dX12_feed_20 rfl (lv_at hl 0 rfl) ?_
    refine lv_iload_n hx hb dX12_feed_21 rfl (lv_at hl 2 rfl) ?_
    have h22 : iv 0 396 x20 := by
      have := (h_a1).1; have := (h_a1).2; have := (h_a2).1; have := (h_a2).2; have := (h_a3).1; have := (h_a3).2; have := (h_a4).1; have := (h_a4).2; have := (h_a5).1; have := (h_a5).2; have := (h19).1; have := (h19).2; have := (h1).1; have := (h1).2; have := (h9).1; have := (h9).2; exact ⟨by omega, by omega⟩
    refine tw_gov hS (md_runV (As := [.int a2]) (rest := []) hx hb hml hown hW hK hT hS.1 (t_X12_four l D cy tx base Z K N M14 Ra J13 hS.2.1 a0 hz_a0 hk_a0 a2 h_a2 x20 k18 h22) s_X12_120 ⟨rfl, rfl, ⟨Nat.le_of_ble_eq_true rfl, Nat.le_of_ble_eq_true rfl⟩, ⟨Nat.le_of_ble_eq_true rfl, Nat.le_of_ble_eq_true rfl⟩⟩ hz_a0 hk_a0 (by decide) rfl rfl hl.1 rfl (Nat.le_of_ble_eq_true rfl) dX12_feed_22) rfl rfl (fun H locs M26 R27 J25 hS f23 g24 E28 => ?_)
    have eR27 := Fr.nil g24 rfl
    subst eR27
    have p29 := E28
    clear E28
    obtain ⟨x32, k30, h31, q33⟩ := p29
    have k30 : M26 a0 1 = x32 := k30
    refine lv_aload_n hx hb dX12_feed_25 rfl (lv_at hl 0 rfl) ?_
    refine lv_iload_n hx hb dX12_feed_26 rfl (lv_at hl 3 rfl) ?_
    have h34 : iv 0 396 x32 := by
      have := (h_a1).1; have := (h_a1).2; have := (h_a2).1; have := (h_a2).2; have := (h_a3).1; have := (h_a3).2; have := (h_a4).1; have := (h_a4).2; have := (h_a5).1; have := (h_a5).2; have := (h19).1; have := (h19).2; have := (h1).1; have := (h1).2; have := (h31).1; have := (h31).2; have := (h9).1; have := (h9).2; exact ⟨by omega, by omega⟩
    refine tw_gov hS (md_runV (As := [.int a3]) (rest := []) hx hb hml hown hW hK hT hS.1 (t_X12_four l D cy tx base Z K N M26 Ra J25 hS.2.1 a0 hz_a0 hk_a0 a3 h_a3 x32 k30 h34) s_X12_120 ⟨rfl, rfl, ⟨Nat.le_of_ble_eq_true rfl, Nat.le_of_ble_eq_true rfl⟩, ⟨Nat.le_of_ble_eq_true rfl, Nat.le_of_ble_eq_true rfl⟩⟩ hz_a0 hk_a0 (by decide) rfl rfl hl.1 rfl (Nat.le_of_ble_eq_true rfl) dX12_feed_27) rfl rfl (fun H locs M38 R39 J37 hS f35 g36 E40 => ?_)
    have eR39 := Fr.nil g36 rfl
    subst eR39
    have p41 := E40
    clear E40
    obtain ⟨x44, k42, h43, q45⟩ := p41
    have k42 : M38 a0 1 = x44 := k42
    refine lv_aload_n hx hb dX12_feed_30 rfl (lv_at hl 0 rfl) ?_
    refine lv_iload hx hb dX12_feed_31 (lv_at hl 4 rfl) ?_
    have h46 : iv 0 396 x44 := by
      have := (h_a1).1; have := (h_a1).2; have := (h_a2).1; have := (h_a2).2; have := (h_a3).1; have := (h_a3).2; have := (h_a4).1; have := (h_a4).2; have := (h_a5).1; have := (h_a5).2; have := (h19).1; have := (h19).2; have := (h1).1; have := (h1).2; have := (h31).1; have := (h31).2; have := (h43).1; have := (h43).2; have := (h9).1; have := (h9).2; exact ⟨by omega, by omega⟩
    refine tw_gov hS (md_runV (As := [.int a4]) (rest := []) hx hb hml hown hW hK hT hS.1 (t_X12_four l D cy tx base Z K N M38 Ra J37 hS.2.1 a0 hz_a0 hk_a0 a4 h_a4 x44 k42 h46) s_X12_120 ⟨rfl, rfl, ⟨Nat.le_of_ble_eq_true rfl, Nat.le_of_ble_eq_true rfl⟩, ⟨Nat.le_of_ble_eq_true rfl, Nat.le_of_ble_eq_true rfl⟩⟩ hz_a0 hk_a0 (by decide) rfl rfl hl.1 rfl (Nat.le_of_ble_eq_true rfl) dX12_feed_33) rfl rfl (fun H locs M50 R51 J49 hS f47 g48 E52 => ?_)
    have eR51 := Fr.nil g48 rfl
    subst eR51
    have p53 := E52
    clear E52
    obtain ⟨x56, k54, h55, q57⟩ := p53
    have k54 : M50 a0 1 = x56 := k54
    refine lv_aload_n hx hb dX12_feed_36 rfl (lv_at hl 0 rfl) ?_
    refine lv_iload hx hb dX12_feed_37 (lv_at hl 5 rfl) ?_
    have h58 : iv 0 396 x56 := by
      have := (h_a1).1; have := (h_a1).2; have := (h_a2).1; have := (h_a2).2; have := (h_a3).1; have := (h_a3).2; have := (h_a4).1; have := (h_a4).2; have := (h_a5).1; have := (h_a5).2; have := (h19).1; have := (h19).2; have := (h1).1; have := (h1).2; have := (h31).1; have := (h31).2; have := (h43).1; have := (h43).2; have := (h55).1; have := (h55).2; have := (h9).1; have := (h9).2; exact ⟨by omega, by omega⟩
    refine tw_gov hS (md_runV (As := [.int a5]) (rest := []) hx hb hml hown hW hK hT hS.1 (t_X12_four l D cy tx base Z K N M50 Ra J49 hS.2.1 a0 hz_a0 hk_a0 a5 h_a5 x56 k54 h58) s_X12_120 ⟨rfl, rfl, ⟨Nat.le_of_ble_eq_true rfl, Nat.le_of_ble_eq_true rfl⟩, ⟨Nat.le_of_ble_eq_true rfl, Nat.le_of_ble_eq_true rfl⟩⟩ hz_a0 hk_a0 (by decide) rfl rfl hl.1 rfl (Nat.le_of_ble_eq_true rfl) dX12_feed_39) rfl rfl (fun H locs M62 R63 J61 hS f59 g60 E64 => ?_)
    have eR63 := Fr.nil g60 rfl
    subst eR63
    have p65 := E64
    clear E64
    obtain ⟨x68, k66, h67, q69⟩ := p65
    have k66 : M62 a0 1 = x68 := k66
    refine lv_aload_n hx hb dX12_feed_42 rfl (lv_at hl 0 rfl) ?_
    refine tw_getk hx hb hW hown hK hS f_X12_116_11 hz_a0 hk_a0 (v := x68) k66 dX12_feed_43 ?_
    exact tw_endi hx hb hr hlocks hK hT hS hQ ((iv_mono h67 (by decide) (by decide))) dX12_feed_46
  · have q70 : 400 < x6.toInt := ti_nle c7
    have h71 : iv 401 420 x6 := iv_gtL (y := 400) h4 (iv_c (c := 400) (n := 400) (by decide)) q70 (by decide)
    refine lv_iconst (v := (-1)) hx hb dX12_feed_13 (by decide) ?_
    exact tw_endi hx hb hr hlocks hK hT hS hQ ((iv_mono (iv_c (c := (-1)) (n := (-1)) (by decide)) (by decide) (by decide))) dX12_feed_14
def Lt_X12_holds : WL := [(12, 28, 29), (12, 31, 33), (14, 0, 2000000), (30, 0, 2000000)]
def LRt_X12_holds : WL := []
set_option maxRecDepth 100000 in
set_option maxHeartbeats 4000000 in
theorem t_X12_holds (l : Launch) (D : va_G) (cy : Nat → ClassId) (tx : (Nat → Nat) × (Nat → Nat)) (base Z : Nat) (K N : Nat → Nat) (Ma : MT) (Ra : RT) (Ja : JT) (hTy : Ty Z K N Ma Ra) (a0 : Nat) (hz_a0 : a0 < Z) (hk_a0 : K a0 = 12) (a1 : Int32) (h_a1 : iv 0 2147483647 a1) (a2 : Int32) (h_a2 : iv 1 6 a2) : Met l yX12_holds [Cond.code yX12_holds cX12_holds 6 (some .boolean)] (md_rm 5 0 0) (va_Pc [.ref (base + a0), .int a1, .int a2] (md_U D cy tx base Z K N Ma Ra Ja)) (mQi D cy tx base (fun r u => TP Z K N Lt_X12_holds LRt_X12_holds Ma Ra u ∧ (iv 0 1 r))) 0 0 (fun q => base ≤ q) := by
  refine tw_ofW (L := Lt_X12_holds) (LR := LRt_X12_holds) (by decide) (Nat.le_of_ble_eq_true rfl) hTy ?_
  intro p e s m args below meth c Q ls hx hb hr hlocks hown hml hW hK hT hS hQ hl
  have hl : lv_has ls 6 [(0, .ref (base + a0)), (1, .int a1), (2, .int a2)] := hl
  refine lv_iload_n hx hb dX12_holds_0 rfl (lv_at hl 1 rfl) ?_
  refine lv_istore_n (lv' := [(3, .int a1), (0, .ref (base + a0)), (1, .int a1), (2, .int a2)]) hx hb dX12_holds_1 rfl hl (by decide) rfl (fun ls hl => ?_)
  refine lv_iconst (v := 0) hx hb dX12_holds_2 (by decide) ?_
  refine lv_istore (lv' := [(4, .int 0), (3, .int a1), (0, .ref (base + a0)), (1, .int a1), (2, .int a2)]) hx hb dX12_holds_3 hl (by decide) rfl (fun ls hl => ?_)
  have W5_3 : ∀ (n_3 : Nat) (x1 : Int32) (x2 : Int32) (M3 : MT) (R4 : RT) (J5 : JT) (H : Heap) (locs : List Loc) (ls : Array Slot) (h_x1 : iv 0 2147483647 x1) (h_x2 : iv 0 10 x2) (hm_3 : 10 - x2.toInt < (n_3 : Int)) (hS : SB D cy base Z K N Lt_X12_holds LRt_X12_holds Ma Ra M3 R4 J5 s H locs) (hl : lv_has ls 6 [(3, .int x1), (4, .int x2), (0, .ref (base + a0)), (1, .int a1), (2, .int a2)]), W p l e (md_rm 5 0 0) s m args below meth c H locs 0 0 Q (F0 m 5 ls []) := by
    intro n_3
    induction n_3 with
    | zero =>
      intro x1 x2 M3 R4 J5 H locs ls h_x1 h_x2 hm_3 hS hl
      exfalso
      have := (h_a1).1; have := (h_a1).2; have := (h_a2).1; have := (h_a2).2; have := (h_x2).1; have := (h_x2).2; omega
    | succ n_3 ih_3 =>
      intro x1 x2 M3 R4 J5 H locs ls h_x1 h_x2 hm_3 hS hl
      have f6 := hS.2.2.1
      have g7 := hS.2.2.2
      refine lv_iload hx hb dX12_holds_5 (lv_at hl 1 rfl) ?_
      refine lv_aload_n hx hb dX12_holds_7 rfl (lv_at hl 2 rfl) ?_
      refine tw_getr hx hb hW hown hK hS f_X12_45_11 hz_a0 hk_a0 (t := 23) (n := 226) rfl dX12_holds_8 (fun b8 k9 hz_b8 hk_b8 hn_b8 => ?_)
      have hn_b8 := hn_b8 (by decide)
      refine lv_iconst (v := 0) hx hb dX12_holds_11 (by decide) ?_
      refine tw_iald hx hb hK hS hz_b8 hk_b8 (Or.inr (by decide)) hn_b8 (lo := 0) (hi := 10) (iv_c (c := 0) (n := 0) (by decide)) ⟨by decide, by decide⟩ (rg_c (k0 := 0) rfl rfl rfl) dX12_holds_12 (fun x12 k11 h10 => ?_)
      refine lv_icmp_ge (tgt := 52) hx hb dX12_holds_13 (by decide) (fun c13 => ?_) (fun c13 => ?_)
      · have q14 : x12.toInt ≤ x2.toInt := ti_le c13
        refine lv_iconst (v := 0) hx hb dX12_holds_52 (by decide) ?_
        refine lv_istore (lv' := [(4, .int 0), (3, .int x1), (0, .ref (base + a0)), (1, .int a1), (2, .int a2)]) hx hb dX12_holds_53 hl (by decide) rfl (fun ls hl => ?_)
        have W55_16 : ∀ (n_16 : Nat) (x15 : Int32) (M16 : MT) (R17 : RT) (J18 : JT) (H : Heap) (locs : List Loc) (ls : Array Slot) (h_x15 : iv 0 12 x15) (hm_16 : 12 - x15.toInt < (n_16 : Int)) (hS : SB D cy base Z K N Lt_X12_holds LRt_X12_holds Ma Ra M16 R17 J18 s H locs) (hl : lv_has ls 6 [(4, .int x15), (3, .int x1), (0, .ref (base + a0)), (1, .int a1), (2, .int a2)]), W p l e (md_rm 5 0 0) s m args below meth c H locs 0 0 Q (F0 m 55 ls []) := by
          intro n_16
          induction n_16 with
          | zero =>
            intro x15 M16 R17 J18 H locs ls h_x15 hm_16 hS hl
            exfalso
            have := (h_a1).1; have := (h_a1).2; have := (h_a2).1; have := (h_a2).2; have := (h_x15).1; have := (h_x15).2; omega
          | succ n_16 ih_16 =>
            intro x15 M16 R17 J18 H locs ls h_x15 hm_16 hS hl
            have f19 := hS.2.2.1
            have g20 := hS.2.2.2
            refine lv_iload hx hb dX12_holds_55 (lv_at hl 0 rfl) ?_
            refine lv_aload_n hx hb dX12_holds_57 rfl (lv_at hl 2 rfl) ?_
            refine tw_getr hx hb hW hown hK hS f_X12_45_11 hz_a0 hk_a0 (t := 23) (n := 226) rfl dX12_holds_58 (fun b21 k22 hz_b21 hk_b21 hn_b21 => ?_)
            have hn_b21 := hn_b21 (by decide)
            refine lv_iconst (v := 5) hx hb dX12_holds_61 (by decide) ?_
            refine tw_iald hx hb hK hS hz_b21 hk_b21 (Or.inr (by decide)) hn_b21 (lo := 0) (hi := 12) (iv_c (c := 5) (n := 5) (by decide)) ⟨by decide, by decide⟩ (rg_c (k0 := 5) rfl rfl rfl) dX12_holds_62 (fun x25 k24 h23 => ?_)
            refine lv_icmp_ge (tgt := 153) hx hb dX12_holds_63 (by decide) (fun c26 => ?_) (fun c26 => ?_)
            · have q27 : x25.toInt ≤ x15.toInt := ti_le c26
              refine lv_iconst (v := 1) hx hb dX12_holds_153 (by decide) ?_
              exact tw_endz hx hb hr hlocks hK hT hS hQ rfl ((iv_mono (iv_c (c := 1) (n := 1) (by decide)) (by decide) (by decide))) dX12_holds_154
            · have q28 : x15.toInt < x25.toInt := ti_nle c26
              have h29 : iv 0 11 x15 := iv_ltL (y := x25) h_x15 h23 q28 (by decide)
              have h30 : iv 1 12 x25 := iv_gtL (y := x15) h23 h_x15 q28 (by decide)
              refine lv_sipush (v := 178) hx hb dX12_holds_66 (by decide) ?_
              refine lv_iconst (v := 4) hx hb dX12_holds_69 (by decide) ?_
              refine lv_iload hx hb dX12_holds_70 (lv_at hl 0 rfl) ?_
              refine tw_icmul (k := 4) (lo := 0) (hi := 44) hx hb (by decide) h29 (by decide) ⟨by decide, by decide⟩ ⟨by decide, by decide⟩ dX12_holds_72 (fun x33 e32 h31 => ?_)
              refine tw_iadd (lo := 178) (hi := 222) hx hb (iv_c (c := 178) (n := 178) (by decide)) h31 ⟨by decide, by decide⟩ ⟨by decide, by decide⟩ dX12_holds_73 (fun x36 e35 h34 => ?_)
              have e35 : x36.toInt = 178 + x33.toInt := e35
              refine lv_istore (lv' := [(5, .int x36), (4, .int x15), (3, .int x1), (0, .ref (base + a0)), (1, .int a1), (2, .int a2)]) hx hb dX12_holds_74 hl (by decide) rfl (fun ls hl => ?_)
              refine lv_aload_n hx hb dX12_holds_76 rfl (lv_at hl 3 rfl) ?_
              refine lv_aload_n hx hb dX12_holds_77 rfl (lv_at hl 3 rfl) ?_
              refine tw_getrk hx hb hW hown hK hS f_X12_45_11 hz_a0 hk_a0 (b := b21) k22 dX12_holds_78 ?_
              refine lv_iload hx hb dX12_holds_81 (lv_at hl 0 rfl) ?_
              refine tw_iald hx hb hK hS hz_b21 hk_b21 (Or.inr (by decide)) hn_b21 (lo := (-2147483648)) (hi := 2147483647) h34 ⟨by decide, by decide⟩ rg_full dX12_holds_83 (fun x39 k38 h37 => ?_)
              refine tw_puti hx hb hW hown hK hS f_X12_364_11 hz_a0 hk_a0 rfl rfl (lo := (-2147483648)) (hi := 2147483647) rfl h37 rfl dX12_holds_84 (fun H locs M42 hS k40 f41 => ?_)
              refine lv_aload_n hx hb dX12_holds_87 rfl (lv_at hl 3 rfl) ?_
              refine lv_aload_n hx hb dX12_holds_88 rfl (lv_at hl 3 rfl) ?_
              refine tw_getrk hx hb hW hown hK hS f_X12_45_11 hz_a0 hk_a0 (b := b21) k22 dX12_holds_89 ?_
              refine lv_iload hx hb dX12_holds_92 (lv_at hl 0 rfl) ?_
              refine lv_iconst (v := 1) hx hb dX12_holds_94 (by decide) ?_
              refine tw_iadd (lo := 179) (hi := 223) hx hb h34 (iv_c (c := 1) (n := 1) (by decide)) ⟨by decide, by decide⟩ ⟨by decide, by decide⟩ dX12_holds_95 (fun x45 e44 h43 => ?_)
              have e44 : x45.toInt = x36.toInt + 1 := e44
              refine tw_iald hx hb hK hS hz_b21 hk_b21 (Or.inr (by decide)) hn_b21 (lo := (-2147483648)) (hi := 2147483647) h43 ⟨by decide, by decide⟩ rg_full dX12_holds_96 (fun x48 k47 h46 => ?_)
              refine tw_puti hx hb hW hown hK hS f_X12_367_11 hz_a0 hk_a0 rfl rfl (lo := (-2147483648)) (hi := 2147483647) rfl h46 rfl dX12_holds_97 (fun H locs M51 hS k49 f50 => ?_)
              refine lv_aload_n hx hb dX12_holds_100 rfl (lv_at hl 3 rfl) ?_
              refine lv_aload_n hx hb dX12_holds_101 rfl (lv_at hl 3 rfl) ?_
              have k52 : M51 a0 31 = x39 := (Fr.kp (k := 31) f50 hk_a0 rfl).trans k40
              refine tw_getk hx hb hW hown hK hS f_X12_364_11 hz_a0 hk_a0 (v := x39) k52 dX12_holds_102 ?_
              obtain ⟨x55, k53⟩ : ∃ x, M51 b21 (0 : Int32).toNatClampNeg = x := ⟨_, rfl⟩
              have h54 : iv 0 10 x55 := by rw [← k53]; exact hS.2.1.int hz_b21 hk_b21 (show rgI 23 (0 : Int32).toNatClampNeg = (0, 10) from rfl)
              refine tw_goi hS (md_runV (As := [.int x39]) (rest := []) hx hb hml hown hW hK hT hS.1 (t_X12_voicesOf l D cy tx base Z K N M51 R17 J18 hS.2.1 a0 hz_a0 hk_a0 x39 h37 b21 k22 x55 k53 (iv_mono h54 (by decide) (by decide))) s_X12_380 ⟨rfl, rfl, ⟨Nat.le_of_ble_eq_true rfl, Nat.le_of_ble_eq_true rfl⟩, ⟨Nat.le_of_ble_eq_true rfl, Nat.le_of_ble_eq_true rfl⟩⟩ hz_a0 hk_a0 (by decide) rfl rfl hl.1 rfl (Nat.le_of_ble_eq_true rfl) dX12_holds_105) rfl rfl (fun x62 H locs M59 R60 J58 hS f56 g57 E61 => ?_)
              have eM59 := Fr.nil f56 rfl
              subst eM59
              have eR60 := Fr.nil g57 rfl
              subst eR60
              obtain ⟨h_x62, p63⟩ := E61
              refine lv_aload_n hx hb dX12_holds_108 rfl (lv_at hl 3 rfl) ?_
              refine tw_getrk hx hb hW hown hK hS f_X12_45_11 hz_a0 hk_a0 (b := b21) k22 dX12_holds_109 ?_
              refine lv_iload hx hb dX12_holds_112 (lv_at hl 0 rfl) ?_
              refine lv_iconst (v := 2) hx hb dX12_holds_114 (by decide) ?_
              refine tw_iadd (lo := 180) (hi := 224) hx hb h34 (iv_c (c := 2) (n := 2) (by decide)) ⟨by decide, by decide⟩ ⟨by decide, by decide⟩ dX12_holds_115 (fun x66 e65 h64 => ?_)
              have e65 : x66.toInt = x36.toInt + 2 := e65
              refine tw_iald hx hb hK hS hz_b21 hk_b21 (Or.inr (by decide)) hn_b21 (lo := (-2147483648)) (hi := 2147483647) h64 ⟨by decide, by decide⟩ rg_full dX12_holds_116 (fun x69 k68 h67 => ?_)
              refine lv_icmp_ne (tgt := 140) hx hb dX12_holds_117 (by decide) (fun c70 => ?_) (fun c70 => ?_)
              · have q71 : ¬ x62.toInt = x69.toInt := ti_ne c70
                refine lv_iconst (v := 0) hx hb dX12_holds_140 (by decide) ?_
                exact tw_endz hx hb hr hlocks hK hT hS hQ rfl ((iv_mono (iv_c (c := 0) (n := 0) (by decide)) (by decide) (by decide))) dX12_holds_141
              · have q72 : x62.toInt = x69.toInt := ti_eq c70
                have h73 : iv 0 99990 x69 := ⟨by have := (h_x62).1; have := (h67).1; omega, by have := (h_x62).2; have := (h67).2; omega⟩
                refine lv_aload_n hx hb dX12_holds_120 rfl (lv_at hl 3 rfl) ?_
                refine lv_aload_n hx hb dX12_holds_121 rfl (lv_at hl 3 rfl) ?_
                refine tw_getk hx hb hW hown hK hS f_X12_367_11 hz_a0 hk_a0 (v := x48) k49 dX12_holds_122 ?_
                refine tw_goi hS (md_runV (As := [.int x48]) (rest := []) hx hb hml hown hW hK hT hS.1 (t_X12_voicesOf l D cy tx base Z K N M51 R17 J58 hS.2.1 a0 hz_a0 hk_a0 x48 h46 b21 k22 x55 k53 (iv_mono h54 (by decide) (by decide))) s_X12_380 ⟨rfl, rfl, ⟨Nat.le_of_ble_eq_true rfl, Nat.le_of_ble_eq_true rfl⟩, ⟨Nat.le_of_ble_eq_true rfl, Nat.le_of_ble_eq_true rfl⟩⟩ hz_a0 hk_a0 (by decide) rfl rfl hl.1 rfl (Nat.le_of_ble_eq_true rfl) dX12_holds_125) rfl rfl (fun x80 H locs M77 R78 J76 hS f74 g75 E79 => ?_)
                have eM77 := Fr.nil f74 rfl
                subst eM77
                have eR78 := Fr.nil g75 rfl
                subst eR78
                obtain ⟨h_x80, p81⟩ := E79
                refine lv_aload_n hx hb dX12_holds_128 rfl (lv_at hl 3 rfl) ?_
                refine tw_getrk hx hb hW hown hK hS f_X12_45_11 hz_a0 hk_a0 (b := b21) k22 dX12_holds_129 ?_
                refine lv_iload hx hb dX12_holds_132 (lv_at hl 0 rfl) ?_
                refine lv_iconst (v := 3) hx hb dX12_holds_134 (by decide) ?_
                refine tw_iadd (lo := 181) (hi := 225) hx hb h34 (iv_c (c := 3) (n := 3) (by decide)) ⟨by decide, by decide⟩ ⟨by decide, by decide⟩ dX12_holds_135 (fun x84 e83 h82 => ?_)
                have e83 : x84.toInt = x36.toInt + 3 := e83
                refine tw_iald hx hb hK hS hz_b21 hk_b21 (Or.inr (by decide)) hn_b21 (lo := (-2147483648)) (hi := 2147483647) h82 ⟨by decide, by decide⟩ rg_full dX12_holds_136 (fun x87 k86 h85 => ?_)
                refine lv_icmp_eq (tgt := 142) hx hb dX12_holds_137 (by decide) (fun c88 => ?_) (fun c88 => ?_)
                · have q89 : x80.toInt = x87.toInt := ti_eq c88
                  have h90 : iv 0 99990 x87 := ⟨by have := (h_x80).1; have := (h85).1; omega, by have := (h_x80).2; have := (h85).2; omega⟩
                  refine lv_aload_n hx hb dX12_holds_142 rfl (lv_at hl 3 rfl) ?_
                  refine tw_goi hS (md_runV (As := []) (rest := []) hx hb hml hown hW hK hT hS.1 (t_X12_settles_ l D cy tx base Z K N M51 R17 J76 hS.2.1 a0 hz_a0 hk_a0) s_X12_399 ⟨rfl, rfl, ⟨Nat.le_of_ble_eq_true rfl, Nat.le_of_ble_eq_true rfl⟩, ⟨Nat.le_of_ble_eq_true rfl, Nat.le_of_ble_eq_true rfl⟩⟩ hz_a0 hk_a0 (by decide) rfl rfl hl.1 rfl (Nat.le_of_ble_eq_true rfl) dX12_holds_143) rfl rfl (fun x97 H locs M94 R95 J93 hS f91 g92 E96 => ?_)
                  have eR95 := Fr.nil g92 rfl
                  subst eR95
                  have h_x97 := E96
                  clear E96
                  refine lv_pop hx hb dX12_holds_146 rfl ?_
                  refine tw_iinc (lv' := fun x100 => [(4, .int x100), (5, .int x36), (3, .int x1), (0, .ref (base + a0)), (1, .int a1), (2, .int a2)]) (lo := 1) (hi := 12) hx hb dX12_holds_147 hl (k := 1) rfl h29 (by decide) ⟨by decide, by decide⟩ ⟨by decide, by decide⟩ (by decide) (fun _ => rfl) (fun x100 ls e99 h98 hl => ?_)
                  refine lv_goto (tgt := 55) hx hb dX12_holds_150 (by decide) ?_
                  have hm101 : 12 - x100.toInt < (n_16 : Int) := by
                    have := (h_a1).1; have := (h_a1).2; have := (h_a2).1; have := (h_a2).2; have := (h98).1; have := (h98).2; have := (h29).1; have := (h29).2; have := (h31).1; have := (h31).2; omega
                  exact ih_16 x100 M94 R17 J93 H locs _ (iv_mono h98 (by decide) (by decide)) hm101 hS (lv_sub hl [0, 2, 3, 4, 5] rfl)
                · have q102 : ¬ x80.toInt = x87.toInt := ti_ne c88
                  refine lv_iconst (v := 0) hx hb dX12_holds_140 (by decide) ?_
                  exact tw_endz hx hb hr hlocks hK hT hS hQ rfl ((iv_mono (iv_c (c := 0) (n := 0) (by decide)) (by decide) (by decide))) dX12_holds_141
        have hm103 : 12 - (0 : Int32).toInt < (((13 : Nat) : Int) : Int) := by
          have := (h_a1).1; have := (h_a1).2; have := (h_a2).1; have := (h_a2).2; have : (0 : Int32).toInt = 0 := (by decide); omega
        exact W55_16 13 0 M3 R4 J5 H locs _ (iv_mono (iv_c (c := 0) (n := 0) (by decide)) (by decide) (by decide)) hm103 hS hl
      · have q104 : x2.toInt < x12.toInt := ti_nle c13
        have h105 : iv 0 9 x2 := iv_ltL (y := x12) h_x2 h10 q104 (by decide)
        have h106 : iv 1 10 x12 := iv_gtL (y := x2) h10 h_x2 q104 (by decide)
        refine lv_aload_n hx hb dX12_holds_16 rfl (lv_at hl 2 rfl) ?_
        refine tw_getr hx hb hW hown hK hS f_X12_102_11 hz_a0 hk_a0 (t := 14) (n := 10) rfl dX12_holds_17 (fun b107 k108 hz_b107 hk_b107 hn_b107 => ?_)
        have hn_b107 := hn_b107 (by decide)
        refine lv_iload hx hb dX12_holds_20 (lv_at hl 1 rfl) ?_
        refine lv_iconst (v := 1) hx hb dX12_holds_22 (by decide) ?_
        refine lv_iload_n hx hb dX12_holds_23 rfl (lv_at hl 0 rfl) ?_
        refine lv_iload_n hx hb dX12_holds_24 rfl (lv_at hl 4 rfl) ?_
        refine tw_irem (lo := 0) (hi := 5) hx hb h_x1 h_a2 ⟨by decide, by decide⟩ ⟨by decide, by decide⟩ dX12_holds_25 (fun x111 e110 h109 => ?_)
        refine tw_iadd (lo := 1) (hi := 6) hx hb (iv_c (c := 1) (n := 1) (by decide)) h109 ⟨by decide, by decide⟩ ⟨by decide, by decide⟩ dX12_holds_26 (fun x114 e113 h112 => ?_)
        have e113 : x114.toInt = 1 + x111.toInt := e113
        refine tw_iast hx hb hK hS hz_b107 hk_b107 (Or.inl rfl) hn_b107 h105 ⟨by decide, by decide⟩ h112 (rg_s14 ⟨by decide, by decide⟩) (jl := 0) (jh := 1999999) ⟨by decide, by decide⟩ rfl dX12_holds_27 (fun H locs M117 hS k115 f116 => ?_)
        refine lv_aload_n hx hb dX12_holds_28 rfl (lv_at hl 2 rfl) ?_
        refine tw_getr hx hb hW hown hK hS f_X12_51_11 hz_a0 hk_a0 (t := 30) (n := 10) rfl dX12_holds_29 (fun b118 k119 hz_b118 hk_b118 hn_b118 => ?_)
        have hn_b118 := hn_b118 (by decide)
        refine lv_iload hx hb dX12_holds_32 (lv_at hl 1 rfl) ?_
        refine lv_aload_n hx hb dX12_holds_34 rfl (lv_at hl 2 rfl) ?_
        refine tw_getrk hx hb hW hown hK hS f_X12_102_11 hz_a0 hk_a0 (b := b107) k108 dX12_holds_35 ?_
        refine lv_iload hx hb dX12_holds_38 (lv_at hl 1 rfl) ?_
        refine tw_ialk hx hb hK hS hz_b107 hk_b107 (Or.inl rfl) hn_b107 h105 ⟨by decide, by decide⟩ (v := x114) k115 dX12_holds_40 ?_
        refine tw_iast hx hb hK hS hz_b118 hk_b118 (Or.inr (by decide)) hn_b118 h105 ⟨by decide, by decide⟩ h112 (rg_s30 ⟨by decide, by decide⟩) (jl := 0) (jh := 1999999) ⟨by decide, by decide⟩ rfl dX12_holds_41 (fun H locs M122 hS k120 f121 => ?_)
        refine lv_iload_n hx hb dX12_holds_42 rfl (lv_at hl 0 rfl) ?_
        refine lv_iload_n hx hb dX12_holds_43 rfl (lv_at hl 4 rfl) ?_
        refine tw_idiv (lo := 0) (hi := 2147483647) hx hb h_x1 h_a2 ⟨by decide, by decide⟩ ⟨by decide, by decide⟩ dX12_holds_44 (fun x125 e124 h123 => ?_)
        refine lv_istore_n (lv' := [(3, .int x125), (4, .int x2), (0, .ref (base + a0)), (1, .int a1), (2, .int a2)]) hx hb dX12_holds_45 rfl hl (by decide) rfl (fun ls hl => ?_)
        refine tw_iinc (lv' := fun x128 => [(4, .int x128), (3, .int x125), (0, .ref (base + a0)), (1, .int a1), (2, .int a2)]) (lo := 1) (hi := 10) hx hb dX12_holds_46 hl (k := 1) rfl h105 (by decide) ⟨by decide, by decide⟩ ⟨by decide, by decide⟩ (by decide) (fun _ => rfl) (fun x128 ls e127 h126 hl => ?_)
        refine lv_goto (tgt := 5) hx hb dX12_holds_49 (by decide) ?_
        have hm129 : 10 - x128.toInt < (n_3 : Int) := by
          have := (h_a1).1; have := (h_a1).2; have := (h_a2).1; have := (h_a2).2; have := (h126).1; have := (h126).2; have := (h105).1; have := (h105).2; omega
        exact ih_3 x125 x128 M122 R4 J5 H locs _ h123 (iv_mono h126 (by decide) (by decide)) hm129 hS (lv_sub hl [1, 0, 2, 3, 4] rfl)
  have hm130 : 10 - (0 : Int32).toInt < (((11 : Nat) : Int) : Int) := by
    have := (h_a1).1; have := (h_a1).2; have := (h_a2).1; have := (h_a2).2; have : (0 : Int32).toInt = 0 := (by decide); omega
  exact W5_3 11 a1 0 Ma Ra Ja s.heap [] _ h_a1 (iv_mono (iv_c (c := 0) (n := 0) (by decide)) (by decide) (by decide)) hm130 hS (lv_sub hl [1, 0, 2, 3, 4] rfl)
def Lt_X12_waysOf : WL := []
def LRt_X12_waysOf : WL := []
set_option maxRecDepth 100000 in
set_option maxHeartbeats 4000000 in
theorem t_X12_waysOf (l : Launch) (D : va_G) (cy : Nat → ClassId) (tx : (Nat → Nat) × (Nat → Nat)) (base Z : Nat) (K N : Nat → Nat) (Ma : MT) (Ra : RT) (Ja : JT) (hTy : Ty Z K N Ma Ra) (a0 : Nat) (hz_a0 : a0 < Z) (hk_a0 : K a0 = 12) (a1 : Int32) (h_a1 : iv 1 6 a1) : Met l yX12_waysOf [Cond.code yX12_waysOf cX12_waysOf 4 (some .int)] (md_rm 1 0 0) (va_Pc [.ref (base + a0), .int a1] (md_U D cy tx base Z K N Ma Ra Ja)) (mQi D cy tx base (fun r u => TP Z K N Lt_X12_waysOf LRt_X12_waysOf Ma Ra u ∧ (iv (-2147483648) 2147483647 r))) 0 0 (fun q => base ≤ q) := by
  refine tw_ofW (L := Lt_X12_waysOf) (LR := LRt_X12_waysOf) (by decide) (Nat.le_of_ble_eq_true rfl) hTy ?_
  intro p e s m args below meth c Q ls hx hb hr hlocks hown hml hW hK hT hS hQ hl
  have hl : lv_has ls 4 [(0, .ref (base + a0)), (1, .int a1)] := hl
  refine lv_iconst (v := 1) hx hb dX12_waysOf_0 (by decide) ?_
  refine lv_istore_n (lv' := [(2, .int 1), (0, .ref (base + a0)), (1, .int a1)]) hx hb dX12_waysOf_1 rfl hl (by decide) rfl (fun ls hl => ?_)
  refine lv_iconst (v := 0) hx hb dX12_waysOf_2 (by decide) ?_
  refine lv_istore_n (lv' := [(3, .int 0), (2, .int 1), (0, .ref (base + a0)), (1, .int a1)]) hx hb dX12_waysOf_3 rfl hl (by decide) rfl (fun ls hl => ?_)
  have W4_3 : ∀ (n_3 : Nat) (x1 : Int32) (x2 : Int32) (M3 : MT) (R4 : RT) (J5 : JT) (H : Heap) (locs : List Loc) (ls : Array Slot) (h_x1 : iv (-2147483648) 2147483647 x1) (h_x2 : iv 0 10 x2) (hm_3 : 10 - x2.toInt < (n_3 : Int)) (hS : SB D cy base Z K N Lt_X12_waysOf LRt_X12_waysOf Ma Ra M3 R4 J5 s H locs) (hl : lv_has ls 4 [(2, .int x1), (3, .int x2), (0, .ref (base + a0)), (1, .int a1)]), W p l e (md_rm 1 0 0) s m args below meth c H locs 0 0 Q (F0 m 4 ls []) := by
    intro n_3
    induction n_3 with
    | zero =>
      intro x1 x2 M3 R4 J5 H locs ls h_x1 h_x2 hm_3 hS hl
      exfalso
      have := (h_a1).1; have := (h_a1).2; have := (h_x2).1; have := (h_x2).2; omega
    | succ n_3 ih_3 =>
      intro x1 x2 M3 R4 J5 H locs ls h_x1 h_x2 hm_3 hS hl
      have f6 := hS.2.2.1
      have g7 := hS.2.2.2
      refine lv_iload_n hx hb dX12_waysOf_4 rfl (lv_at hl 1 rfl) ?_
      refine lv_aload_n hx hb dX12_waysOf_5 rfl (lv_at hl 2 rfl) ?_
      refine tw_getr hx hb hW hown hK hS f_X12_45_11 hz_a0 hk_a0 (t := 23) (n := 226) rfl dX12_waysOf_6 (fun b8 k9 hz_b8 hk_b8 hn_b8 => ?_)
      have hn_b8 := hn_b8 (by decide)
      refine lv_iconst (v := 0) hx hb dX12_waysOf_9 (by decide) ?_
      refine tw_iald hx hb hK hS hz_b8 hk_b8 (Or.inr (by decide)) hn_b8 (lo := 0) (hi := 10) (iv_c (c := 0) (n := 0) (by decide)) ⟨by decide, by decide⟩ (rg_c (k0 := 0) rfl rfl rfl) dX12_waysOf_10 (fun x12 k11 h10 => ?_)
      refine lv_icmp_ge (tgt := 24) hx hb dX12_waysOf_11 (by decide) (fun c13 => ?_) (fun c13 => ?_)
      · have q14 : x12.toInt ≤ x2.toInt := ti_le c13
        refine lv_iload_n hx hb dX12_waysOf_24 rfl (lv_at hl 0 rfl) ?_
        exact tw_endi hx hb hr hlocks hK hT hS hQ (h_x1) dX12_waysOf_25
      · have q15 : x2.toInt < x12.toInt := ti_nle c13
        have h16 : iv 0 9 x2 := iv_ltL (y := x12) h_x2 h10 q15 (by decide)
        have h17 : iv 1 10 x12 := iv_gtL (y := x2) h10 h_x2 q15 (by decide)
        refine lv_iload_n hx hb dX12_waysOf_14 rfl (lv_at hl 0 rfl) ?_
        refine lv_iload_n hx hb dX12_waysOf_15 rfl (lv_at hl 3 rfl) ?_
        refine lv_imul hx hb dX12_waysOf_16 ?_
        refine tw_top (fun x19 => ?_)
        have h18 := iv_any x19
        refine lv_istore_n (lv' := [(2, .int x19), (3, .int x2), (0, .ref (base + a0)), (1, .int a1)]) hx hb dX12_waysOf_17 rfl hl (by decide) rfl (fun ls hl => ?_)
        refine tw_iinc (lv' := fun x22 => [(3, .int x22), (2, .int x19), (0, .ref (base + a0)), (1, .int a1)]) (lo := 1) (hi := 10) hx hb dX12_waysOf_18 hl (k := 1) rfl h16 (by decide) ⟨by decide, by decide⟩ ⟨by decide, by decide⟩ (by decide) (fun _ => rfl) (fun x22 ls e21 h20 hl => ?_)
        refine lv_goto (tgt := 4) hx hb dX12_waysOf_21 (by decide) ?_
        have hm23 : 10 - x22.toInt < (n_3 : Int) := by
          have := (h_a1).1; have := (h_a1).2; have := (h16).1; have := (h16).2; have := (h20).1; have := (h20).2; omega
        exact ih_3 x19 x22 M3 R4 J5 H locs _ h18 (iv_mono h20 (by decide) (by decide)) hm23 hS (lv_sub hl [1, 0, 2, 3] rfl)
  have hm24 : 10 - (0 : Int32).toInt < (((11 : Nat) : Int) : Int) := by
    have := (h_a1).1; have := (h_a1).2; have : (0 : Int32).toInt = 0 := (by decide); omega
  exact W4_3 11 1 0 Ma Ra Ja s.heap [] _ (iv_mono (iv_c (c := 1) (n := 1) (by decide)) (by decide) (by decide)) (iv_mono (iv_c (c := 0) (n := 0) (by decide)) (by decide) (by decide)) hm24 hS (lv_sub hl [1, 0, 2, 3] rfl)
def Lt_X12_gainOf : WL := []
def LRt_X12_gainOf : WL := []
set_option maxRecDepth 100000 in
set_option maxHeartbeats 4000000 in
theorem t_X12_gainOf (l : Launch) (D : va_G) (cy : Nat → ClassId) (tx : (Nat → Nat) × (Nat → Nat)) (base Z : Nat) (K N : Nat → Nat) (Ma : MT) (Ra : RT) (Ja : JT) (hTy : Ty Z K N Ma Ra) (a0 : Nat) (hz_a0 : a0 < Z) (hk_a0 : K a0 = 12) (a1 : Int32) (h_a1 : iv (-2147483648) 2147483647 a1) (a2 : Int32) (h_a2 : iv 0 11 a2) : Met l yX12_gainOf [Cond.code yX12_gainOf cX12_gainOf 5 (some .int)] (md_rm 2 0 0) (va_Pc [.ref (base + a0), .int a1, .int a2] (md_U D cy tx base Z K N Ma Ra Ja)) (mQi D cy tx base (fun r u => TP Z K N Lt_X12_gainOf LRt_X12_gainOf Ma Ra u ∧ (iv (-2147483648) 2147483647 r))) 0 0 (fun q => base ≤ q) := by
  refine tw_ofW (L := Lt_X12_gainOf) (LR := LRt_X12_gainOf) (by decide) (Nat.le_of_ble_eq_true rfl) hTy ?_
  intro p e s m args below meth c Q ls hx hb hr hlocks hown hml hW hK hT hS hQ hl
  have hl : lv_has ls 5 [(0, .ref (base + a0)), (1, .int a1), (2, .int a2)] := hl
  refine lv_iconst (v := 0) hx hb dX12_gainOf_0 (by decide) ?_
  refine lv_istore_n (lv' := [(3, .int 0), (0, .ref (base + a0)), (1, .int a1), (2, .int a2)]) hx hb dX12_gainOf_1 rfl hl (by decide) rfl (fun ls hl => ?_)
  refine lv_iconst (v := 0) hx hb dX12_gainOf_2 (by decide) ?_
  refine lv_istore (lv' := [(4, .int 0), (3, .int 0), (0, .ref (base + a0)), (1, .int a1), (2, .int a2)]) hx hb dX12_gainOf_3 hl (by decide) rfl (fun ls hl => ?_)
  have W5_3 : ∀ (n_3 : Nat) (x1 : Int32) (x2 : Int32) (M3 : MT) (R4 : RT) (J5 : JT) (H : Heap) (locs : List Loc) (ls : Array Slot) (h_x1 : iv (-2147483648) 2147483647 x1) (h_x2 : iv 0 10 x2) (hm_3 : 10 - x2.toInt < (n_3 : Int)) (hS : SB D cy base Z K N Lt_X12_gainOf LRt_X12_gainOf Ma Ra M3 R4 J5 s H locs) (hl : lv_has ls 5 [(3, .int x1), (4, .int x2), (0, .ref (base + a0)), (1, .int a1), (2, .int a2)]), W p l e (md_rm 2 0 0) s m args below meth c H locs 0 0 Q (F0 m 5 ls []) := by
    intro n_3
    induction n_3 with
    | zero =>
      intro x1 x2 M3 R4 J5 H locs ls h_x1 h_x2 hm_3 hS hl
      exfalso
      have := (h_a1).1; have := (h_a1).2; have := (h_a2).1; have := (h_a2).2; have := (h_x2).1; have := (h_x2).2; omega
    | succ n_3 ih_3 =>
      intro x1 x2 M3 R4 J5 H locs ls h_x1 h_x2 hm_3 hS hl
      have f6 := hS.2.2.1
      have g7 := hS.2.2.2
      refine lv_iload hx hb dX12_gainOf_5 (lv_at hl 1 rfl) ?_
      refine lv_aload_n hx hb dX12_gainOf_7 rfl (lv_at hl 2 rfl) ?_
      refine tw_getr hx hb hW hown hK hS f_X12_45_11 hz_a0 hk_a0 (t := 23) (n := 226) rfl dX12_gainOf_8 (fun b8 k9 hz_b8 hk_b8 hn_b8 => ?_)
      have hn_b8 := hn_b8 (by decide)
      refine lv_iconst (v := 0) hx hb dX12_gainOf_11 (by decide) ?_
      refine tw_iald hx hb hK hS hz_b8 hk_b8 (Or.inr (by decide)) hn_b8 (lo := 0) (hi := 10) (iv_c (c := 0) (n := 0) (by decide)) ⟨by decide, by decide⟩ (rg_c (k0 := 0) rfl rfl rfl) dX12_gainOf_12 (fun x12 k11 h10 => ?_)
      refine lv_icmp_ge (tgt := 45) hx hb dX12_gainOf_13 (by decide) (fun c13 => ?_) (fun c13 => ?_)
      · have q14 : x12.toInt ≤ x2.toInt := ti_le c13
        refine lv_iload_n hx hb dX12_gainOf_45 rfl (lv_at hl 0 rfl) ?_
        exact tw_endi hx hb hr hlocks hK hT hS hQ (h_x1) dX12_gainOf_46
      · have q15 : x2.toInt < x12.toInt := ti_nle c13
        have h16 : iv 0 9 x2 := iv_ltL (y := x12) h_x2 h10 q15 (by decide)
        have h17 : iv 1 10 x12 := iv_gtL (y := x2) h10 h_x2 q15 (by decide)
        refine lv_iload_n hx hb dX12_gainOf_16 rfl (lv_at hl 0 rfl) ?_
        refine lv_iload_n hx hb dX12_gainOf_17 rfl (lv_at hl 3 rfl) ?_
        refine lv_iload hx hb dX12_gainOf_18 (lv_at hl 1 rfl) ?_
        refine tw_goi hS (md_runS (As := [.int a1, .int x2]) (rest := [.int x1]) hx hb hml hown hW hK hT hS.1 (t_X12_isOf l D cy tx base Z K N M3 R4 J5 hS.2.1 a1 h_a1 x2 h16) s_X12_322 ⟨rfl, rfl, ⟨Nat.le_of_ble_eq_true rfl, Nat.le_of_ble_eq_true rfl⟩, ⟨Nat.le_of_ble_eq_true rfl, Nat.le_of_ble_eq_true rfl⟩⟩ rfl hl.1 rfl (Nat.le_of_ble_eq_true rfl) dX12_gainOf_20) rfl rfl (fun x24 H locs M21 R22 J20 hS f18 g19 E23 => ?_)
        have eM21 := Fr.nil f18 rfl
        subst eM21
        have eR22 := Fr.nil g19 rfl
        subst eR22
        have h_x24 := E23
        clear E23
        refine lv_if_eq (tgt := 36) hx hb dX12_gainOf_23 (by decide) (fun c25 => ?_) (fun c25 => ?_)
        · have q26 : x24.toInt = 0 := ti_eq c25
          have h27 : iv 0 0 x24 := ⟨by have := (h_x24).1; have := ((iv_c (c := 0) (n := 0) (by decide))).1; omega, by have := (h_x24).2; have := ((iv_c (c := 0) (n := 0) (by decide))).2; omega⟩
          refine lv_iconst (v := 0) hx hb dX12_gainOf_36 (by decide) ?_
          refine tw_iadd (lo := (-2147483648)) (hi := 2147483647) hx hb h_x1 (iv_c (c := 0) (n := 0) (by decide)) ⟨by decide, by decide⟩ ⟨by decide, by decide⟩ dX12_gainOf_37 (fun x30 e29 h28 => ?_)
          have e29 : x30.toInt = x1.toInt + 0 := e29
          refine lv_istore_n (lv' := [(3, .int x30), (4, .int x2), (0, .ref (base + a0)), (1, .int a1), (2, .int a2)]) hx hb dX12_gainOf_38 rfl hl (by decide) rfl (fun ls hl => ?_)
          refine tw_iinc (lv' := fun x33 => [(4, .int x33), (3, .int x30), (0, .ref (base + a0)), (1, .int a1), (2, .int a2)]) (lo := 1) (hi := 10) hx hb dX12_gainOf_39 hl (k := 1) rfl h16 (by decide) ⟨by decide, by decide⟩ ⟨by decide, by decide⟩ (by decide) (fun _ => rfl) (fun x33 ls e32 h31 hl => ?_)
          refine lv_goto (tgt := 5) hx hb dX12_gainOf_42 (by decide) ?_
          have hm34 : 10 - x33.toInt < (n_3 : Int) := by
            have := (h_a1).1; have := (h_a1).2; have := (h_a2).1; have := (h_a2).2; have := (h16).1; have := (h16).2; have := (h31).1; have := (h31).2; omega
          exact ih_3 x30 x33 M3 R4 J20 H locs _ h28 (iv_mono h31 (by decide) (by decide)) hm34 hS (lv_sub hl [1, 0, 2, 3, 4] rfl)
        · have q35 : ¬ x24.toInt = 0 := ti_ne c25
          have h36 : iv 1 1 x24 := ⟨by have := (h_x24).1; have := ((iv_c (c := 0) (n := 0) (by decide))).1; have := ((iv_c (c := 0) (n := 0) (by decide))).2; omega, by have := (h_x24).2; have := ((iv_c (c := 0) (n := 0) (by decide))).1; have := ((iv_c (c := 0) (n := 0) (by decide))).2; omega⟩
          refine lv_aload_n hx hb dX12_gainOf_26 rfl (lv_at hl 2 rfl) ?_
          refine lv_iload hx hb dX12_gainOf_27 (lv_at hl 1 rfl) ?_
          refine lv_iload_n hx hb dX12_gainOf_29 rfl (lv_at hl 4 rfl) ?_
          refine tw_goi hS (md_runV (As := [.int x2, .int a2]) (rest := [.int x1]) hx hb hml hown hW hK hT hS.1 (t_X12_worthOf l D cy tx base Z K N M3 R4 J20 hS.2.1 a0 hz_a0 hk_a0 x2 h16 a2 h_a2) s_X12_330 ⟨rfl, rfl, ⟨Nat.le_of_ble_eq_true rfl, Nat.le_of_ble_eq_true rfl⟩, ⟨Nat.le_of_ble_eq_true rfl, Nat.le_of_ble_eq_true rfl⟩⟩ hz_a0 hk_a0 (by decide) rfl rfl hl.1 rfl (Nat.le_of_ble_eq_true rfl) dX12_gainOf_30) rfl rfl (fun x43 H locs M40 R41 J39 hS f37 g38 E42 => ?_)
          have eM40 := Fr.nil f37 rfl
          subst eM40
          have eR41 := Fr.nil g38 rfl
          subst eR41
          have h_x43 := E42
          clear E42
          refine lv_goto (tgt := 37) hx hb dX12_gainOf_33 (by decide) ?_
          refine lv_iadd hx hb dX12_gainOf_37 ?_
          refine tw_top (fun x45 => ?_)
          have h44 := iv_any x45
          refine lv_istore_n (lv' := [(3, .int x45), (4, .int x2), (0, .ref (base + a0)), (1, .int a1), (2, .int a2)]) hx hb dX12_gainOf_38 rfl hl (by decide) rfl (fun ls hl => ?_)
          refine tw_iinc (lv' := fun x48 => [(4, .int x48), (3, .int x45), (0, .ref (base + a0)), (1, .int a1), (2, .int a2)]) (lo := 1) (hi := 10) hx hb dX12_gainOf_39 hl (k := 1) rfl h16 (by decide) ⟨by decide, by decide⟩ ⟨by decide, by decide⟩ (by decide) (fun _ => rfl) (fun x48 ls e47 h46 hl => ?_)
          refine lv_goto (tgt := 5) hx hb dX12_gainOf_42 (by decide) ?_
          have hm49 : 10 - x48.toInt < (n_3 : Int) := by
            have := (h_a1).1; have := (h_a1).2; have := (h_a2).1; have := (h_a2).2; have := (h16).1; have := (h16).2; have := (h46).1; have := (h46).2; omega
          exact ih_3 x45 x48 M3 R4 J39 H locs _ h44 (iv_mono h46 (by decide) (by decide)) hm49 hS (lv_sub hl [1, 0, 2, 3, 4] rfl)
  have hm50 : 10 - (0 : Int32).toInt < (((11 : Nat) : Int) : Int) := by
    have := (h_a1).1; have := (h_a1).2; have := (h_a2).1; have := (h_a2).2; have : (0 : Int32).toInt = 0 := (by decide); omega
  exact W5_3 11 0 0 Ma Ra Ja s.heap [] _ (iv_mono (iv_c (c := 0) (n := 0) (by decide)) (by decide) (by decide)) (iv_mono (iv_c (c := 0) (n := 0) (by decide)) (by decide) (by decide)) hm50 hS (lv_sub hl [1, 0, 2, 3, 4] rfl)
def Lt_X12_putsSide : WL := [(12, 31, 33)]
def LRt_X12_putsSide : WL := []
set_option maxRecDepth 100000 in
set_option maxHeartbeats 4000000 in
theorem t_X12_putsSide (l : Launch) (D : va_G) (cy : Nat → ClassId) (tx : (Nat → Nat) × (Nat → Nat)) (base Z : Nat) (K N : Nat → Nat) (Ma : MT) (Ra : RT) (Ja : JT) (hTy : Ty Z K N Ma Ra) (a0 : Nat) (hz_a0 : a0 < Z) (hk_a0 : K a0 = 12) (a1 : Int32) (h_a1 : iv (-2147483648) 2147483647 a1) (a2 : Int32) (h_a2 : iv 0 2 a2) : Met l yX12_putsSide [Cond.code yX12_putsSide cX12_putsSide 4 none] (md_rm 2 0 0) (va_Pc [.ref (base + a0), .int a1, .int a2] (md_U D cy tx base Z K N Ma Ra Ja)) (mQv D cy tx base (fun u => TP Z K N Lt_X12_putsSide LRt_X12_putsSide Ma Ra u ∧ (True))) 0 0 (fun q => base ≤ q) := by
  refine tw_ofW (L := Lt_X12_putsSide) (LR := LRt_X12_putsSide) (by decide) (Nat.le_of_ble_eq_true rfl) hTy ?_
  intro p e s m args below meth c Q ls hx hb hr hlocks hown hml hW hK hT hS hQ hl
  have hl : lv_has ls 4 [(0, .ref (base + a0)), (1, .int a1), (2, .int a2)] := hl
  refine lv_iconst (v := 0) hx hb dX12_putsSide_0 (by decide) ?_
  refine lv_istore_n (lv' := [(3, .int 0), (0, .ref (base + a0)), (1, .int a1), (2, .int a2)]) hx hb dX12_putsSide_1 rfl hl (by decide) rfl (fun ls hl => ?_)
  have W2_2 : ∀ (n_2 : Nat) (x1 : Int32) (M2 : MT) (R3 : RT) (J4 : JT) (H : Heap) (locs : List Loc) (ls : Array Slot) (h_x1 : iv 0 10 x1) (hm_2 : 10 - x1.toInt < (n_2 : Int)) (hS : SB D cy base Z K N Lt_X12_putsSide LRt_X12_putsSide Ma Ra M2 R3 J4 s H locs) (hl : lv_has ls 4 [(3, .int x1), (0, .ref (base + a0)), (1, .int a1), (2, .int a2)]), W p l e (md_rm 2 0 0) s m args below meth c H locs 0 0 Q (F0 m 2 ls []) := by
    intro n_2
    induction n_2 with
    | zero =>
      intro x1 M2 R3 J4 H locs ls h_x1 hm_2 hS hl
      exfalso
      have := (h_a1).1; have := (h_a1).2; have := (h_a2).1; have := (h_a2).2; have := (h_x1).1; have := (h_x1).2; omega
    | succ n_2 ih_2 =>
      intro x1 M2 R3 J4 H locs ls h_x1 hm_2 hS hl
      have f5 := hS.2.2.1
      have g6 := hS.2.2.2
      refine lv_iload_n hx hb dX12_putsSide_2 rfl (lv_at hl 0 rfl) ?_
      refine lv_aload_n hx hb dX12_putsSide_3 rfl (lv_at hl 1 rfl) ?_
      refine tw_getr hx hb hW hown hK hS f_X12_45_11 hz_a0 hk_a0 (t := 23) (n := 226) rfl dX12_putsSide_4 (fun b7 k8 hz_b7 hk_b7 hn_b7 => ?_)
      have hn_b7 := hn_b7 (by decide)
      refine lv_iconst (v := 0) hx hb dX12_putsSide_7 (by decide) ?_
      refine tw_iald hx hb hK hS hz_b7 hk_b7 (Or.inr (by decide)) hn_b7 (lo := 0) (hi := 10) (iv_c (c := 0) (n := 0) (by decide)) ⟨by decide, by decide⟩ (rg_c (k0 := 0) rfl rfl rfl) dX12_putsSide_8 (fun x11 k10 h9 => ?_)
      refine lv_icmp_ge (tgt := 49) hx hb dX12_putsSide_9 (by decide) (fun c12 => ?_) (fun c12 => ?_)
      · have q13 : x11.toInt ≤ x1.toInt := ti_le c12
        exact tw_endv hx hb hr hlocks hK hT hS hQ (trivial) dX12_putsSide_49
      · have q14 : x1.toInt < x11.toInt := ti_nle c12
        have h15 : iv 0 9 x1 := iv_ltL (y := x11) h_x1 h9 q14 (by decide)
        have h16 : iv 1 10 x11 := iv_gtL (y := x1) h9 h_x1 q14 (by decide)
        refine lv_iload_n hx hb dX12_putsSide_12 rfl (lv_at hl 2 rfl) ?_
        refine lv_iload_n hx hb dX12_putsSide_13 rfl (lv_at hl 0 rfl) ?_
        refine tw_goi hS (md_runS (As := [.int a1, .int x1]) (rest := []) hx hb hml hown hW hK hT hS.1 (t_X12_isOf l D cy tx base Z K N M2 R3 J4 hS.2.1 a1 h_a1 x1 h15) s_X12_322 ⟨rfl, rfl, ⟨Nat.le_of_ble_eq_true rfl, Nat.le_of_ble_eq_true rfl⟩, ⟨Nat.le_of_ble_eq_true rfl, Nat.le_of_ble_eq_true rfl⟩⟩ rfl hl.1 rfl (Nat.le_of_ble_eq_true rfl) dX12_putsSide_14) rfl rfl (fun x23 H locs M20 R21 J19 hS f17 g18 E22 => ?_)
        have eM20 := Fr.nil f17 rfl
        subst eM20
        have eR21 := Fr.nil g18 rfl
        subst eR21
        have h_x23 := E22
        clear E22
        refine lv_if_eq (tgt := 43) hx hb dX12_putsSide_17 (by decide) (fun c24 => ?_) (fun c24 => ?_)
        · have q25 : x23.toInt = 0 := ti_eq c24
          have h26 : iv 0 0 x23 := ⟨by have := (h_x23).1; have := ((iv_c (c := 0) (n := 0) (by decide))).1; omega, by have := (h_x23).2; have := ((iv_c (c := 0) (n := 0) (by decide))).2; omega⟩
          refine tw_iinc (lv' := fun x29 => [(3, .int x29), (0, .ref (base + a0)), (1, .int a1), (2, .int a2)]) (lo := 1) (hi := 10) hx hb dX12_putsSide_43 hl (k := 0) rfl h15 (by decide) ⟨by decide, by decide⟩ ⟨by decide, by decide⟩ (by decide) (fun _ => rfl) (fun x29 ls e28 h27 hl => ?_)
          refine lv_goto (tgt := 2) hx hb dX12_putsSide_46 (by decide) ?_
          have hm30 : 10 - x29.toInt < (n_2 : Int) := by
            have := (h_a1).1; have := (h_a1).2; have := (h_a2).1; have := (h_a2).2; have := (h15).1; have := (h15).2; have := (h27).1; have := (h27).2; omega
          exact ih_2 x29 M2 R3 J19 H locs _ (iv_mono h27 (by decide) (by decide)) hm30 hS hl
        · have q31 : ¬ x23.toInt = 0 := ti_ne c24
          have h32 : iv 1 1 x23 := ⟨by have := (h_x23).1; have := ((iv_c (c := 0) (n := 0) (by decide))).1; have := ((iv_c (c := 0) (n := 0) (by decide))).2; omega, by have := (h_x23).2; have := ((iv_c (c := 0) (n := 0) (by decide))).1; have := ((iv_c (c := 0) (n := 0) (by decide))).2; omega⟩
          refine lv_aload_n hx hb dX12_putsSide_20 rfl (lv_at hl 1 rfl) ?_
          refine lv_iload_n hx hb dX12_putsSide_21 rfl (lv_at hl 0 rfl) ?_
          refine lv_iload_n hx hb dX12_putsSide_22 rfl (lv_at hl 3 rfl) ?_
          refine lv_if_ne (tgt := 30) hx hb dX12_putsSide_23 (by decide) (fun c33 => ?_) (fun c33 => ?_)
          · have q34 : ¬ a2.toInt = 0 := ti_ne c33
            have h35 : iv 1 2 a2 := ⟨by have := (h_a2).1; have := ((iv_c (c := 0) (n := 0) (by decide))).1; have := ((iv_c (c := 0) (n := 0) (by decide))).2; omega, by have := (h_a2).2; have := ((iv_c (c := 0) (n := 0) (by decide))).1; have := ((iv_c (c := 0) (n := 0) (by decide))).2; omega⟩
            refine lv_iload_n hx hb dX12_putsSide_30 rfl (lv_at hl 3 rfl) ?_
            refine lv_iconst (v := 1) hx hb dX12_putsSide_31 (by decide) ?_
            refine lv_icmp_ne (tgt := 39) hx hb dX12_putsSide_32 (by decide) (fun c36 => ?_) (fun c36 => ?_)
            · have q37 : ¬ a2.toInt = 1 := ti_ne c36
              have h38 : iv 2 2 a2 := ⟨by have := (h35).1; have := ((iv_c (c := 1) (n := 1) (by decide))).1; have := ((iv_c (c := 1) (n := 1) (by decide))).2; omega, by have := (h35).2; have := ((iv_c (c := 1) (n := 1) (by decide))).1; have := ((iv_c (c := 1) (n := 1) (by decide))).2; omega⟩
              refine lv_iconst (v := 2) hx hb dX12_putsSide_39 (by decide) ?_
              refine tw_gov hS (md_runV (As := [.int x1, .int 2]) (rest := []) hx hb hml hown hW hK hT hS.1 (t_X12_sets l D cy tx base Z K N M2 R3 J19 hS.2.1 a0 hz_a0 hk_a0 x1 h15 2 (iv_mono (iv_c (c := 2) (n := 2) (by decide)) (by decide) (by decide))) s_X12_377 ⟨rfl, rfl, ⟨Nat.le_of_ble_eq_true rfl, Nat.le_of_ble_eq_true rfl⟩, ⟨Nat.le_of_ble_eq_true rfl, Nat.le_of_ble_eq_true rfl⟩⟩ hz_a0 hk_a0 (by decide) rfl rfl hl.1 rfl (Nat.le_of_ble_eq_true rfl) dX12_putsSide_40) rfl rfl (fun H locs M42 R43 J41 hS f39 g40 E44 => ?_)
              have eR43 := Fr.nil g40 rfl
              subst eR43
              refine tw_iinc (lv' := fun x47 => [(3, .int x47), (0, .ref (base + a0)), (1, .int a1), (2, .int a2)]) (lo := 1) (hi := 10) hx hb dX12_putsSide_43 hl (k := 0) rfl h15 (by decide) ⟨by decide, by decide⟩ ⟨by decide, by decide⟩ (by decide) (fun _ => rfl) (fun x47 ls e46 h45 hl => ?_)
              refine lv_goto (tgt := 2) hx hb dX12_putsSide_46 (by decide) ?_
              have hm48 : 10 - x47.toInt < (n_2 : Int) := by
                have := (h_a1).1; have := (h_a1).2; have := (h38).1; have := (h38).2; have := (h15).1; have := (h15).2; have := (h45).1; have := (h45).2; omega
              exact ih_2 x47 M42 R3 J41 H locs _ (iv_mono h45 (by decide) (by decide)) hm48 hS hl
            · have q49 : a2.toInt = 1 := ti_eq c36
              have h50 : iv 1 1 a2 := ⟨by have := (h35).1; have := ((iv_c (c := 1) (n := 1) (by decide))).1; omega, by have := (h35).2; have := ((iv_c (c := 1) (n := 1) (by decide))).2; omega⟩
              refine lv_iconst (v := 0) hx hb dX12_putsSide_35 (by decide) ?_
              refine lv_goto (tgt := 40) hx hb dX12_putsSide_36 (by decide) ?_
              refine tw_gov hS (md_runV (As := [.int x1, .int 0]) (rest := []) hx hb hml hown hW hK hT hS.1 (t_X12_sets l D cy tx base Z K N M2 R3 J19 hS.2.1 a0 hz_a0 hk_a0 x1 h15 0 (iv_mono (iv_c (c := 0) (n := 0) (by decide)) (by decide) (by decide))) s_X12_377 ⟨rfl, rfl, ⟨Nat.le_of_ble_eq_true rfl, Nat.le_of_ble_eq_true rfl⟩, ⟨Nat.le_of_ble_eq_true rfl, Nat.le_of_ble_eq_true rfl⟩⟩ hz_a0 hk_a0 (by decide) rfl rfl hl.1 rfl (Nat.le_of_ble_eq_true rfl) dX12_putsSide_40) rfl rfl (fun H locs M54 R55 J53 hS f51 g52 E56 => ?_)
              have eR55 := Fr.nil g52 rfl
              subst eR55
              refine tw_iinc (lv' := fun x59 => [(3, .int x59), (0, .ref (base + a0)), (1, .int a1), (2, .int a2)]) (lo := 1) (hi := 10) hx hb dX12_putsSide_43 hl (k := 0) rfl h15 (by decide) ⟨by decide, by decide⟩ ⟨by decide, by decide⟩ (by decide) (fun _ => rfl) (fun x59 ls e58 h57 hl => ?_)
              refine lv_goto (tgt := 2) hx hb dX12_putsSide_46 (by decide) ?_
              have hm60 : 10 - x59.toInt < (n_2 : Int) := by
                have := (h_a1).1; have := (h_a1).2; have := (h50).1; have := (h50).2; have := (h15).1; have := (h15).2; have := (h57).1; have := (h57).2; omega
              exact ih_2 x59 M54 R3 J53 H locs _ (iv_mono h57 (by decide) (by decide)) hm60 hS hl
          · have q61 : a2.toInt = 0 := ti_eq c33
            have h62 : iv 0 0 a2 := ⟨by have := (h_a2).1; have := ((iv_c (c := 0) (n := 0) (by decide))).1; omega, by have := (h_a2).2; have := ((iv_c (c := 0) (n := 0) (by decide))).2; omega⟩
            refine lv_iconst (v := 1) hx hb dX12_putsSide_26 (by decide) ?_
            refine lv_goto (tgt := 40) hx hb dX12_putsSide_27 (by decide) ?_
            refine tw_gov hS (md_runV (As := [.int x1, .int 1]) (rest := []) hx hb hml hown hW hK hT hS.1 (t_X12_sets l D cy tx base Z K N M2 R3 J19 hS.2.1 a0 hz_a0 hk_a0 x1 h15 1 (iv_mono (iv_c (c := 1) (n := 1) (by decide)) (by decide) (by decide))) s_X12_377 ⟨rfl, rfl, ⟨Nat.le_of_ble_eq_true rfl, Nat.le_of_ble_eq_true rfl⟩, ⟨Nat.le_of_ble_eq_true rfl, Nat.le_of_ble_eq_true rfl⟩⟩ hz_a0 hk_a0 (by decide) rfl rfl hl.1 rfl (Nat.le_of_ble_eq_true rfl) dX12_putsSide_40) rfl rfl (fun H locs M66 R67 J65 hS f63 g64 E68 => ?_)
            have eR67 := Fr.nil g64 rfl
            subst eR67
            refine tw_iinc (lv' := fun x71 => [(3, .int x71), (0, .ref (base + a0)), (1, .int a1), (2, .int a2)]) (lo := 1) (hi := 10) hx hb dX12_putsSide_43 hl (k := 0) rfl h15 (by decide) ⟨by decide, by decide⟩ ⟨by decide, by decide⟩ (by decide) (fun _ => rfl) (fun x71 ls e70 h69 hl => ?_)
            refine lv_goto (tgt := 2) hx hb dX12_putsSide_46 (by decide) ?_
            have hm72 : 10 - x71.toInt < (n_2 : Int) := by
              have := (h_a1).1; have := (h_a1).2; have := (h62).1; have := (h62).2; have := (h15).1; have := (h15).2; have := (h69).1; have := (h69).2; omega
            exact ih_2 x71 M66 R3 J65 H locs _ (iv_mono h69 (by decide) (by decide)) hm72 hS hl
  have hm73 : 10 - (0 : Int32).toInt < (((11 : Nat) : Int) : Int) := by
    have := (h_a1).1; have := (h_a1).2; have := (h_a2).1; have := (h_a2).2; have : (0 : Int32).toInt = 0 := (by decide); omega
  exact W2_2 11 0 Ma Ra Ja s.heap [] _ (iv_mono (iv_c (c := 0) (n := 0) (by decide)) (by decide) (by decide)) hm73 hS hl
