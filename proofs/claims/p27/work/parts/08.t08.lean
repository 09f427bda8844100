def Lt_X4_play : WL := [(5, 7, 8), (6, 2, 4), (6, 6, 15), (20, 0, 2000000)]
def LRt_X4_play : WL := [(6, 4, 6)]
def Lt_X4_answered : WL := [(5, 7, 8), (6, 2, 4), (6, 6, 15), (20, 0, 2000000)]
def LRt_X4_answered : WL := [(6, 4, 6)]
set_option maxRecDepth 100000 in
set_option maxHeartbeats 4000000 in
theorem t_X4_answered (l : Launch) (D : va_G) (cy : Nat → ClassId) (tx : (Nat → Nat) × (Nat → Nat)) (base Z : Nat) (K N : Nat → Nat) (d : Nat) (ih : ∀ (Ma : MT) (Ra : RT) (Ja : JT) (hTy : Ty Z K N Ma Ra) (a0 : Nat) (hz_a0 : a0 < Z) (hk_a0 : K a0 = 5) (a1 : Int32) (h_a1 : iv 0 4 a1) (hmd : 4 - a1.toInt < (d : Int)), Met l yX4_play [Cond.code yX4_play cX4_play 9 (some .int)] (md_rm (5 + 2 * d) 0 0) (va_Pc [.ref (base + a0), .int a1] (md_U D cy tx base Z K N Ma Ra Ja)) (mQi D cy tx base (fun r u => TP Z K N Lt_X4_play LRt_X4_play Ma Ra u ∧ (iv (-1000000000) 1000000000 r))) 0 0 (fun q => base ≤ q)) (Ma : MT) (Ra : RT) (Ja : JT) (hTy : Ty Z K N Ma Ra) (a0 : Nat) (hz_a0 : a0 < Z) (hk_a0 : K a0 = 5) (a1 : Int32) (h_a1 : iv 0 3 a1) (a2 : Int32) (h_a2 : iv (-2147483648) 2147483647 a2) (a3 : Int32) (h_a3 : iv (-2147483648) 2147483647 a3) (hmd : 3 - a1.toInt < (d : Int)) : Met l yX4_answered [Cond.code yX4_answered cX4_answered 11 (some .int)] (md_rm (6 + 2 * d) 0 0) (va_Pc [.ref (base + a0), .int a1, .int a2, .int a3] (md_U D cy tx base Z K N Ma Ra Ja)) (mQi D cy tx base (fun r u => TP Z K N Lt_X4_answered LRt_X4_answered Ma Ra u ∧ (iv (-2147483648) 1000000000 r))) 0 0 (fun q => base ≤ q) := by
  refine tw_ofW (L := Lt_X4_answered) (LR := LRt_X4_answered) (by decide) (Nat.le_of_ble_eq_true rfl) hTy ?_
  intro p e s m args below meth c Q ls hx hb hr hlocks hown hml hW hK hT hS hQ hl
  have hl : lv_has ls 11 [(0, .ref (base + a0)), (1, .int a1), (2, .int a2), (3, .int a3)] := hl
  refine lv_ldc hx hb hown (hW _ w_5_112 rfl) dX4_answered_0 ?_
  refine lv_istore (lv' := [(4, .int 1000000000), (0, .ref (base + a0)), (1, .int a1), (2, .int a2), (3, .int a3)]) hx hb dX4_answered_2 hl (by decide) rfl (fun ls hl => ?_)
  refine lv_aload_n hx hb dX4_answered_4 rfl (lv_at hl 1 rfl) ?_
  refine tw_getr hx hb hW hown hK hS f_X4_13_4 hz_a0 hk_a0 (t := 19) (n := 5) rfl dX4_answered_5 (fun b1 k2 hz_b1 hk_b1 hn_b1 => ?_)
  have hn_b1 := hn_b1 (by decide)
  refine lv_iload_n hx hb dX4_answered_8 rfl (lv_at hl 2 rfl) ?_
  refine lv_iconst (v := 1) hx hb dX4_answered_9 (by decide) ?_
  refine tw_iadd (lo := 1) (hi := 4) hx hb h_a1 (iv_c (c := 1) (n := 1) (by decide)) ⟨by decide, by decide⟩ ⟨by decide, by decide⟩ dX4_answered_10 (fun x5 e4 h3 => ?_)
  have e4 : x5.toInt = a1.toInt + 1 := e4
  refine tw_row hx hb hK hS hz_b1 hk_b1 hn_b1 h3 ⟨by decide, by decide⟩ dX4_answered_11 (fun b6 k7 hz_b6 hk_b6 hn_b6 => ?_)
  refine lv_astore (lv' := [(5, .ref (base + b6)), (4, .int 1000000000), (0, .ref (base + a0)), (1, .int a1), (2, .int a2), (3, .int a3)]) hx hb dX4_answered_12 hl (by decide) rfl (fun ls hl => ?_)
  refine lv_iconst (v := 0) hx hb dX4_answered_14 (by decide) ?_
  refine lv_istore (lv' := [(6, .int 0), (5, .ref (base + b6)), (4, .int 1000000000), (0, .ref (base + a0)), (1, .int a1), (2, .int a2), (3, .int a3)]) hx hb dX4_answered_15 hl (by decide) rfl (fun ls hl => ?_)
  have W17_10 : ∀ (n_10 : Nat) (x8 : Int32) (x9 : Int32) (M10 : MT) (R11 : RT) (J12 : JT) (H : Heap) (locs : List Loc) (ls : Array Slot) (h_x8 : iv (-2147483648) 1000000000 x8) (h_x9 : iv 0 3 x9) (hm_10 : 3 - x9.toInt < (n_10 : Int)) (hS : SB D cy base Z K N Lt_X4_answered LRt_X4_answered Ma Ra M10 R11 J12 s H locs) (hl : lv_has ls 11 [(4, .int x8), (6, .int x9), (5, .ref (base + b6)), (0, .ref (base + a0)), (1, .int a1), (2, .int a2), (3, .int a3)]), W p l e (md_rm (6 + 2 * d) 0 0) s m args below meth c H locs 0 0 Q (F0 m 17 ls []) := by
    intro n_10
    induction n_10 with
    | zero =>
      intro x8 x9 M10 R11 J12 H locs ls h_x8 h_x9 hm_10 hS hl
      exfalso
      have := (h_a1).1; have := (h_a1).2; have := (h_a2).1; have := (h_a2).2; have := (h_a3).1; have := (h_a3).2; have := (h_x9).1; have := (h_x9).2; omega
    | succ n_10 ih_10 =>
      intro x8 x9 M10 R11 J12 H locs ls h_x8 h_x9 hm_10 hS hl
      have f13 := hS.2.2.1
      have g14 := hS.2.2.2
      refine lv_iload hx hb dX4_answered_17 (lv_at hl 1 rfl) ?_
      obtain ⟨sy0, sy1, hY0, hY1⟩ := hT.2.2.2.2
      refine va_getsN hx hb hY0 hS.1.2.2 hown (va_Nw.use rfl hK.2.2.1.2.2.2.2.2.2.1) (fun _ h => h) dX4_answered_19 ?_
      refine va_tlen hx hb hY1 hS.1.2.2 (v := 3) (by decide) dX4_answered_22 ?_
      refine lv_icmp_ge (tgt := 140) hx hb dX4_answered_23 (by decide) (fun c15 => ?_) (fun c15 => ?_)
      · have q16 : 3 ≤ x9.toInt := ti_le c15
        have h17 : iv 3 3 x9 := iv_geL (y := 3) h_x9 (iv_c (c := 3) (n := 3) (by decide)) q16 (by decide)
        refine lv_iload hx hb dX4_answered_140 (lv_at hl 0 rfl) ?_
        exact tw_endi hx hb hr hlocks hK hT hS hQ (h_x8) dX4_answered_142
      · have q18 : x9.toInt < 3 := ti_nle c15
        have h19 : iv 0 2 x9 := iv_ltL (y := 3) h_x9 (iv_c (c := 3) (n := 3) (by decide)) q18 (by decide)
        obtain ⟨sy0, sy1, hY0, hY1⟩ := hT.2.2.2.2
        refine va_getsN hx hb hY0 hS.1.2.2 hown (va_Nw.use rfl hK.2.2.1.2.2.2.2.2.2.1) (fun _ h => h) dX4_answered_26 ?_
        refine lv_iload hx hb dX4_answered_29 (lv_at hl 1 rfl) ?_
        refine va_ti hx hb hY1 hS.1.2.2 (iv_in h19 ⟨by decide, by decide⟩) rfl dX4_answered_31 ?_
        refine tw_top (fun x21 => ?_)
        have h20 := iv_any x21
        refine lv_iconst (v := 1) hx hb dX4_answered_32 (by decide) ?_
        refine lv_icmp_ne (tgt := 43) hx hb dX4_answered_33 (by decide) (fun c22 => ?_) (fun c22 => ?_)
        · have q23 : ¬ x21.toInt = 1 := ti_ne c22
          refine lv_iconst (v := 0) hx hb dX4_answered_43 (by decide) ?_
          refine lv_istore (lv' := [(7, .int 0), (4, .int x8), (6, .int x9), (5, .ref (base + b6)), (0, .ref (base + a0)), (1, .int a1), (2, .int a2), (3, .int a3)]) hx hb dX4_answered_44 hl (by decide) rfl (fun ls hl => ?_)
          obtain ⟨sy0, sy1, hY0, hY1⟩ := hT.2.2.2.2
          refine va_getsN hx hb hY0 hS.1.2.2 hown (va_Nw.use rfl hK.2.2.1.2.2.2.2.2.2.1) (fun _ h => h) dX4_answered_46 ?_
          refine lv_iload hx hb dX4_answered_49 (lv_at hl 2 rfl) ?_
          refine va_ti hx hb hY1 hS.1.2.2 (iv_in h19 ⟨by decide, by decide⟩) rfl dX4_answered_51 ?_
          refine tw_top (fun x25 => ?_)
          have h24 := iv_any x25
          refine lv_if_ne (tgt := 62) hx hb dX4_answered_52 (by decide) (fun c26 => ?_) (fun c26 => ?_)
          · have q27 : ¬ x25.toInt = 0 := ti_ne c26
            refine lv_iconst (v := 0) hx hb dX4_answered_62 (by decide) ?_
            refine lv_istore (lv' := [(8, .int 0), (7, .int 0), (4, .int x8), (6, .int x9), (5, .ref (base + b6)), (0, .ref (base + a0)), (1, .int a1), (2, .int a2), (3, .int a3)]) hx hb dX4_answered_63 hl (by decide) rfl (fun ls hl => ?_)
            refine lv_aload_n hx hb dX4_answered_65 rfl (lv_at hl 5 rfl) ?_
            have k28 : R11 a0 2 = some b1 := (Fr.kp (k := 2) g14 hk_a0 rfl).trans k2
            refine tw_getrk hx hb hW hown hK hS f_X4_13_4 hz_a0 hk_a0 (b := b1) k28 dX4_answered_66 ?_
            refine lv_iload_n hx hb dX4_answered_69 rfl (lv_at hl 6 rfl) ?_
            refine tw_row hx hb hK hS hz_b1 hk_b1 hn_b1 h_a1 ⟨by decide, by decide⟩ dX4_answered_70 (fun b29 k30 hz_b29 hk_b29 hn_b29 => ?_)
            refine lv_iconst (v := 0) hx hb dX4_answered_71 (by decide) ?_
            refine lv_aload hx hb dX4_answered_72 (lv_at hl 4 rfl) ?_
            refine lv_iconst (v := 0) hx hb dX4_answered_74 (by decide) ?_
            refine lv_bipush (v := 10) hx hb dX4_answered_75 (by decide) ?_
            refine tw_copy hx hb (hml.trans hl.1.symm) hW hown hK hS (md_okc w_5_99 rfl (md_okc w_3_226 rfl (md_okc w_3_225 rfl (md_okc w_1_18 rfl (md_ok0))))) hz_b6 hk_b6 (Or.inr (by decide)) hz_b29 hk_b29 (Or.inr (by decide)) hn_b6 hn_b29 (by have := ((iv_c (c := 10) (n := 10) (by decide))).1; have := ((iv_c (c := 10) (n := 10) (by decide))).2; have := ((iv_c (c := 0) (n := 0) (by decide))).1; have := ((iv_c (c := 0) (n := 0) (by decide))).2; have := ((iv_c (c := 0) (n := 0) (by decide))).1; have := ((iv_c (c := 0) (n := 0) (by decide))).2; omega) (by have := ((iv_c (c := 10) (n := 10) (by decide))).1; have := ((iv_c (c := 10) (n := 10) (by decide))).2; have := ((iv_c (c := 0) (n := 0) (by decide))).1; have := ((iv_c (c := 0) (n := 0) (by decide))).2; have := ((iv_c (c := 0) (n := 0) (by decide))).1; have := ((iv_c (c := 0) (n := 0) (by decide))).2; omega) (by have := ((iv_c (c := 10) (n := 10) (by decide))).1; have := ((iv_c (c := 10) (n := 10) (by decide))).2; have := ((iv_c (c := 0) (n := 0) (by decide))).1; have := ((iv_c (c := 0) (n := 0) (by decide))).2; have := ((iv_c (c := 0) (n := 0) (by decide))).1; have := ((iv_c (c := 0) (n := 0) (by decide))).2; omega) (by have := ((iv_c (c := 10) (n := 10) (by decide))).1; have := ((iv_c (c := 10) (n := 10) (by decide))).2; have := ((iv_c (c := 0) (n := 0) (by decide))).1; have := ((iv_c (c := 0) (n := 0) (by decide))).2; have := ((iv_c (c := 0) (n := 0) (by decide))).1; have := ((iv_c (c := 0) (n := 0) (by decide))).2; omega) (by have := ((iv_c (c := 10) (n := 10) (by decide))).1; have := ((iv_c (c := 10) (n := 10) (by decide))).2; have := ((iv_c (c := 0) (n := 0) (by decide))).1; have := ((iv_c (c := 0) (n := 0) (by decide))).2; have := ((iv_c (c := 0) (n := 0) (by decide))).1; have := ((iv_c (c := 0) (n := 0) (by decide))).2; omega) (fun _ _ => ⟨by show (-2147483648 : Int) ≤ -2147483648; decide, by show (2147483647 : Int) ≤ 2147483647; decide⟩) (by simp only [md_rm]; omega) (Nat.le_trans (m := 40) (Nat.le_of_ble_eq_true rfl) (by simp only [md_rm]; omega)) rfl dX4_answered_77 (fun H locs M33 hS f31 k32 => ?_)
            refine lv_aload_n hx hb dX4_answered_80 rfl (lv_at hl 5 rfl) ?_
            refine tw_getr hx hb hW hown hK hS f_X4_24_4 hz_a0 hk_a0 (t := 6) (n := 0) rfl dX4_answered_81 (fun b34 k35 hz_b34 hk_b34 hn_b34 => ?_)
            refine lv_aload hx hb dX4_answered_84 (lv_at hl 4 rfl) ?_
            refine lv_iload_n hx hb dX4_answered_86 rfl (lv_at hl 7 rfl) ?_
            refine lv_iload hx hb dX4_answered_87 (lv_at hl 1 rfl) ?_
            refine lv_ior hx hb dX4_answered_89 ?_
            refine tw_top (fun x37 => ?_)
            have h36 := iv_any x37
            refine lv_iload_n hx hb dX4_answered_90 rfl (lv_at hl 8 rfl) ?_
            refine lv_iload hx hb dX4_answered_91 (lv_at hl 0 rfl) ?_
            refine lv_ior hx hb dX4_answered_93 ?_
            refine tw_top (fun x39 => ?_)
            have h38 := iv_any x39
            refine tw_goi hS (md_runV (As := [.ref (base + b6), .int x37, .int x39]) (rest := []) hx hb hml hown hW hK hT hS.1 (t_X5_hold l D cy tx base Z K N M33 R11 J12 hS.2.1 b34 hz_b34 hk_b34 b6 hz_b6 hk_b6 hn_b6 x37 h36 x39 h38) s_X4_101 ⟨rfl, rfl, ⟨by simp only [md_rm]; omega, by simp only [md_rm]; omega⟩, ⟨Nat.le_of_ble_eq_true rfl, Nat.le_of_ble_eq_true rfl⟩⟩ hz_b34 hk_b34 (by decide) rfl rfl hl.1 rfl (Nat.le_of_ble_eq_true rfl) dX4_answered_94) rfl rfl (fun x46 H locs M43 R44 J42 hS f40 g41 E45 => ?_)
            have eR44 := Fr.nil g41 rfl
            subst eR44
            have h_x46 := E45
            clear E45
            refine lv_istore (lv' := [(9, .int x46), (8, .int 0), (7, .int 0), (4, .int x8), (6, .int x9), (5, .ref (base + b6)), (0, .ref (base + a0)), (1, .int a1), (2, .int a2), (3, .int a3)]) hx hb dX4_answered_97 hl (by decide) rfl (fun ls hl => ?_)
            refine lv_iload hx hb dX4_answered_99 (lv_at hl 0 rfl) ?_
            refine lv_iconst (v := 1) hx hb dX4_answered_101 (by decide) ?_
            refine lv_icmp_ne (tgt := 114) hx hb dX4_answered_102 (by decide) (fun c47 => ?_) (fun c47 => ?_)
            · have q48 : ¬ x46.toInt = 1 := ti_ne c47
              refine lv_iconst (v := 0) hx hb dX4_answered_114 (by decide) ?_
              refine lv_istore (lv' := [(10, .int 0), (9, .int x46), (8, .int 0), (7, .int 0), (4, .int x8), (6, .int x9), (5, .ref (base + b6)), (0, .ref (base + a0)), (1, .int a1), (2, .int a2), (3, .int a3)]) hx hb dX4_answered_115 hl (by decide) rfl (fun ls hl => ?_)
              refine lv_iload hx hb dX4_answered_117 (lv_at hl 4 rfl) ?_
              refine lv_iload hx hb dX4_answered_119 (lv_at hl 0 rfl) ?_
              refine lv_aload_n hx hb dX4_answered_121 rfl (lv_at hl 7 rfl) ?_
              refine lv_iload_n hx hb dX4_answered_122 rfl (lv_at hl 8 rfl) ?_
              refine lv_iconst (v := 1) hx hb dX4_answered_123 (by decide) ?_
              refine tw_iadd (lo := 1) (hi := 4) hx hb h_a1 (iv_c (c := 1) (n := 1) (by decide)) ⟨by decide, by decide⟩ ⟨by decide, by decide⟩ dX4_answered_124 (fun x51 e50 h49 => ?_)
              have e50 : x51.toInt = a1.toInt + 1 := e50
              have hm52 : 4 - x51.toInt < (d : Int) := by
                have := (h_a1).1; have := (h_a1).2; have := (h_a2).1; have := (h_a2).2; have := (h_a3).1; have := (h_a3).2; have := (h3).1; have := (h3).2; have := (h49).1; have := (h49).2; omega
              refine tw_goi hS (md_runV (As := [.int x51]) (rest := [.int 0, .int x8]) hx hb hml hown hW hK hT hS.1 (ih M43 R11 J42 hS.2.1 a0 hz_a0 hk_a0 x51 (iv_mono h49 (by decide) (by decide)) hm52) s_X4_63 ⟨rfl, rfl, ⟨by simp only [md_rm]; omega, by simp only [md_rm]; omega⟩, ⟨Nat.le_of_ble_eq_true rfl, Nat.le_of_ble_eq_true rfl⟩⟩ hz_a0 hk_a0 (by decide) rfl rfl hl.1 rfl (Nat.le_of_ble_eq_true rfl) dX4_answered_125) rfl rfl (fun x59 H locs M56 R57 J55 hS f53 g54 E58 => ?_)
              have h_x59 := E58
              clear E58
              refine tw_iadd (lo := (-1000000000)) (hi := 1000000000) hx hb (iv_c (c := 0) (n := 0) (by decide)) h_x59 ⟨by decide, by decide⟩ ⟨by decide, by decide⟩ dX4_answered_128 (fun x62 e61 h60 => ?_)
              have e61 : x62.toInt = 0 + x59.toInt := e61
              refine va_mmin hx hb (hml.trans hl.1.symm) hown (hW _ w_5_93 rfl) (hW _ w_3_86 rfl) (hW _ w_1_13 rfl) (hW _ w_3_87 rfl) (by simp only [md_rm]; omega) (Nat.le_trans (m := 40) (Nat.le_of_ble_eq_true rfl) (by simp only [md_rm]; omega)) (Nat.le_of_ble_eq_true rfl) (Nat.le_of_ble_eq_true rfl) dX4_answered_129 ?_
              refine tw_mmin (lo := (-2147483648)) (hi := 1000000000) h_x8 h60 (by decide) (fun x65 e64 h63 => ?_)
              refine lv_istore (lv' := [(4, .int x65), (10, .int 0), (9, .int x46), (8, .int 0), (7, .int 0), (6, .int x9), (5, .ref (base + b6)), (0, .ref (base + a0)), (1, .int a1), (2, .int a2), (3, .int a3)]) hx hb dX4_answered_132 hl (by decide) rfl (fun ls hl => ?_)
              refine tw_iinc (lv' := fun x68 => [(6, .int x68), (4, .int x65), (10, .int 0), (9, .int x46), (8, .int 0), (7, .int 0), (5, .ref (base + b6)), (0, .ref (base + a0)), (1, .int a1), (2, .int a2), (3, .int a3)]) (lo := 1) (hi := 3) hx hb dX4_answered_134 hl (k := 5) rfl h19 (by decide) ⟨by decide, by decide⟩ ⟨by decide, by decide⟩ (by decide) (fun _ => rfl) (fun x68 ls e67 h66 hl => ?_)
              refine lv_goto (tgt := 17) hx hb dX4_answered_137 (by decide) ?_
              have hm69 : 3 - x68.toInt < (n_10 : Int) := by
                have := (h_a1).1; have := (h_a1).2; have := (h_a2).1; have := (h_a2).2; have := (h_a3).1; have := (h_a3).2; have := (h66).1; have := (h66).2; have := (h19).1; have := (h19).2; omega
              exact ih_10 x65 x68 M56 R57 J55 H locs _ h63 (iv_mono h66 (by decide) (by decide)) hm69 hS (lv_sub hl [1, 0, 6, 7, 8, 9, 10] rfl)
            · have q70 : x46.toInt = 1 := ti_eq c47
              have h71 : iv 1 1 x46 := ⟨by have := (h_x46).1; have := ((iv_c (c := 1) (n := 1) (by decide))).1; omega, by have := (h_x46).2; have := ((iv_c (c := 1) (n := 1) (by decide))).2; omega⟩
              refine lv_aload_n hx hb dX4_answered_105 rfl (lv_at hl 6 rfl) ?_
              refine tw_getr hx hb hW hown hK hS f_X4_16_4 hz_a0 hk_a0 (t := 14) (n := 4) rfl dX4_answered_106 (fun b72 k73 hz_b72 hk_b72 hn_b72 => ?_)
              have hn_b72 := hn_b72 (by decide)
              refine lv_iload_n hx hb dX4_answered_109 rfl (lv_at hl 7 rfl) ?_
              refine tw_iald hx hb hK hS hz_b72 hk_b72 (Or.inl rfl) hn_b72 (lo := (-2147483648)) (hi := 2147483647) h_a1 ⟨by decide, by decide⟩ rg_u14 dX4_answered_110 (fun x76 k75 h74 => ?_)
              refine lv_goto (tgt := 115) hx hb dX4_answered_111 (by decide) ?_
              refine lv_istore (lv' := [(10, .int x76), (9, .int x46), (8, .int 0), (7, .int 0), (4, .int x8), (6, .int x9), (5, .ref (base + b6)), (0, .ref (base + a0)), (1, .int a1), (2, .int a2), (3, .int a3)]) hx hb dX4_answered_115 hl (by decide) rfl (fun ls hl => ?_)
              refine lv_iload hx hb dX4_answered_117 (lv_at hl 4 rfl) ?_
              refine lv_iload hx hb dX4_answered_119 (lv_at hl 0 rfl) ?_
              refine lv_aload_n hx hb dX4_answered_121 rfl (lv_at hl 7 rfl) ?_
              refine lv_iload_n hx hb dX4_answered_122 rfl (lv_at hl 8 rfl) ?_
              refine lv_iconst (v := 1) hx hb dX4_answered_123 (by decide) ?_
              refine tw_iadd (lo := 1) (hi := 4) hx hb h_a1 (iv_c (c := 1) (n := 1) (by decide)) ⟨by decide, by decide⟩ ⟨by decide, by decide⟩ dX4_answered_124 (fun x79 e78 h77 => ?_)
              have e78 : x79.toInt = a1.toInt + 1 := e78
              have hm80 : 4 - x79.toInt < (d : Int) := by
                have := (h_a1).1; have := (h_a1).2; have := (h_a2).1; have := (h_a2).2; have := (h_a3).1; have := (h_a3).2; have := (h3).1; have := (h3).2; have := (h77).1; have := (h77).2; omega
              refine tw_goi hS (md_runV (As := [.int x79]) (rest := [.int x76, .int x8]) hx hb hml hown hW hK hT hS.1 (ih M43 R11 J42 hS.2.1 a0 hz_a0 hk_a0 x79 (iv_mono h77 (by decide) (by decide)) hm80) s_X4_63 ⟨rfl, rfl, ⟨by simp only [md_rm]; omega, by simp only [md_rm]; omega⟩, ⟨Nat.le_of_ble_eq_true rfl, Nat.le_of_ble_eq_true rfl⟩⟩ hz_a0 hk_a0 (by decide) rfl rfl hl.1 rfl (Nat.le_of_ble_eq_true rfl) dX4_answered_125) rfl rfl (fun x87 H locs M84 R85 J83 hS f81 g82 E86 => ?_)
              have h_x87 := E86
              clear E86
              refine lv_iadd hx hb dX4_answered_128 ?_
              refine tw_top (fun x89 => ?_)
              have h88 := iv_any x89
              refine va_mmin hx hb (hml.trans hl.1.symm) hown (hW _ w_5_93 rfl) (hW _ w_3_86 rfl) (hW _ w_1_13 rfl) (hW _ w_3_87 rfl) (by simp only [md_rm]; omega) (Nat.le_trans (m := 40) (Nat.le_of_ble_eq_true rfl) (by simp only [md_rm]; omega)) (Nat.le_of_ble_eq_true rfl) (Nat.le_of_ble_eq_true rfl) dX4_answered_129 ?_
              refine tw_mmin (lo := (-2147483648)) (hi := 1000000000) h_x8 h88 (by decide) (fun x92 e91 h90 => ?_)
              refine lv_istore (lv' := [(4, .int x92), (10, .int x76), (9, .int x46), (8, .int 0), (7, .int 0), (6, .int x9), (5, .ref (base + b6)), (0, .ref (base + a0)), (1, .int a1), (2, .int a2), (3, .int a3)]) hx hb dX4_answered_132 hl (by decide) rfl (fun ls hl => ?_)
              refine tw_iinc (lv' := fun x95 => [(6, .int x95), (4, .int x92), (10, .int x76), (9, .int x46), (8, .int 0), (7, .int 0), (5, .ref (base + b6)), (0, .ref (base + a0)), (1, .int a1), (2, .int a2), (3, .int a3)]) (lo := 1) (hi := 3) hx hb dX4_answered_134 hl (k := 5) rfl h19 (by decide) ⟨by decide, by decide⟩ ⟨by decide, by decide⟩ (by decide) (fun _ => rfl) (fun x95 ls e94 h93 hl => ?_)
              refine lv_goto (tgt := 17) hx hb dX4_answered_137 (by decide) ?_
              have hm96 : 3 - x95.toInt < (n_10 : Int) := by
                have := (h_a1).1; have := (h_a1).2; have := (h_a2).1; have := (h_a2).2; have := (h_a3).1; have := (h_a3).2; have := (h19).1; have := (h19).2; have := (h93).1; have := (h93).2; omega
              exact ih_10 x92 x95 M84 R85 J83 H locs _ h90 (iv_mono h93 (by decide) (by decide)) hm96 hS (lv_sub hl [1, 0, 6, 7, 8, 9, 10] rfl)
          · have q97 : x25.toInt = 0 := ti_eq c26
            have h98 : iv 0 0 x25 := ⟨by have := (h24).1; have := ((iv_c (c := 0) (n := 0) (by decide))).1; omega, by have := (h24).2; have := ((iv_c (c := 0) (n := 0) (by decide))).2; omega⟩
            refine lv_aload_n hx hb dX4_answered_55 rfl (lv_at hl 4 rfl) ?_
            refine tw_geti hx hb hW hown hK hS f_X4_32_4 hz_a0 hk_a0 (lo := (-2147483648)) (hi := 2147483647) rfl dX4_answered_56 (fun x101 k100 h99 => ?_)
            refine lv_goto (tgt := 63) hx hb dX4_answered_59 (by decide) ?_
            refine lv_istore (lv' := [(8, .int x101), (7, .int 0), (4, .int x8), (6, .int x9), (5, .ref (base + b6)), (0, .ref (base + a0)), (1, .int a1), (2, .int a2), (3, .int a3)]) hx hb dX4_answered_63 hl (by decide) rfl (fun ls hl => ?_)
            refine lv_aload_n hx hb dX4_answered_65 rfl (lv_at hl 5 rfl) ?_
            have k102 : R11 a0 2 = some b1 := (Fr.kp (k := 2) g14 hk_a0 rfl).trans k2
            refine tw_getrk hx hb hW hown hK hS f_X4_13_4 hz_a0 hk_a0 (b := b1) k102 dX4_answered_66 ?_
            refine lv_iload_n hx hb dX4_answered_69 rfl (lv_at hl 6 rfl) ?_
            refine tw_row hx hb hK hS hz_b1 hk_b1 hn_b1 h_a1 ⟨by decide, by decide⟩ dX4_answered_70 (fun b103 k104 hz_b103 hk_b103 hn_b103 => ?_)
            refine lv_iconst (v := 0) hx hb dX4_answered_71 (by decide) ?_
            refine lv_aload hx hb dX4_answered_72 (lv_at hl 4 rfl) ?_
            refine lv_iconst (v := 0) hx hb dX4_answered_74 (by decide) ?_
            refine lv_bipush (v := 10) hx hb dX4_answered_75 (by decide) ?_
            refine tw_copy hx hb (hml.trans hl.1.symm) hW hown hK hS (md_okc w_5_99 rfl (md_okc w_3_226 rfl (md_okc w_3_225 rfl (md_okc w_1_18 rfl (md_ok0))))) hz_b6 hk_b6 (Or.inr (by decide)) hz_b103 hk_b103 (Or.inr (by decide)) hn_b6 hn_b103 (by have := ((iv_c (c := 10) (n := 10) (by decide))).1; have := ((iv_c (c := 10) (n := 10) (by decide))).2; have := ((iv_c (c := 0) (n := 0) (by decide))).1; have := ((iv_c (c := 0) (n := 0) (by decide))).2; have := ((iv_c (c := 0) (n := 0) (by decide))).1; have := ((iv_c (c := 0) (n := 0) (by decide))).2; omega) (by have := ((iv_c (c := 10) (n := 10) (by decide))).1; have := ((iv_c (c := 10) (n := 10) (by decide))).2; have := ((iv_c (c := 0) (n := 0) (by decide))).1; have := ((iv_c (c := 0) (n := 0) (by decide))).2; have := ((iv_c (c := 0) (n := 0) (by decide))).1; have := ((iv_c (c := 0) (n := 0) (by decide))).2; omega) (by have := ((iv_c (c := 10) (n := 10) (by decide))).1; have := ((iv_c (c := 10) (n := 10) (by decide))).2; have := ((iv_c (c := 0) (n := 0) (by decide))).1; have := ((iv_c (c := 0) (n := 0) (by decide))).2; have := ((iv_c (c := 0) (n := 0) (by decide))).1; have := ((iv_c (c := 0) (n := 0) (by decide))).2; omega) (by have := ((iv_c (c := 10) (n := 10) (by decide))).1; have := ((iv_c (c := 10) (n := 10) (by decide))).2; have := ((iv_c (c := 0) (n := 0) (by decide))).1; have := ((iv_c (c := 0) (n := 0) (by decide))).2; have := ((iv_c (c := 0) (n := 0) (by decide))).1; have := ((iv_c (c := 0) (n := 0) (by decide))).2; omega) (by have := ((iv_c (c := 10) (n := 10) (by decide))).1; have := ((iv_c (c := 10) (n := 10) (by decide))).2; have := ((iv_c (c := 0) (n := 0) (by decide))).1; have := ((iv_c (c := 0) (n := 0) (by decide))).2; have := ((iv_c (c := 0) (n := 0) (by decide))).1; have := ((iv_c (c := 0) (n := 0) (by decide))).2; omega) (fun _ _ => ⟨by show (-2147483648 : Int) ≤ -2147483648; decide, by show (2147483647 : Int) ≤ 2147483647; decide⟩) (by simp only [md_rm]; omega) (Nat.le_trans (m := 40) (Nat.le_of_ble_eq_true rfl) (by simp only [md_rm]; omega)) rfl dX4_answered_77 (fun H locs M107 hS f105 k106 => ?_)
            refine lv_aload_n hx hb dX4_answered_80 rfl (lv_at hl 5 rfl) ?_
            refine tw_getr hx hb hW hown hK hS f_X4_24_4 hz_a0 hk_a0 (t := 6) (n := 0) rfl dX4_answered_81 (fun b108 k109 hz_b108 hk_b108 hn_b108 => ?_)
            refine lv_aload hx hb dX4_answered_84 (lv_at hl 4 rfl) ?_
            refine lv_iload_n hx hb dX4_answered_86 rfl (lv_at hl 7 rfl) ?_
            refine lv_iload hx hb dX4_answered_87 (lv_at hl 1 rfl) ?_
            refine lv_ior hx hb dX4_answered_89 ?_
            refine tw_top (fun x111 => ?_)
            have h110 := iv_any x111
            refine lv_iload_n hx hb dX4_answered_90 rfl (lv_at hl 8 rfl) ?_
            refine lv_iload hx hb dX4_answered_91 (lv_at hl 0 rfl) ?_
            refine lv_ior hx hb dX4_answered_93 ?_
            refine tw_top (fun x113 => ?_)
            have h112 := iv_any x113
            refine tw_goi hS (md_runV (As := [.ref (base + b6), .int x111, .int x113]) (rest := []) hx hb hml hown hW hK hT hS.1 (t_X5_hold l D cy tx base Z K N M107 R11 J12 hS.2.1 b108 hz_b108 hk_b108 b6 hz_b6 hk_b6 hn_b6 x111 h110 x113 h112) s_X4_101 ⟨rfl, rfl, ⟨by simp only [md_rm]; omega, by simp only [md_rm]; omega⟩, ⟨Nat.le_of_ble_eq_true rfl, Nat.le_of_ble_eq_true rfl⟩⟩ hz_b108 hk_b108 (by decide) rfl rfl hl.1 rfl (Nat.le_of_ble_eq_true rfl) dX4_answered_94) rfl rfl (fun x120 H locs M117 R118 J116 hS f114 g115 E119 => ?_)
            have eR118 := Fr.nil g115 rfl
            subst eR118
            have h_x120 := E119
            clear E119
            refine lv_istore (lv' := [(9, .int x120), (8, .int x101), (7, .int 0), (4, .int x8), (6, .int x9), (5, .ref (base + b6)), (0, .ref (base + a0)), (1, .int a1), (2, .int a2), (3, .int a3)]) hx hb dX4_answered_97 hl (by decide) rfl (fun ls hl => ?_)
            refine lv_iload hx hb dX4_answered_99 (lv_at hl 0 rfl) ?_
            refine lv_iconst (v := 1) hx hb dX4_answered_101 (by decide) ?_
            refine lv_icmp_ne (tgt := 114) hx hb dX4_answered_102 (by decide) (fun c121 => ?_) (fun c121 => ?_)
            · have q122 : ¬ x120.toInt = 1 := ti_ne c121
              refine lv_iconst (v := 0) hx hb dX4_answered_114 (by decide) ?_
              refine lv_istore (lv' := [(10, .int 0), (9, .int x120), (8, .int x101), (7, .int 0), (4, .int x8), (6, .int x9), (5, .ref (base + b6)), (0, .ref (base + a0)), (1, .int a1), (2, .int a2), (3, .int a3)]) hx hb dX4_answered_115 hl (by decide) rfl (fun ls hl => ?_)
              refine lv_iload hx hb dX4_answered_117 (lv_at hl 4 rfl) ?_
              refine lv_iload hx hb dX4_answered_119 (lv_at hl 0 rfl) ?_
              refine lv_aload_n hx hb dX4_answered_121 rfl (lv_at hl 7 rfl) ?_
              refine lv_iload_n hx hb dX4_answered_122 rfl (lv_at hl 8 rfl) ?_
              refine lv_iconst (v := 1) hx hb dX4_answered_123 (by decide) ?_
              refine tw_iadd (lo := 1) (hi := 4) hx hb h_a1 (iv_c (c := 1) (n := 1) (by decide)) ⟨by decide, by decide⟩ ⟨by decide, by decide⟩ dX4_answered_124 (fun x125 e124 h123 => ?_)
              have e124 : x125.toInt = a1.toInt + 1 := e124
              have hm126 : 4 - x125.toInt < (d : Int) := by
                have := (h_a1).1; have := (h_a1).2; have := (h_a2).1; have := (h_a2).2; have := (h_a3).1; have := (h_a3).2; have := (h123).1; have := (h123).2; have := (h3).1; have := (h3).2; omega
              refine tw_goi hS (md_runV (As := [.int x125]) (rest := [.int 0, .int x8]) hx hb hml hown hW hK hT hS.1 (ih M117 R11 J116 hS.2.1 a0 hz_a0 hk_a0 x125 (iv_mono h123 (by decide) (by decide)) hm126) s_X4_63 ⟨rfl, rfl, ⟨by simp only [md_rm]; omega, by simp only [md_rm]; omega⟩, ⟨Nat.le_of_ble_eq_true rfl, Nat.le_of_ble_eq_true rfl⟩⟩ hz_a0 hk_a0 (by decide) rfl rfl hl.1 rfl (Nat.le_of_ble_eq_true rfl) dX4_answered_125) rfl rfl (fun x133 H locs M130 R131 J129 hS f127 g128 E132 => ?_)
              have h_x133 := E132
              clear E132
              refine tw_iadd (lo := (-1000000000)) (hi := 1000000000) hx hb (iv_c (c := 0) (n := 0) (by decide)) h_x133 ⟨by decide, by decide⟩ ⟨by decide, by decide⟩ dX4_answered_128 (fun x136 e135 h134 => ?_)
              have e135 : x136.toInt = 0 + x133.toInt := e135
              refine va_mmin hx hb (hml.trans hl.1.symm) hown (hW _ w_5_93 rfl) (hW _ w_3_86 rfl) (hW _ w_1_13 rfl) (hW _ w_3_87 rfl) (by simp only [md_rm]; omega) (Nat.le_trans (m := 40) (Nat.le_of_ble_eq_true rfl) (by simp only [md_rm]; omega)) (Nat.le_of_ble_eq_true rfl) (Nat.le_of_ble_eq_true rfl) dX4_answered_129 ?_
              refine tw_mmin (lo := (-2147483648)) (hi := 1000000000) h_x8 h134 (by decide) (fun x139 e138 h137 => ?_)
              refine lv_istore (lv' := [(4, .int x139), (10, .int 0), (9, .int x120), (8, .int x101), (7, .int 0), (6, .int x9), (5, .ref (base + b6)), (0, .ref (base + a0)), (1, .int a1), (2, .int a2), (3, .int a3)]) hx hb dX4_answered_132 hl (by decide) rfl (fun ls hl => ?_)
              refine tw_iinc (lv' := fun x142 => [(6, .int x142), (4, .int x139), (10, .int 0), (9, .int x120), (8, .int x101), (7, .int 0), (5, .ref (base + b6)), (0, .ref (base + a0)), (1, .int a1), (2, .int a2), (3, .int a3)]) (lo := 1) (hi := 3) hx hb dX4_answered_134 hl (k := 5) rfl h19 (by decide) ⟨by decide, by decide⟩ ⟨by decide, by decide⟩ (by decide) (fun _ => rfl) (fun x142 ls e141 h140 hl => ?_)
              refine lv_goto (tgt := 17) hx hb dX4_answered_137 (by decide) ?_
              have hm143 : 3 - x142.toInt < (n_10 : Int) := by
                have := (h_a1).1; have := (h_a1).2; have := (h_a2).1; have := (h_a2).2; have := (h_a3).1; have := (h_a3).2; have := (h140).1; have := (h140).2; have := (h19).1; have := (h19).2; omega
              exact ih_10 x139 x142 M130 R131 J129 H locs _ h137 (iv_mono h140 (by decide) (by decide)) hm143 hS (lv_sub hl [1, 0, 6, 7, 8, 9, 10] rfl)
            · have q144 : x120.toInt = 1 := ti_eq c121
              have h145 : iv 1 1 x120 := ⟨by have := (h_x120).1; have := ((iv_c (c := 1) (n := 1) (by decide))).1; omega, by have := (h_x120).2; have := ((iv_c (c := 1) (n := 1) (by decide))).2; omega⟩
              refine lv_aload_n hx hb dX4_answered_105 rfl (lv_at hl 6 rfl) ?_
              refine tw_getr hx hb hW hown hK hS f_X4_16_4 hz_a0 hk_a0 (t := 14) (n := 4) rfl dX4_answered_106 (fun b146 k147 hz_b146 hk_b146 hn_b146 => ?_)
              have hn_b146 := hn_b146 (by decide)
              refine lv_iload_n hx hb dX4_answered_109 rfl (lv_at hl 7 rfl) ?_
              refine tw_iald hx hb hK hS hz_b146 hk_b146 (Or.inl rfl) hn_b146 (lo := (-2147483648)) (hi := 2147483647) h_a1 ⟨by decide, by decide⟩ rg_u14 dX4_answered_110 (fun x150 k149 h148 => ?_)
              refine lv_goto (tgt := 115) hx hb dX4_answered_111 (by decide) ?_
              refine lv_istore (lv' := [(10, .int x150), (9, .int x120), (8, .int x101), (7, .int 0), (4, .int x8), (6, .int x9), (5, .ref (base + b6)), (0, .ref (base + a0)), (1, .int a1), (2, .int a2), (3, .int a3)]) hx hb dX4_answered_115 hl (by decide) rfl (fun ls hl => ?_)
              refine lv_iload hx hb dX4_answered_117 (lv_at hl 4 rfl) ?_
              refine lv_iload hx hb dX4_answered_119 (lv_at hl 0 rfl) ?_
              refine lv_aload_n hx hb dX4_answered_121 rfl (lv_at hl 7 rfl) ?_
              refine lv_iload_n hx hb dX4_answered_122 rfl (lv_at hl 8 rfl) ?_
              refine lv_iconst (v := 1) hx hb dX4_answered_123 (by decide) ?_
              refine tw_iadd (lo := 1) (hi := 4) hx hb h_a1 (iv_c (c := 1) (n := 1) (by decide)) ⟨by decide, by decide⟩ ⟨by decide, by decide⟩ dX4_answered_124 (fun x153 e152 h151 => ?_)
              have e152 : x153.toInt = a1.toInt + 1 := e152
              have hm154 : 4 - x153.toInt < (d : Int) := by
                have := (h_a1).1; have := (h_a1).2; have := (h_a2).1; have := (h_a2).2; have := (h_a3).1; have := (h_a3).2; have := (h151).1; have := (h151).2; have := (h3).1; have := (h3).2; omega
              refine tw_goi hS (md_runV (As := [.int x153]) (rest := [.int x150, .int x8]) hx hb hml hown hW hK hT hS.1 (ih M117 R11 J116 hS.2.1 a0 hz_a0 hk_a0 x153 (iv_mono h151 (by decide) (by decide)) hm154) s_X4_63 ⟨rfl, rfl, ⟨by simp only [md_rm]; omega, by simp only [md_rm]; omega⟩, ⟨Nat.le_of_ble_eq_true rfl, Nat.le_of_ble_eq_true rfl⟩⟩ hz_a0 hk_a0 (by decide) rfl rfl hl.1 rfl (Nat.le_of_ble_eq_true rfl) dX4_answered_125) rfl rfl (fun x161 H locs M158 R159 J157 hS f155 g156 E160 => ?_)
              have h_x161 := E160
              clear E160
              refine lv_iadd hx hb dX4_answered_128 ?_
              refine tw_top (fun x163 => ?_)
              have h162 := iv_any x163
              refine va_mmin hx hb (hml.trans hl.1.symm) hown (hW _ w_5_93 rfl) (hW _ w_3_86 rfl) (hW _ w_1_13 rfl) (hW _ w_3_87 rfl) (by simp only [md_rm]; omega) (Nat.le_trans (m := 40) (Nat.le_of_ble_eq_true rfl) (by simp only [md_rm]; omega)) (Nat.le_of_ble_eq_true rfl) (Nat.le_of_ble_eq_true rfl) dX4_answered_129 ?_
              refine tw_mmin (lo := (-2147483648)) (hi := 1000000000) h_x8 h162 (by decide) (fun x166 e165 h164 => ?_)
              refine lv_istore (lv' := [(4, .int x166), (10, .int x150), (9, .int x120), (8, .int x101), (7, .int 0), (6, .int x9), (5, .ref (base + b6)), (0, .ref (base + a0)), (1, .int a1), (2, .int a2), (3, .int a3)]) hx hb dX4_answered_132 hl (by decide) rfl (fun ls hl => ?_)
              refine tw_iinc (lv' := fun x169 => [(6, .int x169), (4, .int x166), (10, .int x150), (9, .int x120), (8, .int x101), (7, .int 0), (5, .ref (base + b6)), (0, .ref (base + a0)), (1, .int a1), (2, .int a2), (3, .int a3)]) (lo := 1) (hi := 3) hx hb dX4_answered_134 hl (k := 5) rfl h19 (by decide) ⟨by decide, by decide⟩ ⟨by decide, by decide⟩ (by decide) (fun _ => rfl) (fun x169 ls e168 h167 hl => ?_)
              refine lv_goto (tgt := 17) hx hb dX4_answered_137 (by decide) ?_
              have hm170 : 3 - x169.toInt < (n_10 : Int) := by
                have := (h_a1).1; have := (h_a1).2; have := (h_a2).1; have := (h_a2).2; have := (h_a3).1; have := (h_a3).2; have := (h167).1; have := (h167).2; have := (h19).1; have := (h19).2; omega
              exact ih_10 x166 x169 M158 R159 J157 H locs _ h164 (iv_mono h167 (by decide) (by decide)) hm170 hS (lv_sub hl [1, 0, 6, 7, 8, 9, 10] rfl)
        · have q171 : x21.toInt = 1 := ti_eq c22
          have h172 : iv 1 1 x21 := ⟨by have := (h20).1; have := ((iv_c (c := 1) (n := 1) (by decide))).1; omega, by have := (h20).2; have := ((iv_c (c := 1) (n := 1) (by decide))).2; omega⟩
          refine lv_aload_n hx hb dX4_answered_36 rfl (lv_at hl 3 rfl) ?_
          refine tw_geti hx hb hW hown hK hS f_X4_32_4 hz_a0 hk_a0 (lo := (-2147483648)) (hi := 2147483647) rfl dX4_answered_37 (fun x175 k174 h173 => ?_)
          refine lv_goto (tgt := 44) hx hb dX4_answered_40 (by decide) ?_
          refine lv_istore (lv' := [(7, .int x175), (4, .int x8), (6, .int x9), (5, .ref (base + b6)), (0, .ref (base + a0)), (1, .int a1), (2, .int a2), (3, .int a3)]) hx hb dX4_answered_44 hl (by decide) rfl (fun ls hl => ?_)
          obtain ⟨sy0, sy1, hY0, hY1⟩ := hT.2.2.2.2
          refine va_getsN hx hb hY0 hS.1.2.2 hown (va_Nw.use rfl hK.2.2.1.2.2.2.2.2.2.1) (fun _ h => h) dX4_answered_46 ?_
          refine lv_iload hx hb dX4_answered_49 (lv_at hl 2 rfl) ?_
          refine va_ti hx hb hY1 hS.1.2.2 (iv_in h19 ⟨by decide, by decide⟩) rfl dX4_answered_51 ?_
          refine tw_top (fun x177 => ?_)
          have h176 := iv_any x177
          refine lv_if_ne (tgt := 62) hx hb dX4_answered_52 (by decide) (fun c178 => ?_) (fun c178 => ?_)
          · have q179 : ¬ x177.toInt = 0 := ti_ne c178
            refine lv_iconst (v := 0) hx hb dX4_answered_62 (by decide) ?_
            refine lv_istore (lv' := [(8, .int 0), (7, .int x175), (4, .int x8), (6, .int x9), (5, .ref (base + b6)), (0, .ref (base + a0)), (1, .int a1), (2, .int a2), (3, .int a3)]) hx hb dX4_answered_63 hl (by decide) rfl (fun ls hl => ?_)
            refine lv_aload_n hx hb dX4_answered_65 rfl (lv_at hl 5 rfl) ?_
            have k180 : R11 a0 2 = some b1 := (Fr.kp (k := 2) g14 hk_a0 rfl).trans k2
            refine tw_getrk hx hb hW hown hK hS f_X4_13_4 hz_a0 hk_a0 (b := b1) k180 dX4_answered_66 ?_
            refine lv_iload_n hx hb dX4_answered_69 rfl (lv_at hl 6 rfl) ?_
            refine tw_row hx hb hK hS hz_b1 hk_b1 hn_b1 h_a1 ⟨by decide, by decide⟩ dX4_answered_70 (fun b181 k182 hz_b181 hk_b181 hn_b181 => ?_)
            refine lv_iconst (v := 0) hx hb dX4_answered_71 (by decide) ?_
            refine lv_aload hx hb dX4_answered_72 (lv_at hl 4 rfl) ?_
            refine lv_iconst (v := 0) hx hb dX4_answered_74 (by decide) ?_
            refine lv_bipush (v := 10) hx hb dX4_answered_75 (by decide) ?_
            refine tw_copy hx hb (hml.trans hl.1.symm) hW hown hK hS (md_okc w_5_99 rfl (md_okc w_3_226 rfl (md_okc w_3_225 rfl (md_okc w_1_18 rfl (md_ok0))))) hz_b6 hk_b6 (Or.inr (by decide)) hz_b181 hk_b181 (Or.inr (by decide)) hn_b6 hn_b181 (by have := ((iv_c (c := 10) (n := 10) (by decide))).1; have := ((iv_c (c := 10) (n := 10) (by decide))).2; have := ((iv_c (c := 0) (n := 0) (by decide))).1; have := ((iv_c (c := 0) (n := 0) (by decide))).2; have := ((iv_c (c := 0) (n := 0) (by decide))).1; have := ((iv_c (c := 0) (n := 0) (by decide))).2; omega) (by have := ((iv_c (c := 10) (n := 10) (by decide))).1; have := ((iv_c (c := 10) (n := 10) (by decide))).2; have := ((iv_c (c := 0) (n := 0) (by decide))).1; have := ((iv_c (c := 0) (n := 0) (by decide))).2; have := ((iv_c (c := 0) (n := 0) (by decide))).1; have := ((iv_c (c := 0) (n := 0) (by decide))).2; omega) (by have := ((iv_c (c := 10) (n := 10) (by decide))).1; have := ((iv_c (c := 10) (n := 10) (by decide))).2; have := ((iv_c (c := 0) (n := 0) (by decide))).1; have := ((iv_c (c := 0) (n := 0) (by decide))).2; have := ((iv_c (c := 0) (n := 0) (by decide))).1; have := ((iv_c (c := 0) (n := 0) (by decide))).2; omega) (by have := ((iv_c (c := 10) (n := 10) (by decide))).1; have := ((iv_c (c := 10) (n := 10) (by decide))).2; have := ((iv_c (c := 0) (n := 0) (by decide))).1; have := ((iv_c (c := 0) (n := 0) (by decide))).2; have := ((iv_c (c := 0) (n := 0) (by decide))).1; have := ((iv_c (c := 0) (n := 0) (by decide))).2; omega) (by have := ((iv_c (c := 10) (n := 10) (by decide))).1; have := ((iv_c (c := 10) (n := 10) (by decide))).2; have := ((iv_c (c := 0) (n := 0) (by decide))).1; have := ((iv_c (c := 0) (n := 0) (by decide))).2; have := ((iv_c (c := 0) (n := 0) (by decide))).1; have := ((iv_c (c := 0) (n := 0) (by decide))).2; omega) (fun _ _ => ⟨by show (-2147483648 : Int) ≤ -2147483648; decide, by show (2147483647 : Int) ≤ 2147483647; decide⟩) (by simp only [md_rm]; omega) (Nat.le_trans (m := 40) (Nat.le_of_ble_eq_true rfl) (by simp only [md_rm]; omega)) rfl dX4_answered_77 (fun H locs M185 hS f183 k184 => ?_)
            refine lv_aload_n hx hb dX4_answered_80 rfl (lv_at hl 5 rfl) ?_
            refine tw_getr hx hb hW hown hK hS f_X4_24_4 hz_a0 hk_a0 (t := 6) (n := 0) rfl dX4_answered_81 (fun b186 k187 hz_b186 hk_b186 hn_b186 => ?_)
            refine lv_aload hx hb dX4_answered_84 (lv_at hl 4 rfl) ?_
            refine lv_iload_n hx hb dX4_answered_86 rfl (lv_at hl 7 rfl) ?_
            refine lv_iload hx hb dX4_answered_87 (lv_at hl 1 rfl) ?_
            refine lv_ior hx hb dX4_answered_89 ?_
            refine tw_top (fun x189 => ?_)
            have h188 := iv_any x189
            refine lv_iload_n hx hb dX4_answered_90 rfl (lv_at hl 8 rfl) ?_
            refine lv_iload hx hb dX4_answered_91 (lv_at hl 0 rfl) ?_
            refine lv_ior hx hb dX4_answered_93 ?_
            refine tw_top (fun x191 => ?_)
            have h190 := iv_any x191
            refine tw_goi hS (md_runV (As := [.ref (base + b6), .int x189, .int x191]) (rest := []) hx hb hml hown hW hK hT hS.1 (t_X5_hold l D cy tx base Z K N M185 R11 J12 hS.2.1 b186 hz_b186 hk_b186 b6 hz_b6 hk_b6 hn_b6 x189 h188 x191 h190) s_X4_101 ⟨rfl, rfl, ⟨by simp only [md_rm]; omega, by simp only [md_rm]; omega⟩, ⟨Nat.le_of_ble_eq_true rfl, Nat.le_of_ble_eq_true rfl⟩⟩ hz_b186 hk_b186 (by decide) rfl rfl hl.1 rfl (Nat.le_of_ble_eq_true rfl) dX4_answered_94) rfl rfl (fun x198 H locs M195 R196 J194 hS f192 g193 E197 => ?_)
            have eR196 := Fr.nil g193 rfl
            subst eR196
            have h_x198 := E197
            clear E197
            refine lv_istore (lv' := [(9, .int x198), (8, .int 0), (7, .int x175), (4, .int x8), (6, .int x9), (5, .ref (base + b6)), (0, .ref (base + a0)), (1, .int a1), (2, .int a2), (3, .int a3)]) hx hb dX4_answered_97 hl (by decide) rfl (fun ls hl => ?_)
            refine lv_iload hx hb dX4_answered_99 (lv_at hl 0 rfl) ?_
            refine lv_iconst (v := 1) hx hb dX4_answered_101 (by decide) ?_
            refine lv_icmp_ne (tgt := 114) hx hb dX4_answered_102 (by decide) (fun c199 => ?_) (fun c199 => ?_)
            · have q200 : ¬ x198.toInt = 1 := ti_ne c199
              refine lv_iconst (v := 0) hx hb dX4_answered_114 (by decide) ?_
              refine lv_istore (lv' := [(10, .int 0), (9, .int x198), (8, .int 0), (7, .int x175), (4, .int x8), (6, .int x9), (5, .ref (base + b6)), (0, .ref (base + a0)), (1, .int a1), (2, .int a2), (3, .int a3)]) hx hb dX4_answered_115 hl (by decide) rfl (fun ls hl => ?_)
              refine lv_iload hx hb dX4_answered_117 (lv_at hl 4 rfl) ?_
              refine lv_iload hx hb dX4_answered_119 (lv_at hl 0 rfl) ?_
              refine lv_aload_n hx hb dX4_answered_121 rfl (lv_at hl 7 rfl) ?_
              refine lv_iload_n hx hb dX4_answered_122 rfl (lv_at hl 8 rfl) ?_
              refine lv_iconst (v := 1) hx hb dX4_answered_123 (by decide) ?_
              refine tw_iadd (lo := 1) (hi := 4) hx hb h_a1 (iv_c (c := 1) (n := 1) (by decide)) ⟨by decide, by decide⟩ ⟨by decide, by decide⟩ dX4_answered_124 (fun x203 e202 h201 => ?_)
              have e202 : x203.toInt = a1.toInt + 1 := e202
              have hm204 : 4 - x203.toInt < (d : Int) := by
                have := (h_a1).1; have := (h_a1).2; have := (h_a2).1; have := (h_a2).2; have := (h_a3).1; have := (h_a3).2; have := (h201).1; have := (h201).2; have := (h3).1; have := (h3).2; omega
              refine tw_goi hS (md_runV (As := [.int x203]) (rest := [.int 0, .int x8]) hx hb hml hown hW hK hT hS.1 (ih M195 R11 J194 hS.2.1 a0 hz_a0 hk_a0 x203 (iv_mono h201 (by decide) (by decide)) hm204) s_X4_63 ⟨rfl, rfl, ⟨by simp only [md_rm]; omega, by simp only [md_rm]; omega⟩, ⟨Nat.le_of_ble_eq_true rfl, Nat.le_of_ble_eq_true rfl⟩⟩ hz_a0 hk_a0 (by decide) rfl rfl hl.1 rfl (Nat.le_of_ble_eq_true rfl) dX4_answered_125) rfl rfl (fun x211 H locs M208 R209 J207 hS f205 g206 E210 => ?_)
              have h_x211 := E210
              clear E210
              refine tw_iadd (lo := (-1000000000)) (hi := 1000000000) hx hb (iv_c (c := 0) (n := 0) (by decide)) h_x211 ⟨by decide, by decide⟩ ⟨by decide, by decide⟩ dX4_answered_128 (fun x214 e213 h212 => ?_)
              have e213 : x214.toInt = 0 + x211.toInt := e213
              refine va_mmin hx hb (hml.trans hl.1.symm) hown (hW _ w_5_93 rfl) (hW _ w_3_86 rfl) (hW _ w_1_13 rfl) (hW _ w_3_87 rfl) (by simp only [md_rm]; omega) (Nat.le_trans (m := 40) (Nat.le_of_ble_eq_true rfl) (by simp only [md_rm]; omega)) (Nat.le_of_ble_eq_true rfl) (Nat.le_of_ble_eq_true rfl) dX4_answered_129 ?_
              refine tw_mmin (lo := (-2147483648)) (hi := 1000000000) h_x8 h212 (by decide) (fun x217 e216 h215 => ?_)
              refine lv_istore (lv' := [(4, .int x217), (10, .int 0), (9, .int x198), (8, .int 0), (7, .int x175), (6, .int x9), (5, .ref (base + b6)), (0, .ref (base + a0)), (1, .int a1), (2, .int a2), (3, .int a3)]) hx hb dX4_answered_132 hl (by decide) rfl (fun ls hl => ?_)
              refine tw_iinc (lv' := fun x220 => [(6, .int x220), (4, .int x217), (10, .int 0), (9, .int x198), (8, .int 0), (7, .int x175), (5, .ref (base + b6)), (0, .ref (base + a0)), (1, .int a1), (2, .int a2), (3, .int a3)]) (lo := 1) (hi := 3) hx hb dX4_answered_134 hl (k := 5) rfl h19 (by decide) ⟨by decide, by decide⟩ ⟨by decide, by decide⟩ (by decide) (fun _ => rfl) (fun x220 ls e219 h218 hl => ?_)
              refine lv_goto (tgt := 17) hx hb dX4_answered_137 (by decide) ?_
              have hm221 : 3 - x220.toInt < (n_10 : Int) := by
                have := (h_a1).1; have := (h_a1).2; have := (h_a2).1; have := (h_a2).2; have := (h_a3).1; have := (h_a3).2; have := (h218).1; have := (h218).2; have := (h19).1; have := (h19).2; omega
              exact ih_10 x217 x220 M208 R209 J207 H locs _ h215 (iv_mono h218 (by decide) (by decide)) hm221 hS (lv_sub hl [1, 0, 6, 7, 8, 9, 10] rfl)
            · have q222 : x198.toInt = 1 := ti_eq c199
              have h223 : iv 1 1 x198 := ⟨by have := (h_x198).1; have := ((iv_c (c := 1) (n := 1) (by decide))).1; omega, by have := (h_x198).2; have := ((iv_c (c := 1) (n := 1) (by decide))).2; omega⟩
              refine lv_aload_n hx hb dX4_answered_105 rfl (lv_at hl 6 rfl) ?_
              refine tw_getr hx hb hW hown hK hS f_X4_16_4 hz_a0 hk_a0 (t := 14) (n := 4) rfl dX4_answered_106 (fun b224 k225 hz_b224 hk_b224 hn_b224 => ?_)
              have hn_b224 := hn_b224 (by decide)
              refine lv_iload_n hx hb dX4_answered_109 rfl (lv_at hl 7 rfl) ?_
              refine tw_iald hx hb hK hS hz_b224 hk_b224 (Or.inl rfl) hn_b224 (lo := (-2147483648)) (hi := 2147483647) h_a1 ⟨by decide, by decide⟩ rg_u14 dX4_answered_110 (fun x228 k227 h226 => ?_)
              refine lv_goto (tgt := 115) hx hb dX4_answered_111 (by decide) ?_
              refine lv_istore (lv' := [(10, .int x228), (9, .int x198), (8, .int 0), (7, .int x175), (4, .int x8), (6, .int x9), (5, .ref (base + b6)), (0, .ref (base + a0)), (1, .int a1), (2, .int a2), (3, .int a3)]) hx hb dX4_answered_115 hl (by decide) rfl (fun ls hl => ?_)
              refine lv_iload hx hb dX4_answered_117 (lv_at hl 4 rfl) ?_
              refine lv_iload hx hb dX4_answered_119 (lv_at hl 0 rfl) ?_
              refine lv_aload_n hx hb dX4_answered_121 rfl (lv_at hl 7 rfl) ?_
              refine lv_iload_n hx hb dX4_answered_122 rfl (lv_at hl 8 rfl) ?_
              refine lv_iconst (v := 1) hx hb dX4_answered_123 (by decide) ?_
              refine tw_iadd (lo := 1) (hi := 4) hx hb h_a1 (iv_c (c := 1) (n := 1) (by decide)) ⟨by decide, by decide⟩ ⟨by decide, by decide⟩ dX4_answered_124 (fun x231 e230 h229 => ?_)
              have e230 : x231.toInt = a1.toInt + 1 := e230
              have hm232 : 4 - x231.toInt < (d : Int) := by
                have := (h_a1).1; have := (h_a1).2; have := (h_a2).1; have := (h_a2).2; have := (h_a3).1; have := (h_a3).2; have := (h229).1; have := (h229).2; have := (h3).1; have := (h3).2; omega
              refine tw_goi hS (md_runV (As := [.int x231]) (rest := [.int x228, .int x8]) hx hb hml hown hW hK hT hS.1 (ih M195 R11 J194 hS.2.1 a0 hz_a0 hk_a0 x231 (iv_mono h229 (by decide) (by decide)) hm232) s_X4_63 ⟨rfl, rfl, ⟨by simp only [md_rm]; omega, by simp only [md_rm]; omega⟩, ⟨Nat.le_of_ble_eq_true rfl, Nat.le_of_ble_eq_true rfl⟩⟩ hz_a0 hk_a0 (by decide) rfl rfl hl.1 rfl (Nat.le_of_ble_eq_true rfl) dX4_answered_125) rfl rfl (fun x239 H locs M236 R237 J235 hS f233 g234 E238 => ?_)
              have h_x239 := E238
              clear E238
              refine lv_iadd hx hb dX4_answered_128 ?_
              refine tw_top (fun x241 => ?_)
              have h240 := iv_any x241
              refine va_mmin hx hb (hml.trans hl.1.symm) hown (hW _ w_5_93 rfl) (hW _ w_3_86 rfl) (hW _ w_1_13 rfl) (hW _ w_3_87 rfl) (by simp only [md_rm]; omega) (Nat.le_trans (m := 40) (Nat.le_of_ble_eq_true rfl) (by simp only [md_rm]; omega)) (Nat.le_of_ble_eq_true rfl) (Nat.le_of_ble_eq_true rfl) dX4_answered_129 ?_
              refine tw_mmin (lo := (-2147483648)) (hi := 1000000000) h_x8 h240 (by decide) (fun x244 e243 h242 => ?_)
              refine lv_istore (lv' := [(4, .int x244), (10, .int x228), (9, .int x198), (8, .int 0), (7, .int x175), (6, .int x9), (5, .ref (base + b6)), (0, .ref (base + a0)), (1, .int a1), (2, .int a2), (3, .int a3)]) hx hb dX4_answered_132 hl (by decide) rfl (fun ls hl => ?_)
              refine tw_iinc (lv' := fun x247 => [(6, .int x247), (4, .int x244), (10, .int x228), (9, .int x198), (8, .int 0), (7, .int x175), (5, .ref (base + b6)), (0, .ref (base + a0)), (1, .int a1), (2, .int a2), (3, .int a3)]) (lo := 1) (hi := 3) hx hb dX4_answered_134 hl (k := 5) rfl h19 (by decide) ⟨by decide, by decide⟩ ⟨by decide, by decide⟩ (by decide) (fun _ => rfl) (fun x247 ls e246 h245 hl => ?_)
              refine lv_goto (tgt := 17) hx hb dX4_answered_137 (by decide) ?_
              have hm248 : 3 - x247.toInt < (n_10 : Int) := by
                have := (h_a1).1; have := (h_a1).2; have := (h_a2).1; have := (h_a2).2; have := (h_a3).1; have := (h_a3).2; have := (h245).1; have := (h245).2; have := (h19).1; have := (h19).2; omega
              exact ih_10 x244 x247 M236 R237 J235 H locs _ h242 (iv_mono h245 (by decide) (by decide)) hm248 hS (lv_sub hl [1, 0, 6, 7, 8, 9, 10] rfl)
          · have q249 : x177.toInt = 0 := ti_eq c178
            have h250 : iv 0 0 x177 := ⟨by have := (h176).1; have := ((iv_c (c := 0) (n := 0) (by decide))).1; omega, by have := (h176).2; have := ((iv_c (c := 0) (n := 0) (by decide))).2; omega⟩
            refine lv_aload_n hx hb dX4_answered_55 rfl (lv_at hl 4 rfl) ?_
            refine tw_getk hx hb hW hown hK hS f_X4_32_4 hz_a0 hk_a0 (v := x175) k174 dX4_answered_56 ?_
            refine lv_goto (tgt := 63) hx hb dX4_answered_59 (by decide) ?_
            refine lv_istore (lv' := [(8, .int x175), (7, .int x175), (4, .int x8), (6, .int x9), (5, .ref (base + b6)), (0, .ref (base + a0)), (1, .int a1), (2, .int a2), (3, .int a3)]) hx hb dX4_answered_63 hl (by decide) rfl (fun ls hl => ?_)
            refine lv_aload_n hx hb dX4_answered_65 rfl (lv_at hl 5 rfl) ?_
            have k251 : R11 a0 2 = some b1 := (Fr.kp (k := 2) g14 hk_a0 rfl).trans k2
            refine tw_getrk hx hb hW hown hK hS f_X4_13_4 hz_a0 hk_a0 (b := b1) k251 dX4_answered_66 ?_
            refine lv_iload_n hx hb dX4_answered_69 rfl (lv_at hl 6 rfl) ?_
            refine tw_row hx hb hK hS hz_b1 hk_b1 hn_b1 h_a1 ⟨by decide, by decide⟩ dX4_answered_70 (fun b252 k253 hz_b252 hk_b252 hn_b252 => ?_)
            refine lv_iconst (v := 0) hx hb dX4_answered_71 (by decide) ?_
            refine lv_aload hx hb dX4_answered_72 (lv_at hl 4 rfl) ?_
            refine lv_iconst (v := 0) hx hb dX4_answered_74 (by decide) ?_
            refine lv_bipush (v := 10) hx hb dX4_answered_75 (by decide) ?_
            refine tw_copy hx hb (hml.trans hl.1.symm) hW hown hK hS (md_okc w_5_99 rfl (md_okc w_3_226 rfl (md_okc w_3_225 rfl (md_okc w_1_18 rfl (md_ok0))))) hz_b6 hk_b6 (Or.inr (by decide)) hz_b252 hk_b252 (Or.inr (by decide)) hn_b6 hn_b252 (by have := ((iv_c (c := 10) (n := 10) (by decide))).1; have := ((iv_c (c := 10) (n := 10) (by decide))).2; have := ((iv_c (c := 0) (n := 0) (by decide))).1; have := ((iv_c (c := 0) (n := 0) (by decide))).2; have := ((iv_c (c := 0) (n := 0) (by decide))).1; have := ((iv_c (c := 0) (n := 0) (by decide))).2; omega) (by have := ((iv_c (c := 10) (n := 10) (by decide))).1; have := ((iv_c (c := 10) (n := 10) (by decide))).2; have := ((iv_c (c := 0) (n := 0) (by decide))).1; have := ((iv_c (c := 0) (n := 0) (by decide))).2; have := ((iv_c (c := 0) (n := 0) (by decide))).1; have := ((iv_c (c := 0) (n := 0) (by decide))).2; omega) (by have := ((iv_c (c := 10) (n := 10) (by decide))).1; have := ((iv_c (c := 10) (n := 10) (by decide))).2; have := ((iv_c (c := 0) (n := 0) (by decide))).1; have := ((iv_c (c := 0) (n := 0) (by decide))).2; have := ((iv_c (c := 0) (n := 0) (by decide))).1; have := ((iv_c (c := 0) (n := 0) (by decide))).2; omega) (by have := ((iv_c (c := 10) (n := 10) (by decide))).1; have := ((iv_c (c := 10) (n := 10) (by decide))).2; have := ((iv_c (c := 0) (n := 0) (by decide))).1; have := ((iv_c (c := 0) (n := 0) (by decide))).2; have := ((iv_c (c := 0) (n := 0) (by decide))).1; have := ((iv_c (c := 0) (n := 0) (by decide))).2; omega) (by have := ((iv_c (c := 10) (n := 10) (by decide))).1; have := ((iv_c (c := 10) (n := 10) (by decide))).2; have := ((iv_c (c := 0) (n := 0) (by decide))).1; have := ((iv_c (c := 0) (n := 0) (by decide))).2; have := ((iv_c (c := 0) (n := 0) (by decide))).1; have := ((iv_c (c := 0) (n := 0) (by decide))).2; omega) (fun _ _ => ⟨by show (-2147483648 : Int) ≤ -2147483648; decide, by show (2147483647 : Int) ≤ 2147483647; decide⟩) (by simp only [md_rm]; omega) (Nat.le_trans (m := 40) (Nat.le_of_ble_eq_true rfl) (by simp only [md_rm]; omega)) rfl dX4_answered_77 (fun H locs M256 hS f254 k255 => ?_)
            refine lv_aload_n hx hb dX4_answered_80 rfl (lv_at hl 5 rfl) ?_
            refine tw_getr hx hb hW hown hK hS f_X4_24_4 hz_a0 hk_a0 (t := 6) (n := 0) rfl dX4_answered_81 (fun b257 k258 hz_b257 hk_b257 hn_b257 => ?_)
            refine lv_aload hx hb dX4_answered_84 (lv_at hl 4 rfl) ?_
            refine lv_iload_n hx hb dX4_answered_86 rfl (lv_at hl 7 rfl) ?_
            refine lv_iload hx hb dX4_answered_87 (lv_at hl 1 rfl) ?_
            refine lv_ior hx hb dX4_answered_89 ?_
            refine tw_top (fun x260 => ?_)
            have h259 := iv_any x260
            refine lv_iload_n hx hb dX4_answered_90 rfl (lv_at hl 8 rfl) ?_
            refine lv_iload hx hb dX4_answered_91 (lv_at hl 0 rfl) ?_
            refine lv_ior hx hb dX4_answered_93 ?_
            refine tw_top (fun x262 => ?_)
            have h261 := iv_any x262
            refine tw_goi hS (md_runV (As := [.ref (base + b6), .int x260, .int x262]) (rest := []) hx hb hml hown hW hK hT hS.1 (t_X5_hold l D cy tx base Z K N M256 R11 J12 hS.2.1 b257 hz_b257 hk_b257 b6 hz_b6 hk_b6 hn_b6 x260 h259 x262 h261) s_X4_101 ⟨rfl, rfl, ⟨by simp only [md_rm]; omega, by simp only [md_rm]; omega⟩, ⟨Nat.le_of_ble_eq_true rfl, Nat.le_of_ble_eq_true rfl⟩⟩ hz_b257 hk_b257 (by decide) rfl rfl hl.1 rfl (Nat.le_of_ble_eq_true rfl) dX4_answered_94) rfl rfl (fun x269 H locs M266 R267 J265 hS f263 g264 E268 => ?_)
            have eR267 := Fr.nil g264 rfl
            subst eR267
            have h_x269 := E268
            clear E268
            refine lv_istore (lv' := [(9, .int x269), (8, .int x175), (7, .int x175), (4, .int x8), (6, .int x9), (5, .ref (base + b6)), (0, .ref (base + a0)), (1, .int a1), (2, .int a2), (3, .int a3)]) hx hb dX4_answered_97 hl (by decide) rfl (fun ls hl => ?_)
            refine lv_iload hx hb dX4_answered_99 (lv_at hl 0 rfl) ?_
            refine lv_iconst (v := 1) hx hb dX4_answered_101 (by decide) ?_
            refine lv_icmp_ne (tgt := 114) hx hb dX4_answered_102 (by decide) (fun c270 => ?_) (fun c270 => ?_)
            · have q271 : ¬ x269.toInt = 1 := ti_ne c270
              refine lv_iconst (v := 0) hx hb dX4_answered_114 (by decide) ?_
              refine lv_istore (lv' := [(10, .int 0), (9, .int x269), (8, .int x175), (7, .int x175), (4, .int x8), (6, .int x9), (5, .ref (base + b6)), (0, .ref (base + a0)), (1, .int a1), (2, .int a2), (3, .int a3)]) hx hb dX4_answered_115 hl (by decide) rfl (fun ls hl => ?_)
              refine lv_iload hx hb dX4_answered_117 (lv_at hl 4 rfl) ?_
              refine lv_iload hx hb dX4_answered_119 (lv_at hl 0 rfl) ?_
              refine lv_aload_n hx hb dX4_answered_121 rfl (lv_at hl 7 rfl) ?_
              refine lv_iload_n hx hb dX4_answered_122 rfl (lv_at hl 8 rfl) ?_
              refine lv_iconst (v := 1) hx hb dX4_answered_123 (by decide) ?_
              refine tw_iadd (lo := 1) (hi := 4) hx hb h_a1 (iv_c (c := 1) (n := 1) (by decide)) ⟨by decide, by decide⟩ ⟨by decide, by decide⟩ dX4_answered_124 (fun x274 e273 h272 => ?_)
              have e273 : x274.toInt = a1.toInt + 1 := e273
              have hm275 : 4 - x274.toInt < (d : Int) := by
                have := (h_a1).1; have := (h_a1).2; have := (h_a2).1; have := (h_a2).2; have := (h_a3).1; have := (h_a3).2; have := (h272).1; have := (h272).2; have := (h3).1; have := (h3).2; omega
              refine tw_goi hS (md_runV (As := [.int x274]) (rest := [.int 0, .int x8]) hx hb hml hown hW hK hT hS.1 (ih M266 R11 J265 hS.2.1 a0 hz_a0 hk_a0 x274 (iv_mono h272 (by decide) (by decide)) hm275) s_X4_63 ⟨rfl, rfl, ⟨by simp only [md_rm]; omega, by simp only [md_rm]; omega⟩, ⟨Nat.le_of_ble_eq_true rfl, Nat.le_of_ble_eq_true rfl⟩⟩ hz_a0 hk_a0 (by decide) rfl rfl hl.1 rfl (Nat.le_of_ble_eq_true rfl) dX4_answered_125) rfl rfl (fun x282 H locs M279 R280 J278 hS f276 g277 E281 => ?_)
              have h_x282 := E281
              clear E281
              refine tw_iadd (lo := (-1000000000)) (hi := 1000000000) hx hb (iv_c (c := 0) (n := 0) (by decide)) h_x282 ⟨by decide, by decide⟩ ⟨by decide, by decide⟩ dX4_answered_128 (fun x285 e284 h283 => ?_)
              have e284 : x285.toInt = 0 + x282.toInt := e284
              refine va_mmin hx hb (hml.trans hl.1.symm) hown (hW _ w_5_93 rfl) (hW _ w_3_86 rfl) (hW _ w_1_13 rfl) (hW _ w_3_87 rfl) (by simp only [md_rm]; omega) (Nat.le_trans (m := 40) (Nat.le_of_ble_eq_true rfl) (by simp only [md_rm]; omega)) (Nat.le_of_ble_eq_true rfl) (Nat.le_of_ble_eq_true rfl) dX4_answered_129 ?_
              refine tw_mmin (lo := (-2147483648)) (hi := 1000000000) h_x8 h283 (by decide) (fun x288 e287 h286 => ?_)
              refine lv_istore (lv' := [(4, .int x288), (10, .int 0), (9, .int x269), (8, .int x175), (7, .int x175), (6, .int x9), (5, .ref (base + b6)), (0, .ref (base + a0)), (1, .int a1), (2, .int a2), (3, .int a3)]) hx hb dX4_answered_132 hl (by decide) rfl (fun ls hl => ?_)
              refine tw_iinc (lv' := fun x291 => [(6, .int x291), (4, .int x288), (10, .int 0), (9, .int x269), (8, .int x175), (7, .int x175), (5, .ref (base + b6)), (0, .ref (base + a0)), (1, .int a1), (2, .int a2), (3, .int a3)]) (lo := 1) (hi := 3) hx hb dX4_answered_134 hl (k := 5) rfl h19 (by decide) ⟨by decide, by decide⟩ ⟨by decide, by decide⟩ (by decide) (fun _ => rfl) (fun x291 ls e290 h289 hl => ?_)
              refine lv_goto (tgt := 17) hx hb dX4_answered_137 (by decide) ?_
              have hm292 : 3 - x291.toInt < (n_10 : Int) := by
                have := (h_a1).1; have := (h_a1).2; have := (h_a2).1; have := (h_a2).2; have := (h_a3).1; have := (h_a3).2; have := (h289).1; have := (h289).2; have := (h19).1; have := (h19).2; omega
              exact ih_10 x288 x291 M279 R280 J278 H locs _ h286 (iv_mono h289 (by decide) (by decide)) hm292 hS (lv_sub hl [1, 0, 6, 7, 8, 9, 10] rfl)
            · have q293 : x269.toInt = 1 := ti_eq c270
              have h294 : iv 1 1 x269 := ⟨by have := (h_x269).1; have := ((iv_c (c := 1) (n := 1) (by decide))).1; omega, by have := (h_x269).2; have := ((iv_c (c := 1) (n := 1) (by decide))).2; omega⟩
              refine lv_aload_n hx hb dX4_answered_105 rfl (lv_at hl 6 rfl) ?_
              refine tw_getr hx hb hW hown hK hS f_X4_16_4 hz_a0 hk_a0 (t := 14) (n := 4) rfl dX4_answered_106 (fun b295 k296 hz_b295 hk_b295 hn_b295 => ?_)
              have hn_b295 := hn_b295 (by decide)
              refine lv_iload_n hx hb dX4_answered_109 rfl (lv_at hl 7 rfl) ?_
              refine tw_iald hx hb hK hS hz_b295 hk_b295 (Or.inl rfl) hn_b295 (lo := (-2147483648)) (hi := 2147483647) h_a1 ⟨by decide, by decide⟩ rg_u14 dX4_answered_110 (fun x299 k298 h297 => ?_)
              refine lv_goto (tgt := 115) hx hb dX4_answered_111 (by decide) ?_
              refine lv_istore (lv' := [(10, .int x299), (9, .int x269), (8, .int x175), (7, .int x175), (4, .int x8), (6, .int x9), (5, .ref (base + b6)), (0, .ref (base + a0)), (1, .int a1), (2, .int a2), (3, .int a3)]) hx hb dX4_answered_115 hl (by decide) rfl (fun ls hl => ?_)
              refine lv_iload hx hb dX4_answered_117 (lv_at hl 4 rfl) ?_
              refine lv_iload hx hb dX4_answered_119 (lv_at hl 0 rfl) ?_
              refine lv_aload_n hx hb dX4_answered_121 rfl (lv_at hl 7 rfl) ?_
              refine lv_iload_n hx hb dX4_answered_122 rfl (lv_at hl 8 rfl) ?_
              refine lv_iconst (v := 1) hx hb dX4_answered_123 (by decide) ?_
              refine tw_iadd (lo := 1) (hi := 4) hx hb h_a1 (iv_c (c := 1) (n := 1) (by decide)) ⟨by decide, by decide⟩ ⟨by decide, by decide⟩ dX4_answered_124 (fun x302 e301 h300 => ?_)
              have e301 : x302.toInt = a1.toInt + 1 := e301
              have hm303 : 4 - x302.toInt < (d : Int) := by
                have := (h_a1).1; have := (h_a1).2; have := (h_a2).1; have := (h_a2).2; have := (h_a3).1; have := (h_a3).2; have := (h300).1; have := (h300).2; have := (h3).1; have := (h3).2; omega
              refine tw_goi hS (md_runV (As := [.int x302]) (rest := [.int x299, .int x8]) hx hb hml hown hW hK hT hS.1 (ih M266 R11 J265 hS.2.1 a0 hz_a0 hk_a0 x302 (iv_mono h300 (by decide) (by decide)) hm303) s_X4_63 ⟨rfl, rfl, ⟨by simp only [md_rm]; omega, by simp only [md_rm]; omega⟩, ⟨Nat.le_of_ble_eq_true rfl, Nat.le_of_ble_eq_true rfl⟩⟩ hz_a0 hk_a0 (by decide) rfl rfl hl.1 rfl (Nat.le_of_ble_eq_true rfl) dX4_answered_125) rfl rfl (fun x310 H locs M307 R308 J306 hS f304 g305 E309 => ?_)
              have h_x310 := E309
              clear E309
              refine lv_iadd hx hb dX4_answered_128 ?_
              refine tw_top (fun x312 => ?_)
              have h311 := iv_any x312
              refine va_mmin hx hb (hml.trans hl.1.symm) hown (hW _ w_5_93 rfl) (hW _ w_3_86 rfl) (hW _ w_1_13 rfl) (hW _ w_3_87 rfl) (by simp only [md_rm]; omega) (Nat.le_trans (m := 40) (Nat.le_of_ble_eq_true rfl) (by simp only [md_rm]; omega)) (Nat.le_of_ble_eq_true rfl) (Nat.le_of_ble_eq_true rfl) dX4_answered_129 ?_
              refine tw_mmin (lo := (-2147483648)) (hi := 1000000000) h_x8 h311 (by decide) (fun x315 e314 h313 => ?_)
              refine lv_istore (lv' := [(4, .int x315), (10, .int x299), (9, .int x269), (8, .int x175), (7, .int x175), (6, .int x9), (5, .ref (base + b6)), (0, .ref (base + a0)), (1, .int a1), (2, .int a2), (3, .int a3)]) hx hb dX4_answered_132 hl (by decide) rfl (fun ls hl => ?_)
              refine tw_iinc (lv' := fun x318 => [(6, .int x318), (4, .int x315), (10, .int x299), (9, .int x269), (8, .int x175), (7, .int x175), (5, .ref (base + b6)), (0, .ref (base + a0)), (1, .int a1), (2, .int a2), (3, .int a3)]) (lo := 1) (hi := 3) hx hb dX4_answered_134 hl (k := 5) rfl h19 (by decide) ⟨by decide, by decide⟩ ⟨by decide, by decide⟩ (by decide) (fun _ => rfl) (fun x318 ls e317 h316 hl => ?_)
              refine lv_goto (tgt := 17) hx hb dX4_answered_137 (by decide) ?_
              have hm319 : 3 - x318.toInt < (n_10 : Int) := by
                have := (h_a1).1; have := (h_a1).2; have := (h_a2).1; have := (h_a2).2; have := (h_a3).1; have := (h_a3).2; have := (h316).1; have := (h316).2; have := (h19).1; have := (h19).2; omega
              exact ih_10 x315 x318 M307 R308 J306 H locs _ h313 (iv_mono h316 (by decide) (by decide)) hm319 hS (lv_sub hl [1, 0, 6, 7, 8, 9, 10] rfl)
  have hm320 : 3 - (0 : Int32).toInt < (((4 : Nat) : Int) : Int) := by
    have := (h_a1).1; have := (h_a1).2; have := (h_a2).1; have := (h_a2).2; have := (h_a3).1; have := (h_a3).2; have : (0 : Int32).toInt = 0 := (by decide); omega
  exact W17_10 4 1000000000 0 Ma Ra Ja s.heap [] _ (iv_mono (iv_c (c := 1000000000) (n := 1000000000) (by decide)) (by decide) (by decide)) (iv_mono (iv_c (c := 0) (n := 0) (by decide)) (by decide) (by decide)) hm320 hS (lv_sub hl [2, 0, 1, 3, 4, 5, 6] rfl)
set_option maxRecDepth 100000 in
set_option maxHeartbeats 4000000 in
theorem t_X4_play (l : Launch) (D : va_G) (cy : Nat → ClassId) (tx : (Nat → Nat) × (Nat → Nat)) (base Z : Nat) (K N : Nat → Nat) : ∀ (d : Nat), ∀ (Ma : MT) (Ra : RT) (Ja : JT) (hTy : Ty Z K N Ma Ra) (a0 : Nat) (hz_a0 : a0 < Z) (hk_a0 : K a0 = 5) (a1 : Int32) (h_a1 : iv 0 4 a1) (hmd : 4 - a1.toInt < (d : Int)), Met l yX4_play [Cond.code yX4_play cX4_play 9 (some .int)] (md_rm (5 + 2 * d) 0 0) (va_Pc [.ref (base + a0), .int a1] (md_U D cy tx base Z K N Ma Ra Ja)) (mQi D cy tx base (fun r u => TP Z K N Lt_X4_play LRt_X4_play Ma Ra u ∧ (iv (-1000000000) 1000000000 r))) 0 0 (fun q => base ≤ q) := by
  intro d
  induction d with
  | zero =>
    intro Ma Ra Ja hTy a0 hz_a0 hk_a0 a1 h_a1 hmd
    exfalso
    have := h_a1.2
    omega
  | succ d ih =>
    intro Ma Ra Ja hTy a0 hz_a0 hk_a0 a1 h_a1 hmd
    refine tw_ofW (L := Lt_X4_play) (LR := LRt_X4_play) (by decide) (Nat.le_of_ble_eq_true rfl) hTy ?_
    intro p e s m args below meth c Q ls hx hb hr hlocks hown hml hW hK hT hS hQ hl
    have hl : lv_has ls 9 [(0, .ref (base + a0)), (1, .int a1)] := hl
    refine lv_iload_n hx hb dX4_play_0 rfl (lv_at hl 1 rfl) ?_
    refine lv_aload_n hx hb dX4_play_1 rfl (lv_at hl 0 rfl) ?_
    refine tw_geti hx hb hW hown hK hS f_X4_46_4 hz_a0 hk_a0 (lo := 0) (hi := 4) rfl dX4_play_2 (fun x3 k2 h1 => ?_)
    refine lv_icmp_lt (tgt := 10) hx hb dX4_play_5 (by decide) (fun c4 => ?_) (fun c4 => ?_)
    · have q5 : a1.toInt < x3.toInt := ti_lt c4
      have h6 : iv 0 3 a1 := iv_ltL (y := x3) h_a1 h1 q5 (by decide)
      have h7 : iv 1 4 x3 := iv_gtL (y := a1) h1 h_a1 q5 (by decide)
      refine lv_aload_n hx hb dX4_play_10 rfl (lv_at hl 0 rfl) ?_
      refine tw_getr hx hb hW hown hK hS f_X4_24_4 hz_a0 hk_a0 (t := 6) (n := 0) rfl dX4_play_11 (fun b8 k9 hz_b8 hk_b8 hn_b8 => ?_)
      refine lv_aload_n hx hb dX4_play_14 rfl (lv_at hl 0 rfl) ?_
      refine tw_getr hx hb hW hown hK hS f_X4_20_4 hz_a0 hk_a0 (t := 10) (n := 0) rfl dX4_play_15 (fun b10 k11 hz_b10 hk_b10 hn_b10 => ?_)
      refine tw_getr hx hb hW hown hK hS f_X4_49_9 hz_b10 hk_b10 (t := 21) (n := 8) rfl dX4_play_18 (fun b12 k13 hz_b12 hk_b12 hn_b12 => ?_)
      have hn_b12 := hn_b12 (by decide)
      refine lv_iload_n hx hb dX4_play_21 rfl (lv_at hl 1 rfl) ?_
      refine lv_aload_n hx hb dX4_play_22 rfl (lv_at hl 0 rfl) ?_
      refine tw_getrk hx hb hW hown hK hS f_X4_20_4 hz_a0 hk_a0 (b := b10) k11 dX4_play_23 ?_
      refine tw_geti hx hb hW hown hK hS f_X4_35_9 hz_b10 hk_b10 (lo := 0) (hi := 8) rfl dX4_play_26 (fun x16 k15 h14 => ?_)
      refine lv_aload_n hx hb dX4_play_29 rfl (lv_at hl 0 rfl) ?_
      refine tw_getr hx hb hW hown hK hS f_X4_13_4 hz_a0 hk_a0 (t := 19) (n := 5) rfl dX4_play_30 (fun b17 k18 hz_b17 hk_b17 hn_b17 => ?_)
      have hn_b17 := hn_b17 (by decide)
      refine lv_iload_n hx hb dX4_play_33 rfl (lv_at hl 1 rfl) ?_
      refine tw_row hx hb hK hS hz_b17 hk_b17 hn_b17 h6 ⟨by decide, by decide⟩ dX4_play_34 (fun b19 k20 hz_b19 hk_b19 hn_b19 => ?_)
      refine lv_aload_n hx hb dX4_play_35 rfl (lv_at hl 0 rfl) ?_
      refine tw_getrk hx hb hW hown hK hS f_X4_20_4 hz_a0 hk_a0 (b := b10) k11 dX4_play_36 ?_
      refine tw_geti hx hb hW hown hK hS f_X4_67_9 hz_b10 hk_b10 (lo := (-2147483648)) (hi := 2147483647) rfl dX4_play_39 (fun x23 k22 h21 => ?_)
      refine lv_iload_n hx hb dX4_play_42 rfl (lv_at hl 1 rfl) ?_
      refine lv_iadd hx hb dX4_play_43 ?_
      refine tw_top (fun x25 => ?_)
      have h24 := iv_any x25
      refine tw_gov hS (md_runV (As := [.ref (base + b12), .int a1, .int x16, .ref (base + b19), .int x25]) (rest := []) hx hb hml hown hW hK hT hS.1 (t_X5_bring l D cy tx base Z K N Ma Ra Ja hS.2.1 b8 hz_b8 hk_b8 b12 hz_b12 hk_b12 hn_b12 a1 (iv_mono h6 (by decide) (by decide)) x16 h14 b19 hz_b19 hk_b19 hn_b19 x25 h24) s_X4_70 ⟨rfl, rfl, ⟨by simp only [md_rm]; omega, by simp only [md_rm]; omega⟩, ⟨Nat.le_of_ble_eq_true rfl, Nat.le_of_ble_eq_true rfl⟩⟩ hz_b8 hk_b8 (by decide) rfl rfl hl.1 rfl (Nat.le_of_ble_eq_true rfl) dX4_play_44) rfl rfl (fun H locs M29 R30 J28 hS f26 g27 E31 => ?_)
      have p32 := E31
      clear E31
      have k33 : RowOK N M29 R30 b8 := p32
      refine lv_aload_n hx hb dX4_play_47 rfl (lv_at hl 0 rfl) ?_
      have k34 : R30 a0 1 = some b8 := (Fr.kp (k := 1) g27 hk_a0 rfl).trans k9
      refine tw_getrk hx hb hW hown hK hS f_X4_24_4 hz_a0 hk_a0 (b := b8) k34 dX4_play_48 ?_
      refine lv_aload_n hx hb dX4_play_51 rfl (lv_at hl 0 rfl) ?_
      have k35 : R30 a0 0 = some b10 := (Fr.kp (k := 0) g27 hk_a0 rfl).trans k11
      refine tw_getrk hx hb hW hown hK hS f_X4_20_4 hz_a0 hk_a0 (b := b10) k35 dX4_play_52 ?_
      refine tw_geti hx hb hW hown hK hS f_X4_76_9 hz_b10 hk_b10 (lo := (-2147483648)) (hi := 2147483647) rfl dX4_play_55 (fun x38 k37 h36 => ?_)
      refine lv_aload_n hx hb dX4_play_58 rfl (lv_at hl 0 rfl) ?_
      refine tw_geti hx hb hW hown hK hS f_X4_28_4 hz_a0 hk_a0 (lo := (-2147483648)) (hi := 2147483647) rfl dX4_play_59 (fun x41 k40 h39 => ?_)
      refine lv_iconst (v := (-1)) hx hb dX4_play_62 (by decide) ?_
      refine lv_ixor hx hb dX4_play_63 ?_
      refine tw_top (fun x43 => ?_)
      have h42 := iv_any x43
      refine lv_iand hx hb dX4_play_64 ?_
      refine tw_top (fun x45 => ?_)
      have h44 := iv_any x45
      refine lv_aload_n hx hb dX4_play_65 rfl (lv_at hl 0 rfl) ?_
      refine tw_geti hx hb hW hown hK hS f_X4_32_4 hz_a0 hk_a0 (lo := (-2147483648)) (hi := 2147483647) rfl dX4_play_66 (fun x48 k47 h46 => ?_)
      refine lv_iconst (v := (-1)) hx hb dX4_play_69 (by decide) ?_
      refine lv_ixor hx hb dX4_play_70 ?_
      refine tw_top (fun x50 => ?_)
      have h49 := iv_any x50
      refine lv_iand hx hb dX4_play_71 ?_
      refine tw_top (fun x52 => ?_)
      have h51 := iv_any x52
      refine tw_gov hS (md_runV (As := [.int x52]) (rest := []) hx hb hml hown hW hK hT hS.1 (t_X5_ask l D cy tx base Z K N M29 R30 J28 hS.2.1 b8 hz_b8 hk_b8 x52 h51 k33) s_X4_79 ⟨rfl, rfl, ⟨by simp only [md_rm]; omega, by simp only [md_rm]; omega⟩, ⟨Nat.le_of_ble_eq_true rfl, Nat.le_of_ble_eq_true rfl⟩⟩ hz_b8 hk_b8 (by decide) rfl rfl hl.1 rfl (Nat.le_of_ble_eq_true rfl) dX4_play_72) rfl rfl (fun H locs M56 R57 J55 hS f53 g54 E58 => ?_)
      have eR57 := Fr.nil g54 rfl
      subst eR57
      refine lv_aload_n hx hb dX4_play_75 rfl (lv_at hl 0 rfl) ?_
      have k59 : R30 a0 1 = some b8 := (Fr.kp (k := 1) g27 hk_a0 rfl).trans k9
      refine tw_getrk hx hb hW hown hK hS f_X4_24_4 hz_a0 hk_a0 (b := b8) k59 dX4_play_76 ?_
      refine tw_geti hx hb hW hown hK hS f_X4_83_5 hz_b8 hk_b8 (lo := (-2147483648)) (hi := 2147483647) rfl dX4_play_79 (fun x62 k61 h60 => ?_)
      refine lv_istore_n (lv' := [(2, .int x62), (0, .ref (base + a0)), (1, .int a1)]) hx hb dX4_play_82 rfl hl (by decide) rfl (fun ls hl => ?_)
      refine lv_aload_n hx hb dX4_play_83 rfl (lv_at hl 1 rfl) ?_
      have k63 : R30 a0 1 = some b8 := (Fr.kp (k := 1) g27 hk_a0 rfl).trans k9
      refine tw_getrk hx hb hW hown hK hS f_X4_24_4 hz_a0 hk_a0 (b := b8) k63 dX4_play_84 ?_
      refine tw_geti hx hb hW hown hK hS f_X4_86_5 hz_b8 hk_b8 (lo := (-2147483648)) (hi := 2147483647) rfl dX4_play_87 (fun x66 k65 h64 => ?_)
      refine lv_istore_n (lv' := [(3, .int x66), (2, .int x62), (0, .ref (base + a0)), (1, .int a1)]) hx hb dX4_play_90 rfl hl (by decide) rfl (fun ls hl => ?_)
      refine lv_ldc hx hb hown (hW _ w_5_106 rfl) dX4_play_91 ?_
      refine lv_istore (lv' := [(4, .int (-1000000000)), (3, .int x66), (2, .int x62), (0, .ref (base + a0)), (1, .int a1)]) hx hb dX4_play_93 hl (by decide) rfl (fun ls hl => ?_)
      refine lv_iconst (v := 0) hx hb dX4_play_95 (by decide) ?_
      refine lv_istore (lv' := [(5, .int 0), (4, .int (-1000000000)), (3, .int x66), (2, .int x62), (0, .ref (base + a0)), (1, .int a1)]) hx hb dX4_play_96 hl (by decide) rfl (fun ls hl => ?_)
      have W98_69 : ∀ (n_69 : Nat) (x67 : Int32) (x68 : Int32) (M69 : MT) (R70 : RT) (J71 : JT) (H : Heap) (locs : List Loc) (ls : Array Slot) (h_x67 : iv (-1000000000) 1000000000 x67) (h_x68 : iv 0 3 x68) (hm_69 : 3 - x68.toInt < (n_69 : Int)) (hS : SB D cy base Z K N Lt_X4_play LRt_X4_play Ma Ra M69 R70 J71 s H locs) (hl : lv_has ls 9 [(4, .int x67), (5, .int x68), (3, .int x66), (2, .int x62), (0, .ref (base + a0)), (1, .int a1)]), W p l e (md_rm (5 + 2 * (d + 1)) 0 0) s m args below meth c H locs 0 0 Q (F0 m 98 ls []) := by
        intro n_69
        induction n_69 with
        | zero =>
          intro x67 x68 M69 R70 J71 H locs ls h_x67 h_x68 hm_69 hS hl
          exfalso
          have := (h6).1; have := (h6).2; have := (h_x68).1; have := (h_x68).2; omega
        | succ n_69 ih_69 =>
          intro x67 x68 M69 R70 J71 H locs ls h_x67 h_x68 hm_69 hS hl
          have f72 := hS.2.2.1
          have g73 := hS.2.2.2
          refine lv_iload hx hb dX4_play_98 (lv_at hl 1 rfl) ?_
          obtain ⟨sy0, sy1, hY0, hY1⟩ := hT.2.2.2.2
          refine va_getsN hx hb hY0 hS.1.2.2 hown (va_Nw.use rfl hK.2.2.1.2.2.2.2.2.2.1) (fun _ h => h) dX4_play_100 ?_
          refine va_tlen hx hb hY1 hS.1.2.2 (v := 3) (by decide) dX4_play_103 ?_
          refine lv_icmp_ge (tgt := 192) hx hb dX4_play_104 (by decide) (fun c74 => ?_) (fun c74 => ?_)
          · have q75 : 3 ≤ x68.toInt := ti_le c74
            have h76 : iv 3 3 x68 := iv_geL (y := 3) h_x68 (iv_c (c := 3) (n := 3) (by decide)) q75 (by decide)
            refine lv_iload hx hb dX4_play_192 (lv_at hl 0 rfl) ?_
            exact tw_endi hx hb hr hlocks hK hT hS hQ (h_x67) dX4_play_194
          · have q77 : x68.toInt < 3 := ti_nle c74
            have h78 : iv 0 2 x68 := iv_ltL (y := 3) h_x68 (iv_c (c := 3) (n := 3) (by decide)) q77 (by decide)
            obtain ⟨sy0, sy1, hY0, hY1⟩ := hT.2.2.2.2
            refine va_getsN hx hb hY0 hS.1.2.2 hown (va_Nw.use rfl hK.2.2.1.2.2.2.2.2.2.1) (fun _ h => h) dX4_play_107 ?_
            refine lv_iload hx hb dX4_play_110 (lv_at hl 1 rfl) ?_
            refine va_ti hx hb hY1 hS.1.2.2 (iv_in h78 ⟨by decide, by decide⟩) rfl dX4_play_112 ?_
            refine tw_top (fun x80 => ?_)
            have h79 := iv_any x80
            refine lv_iconst (v := 1) hx hb dX4_play_113 (by decide) ?_
            refine lv_icmp_ne (tgt := 124) hx hb dX4_play_114 (by decide) (fun c81 => ?_) (fun c81 => ?_)
            · have q82 : ¬ x80.toInt = 1 := ti_ne c81
              refine lv_iconst (v := 0) hx hb dX4_play_124 (by decide) ?_
              refine lv_istore (lv' := [(6, .int 0), (4, .int x67), (5, .int x68), (3, .int x66), (2, .int x62), (0, .ref (base + a0)), (1, .int a1)]) hx hb dX4_play_125 hl (by decide) rfl (fun ls hl => ?_)
              obtain ⟨sy0, sy1, hY0, hY1⟩ := hT.2.2.2.2
              refine va_getsN hx hb hY0 hS.1.2.2 hown (va_Nw.use rfl hK.2.2.1.2.2.2.2.2.2.1) (fun _ h => h) dX4_play_127 ?_
              refine lv_iload hx hb dX4_play_130 (lv_at hl 2 rfl) ?_
              refine va_ti hx hb hY1 hS.1.2.2 (iv_in h78 ⟨by decide, by decide⟩) rfl dX4_play_132 ?_
              refine tw_top (fun x84 => ?_)
              have h83 := iv_any x84
              refine lv_if_ne (tgt := 143) hx hb dX4_play_133 (by decide) (fun c85 => ?_) (fun c85 => ?_)
              · have q86 : ¬ x84.toInt = 0 := ti_ne c85
                refine lv_iconst (v := 0) hx hb dX4_play_143 (by decide) ?_
                refine lv_istore (lv' := [(7, .int 0), (6, .int 0), (4, .int x67), (5, .int x68), (3, .int x66), (2, .int x62), (0, .ref (base + a0)), (1, .int a1)]) hx hb dX4_play_144 hl (by decide) rfl (fun ls hl => ?_)
                refine lv_aload_n hx hb dX4_play_146 rfl (lv_at hl 6 rfl) ?_
                refine lv_iload_n hx hb dX4_play_147 rfl (lv_at hl 7 rfl) ?_
                refine lv_iload_n hx hb dX4_play_148 rfl (lv_at hl 5 rfl) ?_
                refine lv_iload hx hb dX4_play_149 (lv_at hl 1 rfl) ?_
                refine lv_ior hx hb dX4_play_151 ?_
                refine tw_top (fun x88 => ?_)
                have h87 := iv_any x88
                refine lv_iload_n hx hb dX4_play_152 rfl (lv_at hl 4 rfl) ?_
                refine lv_iload hx hb dX4_play_153 (lv_at hl 0 rfl) ?_
                refine lv_ior hx hb dX4_play_155 ?_
                refine tw_top (fun x90 => ?_)
                have h89 := iv_any x90
                have hm91 : 3 - a1.toInt < (d : Int) := by
                  have := (h6).1; have := (h6).2; omega
                refine tw_goi hS (md_runV (As := [.int a1, .int x88, .int x90]) (rest := []) hx hb hml hown hW hK hT hS.1 (t_X4_answered l D cy tx base Z K N d ih M69 R70 J71 hS.2.1 a0 hz_a0 hk_a0 a1 h6 x88 h87 x90 h89 hm91) s_X4_93 ⟨rfl, rfl, ⟨by simp only [md_rm]; omega, by simp only [md_rm]; omega⟩, ⟨Nat.le_of_ble_eq_true rfl, Nat.le_of_ble_eq_true rfl⟩⟩ hz_a0 hk_a0 (by decide) rfl rfl hl.1 rfl (Nat.le_of_ble_eq_true rfl) dX4_play_156) rfl rfl (fun x98 H locs M95 R96 J94 hS f92 g93 E97 => ?_)
                have h_x98 := E97
                clear E97
                refine lv_istore (lv' := [(8, .int x98), (7, .int 0), (6, .int 0), (4, .int x67), (5, .int x68), (3, .int x66), (2, .int x62), (0, .ref (base + a0)), (1, .int a1)]) hx hb dX4_play_159 hl (by decide) rfl (fun ls hl => ?_)
                refine lv_iload hx hb dX4_play_161 (lv_at hl 0 rfl) ?_
                refine lv_iload hx hb dX4_play_163 (lv_at hl 3 rfl) ?_
                refine lv_icmp_le (tgt := 186) hx hb dX4_play_165 (by decide) (fun c99 => ?_) (fun c99 => ?_)
                · have q100 : x98.toInt ≤ x67.toInt := ti_le c99
                  refine tw_iinc (lv' := fun x103 => [(5, .int x103), (8, .int x98), (7, .int 0), (6, .int 0), (4, .int x67), (3, .int x66), (2, .int x62), (0, .ref (base + a0)), (1, .int a1)]) (lo := 1) (hi := 3) hx hb dX4_play_186 hl (k := 4) rfl h78 (by decide) ⟨by decide, by decide⟩ ⟨by decide, by decide⟩ (by decide) (fun _ => rfl) (fun x103 ls e102 h101 hl => ?_)
                  refine lv_goto (tgt := 98) hx hb dX4_play_189 (by decide) ?_
                  have hm104 : 3 - x103.toInt < (n_69 : Int) := by
                    have := (h6).1; have := (h6).2; have := (h101).1; have := (h101).2; have := (h78).1; have := (h78).2; omega
                  exact ih_69 x67 x103 M95 R96 J94 H locs _ h_x67 (iv_mono h101 (by decide) (by decide)) hm104 hS (lv_sub hl [4, 0, 5, 6, 7, 8] rfl)
                · have q105 : x67.toInt < x98.toInt := ti_nle c99
                  have h106 : iv (-999999999) 1000000000 x98 := iv_gtL (y := x67) h_x98 h_x67 q105 (by decide)
                  have h107 : iv (-1000000000) 999999999 x67 := iv_ltL (y := x98) h_x67 h_x98 q105 (by decide)
                  refine lv_iload hx hb dX4_play_168 (lv_at hl 0 rfl) ?_
                  refine lv_istore (lv' := [(4, .int x98), (8, .int x98), (7, .int 0), (6, .int 0), (5, .int x68), (3, .int x66), (2, .int x62), (0, .ref (base + a0)), (1, .int a1)]) hx hb dX4_play_170 hl (by decide) rfl (fun ls hl => ?_)
                  refine lv_iload_n hx hb dX4_play_172 rfl (lv_at hl 8 rfl) ?_
                  refine lv_if_ne (tgt := 186) hx hb dX4_play_173 (by decide) (fun c108 => ?_) (fun c108 => ?_)
                  · have q109 : ¬ a1.toInt = 0 := ti_ne c108
                    have h110 : iv 1 3 a1 := ⟨by have := (h6).1; have := ((iv_c (c := 0) (n := 0) (by decide))).1; have := ((iv_c (c := 0) (n := 0) (by decide))).2; omega, by have := (h6).2; have := ((iv_c (c := 0) (n := 0) (by decide))).1; have := ((iv_c (c := 0) (n := 0) (by decide))).2; omega⟩
                    refine tw_iinc (lv' := fun x113 => [(5, .int x113), (4, .int x98), (8, .int x98), (7, .int 0), (6, .int 0), (3, .int x66), (2, .int x62), (0, .ref (base + a0)), (1, .int a1)]) (lo := 1) (hi := 3) hx hb dX4_play_186 hl (k := 4) rfl h78 (by decide) ⟨by decide, by decide⟩ ⟨by decide, by decide⟩ (by decide) (fun _ => rfl) (fun x113 ls e112 h111 hl => ?_)
                    refine lv_goto (tgt := 98) hx hb dX4_play_189 (by decide) ?_
                    have hm114 : 3 - x113.toInt < (n_69 : Int) := by
                      have := (h110).1; have := (h110).2; have := (h111).1; have := (h111).2; have := (h78).1; have := (h78).2; omega
                    exact ih_69 x98 x113 M95 R96 J94 H locs _ (iv_mono h106 (by decide) (by decide)) (iv_mono h111 (by decide) (by decide)) hm114 hS (lv_sub hl [1, 0, 5, 6, 7, 8] rfl)
                  · have q115 : a1.toInt = 0 := ti_eq c108
                    have h116 : iv 0 0 a1 := ⟨by have := (h6).1; have := ((iv_c (c := 0) (n := 0) (by decide))).1; omega, by have := (h6).2; have := ((iv_c (c := 0) (n := 0) (by decide))).2; omega⟩
                    refine lv_aload_n hx hb dX4_play_176 rfl (lv_at hl 7 rfl) ?_
                    obtain ⟨sy0, sy1, hY0, hY1⟩ := hT.2.2.2.2
                    refine va_getsN hx hb hY0 hS.1.2.2 hown (va_Nw.use rfl hK.2.2.1.2.2.2.2.2.2.1) (fun _ h => h) dX4_play_177 ?_
                    refine lv_iload hx hb dX4_play_180 (lv_at hl 4 rfl) ?_
                    refine va_ti hx hb hY1 hS.1.2.2 (iv_in h78 ⟨by decide, by decide⟩) rfl dX4_play_182 ?_
                    refine tw_top (fun x118 => ?_)
                    have h117 := iv_any x118
                    refine tw_puti hx hb hW hown hK hS f_X4_97_4 hz_a0 hk_a0 rfl rfl (lo := (-2147483648)) (hi := 2147483647) rfl h117 rfl dX4_play_183 (fun H locs M121 hS k119 f120 => ?_)
                    refine tw_iinc (lv' := fun x124 => [(5, .int x124), (4, .int x98), (8, .int x98), (7, .int 0), (6, .int 0), (3, .int x66), (2, .int x62), (0, .ref (base + a0)), (1, .int a1)]) (lo := 1) (hi := 3) hx hb dX4_play_186 hl (k := 4) rfl h78 (by decide) ⟨by decide, by decide⟩ ⟨by decide, by decide⟩ (by decide) (fun _ => rfl) (fun x124 ls e123 h122 hl => ?_)
                    refine lv_goto (tgt := 98) hx hb dX4_play_189 (by decide) ?_
                    have hm125 : 3 - x124.toInt < (n_69 : Int) := by
                      have := (h116).1; have := (h116).2; have := (h122).1; have := (h122).2; have := (h78).1; have := (h78).2; omega
                    exact ih_69 x98 x124 M121 R96 J94 H locs _ (iv_mono h106 (by decide) (by decide)) (iv_mono h122 (by decide) (by decide)) hm125 hS (lv_sub hl [1, 0, 5, 6, 7, 8] rfl)
              · have q126 : x84.toInt = 0 := ti_eq c85
                have h127 : iv 0 0 x84 := ⟨by have := (h83).1; have := ((iv_c (c := 0) (n := 0) (by decide))).1; omega, by have := (h83).2; have := ((iv_c (c := 0) (n := 0) (by decide))).2; omega⟩
                refine lv_aload_n hx hb dX4_play_136 rfl (lv_at hl 5 rfl) ?_
                refine tw_geti hx hb hW hown hK hS f_X4_28_4 hz_a0 hk_a0 (lo := (-2147483648)) (hi := 2147483647) rfl dX4_play_137 (fun x130 k129 h128 => ?_)
                refine lv_goto (tgt := 144) hx hb dX4_play_140 (by decide) ?_
                refine lv_istore (lv' := [(7, .int x130), (6, .int 0), (4, .int x67), (5, .int x68), (3, .int x66), (2, .int x62), (0, .ref (base + a0)), (1, .int a1)]) hx hb dX4_play_144 hl (by decide) rfl (fun ls hl => ?_)
                refine lv_aload_n hx hb dX4_play_146 rfl (lv_at hl 6 rfl) ?_
                refine lv_iload_n hx hb dX4_play_147 rfl (lv_at hl 7 rfl) ?_
                refine lv_iload_n hx hb dX4_play_148 rfl (lv_at hl 5 rfl) ?_
                refine lv_iload hx hb dX4_play_149 (lv_at hl 1 rfl) ?_
                refine lv_ior hx hb dX4_play_151 ?_
                refine tw_top (fun x132 => ?_)
                have h131 := iv_any x132
                refine lv_iload_n hx hb dX4_play_152 rfl (lv_at hl 4 rfl) ?_
                refine lv_iload hx hb dX4_play_153 (lv_at hl 0 rfl) ?_
                refine lv_ior hx hb dX4_play_155 ?_
                refine tw_top (fun x134 => ?_)
                have h133 := iv_any x134
                have hm135 : 3 - a1.toInt < (d : Int) := by
                  have := (h6).1; have := (h6).2; omega
                refine tw_goi hS (md_runV (As := [.int a1, .int x132, .int x134]) (rest := []) hx hb hml hown hW hK hT hS.1 (t_X4_answered l D cy tx base Z K N d ih M69 R70 J71 hS.2.1 a0 hz_a0 hk_a0 a1 h6 x132 h131 x134 h133 hm135) s_X4_93 ⟨rfl, rfl, ⟨by simp only [md_rm]; omega, by simp only [md_rm]; omega⟩, ⟨Nat.le_of_ble_eq_true rfl, Nat.le_of_ble_eq_true rfl⟩⟩ hz_a0 hk_a0 (by decide) rfl rfl hl.1 rfl (Nat.le_of_ble_eq_true rfl) dX4_play_156) rfl rfl (fun x142 H locs M139 R140 J138 hS f136 g137 E141 => ?_)
                have h_x142 := E141
                clear E141
                refine lv_istore (lv' := [(8, .int x142), (7, .int x130), (6, .int 0), (4, .int x67), (5, .int x68), (3, .int x66), (2, .int x62), (0, .ref (base + a0)), (1, .int a1)]) hx hb dX4_play_159 hl (by decide) rfl (fun ls hl => ?_)
                refine lv_iload hx hb dX4_play_161 (lv_at hl 0 rfl) ?_
                refine lv_iload hx hb dX4_play_163 (lv_at hl 3 rfl) ?_
                refine lv_icmp_le (tgt := 186) hx hb dX4_play_165 (by decide) (fun c143 => ?_) (fun c143 => ?_)
                · have q144 : x142.toInt ≤ x67.toInt := ti_le c143
                  refine tw_iinc (lv' := fun x147 => [(5, .int x147), (8, .int x142), (7, .int x130), (6, .int 0), (4, .int x67), (3, .int x66), (2, .int x62), (0, .ref (base + a0)), (1, .int a1)]) (lo := 1) (hi := 3) hx hb dX4_play_186 hl (k := 4) rfl h78 (by decide) ⟨by decide, by decide⟩ ⟨by decide, by decide⟩ (by decide) (fun _ => rfl) (fun x147 ls e146 h145 hl => ?_)
                  refine lv_goto (tgt := 98) hx hb dX4_play_189 (by decide) ?_
                  have hm148 : 3 - x147.toInt < (n_69 : Int) := by
                    have := (h6).1; have := (h6).2; have := (h145).1; have := (h145).2; have := (h78).1; have := (h78).2; omega
                  exact ih_69 x67 x147 M139 R140 J138 H locs _ h_x67 (iv_mono h145 (by decide) (by decide)) hm148 hS (lv_sub hl [4, 0, 5, 6, 7, 8] rfl)
                · have q149 : x67.toInt < x142.toInt := ti_nle c143
                  have h150 : iv (-999999999) 1000000000 x142 := iv_gtL (y := x67) h_x142 h_x67 q149 (by decide)
                  have h151 : iv (-1000000000) 999999999 x67 := iv_ltL (y := x142) h_x67 h_x142 q149 (by decide)
                  refine lv_iload hx hb dX4_play_168 (lv_at hl 0 rfl) ?_
                  refine lv_istore (lv' := [(4, .int x142), (8, .int x142), (7, .int x130), (6, .int 0), (5, .int x68), (3, .int x66), (2, .int x62), (0, .ref (base + a0)), (1, .int a1)]) hx hb dX4_play_170 hl (by decide) rfl (fun ls hl => ?_)
                  refine lv_iload_n hx hb dX4_play_172 rfl (lv_at hl 8 rfl) ?_
                  refine lv_if_ne (tgt := 186) hx hb dX4_play_173 (by decide) (fun c152 => ?_) (fun c152 => ?_)
                  · have q153 : ¬ a1.toInt = 0 := ti_ne c152
                    have h154 : iv 1 3 a1 := ⟨by have := (h6).1; have := ((iv_c (c := 0) (n := 0) (by decide))).1; have := ((iv_c (c := 0) (n := 0) (by decide))).2; omega, by have := (h6).2; have := ((iv_c (c := 0) (n := 0) (by decide))).1; have := ((iv_c (c := 0) (n := 0) (by decide))).2; omega⟩
                    refine tw_iinc (lv' := fun x157 => [(5, .int x157), (4, .int x142), (8, .int x142), (7, .int x130), (6, .int 0), (3, .int x66), (2, .int x62), (0, .ref (base + a0)), (1, .int a1)]) (lo := 1) (hi := 3) hx hb dX4_play_186 hl (k := 4) rfl h78 (by decide) ⟨by decide, by decide⟩ ⟨by decide, by decide⟩ (by decide) (fun _ => rfl) (fun x157 ls e156 h155 hl => ?_)
                    refine lv_goto (tgt := 98) hx hb dX4_play_189 (by decide) ?_
                    have hm158 : 3 - x157.toInt < (n_69 : Int) := by
                      have := (h154).1; have := (h154).2; have := (h155).1; have := (h155).2; have := (h78).1; have := (h78).2; omega
                    exact ih_69 x142 x157 M139 R140 J138 H locs _ (iv_mono h150 (by decide) (by decide)) (iv_mono h155 (by decide) (by decide)) hm158 hS (lv_sub hl [1, 0, 5, 6, 7, 8] rfl)
                  · have q159 : a1.toInt = 0 := ti_eq c152
                    have h160 : iv 0 0 a1 := ⟨by have := (h6).1; have := ((iv_c (c := 0) (n := 0) (by decide))).1; omega, by have := (h6).2; have := ((iv_c (c := 0) (n := 0) (by decide))).2; omega⟩
                    refine lv_aload_n hx hb dX4_play_176 rfl (lv_at hl 7 rfl) ?_
                    obtain ⟨sy0, sy1, hY0, hY1⟩ := hT.2.2.2.2
                    refine va_getsN hx hb hY0 hS.1.2.2 hown (va_Nw.use rfl hK.2.2.1.2.2.2.2.2.2.1) (fun _ h => h) dX4_play_177 ?_
                    refine lv_iload hx hb dX4_play_180 (lv_at hl 4 rfl) ?_
                    refine va_ti hx hb hY1 hS.1.2.2 (iv_in h78 ⟨by decide, by decide⟩) rfl dX4_play_182 ?_
                    refine tw_top (fun x162 => ?_)
                    have h161 := iv_any x162
                    refine tw_puti hx hb hW hown hK hS f_X4_97_4 hz_a0 hk_a0 rfl rfl (lo := (-2147483648)) (hi := 2147483647) rfl h161 rfl dX4_play_183 (fun H locs M165 hS k163 f164 => ?_)
                    refine tw_iinc (lv' := fun x168 => [(5, .int x168), (4, .int x142), (8, .int x142), (7, .int x130), (6, .int 0), (3, .int x66), (2, .int x62), (0, .ref (base + a0)), (1, .int a1)]) (lo := 1) (hi := 3) hx hb dX4_play_186 hl (k := 4) rfl h78 (by decide) ⟨by decide, by decide⟩ ⟨by decide, by decide⟩ (by decide) (fun _ => rfl) (fun x168 ls e167 h166 hl => ?_)
                    refine lv_goto (tgt := 98) hx hb dX4_play_189 (by decide) ?_
                    have hm169 : 3 - x168.toInt < (n_69 : Int) := by
                      have := (h160).1; have := (h160).2; have := (h166).1; have := (h166).2; have := (h78).1; have := (h78).2; omega
                    exact ih_69 x142 x168 M165 R140 J138 H locs _ (iv_mono h150 (by decide) (by decide)) (iv_mono h166 (by decide) (by decide)) hm169 hS (lv_sub hl [1, 0, 5, 6, 7, 8] rfl)
            · have q170 : x80.toInt = 1 := ti_eq c81
              have h171 : iv 1 1 x80 := ⟨by have := (h79).1; have := ((iv_c (c := 1) (n := 1) (by decide))).1; omega, by have := (h79).2; have := ((iv_c (c := 1) (n := 1) (by decide))).2; omega⟩
              refine lv_aload_n hx hb dX4_play_117 rfl (lv_at hl 4 rfl) ?_
              refine tw_geti hx hb hW hown hK hS f_X4_28_4 hz_a0 hk_a0 (lo := (-2147483648)) (hi := 2147483647) rfl dX4_play_118 (fun x174 k173 h172 => ?_)
              refine lv_goto (tgt := 125) hx hb dX4_play_121 (by decide) ?_
              refine lv_istore (lv' := [(6, .int x174), (4, .int x67), (5, .int x68), (3, .int x66), (2, .int x62), (0, .ref (base + a0)), (1, .int a1)]) hx hb dX4_play_125 hl (by decide) rfl (fun ls hl => ?_)
              obtain ⟨sy0, sy1, hY0, hY1⟩ := hT.2.2.2.2
              refine va_getsN hx hb hY0 hS.1.2.2 hown (va_Nw.use rfl hK.2.2.1.2.2.2.2.2.2.1) (fun _ h => h) dX4_play_127 ?_
              refine lv_iload hx hb dX4_play_130 (lv_at hl 2 rfl) ?_
              refine va_ti hx hb hY1 hS.1.2.2 (iv_in h78 ⟨by decide, by decide⟩) rfl dX4_play_132 ?_
              refine tw_top (fun x176 => ?_)
              have h175 := iv_any x176
              refine lv_if_ne (tgt := 143) hx hb dX4_play_133 (by decide) (fun c177 => ?_) (fun c177 => ?_)
              · have q178 : ¬ x176.toInt = 0 := ti_ne c177
                refine lv_iconst (v := 0) hx hb dX4_play_143 (by decide) ?_
                refine lv_istore (lv' := [(7, .int 0), (6, .int x174), (4, .int x67), (5, .int x68), (3, .int x66), (2, .int x62), (0, .ref (base + a0)), (1, .int a1)]) hx hb dX4_play_144 hl (by decide) rfl (fun ls hl => ?_)
                refine lv_aload_n hx hb dX4_play_146 rfl (lv_at hl 6 rfl) ?_
                refine lv_iload_n hx hb dX4_play_147 rfl (lv_at hl 7 rfl) ?_
                refine lv_iload_n hx hb dX4_play_148 rfl (lv_at hl 5 rfl) ?_
                refine lv_iload hx hb dX4_play_149 (lv_at hl 1 rfl) ?_
                refine lv_ior hx hb dX4_play_151 ?_
                refine tw_top (fun x180 => ?_)
                have h179 := iv_any x180
                refine lv_iload_n hx hb dX4_play_152 rfl (lv_at hl 4 rfl) ?_
                refine lv_iload hx hb dX4_play_153 (lv_at hl 0 rfl) ?_
                refine lv_ior hx hb dX4_play_155 ?_
                refine tw_top (fun x182 => ?_)
                have h181 := iv_any x182
                have hm183 : 3 - a1.toInt < (d : Int) := by
                  have := (h6).1; have := (h6).2; omega
                refine tw_goi hS (md_runV (As := [.int a1, .int x180, .int x182]) (rest := []) hx hb hml hown hW hK hT hS.1 (t_X4_answered l D cy tx base Z K N d ih M69 R70 J71 hS.2.1 a0 hz_a0 hk_a0 a1 h6 x180 h179 x182 h181 hm183) s_X4_93 ⟨rfl, rfl, ⟨by simp only [md_rm]; omega, by simp only [md_rm]; omega⟩, ⟨Nat.le_of_ble_eq_true rfl, Nat.le_of_ble_eq_true rfl⟩⟩ hz_a0 hk_a0 (by decide) rfl rfl hl.1 rfl (Nat.le_of_ble_eq_true rfl) dX4_play_156) rfl rfl (fun x190 H locs M187 R188 J186 hS f184 g185 E189 => ?_)
                have h_x190 := E189
                clear E189
                refine lv_istore (lv' := [(8, .int x190), (7, .int 0), (6, .int x174), (4, .int x67), (5, .int x68), (3, .int x66), (2, .int x62), (0, .ref (base + a0)), (1, .int a1)]) hx hb dX4_play_159 hl (by decide) rfl (fun ls hl => ?_)
                refine lv_iload hx hb dX4_play_161 (lv_at hl 0 rfl) ?_
                refine lv_iload hx hb dX4_play_163 (lv_at hl 3 rfl) ?_
                refine lv_icmp_le (tgt := 186) hx hb dX4_play_165 (by decide) (fun c191 => ?_) (fun c191 => ?_)
                · have q192 : x190.toInt ≤ x67.toInt := ti_le c191
                  refine tw_iinc (lv' := fun x195 => [(5, .int x195), (8, .int x190), (7, .int 0), (6, .int x174), (4, .int x67), (3, .int x66), (2, .int x62), (0, .ref (base + a0)), (1, .int a1)]) (lo := 1) (hi := 3) hx hb dX4_play_186 hl (k := 4) rfl h78 (by decide) ⟨by decide, by decide⟩ ⟨by decide, by decide⟩ (by decide) (fun _ => rfl) (fun x195 ls e194 h193 hl => ?_)
                  refine lv_goto (tgt := 98) hx hb dX4_play_189 (by decide) ?_
                  have hm196 : 3 - x195.toInt < (n_69 : Int) := by
                    have := (h6).1; have := (h6).2; have := (h193).1; have := (h193).2; have := (h78).1; have := (h78).2; omega
                  exact ih_69 x67 x195 M187 R188 J186 H locs _ h_x67 (iv_mono h193 (by decide) (by decide)) hm196 hS (lv_sub hl [4, 0, 5, 6, 7, 8] rfl)
                · have q197 : x67.toInt < x190.toInt := ti_nle c191
                  have h198 : iv (-999999999) 1000000000 x190 := iv_gtL (y := x67) h_x190 h_x67 q197 (by decide)
                  have h199 : iv (-1000000000) 999999999 x67 := iv_ltL (y := x190) h_x67 h_x190 q197 (by decide)
                  refine lv_iload hx hb dX4_play_168 (lv_at hl 0 rfl) ?_
                  refine lv_istore (lv' := [(4, .int x190), (8, .int x190), (7, .int 0), (6, .int x174), (5, .int x68), (3, .int x66), (2, .int x62), (0, .ref (base + a0)), (1, .int a1)]) hx hb dX4_play_170 hl (by decide) rfl (fun ls hl => ?_)
                  refine lv_iload_n hx hb dX4_play_172 rfl (lv_at hl 8 rfl) ?_
                  refine lv_if_ne (tgt := 186) hx hb dX4_play_173 (by decide) (fun c200 => ?_) (fun c200 => ?_)
                  · have q201 : ¬ a1.toInt = 0 := ti_ne c200
                    have h202 : iv 1 3 a1 := ⟨by have := (h6).1; have := ((iv_c (c := 0) (n := 0) (by decide))).1; have := ((iv_c (c := 0) (n := 0) (by decide))).2; omega, by have := (h6).2; have := ((iv_c (c := 0) (n := 0) (by decide))).1; have := ((iv_c (c := 0) (n := 0) (by decide))).2; omega⟩
                    refine tw_iinc (lv' := fun x205 => [(5, .int x205), (4, .int x190), (8, .int x190), (7, .int 0), (6, .int x174), (3, .int x66), (2, .int x62), (0, .ref (base + a0)), (1, .int a1)]) (lo := 1) (hi := 3) hx hb dX4_play_186 hl (k := 4) rfl h78 (by decide) ⟨by decide, by decide⟩ ⟨by decide, by decide⟩ (by decide) (fun _ => rfl) (fun x205 ls e204 h203 hl => ?_)
                    refine lv_goto (tgt := 98) hx hb dX4_play_189 (by decide) ?_
                    have hm206 : 3 - x205.toInt < (n_69 : Int) := by
                      have := (h202).1; have := (h202).2; have := (h203).1; have := (h203).2; have := (h78).1; have := (h78).2; omega
                    exact ih_69 x190 x205 M187 R188 J186 H locs _ (iv_mono h198 (by decide) (by decide)) (iv_mono h203 (by decide) (by decide)) hm206 hS (lv_sub hl [1, 0, 5, 6, 7, 8] rfl)
                  · have q207 : a1.toInt = 0 := ti_eq c200
                    have h208 : iv 0 0 a1 := ⟨by have := (h6).1; have := ((iv_c (c := 0) (n := 0) (by decide))).1; omega, by have := (h6).2; have := ((iv_c (c := 0) (n := 0) (by decide))).2; omega⟩
                    refine lv_aload_n hx hb dX4_play_176 rfl (lv_at hl 7 rfl) ?_
                    obtain ⟨sy0, sy1, hY0, hY1⟩ := hT.2.2.2.2
                    refine va_getsN hx hb hY0 hS.1.2.2 hown (va_Nw.use rfl hK.2.2.1.2.2.2.2.2.2.1) (fun _ h => h) dX4_play_177 ?_
                    refine lv_iload hx hb dX4_play_180 (lv_at hl 4 rfl) ?_
                    refine va_ti hx hb hY1 hS.1.2.2 (iv_in h78 ⟨by decide, by decide⟩) rfl dX4_play_182 ?_
                    refine tw_top (fun x210 => ?_)
                    have h209 := iv_any x210
                    refine tw_puti hx hb hW hown hK hS f_X4_97_4 hz_a0 hk_a0 rfl rfl (lo := (-2147483648)) (hi := 2147483647) rfl h209 rfl dX4_play_183 (fun H locs M213 hS k211 f212 => ?_)
                    refine tw_iinc (lv' := fun x216 => [(5, .int x216), (4, .int x190), (8, .int x190), (7, .int 0), (6, .int x174), (3, .int x66), (2, .int x62), (0, .ref (base + a0)), (1, .int a1)]) (lo := 1) (hi := 3) hx hb dX4_play_186 hl (k := 4) rfl h78 (by decide) ⟨by decide, by decide⟩ ⟨by decide, by decide⟩ (by decide) (fun _ => rfl) (fun x216 ls e215 h214 hl => ?_)
                    refine lv_goto (tgt := 98) hx hb dX4_play_189 (by decide) ?_
                    have hm217 : 3 - x216.toInt < (n_69 : Int) := by
                      have := (h208).1; have := (h208).2; have := (h214).1; have := (h214).2; have := (h78).1; have := (h78).2; omega
                    exact ih_69 x190 x216 M213 R188 J186 H locs _ (iv_mono h198 (by decide) (by decide)) (iv_mono h214 (by decide) (by decide)) hm217 hS (lv_sub hl [1, 0, 5, 6, 7, 8] rfl)
              · have q218 : x176.toInt = 0 := ti_eq c177
                have h219 : iv 0 0 x176 := ⟨by have := (h175).1; have := ((iv_c (c := 0) (n := 0) (by decide))).1; omega, by have := (h175).2; have := ((iv_c (c := 0) (n := 0) (by decide))).2; omega⟩
                refine lv_aload_n hx hb dX4_play_136 rfl (lv_at hl 5 rfl) ?_
                refine tw_getk hx hb hW hown hK hS f_X4_28_4 hz_a0 hk_a0 (v := x174) k173 dX4_play_137 ?_
                refine lv_goto (tgt := 144) hx hb dX4_play_140 (by decide) ?_
                refine lv_istore (lv' := [(7, .int x174), (6, .int x174), (4, .int x67), (5, .int x68), (3, .int x66), (2, .int x62), (0, .ref (base + a0)), (1, .int a1)]) hx hb dX4_play_144 hl (by decide) rfl (fun ls hl => ?_)
                refine lv_aload_n hx hb dX4_play_146 rfl (lv_at hl 6 rfl) ?_
                refine lv_iload_n hx hb dX4_play_147 rfl (lv_at hl 7 rfl) ?_
                refine lv_iload_n hx hb dX4_play_148 rfl (lv_at hl 5 rfl) ?_
                refine lv_iload hx hb dX4_play_149 (lv_at hl 1 rfl) ?_
                refine lv_ior hx hb dX4_play_151 ?_
                refine tw_top (fun x221 => ?_)
                have h220 := iv_any x221
                refine lv_iload_n hx hb dX4_play_152 rfl (lv_at hl 4 rfl) ?_
                refine lv_iload hx hb dX4_play_153 (lv_at hl 0 rfl) ?_
                refine lv_ior hx hb dX4_play_155 ?_
                refine tw_top (fun x223 => ?_)
                have h222 := iv_any x223
                have hm224 : 3 - a1.toInt < (d : Int) := by
                  have := (h6).1; have := (h6).2; omega
                refine tw_goi hS (md_runV (As := [.int a1, .int x221, .int x223]) (rest := []) hx hb hml hown hW hK hT hS.1 (t_X4_answered l D cy tx base Z K N d ih M69 R70 J71 hS.2.1 a0 hz_a0 hk_a0 a1 h6 x221 h220 x223 h222 hm224) s_X4_93 ⟨rfl, rfl, ⟨by simp only [md_rm]; omega, by simp only [md_rm]; omega⟩, ⟨Nat.le_of_ble_eq_true rfl, Nat.le_of_ble_eq_true rfl⟩⟩ hz_a0 hk_a0 (by decide) rfl rfl hl.1 rfl (Nat.le_of_ble_eq_true rfl) dX4_play_156) rfl rfl (fun x231 H locs M228 R229 J227 hS f225 g226 E230 => ?_)
                have h_x231 := E230
                clear E230
                refine lv_istore (lv' := [(8, .int x231), (7, .int x174), (6, .int x174), (4, .int x67), (5, .int x68), (3, .int x66), (2, .int x62), (0, .ref (base + a0)), (1, .int a1)]) hx hb dX4_play_159 hl (by decide) rfl (fun ls hl => ?_)
                refine lv_iload hx hb dX4_play_161 (lv_at hl 0 rfl) ?_
                refine lv_iload hx hb dX4_play_163 (lv_at hl 3 rfl) ?_
                refine lv_icmp_le (tgt := 186) hx hb dX4_play_165 (by decide) (fun c232 => ?_) (fun c232 => ?_)
                · have q233 : x231.toInt ≤ x67.toInt := ti_le c232
                  refine tw_iinc (lv' := fun x236 => [(5, .int x236), (8, .int x231), (7, .int x174), (6, .int x174), (4, .int x67), (3, .int x66), (2, .int x62), (0, .ref (base + a0)), (1, .int a1)]) (lo := 1) (hi := 3) hx hb dX4_play_186 hl (k := 4) rfl h78 (by decide) ⟨by decide, by decide⟩ ⟨by decide, by decide⟩ (by decide) (fun _ => rfl) (fun x236 ls e235 h234 hl => ?_)
                  refine lv_goto (tgt := 98) hx hb dX4_play_189 (by decide) ?_
                  have hm237 : 3 - x236.toInt < (n_69 : Int) := by
                    have := (h6).1; have := (h6).2; have := (h234).1; have := (h234).2; have := (h78).1; have := (h78).2; omega
                  exact ih_69 x67 x236 M228 R229 J227 H locs _ h_x67 (iv_mono h234 (by decide) (by decide)) hm237 hS (lv_sub hl [4, 0, 5, 6, 7, 8] rfl)
                · have q238 : x67.toInt < x231.toInt := ti_nle c232
                  have h239 : iv (-999999999) 1000000000 x231 := iv_gtL (y := x67) h_x231 h_x67 q238 (by decide)
                  have h240 : iv (-1000000000) 999999999 x67 := iv_ltL (y := x231) h_x67 h_x231 q238 (by decide)
                  refine lv_iload hx hb dX4_play_168 (lv_at hl 0 rfl) ?_
                  refine lv_istore (lv' := [(4, .int x231), (8, .int x231), (7, .int x174), (6, .int x174), (5, .int x68), (3, .int x66), (2, .int x62), (0, .ref (base + a0)), (1, .int a1)]) hx hb dX4_play_170 hl (by decide) rfl (fun ls hl => ?_)
                  refine lv_iload_n hx hb dX4_play_172 rfl (lv_at hl 8 rfl) ?_
                  refine lv_if_ne (tgt := 186) hx hb dX4_play_173 (by decide) (fun c241 => ?_) (fun c241 => ?_)
                  · have q242 : ¬ a1.toInt = 0 := ti_ne c241
                    have h243 : iv 1 3 a1 := ⟨by have := (h6).1; have := ((iv_c (c := 0) (n := 0) (by decide))).1; have := ((iv_c (c := 0) (n := 0) (by decide))).2; omega, by have := (h6).2; have := ((iv_c (c := 0) (n := 0) (by decide))).1; have := ((iv_c (c := 0) (n := 0) (by decide))).2; omega⟩
                    refine tw_iinc (lv' := fun x246 => [(5, .int x246), (4, .int x231), (8, .int x231), (7, .int x174), (6, .int x174), (3, .int x66), (2, .int x62), (0, .ref (base + a0)), (1, .int a1)]) (lo := 1) (hi := 3) hx hb dX4_play_186 hl (k := 4) rfl h78 (by decide) ⟨by decide, by decide⟩ ⟨by decide, by decide⟩ (by decide) (fun _ => rfl) (fun x246 ls e245 h244 hl => ?_)
                    refine lv_goto (tgt := 98) hx hb dX4_play_189 (by decide) ?_
                    have hm247 : 3 - x246.toInt < (n_69 : Int) := by
                      have := (h243).1; have := (h243).2; have := (h244).1; have := (h244).2; have := (h78).1; have := (h78).2; omega
                    exact ih_69 x231 x246 M228 R229 J227 H locs _ (iv_mono h239 (by decide) (by decide)) (iv_mono h244 (by decide) (by decide)) hm247 hS (lv_sub hl [1, 0, 5, 6, 7, 8] rfl)
                  · have q248 : a1.toInt = 0 := ti_eq c241
                    have h249 : iv 0 0 a1 := ⟨by have := (h6).1; have := ((iv_c (c := 0) (n := 0) (by decide))).1; omega, by have := (h6).2; have := ((iv_c (c := 0) (n := 0) (by decide))).2; omega⟩
                    refine lv_aload_n hx hb dX4_play_176 rfl (lv_at hl 7 rfl) ?_
                    obtain ⟨sy0, sy1, hY0, hY1⟩ := hT.2.2.2.2
                    refine va_getsN hx hb hY0 hS.1.2.2 hown (va_Nw.use rfl hK.2.2.1.2.2.2.2.2.2.1) (fun _ h => h) dX4_play_177 ?_
                    refine lv_iload hx hb dX4_play_180 (lv_at hl 4 rfl) ?_
                    refine va_ti hx hb hY1 hS.1.2.2 (iv_in h78 ⟨by decide, by decide⟩) rfl dX4_play_182 ?_
                    refine tw_top (fun x251 => ?_)
                    have h250 := iv_any x251
                    refine tw_puti hx hb hW hown hK hS f_X4_97_4 hz_a0 hk_a0 rfl rfl (lo := (-2147483648)) (hi := 2147483647) rfl h250 rfl dX4_play_183 (fun H locs M254 hS k252 f253 => ?_)
                    refine tw_iinc (lv' := fun x257 => [(5, .int x257), (4, .int x231), (8, .int x231), (7, .int x174), (6, .int x174), (3, .int x66), (2, .int x62), (0, .ref (base + a0)), (1, .int a1)]) (lo := 1) (hi := 3) hx hb dX4_play_186 hl (k := 4) rfl h78 (by decide) ⟨by decide, by decide⟩ ⟨by decide, by decide⟩ (by decide) (fun _ => rfl) (fun x257 ls e256 h255 hl => ?_)
                    refine lv_goto (tgt := 98) hx hb dX4_play_189 (by decide) ?_
                    have hm258 : 3 - x257.toInt < (n_69 : Int) := by
                      have := (h249).1; have := (h249).2; have := (h255).1; have := (h255).2; have := (h78).1; have := (h78).2; omega
                    exact ih_69 x231 x257 M254 R229 J227 H locs _ (iv_mono h239 (by decide) (by decide)) (iv_mono h255 (by decide) (by decide)) hm258 hS (lv_sub hl [1, 0, 5, 6, 7, 8] rfl)
      have hm259 : 3 - (0 : Int32).toInt < (((4 : Nat) : Int) : Int) := by
        have := (h6).1; have := (h6).2; have : (0 : Int32).toInt = 0 := (by decide); omega
      exact W98_69 4 (-1000000000) 0 M56 R30 J55 H locs _ (iv_mono (iv_c (c := (-1000000000)) (n := (-1000000000)) (by decide)) (by decide) (by decide)) (iv_mono (iv_c (c := 0) (n := 0) (by decide)) (by decide) (by decide)) hm259 hS (lv_sub hl [1, 0, 2, 3, 4, 5] rfl)
    · have q260 : x3.toInt ≤ a1.toInt := ti_nlt c4
      refine lv_iconst (v := 0) hx hb dX4_play_8 (by decide) ?_
      exact tw_endi hx hb hr hlocks hK hT hS hQ ((iv_mono (iv_c (c := 0) (n := 0) (by decide)) (by decide) (by decide))) dX4_play_9
def Lt_X9_worthOfSet : WL := []
def LRt_X9_worthOfSet : WL := []
set_option maxRecDepth 100000 in
set_option maxHeartbeats 4000000 in
theorem t_X9_worthOfSet (l : Launch) (D : va_G) (cy : Nat → ClassId) (tx : (Nat → Nat) × (Nat → Nat)) (base Z : Nat) (K N : Nat → Nat) (Ma : MT) (Ra : RT) (Ja : JT) (hTy : Ty Z K N Ma Ra) (a0 : Nat) (hz_a0 : a0 < Z) (hk_a0 : K a0 = 10) (a1 : Int32) (h_a1 : iv (-2147483648) 2147483647 a1) (a2 : Int32) (h_a2 : iv 0 11 a2) : Met l yX9_worthOfSet [Cond.code yX9_worthOfSet cX9_worthOfSet 5 (some .int)] (md_rm 2 0 0) (va_Pc [.ref (base + a0), .int a1, .int a2] (md_U D cy tx base Z K N Ma Ra Ja)) (mQi D cy tx base (fun r u => TP Z K N Lt_X9_worthOfSet LRt_X9_worthOfSet Ma Ra u ∧ (iv (-2147483648) 2147483647 r))) 0 0 (fun q => base ≤ q) := by
  refine tw_ofW (L := Lt_X9_worthOfSet) (LR := LRt_X9_worthOfSet) (by decide) (Nat.le_of_ble_eq_true rfl) hTy ?_
  intro p e s m args below meth c Q ls hx hb hr hlocks hown hml hW hK hT hS hQ hl
  have hl : lv_has ls 5 [(0, .ref (base + a0)), (1, .int a1), (2, .int a2)] := hl
  refine lv_iconst (v := 0) hx hb dX9_worthOfSet_0 (by decide) ?_
  refine lv_istore_n (lv' := [(3, .int 0), (0, .ref (base + a0)), (1, .int a1), (2, .int a2)]) hx hb dX9_worthOfSet_1 rfl hl (by decide) rfl (fun ls hl => ?_)
  refine lv_iconst (v := 0) hx hb dX9_worthOfSet_2 (by decide) ?_
  refine lv_istore (lv' := [(4, .int 0), (3, .int 0), (0, .ref (base + a0)), (1, .int a1), (2, .int a2)]) hx hb dX9_worthOfSet_3 hl (by decide) rfl (fun ls hl => ?_)
  have W5_3 : ∀ (n_3 : Nat) (x1 : Int32) (x2 : Int32) (M3 : MT) (R4 : RT) (J5 : JT) (H : Heap) (locs : List Loc) (ls : Array Slot) (h_x1 : iv (-2147483648) 2147483647 x1) (h_x2 : iv 0 10 x2) (hm_3 : 10 - x2.toInt < (n_3 : Int)) (hS : SB D cy base Z K N Lt_X9_worthOfSet LRt_X9_worthOfSet Ma Ra M3 R4 J5 s H locs) (hl : lv_has ls 5 [(3, .int x1), (4, .int x2), (0, .ref (base + a0)), (1, .int a1), (2, .int a2)]), W p l e (md_rm 2 0 0) s m args below meth c H locs 0 0 Q (F0 m 5 ls []) := by
    intro n_3
    induction n_3 with
    | zero =>
      intro x1 x2 M3 R4 J5 H locs ls h_x1 h_x2 hm_3 hS hl
      exfalso
      have := (h_a1).1; have := (h_a1).2; have := (h_a2).1; have := (h_a2).2; have := (h_x2).1; have := (h_x2).2; omega
    | succ n_3 ih_3 =>
      intro x1 x2 M3 R4 J5 H locs ls h_x1 h_x2 hm_3 hS hl
      have f6 := hS.2.2.1
      have g7 := hS.2.2.2
      refine lv_iload hx hb dX9_worthOfSet_5 (lv_at hl 1 rfl) ?_
      refine lv_aload_n hx hb dX9_worthOfSet_7 rfl (lv_at hl 2 rfl) ?_
      refine tw_geti hx hb hW hown hK hS f_X9_33_9 hz_a0 hk_a0 (lo := (-2147483648)) (hi := 10) rfl dX9_worthOfSet_8 (fun x10 k9 h8 => ?_)
      refine lv_icmp_ge (tgt := 40) hx hb dX9_worthOfSet_11 (by decide) (fun c11 => ?_) (fun c11 => ?_)
      · have q12 : x10.toInt ≤ x2.toInt := ti_le c11
        refine lv_iload_n hx hb dX9_worthOfSet_40 rfl (lv_at hl 0 rfl) ?_
        exact tw_endi hx hb hr hlocks hK hT hS hQ (h_x1) dX9_worthOfSet_41
      · have q13 : x2.toInt < x10.toInt := ti_nle c11
        have h14 : iv 0 9 x2 := iv_ltL (y := x10) h_x2 h8 q13 (by decide)
        have h15 : iv 1 10 x10 := iv_gtL (y := x2) h8 h_x2 q13 (by decide)
        refine lv_iload_n hx hb dX9_worthOfSet_14 rfl (lv_at hl 3 rfl) ?_
        refine lv_iload hx hb dX9_worthOfSet_15 (lv_at hl 1 rfl) ?_
        refine lv_ishr hx hb dX9_worthOfSet_17 ?_
        refine tw_top (fun x17 => ?_)
        have h16 := iv_any x17
        refine lv_iconst (v := 1) hx hb dX9_worthOfSet_18 (by decide) ?_
        refine tw_iand (hi := 1) hx hb (iv_mono (iv_c (c := 1) (n := 1) (by decide)) (lo := 0) (hi := 1) (by decide) (by decide)) (by decide) dX9_worthOfSet_19 (fun x20 h18 => ?_)
        refine lv_iconst (v := 1) hx hb dX9_worthOfSet_20 (by decide) ?_
        refine lv_icmp_ne (tgt := 34) hx hb dX9_worthOfSet_21 (by decide) (fun c21 => ?_) (fun c21 => ?_)
        · have q22 : ¬ x20.toInt = 1 := ti_ne c21
          have h23 : iv 0 0 x20 := ⟨by have := (h18).1; have := ((iv_c (c := 1) (n := 1) (by decide))).1; have := ((iv_c (c := 1) (n := 1) (by decide))).2; omega, by have := (h18).2; have := ((iv_c (c := 1) (n := 1) (by decide))).1; have := ((iv_c (c := 1) (n := 1) (by decide))).2; omega⟩
          refine tw_iinc (lv' := fun x26 => [(4, .int x26), (3, .int x1), (0, .ref (base + a0)), (1, .int a1), (2, .int a2)]) (lo := 1) (hi := 10) hx hb dX9_worthOfSet_34 hl (k := 1) rfl h14 (by decide) ⟨by decide, by decide⟩ ⟨by decide, by decide⟩ (by decide) (fun _ => rfl) (fun x26 ls e25 h24 hl => ?_)
          refine lv_goto (tgt := 5) hx hb dX9_worthOfSet_37 (by decide) ?_
          have hm27 : 10 - x26.toInt < (n_3 : Int) := by
            have := (h_a1).1; have := (h_a1).2; have := (h_a2).1; have := (h_a2).2; have := (h14).1; have := (h14).2; have := (h24).1; have := (h24).2; omega
          exact ih_3 x1 x26 M3 R4 J5 H locs _ h_x1 (iv_mono h24 (by decide) (by decide)) hm27 hS (lv_sub hl [1, 0, 2, 3, 4] rfl)
        · have q28 : x20.toInt = 1 := ti_eq c21
          have h29 : iv 1 1 x20 := ⟨by have := (h18).1; have := ((iv_c (c := 1) (n := 1) (by decide))).1; omega, by have := (h18).2; have := ((iv_c (c := 1) (n := 1) (by decide))).2; omega⟩
          refine lv_iload_n hx hb dX9_worthOfSet_24 rfl (lv_at hl 0 rfl) ?_
          refine lv_aload_n hx hb dX9_worthOfSet_25 rfl (lv_at hl 2 rfl) ?_
          refine lv_iload hx hb dX9_worthOfSet_26 (lv_at hl 1 rfl) ?_
          refine lv_iload_n hx hb dX9_worthOfSet_28 rfl (lv_at hl 4 rfl) ?_
          refine tw_goi hS (md_runV (As := [.int x2, .int a2]) (rest := [.int x1]) hx hb hml hown hW hK hT hS.1 (t_X9_worthOf l D cy tx base Z K N M3 R4 J5 hS.2.1 a0 hz_a0 hk_a0 x2 h14 a2 h_a2) s_X9_71 ⟨rfl, rfl, ⟨Nat.le_of_ble_eq_true rfl, Nat.le_of_ble_eq_true rfl⟩, ⟨Nat.le_of_ble_eq_true rfl, Nat.le_of_ble_eq_true rfl⟩⟩ hz_a0 hk_a0 (by decide) rfl rfl hl.1 rfl (Nat.le_of_ble_eq_true rfl) dX9_worthOfSet_29) rfl rfl (fun x36 H locs M33 R34 J32 hS f30 g31 E35 => ?_)
          have eM33 := Fr.nil f30 rfl
          subst eM33
          have eR34 := Fr.nil g31 rfl
          subst eR34
          have h_x36 := E35
          clear E35
          refine lv_iadd hx hb dX9_worthOfSet_32 ?_
          refine tw_top (fun x38 => ?_)
          have h37 := iv_any x38
          refine lv_istore_n (lv' := [(3, .int x38), (4, .int x2), (0, .ref (base + a0)), (1, .int a1), (2, .int a2)]) hx hb dX9_worthOfSet_33 rfl hl (by decide) rfl (fun ls hl => ?_)
          refine tw_iinc (lv' := fun x41 => [(4, .int x41), (3, .int x38), (0, .ref (base + a0)), (1, .int a1), (2, .int a2)]) (lo := 1) (hi := 10) hx hb dX9_worthOfSet_34 hl (k := 1) rfl h14 (by decide) ⟨by decide, by decide⟩ ⟨by decide, by decide⟩ (by decide) (fun _ => rfl) (fun x41 ls e40 h39 hl => ?_)
          refine lv_goto (tgt := 5) hx hb dX9_worthOfSet_37 (by decide) ?_
          have hm42 : 10 - x41.toInt < (n_3 : Int) := by
            have := (h_a1).1; have := (h_a1).2; have := (h_a2).1; have := (h_a2).2; have := (h14).1; have := (h14).2; have := (h39).1; have := (h39).2; omega
          exact ih_3 x38 x41 M3 R4 J32 H locs _ h37 (iv_mono h39 (by decide) (by decide)) hm42 hS (lv_sub hl [1, 0, 2, 3, 4] rfl)
  have hm43 : 10 - (0 : Int32).toInt < (((11 : Nat) : Int) : Int) := by
    have := (h_a1).1; have := (h_a1).2; have := (h_a2).1; have := (h_a2).2; have : (0 : Int32).toInt = 0 := (by decide); omega
  exact W5_3 11 0 0 Ma Ra Ja s.heap [] _ (iv_mono (iv_c (c := 0) (n := 0) (by decide)) (by decide) (by decide)) (iv_mono (iv_c (c := 0) (n := 0) (by decide)) (by decide) (by decide)) hm43 hS (lv_sub hl [1, 0, 2, 3, 4] rfl)
def Lt_X4_fight : WL := [(5, 4, 8), (6, 2, 4), (6, 6, 15), (14, 0, 2000000), (20, 0, 2000000)]
def LRt_X4_fight : WL := [(6, 4, 6)]
set_option maxRecDepth 100000 in
set_option maxHeartbeats 4000000 in
theorem t_X4_fight (l : Launch) (D : va_G) (cy : Nat → ClassId) (tx : (Nat → Nat) × (Nat → Nat)) (base Z : Nat) (K N : Nat → Nat) (Ma : MT) (Ra : RT) (Ja : JT) (hTy : Ty Z K N Ma Ra) (a0 : Nat) (hz_a0 : a0 < Z) (hk_a0 : K a0 = 5) (a1 : Int32) (h_a1 : iv (-2147483648) 2147483647 a1) (a2 : Int32) (h_a2 : iv (-2147483648) 2147483647 a2) : Met l yX4_fight [Cond.code yX4_fight cX4_fight 5 (some .int)] (md_rm 16 0 0) (va_Pc [.ref (base + a0), .int a1, .int a2] (md_U D cy tx base Z K N Ma Ra Ja)) (mQi D cy tx base (fun r u => TP Z K N Lt_X4_fight LRt_X4_fight Ma Ra u ∧ (iv (-1000000000) 1000000000 r))) 0 0 (fun q => base ≤ q) := by
  refine tw_ofW (L := Lt_X4_fight) (LR := LRt_X4_fight) (by decide) (Nat.le_of_ble_eq_true rfl) hTy ?_
  intro p e s m args below meth c Q ls hx hb hr hlocks hown hml hW hK hT hS hQ hl
  have hl : lv_has ls 5 [(0, .ref (base + a0)), (1, .int a1), (2, .int a2)] := hl
  refine lv_aload_n hx hb dX4_fight_0 rfl (lv_at hl 0 rfl) ?_
  refine lv_iload_n hx hb dX4_fight_1 rfl (lv_at hl 1 rfl) ?_
  refine tw_puti hx hb hW hown hK hS f_X4_28_4 hz_a0 hk_a0 rfl rfl (lo := (-2147483648)) (hi := 2147483647) rfl h_a1 rfl dX4_fight_2 (fun H locs M3 hS k1 f2 => ?_)
  refine lv_aload_n hx hb dX4_fight_5 rfl (lv_at hl 0 rfl) ?_
  refine lv_iload_n hx hb dX4_fight_6 rfl (lv_at hl 2 rfl) ?_
  refine tw_puti hx hb hW hown hK hS f_X4_32_4 hz_a0 hk_a0 rfl rfl (lo := (-2147483648)) (hi := 2147483647) rfl h_a2 rfl dX4_fight_7 (fun H locs M6 hS k4 f5 => ?_)
  refine lv_aload_n hx hb dX4_fight_10 rfl (lv_at hl 0 rfl) ?_
  refine lv_aload_n hx hb dX4_fight_11 rfl (lv_at hl 0 rfl) ?_
  refine tw_getr hx hb hW hown hK hS f_X4_20_4 hz_a0 hk_a0 (t := 10) (n := 0) rfl dX4_fight_12 (fun b7 k8 hz_b7 hk_b7 hn_b7 => ?_)
  refine tw_geti hx hb hW hown hK hS f_X4_35_9 hz_b7 hk_b7 (lo := 0) (hi := 8) rfl dX4_fight_15 (fun x11 k10 h9 => ?_)
  refine lv_iconst (v := 4) hx hb dX4_fight_18 (by decide) ?_
  refine va_mmin hx hb (hml.trans hl.1.symm) hown (hW _ w_5_93 rfl) (hW _ w_3_86 rfl) (hW _ w_1_13 rfl) (hW _ w_3_87 rfl) (Nat.le_of_ble_eq_true rfl) (Nat.le_of_ble_eq_true rfl) (Nat.le_of_ble_eq_true rfl) (Nat.le_of_ble_eq_true rfl) dX4_fight_19 ?_
  refine tw_mmin (lo := 0) (hi := 4) h9 (iv_c (c := 4) (n := 4) (by decide)) (by decide) (fun x14 e13 h12 => ?_)
  refine tw_puti hx hb hW hown hK hS f_X4_46_4 hz_a0 hk_a0 rfl rfl (lo := 0) (hi := 4) rfl h12 rfl dX4_fight_22 (fun H locs M17 hS k15 f16 => ?_)
  refine lv_iconst (v := 0) hx hb dX4_fight_25 (by decide) ?_
  refine lv_istore_n (lv' := [(3, .int 0), (0, .ref (base + a0)), (1, .int a1), (2, .int a2)]) hx hb dX4_fight_26 rfl hl (by decide) rfl (fun ls hl => ?_)
  have W27_19 : ∀ (n_19 : Nat) (x18 : Int32) (M19 : MT) (R20 : RT) (J21 : JT) (H : Heap) (locs : List Loc) (ls : Array Slot) (h_x18 : iv 0 4 x18) (hm_19 : 4 - x18.toInt < (n_19 : Int)) (hS : SB D cy base Z K N Lt_X4_fight LRt_X4_fight Ma Ra M19 R20 J21 s H locs) (hl : lv_has ls 5 [(3, .int x18), (0, .ref (base + a0)), (1, .int a1), (2, .int a2)]), W p l e (md_rm 16 0 0) s m args below meth c H locs 0 0 Q (F0 m 27 ls []) := by
    intro n_19
    induction n_19 with
    | zero =>
      intro x18 M19 R20 J21 H locs ls h_x18 hm_19 hS hl
      exfalso
      have := (h_a1).1; have := (h_a1).2; have := (h_a2).1; have := (h_a2).2; have := (h_x18).1; have := (h_x18).2; omega
    | succ n_19 ih_19 =>
      intro x18 M19 R20 J21 H locs ls h_x18 hm_19 hS hl
      have f22 := hS.2.2.1
      have g23 := hS.2.2.2
      refine lv_iload_n hx hb dX4_fight_27 rfl (lv_at hl 0 rfl) ?_
      refine lv_aload_n hx hb dX4_fight_28 rfl (lv_at hl 1 rfl) ?_
      refine tw_geti hx hb hW hown hK hS f_X4_46_4 hz_a0 hk_a0 (lo := 0) (hi := 4) rfl dX4_fight_29 (fun x26 k25 h24 => ?_)
      refine lv_icmp_ge (tgt := 79) hx hb dX4_fight_32 (by decide) (fun c27 => ?_) (fun c27 => ?_)
      · have q28 : x26.toInt ≤ x18.toInt := ti_le c27
        refine lv_aload_n hx hb dX4_fight_79 rfl (lv_at hl 1 rfl) ?_
        have k29 : R20 a0 0 = some b7 := (Fr.kp (k := 0) g23 hk_a0 rfl).trans k8
        refine tw_getrk hx hb hW hown hK hS f_X4_20_4 hz_a0 hk_a0 (b := b7) k29 dX4_fight_80 ?_
        refine tw_getr hx hb hW hown hK hS f_X4_55_9 hz_b7 hk_b7 (t := 20) (n := 10) rfl dX4_fight_83 (fun b30 k31 hz_b30 hk_b30 hn_b30 => ?_)
        have hn_b30 := hn_b30 (by decide)
        refine lv_iconst (v := 0) hx hb dX4_fight_86 (by decide) ?_
        refine lv_aload_n hx hb dX4_fight_87 rfl (lv_at hl 1 rfl) ?_
        refine tw_getr hx hb hW hown hK hS f_X4_13_4 hz_a0 hk_a0 (t := 19) (n := 5) rfl dX4_fight_88 (fun b32 k33 hz_b32 hk_b32 hn_b32 => ?_)
        have hn_b32 := hn_b32 (by decide)
        refine lv_iconst (v := 0) hx hb dX4_fight_91 (by decide) ?_
        refine tw_row hx hb hK hS hz_b32 hk_b32 hn_b32 (iv_c (c := 0) (n := 0) (by decide)) ⟨by decide, by decide⟩ dX4_fight_92 (fun b34 k35 hz_b34 hk_b34 hn_b34 => ?_)
        refine lv_iconst (v := 0) hx hb dX4_fight_93 (by decide) ?_
        refine lv_bipush (v := 10) hx hb dX4_fight_94 (by decide) ?_
        refine tw_copy hx hb (hml.trans hl.1.symm) hW hown hK hS (md_okc w_5_99 rfl (md_okc w_3_226 rfl (md_okc w_3_225 rfl (md_okc w_1_18 rfl (md_ok0))))) hz_b34 hk_b34 (Or.inr (by decide)) hz_b30 hk_b30 (Or.inr (by decide)) hn_b34 hn_b30 (by have := ((iv_c (c := 10) (n := 10) (by decide))).1; have := ((iv_c (c := 10) (n := 10) (by decide))).2; have := ((iv_c (c := 0) (n := 0) (by decide))).1; have := ((iv_c (c := 0) (n := 0) (by decide))).2; have := ((iv_c (c := 0) (n := 0) (by decide))).1; have := ((iv_c (c := 0) (n := 0) (by decide))).2; omega) (by have := ((iv_c (c := 10) (n := 10) (by decide))).1; have := ((iv_c (c := 10) (n := 10) (by decide))).2; have := ((iv_c (c := 0) (n := 0) (by decide))).1; have := ((iv_c (c := 0) (n := 0) (by decide))).2; have := ((iv_c (c := 0) (n := 0) (by decide))).1; have := ((iv_c (c := 0) (n := 0) (by decide))).2; omega) (by have := ((iv_c (c := 10) (n := 10) (by decide))).1; have := ((iv_c (c := 10) (n := 10) (by decide))).2; have := ((iv_c (c := 0) (n := 0) (by decide))).1; have := ((iv_c (c := 0) (n := 0) (by decide))).2; have := ((iv_c (c := 0) (n := 0) (by decide))).1; have := ((iv_c (c := 0) (n := 0) (by decide))).2; omega) (by have := ((iv_c (c := 10) (n := 10) (by decide))).1; have := ((iv_c (c := 10) (n := 10) (by decide))).2; have := ((iv_c (c := 0) (n := 0) (by decide))).1; have := ((iv_c (c := 0) (n := 0) (by decide))).2; have := ((iv_c (c := 0) (n := 0) (by decide))).1; have := ((iv_c (c := 0) (n := 0) (by decide))).2; omega) (by have := ((iv_c (c := 10) (n := 10) (by decide))).1; have := ((iv_c (c := 10) (n := 10) (by decide))).2; have := ((iv_c (c := 0) (n := 0) (by decide))).1; have := ((iv_c (c := 0) (n := 0) (by decide))).2; have := ((iv_c (c := 0) (n := 0) (by decide))).1; have := ((iv_c (c := 0) (n := 0) (by decide))).2; omega) (fun _ _ => ⟨by show (-2147483648 : Int) ≤ -2147483648; decide, by show (2147483647 : Int) ≤ 2147483647; decide⟩) (Nat.le_of_ble_eq_true rfl) (Nat.le_of_ble_eq_true rfl) rfl dX4_fight_96 (fun H locs M38 hS f36 k37 => ?_)
        refine lv_aload_n hx hb dX4_fight_99 rfl (lv_at hl 1 rfl) ?_
        refine lv_iconst (v := 0) hx hb dX4_fight_100 (by decide) ?_
        have hm39 : 4 - (0 : Int32).toInt < (((5 : Nat) : Int) : Int) := by
          have := (h_a1).1; have := (h_a1).2; have := (h_a2).1; have := (h_a2).2; have : (0 : Int32).toInt = 0 := (by decide); omega
        refine tw_goi hS (md_runV (As := [.int 0]) (rest := []) hx hb hml hown hW hK hT hS.1 (t_X4_play l D cy tx base Z K N 5 M38 R20 J21 hS.2.1 a0 hz_a0 hk_a0 0 (iv_mono (iv_c (c := 0) (n := 0) (by decide)) (by decide) (by decide)) hm39) s_X4_63 ⟨rfl, rfl, ⟨by simp only [md_rm]; omega, by simp only [md_rm]; omega⟩, ⟨Nat.le_of_ble_eq_true rfl, Nat.le_of_ble_eq_true rfl⟩⟩ hz_a0 hk_a0 (by decide) rfl rfl hl.1 rfl (Nat.le_of_ble_eq_true rfl) dX4_fight_101) rfl rfl (fun x46 H locs M43 R44 J42 hS f40 g41 E45 => ?_)
        have h_x46 := E45
        clear E45
        exact tw_endi hx hb hr hlocks hK hT hS hQ (h_x46) dX4_fight_104
      · have q47 : x18.toInt < x26.toInt := ti_nle c27
        have h48 : iv 0 3 x18 := iv_ltL (y := x26) h_x18 h24 q47 (by decide)
        have h49 : iv 1 4 x26 := iv_gtL (y := x18) h24 h_x18 q47 (by decide)
        refine lv_aload_n hx hb dX4_fight_35 rfl (lv_at hl 1 rfl) ?_
        have k50 : R20 a0 0 = some b7 := (Fr.kp (k := 0) g23 hk_a0 rfl).trans k8
        refine tw_getrk hx hb hW hown hK hS f_X4_20_4 hz_a0 hk_a0 (b := b7) k50 dX4_fight_36 ?_
        refine tw_getr hx hb hW hown hK hS f_X4_49_9 hz_b7 hk_b7 (t := 21) (n := 8) rfl dX4_fight_39 (fun b51 k52 hz_b51 hk_b51 hn_b51 => ?_)
        have hn_b51 := hn_b51 (by decide)
        refine lv_iload_n hx hb dX4_fight_42 rfl (lv_at hl 0 rfl) ?_
        refine tw_iald hx hb hK hS hz_b51 hk_b51 (Or.inr (by decide)) hn_b51 (lo := 0) (hi := 11) h48 ⟨by decide, by decide⟩ rg_u21 dX4_fight_43 (fun x55 k54 h53 => ?_)
        refine lv_istore (lv' := [(4, .int x55), (3, .int x18), (0, .ref (base + a0)), (1, .int a1), (2, .int a2)]) hx hb dX4_fight_44 hl (by decide) rfl (fun ls hl => ?_)
        refine lv_aload_n hx hb dX4_fight_46 rfl (lv_at hl 2 rfl) ?_
        refine tw_getr hx hb hW hown hK hS f_X4_16_4 hz_a0 hk_a0 (t := 14) (n := 4) rfl dX4_fight_47 (fun b56 k57 hz_b56 hk_b56 hn_b56 => ?_)
        have hn_b56 := hn_b56 (by decide)
        refine lv_iload_n hx hb dX4_fight_50 rfl (lv_at hl 1 rfl) ?_
        refine lv_aload_n hx hb dX4_fight_51 rfl (lv_at hl 2 rfl) ?_
        have k58 : R20 a0 0 = some b7 := (Fr.kp (k := 0) g23 hk_a0 rfl).trans k8
        refine tw_getrk hx hb hW hown hK hS f_X4_20_4 hz_a0 hk_a0 (b := b7) k58 dX4_fight_52 ?_
        refine lv_iload_n hx hb dX4_fight_55 rfl (lv_at hl 3 rfl) ?_
        refine lv_iload hx hb dX4_fight_56 (lv_at hl 0 rfl) ?_
        refine tw_goi hS (md_runV (As := [.int a1, .int x55]) (rest := [.int x18, .ref (base + b56)]) hx hb hml hown hW hK hT hS.1 (t_X9_worthOfSet l D cy tx base Z K N M19 R20 J21 hS.2.1 b7 hz_b7 hk_b7 a1 h_a1 x55 h53) s_X4_52 ⟨rfl, rfl, ⟨Nat.le_of_ble_eq_true rfl, Nat.le_of_ble_eq_true rfl⟩, ⟨Nat.le_of_ble_eq_true rfl, Nat.le_of_ble_eq_true rfl⟩⟩ hz_b7 hk_b7 (by decide) rfl rfl hl.1 rfl (Nat.le_of_ble_eq_true rfl) dX4_fight_58) rfl rfl (fun x65 H locs M62 R63 J61 hS f59 g60 E64 => ?_)
        have eM62 := Fr.nil f59 rfl
        subst eM62
        have eR63 := Fr.nil g60 rfl
        subst eR63
        have h_x65 := E64
        clear E64
        refine lv_aload_n hx hb dX4_fight_61 rfl (lv_at hl 2 rfl) ?_
        have k66 : R20 a0 0 = some b7 := (Fr.kp (k := 0) g23 hk_a0 rfl).trans k8
        refine tw_getrk hx hb hW hown hK hS f_X4_20_4 hz_a0 hk_a0 (b := b7) k66 dX4_fight_62 ?_
        refine lv_iload_n hx hb dX4_fight_65 rfl (lv_at hl 4 rfl) ?_
        refine lv_iload hx hb dX4_fight_66 (lv_at hl 0 rfl) ?_
        refine tw_goi hS (md_runV (As := [.int a2, .int x55]) (rest := [.int x65, .int x18, .ref (base + b56)]) hx hb hml hown hW hK hT hS.1 (t_X9_worthOfSet l D cy tx base Z K N M19 R20 J61 hS.2.1 b7 hz_b7 hk_b7 a2 h_a2 x55 h53) s_X4_52 ⟨rfl, rfl, ⟨Nat.le_of_ble_eq_true rfl, Nat.le_of_ble_eq_true rfl⟩, ⟨Nat.le_of_ble_eq_true rfl, Nat.le_of_ble_eq_true rfl⟩⟩ hz_b7 hk_b7 (by decide) rfl rfl hl.1 rfl (Nat.le_of_ble_eq_true rfl) dX4_fight_68) rfl rfl (fun x73 H locs M70 R71 J69 hS f67 g68 E72 => ?_)
        have eM70 := Fr.nil f67 rfl
        subst eM70
        have eR71 := Fr.nil g68 rfl
        subst eR71
        have h_x73 := E72
        clear E72
        refine lv_isub hx hb dX4_fight_71 ?_
        refine tw_top (fun x75 => ?_)
        have h74 := iv_any x75
        refine tw_iast hx hb hK hS hz_b56 hk_b56 (Or.inl rfl) hn_b56 h48 ⟨by decide, by decide⟩ h74 (rg_s14 ⟨by decide, by decide⟩) (jl := 0) (jh := 1999999) ⟨by decide, by decide⟩ rfl dX4_fight_72 (fun H locs M78 hS k76 f77 => ?_)
        refine tw_iinc (lv' := fun x81 => [(3, .int x81), (4, .int x55), (0, .ref (base + a0)), (1, .int a1), (2, .int a2)]) (lo := 1) (hi := 4) hx hb dX4_fight_73 hl (k := 1) rfl h48 (by decide) ⟨by decide, by decide⟩ ⟨by decide, by decide⟩ (by decide) (fun _ => rfl) (fun x81 ls e80 h79 hl => ?_)
        refine lv_goto (tgt := 27) hx hb dX4_fight_76 (by decide) ?_
        have hm82 : 4 - x81.toInt < (n_19 : Int) := by
          have := (h_a1).1; have := (h_a1).2; have := (h_a2).1; have := (h_a2).2; have := (h48).1; have := (h48).2; have := (h79).1; have := (h79).2; omega
        exact ih_19 x81 M78 R20 J69 H locs _ (iv_mono h79 (by decide) (by decide)) hm82 hS (lv_sub hl [0, 2, 3, 4] rfl)
  have hm83 : 4 - (0 : Int32).toInt < (((5 : Nat) : Int) : Int) := by
    have := (h_a1).1; have := (h_a1).2; have := (h_a2).1; have := (h_a2).2; have : (0 : Int32).toInt = 0 := (by decide); omega
  exact W27_19 5 0 M17 Ra Ja H locs _ (iv_mono (iv_c (c := 0) (n := 0) (by decide)) (by decide) (by decide)) hm83 hS hl
def Lt_X11_sides : WL := [(5, 4, 8), (6, 2, 4), (6, 6, 15), (14, 0, 2000000), (20, 0, 2000000)]
def LRt_X11_sides : WL := [(6, 4, 6)]
set_option maxRecDepth 100000 in
set_option maxHeartbeats 4000000 in
theorem t_X11_sides (l : Launch) (D : va_G) (cy : Nat → ClassId) (tx : (Nat → Nat) × (Nat → Nat)) (base Z : Nat) (K N : Nat → Nat) (Ma : MT) (Ra : RT) (Ja : JT) (hTy : Ty Z K N Ma Ra) (a0 : Nat) (hz_a0 : a0 < Z) (hk_a0 : K a0 = 11) (a1 : Int32) (h_a1 : iv (-2147483648) 2147483647 a1) (a2 : Int32) (h_a2 : iv (-2147483648) 2147483647 a2) (a3 : Int32) (h_a3 : iv (-2147483648) 2147483647 a3) : Met l yX11_sides [Cond.code yX11_sides cX11_sides 6 (some .int)] (md_rm 17 0 0) (va_Pc [.ref (base + a0), .int a1, .int a2, .int a3] (md_U D cy tx base Z K N Ma Ra Ja)) (mQi D cy tx base (fun r u => TP Z K N Lt_X11_sides LRt_X11_sides Ma Ra u ∧ (iv (-2147483648) 2147483647 r))) 0 0 (fun q => base ≤ q) := by
  refine tw_ofW (L := Lt_X11_sides) (LR := LRt_X11_sides) (by decide) (Nat.le_of_ble_eq_true rfl) hTy ?_
  intro p e s m args below meth c Q ls hx hb hr hlocks hown hml hW hK hT hS hQ hl
  have hl : lv_has ls 6 [(0, .ref (base + a0)), (1, .int a1), (2, .int a2), (3, .int a3)] := hl
  refine lv_aload_n hx hb dX11_sides_0 rfl (lv_at hl 0 rfl) ?_
  refine tw_getr hx hb hW hown hK hS f_X11_31_10 hz_a0 hk_a0 (t := 10) (n := 0) rfl dX11_sides_1 (fun b1 k2 hz_b1 hk_b1 hn_b1 => ?_)
  refine lv_iload_n hx hb dX11_sides_4 rfl (lv_at hl 1 rfl) ?_
  refine tw_goi hS (md_runV (As := [.int a1]) (rest := []) hx hb hml hown hW hK hT hS.1 (t_X9_isSide l D cy tx base Z K N Ma Ra Ja hS.2.1 b1 hz_b1 hk_b1 a1 h_a1) s_X11_242 ⟨rfl, rfl, ⟨Nat.le_of_ble_eq_true rfl, Nat.le_of_ble_eq_true rfl⟩, ⟨Nat.le_of_ble_eq_true rfl, Nat.le_of_ble_eq_true rfl⟩⟩ hz_b1 hk_b1 (by decide) rfl rfl hl.1 rfl (Nat.le_of_ble_eq_true rfl) dX11_sides_5) rfl rfl (fun x9 H locs M6 R7 J5 hS f3 g4 E8 => ?_)
  have eM6 := Fr.nil f3 rfl
  subst eM6
  have eR7 := Fr.nil g4 rfl
  subst eR7
  have h_x9 := E8
  clear E8
  have J32_10 : ∀  (M10 : MT) (R11 : RT) (J12 : JT) (H : Heap) (locs : List Loc) (ls : Array Slot) (hS : SB D cy base Z K N Lt_X11_sides LRt_X11_sides Ma Ra M10 R11 J12 s H locs) (hl : lv_has ls 6 [(0, .ref (base + a0)), (1, .int a1), (2, .int a2), (3, .int a3)]), W p l e (md_rm 17 0 0) s m args below meth c H locs 0 0 Q (F0 m 32 ls []) := by
    intro  M10 R11 J12 H locs ls  hS hl
    have f13 := hS.2.2.1
    have g14 := hS.2.2.2
    refine lv_iconst (v := 0) hx hb dX11_sides_32 (by decide) ?_
    refine lv_istore (lv' := [(4, .int 0), (0, .ref (base + a0)), (1, .int a1), (2, .int a2), (3, .int a3)]) hx hb dX11_sides_33 hl (by decide) rfl (fun ls hl => ?_)
    refine lv_iload hx hb dX11_sides_35 (lv_at hl 0 rfl) ?_
    refine lv_if_eq (tgt := 59) hx hb dX11_sides_37 (by decide) (fun _ => ?_) (fun h => absurd h (by decide))
    refine lv_ldc hx hb hown (hW _ w_4_221 rfl) dX11_sides_59 ?_
    exact tw_endi hx hb hr hlocks hK hT hS hQ ((iv_mono (iv_c (c := (-1000000)) (n := (-1000000)) (by decide)) (by decide) (by decide))) dX11_sides_61
  refine lv_if_eq (tgt := 32) hx hb dX11_sides_8 (by decide) (fun c15 => ?_) (fun c15 => ?_)
  · have q16 : x9.toInt = 0 := ti_eq c15
    have h17 : iv 0 0 x9 := ⟨by have := (h_x9).1; have := ((iv_c (c := 0) (n := 0) (by decide))).1; omega, by have := (h_x9).2; have := ((iv_c (c := 0) (n := 0) (by decide))).2; omega⟩
    exact J32_10  Ma Ra J5 H locs _  hS hl
  · have q18 : ¬ x9.toInt = 0 := ti_ne c15
    have h19 : iv 1 1 x9 := ⟨by have := (h_x9).1; have := ((iv_c (c := 0) (n := 0) (by decide))).1; have := ((iv_c (c := 0) (n := 0) (by decide))).2; omega, by have := (h_x9).2; have := ((iv_c (c := 0) (n := 0) (by decide))).1; have := ((iv_c (c := 0) (n := 0) (by decide))).2; omega⟩
    refine lv_aload_n hx hb dX11_sides_11 rfl (lv_at hl 0 rfl) ?_
    refine tw_getrk hx hb hW hown hK hS f_X11_31_10 hz_a0 hk_a0 (b := b1) k2 dX11_sides_12 ?_
    refine lv_iload_n hx hb dX11_sides_15 rfl (lv_at hl 2 rfl) ?_
    refine tw_goi hS (md_runV (As := [.int a2]) (rest := []) hx hb hml hown hW hK hT hS.1 (t_X9_isSide l D cy tx base Z K N Ma Ra J5 hS.2.1 b1 hz_b1 hk_b1 a2 h_a2) s_X11_242 ⟨rfl, rfl, ⟨Nat.le_of_ble_eq_true rfl, Nat.le_of_ble_eq_true rfl⟩, ⟨Nat.le_of_ble_eq_true rfl, Nat.le_of_ble_eq_true rfl⟩⟩ hz_b1 hk_b1 (by decide) rfl rfl hl.1 rfl (Nat.le_of_ble_eq_true rfl) dX11_sides_16) rfl rfl (fun x26 H locs M23 R24 J22 hS f20 g21 E25 => ?_)
    have eM23 := Fr.nil f20 rfl
    subst eM23
    have eR24 := Fr.nil g21 rfl
    subst eR24
    have h_x26 := E25
    clear E25
    refine lv_if_eq (tgt := 32) hx hb dX11_sides_19 (by decide) (fun c27 => ?_) (fun c27 => ?_)
    · have q28 : x26.toInt = 0 := ti_eq c27
      have h29 : iv 0 0 x26 := ⟨by have := (h_x26).1; have := ((iv_c (c := 0) (n := 0) (by decide))).1; omega, by have := (h_x26).2; have := ((iv_c (c := 0) (n := 0) (by decide))).2; omega⟩
      exact J32_10  Ma Ra J22 H locs _  hS hl
    · have q30 : ¬ x26.toInt = 0 := ti_ne c27
      have h31 : iv 1 1 x26 := ⟨by have := (h_x26).1; have := ((iv_c (c := 0) (n := 0) (by decide))).1; have := ((iv_c (c := 0) (n := 0) (by decide))).2; omega, by have := (h_x26).2; have := ((iv_c (c := 0) (n := 0) (by decide))).1; have := ((iv_c (c := 0) (n := 0) (by decide))).2; omega⟩
      refine lv_iload_n hx hb dX11_sides_22 rfl (lv_at hl 1 rfl) ?_
      refine lv_iload_n hx hb dX11_sides_23 rfl (lv_at hl 2 rfl) ?_
      refine lv_iand hx hb dX11_sides_24 ?_
      refine tw_top (fun x33 => ?_)
      have h32 := iv_any x33
      refine lv_if_ne (tgt := 32) hx hb dX11_sides_25 (by decide) (fun c34 => ?_) (fun c34 => ?_)
      · have q35 : ¬ x33.toInt = 0 := ti_ne c34
        exact J32_10  Ma Ra J22 H locs _  hS hl
      · have q36 : x33.toInt = 0 := ti_eq c34
        have h37 : iv 0 0 x33 := ⟨by have := (h32).1; have := ((iv_c (c := 0) (n := 0) (by decide))).1; omega, by have := (h32).2; have := ((iv_c (c := 0) (n := 0) (by decide))).2; omega⟩
        refine lv_iconst (v := 1) hx hb dX11_sides_28 (by decide) ?_
        refine lv_goto (tgt := 33) hx hb dX11_sides_29 (by decide) ?_
        refine lv_istore (lv' := [(4, .int 1), (0, .ref (base + a0)), (1, .int a1), (2, .int a2), (3, .int a3)]) hx hb dX11_sides_33 hl (by decide) rfl (fun ls hl => ?_)
        refine lv_iload hx hb dX11_sides_35 (lv_at hl 0 rfl) ?_
        refine lv_if_eq (tgt := 59) hx hb dX11_sides_37 (by decide) (fun h => absurd h (by decide)) (fun _ => ?_)
        refine lv_aload_n hx hb dX11_sides_40 rfl (lv_at hl 1 rfl) ?_
        refine tw_getrk hx hb hW hown hK hS f_X11_31_10 hz_a0 hk_a0 (b := b1) k2 dX11_sides_41 ?_
        obtain ⟨x40, k38⟩ : ∃ x, Ma b1 7 = x := ⟨_, rfl⟩
        have h39 : iv 0 8 x40 := by rw [← k38]; exact hS.2.1.int hz_b1 hk_b1 (show rgI 10 7 = (0, 8) from rfl)
        refine tw_goi hS (md_runV (As := []) (rest := []) hx hb hml hown hW hK hT hS.1 (t_X9_isShortDay l D cy tx base Z K N Ma Ra J22 hS.2.1 b1 hz_b1 hk_b1 x40 k38 (iv_mono h39 (by decide) (by decide))) s_X11_245 ⟨rfl, rfl, ⟨Nat.le_of_ble_eq_true rfl, Nat.le_of_ble_eq_true rfl⟩, ⟨Nat.le_of_ble_eq_true rfl, Nat.le_of_ble_eq_true rfl⟩⟩ hz_b1 hk_b1 (by decide) rfl rfl hl.1 rfl (Nat.le_of_ble_eq_true rfl) dX11_sides_44) rfl rfl (fun x47 H locs M44 R45 J43 hS f41 g42 E46 => ?_)
        have eM44 := Fr.nil f41 rfl
        subst eM44
        have eR45 := Fr.nil g42 rfl
        subst eR45
        obtain ⟨h_x47, p48⟩ := E46
        refine lv_if_eq (tgt := 59) hx hb dX11_sides_47 (by decide) (fun c49 => ?_) (fun c49 => ?_)
        · have q50 : x47.toInt = 0 := ti_eq c49
          have h51 : iv 0 0 x47 := ⟨by have := (h_x47).1; have := ((iv_c (c := 0) (n := 0) (by decide))).1; omega, by have := (h_x47).2; have := ((iv_c (c := 0) (n := 0) (by decide))).2; omega⟩
          refine lv_ldc hx hb hown (hW _ w_4_221 rfl) dX11_sides_59 ?_
          exact tw_endi hx hb hr hlocks hK hT hS hQ ((iv_mono (iv_c (c := (-1000000)) (n := (-1000000)) (by decide)) (by decide) (by decide))) dX11_sides_61
        · have q52 : ¬ x47.toInt = 0 := ti_ne c49
          have h53 : iv 1 1 x47 := ⟨by have := (h_x47).1; have := ((iv_c (c := 0) (n := 0) (by decide))).1; have := ((iv_c (c := 0) (n := 0) (by decide))).2; omega, by have := (h_x47).2; have := ((iv_c (c := 0) (n := 0) (by decide))).1; have := ((iv_c (c := 0) (n := 0) (by decide))).2; omega⟩
          have h54 : iv 1 4 x40 := ⟨by have := (p48 c49).1; have := (h39).1; omega, by have := (p48 c49).2; have := (h39).2; omega⟩
          refine lv_iload_n hx hb dX11_sides_50 rfl (lv_at hl 4 rfl) ?_
          refine lv_if_lt (tgt := 59) hx hb dX11_sides_51 (by decide) (fun c55 => ?_) (fun c55 => ?_)
          · have q56 : a3.toInt < 0 := ti_lt c55
            have h57 : iv (-2147483648) (-1) a3 := iv_ltL (y := 0) h_a3 (iv_c (c := 0) (n := 0) (by decide)) q56 (by decide)
            refine lv_ldc hx hb hown (hW _ w_4_221 rfl) dX11_sides_59 ?_
            exact tw_endi hx hb hr hlocks hK hT hS hQ ((iv_mono (iv_c (c := (-1000000)) (n := (-1000000)) (by decide)) (by decide) (by decide))) dX11_sides_61
          · have q58 : 0 ≤ a3.toInt := ti_nlt c55
            have h59 : iv 0 2147483647 a3 := iv_geL (y := 0) h_a3 (iv_c (c := 0) (n := 0) (by decide)) q58 (by decide)
            refine lv_iload_n hx hb dX11_sides_54 rfl (lv_at hl 4 rfl) ?_
            refine lv_iconst (v := 1) hx hb dX11_sides_55 (by decide) ?_
            refine lv_icmp_le (tgt := 62) hx hb dX11_sides_56 (by decide) (fun c60 => ?_) (fun c60 => ?_)
            · have q61 : a3.toInt ≤ 1 := ti_le c60
              have h62 : iv 0 1 a3 := iv_leL (y := 1) h59 (iv_c (c := 1) (n := 1) (by decide)) q61 (by decide)
              refine lv_aload_n hx hb dX11_sides_62 rfl (lv_at hl 1 rfl) ?_
              refine tw_getr hx hb hW hown hK hS f_X11_76_10 hz_a0 hk_a0 (t := 5) (n := 0) rfl dX11_sides_63 (fun b63 k64 hz_b63 hk_b63 hn_b63 => ?_)
              refine lv_iload_n hx hb dX11_sides_66 rfl (lv_at hl 2 rfl) ?_
              refine lv_iload_n hx hb dX11_sides_67 rfl (lv_at hl 3 rfl) ?_
              refine tw_goi hS (md_runV (As := [.int a1, .int a2]) (rest := []) hx hb hml hown hW hK hT hS.1 (t_X4_fight l D cy tx base Z K N Ma Ra J43 hS.2.1 b63 hz_b63 hk_b63 a1 h_a1 a2 h_a2) s_X11_248 ⟨rfl, rfl, ⟨Nat.le_of_ble_eq_true rfl, Nat.le_of_ble_eq_true rfl⟩, ⟨Nat.le_of_ble_eq_true rfl, Nat.le_of_ble_eq_true rfl⟩⟩ hz_b63 hk_b63 (by decide) rfl rfl hl.1 rfl (Nat.le_of_ble_eq_true rfl) dX11_sides_68) rfl rfl (fun x71 H locs M68 R69 J67 hS f65 g66 E70 => ?_)
              have h_x71 := E70
              clear E70
              refine lv_istore (lv' := [(5, .int x71), (4, .int 1), (0, .ref (base + a0)), (1, .int a1), (2, .int a2), (3, .int a3)]) hx hb dX11_sides_71 hl (by decide) rfl (fun ls hl => ?_)
              refine lv_iload_n hx hb dX11_sides_73 rfl (lv_at hl 5 rfl) ?_
              refine lv_if_ne (tgt := 82) hx hb dX11_sides_74 (by decide) (fun c72 => ?_) (fun c72 => ?_)
              · have q73 : ¬ a3.toInt = 0 := ti_ne c72
                have h74 : iv 1 1 a3 := ⟨by have := (h62).1; have := ((iv_c (c := 0) (n := 0) (by decide))).1; have := ((iv_c (c := 0) (n := 0) (by decide))).2; omega, by have := (h62).2; have := ((iv_c (c := 0) (n := 0) (by decide))).1; have := ((iv_c (c := 0) (n := 0) (by decide))).2; omega⟩
                refine lv_aload_n hx hb dX11_sides_82 rfl (lv_at hl 2 rfl) ?_
                have k75 : R69 a0 12 = some b63 := (Fr.kp (k := 12) g66 hk_a0 rfl).trans k64
                refine tw_getrk hx hb hW hown hK hS f_X11_76_10 hz_a0 hk_a0 (b := b63) k75 dX11_sides_83 ?_
                refine tw_geti hx hb hW hown hK hS f_X11_251_4 hz_b63 hk_b63 (lo := (-2147483648)) (hi := 2147483647) rfl dX11_sides_86 (fun x78 k77 h76 => ?_)
                exact tw_endi hx hb hr hlocks hK hT hS hQ (h76) dX11_sides_89
              · have q79 : a3.toInt = 0 := ti_eq c72
                have h80 : iv 0 0 a3 := ⟨by have := (h62).1; have := ((iv_c (c := 0) (n := 0) (by decide))).1; omega, by have := (h62).2; have := ((iv_c (c := 0) (n := 0) (by decide))).2; omega⟩
                refine lv_iload hx hb dX11_sides_77 (lv_at hl 0 rfl) ?_
                refine lv_goto (tgt := 89) hx hb dX11_sides_79 (by decide) ?_
                exact tw_endi hx hb hr hlocks hK hT hS hQ ((iv_mono h_x71 (by decide) (by decide))) dX11_sides_89
            · have q81 : 1 < a3.toInt := ti_nle c60
              have h82 : iv 2 2147483647 a3 := iv_gtL (y := 1) h59 (iv_c (c := 1) (n := 1) (by decide)) q81 (by decide)
              refine lv_ldc hx hb hown (hW _ w_4_221 rfl) dX11_sides_59 ?_
              exact tw_endi hx hb hr hlocks hK hT hS hQ ((iv_mono (iv_c (c := (-1000000)) (n := (-1000000)) (by decide)) (by decide) (by decide))) dX11_sides_61
