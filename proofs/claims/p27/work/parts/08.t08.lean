set_option maxRecDepth 100000 in
set_option maxHeartbeats 4000000 in
theorem t_X4_play (l : Launch) (D : va_G) (cy : Nat → ClassId) (tx : (Nat → Nat) × (Nat → Nat)) (base Z : Nat) (K N : Nat → Nat) : ∀ (d : Nat), ∀ (Ma : MT) (Ra : RT) (Ja : JT) (hTy : Ty Z K N Ma Ra) (a0 : Nat) (hz_a0 : a0 < Z) (hk_a0 : K a0 = 5) (a1 : Int32) (h_a1 : iv 0 4 a1) (hmd : 4 - a1.toInt < (d : Int)), Met l yX4_play [Cond.code yX4_play cX4_play 9 (some .int)] (md_rm (5 + 2 * d) 0 0) (va_Pc [.ref (base + a0), .int a1] (md_U D cy tx base Z K N Ma Ra Ja)) (mQi D cy tx base (fun r u => TP Z K N Lt_X4_play LRt_X4_play Ma Ra u ∧ (iv (-1000000000) 1000000000 r))) 0 0 (fun q => base ≤ q) := by
  intro d
  induction d with
  | zero =>
    intro Ma Ra Ja hTy a0 hz_a0 hk_a0 a1 h_a1 hmd
    exfalso
    have := h_a1.2
    omega
  | succ d ih =>
    intro Ma Ra Ja hTy a0 hz_a0 hk_a0 a1 h_a1 hmd
    refine tw_ofW (L := Lt_X4_play) (LR := LRt_X4_play) (by decide) (Nat.le_of_ble_eq_true rfl) hTy ?_
    intro p e s m args below meth c Q ls hx hb hr hlocks hown hml hW hK hT hS hQ hl
    have hl : lv_has ls 9 [(0, .ref (base + a0)), (1, .int a1)] := hl
    refine lv_iload_n hx hb dX4_play_0 rfl (lv_at hl 1 rfl) ?_
    refine lv_aload_n hx hb dX4_play_1 rfl (lv_at hl 0 rfl) ?_
    refine tw_geti hx hb hW hown hK hS f_X4_46_4 hz_a0 hk_a0 (lo := 0) (hi := 4) rfl dX4_play_2 (fun x3 k2 h1 => ?_)
    refine lv_icmp_lt (tgt := 10) hx hb dX4_play_5 (by decide) (fun c4 => ?_) (fun c4 => ?_)
    · have q5 : a1.toInt < x3.toInt := ti_lt c4
      have h6 : iv 0 3 a1 := iv_ltL (y := x3) h_a1 h1 q5 (by decide)
      have h7 : iv 1 4 x3 := iv_gtL (y := a1) h1 h_a1 q5 (by decide)
      refine lv_aload_n hx hb dX4_play_10 rfl (lv_at hl 0 rfl) ?_
      refine tw_getr hx hb hW hown hK hS f_X4_24_4 hz_a0 hk_a0 (t := 6) (n := 0) rfl dX4_play_11 (fun b8 k9 hz_b8 hk_b8 hn_b8 => ?_)
      refine lv_aload_n hx hb dX4_play_14 rfl (lv_at hl 0 rfl) ?_
      refine tw_getr hx hb hW hown hK hS f_X4_20_4 hz_a0 hk_a0 (t := 10) (n := 0) rfl dX4_play_15 (fun b10 k11 hz_b10 hk_b10 hn_b10 => ?_)
      refine tw_getr hx hb hW hown hK hS f_X4_49_9 hz_b10 hk_b10 (t := 21) (n := 8) rfl dX4_play_18 (fun b12 k13 hz_b12 hk_b12 hn_b12 => ?_)
      have hn_b12 := hn_b12 (by decide)
      refine lv_iload_n hx hb dX4_play_21 rfl (lv_at hl 1 rfl) ?_
      refine lv_aload_n hx hb dX4_play_22 rfl (lv_at hl 0 rfl) ?_
      refine tw_getrk hx hb hW hown hK hS f_X4_20_4 hz_a0 hk_a0 (b := b10) k11 dX4_play_23 ?_
      refine tw_geti hx hb hW hown hK hS f_X4_35_9 hz_b10 hk_b10 (lo := 0) (hi := 8) rfl dX4_play_26 (fun x16 k15 h14 => ?_)
      refine lv_aload_n hx hb dX4_play_29 rfl (lv_at hl 0 rfl) ?_
      refine tw_getr hx hb hW hown hK hS f_X4_13_4 hz_a0 hk_a0 (t := 19) (n := 5) rfl dX4_play_30 (fun b17 k18 hz_b17 hk_b17 hn_b17 => ?_)
      have hn_b17 := hn_b17 (by decide)
      refine lv_iload_n hx hb dX4_play_33 rfl (lv_at hl 1 rfl) ?_
      refine tw_row hx hb hK hS hz_b17 hk_b17 hn_b17 h6 ⟨by decide, by decide⟩ dX4_play_34 (fun b19 k20 hz_b19 hk_b19 hn_b19 => ?_)
      refine lv_aload_n hx hb dX4_play_35 rfl (lv_at hl 0 rfl) ?_
      refine tw_getrk hx hb hW hown hK hS f_X4_20_4 hz_a0 hk_a0 (b := b10) k11 dX4_play_36 ?_
      refine tw_geti hx hb hW hown hK hS f_X4_67_9 hz_b10 hk_b10 (lo := (-2147483648)) (hi := 2147483647) rfl dX4_play_39 (fun x23 k22 h21 => ?_)
      refine lv_iload_n hx hb dX4_play_42 rfl (lv_at hl 1 rfl) ?_
      refine lv_iadd hx hb dX4_play_43 ?_
      refine tw_top (fun x25 => ?_)
      have h24 := iv_any x25
      refine tw_gov hS (md_runV (As := [.ref (base + b12), .int a1, .int x16, .ref (base + b19), .int x25]) (rest := []) hx hb hml hown hW hK hT hS.1 (t_X5_bring l D cy tx base Z K N Ma Ra Ja hS.2.1 b8 hz_b8 hk_b8 b12 hz_b12 hk_b12 hn_b12 a1 (iv_mono h6 (by decide) (by decide)) x16 h14 b19 hz_b19 hk_b19 hn_b19 x25 h24) s_X4_70 ⟨rfl, rfl, ⟨by simp only [md_rm]; omega, by simp only [md_rm]; omega⟩, ⟨Nat.le_of_ble_eq_true rfl, Nat.le_of_ble_eq_true rfl⟩⟩ hz_b8 hk_b8 (by decide) rfl rfl hl.1 rfl (Nat.le_of_ble_eq_true rfl) dX4_play_44) rfl rfl (fun H locs M29 R30 J28 hS f26 g27 E31 => ?_)
      have p32 := E31
      clear E31
      have k33 : RowOK N M29 R30 b8 := p32
      refine lv_aload_n hx hb dX4_play_47 rfl (lv_at hl 0 rfl) ?_
      have k34 : R30 a0 1 = some b8 := (Fr.kp (k := 1) g27 hk_a0 rfl).trans k9
      refine tw_getrk hx hb hW hown hK hS f_X4_24_4 hz_a0 hk_a0 (b := b8) k34 dX4_play_48 ?_
      refine lv_aload_n hx hb dX4_play_51 rfl (lv_at hl 0 rfl) ?_
      have k35 : R30 a0 0 = some b10 := (Fr.kp (k := 0) g27 hk_a0 rfl).trans k11
      refine tw_getrk hx hb hW hown hK hS f_X4_20_4 hz_a0 hk_a0 (b := b10) k35 dX4_play_52 ?_
      refine tw_geti hx hb hW hown hK hS f_X4_76_9 hz_b10 hk_b10 (lo := (-2147483648)) (hi := 2147483647) rfl dX4_play_55 (fun x38 k37 h36 => ?_)
      refine lv_aload_n hx hb dX4_play_58 rfl (lv_at hl 0 rfl) ?_
      refine tw_geti hx hb hW hown hK hS f_X4_28_4 hz_a0 hk_a0 (lo := (-2147483648)) (hi := 2147483647) rfl dX4_play_59 (fun x41 k40 h39 => ?_)
      refine lv_iconst (v := (-1)) hx hb dX4_play_62 (by decide) ?_
      refine lv_ixor hx hb dX4_play_63 ?_
      refine tw_top (fun x43 => ?_)
      have h42 := iv_any x43
      refine lv_iand hx hb dX4_play_64 ?_
      refine tw_top (fun x45 => ?_)
      have h44 := iv_any x45
      refine lv_aload_n hx hb dX4_play_65 rfl (lv_at hl 0 rfl) ?_
      refine tw_geti hx hb hW hown hK hS f_X4_32_4 hz_a0 hk_a0 (lo := (-2147483648)) (hi := 2147483647) rfl dX4_play_66 (fun x48 k47 h46 => ?_)
      refine lv_iconst (v := (-1)) hx hb dX4_play_69 (by decide) ?_
      refine lv_ixor hx hb dX4_play_70 ?_
      refine tw_top (fun x50 => ?_)
      have h49 := iv_any x50
      refine lv_iand hx hb dX4_play_71 ?_
      refine tw_top (fun x52 => ?_)
      have h51 := iv_any x52
      refine tw_gov hS (md_runV (As := [.int x52]) (rest := []) hx hb hml hown hW hK hT hS.1 (t_X5_ask l D cy tx base Z K N M29 R30 J28 hS.2.1 b8 hz_b8 hk_b8 x52 h51 k33) s_X4_79 ⟨rfl, rfl, ⟨by simp only [md_rm]; omega, by simp only [md_rm]; omega⟩, ⟨Nat.le_of_ble_eq_true rfl, Nat.le_of_ble_eq_true rfl⟩⟩ hz_b8 hk_b8 (by decide) rfl rfl hl.1 rfl (Nat.le_of_ble_eq_true rfl) dX4_play_72) rfl rfl (fun H locs M56 R57 J55 hS f53 g54 E58 => ?_)
      have eR57 := Fr.nil g54 rfl
      subst eR57
      refine lv_aload_n hx hb dX4_play_75 rfl (lv_at hl 0 rfl) ?_
      have k59 : R30 a0 1 = some b8 := (Fr.kp (k := 1) g27 hk_a0 rfl).trans k9
      refine tw_getrk hx hb hW hown hK hS f_X4_24_4 hz_a0 hk_a0 (b := b8) k59 dX4_play_76 ?_
      refine tw_geti hx hb hW hown hK hS f_X4_83_5 hz_b8 hk_b8 (lo := (-2147483648)) (hi := 2147483647) rfl dX4_play_79 (fun x62 k61 h60 => ?_)
      refine lv_istore_n (lv' := [(2, .int x62), (0, .ref (base + a0)), (1, .int a1)]) hx hb dX4_play_82 rfl hl (by decide) rfl (fun ls hl => ?_)
      refine lv_aload_n hx hb dX4_play_83 rfl (lv_at hl 1 rfl) ?_
      have k63 : R30 a0 1 = some b8 := (Fr.kp (k := 1) g27 hk_a0 rfl).trans k9
      refine tw_getrk hx hb hW hown hK hS f_X4_24_4 hz_a0 hk_a0 (b := b8) k63 dX4_play_84 ?_
      refine tw_geti hx hb hW hown hK hS f_X4_86_5 hz_b8 hk_b8 (lo := (-2147483648)) (hi := 2147483647) rfl dX4_play_87 (fun x66 k65 h64 => ?_)
      refine lv_istore_n (lv' := [(3, .int x66), (2, .int x62), (0, .ref (base + a0)), (1, .int a1)]) hx hb dX4_play_90 rfl hl (by decide) rfl (fun ls hl => ?_)
      refine lv_ldc hx hb hown (hW _ w_5_106 rfl) dX4_play_91 ?_
      refine lv_istore (lv' := [(4, .int (-1000000000)), (3, .int x66), (2, .int x62), (0, .ref (base + a0)), (1, .int a1)]) hx hb dX4_play_93 hl (by decide) rfl (fun ls hl => ?_)
      refine lv_iconst (v := 0) hx hb dX4_play_95 (by decide) ?_
      refine lv_istore (lv' := [(5, .int 0), (4, .int (-1000000000)), (3, .int x66), (2, .int x62), (0, .ref (base + a0)), (1, .int a1)]) hx hb dX4_play_96 hl (by decide) rfl (fun ls hl => ?_)
      have W98_69 : ∀ (n_69 : Nat) (x67 : Int32) (x68 : Int32) (M69 : MT) (R70 : RT) (J71 : JT) (H : Heap) (locs : List Loc) (ls : Array Slot) (h_x67 : iv (-1000000000) 1000000000 x67) (h_x68 : iv 0 3 x68) (hm_69 : 3 - x68.toInt < (n_69 : Int)) (hS : SB D cy base Z K N Lt_X4_play LRt_X4_play Ma Ra M69 R70 J71 s H locs) (hl : lv_has ls 9 [(4, .int x67), (5, .int x68), (3, .int x66), (2, .int x62), (0, .ref (base + a0)), (1, .int a1)]), W p l e (md_rm (5 + 2 * (d + 1)) 0 0) s m args below meth c H locs 0 0 Q (F0 m 98 ls []) := by
        intro n_69
        induction n_69 with
        | zero =>
          intro x67 x68 M69 R70 J71 H locs ls h_x67 h_x68 hm_69 hS hl
          exfalso
          have := (h6).1; have := (h6).2; have := (h_x68).1; have := (h_x68).2; omega
        | succ n_69 ih_69 =>
          intro x67 x68 M69 R70 J71 H locs ls h_x67 h_x68 hm_69 hS hl
          have f72 := hS.2.2.1
          have g73 := hS.2.2.2
          refine lv_iload hx hb dX4_play_98 (lv_at hl 1 rfl) ?_
          obtain ⟨sy0, sy1, hY0, hY1⟩ := hT.2.2.2.2
          refine va_getsN hx hb hY0 hS.1.2.2 hown (va_Nw.use rfl hK.2.2.1.2.2.2.2.2.2.1) (fun _ h => h) dX4_play_100 ?_
          refine va_tlen hx hb hY1 hS.1.2.2 (v := 3) (by decide) dX4_play_103 ?_
          refine lv_icmp_ge (tgt := 192) hx hb dX4_play_104 (by decide) (fun c74 => ?_) (fun c74 => ?_)
          · have q75 : 3 ≤ x68.toInt := ti_le c74
            have h76 : iv 3 3 x68 := iv_geL (y := 3) h_x68 (iv_c (c := 3) (n := 3) (by decide)) q75 (by decide)
            refine lv_iload hx hb dX4_play_192 (lv_at hl 0 rfl) ?_
            exact tw_endi hx hb hr hlocks hK hT hS hQ (h_x67) dX4_play_194
          · have q77 : x68.toInt < 3 := ti_nle c74
            have h78 : iv 0 2 x68 := iv_ltL (y := 3) h_x68 (iv_c (c := 3) (n := 3) (by decide)) q77 (by decide)
            obtain ⟨sy0, sy1, hY0, hY1⟩ := hT.2.2.2.2
            refine va_getsN hx hb hY0 hS.1.2.2 hown (va_Nw.use rfl hK.2.2.1.2.2.2.2.2.2.1) (fun _ h => h) dX4_play_107 ?_
            refine lv_iload hx hb dX4_play_110 (lv_at hl 1 rfl) ?_
            refine va_ti hx hb hY1 hS.1.2.2 (iv_in h78 ⟨by decide, by decide⟩) rfl dX4_play_112 ?_
            refine tw_top (fun x80 => ?_)
            have h79 := iv_any x80
            refine lv_iconst (v := 1) hx hb dX4_play_113 (by decide) ?_
            refine lv_icmp_ne (tgt := 124) hx hb dX4_play_114 (by decide) (fun c81 => ?_) (fun c81 => ?_)
            · have q82 : ¬ x80.toInt = 1 := ti_ne c81
              refine lv_iconst (v := 0) hx hb dX4_play_124 (by decide) ?_
              refine lv_istore (lv' := [(6, .int 0), (4, .int x67), (5, .int x68), (3, .int x66), (2, .int x62), (0, .ref (base + a0)), (1, .int a1)]) hx hb dX4_play_125 hl (by decide) rfl (fun ls hl => ?_)
              obtain ⟨sy0, sy1, hY0, hY1⟩ := hT.2.2.2.2
              refine va_getsN hx hb hY0 hS.1.2.2 hown (va_Nw.use rfl hK.2.2.1.2.2.2.2.2.2.1) (fun _ h => h) dX4_play_127 ?_
              refine lv_iload hx hb dX4_play_130 (lv_at hl 2 rfl) ?_
              refine va_ti hx hb hY1 hS.1.2.2 (iv_in h78 ⟨by decide, by decide⟩) rfl dX4_play_132 ?_
              refine tw_top (fun x84 => ?_)
              have h83 := iv_any x84
              refine lv_if_ne (tgt := 143) hx hb dX4_play_133 (by decide) (fun c85 => ?_) (fun c85 => ?_)
              · have q86 : ¬ x84.toInt = 0 := ti_ne c85
                refine lv_iconst (v := 0) hx hb dX4_play_143 (by decide) ?_
                refine lv_istore (lv' := [(7, .int 0), (6, .int 0), (4, .int x67), (5, .int x68), (3, .int x66), (2, .int x62), (0, .ref (base + a0)), (1, .int a1)]) hx hb dX4_play_144 hl (by decide) rfl (fun ls hl => ?_)
                refine lv_aload_n hx hb dX4_play_146 rfl (lv_at hl 6 rfl) ?_
                refine lv_iload_n hx hb dX4_play_147 rfl (lv_at hl 7 rfl) ?_
                refine lv_iload_n hx hb dX4_play_148 rfl (lv_at hl 5 rfl) ?_
                refine lv_iload hx hb dX4_play_149 (lv_at hl 1 rfl) ?_
                refine lv_ior hx hb dX4_play_151 ?_
                refine tw_top (fun x88 => ?_)
                have h87 := iv_any x88
                refine lv_iload_n hx hb dX4_play_152 rfl (lv_at hl 4 rfl) ?_
                refine lv_iload hx hb dX4_play_153 (lv_at hl 0 rfl) ?_
                refine lv_ior hx hb dX4_play_155 ?_
                refine tw_top (fun x90 => ?_)
                have h89 := iv_any x90
                have hm91 : 3 - a1.toInt < (d : Int) := by
                  have := (h6).1; have := (h6).2; omega
                refine tw_goi hS (md_runV (As := [.int a1, .int x88, .int x90]) (rest := []) hx hb hml hown hW hK hT hS.1 (t_X4_answered l D cy tx base Z K N d ih M69 R70 J71 hS.2.1 a0 hz_a0 hk_a0 a1 h6 x88 h87 x90 h89 hm91) s_X4_93 ⟨rfl, rfl, ⟨by simp only [md_rm]; omega, by simp only [md_rm]; omega⟩, ⟨Nat.le_of_ble_eq_true rfl, Nat.le_of_ble_eq_true rfl⟩⟩ hz_a0 hk_a0 (by decide) rfl rfl hl.1 rfl (Nat.le_of_ble_eq_true rfl) dX4_play_156) rfl rfl (fun x98 H locs M95 R96 J94 hS f92 g93 E97 => ?_)
                have h_x98 := E97
                clear E97
                refine lv_istore (lv' := [(8, .int x98), (7, .int 0), (6, .int 0), (4, .int x67), (5, .int x68), (3, .int x66), (2, .int x62), (0, .ref (base + a0)), (1, .int a1)]) hx hb dX4_play_159 hl (by decide) rfl (fun ls hl => ?_)
                refine lv_iload hx hb dX4_play_161 (lv_at hl 0 rfl) ?_
                refine lv_iload hx hb dX4_play_163 (lv_at hl 3 rfl) ?_
                refine lv_icmp_le (tgt := 186) hx hb dX4_play_165 (by decide) (fun c99 => ?_) (fun c99 => ?_)
                · have q100 : x98.toInt ≤ x67.toInt := ti_le c99
                  refine tw_iinc (lv' := fun x103 => [(5, .int x103), (8, .int x98), (7, .int 0), (6, .int 0), (4, .int x67), (3, .int x66), (2, .int x62), (0, .ref (base + a0)), (1, .int a1)]) (lo := 1) (hi := 3) hx hb dX4_play_186 hl (k := 4) rfl h78 (by decide) ⟨by decide, by decide⟩ ⟨by decide, by decide⟩ (by decide) (fun _ => rfl) (fun x103 ls e102 h101 hl => ?_)
                  refine lv_goto (tgt := 98) hx hb dX4_play_189 (by decide) ?_
                  have hm104 : 3 - x103.toInt < (n_69 : Int) := by
                    have := (h6).1; have := (h6).2; have := (h101).1; have := (h101).2; have := (h78).1; have := (h78).2; omega
                  exact ih_69 x67 x103 M95 R96 J94 H locs _ h_x67 (iv_mono h101 (by decide) (by decide)) hm104 hS (lv_sub hl [4, 0, 5, 6, 7, 8] rfl)
                · have q105 : x67.toInt < x98.toInt := ti_nle c99
                  have h106 : iv (-999999999) 1000000000 x98 := iv_gtL (y := x67) h_x98 h_x67 q105 (by decide)
                  have h107 : iv (-1000000000) 999999999 x67 := iv_ltL (y := x98) h_x67 h_x98 q105 (by decide)
                  refine lv_iload hx hb dX4_play_168 (lv_at hl 0 rfl) ?_
                  refine lv_istore (lv' := [(4, .int x98), (8, .int x98), (7, .int 0), (6, .int 0), (5, .int x68), (3, .int x66), (2, .int x62), (0, .ref (base + a0)), (1, .int a1)]) hx hb dX4_play_170 hl (by decide) rfl (fun ls hl => ?_)
                  refine lv_iload_n hx hb dX4_play_172 rfl (lv_at hl 8 rfl) ?_
                  refine lv_if_ne (tgt := 186) hx hb dX4_play_173 (by decide) (fun c108 => ?_) (fun c108 => ?_)
                  · have q109 : ¬ a1.toInt = 0 := ti_ne c108
                    have h110 : iv 1 3 a1 := ⟨by have := (h6).1; have := ((iv_c (c := 0) (n := 0) (by decide))).1; have := ((iv_c (c := 0) (n := 0) (by decide))).2; omega, by have := (h6).2; have := ((iv_c (c := 0) (n := 0) (by decide))).1; have := ((iv_c (c := 0) (n := 0) (by decide))).2; omega⟩
                    refine tw_iinc (lv' := fun x113 => [(5, .int x113), (4, .int x98), (8, .int x98), (7, .int 0), (6, .int 0), (3, .int x66), (2, .int x62), (0, .ref (base + a0)), (1, .int a1)]) (lo := 1) (hi := 3) hx hb dX4_play_186 hl (k := 4) rfl h78 (by decide) ⟨by decide, by decide⟩ ⟨by decide, by decide⟩ (by decide) (fun _ => rfl) (fun x113 ls e112 h111 hl => ?_)
                    refine lv_goto (tgt := 98) hx hb dX4_play_189 (by decide) ?_
                    have hm114 : 3 - x113.toInt < (n_69 : Int) := by
                      have := (h110).1; have := (h110).2; have := (h111).1; have := (h111).2; have := (h78).1; have := (h78).2; omega
                    exact ih_69 x98 x113 M95 R96 J94 H locs _ (iv_mono h106 (by decide) (by decide)) (iv_mono h111 (by decide) (by decide)) hm114 hS (lv_sub hl [1, 0, 5, 6, 7, 8] rfl)
                  · have q115 : a1.toInt = 0 := ti_eq c108
                    have h116 : iv 0 0 a1 := ⟨by have := (h6).1; have := ((iv_c (c := 0) (n := 0) (by decide))).1; omega, by have := (h6).2; have := ((iv_c (c := 0) (n := 0) (by decide))).2; omega⟩
                    refine lv_aload_n hx hb dX4_play_176 rfl (lv_at hl 7 rfl) ?_
                    obtain ⟨sy0, sy1, hY0, hY1⟩ := hT.2.2.2.2
                    refine va_getsN hx hb hY0 hS.1.2.2 hown (va_Nw.use rfl hK.2.2.1.2.2.2.2.2.2.1) (fun _ h => h) dX4_play_177 ?_
                    refine lv_iload hx hb dX4_play_180 (lv_at hl 4 rfl) ?_
                    refine va_ti hx hb hY1 hS.1.2.2 (iv_in h78 ⟨by decide, by decide⟩) rfl dX4_play_182 ?_
                    refine tw_top (fun x118 => ?_)
                    have h117 := iv_any x118
                    refine tw_puti hx hb hW hown hK hS f_X4_97_4 hz_a0 hk_a0 rfl rfl (lo := (-2147483648)) (hi := 2147483647) rfl h117 rfl dX4_play_183 (fun H locs M121 hS k119 f120 => ?_)
                    refine tw_iinc (lv' := fun x124 => [(5, .int x124), (4, .int x98), (8, .int x98), (7, .int 0), (6, .int 0), (3, .int x66), (2, .int x62), (0, .ref (base + a0)), (1, .int a1)]) (lo := 1) (hi := 3) hx hb dX4_play_186 hl (k := 4) rfl h78 (by decide) ⟨by decide, by decide⟩ ⟨by decide, by decide⟩ (by decide) (fun _ => rfl) (fun x124 ls e123 h122 hl => ?_)
                    refine lv_goto (tgt := 98) hx hb dX4_play_189 (by decide) ?_
                    have hm125 : 3 - x124.toInt < (n_69 : Int) := by
                      have := (h116).1; have := (h116).2; have := (h122).1; have := (h122).2; have := (h78).1; have := (h78).2; omega
                    exact ih_69 x98 x124 M121 R96 J94 H locs _ (iv_mono h106 (by decide) (by decide)) (iv_mono h122 (by decide) (by decide)) hm125 hS (lv_sub hl [1, 0, 5, 6, 7, 8] rfl)
              · have q126 : x84.toInt = 0 := ti_eq c85
                have h127 : iv 0 0 x84 := ⟨by have := (h83).1; have := ((iv_c (c := 0) (n := 0) (by decide))).1; omega, by have := (h83).2; have := ((iv_c (c := 0) (n := 0) (by decide))).2; omega⟩
                refine lv_aload_n hx hb dX4_play_136 rfl (lv_at hl 5 rfl) ?_
                refine tw_geti hx hb hW hown hK hS f_X4_28_4 hz_a0 hk_a0 (lo := (-2147483648)) (hi := 2147483647) rfl dX4_play_137 (fun x130 k129 h128 => ?_)
                refine lv_goto (tgt := 144) hx hb dX4_play_140 (by decide) ?_
                refine lv_istore (lv' := [(7, .int x130), (6, .int 0), (4, .int x67), (5, .int x68), (3, .int x66), (2, .int x62), (0, .ref (base + a0)), (1, .int a1)]) hx hb dX4_play_144 hl (by decide) rfl (fun ls hl => ?_)
                refine lv_aload_n hx hb dX4_play_146 rfl (lv_at hl 6 rfl) ?_
                refine lv_iload_n hx hb dX4_play_147 rfl (lv_at hl 7 rfl) ?_
                refine lv_iload_n hx hb dX4_play_148 rfl (lv_at hl 5 rfl) ?_
                refine lv_iload hx hb dX4_play_149 (lv_at hl 1 rfl) ?_
                refine lv_ior hx hb dX4_play_151 ?_
                refine tw_top (fun x132 => ?_)
                have h131 := iv_any x132
                refine lv_iload_n hx hb dX4_play_152 rfl (lv_at hl 4 rfl) ?_
                refine lv_iload hx hb dX4_play_153 (lv_at hl 0 rfl) ?_
                refine lv_ior hx hb dX4_play_155 ?_
                refine tw_top (fun x134 => ?_)
                have h133 := iv_any x134
                have hm135 : 3 - a1.toInt < (d : Int) := by
                  have := (h6).1; have := (h6).2; omega
                refine tw_goi hS (md_runV (As := [.int a1, .int x132, .int x134]) (rest := []) hx hb hml hown hW hK hT hS.1 (t_X4_answered l D cy tx base Z K N d ih M69 R70 J71 hS.2.1 a0 hz_a0 hk_a0 a1 h6 x132 h131 x134 h133 hm135) s_X4_93 ⟨rfl, rfl, ⟨by simp only [md_rm]; omega, by simp only [md_rm]; omega⟩, ⟨Nat.le_of_ble_eq_true rfl, Nat.le_of_ble_eq_true rfl⟩⟩ hz_a0 hk_a0 (by decide) rfl rfl hl.1 rfl (Nat.le_of_ble_eq_true rfl) dX4_play_156) rfl rfl (fun x142 H locs M139 R140 J138 hS f136 g137 E141 => ?_)
                have h_x142 := E141
                clear E141
                refine lv_istore (lv' := [(8, .int x142), (7, .int x130), (6, .int 0), (4, .int x67), (5, .int x68), (3, .int x66), (2, .int x62), (0, .ref (base + a0)), (1, .int a1)]) hx hb dX4_play_159 hl (by decide) rfl (fun ls hl => ?_)
                refine lv_iload hx hb dX4_play_161 (lv_at hl 0 rfl) ?_
                refine lv_iload hx hb dX4_play_163 (lv_at hl 3 rfl) ?_
                refine lv_icmp_le (tgt := 186) hx hb dX4_play_165 (by decide) (fun c143 => ?_) (fun c143 => ?_)
                · have q144 : x142.toInt ≤ x67.toInt := ti_le c143
                  refine tw_iinc (lv' := fun x147 => [(5, .int x147), (8, .int x142), (7, .int x130), (6, .int 0), (4, .int x67), (3, .int x66), (2, .int x62), (0, .ref (base + a0)), (1, .int a1)]) (lo := 1) (hi := 3) hx hb dX4_play_186 hl (k := 4) rfl h78 (by decide) ⟨by decide, by decide⟩ ⟨by decide, by decide⟩ (by decide) (fun _ => rfl) (fun x147 ls e146 h145 hl => ?_)
                  refine lv_goto (tgt := 98) hx hb dX4_play_189 (by decide) ?_
                  have hm148 : 3 - x147.toInt < (n_69 : Int) := by
                    have := (h6).1; have := (h6).2; have := (h145).1; have := (h145).2; have := (h78).1; have := (h78).2; omega
                  exact ih_69 x67 x147 M139 R140 J138 H locs _ h_x67 (iv_mono h145 (by decide) (by decide)) hm148 hS (lv_sub hl [4, 0, 5, 6, 7, 8] rfl)
                · have q149 : x67.toInt < x142.toInt := ti_nle c143
                  have h150 : iv (-999999999) 1000000000 x142 := iv_gtL (y := x67) h_x142 h_x67 q149 (by decide)
                  have h151 : iv (-1000000000) 999999999 x67 := iv_ltL (y := x142) h_x67 h_x142 q149 (by decide)
                  refine lv_iload hx hb dX4_play_168 (lv_at hl 0 rfl) ?_
                  refine lv_istore (lv' := [(4, .int x142), (8, .int x142), (7, .int x130), (6, .int 0), (5, .int x68), (3, .int x66), (2, .int x62), (0, .ref (base + a0)), (1, .int a1)]) hx hb dX4_play_170 hl (by decide) rfl (fun ls hl => ?_)
                  refine lv_iload_n hx hb dX4_play_172 rfl (lv_at hl 8 rfl) ?_
                  refine lv_if_ne (tgt := 186) hx hb dX4_play_173 (by decide) (fun c152 => ?_) (fun c152 => ?_)
                  · have q153 : ¬ a1.toInt = 0 := ti_ne c152
                    have h154 : iv 1 3 a1 := ⟨by have := (h6).1; have := ((iv_c (c := 0) (n := 0) (by decide))).1; have := ((iv_c (c := 0) (n := 0) (by decide))).2; omega, by have := (h6).2; have := ((iv_c (c := 0) (n := 0) (by decide))).1; have := ((iv_c (c := 0) (n := 0) (by decide))).2; omega⟩
                    refine tw_iinc (lv' := fun x157 => [(5, .int x157), (4, .int x142), (8, .int x142), (7, .int x130), (6, .int 0), (3, .int x66), (2, .int x62), (0, .ref (base + a0)), (1, .int a1)]) (lo := 1) (hi := 3) hx hb dX4_play_186 hl (k := 4) rfl h78 (by decide) ⟨by decide, by decide⟩ ⟨by decide, by decide⟩ (by decide) (fun _ => rfl) (fun x157 ls e156 h155 hl => ?_)
                    refine lv_goto (tgt := 98) hx hb dX4_play_189 (by decide) ?_
                    have hm158 : 3 - x157.toInt < (n_69 : Int) := by
                      have := (h154).1; have := (h154).2; have := (h155).1; have := (h155).2; have := (h78).1; have := (h78).2; omega
                    exact ih_69 x142 x157 M139 R140 J138 H locs _ (iv_mono h150 (by decide) (by decide)) (iv_mono h155 (by decide) (by decide)) hm158 hS (lv_sub hl [1, 0, 5, 6, 7, 8] rfl)
                  · have q159 : a1.toInt = 0 := ti_eq c152
                    have h160 : iv 0 0 a1 := ⟨by have := (h6).1; have := ((iv_c (c := 0) (n := 0) (by decide))).1; omega, by have := (h6).2; have := ((iv_c (c := 0) (n := 0) (by decide))).2; omega⟩
                    refine lv_aload_n hx hb dX4_play_176 rfl (lv_at hl 7 rfl) ?_
                    obtain ⟨sy0, sy1, hY0, hY1⟩ := hT.2.2.2.2
                    refine va_getsN hx hb hY0 hS.1.2.2 hown (va_Nw.use rfl hK.2.2.1.2.2.2.2.2.2.1) (fun _ h => h) dX4_play_177 ?_
                    refine lv_iload hx hb dX4_play_180 (lv_at hl 4 rfl) ?_
                    refine va_ti hx hb hY1 hS.1.2.2 (iv_in h78 ⟨by decide, by decide⟩) rfl dX4_play_182 ?_
                    refine tw_top (fun x162 => ?_)
                    have h161 := iv_any x162
                    refine tw_puti hx hb hW hown hK hS f_X4_97_4 hz_a0 hk_a0 rfl rfl (lo := (-2147483648)) (hi := 2147483647) rfl h161 rfl dX4_play_183 (fun H locs M165 hS k163 f164 => ?_)
                    refine tw_iinc (lv' := fun x168 => [(5, .int x168), (4, .int x142), (8, .int x142), (7, .int x130), (6, .int 0), (3, .int x66), (2, .int x62), (0, .ref (base + a0)), (1, .int a1)]) (lo := 1) (hi := 3) hx hb dX4_play_186 hl (k := 4) rfl h78 (by decide) ⟨by decide, by decide⟩ ⟨by decide, by decide⟩ (by decide) (fun _ => rfl) (fun x168 ls e167 h166 hl => ?_)
                    refine lv_goto (tgt := 98) hx hb dX4_play_189 (by decide) ?_
                    have hm169 : 3 - x168.toInt < (n_69 : Int) := by
                      have := (h160).1; have := (h160).2; have := (h166).1; have := (h166).2; have := (h78).1; have := (h78).2; omega
                    exact ih_69 x142 x168 M165 R140 J138 H locs _ (iv_mono h150 (by decide) (by decide)) (iv_mono h166 (by decide) (by decide)) hm169 hS (lv_sub hl [1, 0, 5, 6, 7, 8] rfl)
            · have q170 : x80.toInt = 1 := ti_eq c81
              have h171 : iv 1 1 x80 := ⟨by have := (h79).1; have := ((iv_c (c := 1) (n := 1) (by decide))).1; omega, by have := (h79).2; have := ((iv_c (c := 1) (n := 1) (by decide))).2; omega⟩
              refine lv_aload_n hx hb dX4_play_117 rfl (lv_at hl 4 rfl) ?_
              refine tw_geti hx hb hW hown hK hS f_X4_28_4 hz_a0 hk_a0 (lo := (-2147483648)) (hi := 2147483647) rfl dX4_play_118 (fun x174 k173 h172 => ?_)
              refine lv_goto (tgt := 125) hx hb dX4_play_121 (by decide) ?_
              refine lv_istore (lv' := [(6, .int x174), (4, .int x67), (5, .int x68), (3, .int x66), (2, .int x62), (0, .ref (base + a0)), (1, .int a1)]) hx hb dX4_play_125 hl (by decide) rfl (fun ls hl => ?_)
              obtain ⟨sy0, sy1, hY0, hY1⟩ := hT.2.2.2.2
              refine va_getsN hx hb hY0 hS.1.2.2 hown (va_Nw.use rfl hK.2.2.1.2.2.2.2.2.2.1) (fun _ h => h) dX4_play_127 ?_
              refine lv_iload hx hb dX4_play_130 (lv_at hl 2 rfl) ?_
              refine va_ti hx hb hY1 hS.1.2.2 (iv_in h78 ⟨by decide, by decide⟩) rfl dX4_play_132 ?_
              refine tw_top (fun x176 => ?_)
              have h175 := iv_any x176
              refine lv_if_ne (tgt := 143) hx hb dX4_play_133 (by decide) (fun c177 => ?_) (fun c177 => ?_)
              · have q178 : ¬ x176.toInt = 0 := ti_ne c177
                refine lv_iconst (v := 0) hx hb dX4_play_143 (by decide) ?_
                refine lv_istore (lv' := [(7, .int 0), (6, .int x174), (4, .int x67), (5, .int x68), (3, .int x66), (2, .int x62), (0, .ref (base + a0)), (1, .int a1)]) hx hb dX4_play_144 hl (by decide) rfl (fun ls hl => ?_)
                refine lv_aload_n hx hb dX4_play_146 rfl (lv_at hl 6 rfl) ?_
                refine lv_iload_n hx hb dX4_play_147 rfl (lv_at hl 7 rfl) ?_
                refine lv_iload_n hx hb dX4_play_148 rfl (lv_at hl 5 rfl) ?_
                refine lv_iload hx hb dX4_play_149 (lv_at hl 1 rfl) ?_
                refine lv_ior hx hb dX4_play_151 ?_
                refine tw_top (fun x180 => ?_)
                have h179 := iv_any x180
                refine lv_iload_n hx hb dX4_play_152 rfl (lv_at hl 4 rfl) ?_
                refine lv_iload hx hb dX4_play_153 (lv_at hl 0 rfl) ?_
                refine lv_ior hx hb dX4_play_155 ?_
                refine tw_top (fun x182 => ?_)
                have h181 := iv_any x182
                have hm183 : 3 - a1.toInt < (d : Int) := by
                  have := (h6).1; have := (h6).2; omega
                refine tw_goi hS (md_runV (As := [.int a1, .int x180, .int x182]) (rest := []) hx hb hml hown hW hK hT hS.1 (t_X4_answered l D cy tx base Z K N d ih M69 R70 J71 hS.2.1 a0 hz_a0 hk_a0 a1 h6 x180 h179 x182 h181 hm183) s_X4_93 ⟨rfl, rfl, ⟨by simp only [md_rm]; omega, by simp only [md_rm]; omega⟩, ⟨Nat.le_of_ble_eq_true rfl, Nat.le_of_ble_eq_true rfl⟩⟩ hz_a0 hk_a0 (by decide) rfl rfl hl.1 rfl (Nat.le_of_ble_eq_true rfl) dX4_play_156) rfl rfl (fun x190 H locs M187 R188 J186 hS f184 g185 E189 => ?_)
                have h_x190 := E189
                clear E189
                refine lv_istore (lv' := [(8, .int x190), (7, .int 0), (6, .int x174), (4, .int x67), (5, .int x68), (3, .int x66), (2, .int x62), (0, .ref (base + a0)), (1, .int a1)]) hx hb dX4_play_159 hl (by decide) rfl (fun ls hl => ?_)
                refine lv_iload hx hb dX4_play_161 (lv_at hl 0 rfl) ?_
                refine lv_iload hx hb dX4_play_163 (lv_at hl 3 rfl) ?_
                refine lv_icmp_le (tgt := 186) hx hb dX4_play_165 (by decide) (fun c191 => ?_) (fun c191 => ?_)
                · have q192 : x190.toInt ≤ x67.toInt := ti_le c191
                  refine tw_iinc (lv' := fun x195 => [(5, .int x195), (8, .int x190), (7, .int 0), (6, .int x174), (4, .int x67), (3, .int x66), (2, .int x62), (0, .ref (base + a0)), (1, .int a1)]) (lo := 1) (hi := 3) hx hb dX4_play_186 hl (k := 4) rfl h78 (by decide) ⟨by decide, by decide⟩ ⟨by decide, by decide⟩ (by decide) (fun _ => rfl) (fun x195 ls e194 h193 hl => ?_)
                  refine lv_goto (tgt := 98) hx hb dX4_play_189 (by decide) ?_
                  have hm196 : 3 - x195.toInt < (n_69 : Int) := by
                    have := (h6).1; have := (h6).2; have := (h193).1; have := (h193).2; have := (h78).1; have := (h78).2; omega
                  exact ih_69 x67 x195 M187 R188 J186 H locs _ h_x67 (iv_mono h193 (by decide) (by decide)) hm196 hS (lv_sub hl [4, 0, 5, 6, 7, 8] rfl)
                · have q197 : x67.toInt < x190.toInt := ti_nle c191
                  have h198 : iv (-999999999) 1000000000 x190 := iv_gtL (y := x67) h_x190 h_x67 q197 (by decide)
                  have h199 : iv (-1000000000) 999999999 x67 := iv_ltL (y := x190) h_x67 h_x190 q197 (by decide)
                  refine lv_iload hx hb dX4_play_168 (lv_at hl 0 rfl) ?_
                  refine lv_istore (lv' := [(4, .int x190), (8, .int x190), (7, .int 0), (6, .int x174), (5, .int x68), (3, .int x66), (2, .int x62), (0, .ref (base + a0)), (1, .int a1)]) hx hb dX4_play_170 hl (by decide) rfl (fun ls hl => ?_)
                  refine lv_iload_n hx hb dX4_play_172 rfl (lv_at hl 8 rfl) ?_
                  refine lv_if_ne (tgt := 186) hx hb dX4_play_173 (by decide) (fun c200 => ?_) (fun c200 => ?_)
                  · have q201 : ¬ a1.toInt = 0 := ti_ne c200
                    have h202 : iv 1 3 a1 := ⟨by have := (h6).1; have := ((iv_c (c := 0) (n := 0) (by decide))).1; have := ((iv_c (c := 0) (n := 0) (by decide))).2; omega, by have := (h6).2; have := ((iv_c (c := 0) (n := 0) (by decide))).1; have := ((iv_c (c := 0) (n := 0) (by decide))).2; omega⟩
                    refine tw_iinc (lv' := fun x205 => [(5, .int x205), (4, .int x190), (8, .int x190), (7, .int 0), (6, .int x174), (3, .int x66), (2, .int x62), (0, .ref (base + a0)), (1, .int a1)]) (lo := 1) (hi := 3) hx hb dX4_play_186 hl (k := 4) rfl h78 (by decide) ⟨by decide, by decide⟩ ⟨by decide, by decide⟩ (by decide) (fun _ => rfl) (fun x205 ls e204 h203 hl => ?_)
                    refine lv_goto (tgt := 98) hx hb dX4_play_189 (by decide) ?_
                    have hm206 : 3 - x205.toInt < (n_69 : Int) := by
                      have := (h202).1; have := (h202).2; have := (h203).1; have := (h203).2; have := (h78).1; have := (h78).2; omega
                    exact ih_69 x190 x205 M187 R188 J186 H locs _ (iv_mono h198 (by decide) (by decide)) (iv_mono h203 (by decide) (by decide)) hm206 hS (lv_sub hl [1, 0, 5, 6, 7, 8] rfl)
                  · have q207 : a1.toInt = 0 := ti_eq c200
                    have h208 : iv 0 0 a1 := ⟨by have := (h6).1; have := ((iv_c (c := 0) (n := 0) (by decide))).1; omega, by have := (h6).2; have := ((iv_c (c := 0) (n := 0) (by decide))).2; omega⟩
                    refine lv_aload_n hx hb dX4_play_176 rfl (lv_at hl 7 rfl) ?_
                    obtain ⟨sy0, sy1, hY0, hY1⟩ := hT.2.2.2.2
                    refine va_getsN hx hb hY0 hS.1.2.2 hown (va_Nw.use rfl hK.2.2.1.2.2.2.2.2.2.1) (fun _ h => h) dX4_play_177 ?_
                    refine lv_iload hx hb dX4_play_180 (lv_at hl 4 rfl) ?_
                    refine va_ti hx hb hY1 hS.1.2.2 (iv_in h78 ⟨by decide, by decide⟩) rfl dX4_play_182 ?_
                    refine tw_top (fun x210 => ?_)
                    have h209 := iv_any x210
                    refine tw_puti hx hb hW hown hK hS f_X4_97_4 hz_a0 hk_a0 rfl rfl (lo := (-2147483648)) (hi := 2147483647) rfl h209 rfl dX4_play_183 (fun H locs M213 hS k211 f212 => ?_)
                    refine tw_iinc (lv' := fun x216 => [(5, .int x216), (4, .int x190), (8, .int x190), (7, .int 0), (6, .int x174), (3, .int x66), (2, .int x62), (0, .ref (base + a0)), (1, .int a1)]) (lo := 1) (hi := 3) hx hb dX4_play_186 hl (k := 4) rfl h78 (by decide) ⟨by decide, by decide⟩ ⟨by decide, by decide⟩ (by decide) (fun _ => rfl) (fun x216 ls e215 h214 hl => ?_)
                    refine lv_goto (tgt := 98) hx hb dX4_play_189 (by decide) ?_
                    have hm217 : 3 - x216.toInt < (n_69 : Int) := by
                      have := (h208).1; have := (h208).2; have := (h214).1; have := (h214).2; have := (h78).1; have := (h78).2; omega
                    exact ih_69 x190 x216 M213 R188 J186 H locs _ (iv_mono h198 (by decide) (by decide)) (iv_mono h214 (by decide) (by decide)) hm217 hS (lv_sub hl [1, 0, 5, 6, 7, 8] rfl)
              · have q218 : x176.toInt = 0 := ti_eq c177
                have h219 : iv 0 0 x176 := ⟨by have := (h175).1; have := ((iv_c (c := 0) (n := 0) (by decide))).1; omega, by have := (h175).2; have := ((iv_c (c := 0) (n := 0) (by decide))).2; omega⟩
                refine lv_aload_n hx hb dX4_play_136 rfl (lv_at hl 5 rfl) ?_
                refine tw_getk hx hb hW hown hK hS f_X4_28_4 hz_a0 hk_a0 (v := x174) k173 dX4_play_137 ?_
                refine lv_goto (tgt := 144) hx hb dX4_play_140 (by decide) ?_
                refine lv_istore (lv' := [(7, .int x174), (6, .int x174), (4, .int x67), (5, .int x68), (3, .int x66), (2, .int x62), (0, .ref (base + a0)), (1, .int a1)]) hx hb dX4_play_144 hl (by decide) rfl (fun ls hl => ?_)
                refine lv_aload_n hx hb dX4_play_146 rfl (lv_at hl 6 rfl) ?_
                refine lv_iload_n hx hb dX4_play_147 rfl (lv_at hl 7 rfl) ?_
                refine lv_iload_n hx hb dX4_play_148 rfl (lv_at hl 5 rfl) ?_
                refine lv_iload hx hb dX4_play_149 (lv_at hl 1 rfl) ?_
                refine lv_ior hx hb dX4_play_151 ?_
                refine tw_top (fun x221 => ?_)
                have h220 := iv_any x221
                refine lv_iload_n hx hb dX4_play_152 rfl (lv_at hl 4 rfl) ?_
                refine lv_iload hx hb dX4_play_153 (lv_at hl 0 rfl) ?_
                refine lv_ior hx hb dX4_play_155 ?_
                refine tw_top (fun x223 => ?_)
                have h222 := iv_any x223
                have hm224 : 3 - a1.toInt < (d : Int) := by
                  have := (h6).1; have := (h6).2; omega
                refine tw_goi hS (md_runV (As := [.int a1, .int x221, .int x223]) (rest := []) hx hb hml hown hW hK hT hS.1 (t_X4_answered l D cy tx base Z K N d ih M69 R70 J71 hS.2.1 a0 hz_a0 hk_a0 a1 h6 x221 h220 x223 h222 hm224) s_X4_93 ⟨rfl, rfl, ⟨by simp only [md_rm]; omega, by simp only [md_rm]; omega⟩, ⟨Nat.le_of_ble_eq_true rfl, Nat.le_of_ble_eq_true rfl⟩⟩ hz_a0 hk_a0 (by decide) rfl rfl hl.1 rfl (Nat.le_of_ble_eq_true rfl) dX4_play_156) rfl rfl (fun x231 H locs M228 R229 J227 hS f225 g226 E230 => ?_)
                have h_x231 := E230
                clear E230
                refine lv_istore (lv' := [(8, .int x231), (7, .int x174), (6, .int x174), (4, .int x67), (5, .int x68), (3, .int x66), (2, .int x62), (0, .ref (base + a0)), (1, .int a1)]) hx hb dX4_play_159 hl (by decide) rfl (fun ls hl => ?_)
                refine lv_iload hx hb dX4_play_161 (lv_at hl 0 rfl) ?_
                refine lv_iload hx hb dX4_play_163 (lv_at hl 3 rfl) ?_
                refine lv_icmp_le (tgt := 186) hx hb dX4_play_165 (by decide) (fun c232 => ?_) (fun c232 => ?_)
                · have q233 : x231.toInt ≤ x67.toInt := ti_le c232
                  refine tw_iinc (lv' := fun x236 => [(5, .int x236), (8, .int x231), (7, .int x174), (6, .int x174), (4, .int x67), (3, .int x66), (2, .int x62), (0, .ref (base + a0)), (1, .int a1)]) (lo := 1) (hi := 3) hx hb dX4_play_186 hl (k := 4) rfl h78 (by decide) ⟨by decide, by decide⟩ ⟨by decide, by decide⟩ (by decide) (fun _ => rfl) (fun x236 ls e235 h234 hl => ?_)
                  refine lv_goto (tgt := 98) hx hb dX4_play_189 (by decide) ?_
                  have hm237 : 3 - x236.toInt < (n_69 : Int) := by
                    have := (h6).1; have := (h6).2; have := (h234).1; have := (h234).2; have := (h78).1; have := (h78).2; omega
                  exact ih_69 x67 x236 M228 R229 J227 H locs _ h_x67 (iv_mono h234 (by decide) (by decide)) hm237 hS (lv_sub hl [4, 0, 5, 6, 7, 8] rfl)
                · have q238 : x67.toInt < x231.toInt := ti_nle c232
                  have h239 : iv (-999999999) 1000000000 x231 := iv_gtL (y := x67) h_x231 h_x67 q238 (by decide)
                  have h240 : iv (-1000000000) 999999999 x67 := iv_ltL (y := x231) h_x67 h_x231 q238 (by decide)
                  refine lv_iload hx hb dX4_play_168 (lv_at hl 0 rfl) ?_
                  refine lv_istore (lv' := [(4, .int x231), (8, .int x231), (7, .int x174), (6, .int x174), (5, .int x68), (3, .int x66), (2, .int x62), (0, .ref (base + a0)), (1, .int a1)]) hx hb dX4_play_170 hl (by decide) rfl (fun ls hl => ?_)
                  refine lv_iload_n hx hb dX4_play_172 rfl (lv_at hl 8 rfl) ?_
                  refine lv_if_ne (tgt := 186) hx hb dX4_play_173 (by decide) (fun c241 => ?_) (fun c241 => ?_)
                  · have q242 : ¬ a1.toInt = 0 := ti_ne c241
                    have h243 : iv 1 3 a1 := ⟨by have := (h6).1; have := ((iv_c (c := 0) (n := 0) (by decide))).1; have := ((iv_c (c := 0) (n := 0) (by decide))).2; omega, by have := (h6).2; have := ((iv_c (c := 0) (n := 0) (by decide))).1; have := ((iv_c (c := 0) (n := 0) (by decide))).2; omega⟩
                    refine tw_iinc (lv' := fun x246 => [(5, .int x246), (4, .int x231), (8, .int x231), (7, .int x174), (6, .int x174), (3, .int x66), (2, .int x62), (0, .ref (base + a0)), (1, .int a1)]) (lo := 1) (hi := 3) hx hb dX4_play_186 hl (k := 4) rfl h78 (by decide) ⟨by decide, by decide⟩ ⟨by decide, by decide⟩ (by decide) (fun _ => rfl) (fun x246 ls e245 h244 hl => ?_)
                    refine lv_goto (tgt := 98) hx hb dX4_play_189 (by decide) ?_
                    have hm247 : 3 - x246.toInt < (n_69 : Int) := by
                      have := (h243).1; have := (h243).2; have := (h244).1; have := (h244).2; have := (h78).1; have := (h78).2; omega
                    exact ih_69 x231 x246 M228 R229 J227 H locs _ (iv_mono h239 (by decide) (by decide)) (iv_mono h244 (by decide) (by decide)) hm247 hS (lv_sub hl [1, 0, 5, 6, 7, 8] rfl)
                  · have q248 : a1.toInt = 0 := ti_eq c241
                    have h249 : iv 0 0 a1 := ⟨by have := (h6).1; have := ((iv_c (c := 0) (n := 0) (by decide))).1; omega, by have := (h6).2; have := ((iv_c (c := 0) (n := 0) (by decide))).2; omega⟩
                    refine lv_aload_n hx hb dX4_play_176 rfl (lv_at hl 7 rfl) ?_
                    obtain ⟨sy0, sy1, hY0, hY1⟩ := hT.2.2.2.2
                    refine va_getsN hx hb hY0 hS.1.2.2 hown (va_Nw.use rfl hK.2.2.1.2.2.2.2.2.2.1) (fun _ h => h) dX4_play_177 ?_
                    refine lv_iload hx hb dX4_play_180 (lv_at hl 4 rfl) ?_
                    refine va_ti hx hb hY1 hS.1.2.2 (iv_in h78 ⟨by decide, by decide⟩) rfl dX4_play_182 ?_
                    refine tw_top (fun x251 => ?_)
                    have h250 := iv_any x251
                    refine tw_puti hx hb hW hown hK hS f_X4_97_4 hz_a0 hk_a0 rfl rfl (lo := (-2147483648)) (hi := 2147483647) rfl h250 rfl dX4_play_183 (fun H locs M254 hS k252 f253 => ?_)
                    refine tw_iinc (lv' := fun x257 => [(5, .int x257), (4, .int x231), (8, .int x231), (7, .int x174), (6, .int x174), (3, .int x66), (2, .int x62), (0, .ref (base + a0)), (1, .int a1)]) (lo := 1) (hi := 3) hx hb dX4_play_186 hl (k := 4) rfl h78 (by decide) ⟨by decide, by decide⟩ ⟨by decide, by decide⟩ (by decide) (fun _ => rfl) (fun x257 ls e256 h255 hl => ?_)
                    refine lv_goto (tgt := 98) hx hb dX4_play_189 (by decide) ?_
                    have hm258 : 3 - x257.toInt < (n_69 : Int) := by
                      have := (h249).1; have := (h249).2; have := (h255).1; have := (h255).2; have := (h78).1; have := (h78).2; omega
                    exact ih_69 x231 x257 M254 R229 J227 H locs _ (iv_mono h239 (by decide) (by decide)) (iv_mono h255 (by decide) (by decide)) hm258 hS (lv_sub hl [1, 0, 5, 6, 7, 8] rfl)
      have hm259 : 3 - (0 : Int32).toInt < (((4 : Nat) : Int) : Int) := by
        have := (h6).1; have := (h6).2; have : (0 : Int32).toInt = 0 := (by decide); omega
      exact W98_69 4 (-1000000000) 0 M56 R30 J55 H locs _ (iv_mono (iv_c (c := (-1000000000)) (n := (-1000000000)) (by decide)) (by decide) (by decide)) (iv_mono (iv_c (c := 0) (n := 0) (by decide)) (by decide) (by decide)) hm259 hS (lv_sub hl [1, 0, 2, 3, 4, 5] rfl)
    · have q260 : x3.toInt ≤ a1.toInt := ti_nlt c4
      refine lv_iconst (v := 0) hx hb dX4_play_8 (by decide) ?_
      exact tw_endi hx hb hr hlocks hK hT hS hQ ((iv_mono (iv_c (c := 0) (n := 0) (by decide)) (by decide) (by decide))) dX4_play_9
def Lt_X9_worthOfSet : WL := []
def LRt_X9_worthOfSet : WL := []
set_option maxRecDepth 100000 in
set_option maxHeartbeats 4000000 in
theorem t_X9_worthOfSet (l : Launch) (D : va_G) (cy : Nat → ClassId) (tx : (Nat → Nat) × (Nat → Nat)) (base Z : Nat) (K N : Nat → Nat) (Ma : MT) (Ra : RT) (Ja : JT) (hTy : Ty Z K N Ma Ra) (a0 : Nat) (hz_a0 : a0 < Z) (hk_a0 : K a0 = 10) (a1 : Int32) (h_a1 : iv (-2147483648) 2147483647 a1) (a2 : Int32) (h_a2 : iv 0 11 a2) : Met l yX9_worthOfSet [Cond.code yX9_worthOfSet cX9_worthOfSet 5 (some .int)] (md_rm 2 0 0) (va_Pc [.ref (base + a0), .int a1, .int a2] (md_U D cy tx base Z K N Ma Ra Ja)) (mQi D cy tx base (fun r u => TP Z K N Lt_X9_worthOfSet LRt_X9_worthOfSet Ma Ra u ∧ (iv (-2147483648) 2147483647 r))) 0 0 (fun q => base ≤ q) := by
  refine tw_ofW (L := Lt_X9_worthOfSet) (LR := LRt_X9_worthOfSet) (by decide) (Nat.le_of_ble_eq_true rfl) hTy ?_
  intro p e s m args below meth c Q ls hx hb hr hlocks hown hml hW hK hT hS hQ hl
  have hl : lv_has ls 5 [(0, .ref (base + a0)), (1, .int a1), (2, .int a2)] := hl
  refine lv_iconst (v := 0) hx hb dX9_worthOfSet_0 (by decide) ?_
  refine lv_istore_n (lv' := [(3, .int 0), (0, .ref (base + a0)), (1, .int a1), (2, .int a2)]) hx hb dX9_worthOfSet_1 rfl hl (by decide) rfl (fun ls hl => ?_)
  refine lv_iconst (v := 0) hx hb dX9_worthOfSet_2 (by decide) ?_
  refine lv_istore (lv' := [(4, .int 0), (3, .int 0), (0, .ref (base + a0)), (1, .int a1), (2, .int a2)]) hx hb dX9_worthOfSet_3 hl (by decide) rfl (fun ls hl => ?_)
  have W5_3 : ∀ (n_3 : Nat) (x1 : Int32) (x2 : Int32) (M3 : MT) (R4 : RT) (J5 : JT) (H : Heap) (locs : List Loc) (ls : Array Slot) (h_x1 : iv (-2147483648) 2147483647 x1) (h_x2 : iv 0 10 x2) (hm_3 : 10 - x2.toInt < (n_3 : Int)) (hS : SB D cy base Z K N Lt_X9_worthOfSet LRt_X9_worthOfSet Ma Ra M3 R4 J5 s H locs) (hl : lv_has ls 5 [(3, .int x1), (4, .int x2), (0, .ref (base + a0)), (1, .int a1), (2, .int a2)]), W p l e (md_rm 2 0 0) s m args below meth c H locs 0 0 Q (F0 m 5 ls []) := by
    intro n_3
    induction n_3 with
    | zero =>
      intro x1 x2 M3 R4 J5 H locs ls h_x1 h_x2 hm_3 hS hl
      exfalso
      have := (h_a1).1; have := (h_a1).2; have := (h_a2).1; have := (h_a2).2; have := (h_x2).1; have := (h_x2).2; omega
    | succ n_3 ih_3 =>
      intro x1 x2 M3 R4 J5 H locs ls h_x1 h_x2 hm_3 hS hl
      have f6 := hS.2.2.1
      have g7 := hS.2.2.2
      refine lv_iload hx hb dX9_worthOfSet_5 (lv_at hl 1 rfl) ?_
      refine lv_aload_n hx hb dX9_worthOfSet_7 rfl (lv_at hl 2 rfl) ?_
      refine tw_geti hx hb hW hown hK hS f_X9_33_9 hz_a0 hk_a0 (lo := (-2147483648)) (hi := 10) rfl dX9_worthOfSet_8 (fun x10 k9 h8 => ?_)
      refine lv_icmp_ge (tgt := 40) hx hb dX9_worthOfSet_11 (by decide) (fun c11 => ?_) (fun c11 => ?_)
      · have q12 : x10.toInt ≤ x2.toInt := ti_le c11
        refine lv_iload_n hx hb dX9_worthOfSet_40 rfl (lv_at hl 0 rfl) ?_
        exact tw_endi hx hb hr hlocks hK hT hS hQ (h_x1) dX9_worthOfSet_41
      · have q13 : x2.toInt < x10.toInt := ti_nle c11
        have h14 : iv 0 9 x2 := iv_ltL (y := x10) h_x2 h8 q13 (by decide)
        have h15 : iv 1 10 x10 := iv_gtL (y := x2) h8 h_x2 q13 (by decide)
        refine lv_iload_n hx hb dX9_worthOfSet_14 rfl (lv_at hl 3 rfl) ?_
        refine lv_iload hx hb dX9_worthOfSet_15 (lv_at hl 1 rfl) ?_
        refine lv_ishr hx hb dX9_worthOfSet_17 ?_
        refine tw_top (fun x17 => ?_)
        have h16 := iv_any x17
        refine lv_iconst (v := 1) hx hb dX9_worthOfSet_18 (by decide) ?_
        refine tw_iand (hi := 1) hx hb (iv_mono (iv_c (c := 1) (n := 1) (by decide)) (lo := 0) (hi := 1) (by decide) (by decide)) (by decide) dX9_worthOfSet_19 (fun x20 h18 => ?_)
        refine lv_iconst (v := 1) hx hb dX9_worthOfSet_20 (by decide) ?_
        refine lv_icmp_ne (tgt := 34) hx hb dX9_worthOfSet_21 (by decide) (fun c21 => ?_) (fun c21 => ?_)
        · have q22 : ¬ x20.toInt = 1 := ti_ne c21
          have h23 : iv 0 0 x20 := ⟨by have := (h18).1; have := ((iv_c (c := 1) (n := 1) (by decide))).1; have := ((iv_c (c := 1) (n := 1) (by decide))).2; omega, by have := (h18).2; have := ((iv_c (c := 1) (n := 1) (by decide))).1; have := ((iv_c (c := 1) (n := 1) (by decide))).2; omega⟩
          refine tw_iinc (lv' := fun x26 => [(4, .int x26), (3, .int x1), (0, .ref (base + a0)), (1, .int a1), (2, .int a2)]) (lo := 1) (hi := 10) hx hb dX9_worthOfSet_34 hl (k := 1) rfl h14 (by decide) ⟨by decide, by decide⟩ ⟨by decide, by decide⟩ (by decide) (fun _ => rfl) (fun x26 ls e25 h24 hl => ?_)
          refine lv_goto (tgt := 5) hx hb dX9_worthOfSet_37 (by decide) ?_
          have hm27 : 10 - x26.toInt < (n_3 : Int) := by
            have := (h_a1).1; have := (h_a1).2; have := (h_a2).1; have := (h_a2).2; have := (h14).1; have := (h14).2; have := (h24).1; have := (h24).2; omega
          exact ih_3 x1 x26 M3 R4 J5 H locs _ h_x1 (iv_mono h24 (by decide) (by decide)) hm27 hS (lv_sub hl [1, 0, 2, 3, 4] rfl)
        · have q28 : x20.toInt = 1 := ti_eq c21
          have h29 : iv 1 1 x20 := ⟨by have := (h18).1; have := ((iv_c (c := 1) (n := 1) (by decide))).1; omega, by have := (h18).2; have := ((iv_c (c := 1) (n := 1) (by decide))).2; omega⟩
          refine lv_iload_n hx hb dX9_worthOfSet_24 rfl (lv_at hl 0 rfl) ?_
          refine lv_aload_n hx hb dX9_worthOfSet_25 rfl (lv_at hl 2 rfl) ?_
          refine lv_iload hx hb dX9_worthOfSet_26 (lv_at hl 1 rfl) ?_
          refine lv_iload_n hx hb dX9_worthOfSet_28 rfl (lv_at hl 4 rfl) ?_
          refine tw_goi hS (md_runV (As := [.int x2, .int a2]) (rest := [.int x1]) hx hb hml hown hW hK hT hS.1 (t_X9_worthOf l D cy tx base Z K N M3 R4 J5 hS.2.1 a0 hz_a0 hk_a0 x2 h14 a2 h_a2) s_X9_71 ⟨rfl, rfl, ⟨Nat.le_of_ble_eq_true rfl, Nat.le_of_ble_eq_true rfl⟩, ⟨Nat.le_of_ble_eq_true rfl, Nat.le_of_ble_eq_true rfl⟩⟩ hz_a0 hk_a0 (by decide) rfl rfl hl.1 rfl (Nat.le_of_ble_eq_true rfl) dX9_worthOfSet_29) rfl rfl (fun x36 H locs M33 R34 J32 hS f30 g31 E35 => ?_)
          have eM33 := Fr.nil f30 rfl
          subst eM33
          have eR34 := Fr.nil g31 rfl
          subst eR34
          have h_x36 := E35
          clear E35
          refine lv_iadd hx hb dX9_worthOfSet_32 ?_
          refine tw_top (fun x38 => ?_)
          have h37 := iv_any x38
          refine lv_istore_n (lv' := [(3, .int x38), (4, .int x2), (0, .ref (base + a0)), (1, .int a1), (2, .int a2)]) hx hb dX9_worthOfSet_33 rfl hl (by decide) rfl (fun ls hl => ?_)
          refine tw_iinc (lv' := fun x41 => [(4, .int x41), (3, .int x38), (0, .ref (base + a0)), (1, .int a1), (2, .int a2)]) (lo := 1) (hi := 10) hx hb dX9_worthOfSet_34 hl (k := 1) rfl h14 (by decide) ⟨by decide, by decide⟩ ⟨by decide, by decide⟩ (by decide) (fun _ => rfl) (fun x41 ls e40 h39 hl => ?_)
          refine lv_goto (tgt := 5) hx hb dX9_worthOfSet_37 (by decide) ?_
          have hm42 : 10 - x41.toInt < (n_3 : Int) := by
            have := (h_a1).1; have := (h_a1).2; have := (h_a2).1; have := (h_a2).2; have := (h14).1; have := (h14).2; have := (h39).1; have := (h39).2; omega
          exact ih_3 x38 x41 M3 R4 J32 H locs _ h37 (iv_mono h39 (by decide) (by decide)) hm42 hS (lv_sub hl [1, 0, 2, 3, 4] rfl)
  have hm43 : 10 - (0 : Int32).toInt < (((11 : Nat) : Int) : Int) := by
    have := (h_a1).1; have := (h_a1).2; have := (h_a2).1; have := (h_a2).2; have : (0 : Int32).toInt = 0 := (by decide); omega
  exact W5_3 11 0 0 Ma Ra Ja s.heap [] _ (iv_mono (iv_c (c := 0) (n := 0) (by decide)) (by decide) (by decide)) (iv_mono (iv_c (c := 0) (n := 0) (by decide)) (by decide) (by decide)) hm43 hS (lv_sub hl [1, 0, 2, 3, 4] rfl)
def Lt_X4_fight : WL := [(5, 4, 8), (6, 2, 4), (6, 6, 15), (14, 0, 2000000), (20, 0, 2000000)]
def LRt_X4_fight : WL := [(6, 4, 6)]
set_option maxRecDepth 100000 in
set_option maxHeartbeats 4000000 in
theorem t_X4_fight (l : Launch) (D : va_G) (cy : Nat → ClassId) (tx : (Nat → Nat) × (Nat → Nat)) (base Z : Nat) (K N : Nat → Nat) (Ma : MT) (Ra : RT) (Ja : JT) (hTy : Ty Z K N Ma Ra) (a0 : Nat) (hz_a0 : a0 < Z) (hk_a0 : K a0 = 5) (a1 : Int32) (h_a1 : iv (-2147483648) 2147483647 a1) (a2 : Int32) (h_a2 : iv (-2147483648) 2147483647 a2) : Met l yX4_fight [Cond.code yX4_fight cX4_fight 5 (some .int)] (md_rm 16 0 0) (va_Pc [.ref (base + a0), .int a1, .int a2] (md_U D cy tx base Z K N Ma Ra Ja)) (mQi D cy tx base (fun r u => TP Z K N Lt_X4_fight LRt_X4_fight Ma Ra u ∧ (iv (-1000000000) 1000000000 r))) 0 0 (fun q => base ≤ q) := by
  refine tw_ofW (L := Lt_X4_fight) (LR := LRt_X4_fight) (by decide) (Nat.le_of_ble_eq_true rfl) hTy ?_
  intro p e s m args below meth c Q ls hx hb hr hlocks hown hml hW hK hT hS hQ hl
  have hl : lv_has ls 5 [(0, .ref (base + a0)), (1, .int a1), (2, .int a2)] := hl
  refine lv_aload_n hx hb dX4_fight_0 rfl (lv_at hl 0 rfl) ?_
  refine lv_iload_n hx hb dX4_fight_1 rfl (lv_at hl 1 rfl) ?_
  refine tw_puti hx hb hW hown hK hS f_X4_28_4 hz_a0 hk_a0 rfl rfl (lo := (-2147483648)) (hi := 2147483647) rfl h_a1 rfl dX4_fight_2 (fun H locs M3 hS k1 f2 => ?_)
  refine lv_aload_n hx hb dX4_fight_5 rfl (lv_at hl 0 rfl) ?_
  refine lv_iload_n hx hb dX4_fight_6 rfl (lv_at hl 2 rfl) ?_
  refine tw_puti hx hb hW hown hK hS f_X4_32_4 hz_a0 hk_a0 rfl rfl (lo := (-2147483648)) (hi := 2147483647) rfl h_a2 rfl dX4_fight_7 (fun H locs M6 hS k4 f5 => ?_)
  refine lv_aload_n hx hb dX4_fight_10 rfl (lv_at hl 0 rfl) ?_
  refine lv_aload_n hx hb dX4_fight_11 rfl (lv_at hl 0 rfl) ?_
  refine tw_getr hx hb hW hown hK hS f_X4_20_4 hz_a0 hk_a0 (t := 10) (n := 0) rfl dX4_fight_12 (fun b7 k8 hz_b7 hk_b7 hn_b7 => ?_)
  refine tw_geti hx hb hW hown hK hS f_X4_35_9 hz_b7 hk_b7 (lo := 0) (hi := 8) rfl dX4_fight_15 (fun x11 k10 h9 => ?_)
  refine lv_iconst (v := 4) hx hb dX4_fight_18 (by decide) ?_
  refine va_mmin hx hb (hml.trans hl.1.symm) hown (hW _ w_5_93 rfl) (hW _ w_3_86 rfl) (hW _ w_1_13 rfl) (hW _ w_3_87 rfl) (Nat.le_of_ble_eq_true rfl) (Nat.le_of_ble_eq_true rfl) (Nat.le_of_ble_eq_true rfl) (Nat.le_of_ble_eq_true rfl) dX4_fight_19 ?_
  refine tw_mmin (lo := 0) (hi := 4) h9 (iv_c (c := 4) (n := 4) (by decide)) (by decide) (fun x14 e13 h12 => ?_)
  refine tw_puti hx hb hW hown hK hS f_X4_46_4 hz_a0 hk_a0 rfl rfl (lo := 0) (hi := 4) rfl h12 rfl dX4_fight_22 (fun H locs M17 hS k15 f16 => ?_)
  refine lv_iconst (v := 0) hx hb dX4_fight_25 (by decide) ?_
  refine lv_istore_n (lv' := [(3, .int 0), (0, .ref (base + a0)), (1, .int a1), (2, .int a2)]) hx hb dX4_fight_26 rfl hl (by decide) rfl (fun ls hl => ?_)
  have W27_19 : ∀ (n_19 : Nat) (x18 : Int32) (M19 : MT) (R20 : RT) (J21 : JT) (H : Heap) (locs : List Loc) (ls : Array Slot) (h_x18 : iv 0 4 x18) (hm_19 : 4 - x18.toInt < (n_19 : Int)) (hS : SB D cy base Z K N Lt_X4_fight LRt_X4_fight Ma Ra M19 R20 J21 s H locs) (hl : lv_has ls 5 [(3, .int x18), (0, .ref (base + a0)), (1, .int a1), (2, .int a2)]), W p l e (md_rm 16 0 0) s m args below meth c H locs 0 0 Q (F0 m 27 ls []) := by
    intro n_19
    induction n_19 with
    | zero =>
      intro x18 M19 R20 J21 H locs ls h_x18 hm_19 hS hl
      exfalso
      have := (h_a1).1; have := (h_a1).2; have := (h_a2).1; have := (h_a2).2; have := (h_x18).1; have := (h_x18).2; omega
    | succ n_19 ih_19 =>
      intro x18 M19 R20 J21 H locs ls h_x18 hm_19 hS hl
      have f22 := hS.2.2.1
      have g23 := hS.2.2.2
      refine lv_iload_n hx hb dX4_fight_27 rfl (lv_at hl 0 rfl) ?_
      refine lv_aload_n hx hb dX4_fight_28 rfl (lv_at hl 1 rfl) ?_
      refine tw_geti hx hb hW hown hK hS f_X4_46_4 hz_a0 hk_a0 (lo := 0) (hi := 4) rfl dX4_fight_29 (fun x26 k25 h24 => ?_)
      refine lv_icmp_ge (tgt := 79) hx hb dX4_fight_32 (by decide) (fun c27 => ?_) (fun c27 => ?_)
      · have q28 : x26.toInt ≤ x18.toInt := ti_le c27
        refine lv_aload_n hx hb dX4_fight_79 rfl (lv_at hl 1 rfl) ?_
        have k29 : R20 a0 0 = some b7 := (Fr.kp (k := 0) g23 hk_a0 rfl).trans k8
        refine tw_getrk hx hb hW hown hK hS f_X4_20_4 hz_a0 hk_a0 (b := b7) k29 dX4_fight_80 ?_
        refine tw_getr hx hb hW hown hK hS f_X4_55_9 hz_b7 hk_b7 (t := 20) (n := 10) rfl dX4_fight_83 (fun b30 k31 hz_b30 hk_b30 hn_b30 => ?_)
        have hn_b30 := hn_b30 (by decide)
        refine lv_iconst (v := 0) hx hb dX4_fight_86 (by decide) ?_
        refine lv_aload_n hx hb dX4_fight_87 rfl (lv_at hl 1 rfl) ?_
        refine tw_getr hx hb hW hown hK hS f_X4_13_4 hz_a0 hk_a0 (t := 19) (n := 5) rfl dX4_fight_88 (fun b32 k33 hz_b32 hk_b32 hn_b32 => ?_)
        have hn_b32 := hn_b32 (by decide)
        refine lv_iconst (v := 0) hx hb dX4_fight_91 (by decide) ?_
        refine tw_row hx hb hK hS hz_b32 hk_b32 hn_b32 (iv_c (c := 0) (n := 0) (by decide)) ⟨by decide, by decide⟩ dX4_fight_92 (fun b34 k35 hz_b34 hk_b34 hn_b34 => ?_)
        refine lv_iconst (v := 0) hx hb dX4_fight_93 (by decide) ?_
        refine lv_bipush (v := 10) hx hb dX4_fight_94 (by decide) ?_
        refine tw_copy hx hb (hml.trans hl.1.symm) hW hown hK hS (md_okc w_5_99 rfl (md_okc w_3_226 rfl (md_okc w_3_225 rfl (md_okc w_1_18 rfl (md_ok0))))) hz_b34 hk_b34 (Or.inr (by decide)) hz_b30 hk_b30 (Or.inr (by decide)) hn_b34 hn_b30 (by have := ((iv_c (c := 10) (n := 10) (by decide))).1; have := ((iv_c (c := 10) (n := 10) (by decide))).2; have := ((iv_c (c := 0) (n := 0) (by decide))).1; have := ((iv_c (c := 0) (n := 0) (by decide))).2; have := ((iv_c (c := 0) (n := 0) (by decide))).1; have := ((iv_c (c := 0) (n := 0) (by decide))).2; omega) (by have := ((iv_c (c := 10) (n := 10) (by decide))).1; have := ((iv_c (c := 10) (n := 10) (by decide))).2; have := ((iv_c (c := 0) (n := 0) (by decide))).1; have := ((iv_c (c := 0) (n := 0) (by decide))).2; have := ((iv_c (c := 0) (n := 0) (by decide))).1; have := ((iv_c (c := 0) (n := 0) (by decide))).2; omega) (by have := ((iv_c (c := 10) (n := 10) (by decide))).1; have := ((iv_c (c := 10) (n := 10) (by decide))).2; have := ((iv_c (c := 0) (n := 0) (by decide))).1; have := ((iv_c (c := 0) (n := 0) (by decide))).2; have := ((iv_c (c := 0) (n := 0) (by decide))).1; have := ((iv_c (c := 0) (n := 0) (by decide))).2; omega) (by have := ((iv_c (c := 10) (n := 10) (by decide))).1; have := ((iv_c (c := 10) (n := 10) (by decide))).2; have := ((iv_c (c := 0) (n := 0) (by decide))).1; have := ((iv_c (c := 0) (n := 0) (by decide))).2; have := ((iv_c (c := 0) (n := 0) (by decide))).1; have := ((iv_c (c := 0) (n := 0) (by decide))).2; omega) (by have := ((iv_c (c := 10) (n := 10) (by decide))).1; have := ((iv_c (c := 10) (n := 10) (by decide))).2; have := ((iv_c (c := 0) (n := 0) (by decide))).1; have := ((iv_c (c := 0) (n := 0) (by decide))).2; have := ((iv_c (c := 0) (n := 0) (by decide))).1; have := ((iv_c (c := 0) (n := 0) (by decide))).2; omega) (fun _ _ => ⟨by show (-2147483648 : Int) ≤ -2147483648; decide, by show (2147483647 : Int) ≤ 2147483647; decide⟩) (Nat.le_of_ble_eq_true rfl) (Nat.le_of_ble_eq_true rfl) rfl dX4_fight_96 (fun H locs M38 hS f36 k37 => ?_)
        refine lv_aload_n hx hb dX4_fight_99 rfl (lv_at hl 1 rfl) ?_
        refine lv_iconst (v := 0) hx hb dX4_fight_100 (by decide) ?_
        have hm39 : 4 - (0 : Int32).toInt < (((5 : Nat) : Int) : Int) := by
          have := (h_a1).1; have := (h_a1).2; have := (h_a2).1; have := (h_a2).2; have : (0 : Int32).toInt = 0 := (by decide); omega
        refine tw_goi hS (md_runV (As := [.int 0]) (rest := []) hx hb hml hown hW hK hT hS.1 (t_X4_play l D cy tx base Z K N 5 M38 R20 J21 hS.2.1 a0 hz_a0 hk_a0 0 (iv_mono (iv_c (c := 0) (n := 0) (by decide)) (by decide) (by decide)) hm39) s_X4_63 ⟨rfl, rfl, ⟨by simp only [md_rm]; omega, by simp only [md_rm]; omega⟩, ⟨Nat.le_of_ble_eq_true rfl, Nat.le_of_ble_eq_true rfl⟩⟩ hz_a0 hk_a0 (by decide) rfl rfl hl.1 rfl (Nat.le_of_ble_eq_true rfl) dX4_fight_101) rfl rfl (fun x46 H locs M43 R44 J42 hS f40 g41 E45 => ?_)
        have h_x46 := E45
        clear E45
        exact tw_endi hx hb hr hlocks hK hT hS hQ (h_x46) dX4_fight_104
      · have q47 : x18.toInt < x26.toInt := ti_nle c27
        have h48 : iv 0 3 x18 := iv_ltL (y := x26) h_x18 h24 q47 (by decide)
        have h49 : iv 1 4 x26 := iv_gtL (y := x18) h24 h_x18 q47 (by decide)
        refine lv_aload_n hx hb dX4_fight_35 rfl (lv_at hl 1 rfl) ?_
        have k50 : R20 a0 0 = some b7 := (Fr.kp (k := 0) g23 hk_a0 rfl).trans k8
        refine tw_getrk hx hb hW hown hK hS f_X4_20_4 hz_a0 hk_a0 (b := b7) k50 dX4_fight_36 ?_
        refine tw_getr hx hb hW hown hK hS f_X4_49_9 hz_b7 hk_b7 (t := 21) (n := 8) rfl dX4_fight_39 (fun b51 k52 hz_b51 hk_b51 hn_b51 => ?_)
        have hn_b51 := hn_b51 (by decide)
        refine lv_iload_n hx hb dX4_fight_42 rfl (lv_at hl 0 rfl) ?_
        refine tw_iald hx hb hK hS hz_b51 hk_b51 (Or.inr (by decide)) hn_b51 (lo := 0) (hi := 11) h48 ⟨by decide, by decide⟩ rg_u21 dX4_fight_43 (fun x55 k54 h53 => ?_)
        refine lv_istore (lv' := [(4, .int x55), (3, .int x18), (0, .ref (base + a0)), (1, .int a1), (2, .int a2)]) hx hb dX4_fight_44 hl (by decide) rfl (fun ls hl => ?_)
        refine lv_aload_n hx hb dX4_fight_46 rfl (lv_at hl 2 rfl) ?_
        refine tw_getr hx hb hW hown hK hS f_X4_16_4 hz_a0 hk_a0 (t := 14) (n := 4) rfl dX4_fight_47 (fun b56 k57 hz_b56 hk_b56 hn_b56 => ?_)
        have hn_b56 := hn_b56 (by decide)
        refine lv_iload_n hx hb dX4_fight_50 rfl (lv_at hl 1 rfl) ?_
        refine lv_aload_n hx hb dX4_fight_51 rfl (lv_at hl 2 rfl) ?_
        have k58 : R20 a0 0 = some b7 := (Fr.kp (k := 0) g23 hk_a0 rfl).trans k8
        refine tw_getrk hx hb hW hown hK hS f_X4_20_4 hz_a0 hk_a0 (b := b7) k58 dX4_fight_52 ?_
        refine lv_iload_n hx hb dX4_fight_55 rfl (lv_at hl 3 rfl) ?_
        refine lv_iload hx hb dX4_fight_56 (lv_at hl 0 rfl) ?_
        refine tw_goi hS (md_runV (As := [.int a1, .int x55]) (rest := [.int x18, .ref (base + b56)]) hx hb hml hown hW hK hT hS.1 (t_X9_worthOfSet l D cy tx base Z K N M19 R20 J21 hS.2.1 b7 hz_b7 hk_b7 a1 h_a1 x55 h53) s_X4_52 ⟨rfl, rfl, ⟨Nat.le_of_ble_eq_true rfl, Nat.le_of_ble_eq_true rfl⟩, ⟨Nat.le_of_ble_eq_true rfl, Nat.le_of_ble_eq_true rfl⟩⟩ hz_b7 hk_b7 (by decide) rfl rfl hl.1 rfl (Nat.le_of_ble_eq_true rfl) dX4_fight_58) rfl rfl (fun x65 H locs M62 R63 J61 hS f59 g60 E64 => ?_)
        have eM62 := Fr.nil f59 rfl
        subst eM62
        have eR63 := Fr.nil g60 rfl
        subst eR63
        have h_x65 := E64
        clear E64
        refine lv_aload_n hx hb dX4_fight_61 rfl (lv_at hl 2 rfl) ?_
        have k66 : R20 a0 0 = some b7 := (Fr.kp (k := 0) g23 hk_a0 rfl).trans k8
        refine tw_getrk hx hb hW hown hK hS f_X4_20_4 hz_a0 hk_a0 (b := b7) k66 dX4_fight_62 ?_
        refine lv_iload_n hx hb dX4_fight_65 rfl (lv_at hl 4 rfl) ?_
        refine lv_iload hx hb dX4_fight_66 (lv_at hl 0 rfl) ?_
        refine tw_goi hS (md_runV (As := [.int a2, .int x55]) (rest := [.int x65, .int x18, .ref (base + b56)]) hx hb hml hown hW hK hT hS.1 (t_X9_worthOfSet l D cy tx base Z K N M19 R20 J61 hS.2.1 b7 hz_b7 hk_b7 a2 h_a2 x55 h53) s_X4_52 ⟨rfl, rfl, ⟨Nat.le_of_ble_eq_true rfl, Nat.le_of_ble_eq_true rfl⟩, ⟨Nat.le_of_ble_eq_true rfl, Nat.le_of_ble_eq_true rfl⟩⟩ hz_b7 hk_b7 (by decide) rfl rfl hl.1 rfl (Nat.le_of_ble_eq_true rfl) dX4_fight_68) rfl rfl (fun x73 H locs M70 R71 J69 hS f67 g68 E72 => ?_)
        have eM70 := Fr.nil f67 rfl
        subst eM70
        have eR71 := Fr.nil g68 rfl
        subst eR71
        have h_x73 := E72
        clear E72
        refine lv_isub hx hb dX4_fight_71 ?_
        refine tw_top (fun x75 => ?_)
        have h74 := iv_any x75
        refine tw_iast hx hb hK hS hz_b56 hk_b56 (Or.inl rfl) hn_b56 h48 ⟨by decide, by decide⟩ h74 (rg_s14 ⟨by decide, by decide⟩) (jl := 0) (jh := 1999999) ⟨by decide, by decide⟩ rfl dX4_fight_72 (fun H locs M78 hS k76 f77 => ?_)
        refine tw_iinc (lv' := fun x81 => [(3, .int x81), (4, .int x55), (0, .ref (base + a0)), (1, .int a1), (2, .int a2)]) (lo := 1) (hi := 4) hx hb dX4_fight_73 hl (k := 1) rfl h48 (by decide) ⟨by decide, by decide⟩ ⟨by decide, by decide⟩ (by decide) (fun _ => rfl) (fun x81 ls e80 h79 hl => ?_)
        refine lv_goto (tgt := 27) hx hb dX4_fight_76 (by decide) ?_
        have hm82 : 4 - x81.toInt < (n_19 : Int) := by
          have := (h_a1).1; have := (h_a1).2; have := (h_a2).1; have := (h_a2).2; have := (h48).1; have := (h48).2; have := (h79).1; have := (h79).2; omega
        exact ih_19 x81 M78 R20 J69 H locs _ (iv_mono h79 (by decide) (by decide)) hm82 hS (lv_sub hl [0, 2, 3, 4] rfl)
  have hm83 : 4 - (0 : Int32).toInt < (((5 : Nat) : Int) : Int) := by
    have := (h_a1).1; have := (h_a1).2; have := (h_a2).1; have := (h_a2).2; have : (0 : Int32).toInt = 0 := (by decide); omega
  exact W27_19 5 0 M17 Ra Ja H locs _ (iv_mono (iv_c (c := 0) (n := 0) (by decide)) (by decide) (by decide)) hm83 hS hl
def Lt_X11_sides : WL := [(5, 4, 8), (6, 2, 4), (6, 6, 15), (14, 0, 2000000), (20, 0, 2000000)]
def LRt_X11_sides : WL := [(6, 4, 6)]
set_option maxRecDepth 100000 in
set_option maxHeartbeats 4000000 in
theorem t_X11_sides (l : Launch) (D : va_G) (cy : Nat → ClassId) (tx : (Nat → Nat) × (Nat → Nat)) (base Z : Nat) (K N : Nat → Nat) (Ma : MT) (Ra : RT) (Ja : JT) (hTy : Ty Z K N Ma Ra) (a0 : Nat) (hz_a0 : a0 < Z) (hk_a0 : K a0 = 11) (a1 : Int32) (h_a1 : iv (-2147483648) 2147483647 a1) (a2 : Int32) (h_a2 : iv (-2147483648) 2147483647 a2) (a3 : Int32) (h_a3 : iv (-2147483648) 2147483647 a3) : Met l yX11_sides [Cond.code yX11_sides cX11_sides 6 (some .int)] (md_rm 17 0 0) (va_Pc [.ref (base + a0), .int a1, .int a2, .int a3] (md_U D cy tx base Z K N Ma Ra Ja)) (mQi D cy tx base (fun r u => TP Z K N Lt_X11_sides LRt_X11_sides Ma Ra u ∧ (iv (-2147483648) 2147483647 r))) 0 0 (fun q => base ≤ q) := by
  refine tw_ofW (L := Lt_X11_sides) (LR := LRt_X11_sides) (by decide) (Nat.le_of_ble_eq_true rfl) hTy ?_
  intro p e s m args below meth c Q ls hx hb hr hlocks hown hml hW hK hT hS hQ hl
  have hl : lv_has ls 6 [(0, .ref (base + a0)), (1, .int a1), (2, .int a2), (3, .int a3)] := hl
  refine lv_aload_n hx hb dX11_sides_0 rfl (lv_at hl 0 rfl) ?_
  refine tw_getr hx hb hW hown hK hS f_X11_31_10 hz_a0 hk_a0 (t := 10) (n := 0) rfl dX11_sides_1 (fun b1 k2 hz_b1 hk_b1 hn_b1 => ?_)
  refine lv_iload_n hx hb dX11_sides_4 rfl (lv_at hl 1 rfl) ?_
  refine tw_goi hS (md_runV (As := [.int a1]) (rest := []) hx hb hml hown hW hK hT hS.1 (t_X9_isSide l D cy tx base Z K N Ma Ra Ja hS.2.1 b1 hz_b1 hk_b1 a1 h_a1) s_X11_242 ⟨rfl, rfl, ⟨Nat.le_of_ble_eq_true rfl, Nat.le_of_ble_eq_true rfl⟩, ⟨Nat.le_of_ble_eq_true rfl, Nat.le_of_ble_eq_true rfl⟩⟩ hz_b1 hk_b1 (by decide) rfl rfl hl.1 rfl (Nat.le_of_ble_eq_true rfl) dX11_sides_5) rfl rfl (fun x9 H locs M6 R7 J5 hS f3 g4 E8 => ?_)
  have eM6 := Fr.nil f3 rfl
  subst eM6
  have eR7 := Fr.nil g4 rfl
  subst eR7
  have h_x9 := E8
  clear E8
  have J32_10 : ∀  (M10 : MT) (R11 : RT) (J12 : JT) (H : Heap) (locs : List Loc) (ls : Array Slot) (hS : SB D cy base Z K N Lt_X11_sides LRt_X11_sides Ma Ra M10 R11 J12 s H locs) (hl : lv_has ls 6 [(0, .ref (base + a0)), (1, .int a1), (2, .int a2), (3, .int a3)]), W p l e (md_rm 17 0 0) s m args below meth c H locs 0 0 Q (F0 m 32 ls []) := by
    intro  M10 R11 J12 H locs ls  hS hl
    have f13 := hS.2.2.1
    have g14 := hS.2.2.2
    refine lv_iconst (v := 0) hx hb dX11_sides_32 (by decide) ?_
    refine lv_istore (lv' := [(4, .int 0), (0, .ref (base + a0)), (1, .int a1), (2, .int a2), (3, .int a3)]) hx hb dX11_sides_33 hl (by decide) rfl (fun ls hl => ?_)
    refine lv_iload hx hb dX11_sides_35 (lv_at hl 0 rfl) ?_
    refine lv_if_eq (tgt := 59) hx hb dX11_sides_37 (by decide) (fun _ => ?_) (fun h => absurd h (by decide))
    refine lv_ldc hx hb hown (hW _ w_4_221 rfl) dX11_sides_59 ?_
    exact tw_endi hx hb hr hlocks hK hT hS hQ ((iv_mono (iv_c (c := (-1000000)) (n := (-1000000)) (by decide)) (by decide) (by decide))) dX11_sides_61
  refine lv_if_eq (tgt := 32) hx hb dX11_sides_8 (by decide) (fun c15 => ?_) (fun c15 => ?_)
  · have q16 : x9.toInt = 0 := ti_eq c15
    have h17 : iv 0 0 x9 := ⟨by have := (h_x9).1; have := ((iv_c (c := 0) (n := 0) (by decide))).1; omega, by have := (h_x9).2; have := ((iv_c (c := 0) (n := 0) (by decide))).2; omega⟩
    exact J32_10  Ma Ra J5 H locs _  hS hl
  · have q18 : ¬ x9.toInt = 0 := ti_ne c15
    have h19 : iv 1 1 x9 := ⟨by have := (h_x9).1; have := ((iv_c (c := 0) (n := 0) (by decide))).1; have := ((iv_c (c := 0) (n := 0) (by decide))).2; omega, by have := (h_x9).2; have := ((iv_c (c := 0) (n := 0) (by decide))).1; have := ((iv_c (c := 0) (n := 0) (by decide))).2; omega⟩
    refine lv_aload_n hx hb dX11_sides_11 rfl (lv_at hl 0 rfl) ?_
    refine tw_getrk hx hb hW hown hK hS f_X11_31_10 hz_a0 hk_a0 (b := b1) k2 dX11_sides_12 ?_
    refine lv_iload_n hx hb dX11_sides_15 rfl (lv_at hl 2 rfl) ?_
    refine tw_goi hS (md_runV (As := [.int a2]) (rest := []) hx hb hml hown hW hK hT hS.1 (t_X9_isSide l D cy tx base Z K N Ma Ra J5 hS.2.1 b1 hz_b1 hk_b1 a2 h_a2) s_X11_242 ⟨rfl, rfl, ⟨Nat.le_of_ble_eq_true rfl, Nat.le_of_ble_eq_true rfl⟩, ⟨Nat.le_of_ble_eq_true rfl, Nat.le_of_ble_eq_true rfl⟩⟩ hz_b1 hk_b1 (by decide) rfl rfl hl.1 rfl (Nat.le_of_ble_eq_true rfl) dX11_sides_16) rfl rfl (fun x26 H locs M23 R24 J22 hS f20 g21 E25 => ?_)
    have eM23 := Fr.nil f20 rfl
    subst eM23
    have eR24 := Fr.nil g21 rfl
    subst eR24
    have h_x26 := E25
    clear E25
    refine lv_if_eq (tgt := 32) hx hb dX11_sides_19 (by decide) (fun c27 => ?_) (fun c27 => ?_)
    · have q28 : x26.toInt = 0 := ti_eq c27
      have h29 : iv 0 0 x26 := ⟨by have := (h_x26).1; have := ((iv_c (c := 0) (n := 0) (by decide))).1; omega, by have := (h_x26).2; have := ((iv_c (c := 0) (n := 0) (by decide))).2; omega⟩
      exact J32_10  Ma Ra J22 H locs _  hS hl
    · have q30 : ¬ x26.toInt = 0 := ti_ne c27
      have h31 : iv 1 1 x26 := ⟨by have := (h_x26).1; have := ((iv_c (c := 0) (n := 0) (by decide))).1; have := ((iv_c (c := 0) (n := 0) (by decide))).2; omega, by have := (h_x26).2; have := ((iv_c (c := 0) (n := 0) (by decide))).1; have := ((iv_c (c := 0) (n := 0) (by decide))).2; omega⟩
      refine lv_iload_n hx hb dX11_sides_22 rfl (lv_at hl 1 rfl) ?_
      refine lv_iload_n hx hb dX11_sides_23 rfl (lv_at hl 2 rfl) ?_
      refine lv_iand hx hb dX11_sides_24 ?_
      refine tw_top (fun x33 => ?_)
      have h32 := iv_any x33
      refine lv_if_ne (tgt := 32) hx hb dX11_sides_25 (by decide) (fun c34 => ?_) (fun c34 => ?_)
      · have q35 : ¬ x33.toInt = 0 := ti_ne c34
        exact J32_10  Ma Ra J22 H locs _  hS hl
      · have q36 : x33.toInt = 0 := ti_eq c34
        have h37 : iv 0 0 x33 := ⟨by have := (h32).1; have := ((iv_c (c := 0) (n := 0) (by decide))).1; omega, by have := (h32).2; have := ((iv_c (c := 0) (n := 0) (by decide))).2; omega⟩
        refine lv_iconst (v := 1) hx hb dX11_sides_28 (by decide) ?_
        refine lv_goto (tgt := 33) hx hb dX11_sides_29 (by decide) ?_
        refine lv_istore (lv' := [(4, .int 1), (0, .ref (base + a0)), (1, .int a1), (2, .int a2), (3, .int a3)]) hx hb dX11_sides_33 hl (by decide) rfl (fun ls hl => ?_)
        refine lv_iload hx hb dX11_sides_35 (lv_at hl 0 rfl) ?_
        refine lv_if_eq (tgt := 59) hx hb dX11_sides_37 (by decide) (fun h => absurd h (by decide)) (fun _ => ?_)
        refine lv_aload_n hx hb dX11_sides_40 rfl (lv_at hl 1 rfl) ?_
        refine tw_getrk hx hb hW hown hK hS f_X11_31_10 hz_a0 hk_a0 (b := b1) k2 dX11_sides_41 ?_
        obtain ⟨x40, k38⟩ : ∃ x, Ma b1 7 = x := ⟨_, rfl⟩
        have h39 : iv 0 8 x40 := by rw [← k38]; exact hS.2.1.int hz_b1 hk_b1 (show rgI 10 7 = (0, 8) from rfl)
        refine tw_goi hS (md_runV (As := []) (rest := []) hx hb hml hown hW hK hT hS.1 (t_X9_isShortDay l D cy tx base Z K N Ma Ra J22 hS.2.1 b1 hz_b1 hk_b1 x40 k38 (iv_mono h39 (by decide) (by decide))) s_X11_245 ⟨rfl, rfl, ⟨Nat.le_of_ble_eq_true rfl, Nat.le_of_ble_eq_true rfl⟩, ⟨Nat.le_of_ble_eq_true rfl, Nat.le_of_ble_eq_true rfl⟩⟩ hz_b1 hk_b1 (by decide) rfl rfl hl.1 rfl (Nat.le_of_ble_eq_true rfl) dX11_sides_44) rfl rfl (fun x47 H locs M44 R45 J43 hS f41 g42 E46 => ?_)
        have eM44 := Fr.nil f41 rfl
        subst eM44
        have eR45 := Fr.nil g42 rfl
        subst eR45
        obtain ⟨h_x47, p48⟩ := E46
        refine lv_if_eq (tgt := 59) hx hb dX11_sides_47 (by decide) (fun c49 => ?_) (fun c49 => ?_)
        · have q50 : x47.toInt = 0 := ti_eq c49
          have h51 : iv 0 0 x47 := ⟨by have := (h_x47).1; have := ((iv_c (c := 0) (n := 0) (by decide))).1; omega, by have := (h_x47).2; have := ((iv_c (c := 0) (n := 0) (by decide))).2; omega⟩
          refine lv_ldc hx hb hown (hW _ w_4_221 rfl) dX11_sides_59 ?_
          exact tw_endi hx hb hr hlocks hK hT hS hQ ((iv_mono (iv_c (c := (-1000000)) (n := (-1000000)) (by decide)) (by decide) (by decide))) dX11_sides_61
        · have q52 : ¬ x47.toInt = 0 := ti_ne c49
          have h53 : iv 1 1 x47 := ⟨by have := (h_x47).1; have := ((iv_c (c := 0) (n := 0) (by decide))).1; have := ((iv_c (c := 0) (n := 0) (by decide))).2; omega, by have := (h_x47).2; have := ((iv_c (c := 0) (n := 0) (by decide))).1; have := ((iv_c (c := 0) (n := 0) (by decide))).2; omega⟩
          have h54 : iv 1 4 x40 := ⟨by have := (p48 c49).1; have := (h39).1; omega, by have := (p48 c49).2; have := (h39).2; omega⟩
          refine lv_iload_n hx hb dX11_sides_50 rfl (lv_at hl 4 rfl) ?_
          refine lv_if_lt (tgt := 59) hx hb dX11_sides_51 (by decide) (fun c55 => ?_) (fun c55 => ?_)
          · have q56 : a3.toInt < 0 := ti_lt c55
            have h57 : iv (-2147483648) (-1) a3 := iv_ltL (y := 0) h_a3 (iv_c (c := 0) (n := 0) (by decide)) q56 (by decide)
            refine lv_ldc hx hb hown (hW _ w_4_221 rfl) dX11_sides_59 ?_
            exact tw_endi hx hb hr hlocks hK hT hS hQ ((iv_mono (iv_c (c := (-1000000)) (n := (-1000000)) (by decide)) (by decide) (by decide))) dX11_sides_61
          · have q58 : 0 ≤ a3.toInt := ti_nlt c55
            have h59 : iv 0 2147483647 a3 := iv_geL (y := 0) h_a3 (iv_c (c := 0) (n := 0) (by decide)) q58 (by decide)
            refine lv_iload_n hx hb dX11_sides_54 rfl (lv_at hl 4 rfl) ?_
            refine lv_iconst (v := 1) hx hb dX11_sides_55 (by decide) ?_
            refine lv_icmp_le (tgt := 62) hx hb dX11_sides_56 (by decide) (fun c60 => ?_) (fun c60 => ?_)
            · have q61 : a3.toInt ≤ 1 := ti_le c60
              have h62 : iv 0 1 a3 := iv_leL (y := 1) h59 (iv_c (c := 1) (n := 1) (by decide)) q61 (by decide)
              refine lv_aload_n hx hb dX11_sides_62 rfl (lv_at hl 1 rfl) ?_
              refine tw_getr hx hb hW hown hK hS f_X11_76_10 hz_a0 hk_a0 (t := 5) (n := 0) rfl dX11_sides_63 (fun b63 k64 hz_b63 hk_b63 hn_b63 => ?_)
              refine lv_iload_n hx hb dX11_sides_66 rfl (lv_at hl 2 rfl) ?_
              refine lv_iload_n hx hb dX11_sides_67 rfl (lv_at hl 3 rfl) ?_
              refine tw_goi hS (md_runV (As := [.int a1, .int a2]) (rest := []) hx hb hml hown hW hK hT hS.1 (t_X4_fight l D cy tx base Z K N Ma Ra J43 hS.2.1 b63 hz_b63 hk_b63 a1 h_a1 a2 h_a2) s_X11_248 ⟨rfl, rfl, ⟨Nat.le_of_ble_eq_true rfl, Nat.le_of_ble_eq_true rfl⟩, ⟨Nat.le_of_ble_eq_true rfl, Nat.le_of_ble_eq_true rfl⟩⟩ hz_b63 hk_b63 (by decide) rfl rfl hl.1 rfl (Nat.le_of_ble_eq_true rfl) dX11_sides_68) rfl rfl (fun x71 H locs M68 R69 J67 hS f65 g66 E70 => ?_)
              have h_x71 := E70
              clear E70
              refine lv_istore (lv' := [(5, .int x71), (4, .int 1), (0, .ref (base + a0)), (1, .int a1), (2, .int a2), (3, .int a3)]) hx hb dX11_sides_71 hl (by decide) rfl (fun ls hl => ?_)
              refine lv_iload_n hx hb dX11_sides_73 rfl (lv_at hl 5 rfl) ?_
              refine lv_if_ne (tgt := 82) hx hb dX11_sides_74 (by decide) (fun c72 => ?_) (fun c72 => ?_)
              · have q73 : ¬ a3.toInt = 0 := ti_ne c72
                have h74 : iv 1 1 a3 := ⟨by have := (h62).1; have := ((iv_c (c := 0) (n := 0) (by decide))).1; have := ((iv_c (c := 0) (n := 0) (by decide))).2; omega, by have := (h62).2; have := ((iv_c (c := 0) (n := 0) (by decide))).1; have := ((iv_c (c := 0) (n := 0) (by decide))).2; omega⟩
                refine lv_aload_n hx hb dX11_sides_82 rfl (lv_at hl 2 rfl) ?_
                have k75 : R69 a0 12 = some b63 := (Fr.kp (k := 12) g66 hk_a0 rfl).trans k64
                refine tw_getrk hx hb hW hown hK hS f_X11_76_10 hz_a0 hk_a0 (b := b63) k75 dX11_sides_83 ?_
                refine tw_geti hx hb hW hown hK hS f_X11_251_4 hz_b63 hk_b63 (lo := (-2147483648)) (hi := 2147483647) rfl dX11_sides_86 (fun x78 k77 h76 => ?_)
                exact tw_endi hx hb hr hlocks hK hT hS hQ (h76) dX11_sides_89
              · have q79 : a3.toInt = 0 := ti_eq c72
                have h80 : iv 0 0 a3 := ⟨by have := (h62).1; have := ((iv_c (c := 0) (n := 0) (by decide))).1; omega, by have := (h62).2; have := ((iv_c (c := 0) (n := 0) (by decide))).2; omega⟩
                refine lv_iload hx hb dX11_sides_77 (lv_at hl 0 rfl) ?_
                refine lv_goto (tgt := 89) hx hb dX11_sides_79 (by decide) ?_
                exact tw_endi hx hb hr hlocks hK hT hS hQ ((iv_mono h_x71 (by decide) (by decide))) dX11_sides_89
            · have q81 : 1 < a3.toInt := ti_nle c60
              have h82 : iv 2 2147483647 a3 := iv_gtL (y := 1) h59 (iv_c (c := 1) (n := 1) (by decide)) q81 (by decide)
              refine lv_ldc hx hb hown (hW _ w_4_221 rfl) dX11_sides_59 ?_
              exact tw_endi hx hb hr hlocks hK hT hS hQ ((iv_mono (iv_c (c := (-1000000)) (n := (-1000000)) (by decide)) (by decide) (by decide))) dX11_sides_61
def Lt_X6_canSpoil : WL := [(6, 2, 4), (6, 6, 15), (20, 0, 2000000)]
def LRt_X6_canSpoil : WL := [(6, 4, 6)]
set_option maxRecDepth 100000 in
set_option maxHeartbeats 4000000 in
theorem t_X6_canSpoil (l : Launch) (D : va_G) (cy : Nat → ClassId) (tx : (Nat → Nat) × (Nat → Nat)) (base Z : Nat) (K N : Nat → Nat) : ∀ (d : Nat), ∀ (Ma : MT) (Ra : RT) (Ja : JT) (hTy : Ty Z K N Ma Ra) (a0 : Nat) (hz_a0 : a0 < Z) (hk_a0 : K a0 = 7) (a1 : Int32) (h_a1 : iv 0 3 a1) (a2 : Int32) (h_a2 : iv (-2147483648) 2147483647 a2) (la : Int32) (k_la : Ma a0 13 = la) (h_la : iv 0 3 la) (hmd : 3 - a1.toInt < (d : Int)), Met l yX6_canSpoil [Cond.code yX6_canSpoil cX6_canSpoil 10 (some .boolean)] (md_rm (5 + 2 * d) 0 0) (va_Pc [.ref (base + a0), .int a1, .int a2] (md_U D cy tx base Z K N Ma Ra Ja)) (mQi D cy tx base (fun r u => TP Z K N Lt_X6_canSpoil LRt_X6_canSpoil Ma Ra u ∧ (iv 0 1 r))) 0 0 (fun q => base ≤ q) := by
  intro d
  induction d with
  | zero =>
    intro Ma Ra Ja hTy a0 hz_a0 hk_a0 a1 h_a1 a2 h_a2 la k_la h_la hmd
    exfalso
    have := h_a1.2
    omega
  | succ d ih =>
    intro Ma Ra Ja hTy a0 hz_a0 hk_a0 a1 h_a1 a2 h_a2 la k_la h_la hmd
    refine tw_ofW (L := Lt_X6_canSpoil) (LR := LRt_X6_canSpoil) (by decide) (Nat.le_of_ble_eq_true rfl) hTy ?_
    intro p e s m args below meth c Q ls hx hb hr hlocks hown hml hW hK hT hS hQ hl
    have hl : lv_has ls 10 [(0, .ref (base + a0)), (1, .int a1), (2, .int a2)] := hl
    refine lv_aload_n hx hb dX6_canSpoil_0 rfl (lv_at hl 0 rfl) ?_
    refine tw_getr hx hb hW hown hK hS f_X6_13_6 hz_a0 hk_a0 (t := 19) (n := 4) rfl dX6_canSpoil_1 (fun b1 k2 hz_b1 hk_b1 hn_b1 => ?_)
    have hn_b1 := hn_b1 (by decide)
    refine lv_iload_n hx hb dX6_canSpoil_4 rfl (lv_at hl 1 rfl) ?_
    refine tw_row hx hb hK hS hz_b1 hk_b1 hn_b1 h_a1 ⟨by decide, by decide⟩ dX6_canSpoil_5 (fun b3 k4 hz_b3 hk_b3 hn_b3 => ?_)
    refine lv_astore_n (lv' := [(3, .ref (base + b3)), (0, .ref (base + a0)), (1, .int a1), (2, .int a2)]) hx hb dX6_canSpoil_6 rfl hl (by decide) rfl (fun ls hl => ?_)
    refine lv_aload_n hx hb dX6_canSpoil_7 rfl (lv_at hl 1 rfl) ?_
    refine tw_getr hx hb hW hown hK hS f_X6_43_6 hz_a0 hk_a0 (t := 6) (n := 0) rfl dX6_canSpoil_8 (fun b5 k6 hz_b5 hk_b5 hn_b5 => ?_)
    refine lv_aload_n hx hb dX6_canSpoil_11 rfl (lv_at hl 1 rfl) ?_
    refine tw_getr hx hb hW hown hK hS f_X6_39_6 hz_a0 hk_a0 (t := 10) (n := 0) rfl dX6_canSpoil_12 (fun b7 k8 hz_b7 hk_b7 hn_b7 => ?_)
    refine tw_getr hx hb hW hown hK hS f_X6_99_9 hz_b7 hk_b7 (t := 21) (n := 8) rfl dX6_canSpoil_15 (fun b9 k10 hz_b9 hk_b9 hn_b9 => ?_)
    have hn_b9 := hn_b9 (by decide)
    refine lv_iload_n hx hb dX6_canSpoil_18 rfl (lv_at hl 2 rfl) ?_
    refine lv_aload_n hx hb dX6_canSpoil_19 rfl (lv_at hl 1 rfl) ?_
    refine tw_getrk hx hb hW hown hK hS f_X6_39_6 hz_a0 hk_a0 (b := b7) k8 dX6_canSpoil_20 ?_
    refine tw_geti hx hb hW hown hK hS f_X6_51_9 hz_b7 hk_b7 (lo := 0) (hi := 8) rfl dX6_canSpoil_23 (fun x13 k12 h11 => ?_)
    refine lv_aload_n hx hb dX6_canSpoil_26 rfl (lv_at hl 0 rfl) ?_
    refine lv_aload_n hx hb dX6_canSpoil_27 rfl (lv_at hl 1 rfl) ?_
    refine tw_getrk hx hb hW hown hK hS f_X6_39_6 hz_a0 hk_a0 (b := b7) k8 dX6_canSpoil_28 ?_
    refine tw_geti hx hb hW hown hK hS f_X6_116_9 hz_b7 hk_b7 (lo := (-2147483648)) (hi := 2147483647) rfl dX6_canSpoil_31 (fun x16 k15 h14 => ?_)
    refine lv_iload_n hx hb dX6_canSpoil_34 rfl (lv_at hl 2 rfl) ?_
    refine lv_iadd hx hb dX6_canSpoil_35 ?_
    refine tw_top (fun x18 => ?_)
    have h17 := iv_any x18
    refine tw_gov hS (md_runV (As := [.ref (base + b9), .int a1, .int x13, .ref (base + b3), .int x18]) (rest := []) hx hb hml hown hW hK hT hS.1 (t_X5_bring l D cy tx base Z K N Ma Ra Ja hS.2.1 b5 hz_b5 hk_b5 b9 hz_b9 hk_b9 hn_b9 a1 (iv_mono h_a1 (by decide) (by decide)) x13 h11 b3 hz_b3 hk_b3 hn_b3 x18 h17) s_X6_119 ⟨rfl, rfl, ⟨by simp only [md_rm]; omega, by simp only [md_rm]; omega⟩, ⟨Nat.le_of_ble_eq_true rfl, Nat.le_of_ble_eq_true rfl⟩⟩ hz_b5 hk_b5 (by decide) rfl rfl hl.1 rfl (Nat.le_of_ble_eq_true rfl) dX6_canSpoil_36) rfl rfl (fun H locs M22 R23 J21 hS f19 g20 E24 => ?_)
    have p25 := E24
    clear E24
    have k26 : RowOK N M22 R23 b5 := p25
    refine lv_aload_n hx hb dX6_canSpoil_39 rfl (lv_at hl 1 rfl) ?_
    have k27 : R23 a0 1 = some b5 := (Fr.kp (k := 1) g20 hk_a0 rfl).trans k6
    refine tw_getrk hx hb hW hown hK hS f_X6_43_6 hz_a0 hk_a0 (b := b5) k27 dX6_canSpoil_40 ?_
    refine lv_aload_n hx hb dX6_canSpoil_43 rfl (lv_at hl 1 rfl) ?_
    have k28 : R23 a0 0 = some b7 := (Fr.kp (k := 0) g20 hk_a0 rfl).trans k8
    refine tw_getrk hx hb hW hown hK hS f_X6_39_6 hz_a0 hk_a0 (b := b7) k28 dX6_canSpoil_44 ?_
    refine tw_geti hx hb hW hown hK hS f_X6_123_9 hz_b7 hk_b7 (lo := (-2147483648)) (hi := 2147483647) rfl dX6_canSpoil_47 (fun x31 k30 h29 => ?_)
    refine lv_aload_n hx hb dX6_canSpoil_50 rfl (lv_at hl 1 rfl) ?_
    refine tw_geti hx hb hW hown hK hS f_X6_47_6 hz_a0 hk_a0 (lo := (-2147483648)) (hi := 2147483647) rfl dX6_canSpoil_51 (fun x34 k33 h32 => ?_)
    refine lv_iconst (v := (-1)) hx hb dX6_canSpoil_54 (by decide) ?_
    refine lv_ixor hx hb dX6_canSpoil_55 ?_
    refine tw_top (fun x36 => ?_)
    have h35 := iv_any x36
    refine lv_iand hx hb dX6_canSpoil_56 ?_
    refine tw_top (fun x38 => ?_)
    have h37 := iv_any x38
    refine lv_iload_n hx hb dX6_canSpoil_57 rfl (lv_at hl 3 rfl) ?_
    refine lv_iconst (v := (-1)) hx hb dX6_canSpoil_58 (by decide) ?_
    refine lv_ixor hx hb dX6_canSpoil_59 ?_
    refine tw_top (fun x40 => ?_)
    have h39 := iv_any x40
    refine lv_iand hx hb dX6_canSpoil_60 ?_
    refine tw_top (fun x42 => ?_)
    have h41 := iv_any x42
    refine tw_gov hS (md_runV (As := [.int x42]) (rest := []) hx hb hml hown hW hK hT hS.1 (t_X5_ask l D cy tx base Z K N M22 R23 J21 hS.2.1 b5 hz_b5 hk_b5 x42 h41 k26) s_X6_126 ⟨rfl, rfl, ⟨by simp only [md_rm]; omega, by simp only [md_rm]; omega⟩, ⟨Nat.le_of_ble_eq_true rfl, Nat.le_of_ble_eq_true rfl⟩⟩ hz_b5 hk_b5 (by decide) rfl rfl hl.1 rfl (Nat.le_of_ble_eq_true rfl) dX6_canSpoil_61) rfl rfl (fun H locs M46 R47 J45 hS f43 g44 E48 => ?_)
    have eR47 := Fr.nil g44 rfl
    subst eR47
    refine lv_aload_n hx hb dX6_canSpoil_64 rfl (lv_at hl 1 rfl) ?_
    have k49 : R23 a0 1 = some b5 := (Fr.kp (k := 1) g20 hk_a0 rfl).trans k6
    refine tw_getrk hx hb hW hown hK hS f_X6_43_6 hz_a0 hk_a0 (b := b5) k49 dX6_canSpoil_65 ?_
    refine tw_geti hx hb hW hown hK hS f_X6_129_5 hz_b5 hk_b5 (lo := (-2147483648)) (hi := 2147483647) rfl dX6_canSpoil_68 (fun x52 k51 h50 => ?_)
    refine lv_aload_n hx hb dX6_canSpoil_71 rfl (lv_at hl 1 rfl) ?_
    refine tw_getr hx hb hW hown hK hS f_X6_16_6 hz_a0 hk_a0 (t := 14) (n := 27) rfl dX6_canSpoil_72 (fun b53 k54 hz_b53 hk_b53 hn_b53 => ?_)
    have hn_b53 := hn_b53 (by decide)
    refine lv_aload_n hx hb dX6_canSpoil_75 rfl (lv_at hl 1 rfl) ?_
    refine tw_getr hx hb hW hown hK hS f_X6_29_6 hz_a0 hk_a0 (t := 22) (n := 4) rfl dX6_canSpoil_76 (fun b55 k56 hz_b55 hk_b55 hn_b55 => ?_)
    have hn_b55 := hn_b55 (by decide)
    refine lv_iload_n hx hb dX6_canSpoil_79 rfl (lv_at hl 2 rfl) ?_
    refine tw_iald hx hb hK hS hz_b55 hk_b55 (Or.inr (by decide)) hn_b55 (lo := 0) (hi := 26) h_a1 ⟨by decide, by decide⟩ rg_u22 dX6_canSpoil_80 (fun x59 k58 h57 => ?_)
    refine tw_iald hx hb hK hS hz_b53 hk_b53 (Or.inl rfl) hn_b53 (lo := (-2147483648)) (hi := 2147483647) h57 ⟨by decide, by decide⟩ rg_u14 dX6_canSpoil_81 (fun x62 k61 h60 => ?_)
    refine lv_ior hx hb dX6_canSpoil_82 ?_
    refine tw_top (fun x64 => ?_)
    have h63 := iv_any x64
    refine lv_istore (lv' := [(4, .int x64), (3, .ref (base + b3)), (0, .ref (base + a0)), (1, .int a1), (2, .int a2)]) hx hb dX6_canSpoil_83 hl (by decide) rfl (fun ls hl => ?_)
    refine lv_aload_n hx hb dX6_canSpoil_85 rfl (lv_at hl 2 rfl) ?_
    have k65 : R23 a0 1 = some b5 := (Fr.kp (k := 1) g20 hk_a0 rfl).trans k6
    refine tw_getrk hx hb hW hown hK hS f_X6_43_6 hz_a0 hk_a0 (b := b5) k65 dX6_canSpoil_86 ?_
    refine tw_geti hx hb hW hown hK hS f_X6_132_5 hz_b5 hk_b5 (lo := (-2147483648)) (hi := 2147483647) rfl dX6_canSpoil_89 (fun x68 k67 h66 => ?_)
    refine lv_aload_n hx hb dX6_canSpoil_92 rfl (lv_at hl 2 rfl) ?_
    refine tw_getr hx hb hW hown hK hS f_X6_20_6 hz_a0 hk_a0 (t := 14) (n := 27) rfl dX6_canSpoil_93 (fun b69 k70 hz_b69 hk_b69 hn_b69 => ?_)
    have hn_b69 := hn_b69 (by decide)
    refine lv_aload_n hx hb dX6_canSpoil_96 rfl (lv_at hl 2 rfl) ?_
    refine tw_getrk hx hb hW hown hK hS f_X6_29_6 hz_a0 hk_a0 (b := b55) k56 dX6_canSpoil_97 ?_
    refine lv_iload_n hx hb dX6_canSpoil_100 rfl (lv_at hl 3 rfl) ?_
    refine tw_ialk hx hb hK hS hz_b55 hk_b55 (Or.inr (by decide)) hn_b55 h_a1 ⟨by decide, by decide⟩ (v := x59) k58 dX6_canSpoil_101 ?_
    refine tw_iald hx hb hK hS hz_b69 hk_b69 (Or.inl rfl) hn_b69 (lo := (-2147483648)) (hi := 2147483647) h57 ⟨by decide, by decide⟩ rg_u14 dX6_canSpoil_102 (fun x73 k72 h71 => ?_)
    refine lv_ior hx hb dX6_canSpoil_103 ?_
    refine tw_top (fun x75 => ?_)
    have h74 := iv_any x75
    refine lv_istore (lv' := [(5, .int x75), (4, .int x64), (3, .ref (base + b3)), (0, .ref (base + a0)), (1, .int a1), (2, .int a2)]) hx hb dX6_canSpoil_104 hl (by decide) rfl (fun ls hl => ?_)
    refine lv_iload_n hx hb dX6_canSpoil_106 rfl (lv_at hl 4 rfl) ?_
    refine lv_aload_n hx hb dX6_canSpoil_107 rfl (lv_at hl 3 rfl) ?_
    have k76 : M46 a0 13 = la := ((Fr.kp (k := 13) f43 hk_a0 rfl).trans (Fr.kp (k := 13) f19 hk_a0 rfl)).trans k_la
    refine tw_getk hx hb hW hown hK hS f_X6_62_6 hz_a0 hk_a0 (v := la) k76 dX6_canSpoil_108 ?_
    refine lv_icmp_lt (tgt := 137) hx hb dX6_canSpoil_111 (by decide) (fun c77 => ?_) (fun c77 => ?_)
    · have q78 : a1.toInt < la.toInt := ti_lt c77
      have h79 : iv 0 2 a1 := iv_ltL (y := la) h_a1 h_la q78 (by decide)
      have h80 : iv 1 3 la := iv_gtL (y := a1) h_la h_a1 q78 (by decide)
      refine lv_iconst (v := 0) hx hb dX6_canSpoil_137 (by decide) ?_
      refine lv_istore (lv' := [(6, .int 0), (5, .int x75), (4, .int x64), (3, .ref (base + b3)), (0, .ref (base + a0)), (1, .int a1), (2, .int a2)]) hx hb dX6_canSpoil_138 hl (by decide) rfl (fun ls hl => ?_)
      refine lv_iconst (v := 0) hx hb dX6_canSpoil_140 (by decide) ?_
      refine lv_istore (lv' := [(7, .int 0), (6, .int 0), (5, .int x75), (4, .int x64), (3, .ref (base + b3)), (0, .ref (base + a0)), (1, .int a1), (2, .int a2)]) hx hb dX6_canSpoil_141 hl (by decide) rfl (fun ls hl => ?_)
      have W143_83 : ∀ (n_83 : Nat) (x81 : Int32) (x82 : Int32) (M83 : MT) (R84 : RT) (J85 : JT) (H : Heap) (locs : List Loc) (ls : Array Slot) (h_x81 : iv 0 1 x81) (h_x82 : iv 0 3 x82) (hm_83 : 3 - x82.toInt < (n_83 : Int)) (hS : SB D cy base Z K N Lt_X6_canSpoil LRt_X6_canSpoil Ma Ra M83 R84 J85 s H locs) (hl : lv_has ls 10 [(6, .int x81), (7, .int x82), (5, .int x75), (4, .int x64), (3, .ref (base + b3)), (0, .ref (base + a0)), (1, .int a1), (2, .int a2)]), W p l e (md_rm (5 + 2 * (d + 1)) 0 0) s m args below meth c H locs 0 0 Q (F0 m 143 ls []) := by
        intro n_83
        induction n_83 with
        | zero =>
          intro x81 x82 M83 R84 J85 H locs ls h_x81 h_x82 hm_83 hS hl
          exfalso
          have := (h79).1; have := (h79).2; have := (h_a2).1; have := (h_a2).2; have := (h80).1; have := (h80).2; have := (h_x82).1; have := (h_x82).2; omega
        | succ n_83 ih_83 =>
          intro x81 x82 M83 R84 J85 H locs ls h_x81 h_x82 hm_83 hS hl
          have f86 := hS.2.2.1
          have g87 := hS.2.2.2
          refine lv_iload hx hb dX6_canSpoil_143 (lv_at hl 1 rfl) ?_
          obtain ⟨sy0, sy1, hY0, hY1⟩ := hT.2.2.2.2
          refine va_getsN hx hb hY0 hS.1.2.2 hown (va_Nw.use rfl hK.2.2.1.2.2.2.2.2.2.2) (fun _ h => h) dX6_canSpoil_145 ?_
          refine va_tlen hx hb hY1 hS.1.2.2 (v := 3) (by decide) dX6_canSpoil_148 ?_
          refine lv_icmp_ge (tgt := 248) hx hb dX6_canSpoil_149 (by decide) (fun c88 => ?_) (fun c88 => ?_)
          · have q89 : 3 ≤ x82.toInt := ti_le c88
            have h90 : iv 3 3 x82 := iv_geL (y := 3) h_x82 (iv_c (c := 3) (n := 3) (by decide)) q89 (by decide)
            refine lv_iload hx hb dX6_canSpoil_248 (lv_at hl 0 rfl) ?_
            exact tw_endz hx hb hr hlocks hK hT hS hQ (nar_b h_x81) (h_x81) dX6_canSpoil_250
          · have q91 : x82.toInt < 3 := ti_nle c88
            have h92 : iv 0 2 x82 := iv_ltL (y := 3) h_x82 (iv_c (c := 3) (n := 3) (by decide)) q91 (by decide)
            refine lv_iload hx hb dX6_canSpoil_152 (lv_at hl 0 rfl) ?_
            refine lv_if_ne (tgt := 248) hx hb dX6_canSpoil_154 (by decide) (fun c93 => ?_) (fun c93 => ?_)
            · have q94 : ¬ x81.toInt = 0 := ti_ne c93
              have h95 : iv 1 1 x81 := ⟨by have := (h_x81).1; have := ((iv_c (c := 0) (n := 0) (by decide))).1; have := ((iv_c (c := 0) (n := 0) (by decide))).2; omega, by have := (h_x81).2; have := ((iv_c (c := 0) (n := 0) (by decide))).1; have := ((iv_c (c := 0) (n := 0) (by decide))).2; omega⟩
              refine lv_iload hx hb dX6_canSpoil_248 (lv_at hl 0 rfl) ?_
              exact tw_endz hx hb hr hlocks hK hT hS hQ (nar_b (iv_mono h95 (by decide) (by decide))) ((iv_mono h95 (by decide) (by decide))) dX6_canSpoil_250
            · have q96 : x81.toInt = 0 := ti_eq c93
              have h97 : iv 0 0 x81 := ⟨by have := (h_x81).1; have := ((iv_c (c := 0) (n := 0) (by decide))).1; omega, by have := (h_x81).2; have := ((iv_c (c := 0) (n := 0) (by decide))).2; omega⟩
              obtain ⟨sy0, sy1, hY0, hY1⟩ := hT.2.2.2.2
              refine va_getsN hx hb hY0 hS.1.2.2 hown (va_Nw.use rfl hK.2.2.1.2.2.2.2.2.2.2) (fun _ h => h) dX6_canSpoil_157 ?_
              refine lv_iload hx hb dX6_canSpoil_160 (lv_at hl 1 rfl) ?_
              refine va_ti hx hb hY1 hS.1.2.2 (iv_in h92 ⟨by decide, by decide⟩) rfl dX6_canSpoil_162 ?_
              refine tw_top (fun x99 => ?_)
              have h98 := iv_any x99
              refine lv_iconst (v := 1) hx hb dX6_canSpoil_163 (by decide) ?_
              refine lv_icmp_ne (tgt := 171) hx hb dX6_canSpoil_164 (by decide) (fun c100 => ?_) (fun c100 => ?_)
              · have q101 : ¬ x99.toInt = 1 := ti_ne c100
                refine lv_iconst (v := 0) hx hb dX6_canSpoil_171 (by decide) ?_
                refine lv_istore (lv' := [(8, .int 0), (6, .int x81), (7, .int x82), (5, .int x75), (4, .int x64), (3, .ref (base + b3)), (0, .ref (base + a0)), (1, .int a1), (2, .int a2)]) hx hb dX6_canSpoil_172 hl (by decide) rfl (fun ls hl => ?_)
                obtain ⟨sy0, sy1, hY0, hY1⟩ := hT.2.2.2.2
                refine va_getsN hx hb hY0 hS.1.2.2 hown (va_Nw.use rfl hK.2.2.1.2.2.2.2.2.2.2) (fun _ h => h) dX6_canSpoil_174 ?_
                refine lv_iload hx hb dX6_canSpoil_177 (lv_at hl 2 rfl) ?_
                refine va_ti hx hb hY1 hS.1.2.2 (iv_in h92 ⟨by decide, by decide⟩) rfl dX6_canSpoil_179 ?_
                refine tw_top (fun x103 => ?_)
                have h102 := iv_any x103
                refine lv_if_ne (tgt := 187) hx hb dX6_canSpoil_180 (by decide) (fun c104 => ?_) (fun c104 => ?_)
                · have q105 : ¬ x103.toInt = 0 := ti_ne c104
                  refine lv_iconst (v := 0) hx hb dX6_canSpoil_187 (by decide) ?_
                  refine lv_istore (lv' := [(9, .int 0), (8, .int 0), (6, .int x81), (7, .int x82), (5, .int x75), (4, .int x64), (3, .ref (base + b3)), (0, .ref (base + a0)), (1, .int a1), (2, .int a2)]) hx hb dX6_canSpoil_188 hl (by decide) rfl (fun ls hl => ?_)
                  refine lv_aload_n hx hb dX6_canSpoil_190 rfl (lv_at hl 6 rfl) ?_
                  refine lv_iconst (v := 0) hx hb dX6_canSpoil_191 (by decide) ?_
                  refine lv_aload_n hx hb dX6_canSpoil_192 rfl (lv_at hl 7 rfl) ?_
                  have k106 : R84 a0 2 = some b1 := (Fr.kp (k := 2) g87 hk_a0 rfl).trans k2
                  refine tw_getrk hx hb hW hown hK hS f_X6_13_6 hz_a0 hk_a0 (b := b1) k106 dX6_canSpoil_193 ?_
                  refine lv_iload_n hx hb dX6_canSpoil_196 rfl (lv_at hl 8 rfl) ?_
                  refine lv_iconst (v := 1) hx hb dX6_canSpoil_197 (by decide) ?_
                  refine tw_iadd (lo := 1) (hi := 3) hx hb h79 (iv_c (c := 1) (n := 1) (by decide)) ⟨by decide, by decide⟩ ⟨by decide, by decide⟩ dX6_canSpoil_198 (fun x109 e108 h107 => ?_)
                  have e108 : x109.toInt = a1.toInt + 1 := e108
                  refine tw_row hx hb hK hS hz_b1 hk_b1 hn_b1 h107 ⟨by decide, by decide⟩ dX6_canSpoil_199 (fun b110 k111 hz_b110 hk_b110 hn_b110 => ?_)
                  refine lv_iconst (v := 0) hx hb dX6_canSpoil_200 (by decide) ?_
                  refine lv_bipush (v := 10) hx hb dX6_canSpoil_201 (by decide) ?_
                  refine tw_copy hx hb (hml.trans hl.1.symm) hW hown hK hS (md_okc w_5_40 rfl (md_okc w_3_226 rfl (md_okc w_3_225 rfl (md_okc w_1_18 rfl (md_ok0))))) hz_b110 hk_b110 (Or.inr (by decide)) hz_b3 hk_b3 (Or.inr (by decide)) hn_b110 hn_b3 (by have := ((iv_c (c := 10) (n := 10) (by decide))).1; have := ((iv_c (c := 10) (n := 10) (by decide))).2; have := ((iv_c (c := 0) (n := 0) (by decide))).1; have := ((iv_c (c := 0) (n := 0) (by decide))).2; have := ((iv_c (c := 0) (n := 0) (by decide))).1; have := ((iv_c (c := 0) (n := 0) (by decide))).2; omega) (by have := ((iv_c (c := 10) (n := 10) (by decide))).1; have := ((iv_c (c := 10) (n := 10) (by decide))).2; have := ((iv_c (c := 0) (n := 0) (by decide))).1; have := ((iv_c (c := 0) (n := 0) (by decide))).2; have := ((iv_c (c := 0) (n := 0) (by decide))).1; have := ((iv_c (c := 0) (n := 0) (by decide))).2; omega) (by have := ((iv_c (c := 10) (n := 10) (by decide))).1; have := ((iv_c (c := 10) (n := 10) (by decide))).2; have := ((iv_c (c := 0) (n := 0) (by decide))).1; have := ((iv_c (c := 0) (n := 0) (by decide))).2; have := ((iv_c (c := 0) (n := 0) (by decide))).1; have := ((iv_c (c := 0) (n := 0) (by decide))).2; omega) (by have := ((iv_c (c := 10) (n := 10) (by decide))).1; have := ((iv_c (c := 10) (n := 10) (by decide))).2; have := ((iv_c (c := 0) (n := 0) (by decide))).1; have := ((iv_c (c := 0) (n := 0) (by decide))).2; have := ((iv_c (c := 0) (n := 0) (by decide))).1; have := ((iv_c (c := 0) (n := 0) (by decide))).2; omega) (by have := ((iv_c (c := 10) (n := 10) (by decide))).1; have := ((iv_c (c := 10) (n := 10) (by decide))).2; have := ((iv_c (c := 0) (n := 0) (by decide))).1; have := ((iv_c (c := 0) (n := 0) (by decide))).2; have := ((iv_c (c := 0) (n := 0) (by decide))).1; have := ((iv_c (c := 0) (n := 0) (by decide))).2; omega) (fun _ _ => ⟨by show (-2147483648 : Int) ≤ -2147483648; decide, by show (2147483647 : Int) ≤ 2147483647; decide⟩) (by simp only [md_rm]; omega) (Nat.le_trans (m := 40) (Nat.le_of_ble_eq_true rfl) (by simp only [md_rm]; omega)) rfl dX6_canSpoil_203 (fun H locs M114 hS f112 k113 => ?_)
                  refine lv_aload_n hx hb dX6_canSpoil_206 rfl (lv_at hl 7 rfl) ?_
                  have k115 : R84 a0 1 = some b5 := (Fr.kp (k := 1) g87 hk_a0 rfl).trans k6
                  refine tw_getrk hx hb hW hown hK hS f_X6_43_6 hz_a0 hk_a0 (b := b5) k115 dX6_canSpoil_207 ?_
                  refine lv_aload_n hx hb dX6_canSpoil_210 rfl (lv_at hl 7 rfl) ?_
                  have k116 : R84 a0 2 = some b1 := (Fr.kp (k := 2) g87 hk_a0 rfl).trans k2
                  refine tw_getrk hx hb hW hown hK hS f_X6_13_6 hz_a0 hk_a0 (b := b1) k116 dX6_canSpoil_211 ?_
                  refine lv_iload_n hx hb dX6_canSpoil_214 rfl (lv_at hl 8 rfl) ?_
                  refine lv_iconst (v := 1) hx hb dX6_canSpoil_215 (by decide) ?_
                  refine tw_iadd (lo := 1) (hi := 3) hx hb h79 (iv_c (c := 1) (n := 1) (by decide)) ⟨by decide, by decide⟩ ⟨by decide, by decide⟩ dX6_canSpoil_216 (fun x119 e118 h117 => ?_)
                  have e118 : x119.toInt = a1.toInt + 1 := e118
                  refine tw_row hx hb hK hS hz_b1 hk_b1 hn_b1 h117 ⟨by decide, by decide⟩ dX6_canSpoil_217 (fun b120 k121 hz_b120 hk_b120 hn_b120 => ?_)
                  refine lv_iload hx hb dX6_canSpoil_218 (lv_at hl 5 rfl) ?_
                  refine lv_iload hx hb dX6_canSpoil_220 (lv_at hl 1 rfl) ?_
                  refine lv_ior hx hb dX6_canSpoil_222 ?_
                  refine tw_top (fun x123 => ?_)
                  have h122 := iv_any x123
                  refine lv_iload hx hb dX6_canSpoil_223 (lv_at hl 4 rfl) ?_
                  refine lv_iload hx hb dX6_canSpoil_225 (lv_at hl 0 rfl) ?_
                  refine lv_ior hx hb dX6_canSpoil_227 ?_
                  refine tw_top (fun x125 => ?_)
                  have h124 := iv_any x125
                  refine tw_goi hS (md_runV (As := [.ref (base + b120), .int x123, .int x125]) (rest := []) hx hb hml hown hW hK hT hS.1 (t_X5_hold l D cy tx base Z K N M114 R84 J85 hS.2.1 b5 hz_b5 hk_b5 b120 hz_b120 hk_b120 hn_b120 x123 h122 x125 h124) s_X6_142 ⟨rfl, rfl, ⟨by simp only [md_rm]; omega, by simp only [md_rm]; omega⟩, ⟨Nat.le_of_ble_eq_true rfl, Nat.le_of_ble_eq_true rfl⟩⟩ hz_b5 hk_b5 (by decide) rfl rfl hl.1 rfl (Nat.le_of_ble_eq_true rfl) dX6_canSpoil_228) rfl rfl (fun x132 H locs M129 R130 J128 hS f126 g127 E131 => ?_)
                  have eR130 := Fr.nil g127 rfl
                  subst eR130
                  have h_x132 := E131
                  clear E131
                  refine lv_pop hx hb dX6_canSpoil_231 rfl ?_
                  refine lv_aload_n hx hb dX6_canSpoil_232 rfl (lv_at hl 7 rfl) ?_
                  refine lv_iload_n hx hb dX6_canSpoil_233 rfl (lv_at hl 8 rfl) ?_
                  refine lv_iconst (v := 1) hx hb dX6_canSpoil_234 (by decide) ?_
                  refine tw_iadd (lo := 1) (hi := 3) hx hb h79 (iv_c (c := 1) (n := 1) (by decide)) ⟨by decide, by decide⟩ ⟨by decide, by decide⟩ dX6_canSpoil_235 (fun x135 e134 h133 => ?_)
                  have e134 : x135.toInt = a1.toInt + 1 := e134
                  refine lv_iload_n hx hb dX6_canSpoil_236 rfl (lv_at hl 9 rfl) ?_
                  have k136 : M129 a0 13 = la := ((Fr.kp (k := 13) f126 hk_a0 rfl).trans ((Fr.kp (k := 13) f112 hk_a0 rfl).trans (Fr.kp (k := 13) f86 hk_a0 rfl))).trans k_la
                  have hm137 : 3 - x135.toInt < (d : Int) := by
                    have := (h79).1; have := (h79).2; have := (h_a2).1; have := (h_a2).2; have := (h80).1; have := (h80).2; have := (h107).1; have := (h107).2; have := (h117).1; have := (h117).2; have := (h133).1; have := (h133).2; omega
                  refine tw_goi hS (md_runV (As := [.int x135, .int a2]) (rest := []) hx hb hml hown hW hK hT hS.1 (ih M129 R84 J128 hS.2.1 a0 hz_a0 hk_a0 x135 (iv_mono h133 (by decide) (by decide)) a2 h_a2 la k136 (iv_mono h80 (by decide) (by decide)) hm137) s_X6_157 ⟨rfl, rfl, ⟨by simp only [md_rm]; omega, by simp only [md_rm]; omega⟩, ⟨Nat.le_of_ble_eq_true rfl, Nat.le_of_ble_eq_true rfl⟩⟩ hz_a0 hk_a0 (by decide) rfl rfl hl.1 rfl (Nat.le_of_ble_eq_true rfl) dX6_canSpoil_237) rfl rfl (fun x144 H locs M141 R142 J140 hS f138 g139 E143 => ?_)
                  have h_x144 := E143
                  clear E143
                  refine lv_istore (lv' := [(6, .int x144), (9, .int 0), (8, .int 0), (7, .int x82), (5, .int x75), (4, .int x64), (3, .ref (base + b3)), (0, .ref (base + a0)), (1, .int a1), (2, .int a2)]) hx hb dX6_canSpoil_240 hl (by decide) rfl (fun ls hl => ?_)
                  refine tw_iinc (lv' := fun x147 => [(7, .int x147), (6, .int x144), (9, .int 0), (8, .int 0), (5, .int x75), (4, .int x64), (3, .ref (base + b3)), (0, .ref (base + a0)), (1, .int a1), (2, .int a2)]) (lo := 1) (hi := 3) hx hb dX6_canSpoil_242 hl (k := 3) rfl h92 (by decide) ⟨by decide, by decide⟩ ⟨by decide, by decide⟩ (by decide) (fun _ => rfl) (fun x147 ls e146 h145 hl => ?_)
                  refine lv_goto (tgt := 143) hx hb dX6_canSpoil_245 (by decide) ?_
                  have hm148 : 3 - x147.toInt < (n_83 : Int) := by
                    have := (h79).1; have := (h79).2; have := (h_a2).1; have := (h_a2).2; have := (h80).1; have := (h80).2; have := (h145).1; have := (h145).2; have := (h92).1; have := (h92).2; omega
                  exact ih_83 x144 x147 M141 R142 J140 H locs _ h_x144 (iv_mono h145 (by decide) (by decide)) hm148 hS (lv_sub hl [1, 0, 4, 5, 6, 7, 8, 9] rfl)
                · have q149 : x103.toInt = 0 := ti_eq c104
                  have h150 : iv 0 0 x103 := ⟨by have := (h102).1; have := ((iv_c (c := 0) (n := 0) (by decide))).1; omega, by have := (h102).2; have := ((iv_c (c := 0) (n := 0) (by decide))).2; omega⟩
                  refine lv_iload_n hx hb dX6_canSpoil_183 rfl (lv_at hl 8 rfl) ?_
                  refine lv_goto (tgt := 188) hx hb dX6_canSpoil_184 (by decide) ?_
                  refine lv_istore (lv' := [(9, .int a2), (8, .int 0), (6, .int x81), (7, .int x82), (5, .int x75), (4, .int x64), (3, .ref (base + b3)), (0, .ref (base + a0)), (1, .int a1), (2, .int a2)]) hx hb dX6_canSpoil_188 hl (by decide) rfl (fun ls hl => ?_)
                  refine lv_aload_n hx hb dX6_canSpoil_190 rfl (lv_at hl 6 rfl) ?_
                  refine lv_iconst (v := 0) hx hb dX6_canSpoil_191 (by decide) ?_
                  refine lv_aload_n hx hb dX6_canSpoil_192 rfl (lv_at hl 7 rfl) ?_
                  have k151 : R84 a0 2 = some b1 := (Fr.kp (k := 2) g87 hk_a0 rfl).trans k2
                  refine tw_getrk hx hb hW hown hK hS f_X6_13_6 hz_a0 hk_a0 (b := b1) k151 dX6_canSpoil_193 ?_
                  refine lv_iload_n hx hb dX6_canSpoil_196 rfl (lv_at hl 8 rfl) ?_
                  refine lv_iconst (v := 1) hx hb dX6_canSpoil_197 (by decide) ?_
                  refine tw_iadd (lo := 1) (hi := 3) hx hb h79 (iv_c (c := 1) (n := 1) (by decide)) ⟨by decide, by decide⟩ ⟨by decide, by decide⟩ dX6_canSpoil_198 (fun x154 e153 h152 => ?_)
                  have e153 : x154.toInt = a1.toInt + 1 := e153
                  refine tw_row hx hb hK hS hz_b1 hk_b1 hn_b1 h152 ⟨by decide, by decide⟩ dX6_canSpoil_199 (fun b155 k156 hz_b155 hk_b155 hn_b155 => ?_)
                  refine lv_iconst (v := 0) hx hb dX6_canSpoil_200 (by decide) ?_
                  refine lv_bipush (v := 10) hx hb dX6_canSpoil_201 (by decide) ?_
                  refine tw_copy hx hb (hml.trans hl.1.symm) hW hown hK hS (md_okc w_5_40 rfl (md_okc w_3_226 rfl (md_okc w_3_225 rfl (md_okc w_1_18 rfl (md_ok0))))) hz_b155 hk_b155 (Or.inr (by decide)) hz_b3 hk_b3 (Or.inr (by decide)) hn_b155 hn_b3 (by have := ((iv_c (c := 10) (n := 10) (by decide))).1; have := ((iv_c (c := 10) (n := 10) (by decide))).2; have := ((iv_c (c := 0) (n := 0) (by decide))).1; have := ((iv_c (c := 0) (n := 0) (by decide))).2; have := ((iv_c (c := 0) (n := 0) (by decide))).1; have := ((iv_c (c := 0) (n := 0) (by decide))).2; omega) (by have := ((iv_c (c := 10) (n := 10) (by decide))).1; have := ((iv_c (c := 10) (n := 10) (by decide))).2; have := ((iv_c (c := 0) (n := 0) (by decide))).1; have := ((iv_c (c := 0) (n := 0) (by decide))).2; have := ((iv_c (c := 0) (n := 0) (by decide))).1; have := ((iv_c (c := 0) (n := 0) (by decide))).2; omega) (by have := ((iv_c (c := 10) (n := 10) (by decide))).1; have := ((iv_c (c := 10) (n := 10) (by decide))).2; have := ((iv_c (c := 0) (n := 0) (by decide))).1; have := ((iv_c (c := 0) (n := 0) (by decide))).2; have := ((iv_c (c := 0) (n := 0) (by decide))).1; have := ((iv_c (c := 0) (n := 0) (by decide))).2; omega) (by have := ((iv_c (c := 10) (n := 10) (by decide))).1; have := ((iv_c (c := 10) (n := 10) (by decide))).2; have := ((iv_c (c := 0) (n := 0) (by decide))).1; have := ((iv_c (c := 0) (n := 0) (by decide))).2; have := ((iv_c (c := 0) (n := 0) (by decide))).1; have := ((iv_c (c := 0) (n := 0) (by decide))).2; omega) (by have := ((iv_c (c := 10) (n := 10) (by decide))).1; have := ((iv_c (c := 10) (n := 10) (by decide))).2; have := ((iv_c (c := 0) (n := 0) (by decide))).1; have := ((iv_c (c := 0) (n := 0) (by decide))).2; have := ((iv_c (c := 0) (n := 0) (by decide))).1; have := ((iv_c (c := 0) (n := 0) (by decide))).2; omega) (fun _ _ => ⟨by show (-2147483648 : Int) ≤ -2147483648; decide, by show (2147483647 : Int) ≤ 2147483647; decide⟩) (by simp only [md_rm]; omega) (Nat.le_trans (m := 40) (Nat.le_of_ble_eq_true rfl) (by simp only [md_rm]; omega)) rfl dX6_canSpoil_203 (fun H locs M159 hS f157 k158 => ?_)
                  refine lv_aload_n hx hb dX6_canSpoil_206 rfl (lv_at hl 7 rfl) ?_
                  have k160 : R84 a0 1 = some b5 := (Fr.kp (k := 1) g87 hk_a0 rfl).trans k6
                  refine tw_getrk hx hb hW hown hK hS f_X6_43_6 hz_a0 hk_a0 (b := b5) k160 dX6_canSpoil_207 ?_
                  refine lv_aload_n hx hb dX6_canSpoil_210 rfl (lv_at hl 7 rfl) ?_
                  have k161 : R84 a0 2 = some b1 := (Fr.kp (k := 2) g87 hk_a0 rfl).trans k2
                  refine tw_getrk hx hb hW hown hK hS f_X6_13_6 hz_a0 hk_a0 (b := b1) k161 dX6_canSpoil_211 ?_
                  refine lv_iload_n hx hb dX6_canSpoil_214 rfl (lv_at hl 8 rfl) ?_
                  refine lv_iconst (v := 1) hx hb dX6_canSpoil_215 (by decide) ?_
                  refine tw_iadd (lo := 1) (hi := 3) hx hb h79 (iv_c (c := 1) (n := 1) (by decide)) ⟨by decide, by decide⟩ ⟨by decide, by decide⟩ dX6_canSpoil_216 (fun x164 e163 h162 => ?_)
                  have e163 : x164.toInt = a1.toInt + 1 := e163
                  refine tw_row hx hb hK hS hz_b1 hk_b1 hn_b1 h162 ⟨by decide, by decide⟩ dX6_canSpoil_217 (fun b165 k166 hz_b165 hk_b165 hn_b165 => ?_)
                  refine lv_iload hx hb dX6_canSpoil_218 (lv_at hl 5 rfl) ?_
                  refine lv_iload hx hb dX6_canSpoil_220 (lv_at hl 1 rfl) ?_
                  refine lv_ior hx hb dX6_canSpoil_222 ?_
                  refine tw_top (fun x168 => ?_)
                  have h167 := iv_any x168
                  refine lv_iload hx hb dX6_canSpoil_223 (lv_at hl 4 rfl) ?_
                  refine lv_iload hx hb dX6_canSpoil_225 (lv_at hl 0 rfl) ?_
                  refine lv_ior hx hb dX6_canSpoil_227 ?_
                  refine tw_top (fun x170 => ?_)
                  have h169 := iv_any x170
                  refine tw_goi hS (md_runV (As := [.ref (base + b165), .int x168, .int x170]) (rest := []) hx hb hml hown hW hK hT hS.1 (t_X5_hold l D cy tx base Z K N M159 R84 J85 hS.2.1 b5 hz_b5 hk_b5 b165 hz_b165 hk_b165 hn_b165 x168 h167 x170 h169) s_X6_142 ⟨rfl, rfl, ⟨by simp only [md_rm]; omega, by simp only [md_rm]; omega⟩, ⟨Nat.le_of_ble_eq_true rfl, Nat.le_of_ble_eq_true rfl⟩⟩ hz_b5 hk_b5 (by decide) rfl rfl hl.1 rfl (Nat.le_of_ble_eq_true rfl) dX6_canSpoil_228) rfl rfl (fun x177 H locs M174 R175 J173 hS f171 g172 E176 => ?_)
                  have eR175 := Fr.nil g172 rfl
                  subst eR175
                  have h_x177 := E176
                  clear E176
                  refine lv_pop hx hb dX6_canSpoil_231 rfl ?_
                  refine lv_aload_n hx hb dX6_canSpoil_232 rfl (lv_at hl 7 rfl) ?_
                  refine lv_iload_n hx hb dX6_canSpoil_233 rfl (lv_at hl 8 rfl) ?_
                  refine lv_iconst (v := 1) hx hb dX6_canSpoil_234 (by decide) ?_
                  refine tw_iadd (lo := 1) (hi := 3) hx hb h79 (iv_c (c := 1) (n := 1) (by decide)) ⟨by decide, by decide⟩ ⟨by decide, by decide⟩ dX6_canSpoil_235 (fun x180 e179 h178 => ?_)
                  have e179 : x180.toInt = a1.toInt + 1 := e179
                  refine lv_iload_n hx hb dX6_canSpoil_236 rfl (lv_at hl 9 rfl) ?_
                  have k181 : M174 a0 13 = la := ((Fr.kp (k := 13) f171 hk_a0 rfl).trans ((Fr.kp (k := 13) f157 hk_a0 rfl).trans (Fr.kp (k := 13) f86 hk_a0 rfl))).trans k_la
                  have hm182 : 3 - x180.toInt < (d : Int) := by
                    have := (h79).1; have := (h79).2; have := (h_a2).1; have := (h_a2).2; have := (h80).1; have := (h80).2; have := (h152).1; have := (h152).2; have := (h162).1; have := (h162).2; have := (h178).1; have := (h178).2; omega
                  refine tw_goi hS (md_runV (As := [.int x180, .int a2]) (rest := []) hx hb hml hown hW hK hT hS.1 (ih M174 R84 J173 hS.2.1 a0 hz_a0 hk_a0 x180 (iv_mono h178 (by decide) (by decide)) a2 h_a2 la k181 (iv_mono h80 (by decide) (by decide)) hm182) s_X6_157 ⟨rfl, rfl, ⟨by simp only [md_rm]; omega, by simp only [md_rm]; omega⟩, ⟨Nat.le_of_ble_eq_true rfl, Nat.le_of_ble_eq_true rfl⟩⟩ hz_a0 hk_a0 (by decide) rfl rfl hl.1 rfl (Nat.le_of_ble_eq_true rfl) dX6_canSpoil_237) rfl rfl (fun x189 H locs M186 R187 J185 hS f183 g184 E188 => ?_)
                  have h_x189 := E188
                  clear E188
                  refine lv_istore (lv' := [(6, .int x189), (9, .int a2), (8, .int 0), (7, .int x82), (5, .int x75), (4, .int x64), (3, .ref (base + b3)), (0, .ref (base + a0)), (1, .int a1), (2, .int a2)]) hx hb dX6_canSpoil_240 hl (by decide) rfl (fun ls hl => ?_)
                  refine tw_iinc (lv' := fun x192 => [(7, .int x192), (6, .int x189), (9, .int a2), (8, .int 0), (5, .int x75), (4, .int x64), (3, .ref (base + b3)), (0, .ref (base + a0)), (1, .int a1), (2, .int a2)]) (lo := 1) (hi := 3) hx hb dX6_canSpoil_242 hl (k := 3) rfl h92 (by decide) ⟨by decide, by decide⟩ ⟨by decide, by decide⟩ (by decide) (fun _ => rfl) (fun x192 ls e191 h190 hl => ?_)
                  refine lv_goto (tgt := 143) hx hb dX6_canSpoil_245 (by decide) ?_
                  have hm193 : 3 - x192.toInt < (n_83 : Int) := by
                    have := (h79).1; have := (h79).2; have := (h_a2).1; have := (h_a2).2; have := (h80).1; have := (h80).2; have := (h190).1; have := (h190).2; have := (h92).1; have := (h92).2; omega
                  exact ih_83 x189 x192 M186 R187 J185 H locs _ h_x189 (iv_mono h190 (by decide) (by decide)) hm193 hS (lv_sub hl [1, 0, 4, 5, 6, 7, 8, 9] rfl)
              · have q194 : x99.toInt = 1 := ti_eq c100
                have h195 : iv 1 1 x99 := ⟨by have := (h98).1; have := ((iv_c (c := 1) (n := 1) (by decide))).1; omega, by have := (h98).2; have := ((iv_c (c := 1) (n := 1) (by decide))).2; omega⟩
                refine lv_iload_n hx hb dX6_canSpoil_167 rfl (lv_at hl 7 rfl) ?_
                refine lv_goto (tgt := 172) hx hb dX6_canSpoil_168 (by decide) ?_
                refine lv_istore (lv' := [(8, .int a2), (6, .int x81), (7, .int x82), (5, .int x75), (4, .int x64), (3, .ref (base + b3)), (0, .ref (base + a0)), (1, .int a1), (2, .int a2)]) hx hb dX6_canSpoil_172 hl (by decide) rfl (fun ls hl => ?_)
                obtain ⟨sy0, sy1, hY0, hY1⟩ := hT.2.2.2.2
                refine va_getsN hx hb hY0 hS.1.2.2 hown (va_Nw.use rfl hK.2.2.1.2.2.2.2.2.2.2) (fun _ h => h) dX6_canSpoil_174 ?_
                refine lv_iload hx hb dX6_canSpoil_177 (lv_at hl 2 rfl) ?_
                refine va_ti hx hb hY1 hS.1.2.2 (iv_in h92 ⟨by decide, by decide⟩) rfl dX6_canSpoil_179 ?_
                refine tw_top (fun x197 => ?_)
                have h196 := iv_any x197
                refine lv_if_ne (tgt := 187) hx hb dX6_canSpoil_180 (by decide) (fun c198 => ?_) (fun c198 => ?_)
                · have q199 : ¬ x197.toInt = 0 := ti_ne c198
                  refine lv_iconst (v := 0) hx hb dX6_canSpoil_187 (by decide) ?_
                  refine lv_istore (lv' := [(9, .int 0), (8, .int a2), (6, .int x81), (7, .int x82), (5, .int x75), (4, .int x64), (3, .ref (base + b3)), (0, .ref (base + a0)), (1, .int a1), (2, .int a2)]) hx hb dX6_canSpoil_188 hl (by decide) rfl (fun ls hl => ?_)
                  refine lv_aload_n hx hb dX6_canSpoil_190 rfl (lv_at hl 6 rfl) ?_
                  refine lv_iconst (v := 0) hx hb dX6_canSpoil_191 (by decide) ?_
                  refine lv_aload_n hx hb dX6_canSpoil_192 rfl (lv_at hl 7 rfl) ?_
                  have k200 : R84 a0 2 = some b1 := (Fr.kp (k := 2) g87 hk_a0 rfl).trans k2
                  refine tw_getrk hx hb hW hown hK hS f_X6_13_6 hz_a0 hk_a0 (b := b1) k200 dX6_canSpoil_193 ?_
                  refine lv_iload_n hx hb dX6_canSpoil_196 rfl (lv_at hl 8 rfl) ?_
                  refine lv_iconst (v := 1) hx hb dX6_canSpoil_197 (by decide) ?_
                  refine tw_iadd (lo := 1) (hi := 3) hx hb h79 (iv_c (c := 1) (n := 1) (by decide)) ⟨by decide, by decide⟩ ⟨by decide, by decide⟩ dX6_canSpoil_198 (fun x203 e202 h201 => ?_)
                  have e202 : x203.toInt = a1.toInt + 1 := e202
                  refine tw_row hx hb hK hS hz_b1 hk_b1 hn_b1 h201 ⟨by decide, by decide⟩ dX6_canSpoil_199 (fun b204 k205 hz_b204 hk_b204 hn_b204 => ?_)
                  refine lv_iconst (v := 0) hx hb dX6_canSpoil_200 (by decide) ?_
                  refine lv_bipush (v := 10) hx hb dX6_canSpoil_201 (by decide) ?_
                  refine tw_copy hx hb (hml.trans hl.1.symm) hW hown hK hS (md_okc w_5_40 rfl (md_okc w_3_226 rfl (md_okc w_3_225 rfl (md_okc w_1_18 rfl (md_ok0))))) hz_b204 hk_b204 (Or.inr (by decide)) hz_b3 hk_b3 (Or.inr (by decide)) hn_b204 hn_b3 (by have := ((iv_c (c := 10) (n := 10) (by decide))).1; have := ((iv_c (c := 10) (n := 10) (by decide))).2; have := ((iv_c (c := 0) (n := 0) (by decide))).1; have := ((iv_c (c := 0) (n := 0) (by decide))).2; have := ((iv_c (c := 0) (n := 0) (by decide))).1; have := ((iv_c (c := 0) (n := 0) (by decide))).2; omega) (by have := ((iv_c (c := 10) (n := 10) (by decide))).1; have := ((iv_c (c := 10) (n := 10) (by decide))).2; have := ((iv_c (c := 0) (n := 0) (by decide))).1; have := ((iv_c (c := 0) (n := 0) (by decide))).2; have := ((iv_c (c := 0) (n := 0) (by decide))).1; have := ((iv_c (c := 0) (n := 0) (by decide))).2; omega) (by have := ((iv_c (c := 10) (n := 10) (by decide))).1; have := ((iv_c (c := 10) (n := 10) (by decide))).2; have := ((iv_c (c := 0) (n := 0) (by decide))).1; have := ((iv_c (c := 0) (n := 0) (by decide))).2; have := ((iv_c (c := 0) (n := 0) (by decide))).1; have := ((iv_c (c := 0) (n := 0) (by decide))).2; omega) (by have := ((iv_c (c := 10) (n := 10) (by decide))).1; have := ((iv_c (c := 10) (n := 10) (by decide))).2; have := ((iv_c (c := 0) (n := 0) (by decide))).1; have := ((iv_c (c := 0) (n := 0) (by decide))).2; have := ((iv_c (c := 0) (n := 0) (by decide))).1; have := ((iv_c (c := 0) (n := 0) (by decide))).2; omega) (by have := ((iv_c (c := 10) (n := 10) (by decide))).1; have := ((iv_c (c := 10) (n := 10) (by decide))).2; have := ((iv_c (c := 0) (n := 0) (by decide))).1; have := ((iv_c (c := 0) (n := 0) (by decide))).2; have := ((iv_c (c := 0) (n := 0) (by decide))).1; have := ((iv_c (c := 0) (n := 0) (by decide))).2; omega) (fun _ _ => ⟨by show (-2147483648 : Int) ≤ -2147483648; decide, by show (2147483647 : Int) ≤ 2147483647; decide⟩) (by simp only [md_rm]; omega) (Nat.le_trans (m := 40) (Nat.le_of_ble_eq_true rfl) (by simp only [md_rm]; omega)) rfl dX6_canSpoil_203 (fun H locs M208 hS f206 k207 => ?_)
                  refine lv_aload_n hx hb dX6_canSpoil_206 rfl (lv_at hl 7 rfl) ?_
                  have k209 : R84 a0 1 = some b5 := (Fr.kp (k := 1) g87 hk_a0 rfl).trans k6
                  refine tw_getrk hx hb hW hown hK hS f_X6_43_6 hz_a0 hk_a0 (b := b5) k209 dX6_canSpoil_207 ?_
                  refine lv_aload_n hx hb dX6_canSpoil_210 rfl (lv_at hl 7 rfl) ?_
                  have k210 : R84 a0 2 = some b1 := (Fr.kp (k := 2) g87 hk_a0 rfl).trans k2
                  refine tw_getrk hx hb hW hown hK hS f_X6_13_6 hz_a0 hk_a0 (b := b1) k210 dX6_canSpoil_211 ?_
                  refine lv_iload_n hx hb dX6_canSpoil_214 rfl (lv_at hl 8 rfl) ?_
                  refine lv_iconst (v := 1) hx hb dX6_canSpoil_215 (by decide) ?_
                  refine tw_iadd (lo := 1) (hi := 3) hx hb h79 (iv_c (c := 1) (n := 1) (by decide)) ⟨by decide, by decide⟩ ⟨by decide, by decide⟩ dX6_canSpoil_216 (fun x213 e212 h211 => ?_)
                  have e212 : x213.toInt = a1.toInt + 1 := e212
                  refine tw_row hx hb hK hS hz_b1 hk_b1 hn_b1 h211 ⟨by decide, by decide⟩ dX6_canSpoil_217 (fun b214 k215 hz_b214 hk_b214 hn_b214 => ?_)
                  refine lv_iload hx hb dX6_canSpoil_218 (lv_at hl 5 rfl) ?_
                  refine lv_iload hx hb dX6_canSpoil_220 (lv_at hl 1 rfl) ?_
                  refine lv_ior hx hb dX6_canSpoil_222 ?_
                  refine tw_top (fun x217 => ?_)
                  have h216 := iv_any x217
                  refine lv_iload hx hb dX6_canSpoil_223 (lv_at hl 4 rfl) ?_
                  refine lv_iload hx hb dX6_canSpoil_225 (lv_at hl 0 rfl) ?_
                  refine lv_ior hx hb dX6_canSpoil_227 ?_
                  refine tw_top (fun x219 => ?_)
                  have h218 := iv_any x219
                  refine tw_goi hS (md_runV (As := [.ref (base + b214), .int x217, .int x219]) (rest := []) hx hb hml hown hW hK hT hS.1 (t_X5_hold l D cy tx base Z K N M208 R84 J85 hS.2.1 b5 hz_b5 hk_b5 b214 hz_b214 hk_b214 hn_b214 x217 h216 x219 h218) s_X6_142 ⟨rfl, rfl, ⟨by simp only [md_rm]; omega, by simp only [md_rm]; omega⟩, ⟨Nat.le_of_ble_eq_true rfl, Nat.le_of_ble_eq_true rfl⟩⟩ hz_b5 hk_b5 (by decide) rfl rfl hl.1 rfl (Nat.le_of_ble_eq_true rfl) dX6_canSpoil_228) rfl rfl (fun x226 H locs M223 R224 J222 hS f220 g221 E225 => ?_)
                  have eR224 := Fr.nil g221 rfl
                  subst eR224
                  have h_x226 := E225
                  clear E225
                  refine lv_pop hx hb dX6_canSpoil_231 rfl ?_
                  refine lv_aload_n hx hb dX6_canSpoil_232 rfl (lv_at hl 7 rfl) ?_
                  refine lv_iload_n hx hb dX6_canSpoil_233 rfl (lv_at hl 8 rfl) ?_
                  refine lv_iconst (v := 1) hx hb dX6_canSpoil_234 (by decide) ?_
                  refine tw_iadd (lo := 1) (hi := 3) hx hb h79 (iv_c (c := 1) (n := 1) (by decide)) ⟨by decide, by decide⟩ ⟨by decide, by decide⟩ dX6_canSpoil_235 (fun x229 e228 h227 => ?_)
                  have e228 : x229.toInt = a1.toInt + 1 := e228
                  refine lv_iload_n hx hb dX6_canSpoil_236 rfl (lv_at hl 9 rfl) ?_
                  have k230 : M223 a0 13 = la := ((Fr.kp (k := 13) f220 hk_a0 rfl).trans ((Fr.kp (k := 13) f206 hk_a0 rfl).trans (Fr.kp (k := 13) f86 hk_a0 rfl))).trans k_la
                  have hm231 : 3 - x229.toInt < (d : Int) := by
                    have := (h79).1; have := (h79).2; have := (h_a2).1; have := (h_a2).2; have := (h80).1; have := (h80).2; have := (h201).1; have := (h201).2; have := (h211).1; have := (h211).2; have := (h227).1; have := (h227).2; omega
                  refine tw_goi hS (md_runV (As := [.int x229, .int a2]) (rest := []) hx hb hml hown hW hK hT hS.1 (ih M223 R84 J222 hS.2.1 a0 hz_a0 hk_a0 x229 (iv_mono h227 (by decide) (by decide)) a2 h_a2 la k230 (iv_mono h80 (by decide) (by decide)) hm231) s_X6_157 ⟨rfl, rfl, ⟨by simp only [md_rm]; omega, by simp only [md_rm]; omega⟩, ⟨Nat.le_of_ble_eq_true rfl, Nat.le_of_ble_eq_true rfl⟩⟩ hz_a0 hk_a0 (by decide) rfl rfl hl.1 rfl (Nat.le_of_ble_eq_true rfl) dX6_canSpoil_237) rfl rfl (fun x238 H locs M235 R236 J234 hS f232 g233 E237 => ?_)
                  have h_x238 := E237
                  clear E237
                  refine lv_istore (lv' := [(6, .int x238), (9, .int 0), (8, .int a2), (7, .int x82), (5, .int x75), (4, .int x64), (3, .ref (base + b3)), (0, .ref (base + a0)), (1, .int a1), (2, .int a2)]) hx hb dX6_canSpoil_240 hl (by decide) rfl (fun ls hl => ?_)
                  refine tw_iinc (lv' := fun x241 => [(7, .int x241), (6, .int x238), (9, .int 0), (8, .int a2), (5, .int x75), (4, .int x64), (3, .ref (base + b3)), (0, .ref (base + a0)), (1, .int a1), (2, .int a2)]) (lo := 1) (hi := 3) hx hb dX6_canSpoil_242 hl (k := 3) rfl h92 (by decide) ⟨by decide, by decide⟩ ⟨by decide, by decide⟩ (by decide) (fun _ => rfl) (fun x241 ls e240 h239 hl => ?_)
                  refine lv_goto (tgt := 143) hx hb dX6_canSpoil_245 (by decide) ?_
                  have hm242 : 3 - x241.toInt < (n_83 : Int) := by
                    have := (h79).1; have := (h79).2; have := (h_a2).1; have := (h_a2).2; have := (h80).1; have := (h80).2; have := (h239).1; have := (h239).2; have := (h92).1; have := (h92).2; omega
                  exact ih_83 x238 x241 M235 R236 J234 H locs _ h_x238 (iv_mono h239 (by decide) (by decide)) hm242 hS (lv_sub hl [1, 0, 4, 5, 6, 7, 8, 9] rfl)
                · have q243 : x197.toInt = 0 := ti_eq c198
                  have h244 : iv 0 0 x197 := ⟨by have := (h196).1; have := ((iv_c (c := 0) (n := 0) (by decide))).1; omega, by have := (h196).2; have := ((iv_c (c := 0) (n := 0) (by decide))).2; omega⟩
                  refine lv_iload_n hx hb dX6_canSpoil_183 rfl (lv_at hl 8 rfl) ?_
                  refine lv_goto (tgt := 188) hx hb dX6_canSpoil_184 (by decide) ?_
                  refine lv_istore (lv' := [(9, .int a2), (8, .int a2), (6, .int x81), (7, .int x82), (5, .int x75), (4, .int x64), (3, .ref (base + b3)), (0, .ref (base + a0)), (1, .int a1), (2, .int a2)]) hx hb dX6_canSpoil_188 hl (by decide) rfl (fun ls hl => ?_)
                  refine lv_aload_n hx hb dX6_canSpoil_190 rfl (lv_at hl 6 rfl) ?_
                  refine lv_iconst (v := 0) hx hb dX6_canSpoil_191 (by decide) ?_
                  refine lv_aload_n hx hb dX6_canSpoil_192 rfl (lv_at hl 7 rfl) ?_
                  have k245 : R84 a0 2 = some b1 := (Fr.kp (k := 2) g87 hk_a0 rfl).trans k2
                  refine tw_getrk hx hb hW hown hK hS f_X6_13_6 hz_a0 hk_a0 (b := b1) k245 dX6_canSpoil_193 ?_
                  refine lv_iload_n hx hb dX6_canSpoil_196 rfl (lv_at hl 8 rfl) ?_
                  refine lv_iconst (v := 1) hx hb dX6_canSpoil_197 (by decide) ?_
                  refine tw_iadd (lo := 1) (hi := 3) hx hb h79 (iv_c (c := 1) (n := 1) (by decide)) ⟨by decide, by decide⟩ ⟨by decide, by decide⟩ dX6_canSpoil_198 (fun x248 e247 h246 => ?_)
                  have e247 : x248.toInt = a1.toInt + 1 := e247
                  refine tw_row hx hb hK hS hz_b1 hk_b1 hn_b1 h246 ⟨by decide, by decide⟩ dX6_canSpoil_199 (fun b249 k250 hz_b249 hk_b249 hn_b249 => ?_)
                  refine lv_iconst (v := 0) hx hb dX6_canSpoil_200 (by decide) ?_
                  refine lv_bipush (v := 10) hx hb dX6_canSpoil_201 (by decide) ?_
                  refine tw_copy hx hb (hml.trans hl.1.symm) hW hown hK hS (md_okc w_5_40 rfl (md_okc w_3_226 rfl (md_okc w_3_225 rfl (md_okc w_1_18 rfl (md_ok0))))) hz_b249 hk_b249 (Or.inr (by decide)) hz_b3 hk_b3 (Or.inr (by decide)) hn_b249 hn_b3 (by have := ((iv_c (c := 10) (n := 10) (by decide))).1; have := ((iv_c (c := 10) (n := 10) (by decide))).2; have := ((iv_c (c := 0) (n := 0) (by decide))).1; have := ((iv_c (c := 0) (n := 0) (by decide))).2; have := ((iv_c (c := 0) (n := 0) (by decide))).1; have := ((iv_c (c := 0) (n := 0) (by decide))).2; omega) (by have := ((iv_c (c := 10) (n := 10) (by decide))).1; have := ((iv_c (c := 10) (n := 10) (by decide))).2; have := ((iv_c (c := 0) (n := 0) (by decide))).1; have := ((iv_c (c := 0) (n := 0) (by decide))).2; have := ((iv_c (c := 0) (n := 0) (by decide))).1; have := ((iv_c (c := 0) (n := 0) (by decide))).2; omega) (by have := ((iv_c (c := 10) (n := 10) (by decide))).1; have := ((iv_c (c := 10) (n := 10) (by decide))).2; have := ((iv_c (c := 0) (n := 0) (by decide))).1; have := ((iv_c (c := 0) (n := 0) (by decide))).2; have := ((iv_c (c := 0) (n := 0) (by decide))).1; have := ((iv_c (c := 0) (n := 0) (by decide))).2; omega) (by have := ((iv_c (c := 10) (n := 10) (by decide))).1; have := ((iv_c (c := 10) (n := 10) (by decide))).2; have := ((iv_c (c := 0) (n := 0) (by decide))).1; have := ((iv_c (c := 0) (n := 0) (by decide))).2; have := ((iv_c (c := 0) (n := 0) (by decide))).1; have := ((iv_c (c := 0) (n := 0) (by decide))).2; omega) (by have := ((iv_c (c := 10) (n := 10) (by decide))).1; have := ((iv_c (c := 10) (n := 10) (by decide))).2; have := ((iv_c (c := 0) (n := 0) (by decide))).1; have := ((iv_c (c := 0) (n := 0) (by decide))).2; have := ((iv_c (c := 0) (n := 0) (by decide))).1; have := ((iv_c (c := 0) (n := 0) (by decide))).2; omega) (fun _ _ => ⟨by show (-2147483648 : Int) ≤ -2147483648; decide, by show (2147483647 : Int) ≤ 2147483647; decide⟩) (by simp only [md_rm]; omega) (Nat.le_trans (m := 40) (Nat.le_of_ble_eq_true rfl) (by simp only [md_rm]; omega)) rfl dX6_canSpoil_203 (fun H locs M253 hS f251 k252 => ?_)
                  refine lv_aload_n hx hb dX6_canSpoil_206 rfl (lv_at hl 7 rfl) ?_
                  have k254 : R84 a0 1 = some b5 := (Fr.kp (k := 1) g87 hk_a0 rfl).trans k6
                  refine tw_getrk hx hb hW hown hK hS f_X6_43_6 hz_a0 hk_a0 (b := b5) k254 dX6_canSpoil_207 ?_
                  refine lv_aload_n hx hb dX6_canSpoil_210 rfl (lv_at hl 7 rfl) ?_
                  have k255 : R84 a0 2 = some b1 := (Fr.kp (k := 2) g87 hk_a0 rfl).trans k2
                  refine tw_getrk hx hb hW hown hK hS f_X6_13_6 hz_a0 hk_a0 (b := b1) k255 dX6_canSpoil_211 ?_
                  refine lv_iload_n hx hb dX6_canSpoil_214 rfl (lv_at hl 8 rfl) ?_
                  refine lv_iconst (v := 1) hx hb dX6_canSpoil_215 (by decide) ?_
                  refine tw_iadd (lo := 1) (hi := 3) hx hb h79 (iv_c (c := 1) (n := 1) (by decide)) ⟨by decide, by decide⟩ ⟨by decide, by decide⟩ dX6_canSpoil_216 (fun x258 e257 h256 => ?_)
                  have e257 : x258.toInt = a1.toInt + 1 := e257
                  refine tw_row hx hb hK hS hz_b1 hk_b1 hn_b1 h256 ⟨by decide, by decide⟩ dX6_canSpoil_217 (fun b259 k260 hz_b259 hk_b259 hn_b259 => ?_)
                  refine lv_iload hx hb dX6_canSpoil_218 (lv_at hl 5 rfl) ?_
                  refine lv_iload hx hb dX6_canSpoil_220 (lv_at hl 1 rfl) ?_
                  refine lv_ior hx hb dX6_canSpoil_222 ?_
                  refine tw_top (fun x262 => ?_)
                  have h261 := iv_any x262
                  refine lv_iload hx hb dX6_canSpoil_223 (lv_at hl 4 rfl) ?_
                  refine lv_iload hx hb dX6_canSpoil_225 (lv_at hl 0 rfl) ?_
                  refine lv_ior hx hb dX6_canSpoil_227 ?_
                  refine tw_top (fun x264 => ?_)
                  have h263 := iv_any x264
                  refine tw_goi hS (md_runV (As := [.ref (base + b259), .int x262, .int x264]) (rest := []) hx hb hml hown hW hK hT hS.1 (t_X5_hold l D cy tx base Z K N M253 R84 J85 hS.2.1 b5 hz_b5 hk_b5 b259 hz_b259 hk_b259 hn_b259 x262 h261 x264 h263) s_X6_142 ⟨rfl, rfl, ⟨by simp only [md_rm]; omega, by simp only [md_rm]; omega⟩, ⟨Nat.le_of_ble_eq_true rfl, Nat.le_of_ble_eq_true rfl⟩⟩ hz_b5 hk_b5 (by decide) rfl rfl hl.1 rfl (Nat.le_of_ble_eq_true rfl) dX6_canSpoil_228) rfl rfl (fun x271 H locs M268 R269 J267 hS f265 g266 E270 => ?_)
                  have eR269 := Fr.nil g266 rfl
                  subst eR269
                  have h_x271 := E270
                  clear E270
                  refine lv_pop hx hb dX6_canSpoil_231 rfl ?_
                  refine lv_aload_n hx hb dX6_canSpoil_232 rfl (lv_at hl 7 rfl) ?_
                  refine lv_iload_n hx hb dX6_canSpoil_233 rfl (lv_at hl 8 rfl) ?_
                  refine lv_iconst (v := 1) hx hb dX6_canSpoil_234 (by decide) ?_
                  refine tw_iadd (lo := 1) (hi := 3) hx hb h79 (iv_c (c := 1) (n := 1) (by decide)) ⟨by decide, by decide⟩ ⟨by decide, by decide⟩ dX6_canSpoil_235 (fun x274 e273 h272 => ?_)
                  have e273 : x274.toInt = a1.toInt + 1 := e273
                  refine lv_iload_n hx hb dX6_canSpoil_236 rfl (lv_at hl 9 rfl) ?_
                  have k275 : M268 a0 13 = la := ((Fr.kp (k := 13) f265 hk_a0 rfl).trans ((Fr.kp (k := 13) f251 hk_a0 rfl).trans (Fr.kp (k := 13) f86 hk_a0 rfl))).trans k_la
                  have hm276 : 3 - x274.toInt < (d : Int) := by
                    have := (h79).1; have := (h79).2; have := (h_a2).1; have := (h_a2).2; have := (h80).1; have := (h80).2; have := (h246).1; have := (h246).2; have := (h256).1; have := (h256).2; have := (h272).1; have := (h272).2; omega
                  refine tw_goi hS (md_runV (As := [.int x274, .int a2]) (rest := []) hx hb hml hown hW hK hT hS.1 (ih M268 R84 J267 hS.2.1 a0 hz_a0 hk_a0 x274 (iv_mono h272 (by decide) (by decide)) a2 h_a2 la k275 (iv_mono h80 (by decide) (by decide)) hm276) s_X6_157 ⟨rfl, rfl, ⟨by simp only [md_rm]; omega, by simp only [md_rm]; omega⟩, ⟨Nat.le_of_ble_eq_true rfl, Nat.le_of_ble_eq_true rfl⟩⟩ hz_a0 hk_a0 (by decide) rfl rfl hl.1 rfl (Nat.le_of_ble_eq_true rfl) dX6_canSpoil_237) rfl rfl (fun x283 H locs M280 R281 J279 hS f277 g278 E282 => ?_)
                  have h_x283 := E282
                  clear E282
                  refine lv_istore (lv' := [(6, .int x283), (9, .int a2), (8, .int a2), (7, .int x82), (5, .int x75), (4, .int x64), (3, .ref (base + b3)), (0, .ref (base + a0)), (1, .int a1), (2, .int a2)]) hx hb dX6_canSpoil_240 hl (by decide) rfl (fun ls hl => ?_)
                  refine tw_iinc (lv' := fun x286 => [(7, .int x286), (6, .int x283), (9, .int a2), (8, .int a2), (5, .int x75), (4, .int x64), (3, .ref (base + b3)), (0, .ref (base + a0)), (1, .int a1), (2, .int a2)]) (lo := 1) (hi := 3) hx hb dX6_canSpoil_242 hl (k := 3) rfl h92 (by decide) ⟨by decide, by decide⟩ ⟨by decide, by decide⟩ (by decide) (fun _ => rfl) (fun x286 ls e285 h284 hl => ?_)
                  refine lv_goto (tgt := 143) hx hb dX6_canSpoil_245 (by decide) ?_
                  have hm287 : 3 - x286.toInt < (n_83 : Int) := by
                    have := (h79).1; have := (h79).2; have := (h_a2).1; have := (h_a2).2; have := (h80).1; have := (h80).2; have := (h284).1; have := (h284).2; have := (h92).1; have := (h92).2; omega
                  exact ih_83 x283 x286 M280 R281 J279 H locs _ h_x283 (iv_mono h284 (by decide) (by decide)) hm287 hS (lv_sub hl [1, 0, 4, 5, 6, 7, 8, 9] rfl)
      have hm288 : 3 - (0 : Int32).toInt < (((4 : Nat) : Int) : Int) := by
        have := (h79).1; have := (h79).2; have := (h_a2).1; have := (h_a2).2; have := (h80).1; have := (h80).2; have : (0 : Int32).toInt = 0 := (by decide); omega
      exact W143_83 4 0 0 M46 R23 J45 H locs _ (iv_mono (iv_c (c := 0) (n := 0) (by decide)) (by decide) (by decide)) (iv_mono (iv_c (c := 0) (n := 0) (by decide)) (by decide) (by decide)) hm288 hS (lv_sub hl [1, 0, 2, 3, 4, 5, 6, 7] rfl)
    · have q289 : la.toInt ≤ a1.toInt := ti_nlt c77
      refine lv_aload_n hx hb dX6_canSpoil_114 rfl (lv_at hl 3 rfl) ?_
      have k290 : R23 a0 1 = some b5 := (Fr.kp (k := 1) g20 hk_a0 rfl).trans k6
      refine tw_getrk hx hb hW hown hK hS f_X6_43_6 hz_a0 hk_a0 (b := b5) k290 dX6_canSpoil_115 ?_
      refine lv_aload_n hx hb dX6_canSpoil_118 rfl (lv_at hl 2 rfl) ?_
      refine lv_iload hx hb dX6_canSpoil_119 (lv_at hl 1 rfl) ?_
      refine lv_iload hx hb dX6_canSpoil_121 (lv_at hl 0 rfl) ?_
      refine lv_iload_n hx hb dX6_canSpoil_123 rfl (lv_at hl 5 rfl) ?_
      refine lv_ior hx hb dX6_canSpoil_124 ?_
      refine tw_top (fun x292 => ?_)
      have h291 := iv_any x292
      refine tw_goi hS (md_runV (As := [.ref (base + b3), .int x64, .int x292]) (rest := []) hx hb hml hown hW hK hT hS.1 (t_X5_lead l D cy tx base Z K N M46 R23 J45 hS.2.1 b5 hz_b5 hk_b5 b3 hz_b3 hk_b3 hn_b3 x64 h63 x292 h291) s_X6_135 ⟨rfl, rfl, ⟨by simp only [md_rm]; omega, by simp only [md_rm]; omega⟩, ⟨Nat.le_of_ble_eq_true rfl, Nat.le_of_ble_eq_true rfl⟩⟩ hz_b5 hk_b5 (by decide) rfl rfl hl.1 rfl (Nat.le_of_ble_eq_true rfl) dX6_canSpoil_125) rfl rfl (fun x299 H locs M296 R297 J295 hS f293 g294 E298 => ?_)
      have eM296 := Fr.nil f293 rfl
      subst eM296
      have eR297 := Fr.nil g294 rfl
      subst eR297
      have h_x299 := E298
      clear E298
      refine lv_if_gt (tgt := 135) hx hb dX6_canSpoil_128 (by decide) (fun c300 => ?_) (fun c300 => ?_)
      · have q301 : 0 < x299.toInt := ti_lt c300
        have h302 : iv 1 2147483647 x299 := iv_gtL (y := 0) h_x299 (iv_c (c := 0) (n := 0) (by decide)) q301 (by decide)
        refine lv_iconst (v := 0) hx hb dX6_canSpoil_135 (by decide) ?_
        exact tw_endz hx hb hr hlocks hK hT hS hQ rfl ((iv_mono (iv_c (c := 0) (n := 0) (by decide)) (by decide) (by decide))) dX6_canSpoil_136
      · have q303 : x299.toInt ≤ 0 := ti_nlt c300
        have h304 : iv (-2147483648) 0 x299 := iv_leL (y := 0) h_x299 (iv_c (c := 0) (n := 0) (by decide)) q303 (by decide)
        refine lv_iconst (v := 1) hx hb dX6_canSpoil_131 (by decide) ?_
        refine lv_goto (tgt := 136) hx hb dX6_canSpoil_132 (by decide) ?_
        exact tw_endz hx hb hr hlocks hK hT hS hQ rfl ((iv_mono (iv_c (c := 1) (n := 1) (by decide)) (by decide) (by decide))) dX6_canSpoil_136
def Lt_X6_spoilingSet : WL := [(6, 2, 4), (6, 6, 15), (20, 0, 2000000)]
def LRt_X6_spoilingSet : WL := [(6, 4, 6)]
set_option maxRecDepth 100000 in
set_option maxHeartbeats 4000000 in
theorem t_X6_spoilingSet (l : Launch) (D : va_G) (cy : Nat → ClassId) (tx : (Nat → Nat) × (Nat → Nat)) (base Z : Nat) (K N : Nat → Nat) (Ma : MT) (Ra : RT) (Ja : JT) (hTy : Ty Z K N Ma Ra) (a0 : Nat) (hz_a0 : a0 < Z) (hk_a0 : K a0 = 7) (la : Int32) (k_la : Ma a0 13 = la) (h_la : iv 0 3 la) : Met l yX6_spoilingSet [Cond.code yX6_spoilingSet cX6_spoilingSet 4 (some .int)] (md_rm 14 0 0) (va_Pc [.ref (base + a0)] (md_U D cy tx base Z K N Ma Ra Ja)) (mQi D cy tx base (fun r u => TP Z K N Lt_X6_spoilingSet LRt_X6_spoilingSet Ma Ra u ∧ (iv (-2147483648) 2147483647 r))) 0 0 (fun q => base ≤ q) := by
  refine tw_ofW (L := Lt_X6_spoilingSet) (LR := LRt_X6_spoilingSet) (by decide) (Nat.le_of_ble_eq_true rfl) hTy ?_
  intro p e s m args below meth c Q ls hx hb hr hlocks hown hml hW hK hT hS hQ hl
  have hl : lv_has ls 4 [(0, .ref (base + a0))] := hl
  refine lv_iconst (v := 0) hx hb dX6_spoilingSet_0 (by decide) ?_
  refine lv_istore_n (lv' := [(1, .int 0), (0, .ref (base + a0))]) hx hb dX6_spoilingSet_1 rfl hl (by decide) rfl (fun ls hl => ?_)
  refine lv_iconst (v := 0) hx hb dX6_spoilingSet_2 (by decide) ?_
  refine lv_istore_n (lv' := [(2, .int 0), (1, .int 0), (0, .ref (base + a0))]) hx hb dX6_spoilingSet_3 rfl hl (by decide) rfl (fun ls hl => ?_)
  have W4_3 : ∀ (n_3 : Nat) (x1 : Int32) (x2 : Int32) (M3 : MT) (R4 : RT) (J5 : JT) (H : Heap) (locs : List Loc) (ls : Array Slot) (h_x1 : iv (-2147483648) 2147483647 x1) (h_x2 : iv 0 10 x2) (hm_3 : 10 - x2.toInt < (n_3 : Int)) (hS : SB D cy base Z K N Lt_X6_spoilingSet LRt_X6_spoilingSet Ma Ra M3 R4 J5 s H locs) (hl : lv_has ls 4 [(1, .int x1), (2, .int x2), (0, .ref (base + a0))]), W p l e (md_rm 14 0 0) s m args below meth c H locs 0 0 Q (F0 m 4 ls []) := by
    intro n_3
    induction n_3 with
    | zero =>
      intro x1 x2 M3 R4 J5 H locs ls h_x1 h_x2 hm_3 hS hl
      exfalso
      have := (h_la).1; have := (h_la).2; have := (h_x2).1; have := (h_x2).2; omega
    | succ n_3 ih_3 =>
      intro x1 x2 M3 R4 J5 H locs ls h_x1 h_x2 hm_3 hS hl
      have f6 := hS.2.2.1
      have g7 := hS.2.2.2
      refine lv_iload_n hx hb dX6_spoilingSet_4 rfl (lv_at hl 1 rfl) ?_
      refine lv_aload_n hx hb dX6_spoilingSet_5 rfl (lv_at hl 2 rfl) ?_
      refine tw_getr hx hb hW hown hK hS f_X6_39_6 hz_a0 hk_a0 (t := 10) (n := 0) rfl dX6_spoilingSet_6 (fun b8 k9 hz_b8 hk_b8 hn_b8 => ?_)
      refine tw_geti hx hb hW hown hK hS f_X6_93_9 hz_b8 hk_b8 (lo := (-2147483648)) (hi := 10) rfl dX6_spoilingSet_9 (fun x12 k11 h10 => ?_)
      refine lv_icmp_ge (tgt := 57) hx hb dX6_spoilingSet_12 (by decide) (fun c13 => ?_) (fun c13 => ?_)
      · have q14 : x12.toInt ≤ x2.toInt := ti_le c13
        refine lv_iload_n hx hb dX6_spoilingSet_57 rfl (lv_at hl 0 rfl) ?_
        exact tw_endi hx hb hr hlocks hK hT hS hQ (h_x1) dX6_spoilingSet_58
      · have q15 : x2.toInt < x12.toInt := ti_nle c13
        have h16 : iv 0 9 x2 := iv_ltL (y := x12) h_x2 h10 q15 (by decide)
        have h17 : iv 1 10 x12 := iv_gtL (y := x2) h10 h_x2 q15 (by decide)
        refine lv_iconst (v := 1) hx hb dX6_spoilingSet_15 (by decide) ?_
        refine lv_iload_n hx hb dX6_spoilingSet_16 rfl (lv_at hl 1 rfl) ?_
        refine lv_ishl hx hb dX6_spoilingSet_17 ?_
        refine tw_top (fun x19 => ?_)
        have h18 := iv_any x19
        refine lv_istore_n (lv' := [(3, .int x19), (1, .int x1), (2, .int x2), (0, .ref (base + a0))]) hx hb dX6_spoilingSet_18 rfl hl (by decide) rfl (fun ls hl => ?_)
        refine lv_aload_n hx hb dX6_spoilingSet_19 rfl (lv_at hl 3 rfl) ?_
        refine tw_getrk hx hb hW hown hK hS f_X6_39_6 hz_a0 hk_a0 (b := b8) k9 dX6_spoilingSet_20 ?_
        refine tw_geti hx hb hW hown hK hS f_X6_123_9 hz_b8 hk_b8 (lo := (-2147483648)) (hi := 2147483647) rfl dX6_spoilingSet_23 (fun x22 k21 h20 => ?_)
        refine lv_aload_n hx hb dX6_spoilingSet_26 rfl (lv_at hl 3 rfl) ?_
        refine tw_geti hx hb hW hown hK hS f_X6_47_6 hz_a0 hk_a0 (lo := (-2147483648)) (hi := 2147483647) rfl dX6_spoilingSet_27 (fun x25 k24 h23 => ?_)
        refine lv_iconst (v := (-1)) hx hb dX6_spoilingSet_30 (by decide) ?_
        refine lv_ixor hx hb dX6_spoilingSet_31 ?_
        refine tw_top (fun x27 => ?_)
        have h26 := iv_any x27
        refine lv_iand hx hb dX6_spoilingSet_32 ?_
        refine tw_top (fun x29 => ?_)
        have h28 := iv_any x29
        refine lv_iload_n hx hb dX6_spoilingSet_33 rfl (lv_at hl 0 rfl) ?_
        refine lv_iand hx hb dX6_spoilingSet_34 ?_
        refine tw_top (fun x31 => ?_)
        have h30 := iv_any x31
        refine lv_if_eq (tgt := 51) hx hb dX6_spoilingSet_35 (by decide) (fun c32 => ?_) (fun c32 => ?_)
        · have q33 : x31.toInt = 0 := ti_eq c32
          have h34 : iv 0 0 x31 := ⟨by have := (h30).1; have := ((iv_c (c := 0) (n := 0) (by decide))).1; omega, by have := (h30).2; have := ((iv_c (c := 0) (n := 0) (by decide))).2; omega⟩
          refine tw_iinc (lv' := fun x37 => [(2, .int x37), (3, .int x19), (1, .int x1), (0, .ref (base + a0))]) (lo := 1) (hi := 10) hx hb dX6_spoilingSet_51 hl (k := 2) rfl h16 (by decide) ⟨by decide, by decide⟩ ⟨by decide, by decide⟩ (by decide) (fun _ => rfl) (fun x37 ls e36 h35 hl => ?_)
          refine lv_goto (tgt := 4) hx hb dX6_spoilingSet_54 (by decide) ?_
          have hm38 : 10 - x37.toInt < (n_3 : Int) := by
            have := (h_la).1; have := (h_la).2; have := (h16).1; have := (h16).2; have := (h35).1; have := (h35).2; omega
          exact ih_3 x1 x37 M3 R4 J5 H locs _ h_x1 (iv_mono h35 (by decide) (by decide)) hm38 hS (lv_sub hl [2, 0, 3] rfl)
        · have q39 : ¬ x31.toInt = 0 := ti_ne c32
          refine lv_aload_n hx hb dX6_spoilingSet_38 rfl (lv_at hl 3 rfl) ?_
          refine lv_iconst (v := 0) hx hb dX6_spoilingSet_39 (by decide) ?_
          refine lv_iload_n hx hb dX6_spoilingSet_40 rfl (lv_at hl 0 rfl) ?_
          have k40 : M3 a0 13 = la := (Fr.kp (k := 13) f6 hk_a0 rfl).trans k_la
          have hm41 : 3 - (0 : Int32).toInt < (((4 : Nat) : Int) : Int) := by
            have := (h_la).1; have := (h_la).2; have : (0 : Int32).toInt = 0 := (by decide); omega
          refine tw_goi hS (md_runV (As := [.int 0, .int x19]) (rest := []) hx hb hml hown hW hK hT hS.1 (t_X6_canSpoil l D cy tx base Z K N 4 M3 R4 J5 hS.2.1 a0 hz_a0 hk_a0 0 (iv_mono (iv_c (c := 0) (n := 0) (by decide)) (by decide) (by decide)) x19 h18 la k40 (iv_mono h_la (by decide) (by decide)) hm41) s_X6_157 ⟨rfl, rfl, ⟨by simp only [md_rm]; omega, by simp only [md_rm]; omega⟩, ⟨Nat.le_of_ble_eq_true rfl, Nat.le_of_ble_eq_true rfl⟩⟩ hz_a0 hk_a0 (by decide) rfl rfl hl.1 rfl (Nat.le_of_ble_eq_true rfl) dX6_spoilingSet_41) rfl rfl (fun x48 H locs M45 R46 J44 hS f42 g43 E47 => ?_)
          have h_x48 := E47
          clear E47
          refine lv_if_eq (tgt := 51) hx hb dX6_spoilingSet_44 (by decide) (fun c49 => ?_) (fun c49 => ?_)
          · have q50 : x48.toInt = 0 := ti_eq c49
            have h51 : iv 0 0 x48 := ⟨by have := (h_x48).1; have := ((iv_c (c := 0) (n := 0) (by decide))).1; omega, by have := (h_x48).2; have := ((iv_c (c := 0) (n := 0) (by decide))).2; omega⟩
            refine tw_iinc (lv' := fun x54 => [(2, .int x54), (3, .int x19), (1, .int x1), (0, .ref (base + a0))]) (lo := 1) (hi := 10) hx hb dX6_spoilingSet_51 hl (k := 2) rfl h16 (by decide) ⟨by decide, by decide⟩ ⟨by decide, by decide⟩ (by decide) (fun _ => rfl) (fun x54 ls e53 h52 hl => ?_)
            refine lv_goto (tgt := 4) hx hb dX6_spoilingSet_54 (by decide) ?_
            have hm55 : 10 - x54.toInt < (n_3 : Int) := by
              have := (h_la).1; have := (h_la).2; have := (h16).1; have := (h16).2; have := (h52).1; have := (h52).2; omega
            exact ih_3 x1 x54 M45 R46 J44 H locs _ h_x1 (iv_mono h52 (by decide) (by decide)) hm55 hS (lv_sub hl [2, 0, 3] rfl)
          · have q56 : ¬ x48.toInt = 0 := ti_ne c49
            have h57 : iv 1 1 x48 := ⟨by have := (h_x48).1; have := ((iv_c (c := 0) (n := 0) (by decide))).1; have := ((iv_c (c := 0) (n := 0) (by decide))).2; omega, by have := (h_x48).2; have := ((iv_c (c := 0) (n := 0) (by decide))).1; have := ((iv_c (c := 0) (n := 0) (by decide))).2; omega⟩
            refine lv_iload_n hx hb dX6_spoilingSet_47 rfl (lv_at hl 1 rfl) ?_
            refine lv_iload_n hx hb dX6_spoilingSet_48 rfl (lv_at hl 0 rfl) ?_
            refine lv_ior hx hb dX6_spoilingSet_49 ?_
            refine tw_top (fun x59 => ?_)
            have h58 := iv_any x59
            refine lv_istore_n (lv' := [(1, .int x59), (3, .int x19), (2, .int x2), (0, .ref (base + a0))]) hx hb dX6_spoilingSet_50 rfl hl (by decide) rfl (fun ls hl => ?_)
            refine tw_iinc (lv' := fun x62 => [(2, .int x62), (1, .int x59), (3, .int x19), (0, .ref (base + a0))]) (lo := 1) (hi := 10) hx hb dX6_spoilingSet_51 hl (k := 2) rfl h16 (by decide) ⟨by decide, by decide⟩ ⟨by decide, by decide⟩ (by decide) (fun _ => rfl) (fun x62 ls e61 h60 hl => ?_)
            refine lv_goto (tgt := 4) hx hb dX6_spoilingSet_54 (by decide) ?_
            have hm63 : 10 - x62.toInt < (n_3 : Int) := by
              have := (h_la).1; have := (h_la).2; have := (h16).1; have := (h16).2; have := (h60).1; have := (h60).2; omega
            exact ih_3 x59 x62 M45 R46 J44 H locs _ h58 (iv_mono h60 (by decide) (by decide)) hm63 hS (lv_sub hl [1, 0, 3] rfl)
  have hm64 : 10 - (0 : Int32).toInt < (((11 : Nat) : Int) : Int) := by
    have := (h_la).1; have := (h_la).2; have : (0 : Int32).toInt = 0 := (by decide); omega
  exact W4_3 11 0 0 Ma Ra Ja s.heap [] _ (iv_mono (iv_c (c := 0) (n := 0) (by decide)) (by decide) (by decide)) (iv_mono (iv_c (c := 0) (n := 0) (by decide)) (by decide) (by decide)) hm64 hS (lv_sub hl [1, 0, 2] rfl)
def Lt_X11_spoilers : WL := [(6, 2, 4), (6, 6, 15), (7, 10, 15), (14, 0, 2000000), (20, 0, 2000000), (22, 0, 2000000)]
def LRt_X11_spoilers : WL := [(6, 4, 6)]
set_option maxRecDepth 100000 in
set_option maxHeartbeats 4000000 in
theorem t_X11_spoilers (l : Launch) (D : va_G) (cy : Nat → ClassId) (tx : (Nat → Nat) × (Nat → Nat)) (base Z : Nat) (K N : Nat → Nat) (Ma : MT) (Ra : RT) (Ja : JT) (hTy : Ty Z K N Ma Ra) (a0 : Nat) (hz_a0 : a0 < Z) (hk_a0 : K a0 = 11) (a1 : Int32) (h_a1 : iv (-2147483648) 2147483647 a1) (st : Nat) (k_st : Ra a0 3 = some st) (pl : Nat) (k_pl : Ra a0 11 = some pl) (hw : Ra pl 0 = some st) : Met l yX11_spoilers [Cond.code yX11_spoilers cX11_spoilers 2 (some .int)] (md_rm 15 0 0) (va_Pc [.ref (base + a0), .int a1] (md_U D cy tx base Z K N Ma Ra Ja)) (mQi D cy tx base (fun r u => TP Z K N Lt_X11_spoilers LRt_X11_spoilers Ma Ra u ∧ (iv (-2147483648) 2147483647 r))) 0 0 (fun q => base ≤ q) := by
  refine tw_ofW (L := Lt_X11_spoilers) (LR := LRt_X11_spoilers) (by decide) (Nat.le_of_ble_eq_true rfl) hTy ?_
  intro p e s m args below meth c Q ls hx hb hr hlocks hown hml hW hK hT hS hQ hl
  have hl : lv_has ls 2 [(0, .ref (base + a0)), (1, .int a1)] := hl
  obtain ⟨hz_st, hk_st, hn_st⟩ := hTy.refn hz_a0 hk_a0 (show rtR 11 3 = (10, 0, 0) from rfl) k_st
  obtain ⟨hz_pl, hk_pl, hn_pl⟩ := hTy.refn hz_a0 hk_a0 (show rtR 11 11 = (7, 0, 0) from rfl) k_pl
  refine lv_aload_n hx hb dX11_spoilers_0 rfl (lv_at hl 0 rfl) ?_
  refine lv_iload_n hx hb dX11_spoilers_1 rfl (lv_at hl 1 rfl) ?_
  obtain ⟨x3, k1⟩ : ∃ x, Ma st 7 = x := ⟨_, rfl⟩
  have h2 : iv 0 8 x3 := by rw [← k1]; exact hS.2.1.int hz_st hk_st (show rgI 10 7 = (0, 8) from rfl)
  refine tw_goi hS (md_runV (As := [.int a1]) (rest := []) hx hb hml hown hW hK hT hS.1 (t_X11_mayThrow l D cy tx base Z K N Ma Ra Ja hS.2.1 a0 hz_a0 hk_a0 a1 h_a1 st k_st x3 k1 (iv_mono h2 (by decide) (by decide))) s_X11_226 ⟨rfl, rfl, ⟨Nat.le_of_ble_eq_true rfl, Nat.le_of_ble_eq_true rfl⟩, ⟨Nat.le_of_ble_eq_true rfl, Nat.le_of_ble_eq_true rfl⟩⟩ hz_a0 hk_a0 (by decide) rfl rfl hl.1 rfl (Nat.le_of_ble_eq_true rfl) dX11_spoilers_2) rfl rfl (fun x10 H locs M7 R8 J6 hS f4 g5 E9 => ?_)
  have eM7 := Fr.nil f4 rfl
  subst eM7
  have eR8 := Fr.nil g5 rfl
  subst eR8
  obtain ⟨h_x10, p11⟩ := E9
  refine lv_if_ne (tgt := 10) hx hb dX11_spoilers_5 (by decide) (fun c12 => ?_) (fun c12 => ?_)
  · have q13 : ¬ x10.toInt = 0 := ti_ne c12
    have h14 : iv 1 1 x10 := ⟨by have := (h_x10).1; have := ((iv_c (c := 0) (n := 0) (by decide))).1; have := ((iv_c (c := 0) (n := 0) (by decide))).2; omega, by have := (h_x10).2; have := ((iv_c (c := 0) (n := 0) (by decide))).1; have := ((iv_c (c := 0) (n := 0) (by decide))).2; omega⟩
    have h15 : iv 1 4 x3 := ⟨by have := (p11 c12).1; have := (h2).1; omega, by have := (p11 c12).2; have := (h2).2; omega⟩
    refine lv_aload_n hx hb dX11_spoilers_10 rfl (lv_at hl 0 rfl) ?_
    refine tw_getrk hx hb hW hown hK hS f_X11_69_10 hz_a0 hk_a0 (b := pl) k_pl dX11_spoilers_11 ?_
    refine lv_iload_n hx hb dX11_spoilers_14 rfl (lv_at hl 1 rfl) ?_
    refine tw_goi hS (md_runV (As := [.int a1]) (rest := []) hx hb hml hown hW hK hT hS.1 (t_X6_search l D cy tx base Z K N Ma Ra J6 hS.2.1 pl hz_pl hk_pl a1 h_a1 st hw x3 k1 (iv_mono h15 (by decide) (by decide))) s_X11_229 ⟨rfl, rfl, ⟨Nat.le_of_ble_eq_true rfl, Nat.le_of_ble_eq_true rfl⟩, ⟨Nat.le_of_ble_eq_true rfl, Nat.le_of_ble_eq_true rfl⟩⟩ hz_pl hk_pl (by decide) rfl rfl hl.1 rfl (Nat.le_of_ble_eq_true rfl) dX11_spoilers_15) rfl rfl (fun x22 H locs M19 R20 J18 hS f16 g17 E21 => ?_)
    obtain ⟨h_x22, p23⟩ := E21
    obtain ⟨x26, k24, h25⟩ := p23
    have k24 : M19 pl 13 = x26 := k24
    refine lv_if_eq (tgt := 31) hx hb dX11_spoilers_18 (by decide) (fun c27 => ?_) (fun c27 => ?_)
    · have q28 : x22.toInt = 0 := ti_eq c27
      have h29 : iv 0 0 x22 := ⟨by have := (h_x22).1; have := ((iv_c (c := 0) (n := 0) (by decide))).1; omega, by have := (h_x22).2; have := ((iv_c (c := 0) (n := 0) (by decide))).2; omega⟩
      refine lv_bipush (v := (-2)) hx hb dX11_spoilers_31 (by decide) ?_
      exact tw_endi hx hb hr hlocks hK hT hS hQ ((iv_mono (iv_c (c := (-2)) (n := (-2)) (by decide)) (by decide) (by decide))) dX11_spoilers_33
    · have q30 : ¬ x22.toInt = 0 := ti_ne c27
      have h31 : iv 1 1 x22 := ⟨by have := (h_x22).1; have := ((iv_c (c := 0) (n := 0) (by decide))).1; have := ((iv_c (c := 0) (n := 0) (by decide))).2; omega, by have := (h_x22).2; have := ((iv_c (c := 0) (n := 0) (by decide))).1; have := ((iv_c (c := 0) (n := 0) (by decide))).2; omega⟩
      refine lv_aload_n hx hb dX11_spoilers_21 rfl (lv_at hl 0 rfl) ?_
      have k32 : R20 a0 11 = some pl := (Fr.kp (k := 11) g17 hk_a0 rfl).trans k_pl
      refine tw_getrk hx hb hW hown hK hS f_X11_69_10 hz_a0 hk_a0 (b := pl) k32 dX11_spoilers_22 ?_
      refine tw_goi hS (md_runV (As := []) (rest := []) hx hb hml hown hW hK hT hS.1 (t_X6_spoilingSet l D cy tx base Z K N M19 R20 J18 hS.2.1 pl hz_pl hk_pl x26 k24 (iv_mono h25 (by decide) (by decide))) s_X11_238 ⟨rfl, rfl, ⟨Nat.le_of_ble_eq_true rfl, Nat.le_of_ble_eq_true rfl⟩, ⟨Nat.le_of_ble_eq_true rfl, Nat.le_of_ble_eq_true rfl⟩⟩ hz_pl hk_pl (by decide) rfl rfl hl.1 rfl (Nat.le_of_ble_eq_true rfl) dX11_spoilers_25) rfl rfl (fun x39 H locs M36 R37 J35 hS f33 g34 E38 => ?_)
      have h_x39 := E38
      clear E38
      refine lv_goto (tgt := 33) hx hb dX11_spoilers_28 (by decide) ?_
      exact tw_endi hx hb hr hlocks hK hT hS hQ (h_x39) dX11_spoilers_33
  · have q40 : x10.toInt = 0 := ti_eq c12
    have h41 : iv 0 0 x10 := ⟨by have := (h_x10).1; have := ((iv_c (c := 0) (n := 0) (by decide))).1; omega, by have := (h_x10).2; have := ((iv_c (c := 0) (n := 0) (by decide))).2; omega⟩
    refine lv_iconst (v := (-1)) hx hb dX11_spoilers_8 (by decide) ?_
    exact tw_endi hx hb hr hlocks hK hT hS hQ ((iv_mono (iv_c (c := (-1)) (n := (-1)) (by decide)) (by decide) (by decide))) dX11_spoilers_9
def Lt_X11_status : WL := []
def LRt_X11_status : WL := []
set_option maxRecDepth 100000 in
set_option maxHeartbeats 4000000 in
theorem t_X11_status (l : Launch) (D : va_G) (cy : Nat → ClassId) (tx : (Nat → Nat) × (Nat → Nat)) (base Z : Nat) (K N : Nat → Nat) (Ma : MT) (Ra : RT) (Ja : JT) (hTy : Ty Z K N Ma Ra) (a0 : Nat) (hz_a0 : a0 < Z) (hk_a0 : K a0 = 11) (a1 : Int32) (h_a1 : iv (-2147483648) 2147483647 a1) : Met l yX11_status [Cond.code yX11_status cX11_status 2 (some .int)] (md_rm 1 0 0) (va_Pc [.ref (base + a0), .int a1] (md_U D cy tx base Z K N Ma Ra Ja)) (mQi D cy tx base (fun r u => TP Z K N Lt_X11_status LRt_X11_status Ma Ra u ∧ (iv (-2147483648) 2147483647 r))) 0 0 (fun q => base ≤ q) := by
  refine tw_ofW (L := Lt_X11_status) (LR := LRt_X11_status) (by decide) (Nat.le_of_ble_eq_true rfl) hTy ?_
  intro p e s m args below meth c Q ls hx hb hr hlocks hown hml hW hK hT hS hQ hl
  have hl : lv_has ls 2 [(0, .ref (base + a0)), (1, .int a1)] := hl
  refine lv_iload_n hx hb dX11_status_0 rfl (lv_at hl 1 rfl) ?_
  refine lv_if_lt (tgt := 22) hx hb dX11_status_1 (by decide) (fun c1 => ?_) (fun c1 => ?_)
  · have q2 : a1.toInt < 0 := ti_lt c1
    have h3 : iv (-2147483648) (-1) a1 := iv_ltL (y := 0) h_a1 (iv_c (c := 0) (n := 0) (by decide)) q2 (by decide)
    refine lv_iconst (v := (-1)) hx hb dX11_status_22 (by decide) ?_
    exact tw_endi hx hb hr hlocks hK hT hS hQ ((iv_mono (iv_c (c := (-1)) (n := (-1)) (by decide)) (by decide) (by decide))) dX11_status_23
  · have q4 : 0 ≤ a1.toInt := ti_nlt c1
    have h5 : iv 0 2147483647 a1 := iv_geL (y := 0) h_a1 (iv_c (c := 0) (n := 0) (by decide)) q4 (by decide)
    refine lv_iload_n hx hb dX11_status_4 rfl (lv_at hl 1 rfl) ?_
    refine lv_aload_n hx hb dX11_status_5 rfl (lv_at hl 0 rfl) ?_
    refine tw_getr hx hb hW hown hK hS f_X11_13_10 hz_a0 hk_a0 (t := 14) (n := 2) rfl dX11_status_6 (fun b6 k7 hz_b6 hk_b6 hn_b6 => ?_)
    have hn_b6 := hn_b6 (by decide)
    refine tw_alenk hx hb hK hS hz_b6 hk_b6 (by decide) hn_b6 (v := 2) (by decide) dX11_status_9 ?_
    refine lv_icmp_ge (tgt := 22) hx hb dX11_status_10 (by decide) (fun c8 => ?_) (fun c8 => ?_)
    · have q9 : 2 ≤ a1.toInt := ti_le c8
      have h10 : iv 2 2147483647 a1 := iv_geL (y := 2) h5 (iv_c (c := 2) (n := 2) (by decide)) q9 (by decide)
      refine lv_iconst (v := (-1)) hx hb dX11_status_22 (by decide) ?_
      exact tw_endi hx hb hr hlocks hK hT hS hQ ((iv_mono (iv_c (c := (-1)) (n := (-1)) (by decide)) (by decide) (by decide))) dX11_status_23
    · have q11 : a1.toInt < 2 := ti_nle c8
      have h12 : iv 0 1 a1 := iv_ltL (y := 2) h5 (iv_c (c := 2) (n := 2) (by decide)) q11 (by decide)
      refine lv_aload_n hx hb dX11_status_13 rfl (lv_at hl 0 rfl) ?_
      refine tw_getrk hx hb hW hown hK hS f_X11_13_10 hz_a0 hk_a0 (b := b6) k7 dX11_status_14 ?_
      refine lv_iload_n hx hb dX11_status_17 rfl (lv_at hl 1 rfl) ?_
      refine tw_iald hx hb hK hS hz_b6 hk_b6 (Or.inl rfl) hn_b6 (lo := (-2147483648)) (hi := 2147483647) h12 ⟨by decide, by decide⟩ rg_u14 dX11_status_18 (fun x15 k14 h13 => ?_)
      refine lv_goto (tgt := 23) hx hb dX11_status_19 (by decide) ?_
      exact tw_endi hx hb hr hlocks hK hT hS hQ (h13) dX11_status_23
