def Lt_X6_canSpoil : WL := [(6, 2, 4), (6, 6, 15), (20, 0, 2000000)]
def LRt_X6_canSpoil : WL := [(6, 4, 6)]
set_option maxRecDepth 100000 in
set_option maxHeartbeats 4000000 in
theorem t_X6_canSpoil (l : Launch) (D : va_G) (cy : Nat → ClassId) (tx : (Nat → Nat) × (Nat → Nat)) (base Z : Nat) (K N : Nat → Nat) : ∀ (d : Nat), ∀ (Ma : MT) (Ra : RT) (Ja : JT) (hTy : Ty Z K N Ma Ra) (a0 : Nat) (hz_a0 : a0 < Z) (hk_a0 : K a0 = 7) (a1 : Int32) (h_a1 : iv 0 3 a1) (a2 : Int32) (h_a2 : iv (-2147483648) 2147483647 a2) (la : Int32) (k_la : Ma a0 13 = la) (h_la : iv 0 3 la) (hmd : 3 - a1.toInt < (d : Int)), Met l yX6_canSpoil [Cond.code yX6_canSpoil cX6_canSpoil 10 (some .boolean)] (md_rm (5 + 2 * d) 0 0) (va_Pc [.ref (base + a0), .int a1, .int a2] (md_U D cy tx base Z K N Ma Ra Ja)) (mQi D cy tx base (fun r u => TP Z K N Lt_X6_canSpoil LRt_X6_canSpoil Ma Ra u ∧ (iv 0 1 r))) 0 0 (fun q => base ≤ q) := by
  intro d
  induction d with
  | zero =>
    intro Ma Ra Ja hTy a0 hz_a0 hk_a0 a1 h_a1 a2 h_a2 la k_la h_la hmd
    exfalso
    have := h_a1.2
    omega
  | succ d ih =>
    intro Ma Ra Ja hTy a0 hz_a0 hk_a0 a1 h_a1 a2 h_a2 la k_la h_la hmd
    refine tw_ofW (L := Lt_X6_canSpoil) (LR := LRt_X6_canSpoil) (by decide) (Nat.le_of_ble_eq_true rfl) hTy ?_
    intro p e s m args below meth c Q ls hx hb hr hlocks hown hml hW hK hT hS hQ hl
    have hl : lv_has ls 10 [(0, .ref (base + a0)), (1, .int a1), (2, .int a2)] := hl
    refine lv_aload_n hx hb dX6_canSpoil_0 rfl (lv_at hl 0 rfl) ?_
    refine tw_getr hx hb hW hown hK hS f_X6_13_6 hz_a0 hk_a0 (t := 19) (n := 4) rfl dX6_canSpoil_1 (fun b1 k2 hz_b1 hk_b1 hn_b1 => ?_)
    have hn_b1 := hn_b1 (by decide)
    refine lv_iload_n hx hb dX6_canSpoil_4 rfl (lv_at hl 1 rfl) ?_
    refine tw_row hx hb hK hS hz_b1 hk_b1 hn_b1 h_a1 ⟨by decide, by decide⟩ dX6_canSpoil_5 (fun b3 k4 hz_b3 hk_b3 hn_b3 => ?_)
    refine lv_astore_n (lv' := [(3, .ref (base + b3)), (0, .ref (base + a0)), (1, .int a1), (2, .int a2)]) hx hb dX6_canSpoil_6 rfl hl (by decide) rfl (fun ls hl => ?_)
    refine lv_aload_n hx hb dX6_canSpoil_7 rfl (lv_at hl 1 rfl) ?_
    refine tw_getr hx hb hW hown hK hS f_X6_43_6 hz_a0 hk_a0 (t := 6) (n := 0) rfl dX6_canSpoil_8 (fun b5 k6 hz_b5 hk_b5 hn_b5 => ?_)
    refine lv_aload_n hx hb dX6_canSpoil_11 rfl (lv_at hl 1 rfl) ?_
    refine tw_getr hx hb hW hown hK hS f_X6_39_6 hz_a0 hk_a0 (t := 10) (n := 0) rfl dX6_canSpoil_12 (fun b7 k8 hz_b7 hk_b7 hn_b7 => ?_)
    refine tw_getr hx hb hW hown hK hS f_X6_99_9 hz_b7 hk_b7 (t := 21) (n := 8) rfl dX6_canSpoil_15 (fun b9 k10 hz_b9 hk_b9 hn_b9 => ?_)
    have hn_b9 := hn_b9 (by decide)
    refine lv_iload_n hx hb dX6_canSpoil_18 rfl (lv_at hl 2 rfl) ?_
    refine lv_aload_n hx hb dX6_canSpoil_19 rfl (lv_at hl 1 rfl) ?_
    refine tw_getrk hx hb hW hown hK hS f_X6_39_6 hz_a0 hk_a0 (b := b7) k8 dX6_canSpoil_20 ?_
    refine tw_geti hx hb hW hown hK hS f_X6_51_9 hz_b7 hk_b7 (lo := 0) (hi := 8) rfl dX6_canSpoil_23 (fun x13 k12 h11 => ?_)
    refine lv_aload_n hx hb dX6_canSpoil_26 rfl (lv_at hl 0 rfl) ?_
    refine lv_aload_n hx hb dX6_canSpoil_27 rfl (lv_at hl 1 rfl) ?_
    refine tw_getrk hx hb hW hown hK hS f_X6_39_6 hz_a0 hk_a0 (b := b7) k8 dX6_canSpoil_28 ?_
    refine tw_geti hx hb hW hown hK hS f_X6_116_9 hz_b7 hk_b7 (lo := (-2147483648)) (hi := 2147483647) rfl dX6_canSpoil_31 (fun x16 k15 h14 => ?_)
    refine lv_iload_n hx hb dX6_canSpoil_34 rfl (lv_at hl 2 rfl) ?_
    refine lv_iadd hx hb dX6_canSpoil_35 ?_
    refine tw_top (fun x18 => ?_)
    have h17 := iv_any x18
    refine tw_gov hS (md_runV (As := [.ref (base + b9), .int a1, .int x13, .ref (base + b3), .int x18]) (rest := []) hx hb hml hown hW hK hT hS.1 (t_X5_bring l D cy tx base Z K N Ma Ra Ja hS.2.1 b5 hz_b5 hk_b5 b9 hz_b9 hk_b9 hn_b9 a1 (iv_mono h_a1 (by decide) (by decide)) x13 h11 b3 hz_b3 hk_b3 hn_b3 x18 h17) s_X6_119 ⟨rfl, rfl, ⟨by simp only [md_rm]; omega, by simp only [md_rm]; omega⟩, ⟨Nat.le_of_ble_eq_true rfl, Nat.le_of_ble_eq_true rfl⟩⟩ hz_b5 hk_b5 (by decide) rfl rfl hl.1 rfl (Nat.le_of_ble_eq_true rfl) dX6_canSpoil_36) rfl rfl (fun H locs M22 R23 J21 hS f19 g20 E24 => ?_)
    have p25 := E24
    clear E24
    have k26 : RowOK N M22 R23 b5 := p25
    refine lv_aload_n hx hb dX6_canSpoil_39 rfl (lv_at hl 1 rfl) ?_
    have k27 : R23 a0 1 = some b5 := (Fr.kp (k := 1) g20 hk_a0 rfl).trans k6
    refine tw_getrk hx hb hW hown hK hS f_X6_43_6 hz_a0 hk_a0 (b := b5) k27 dX6_canSpoil_40 ?_
    refine lv_aload_n hx hb dX6_canSpoil_43 rfl (lv_at hl 1 rfl) ?_
    have k28 : R23 a0 0 = some b7 := (Fr.kp (k := 0) g20 hk_a0 rfl).trans k8
    refine tw_getrk hx hb hW hown hK hS f_X6_39_6 hz_a0 hk_a0 (b := b7) k28 dX6_canSpoil_44 ?_
    refine tw_geti hx hb hW hown hK hS f_X6_123_9 hz_b7 hk_b7 (lo := (-2147483648)) (hi := 2147483647) rfl dX6_canSpoil_47 (fun x31 k30 h29 => ?_)
    refine lv_aload_n hx hb dX6_canSpoil_50 rfl (lv_at hl 1 rfl) ?_
    refine tw_geti hx hb hW hown hK hS f_X6_47_6 hz_a0 hk_a0 (lo := (-2147483648)) (hi := 2147483647) rfl dX6_canSpoil_51 (fun x34 k33 h32 => ?_)
    refine lv_iconst (v := (-1)) hx hb dX6_canSpoil_54 (by decide) ?_
    refine lv_ixor hx hb dX6_canSpoil_55 ?_
    refine tw_top (fun x36 => ?_)
    have h35 := iv_any x36
    refine lv_iand hx hb dX6_canSpoil_56 ?_
    refine tw_top (fun x38 => ?_)
    have h37 := iv_any x38
    refine lv_iload_n hx hb dX6_canSpoil_57 rfl (lv_at hl 3 rfl) ?_
    refine lv_iconst (v := (-1)) hx hb dX6_canSpoil_58 (by decide) ?_
    refine lv_ixor hx hb dX6_canSpoil_59 ?_
    refine tw_top (fun x40 => ?_)
    have h39 := iv_any x40
    refine lv_iand hx hb dX6_canSpoil_60 ?_
    refine tw_top (fun x42 => ?_)
    have h41 := iv_any x42
    refine tw_gov hS (md_runV (As := [.int x42]) (rest := []) hx hb hml hown hW hK hT hS.1 (t_X5_ask l D cy tx base Z K N M22 R23 J21 hS.2.1 b5 hz_b5 hk_b5 x42 h41 k26) s_X6_126 ⟨rfl, rfl, ⟨by simp only [md_rm]; omega, by simp only [md_rm]; omega⟩, ⟨Nat.le_of_ble_eq_true rfl, Nat.le_of_ble_eq_true rfl⟩⟩ hz_b5 hk_b5 (by decide) rfl rfl hl.1 rfl (Nat.le_of_ble_eq_true rfl) dX6_canSpoil_61) rfl rfl (fun H locs M46 R47 J45 hS f43 g44 E48 => ?_)
    have eR47 := Fr.nil g44 rfl
    subst eR47
    refine lv_aload_n hx hb dX6_canSpoil_64 rfl (lv_at hl 1 rfl) ?_
    have k49 : R23 a0 1 = some b5 := (Fr.kp (k := 1) g20 hk_a0 rfl).trans k6
    refine tw_getrk hx hb hW hown hK hS f_X6_43_6 hz_a0 hk_a0 (b := b5) k49 dX6_canSpoil_65 ?_
    refine tw_geti hx hb hW hown hK hS f_X6_129_5 hz_b5 hk_b5 (lo := (-2147483648)) (hi := 2147483647) rfl dX6_canSpoil_68 (fun x52 k51 h50 => ?_)
    refine lv_aload_n hx hb dX6_canSpoil_71 rfl (lv_at hl 1 rfl) ?_
    refine tw_getr hx hb hW hown hK hS f_X6_16_6 hz_a0 hk_a0 (t := 14) (n := 27) rfl dX6_canSpoil_72 (fun b53 k54 hz_b53 hk_b53 hn_b53 => ?_)
    have hn_b53 := hn_b53 (by decide)
    refine lv_aload_n hx hb dX6_canSpoil_75 rfl (lv_at hl 1 rfl) ?_
    refine tw_getr hx hb hW hown hK hS f_X6_29_6 hz_a0 hk_a0 (t := 22) (n := 4) rfl dX6_canSpoil_76 (fun b55 k56 hz_b55 hk_b55 hn_b55 => ?_)
    have hn_b55 := hn_b55 (by decide)
    refine lv_iload_n hx hb dX6_canSpoil_79 rfl (lv_at hl 2 rfl) ?_
    refine tw_iald hx hb hK hS hz_b55 hk_b55 (Or.inr (by decide)) hn_b55 (lo := 0) (hi := 26) h_a1 ⟨by decide, by decide⟩ rg_u22 dX6_canSpoil_80 (fun x59 k58 h57 => ?_)
    refine tw_iald hx hb hK hS hz_b53 hk_b53 (Or.inl rfl) hn_b53 (lo := (-2147483648)) (hi := 2147483647) h57 ⟨by decide, by decide⟩ rg_u14 dX6_canSpoil_81 (fun x62 k61 h60 => ?_)
    refine lv_ior hx hb dX6_canSpoil_82 ?_
    refine tw_top (fun x64 => ?_)
    have h63 := iv_any x64
    refine lv_istore (lv' := [(4, .int x64), (3, .ref (base + b3)), (0, .ref (base + a0)), (1, .int a1), (2, .int a2)]) hx hb dX6_canSpoil_83 hl (by decide) rfl (fun ls hl => ?_)
    refine lv_aload_n hx hb dX6_canSpoil_85 rfl (lv_at hl 2 rfl) ?_
    have k65 : R23 a0 1 = some b5 := (Fr.kp (k := 1) g20 hk_a0 rfl).trans k6
    refine tw_getrk hx hb hW hown hK hS f_X6_43_6 hz_a0 hk_a0 (b := b5) k65 dX6_canSpoil_86 ?_
    refine tw_geti hx hb hW hown hK hS f_X6_132_5 hz_b5 hk_b5 (lo := (-2147483648)) (hi := 2147483647) rfl dX6_canSpoil_89 (fun x68 k67 h66 => ?_)
    refine lv_aload_n hx hb dX6_canSpoil_92 rfl (lv_at hl 2 rfl) ?_
    refine tw_getr hx hb hW hown hK hS f_X6_20_6 hz_a0 hk_a0 (t := 14) (n := 27) rfl dX6_canSpoil_93 (fun b69 k70 hz_b69 hk_b69 hn_b69 => ?_)
    have hn_b69 := hn_b69 (by decide)
    refine lv_aload_n hx hb dX6_canSpoil_96 rfl (lv_at hl 2 rfl) ?_
    refine tw_getrk hx hb hW hown hK hS f_X6_29_6 hz_a0 hk_a0 (b := b55) k56 dX6_canSpoil_97 ?_
    refine lv_iload_n hx hb dX6_canSpoil_100 rfl (lv_at hl 3 rfl) ?_
    refine tw_ialk hx hb hK hS hz_b55 hk_b55 (Or.inr (by decide)) hn_b55 h_a1 ⟨by decide, by decide⟩ (v := x59) k58 dX6_canSpoil_101 ?_
    refine tw_iald hx hb hK hS hz_b69 hk_b69 (Or.inl rfl) hn_b69 (lo := (-2147483648)) (hi := 2147483647) h57 ⟨by decide, by decide⟩ rg_u14 dX6_canSpoil_102 (fun x73 k72 h71 => ?_)
    refine lv_ior hx hb dX6_canSpoil_103 ?_
    refine tw_top (fun x75 => ?_)
    have h74 := iv_any x75
    refine lv_istore (lv' := [(5, .int x75), (4, .int x64), (3, .ref (base + b3)), (0, .ref (base + a0)), (1, .int a1), (2, .int a2)]) hx hb dX6_canSpoil_104 hl (by decide) rfl (fun ls hl => ?_)
    refine lv_iload_n hx hb dX6_canSpoil_106 rfl (lv_at hl 4 rfl) ?_
    refine lv_aload_n hx hb dX6_canSpoil_107 rfl (lv_at hl 3 rfl) ?_
    have k76 : M46 a0 13 = la := ((Fr.kp (k := 13) f43 hk_a0 rfl).trans (Fr.kp (k := 13) f19 hk_a0 rfl)).trans k_la
    refine tw_getk hx hb hW hown hK hS f_X6_62_6 hz_a0 hk_a0 (v := la) k76 dX6_canSpoil_108 ?_
    refine lv_icmp_lt (tgt := 137) hx hb dX6_canSpoil_111 (by decide) (fun c77 => ?_) (fun c77 => ?_)
    · have q78 : a1.toInt < la.toInt := ti_lt c77
      have h79 : iv 0 2 a1 := iv_ltL (y := la) h_a1 h_la q78 (by decide)
      have h80 : iv 1 3 la := iv_gtL (y := a1) h_la h_a1 q78 (by decide)
      refine lv_iconst (v := 0) hx hb dX6_canSpoil_137 (by decide) ?_
      refine lv_istore (lv' := [(6, .int 0), (5, .int x75), (4, .int x64), (3, .ref (base + b3)), (0, .ref (base + a0)), (1, .int a1), (2, .int a2)]) hx hb dX6_canSpoil_138 hl (by decide) rfl (fun ls hl => ?_)
      refine lv_iconst (v := 0) hx hb dX6_canSpoil_140 (by decide) ?_
      refine lv_istore (lv' := [(7, .int 0), (6, .int 0), (5, .int x75), (4, .int x64), (3, .ref (base + b3)), (0, .ref (base + a0)), (1, .int a1), (2, .int a2)]) hx hb dX6_canSpoil_141 hl (by decide) rfl (fun ls hl => ?_)
      have W143_83 : ∀ (n_83 : Nat) (x81 : Int32) (x82 : Int32) (M83 : MT) (R84 : RT) (J85 : JT) (H : Heap) (locs : List Loc) (ls : Array Slot) (h_x81 : iv 0 1 x81) (h_x82 : iv 0 3 x82) (hm_83 : 3 - x82.toInt < (n_83 : Int)) (hS : SB D cy base Z K N Lt_X6_canSpoil LRt_X6_canSpoil Ma Ra M83 R84 J85 s H locs) (hl : lv_has ls 10 [(6, .int x81), (7, .int x82), (5, .int x75), (4, .int x64), (3, .ref (base + b3)), (0, .ref (base + a0)), (1, .int a1), (2, .int a2)]), W p l e (md_rm (5 + 2 * (d + 1)) 0 0) s m args below meth c H locs 0 0 Q (F0 m 143 ls []) := by
        intro n_83
        induction n_83 with
        | zero =>
          intro x81 x82 M83 R84 J85 H locs ls h_x81 h_x82 hm_83 hS hl
          exfalso
          have := (h79).1; have := (h79).2; have := (h_a2).1; have := (h_a2).2; have := (h80).1; have := (h80).2; have := (h_x82).1; have := (h_x82).2; omega
        | succ n_83 ih_83 =>
          intro x81 x82 M83 R84 J85 H locs ls h_x81 h_x82 hm_83 hS hl
          have f86 := hS.2.2.1
          have g87 := hS.2.2.2
          refine lv_iload hx hb dX6_canSpoil_143 (lv_at hl 1 rfl) ?_
          obtain ⟨sy0, sy1, hY0, hY1⟩ := hT.2.2.2.2
          refine va_getsN hx hb hY0 hS.1.2.2 hown (va_Nw.use rfl hK.2.2.1.2.2.2.2.2.2.2) (fun _ h => h) dX6_canSpoil_145 ?_
          refine va_tlen hx hb hY1 hS.1.2.2 (v := 3) (by decide) dX6_canSpoil_148 ?_
          refine lv_icmp_ge (tgt := 248) hx hb dX6_canSpoil_149 (by decide) (fun c88 => ?_) (fun c88 => ?_)
          · have q89 : 3 ≤ x82.toInt := ti_le c88
            have h90 : iv 3 3 x82 := iv_geL (y := 3) h_x82 (iv_c (c := 3) (n := 3) (by decide)) q89 (by decide)
            refine lv_iload hx hb dX6_canSpoil_248 (lv_at hl 0 rfl) ?_
            exact tw_endz hx hb hr hlocks hK hT hS hQ (nar_b h_x81) (h_x81) dX6_canSpoil_250
          · have q91 : x82.toInt < 3 := ti_nle c88
            have h92 : iv 0 2 x82 := iv_ltL (y := 3) h_x82 (iv_c (c := 3) (n := 3) (by decide)) q91 (by decide)
            refine lv_iload hx hb dX6_canSpoil_152 (lv_at hl 0 rfl) ?_
            refine lv_if_ne (tgt := 248) hx hb dX6_canSpoil_154 (by decide) (fun c93 => ?_) (fun c93 => ?_)
            · have q94 : ¬ x81.toInt = 0 := ti_ne c93
              have h95 : iv 1 1 x81 := ⟨by have := (h_x81).1; have := ((iv_c (c := 0) (n := 0) (by decide))).1; have := ((iv_c (c := 0) (n := 0) (by decide))).2; omega, by have := (h_x81).2; have := ((iv_c (c := 0) (n := 0) (by decide))).1; have := ((iv_c (c := 0) (n := 0) (by decide))).2; omega⟩
              refine lv_iload hx hb dX6_canSpoil_248 (lv_at hl 0 rfl) ?_
              exact tw_endz hx hb hr hlocks hK hT hS hQ (nar_b (iv_mono h95 (by decide) (by decide))) ((iv_mono h95 (by decide) (by decide))) dX6_canSpoil_250
            · have q96 : x81.toInt = 0 := ti_eq c93
              have h97 : iv 0 0 x81 := ⟨by have := (h_x81).1; have := ((iv_c (c := 0) (n := 0) (by decide))).1; omega, by have := (h_x81).2; have := ((iv_c (c := 0) (n := 0) (by decide))).2; omega⟩
              obtain ⟨sy0, sy1, hY0, hY1⟩ := hT.2.2.2.2
              refine va_getsN hx hb hY0 hS.1.2.2 hown (va_Nw.use rfl hK.2.2.1.2.2.2.2.2.2.2) (fun _ h => h) dX6_canSpoil_157 ?_
              refine lv_iload hx hb dX6_canSpoil_160 (lv_at hl 1 rfl) ?_
              refine va_ti hx hb hY1 hS.1.2.2 (iv_in h92 ⟨by decide, by decide⟩) rfl dX6_canSpoil_162 ?_
              refine tw_top (fun x99 => ?_)
              have h98 := iv_any x99
              refine lv_iconst (v := 1) hx hb dX6_canSpoil_163 (by decide) ?_
              refine lv_icmp_ne (tgt := 171) hx hb dX6_canSpoil_164 (by decide) (fun c100 => ?_) (fun c100 => ?_)
              · have q101 : ¬ x99.toInt = 1 := ti_ne c100
                refine lv_iconst (v := 0) hx hb dX6_canSpoil_171 (by decide) ?_
                refine lv_istore (lv' := [(8, .int 0), (6, .int x81), (7, .int x82), (5, .int x75), (4, .int x64), (3, .ref (base + b3)), (0, .ref (base + a0)), (1, .int a1), (2, .int a2)]) hx hb dX6_canSpoil_172 hl (by decide) rfl (fun ls hl => ?_)
                obtain ⟨sy0, sy1, hY0, hY1⟩ := hT.2.2.2.2
                refine va_getsN hx hb hY0 hS.1.2.2 hown (va_Nw.use rfl hK.2.2.1.2.2.2.2.2.2.2) (fun _ h => h) dX6_canSpoil_174 ?_
                refine lv_iload hx hb dX6_canSpoil_177 (lv_at hl 2 rfl) ?_
                refine va_ti hx hb hY1 hS.1.2.2 (iv_in h92 ⟨by decide, by decide⟩) rfl dX6_canSpoil_179 ?_
                refine tw_top (fun x103 => ?_)
                have h102 := iv_any x103
                refine lv_if_ne (tgt := 187) hx hb dX6_canSpoil_180 (by decide) (fun c104 => ?_) (fun c104 => ?_)
                · have q105 : ¬ x103.toInt = 0 := ti_ne c104
                  refine lv_iconst (v := 0) hx hb dX6_canSpoil_187 (by decide) ?_
                  refine lv_istore (lv' := [(9, .int 0), (8, .int 0), (6, .int x81), (7, .int x82), (5, .int x75), (4, .int x64), (3, .ref (base + b3)), (0, .ref (base + a0)), (1, .int a1), (2, .int a2)]) hx hb dX6_canSpoil_188 hl (by decide) rfl (fun ls hl => ?_)
                  refine lv_aload_n hx hb dX6_canSpoil_190 rfl (lv_at hl 6 rfl) ?_
                  refine lv_iconst (v := 0) hx hb dX6_canSpoil_191 (by decide) ?_
                  refine lv_aload_n hx hb dX6_canSpoil_192 rfl (lv_at hl 7 rfl) ?_
                  have k106 : R84 a0 2 = some b1 := (Fr.kp (k := 2) g87 hk_a0 rfl).trans k2
                  refine tw_getrk hx hb hW hown hK hS f_X6_13_6 hz_a0 hk_a0 (b := b1) k106 dX6_canSpoil_193 ?_
                  refine lv_iload_n hx hb dX6_canSpoil_196 rfl (lv_at hl 8 rfl) ?_
                  refine lv_iconst (v := 1) hx hb dX6_canSpoil_197 (by decide) ?_
                  refine tw_iadd (lo := 1) (hi := 3) hx hb h79 (iv_c (c := 1) (n := 1) (by decide)) ⟨by decide, by decide⟩ ⟨by decide, by decide⟩ dX6_canSpoil_198 (fun x109 e108 h107 => ?_)
                  have e108 : x109.toInt = a1.toInt + 1 := e108
                  refine tw_row hx hb hK hS hz_b1 hk_b1 hn_b1 h107 ⟨by decide, by decide⟩ dX6_canSpoil_199 (fun b110 k111 hz_b110 hk_b110 hn_b110 => ?_)
                  refine lv_iconst (v := 0) hx hb dX6_canSpoil_200 (by decide) ?_
                  refine lv_bipush (v := 10) hx hb dX6_canSpoil_201 (by decide) ?_
                  refine tw_copy hx hb (hml.trans hl.1.symm) hW hown hK hS (md_okc w_5_40 rfl (md_okc w_3_226 rfl (md_okc w_3_225 rfl (md_okc w_1_18 rfl (md_ok0))))) hz_b110 hk_b110 (Or.inr (by decide)) hz_b3 hk_b3 (Or.inr (by decide)) hn_b110 hn_b3 (by have := ((iv_c (c := 10) (n := 10) (by decide))).1; have := ((iv_c (c := 10) (n := 10) (by decide))).2; have := ((iv_c (c := 0) (n := 0) (by decide))).1; have := ((iv_c (c := 0) (n := 0) (by decide))).2; have := ((iv_c (c := 0) (n := 0) (by decide))).1; have := ((iv_c (c := 0) (n := 0) (by decide))).2; omega) (by have := ((iv_c (c := 10) (n := 10) (by decide))).1; have := ((iv_c (c := 10) (n := 10) (by decide))).2; have := ((iv_c (c := 0) (n := 0) (by decide))).1; have := ((iv_c (c := 0) (n := 0) (by decide))).2; have := ((iv_c (c := 0) (n := 0) (by decide))).1; have := ((iv_c (c := 0) (n := 0) (by decide))).2; omega) (by have := ((iv_c (c := 10) (n := 10) (by decide))).1; have := ((iv_c (c := 10) (n := 10) (by decide))).2; have := ((iv_c (c := 0) (n := 0) (by decide))).1; have := ((iv_c (c := 0) (n := 0) (by decide))).2; have := ((iv_c (c := 0) (n := 0) (by decide))).1; have := ((iv_c (c := 0) (n := 0) (by decide))).2; omega) (by have := ((iv_c (c := 10) (n := 10) (by decide))).1; have := ((iv_c (c := 10) (n := 10) (by decide))).2; have := ((iv_c (c := 0) (n := 0) (by decide))).1; have := ((iv_c (c := 0) (n := 0) (by decide))).2; have := ((iv_c (c := 0) (n := 0) (by decide))).1; have := ((iv_c (c := 0) (n := 0) (by decide))).2; omega) (by have := ((iv_c (c := 10) (n := 10) (by decide))).1; have := ((iv_c (c := 10) (n := 10) (by decide))).2; have := ((iv_c (c := 0) (n := 0) (by decide))).1; have := ((iv_c (c := 0) (n := 0) (by decide))).2; have := ((iv_c (c := 0) (n := 0) (by decide))).1; have := ((iv_c (c := 0) (n := 0) (by decide))).2; omega) (fun _ _ => ⟨by show (-2147483648 : Int) ≤ -2147483648; decide, by show (2147483647 : Int) ≤ 2147483647; decide⟩) (by simp only [md_rm]; omega) (Nat.le_trans (m := 40) (Nat.le_of_ble_eq_true rfl) (by simp only [md_rm]; omega)) rfl dX6_canSpoil_203 (fun H locs M114 hS f112 k113 => ?_)
                  refine lv_aload_n hx hb dX6_canSpoil_206 rfl (lv_at hl 7 rfl) ?_
                  have k115 : R84 a0 1 = some b5 := (Fr.kp (k := 1) g87 hk_a0 rfl).trans k6
                  refine tw_getrk hx hb hW hown hK hS f_X6_43_6 hz_a0 hk_a0 (b := b5) k115 dX6_canSpoil_207 ?_
                  refine lv_aload_n hx hb dX6_canSpoil_210 rfl (lv_at hl 7 rfl) ?_
                  have k116 : R84 a0 2 = some b1 := (Fr.kp (k := 2) g87 hk_a0 rfl).trans k2
                  refine tw_getrk hx hb hW hown hK hS f_X6_13_6 hz_a0 hk_a0 (b := b1) k116 dX6_canSpoil_211 ?_
                  refine lv_iload_n hx hb dX6_canSpoil_214 rfl (lv_at hl 8 rfl) ?_
                  refine lv_iconst (v := 1) hx hb dX6_canSpoil_215 (by decide) ?_
                  refine tw_iadd (lo := 1) (hi := 3) hx hb h79 (iv_c (c := 1) (n := 1) (by decide)) ⟨by decide, by decide⟩ ⟨by decide, by decide⟩ dX6_canSpoil_216 (fun x119 e118 h117 => ?_)
                  have e118 : x119.toInt = a1.toInt + 1 := e118
                  refine tw_row hx hb hK hS hz_b1 hk_b1 hn_b1 h117 ⟨by decide, by decide⟩ dX6_canSpoil_217 (fun b120 k121 hz_b120 hk_b120 hn_b120 => ?_)
                  refine lv_iload hx hb dX6_canSpoil_218 (lv_at hl 5 rfl) ?_
                  refine lv_iload hx hb dX6_canSpoil_220 (lv_at hl 1 rfl) ?_
                  refine lv_ior hx hb dX6_canSpoil_222 ?_
                  refine tw_top (fun x123 => ?_)
                  have h122 := iv_any x123
                  refine lv_iload hx hb dX6_canSpoil_223 (lv_at hl 4 rfl) ?_
                  refine lv_iload hx hb dX6_canSpoil_225 (lv_at hl 0 rfl) ?_
                  refine lv_ior hx hb dX6_canSpoil_227 ?_
                  refine tw_top (fun x125 => ?_)
                  have h124 := iv_any x125
                  refine tw_goi hS (md_runV (As := [.ref (base + b120), .int x123, .int x125]) (rest := []) hx hb hml hown hW hK hT hS.1 (t_X5_hold l D cy tx base Z K N M114 R84 J85 hS.2.1 b5 hz_b5 hk_b5 b120 hz_b120 hk_b120 hn_b120 x123 h122 x125 h124) s_X6_142 ⟨rfl, rfl, ⟨by simp only [md_rm]; omega, by simp only [md_rm]; omega⟩, ⟨Nat.le_of_ble_eq_true rfl, Nat.le_of_ble_eq_true rfl⟩⟩ hz_b5 hk_b5 (by decide) rfl rfl hl.1 rfl (Nat.le_of_ble_eq_true rfl) dX6_canSpoil_228) rfl rfl (fun x132 H locs M129 R130 J128 hS f126 g127 E131 => ?_)
                  have eR130 := Fr.nil g127 rfl
                  subst eR130
                  have h_x132 := E131
                  clear E131
                  refine lv_pop hx hb dX6_canSpoil_231 rfl ?_
                  refine lv_aload_n hx hb dX6_canSpoil_232 rfl (lv_at hl 7 rfl) ?_
                  refine lv_iload_n hx hb dX6_canSpoil_233 rfl (lv_at hl 8 rfl) ?_
                  refine lv_iconst (v := 1) hx hb dX6_canSpoil_234 (by decide) ?_
                  refine tw_iadd (lo := 1) (hi := 3) hx hb h79 (iv_c (c := 1) (n := 1) (by decide)) ⟨by decide, by decide⟩ ⟨by decide, by decide⟩ dX6_canSpoil_235 (fun x135 e134 h133 => ?_)
                  have e134 : x135.toInt = a1.toInt + 1 := e134
                  refine lv_iload_n hx hb dX6_canSpoil_236 rfl (lv_at hl 9 rfl) ?_
                  have k136 : M129 a0 13 = la := ((Fr.kp (k := 13) f126 hk_a0 rfl).trans ((Fr.kp (k := 13) f112 hk_a0 rfl).trans (Fr.kp (k := 13) f86 hk_a0 rfl))).trans k_la
                  have hm137 : 3 - x135.toInt < (d : Int) := by
                    have := (h79).1; have := (h79).2; have := (h_a2).1; have := (h_a2).2; have := (h80).1; have := (h80).2; have := (h107).1; have := (h107).2; have := (h117).1; have := (h117).2; have := (h133).1; have := (h133).2; omega
                  refine tw_goi hS (md_runV (As := [.int x135, .int a2]) (rest := []) hx hb hml hown hW hK hT hS.1 (ih M129 R84 J128 hS.2.1 a0 hz_a0 hk_a0 x135 (iv_mono h133 (by decide) (by decide)) a2 h_a2 la k136 (iv_mono h80 (by decide) (by decide)) hm137) s_X6_157 ⟨rfl, rfl, ⟨by simp only [md_rm]; omega, by simp only [md_rm]; omega⟩, ⟨Nat.le_of_ble_eq_true rfl, Nat.le_of_ble_eq_true rfl⟩⟩ hz_a0 hk_a0 (by decide) rfl rfl hl.1 rfl (Nat.le_of_ble_eq_true rfl) dX6_canSpoil_237) rfl rfl (fun x144 H locs M141 R142 J140 hS f138 g139 E143 => ?_)
                  have h_x144 := E143
                  clear E143
                  refine lv_istore (lv' := [(6, .int x144), (9, .int 0), (8, .int 0), (7, .int x82), (5, .int x75), (4, .int x64), (3, .ref (base + b3)), (0, .ref (base + a0)), (1, .int a1), (2, .int a2)]) hx hb dX6_canSpoil_240 hl (by decide) rfl (fun ls hl => ?_)
                  refine tw_iinc (lv' := fun x147 => [(7, .int x147), (6, .int x144), (9, .int 0), (8, .int 0), (5, .int x75), (4, .int x64), (3, .ref (base + b3)), (0, .ref (base + a0)), (1, .int a1), (2, .int a2)]) (lo := 1) (hi := 3) hx hb dX6_canSpoil_242 hl (k := 3) rfl h92 (by decide) ⟨by decide, by decide⟩ ⟨by decide, by decide⟩ (by decide) (fun _ => rfl) (fun x147 ls e146 h145 hl => ?_)
                  refine lv_goto (tgt := 143) hx hb dX6_canSpoil_245 (by decide) ?_
                  have hm148 : 3 - x147.toInt < (n_83 : Int) := by
                    have := (h79).1; have := (h79).2; have := (h_a2).1; have := (h_a2).2; have := (h80).1; have := (h80).2; have := (h145).1; have := (h145).2; have := (h92).1; have := (h92).2; omega
                  exact ih_83 x144 x147 M141 R142 J140 H locs _ h_x144 (iv_mono h145 (by decide) (by decide)) hm148 hS (lv_sub hl [1, 0, 4, 5, 6, 7, 8, 9] rfl)
                · have q149 : x103.toInt = 0 := ti_eq c104
                  have h150 : iv 0 0 x103 := ⟨by have := (h102).1; have := ((iv_c (c := 0) (n := 0) (by decide))).1; omega, by have := (h102).2; have := ((iv_c (c := 0) (n := 0) (by decide))).2; omega⟩
                  refine lv_iload_n hx hb dX6_canSpoil_183 rfl (lv_at hl 8 rfl) ?_
                  refine lv_goto (tgt := 188) hx hb dX6_canSpoil_184 (by decide) ?_
                  refine lv_istore (lv' := [(9, .int a2), (8, .int 0), (6, .int x81), (7, .int x82), (5, .int x75), (4, .int x64), (3, .ref (base + b3)), (0, .ref (base + a0)), (1, .int a1), (2, .int a2)]) hx hb dX6_canSpoil_188 hl (by decide) rfl (fun ls hl => ?_)
                  refine lv_aload_n hx hb dX6_canSpoil_190 rfl (lv_at hl 6 rfl) ?_
                  refine lv_iconst (v := 0) hx hb dX6_canSpoil_191 (by decide) ?_
                  refine lv_aload_n hx hb dX6_canSpoil_192 rfl (lv_at hl 7 rfl) ?_
                  have k151 : R84 a0 2 = some b1 := (Fr.kp (k := 2) g87 hk_a0 rfl).trans k2
                  refine tw_getrk hx hb hW hown hK hS f_X6_13_6 hz_a0 hk_a0 (b := b1) k151 dX6_canSpoil_193 ?_
                  refine lv_iload_n hx hb dX6_canSpoil_196 rfl (lv_at hl 8 rfl) ?_
                  refine lv_iconst (v := 1) hx hb dX6_canSpoil_197 (by decide) ?_
                  refine tw_iadd (lo := 1) (hi := 3) hx hb h79 (iv_c (c := 1) (n := 1) (by decide)) ⟨by decide, by decide⟩ ⟨by decide, by decide⟩ dX6_canSpoil_198 (fun x154 e153 h152 => ?_)
                  have e153 : x154.toInt = a1.toInt + 1 := e153
                  refine tw_row hx hb hK hS hz_b1 hk_b1 hn_b1 h152 ⟨by decide, by decide⟩ dX6_canSpoil_199 (fun b155 k156 hz_b155 hk_b155 hn_b155 => ?_)
                  refine lv_iconst (v := 0) hx hb dX6_canSpoil_200 (by decide) ?_
                  refine lv_bipush (v := 10) hx hb dX6_canSpoil_201 (by decide) ?_
                  refine tw_copy hx hb (hml.trans hl.1.symm) hW hown hK hS (md_okc w_5_40 rfl (md_okc w_3_226 rfl (md_okc w_3_225 rfl (md_okc w_1_18 rfl (md_ok0))))) hz_b155 hk_b155 (Or.inr (by decide)) hz_b3 hk_b3 (Or.inr (by decide)) hn_b155 hn_b3 (by have := ((iv_c (c := 10) (n := 10) (by decide))).1; have := ((iv_c (c := 10) (n := 10) (by decide))).2; have := ((iv_c (c := 0) (n := 0) (by decide))).1; have := ((iv_c (c := 0) (n := 0) (by decide))).2; have := ((iv_c (c := 0) (n := 0) (by decide))).1; have := ((iv_c (c := 0) (n := 0) (by decide))).2; omega) (by have := ((iv_c (c := 10) (n := 10) (by decide))).1; have := ((iv_c (c := 10) (n := 10) (by decide))).2; have := ((iv_c (c := 0) (n := 0) (by decide))).1; have := ((iv_c (c := 0) (n := 0) (by decide))).2; have := ((iv_c (c := 0) (n := 0) (by decide))).1; have := ((iv_c (c := 0) (n := 0) (by decide))).2; omega) (by have := ((iv_c (c := 10) (n := 10) (by decide))).1; have := ((iv_c (c := 10) (n := 10) (by decide))).2; have := ((iv_c (c := 0) (n := 0) (by decide))).1; have := ((iv_c (c := 0) (n := 0) (by decide))).2; have := ((iv_c (c := 0) (n := 0) (by decide))).1; have := ((iv_c (c := 0) (n := 0) (by decide))).2; omega) (by have := ((iv_c (c := 10) (n := 10) (by decide))).1; have := ((iv_c (c := 10) (n := 10) (by decide))).2; have := ((iv_c (c := 0) (n := 0) (by decide))).1; have := ((iv_c (c := 0) (n := 0) (by decide))).2; have := ((iv_c (c := 0) (n := 0) (by decide))).1; have := ((iv_c (c := 0) (n := 0) (by decide))).2; omega) (by have := ((iv_c (c := 10) (n := 10) (by decide))).1; have := ((iv_c (c := 10) (n := 10) (by decide))).2; have := ((iv_c (c := 0) (n := 0) (by decide))).1; have := ((iv_c (c := 0) (n := 0) (by decide))).2; have := ((iv_c (c := 0) (n := 0) (by decide))).1; have := ((iv_c (c := 0) (n := 0) (by decide))).2; omega) (fun _ _ => ⟨by show (-2147483648 : Int) ≤ -2147483648; decide, by show (2147483647 : Int) ≤ 2147483647; decide⟩) (by simp only [md_rm]; omega) (Nat.le_trans (m := 40) (Nat.le_of_ble_eq_true rfl) (by simp only [md_rm]; omega)) rfl dX6_canSpoil_203 (fun H locs M159 hS f157 k158 => ?_)
                  refine lv_aload_n hx hb dX6_canSpoil_206 rfl (lv_at hl 7 rfl) ?_
                  have k160 : R84 a0 1 = some b5 := (Fr.kp (k := 1) g87 hk_a0 rfl).trans k6
                  refine tw_getrk hx hb hW hown hK hS f_X6_43_6 hz_a0 hk_a0 (b := b5) k160 dX6_canSpoil_207 ?_
                  refine lv_aload_n hx hb dX6_canSpoil_210 rfl (lv_at hl 7 rfl) ?_
                  have k161 : R84 a0 2 = some b1 := (Fr.kp (k := 2) g87 hk_a0 rfl).trans k2
                  refine tw_getrk hx hb hW hown hK hS f_X6_13_6 hz_a0 hk_a0 (b := b1) k161 dX6_canSpoil_211 ?_
                  refine lv_iload_n hx hb dX6_canSpoil_214 rfl (lv_at hl 8 rfl) ?_
                  refine lv_iconst (v := 1) hx hb dX6_canSpoil_215 (by decide) ?_
                  refine tw_iadd (lo := 1) (hi := 3) hx hb h79 (iv_c (c := 1) (n := 1) (by decide)) ⟨by decide, by decide⟩ ⟨by decide, by decide⟩ dX6_canSpoil_216 (fun x164 e163 h162 => ?_)
                  have e163 : x164.toInt = a1.toInt + 1 := e163
                  refine tw_row hx hb hK hS hz_b1 hk_b1 hn_b1 h162 ⟨by decide, by decide⟩ dX6_canSpoil_217 (fun b165 k166 hz_b165 hk_b165 hn_b165 => ?_)
                  refine lv_iload hx hb dX6_canSpoil_218 (lv_at hl 5 rfl) ?_
                  refine lv_iload hx hb dX6_canSpoil_220 (lv_at hl 1 rfl) ?_
                  refine lv_ior hx hb dX6_canSpoil_222 ?_
                  refine tw_top (fun x168 => ?_)
                  have h167 := iv_any x168
                  refine lv_iload hx hb dX6_canSpoil_223 (lv_at hl 4 rfl) ?_
                  refine lv_iload hx hb dX6_canSpoil_225 (lv_at hl 0 rfl) ?_
                  refine lv_ior hx hb dX6_canSpoil_227 ?_
                  refine tw_top (fun x170 => ?_)
                  have h169 := iv_any x170
                  refine tw_goi hS (md_runV (As := [.ref (base + b165), .int x168, .int x170]) (rest := []) hx hb hml hown hW hK hT hS.1 (t_X5_hold l D cy tx base Z K N M159 R84 J85 hS.2.1 b5 hz_b5 hk_b5 b165 hz_b165 hk_b165 hn_b165 x168 h167 x170 h169) s_X6_142 ⟨rfl, rfl, ⟨by simp only [md_rm]; omega, by simp only [md_rm]; omega⟩, ⟨Nat.le_of_ble_eq_true rfl, Nat.le_of_ble_eq_true rfl⟩⟩ hz_b5 hk_b5 (by decide) rfl rfl hl.1 rfl (Nat.le_of_ble_eq_true rfl) dX6_canSpoil_228) rfl rfl (fun x177 H locs M174 R175 J173 hS f171 g172 E176 => ?_)
                  have eR175 := Fr.nil g172 rfl
                  subst eR175
                  have h_x177 := E176
                  clear E176
                  refine lv_pop hx hb dX6_canSpoil_231 rfl ?_
                  refine lv_aload_n hx hb dX6_canSpoil_232 rfl (lv_at hl 7 rfl) ?_
                  refine lv_iload_n hx hb dX6_canSpoil_233 rfl (lv_at hl 8 rfl) ?_
                  refine lv_iconst (v := 1) hx hb dX6_canSpoil_234 (by decide) ?_
                  refine tw_iadd (lo := 1) (hi := 3) hx hb h79 (iv_c (c := 1) (n := 1) (by decide)) ⟨by decide, by decide⟩ ⟨by decide, by decide⟩ dX6_canSpoil_235 (fun x180 e179 h178 => ?_)
                  have e179 : x180.toInt = a1.toInt + 1 := e179
                  refine lv_iload_n hx hb dX6_canSpoil_236 rfl (lv_at hl 9 rfl) ?_
                  have k181 : M174 a0 13 = la := ((Fr.kp (k := 13) f171 hk_a0 rfl).trans ((Fr.kp (k := 13) f157 hk_a0 rfl).trans (Fr.kp (k := 13) f86 hk_a0 rfl))).trans k_la
                  have hm182 : 3 - x180.toInt < (d : Int) := by
                    have := (h79).1; have := (h79).2; have := (h_a2).1; have := (h_a2).2; have := (h80).1; have := (h80).2; have := (h152).1; have := (h152).2; have := (h162).1; have := (h162).2; have := (h178).1; have := (h178).2; omega
                  refine tw_goi hS (md_runV (As := [.int x180, .int a2]) (rest := []) hx hb hml hown hW hK hT hS.1 (ih M174 R84 J173 hS.2.1 a0 hz_a0 hk_a0 x180 (iv_mono h178 (by decide) (by decide)) a2 h_a2 la k181 (iv_mono h80 (by decide) (by decide)) hm182) s_X6_157 ⟨rfl, rfl, ⟨by simp only [md_rm]; omega, by simp only [md_rm]; omega⟩, ⟨Nat.le_of_ble_eq_true rfl, Nat.le_of_ble_eq_true rfl⟩⟩ hz_a0 hk_a0 (by decide) rfl rfl hl.1 rfl (Nat.le_of_ble_eq_true rfl) dX6_canSpoil_237) rfl rfl (fun x189 H locs M186 R187 J185 hS f183 g184 E188 => ?_)
                  have h_x189 := E188
                  clear E188
                  refine lv_istore (lv' := [(6, .int x189), (9, .int a2), (8, .int 0), (7, .int x82), (5, .int x75), (4, .int x64), (3, .ref (base + b3)), (0, .ref (base + a0)), (1, .int a1), (2, .int a2)]) hx hb dX6_canSpoil_240 hl (by decide) rfl (fun ls hl => ?_)
                  refine tw_iinc (lv' := fun x192 => [(7, .int x192), (6, .int x189), (9, .int a2), (8, .int 0), (5, .int x75), (4, .int x64), (3, .ref (base + b3)), (0, .ref (base + a0)), (1, .int a1), (2, .int a2)]) (lo := 1) (hi := 3) hx hb dX6_canSpoil_242 hl (k := 3) rfl h92 (by decide) ⟨by decide, by decide⟩ ⟨by decide, by decide⟩ (by decide) (fun _ => rfl) (fun x192 ls e191 h190 hl => ?_)
                  refine lv_goto (tgt := 143) hx hb dX6_canSpoil_245 (by decide) ?_
                  have hm193 : 3 - x192.toInt < (n_83 : Int) := by
                    have := (h79).1; have := (h79).2; have := (h_a2).1; have := (h_a2).2; have := (h80).1; have := (h80).2; have := (h190).1; have := (h190).2; have := (h92).1; have := (h92).2; omega
                  exact ih_83 x189 x192 M186 R187 J185 H locs _ h_x189 (iv_mono h190 (by decide) (by decide)) hm193 hS (lv_sub hl [1, 0, 4, 5, 6, 7, 8, 9] rfl)
              · have q194 : x99.toInt = 1 := ti_eq c100
                have h195 : iv 1 1 x99 := ⟨by have := (h98).1; have := ((iv_c (c := 1) (n := 1) (by decide))).1; omega, by have := (h98).2; have := ((iv_c (c := 1) (n := 1) (by decide))).2; omega⟩
                refine lv_iload_n hx hb dX6_canSpoil_167 rfl (lv_at hl 7 rfl) ?_
                refine lv_goto (tgt := 172) hx hb dX6_canSpoil_168 (by decide) ?_
                refine lv_istore (lv' := [(8, .int a2), (6, .int x81), (7, .int x82), (5, .int x75), (4, .int x64), (3, .ref (base + b3)), (0, .ref (base + a0)), (1, .int a1), (2, .int a2)]) hx hb dX6_canSpoil_172 hl (by decide) rfl (fun ls hl => ?_)
                obtain ⟨sy0, sy1, hY0, hY1⟩ := hT.2.2.2.2
                refine va_getsN hx hb hY0 hS.1.2.2 hown (va_Nw.use rfl hK.2.2.1.2.2.2.2.2.2.2) (fun _ h => h) dX6_canSpoil_174 ?_
                refine lv_iload hx hb dX6_canSpoil_177 (lv_at hl 2 rfl) ?_
                refine va_ti hx hb hY1 hS.1.2.2 (iv_in h92 ⟨by decide, by decide⟩) rfl dX6_canSpoil_179 ?_
                refine tw_top (fun x197 => ?_)
                have h196 := iv_any x197
                refine lv_if_ne (tgt := 187) hx hb dX6_canSpoil_180 (by decide) (fun c198 => ?_) (fun c198 => ?_)
                · have q199 : ¬ x197.toInt = 0 := ti_ne c198
                  refine lv_iconst (v := 0) hx hb dX6_canSpoil_187 (by decide) ?_
                  refine lv_istore (lv' := [(9, .int 0), (8, .int a2), (6, .int x81), (7, .int x82), (5, .int x75), (4, .int x64), (3, .ref (base + b3)), (0, .ref (base + a0)), (1, .int a1), (2, .int a2)]) hx hb dX6_canSpoil_188 hl (by decide) rfl (fun ls hl => ?_)
                  refine lv_aload_n hx hb dX6_canSpoil_190 rfl (lv_at hl 6 rfl) ?_
                  refine lv_iconst (v := 0) hx hb dX6_canSpoil_191 (by decide) ?_
                  refine lv_aload_n hx hb dX6_canSpoil_192 rfl (lv_at hl 7 rfl) ?_
                  have k200 : R84 a0 2 = some b1 := (Fr.kp (k := 2) g87 hk_a0 rfl).trans k2
                  refine tw_getrk hx hb hW hown hK hS f_X6_13_6 hz_a0 hk_a0 (b := b1) k200 dX6_canSpoil_193 ?_
                  refine lv_iload_n hx hb dX6_canSpoil_196 rfl (lv_at hl 8 rfl) ?_
                  refine lv_iconst (v := 1) hx hb dX6_canSpoil_197 (by decide) ?_
                  refine tw_iadd (lo := 1) (hi := 3) hx hb h79 (iv_c (c := 1) (n := 1) (by decide)) ⟨by decide, by decide⟩ ⟨by decide, by decide⟩ dX6_canSpoil_198 (fun x203 e202 h201 => ?_)
                  have e202 : x203.toInt = a1.toInt + 1 := e202
                  refine tw_row hx hb hK hS hz_b1 hk_b1 hn_b1 h201 ⟨by decide, by decide⟩ dX6_canSpoil_199 (fun b204 k205 hz_b204 hk_b204 hn_b204 => ?_)
                  refine lv_iconst (v := 0) hx hb dX6_canSpoil_200 (by decide) ?_
                  refine lv_bipush (v := 10) hx hb dX6_canSpoil_201 (by decide) ?_
                  refine tw_copy hx hb (hml.trans hl.1.symm) hW hown hK hS (md_okc w_5_40 rfl (md_okc w_3_226 rfl (md_okc w_3_225 rfl (md_okc w_1_18 rfl (md_ok0))))) hz_b204 hk_b204 (Or.inr (by decide)) hz_b3 hk_b3 (Or.inr (by decide)) hn_b204 hn_b3 (by have := ((iv_c (c := 10) (n := 10) (by decide))).1; have := ((iv_c (c := 10) (n := 10) (by decide))).2; have := ((iv_c (c := 0) (n := 0) (by decide))).1; have := ((iv_c (c := 0) (n := 0) (by decide))).2; have := ((iv_c (c := 0) (n := 0) (by decide))).1; have := ((iv_c (c := 0) (n := 0) (by decide))).2; omega) (by have := ((iv_c (c := 10) (n := 10) (by decide))).1; have := ((iv_c (c := 10) (n := 10) (by decide))).2; have := ((iv_c (c := 0) (n := 0) (by decide))).1; have := ((iv_c (c := 0) (n := 0) (by decide))).2; have := ((iv_c (c := 0) (n := 0) (by decide))).1; have := ((iv_c (c := 0) (n := 0) (by decide))).2; omega) (by have := ((iv_c (c := 10) (n := 10) (by decide))).1; have := ((iv_c (c := 10) (n := 10) (by decide))).2; have := ((iv_c (c := 0) (n := 0) (by decide))).1; have := ((iv_c (c := 0) (n := 0) (by decide))).2; have := ((iv_c (c := 0) (n := 0) (by decide))).1; have := ((iv_c (c := 0) (n := 0) (by decide))).2; omega) (by have := ((iv_c (c := 10) (n := 10) (by decide))).1; have := ((iv_c (c := 10) (n := 10) (by decide))).2; have := ((iv_c (c := 0) (n := 0) (by decide))).1; have := ((iv_c (c := 0) (n := 0) (by decide))).2; have := ((iv_c (c := 0) (n := 0) (by decide))).1; have := ((iv_c (c := 0) (n := 0) (by decide))).2; omega) (by have := ((iv_c (c := 10) (n := 10) (by decide))).1; have := ((iv_c (c := 10) (n := 10) (by decide))).2; have := ((iv_c (c := 0) (n := 0) (by decide))).1; have := ((iv_c (c := 0) (n := 0) (by decide))).2; have := ((iv_c (c := 0) (n := 0) (by decide))).1; have := ((iv_c (c := 0) (n := 0) (by decide))).2; omega) (fun _ _ => ⟨by show (-2147483648 : Int) ≤ -2147483648; decide, by show (2147483647 : Int) ≤ 2147483647; decide⟩) (by simp only [md_rm]; omega) (Nat.le_trans (m := 40) (Nat.le_of_ble_eq_true rfl) (by simp only [md_rm]; omega)) rfl dX6_canSpoil_203 (fun H locs M208 hS f206 k207 => ?_)
                  refine lv_aload_n hx hb dX6_canSpoil_206 rfl (lv_at hl 7 rfl) ?_
                  have k209 : R84 a0 1 = some b5 := (Fr.kp (k := 1) g87 hk_a0 rfl).trans k6
                  refine tw_getrk hx hb hW hown hK hS f_X6_43_6 hz_a0 hk_a0 (b := b5) k209 dX6_canSpoil_207 ?_
                  refine lv_aload_n hx hb dX6_canSpoil_210 rfl (lv_at hl 7 rfl) ?_
                  have k210 : R84 a0 2 = some b1 := (Fr.kp (k := 2) g87 hk_a0 rfl).trans k2
                  refine tw_getrk hx hb hW hown hK hS f_X6_13_6 hz_a0 hk_a0 (b := b1) k210 dX6_canSpoil_211 ?_
                  refine lv_iload_n hx hb dX6_canSpoil_214 rfl (lv_at hl 8 rfl) ?_
                  refine lv_iconst (v := 1) hx hb dX6_canSpoil_215 (by decide) ?_
                  refine tw_iadd (lo := 1) (hi := 3) hx hb h79 (iv_c (c := 1) (n := 1) (by decide)) ⟨by decide, by decide⟩ ⟨by decide, by decide⟩ dX6_canSpoil_216 (fun x213 e212 h211 => ?_)
                  have e212 : x213.toInt = a1.toInt + 1 := e212
                  refine tw_row hx hb hK hS hz_b1 hk_b1 hn_b1 h211 ⟨by decide, by decide⟩ dX6_canSpoil_217 (fun b214 k215 hz_b214 hk_b214 hn_b214 => ?_)
                  refine lv_iload hx hb dX6_canSpoil_218 (lv_at hl 5 rfl) ?_
                  refine lv_iload hx hb dX6_canSpoil_220 (lv_at hl 1 rfl) ?_
                  refine lv_ior hx hb dX6_canSpoil_222 ?_
                  refine tw_top (fun x217 => ?_)
                  have h216 := iv_any x217
                  refine lv_iload hx hb dX6_canSpoil_223 (lv_at hl 4 rfl) ?_
                  refine lv_iload hx hb dX6_canSpoil_225 (lv_at hl 0 rfl) ?_
                  refine lv_ior hx hb dX6_canSpoil_227 ?_
                  refine tw_top (fun x219 => ?_)
                  have h218 := iv_any x219
                  refine tw_goi hS (md_runV (As := [.ref (base + b214), .int x217, .int x219]) (rest := []) hx hb hml hown hW hK hT hS.1 (t_X5_hold l D cy tx base Z K N M208 R84 J85 hS.2.1 b5 hz_b5 hk_b5 b214 hz_b214 hk_b214 hn_b214 x217 h216 x219 h218) s_X6_142 ⟨rfl, rfl, ⟨by simp only [md_rm]; omega, by simp only [md_rm]; omega⟩, ⟨Nat.le_of_ble_eq_true rfl, Nat.le_of_ble_eq_true rfl⟩⟩ hz_b5 hk_b5 (by decide) rfl rfl hl.1 rfl (Nat.le_of_ble_eq_true rfl) dX6_canSpoil_228) rfl rfl (fun x226 H locs M223 R224 J222 hS f220 g221 E225 => ?_)
                  have eR224 := Fr.nil g221 rfl
                  subst eR224
                  have h_x226 := E225
                  clear E225
                  refine lv_pop hx hb dX6_canSpoil_231 rfl ?_
                  refine lv_aload_n hx hb dX6_canSpoil_232 rfl (lv_at hl 7 rfl) ?_
                  refine lv_iload_n hx hb dX6_canSpoil_233 rfl (lv_at hl 8 rfl) ?_
                  refine lv_iconst (v := 1) hx hb dX6_canSpoil_234 (by decide) ?_
                  refine tw_iadd (lo := 1) (hi := 3) hx hb h79 (iv_c (c := 1) (n := 1) (by decide)) ⟨by decide, by decide⟩ ⟨by decide, by decide⟩ dX6_canSpoil_235 (fun x229 e228 h227 => ?_)
                  have e228 : x229.toInt = a1.toInt + 1 := e228
                  refine lv_iload_n hx hb dX6_canSpoil_236 rfl (lv_at hl 9 rfl) ?_
                  have k230 : M223 a0 13 = la := ((Fr.kp (k := 13) f220 hk_a0 rfl).trans ((Fr.kp (k := 13) f206 hk_a0 rfl).trans (Fr.kp (k := 13) f86 hk_a0 rfl))).trans k_la
                  have hm231 : 3 - x229.toInt < (d : Int) := by
                    have := (h79).1; have := (h79).2; have := (h_a2).1; have := (h_a2).2; have := (h80).1; have := (h80).2; have := (h201).1; have := (h201).2; have := (h211).1; have := (h211).2; have := (h227).1; have := (h227).2; omega
                  refine tw_goi hS (md_runV (As := [.int x229, .int a2]) (rest := []) hx hb hml hown hW hK hT hS.1 (ih M223 R84 J222 hS.2.1 a0 hz_a0 hk_a0 x229 (iv_mono h227 (by decide) (by decide)) a2 h_a2 la k230 (iv_mono h80 (by decide) (by decide)) hm231) s_X6_157 ⟨rfl, rfl, ⟨by simp only [md_rm]; omega, by simp only [md_rm]; omega⟩, ⟨Nat.le_of_ble_eq_true rfl, Nat.le_of_ble_eq_true rfl⟩⟩ hz_a0 hk_a0 (by decide) rfl rfl hl.1 rfl (Nat.le_of_ble_eq_true rfl) dX6_canSpoil_237) rfl rfl (fun x238 H locs M235 R236 J234 hS f232 g233 E237 => ?_)
                  have h_x238 := E237
                  clear E237
                  refine lv_istore (lv' := [(6, .int x238), (9, .int 0), (8, .int a2), (7, .int x82), (5, .int x75), (4, .int x64), (3, .ref (base + b3)), (0, .ref (base + a0)), (1, .int a1), (2, .int a2)]) hx hb dX6_canSpoil_240 hl (by decide) rfl (fun ls hl => ?_)
                  refine tw_iinc (lv' := fun x241 => [(7, .int x241), (6, .int x238), (9, .int 0), (8, .int a2), (5, .int x75), (4, .int x64), (3, .ref (base + b3)), (0, .ref (base + a0)), (1, .int a1), (2, .int a2)]) (lo := 1) (hi := 3) hx hb dX6_canSpoil_242 hl (k := 3) rfl h92 (by decide) ⟨by decide, by decide⟩ ⟨by decide, by decide⟩ (by decide) (fun _ => rfl) (fun x241 ls e240 h239 hl => ?_)
                  refine lv_goto (tgt := 143) hx hb dX6_canSpoil_245 (by decide) ?_
                  have hm242 : 3 - x241.toInt < (n_83 : Int) := by
                    have := (h79).1; have := (h79).2; have := (h_a2).1; have := (h_a2).2; have := (h80).1; have := (h80).2; have := (h239).1; have := (h239).2; have := (h92).1; have := (h92).2; omega
                  exact ih_83 x238 x241 M235 R236 J234 H locs _ h_x238 (iv_mono h239 (by decide) (by decide)) hm242 hS (lv_sub hl [1, 0, 4, 5, 6, 7, 8, 9] rfl)
                · have q243 : x197.toInt = 0 := ti_eq c198
                  have h244 : iv 0 0 x197 := ⟨by have := (h196).1; have := ((iv_c (c := 0) (n := 0) (by decide))).1; omega, by have := (h196).2; have := ((iv_c (c := 0) (n := 0) (by decide))).2; omega⟩
                  refine lv_iload_n hx hb dX6_canSpoil_183 rfl (lv_at hl 8 rfl) ?_
                  refine lv_goto (tgt := 188) hx hb dX6_canSpoil_184 (by decide) ?_
                  refine lv_istore (lv' := [(9, .int a2), (8, .int a2), (6, .int x81), (7, .int x82), (5, .int x75), (4, .int x64), (3, .ref (base + b3)), (0, .ref (base + a0)), (1, .int a1), (2, .int a2)]) hx hb dX6_canSpoil_188 hl (by decide) rfl (fun ls hl => ?_)
                  refine lv_aload_n hx hb dX6_canSpoil_190 rfl (lv_at hl 6 rfl) ?_
                  refine lv_iconst (v := 0) hx hb dX6_canSpoil_191 (by decide) ?_
                  refine lv_aload_n hx hb dX6_canSpoil_192 rfl (lv_at hl 7 rfl) ?_
                  have k245 : R84 a0 2 = some b1 := (Fr.kp (k := 2) g87 hk_a0 rfl).trans k2
                  refine tw_getrk hx hb hW hown hK hS f_X6_13_6 hz_a0 hk_a0 (b := b1) k245 dX6_canSpoil_193 ?_
                  refine lv_iload_n hx hb dX6_canSpoil_196 rfl (lv_at hl 8 rfl) ?_
                  refine lv_iconst (v := 1) hx hb dX6_canSpoil_197 (by decide) ?_
                  refine tw_iadd (lo := 1) (hi := 3) hx hb h79 (iv_c (c := 1) (n := 1) (by decide)) ⟨by decide, by decide⟩ ⟨by decide, by decide⟩ dX6_canSpoil_198 (fun x248 e247 h246 => ?_)
                  have e247 : x248.toInt = a1.toInt + 1 := e247
                  refine tw_row hx hb hK hS hz_b1 hk_b1 hn_b1 h246 ⟨by decide, by decide⟩ dX6_canSpoil_199 (fun b249 k250 hz_b249 hk_b249 hn_b249 => ?_)
                  refine lv_iconst (v := 0) hx hb dX6_canSpoil_200 (by decide) ?_
                  refine lv_bipush (v := 10) hx hb dX6_canSpoil_201 (by decide) ?_
                  refine tw_copy hx hb (hml.trans hl.1.symm) hW hown hK hS (md_okc w_5_40 rfl (md_okc w_3_226 rfl (md_okc w_3_225 rfl (md_okc w_1_18 rfl (md_ok0))))) hz_b249 hk_b249 (Or.inr (by decide)) hz_b3 hk_b3 (Or.inr (by decide)) hn_b249 hn_b3 (by have := ((iv_c (c := 10) (n := 10) (by decide))).1; have := ((iv_c (c := 10) (n := 10) (by decide))).2; have := ((iv_c (c := 0) (n := 0) (by decide))).1; have := ((iv_c (c := 0) (n := 0) (by decide))).2; have := ((iv_c (c := 0) (n := 0) (by decide))).1; have := ((iv_c (c := 0) (n := 0) (by decide))).2; omega) (by have := ((iv_c (c := 10) (n := 10) (by decide))).1; have := ((iv_c (c := 10) (n := 10) (by decide))).2; have := ((iv_c (c := 0) (n := 0) (by decide))).1; have := ((iv_c (c := 0) (n := 0) (by decide))).2; have := ((iv_c (c := 0) (n := 0) (by decide))).1; have := ((iv_c (c := 0) (n := 0) (by decide))).2; omega) (by have := ((iv_c (c := 10) (n := 10) (by decide))).1; have := ((iv_c (c := 10) (n := 10) (by decide))).2; have := ((iv_c (c := 0) (n := 0) (by decide))).1; have := ((iv_c (c := 0) (n := 0) (by decide))).2; have := ((iv_c (c := 0) (n := 0) (by decide))).1; have := ((iv_c (c := 0) (n := 0) (by decide))).2; omega) (by have := ((iv_c (c := 10) (n := 10) (by decide))).1; have := ((iv_c (c := 10) (n := 10) (by decide))).2; have := ((iv_c (c := 0) (n := 0) (by decide))).1; have := ((iv_c (c := 0) (n := 0) (by decide))).2; have := ((iv_c (c := 0) (n := 0) (by decide))).1; have := ((iv_c (c := 0) (n := 0) (by decide))).2; omega) (by have := ((iv_c (c := 10) (n := 10) (by decide))).1; have := ((iv_c (c := 10) (n := 10) (by decide))).2; have := ((iv_c (c := 0) (n := 0) (by decide))).1; have := ((iv_c (c := 0) (n := 0) (by decide))).2; have := ((iv_c (c := 0) (n := 0) (by decide))).1; have := ((iv_c (c := 0) (n := 0) (by decide))).2; omega) (fun _ _ => ⟨by show (-2147483648 : Int) ≤ -2147483648; decide, by show (2147483647 : Int) ≤ 2147483647; decide⟩) (by simp only [md_rm]; omega) (Nat.le_trans (m := 40) (Nat.le_of_ble_eq_true rfl) (by simp only [md_rm]; omega)) rfl dX6_canSpoil_203 (fun H locs M253 hS f251 k252 => ?_)
                  refine lv_aload_n hx hb dX6_canSpoil_206 rfl (lv_at hl 7 rfl) ?_
                  have k254 : R84 a0 1 = some b5 := (Fr.kp (k := 1) g87 hk_a0 rfl).trans k6
                  refine tw_getrk hx hb hW hown hK hS f_X6_43_6 hz_a0 hk_a0 (b := b5) k254 dX6_canSpoil_207 ?_
                  refine lv_aload_n hx hb dX6_canSpoil_210 rfl (lv_at hl 7 rfl) ?_
                  have k255 : R84 a0 2 = some b1 := (Fr.kp (k := 2) g87 hk_a0 rfl).trans k2
                  refine tw_getrk hx hb hW hown hK hS f_X6_13_6 hz_a0 hk_a0 (b := b1) k255 dX6_canSpoil_211 ?_
                  refine lv_iload_n hx hb dX6_canSpoil_214 rfl (lv_at hl 8 rfl) ?_
                  refine lv_iconst (v := 1) hx hb dX6_canSpoil_215 (by decide) ?_
                  refine tw_iadd (lo := 1) (hi := 3) hx hb h79 (iv_c (c := 1) (n := 1) (by decide)) ⟨by decide, by decide⟩ ⟨by decide, by decide⟩ dX6_canSpoil_216 (fun x258 e257 h256 => ?_)
                  have e257 : x258.toInt = a1.toInt + 1 := e257
                  refine tw_row hx hb hK hS hz_b1 hk_b1 hn_b1 h256 ⟨by decide, by decide⟩ dX6_canSpoil_217 (fun b259 k260 hz_b259 hk_b259 hn_b259 => ?_)
                  refine lv_iload hx hb dX6_canSpoil_218 (lv_at hl 5 rfl) ?_
                  refine lv_iload hx hb dX6_canSpoil_220 (lv_at hl 1 rfl) ?_
                  refine lv_ior hx hb dX6_canSpoil_222 ?_
                  refine tw_top (fun x262 => ?_)
                  have h261 := iv_any x262
                  refine lv_iload hx hb dX6_canSpoil_223 (lv_at hl 4 rfl) ?_
                  refine lv_iload hx hb dX6_canSpoil_225 (lv_at hl 0 rfl) ?_
                  refine lv_ior hx hb dX6_canSpoil_227 ?_
                  refine tw_top (fun x264 => ?_)
                  have h263 := iv_any x264
                  refine tw_goi hS (md_runV (As := [.ref (base + b259), .int x262, .int x264]) (rest := []) hx hb hml hown hW hK hT hS.1 (t_X5_hold l D cy tx base Z K N M253 R84 J85 hS.2.1 b5 hz_b5 hk_b5 b259 hz_b259 hk_b259 hn_b259 x262 h261 x264 h263) s_X6_142 ⟨rfl, rfl, ⟨by simp only [md_rm]; omega, by simp only [md_rm]; omega⟩, ⟨Nat.le_of_ble_eq_true rfl, Nat.le_of_ble_eq_true rfl⟩⟩ hz_b5 hk_b5 (by decide) rfl rfl hl.1 rfl (Nat.le_of_ble_eq_true rfl) dX6_canSpoil_228) rfl rfl (fun x271 H locs M268 R269 J267 hS f265 g266 E270 => ?_)
                  have eR269 := Fr.nil g266 rfl
                  subst eR269
                  have h_x271 := E270
                  clear E270
                  refine lv_pop hx hb dX6_canSpoil_231 rfl ?_
                  refine lv_aload_n hx hb dX6_canSpoil_232 rfl (lv_at hl 7 rfl) ?_
                  refine lv_iload_n hx hb dX6_canSpoil_233 rfl (lv_at hl 8 rfl) ?_
                  refine lv_iconst (v := 1) hx hb dX6_canSpoil_234 (by decide) ?_
                  refine tw_iadd (lo := 1) (hi := 3) hx hb h79 (iv_c (c := 1) (n := 1) (by decide)) ⟨by decide, by decide⟩ ⟨by decide, by decide⟩ dX6_canSpoil_235 (fun x274 e273 h272 => ?_)
                  have e273 : x274.toInt = a1.toInt + 1 := e273
                  refine lv_iload_n hx hb dX6_canSpoil_236 rfl (lv_at hl 9 rfl) ?_
                  have k275 : M268 a0 13 = la := ((Fr.kp (k := 13) f265 hk_a0 rfl).trans ((Fr.kp (k := 13) f251 hk_a0 rfl).trans (Fr.kp (k := 13) f86 hk_a0 rfl))).trans k_la
                  have hm276 : 3 - x274.toInt < (d : Int) := by
                    have := (h79).1; have := (h79).2; have := (h_a2).1; have := (h_a2).2; have := (h80).1; have := (h80).2; have := (h246).1; have := (h246).2; have := (h256).1; have := (h256).2; have := (h272).1; have := (h272).2; omega
                  refine tw_goi hS (md_runV (As := [.int x274, .int a2]) (rest := []) hx hb hml hown hW hK hT hS.1 (ih M268 R84 J267 hS.2.1 a0 hz_a0 hk_a0 x274 (iv_mono h272 (by decide) (by decide)) a2 h_a2 la k275 (iv_mono h80 (by decide) (by decide)) hm276) s_X6_157 ⟨rfl, rfl, ⟨by simp only [md_rm]; omega, by simp only [md_rm]; omega⟩, ⟨Nat.le_of_ble_eq_true rfl, Nat.le_of_ble_eq_true rfl⟩⟩ hz_a0 hk_a0 (by decide) rfl rfl hl.1 rfl (Nat.le_of_ble_eq_true rfl) dX6_canSpoil_237) rfl rfl (fun x283 H locs M280 R281 J279 hS f277 g278 E282 => ?_)
                  have h_x283 := E282
                  clear E282
                  refine lv_istore (lv' := [(6, .int x283), (9, .int a2), (8, .int a2), (7, .int x82), (5, .int x75), (4, .int x64), (3, .ref (base + b3)), (0, .ref (base + a0)), (1, .int a1), (2, .int a2)]) hx hb dX6_canSpoil_240 hl (by decide) rfl (fun ls hl => ?_)
                  refine tw_iinc (lv' := fun x286 => [(7, .int x286), (6, .int x283), (9, .int a2), (8, .int a2), (5, .int x75), (4, .int x64), (3, .ref (base + b3)), (0, .ref (base + a0)), (1, .int a1), (2, .int a2)]) (lo := 1) (hi := 3) hx hb dX6_canSpoil_242 hl (k := 3) rfl h92 (by decide) ⟨by decide, by decide⟩ ⟨by decide, by decide⟩ (by decide) (fun _ => rfl) (fun x286 ls e285 h284 hl => ?_)
                  refine lv_goto (tgt := 143) hx hb dX6_canSpoil_245 (by decide) ?_
                  have hm287 : 3 - x286.toInt < (n_83 : Int) := by
                    have := (h79).1; have := (h79).2; have := (h_a2).1; have := (h_a2).2; have := (h80).1; have := (h80).2; have := (h284).1; have := (h284).2; have := (h92).1; have := (h92).2; omega
                  exact ih_83 x283 x286 M280 R281 J279 H locs _ h_x283 (iv_mono h284 (by decide) (by decide)) hm287 hS (lv_sub hl [1, 0, 4, 5, 6, 7, 8, 9] rfl)
      have hm288 : 3 - (0 : Int32).toInt < (((4 : Nat) : Int) : Int) := by
        have := (h79).1; have := (h79).2; have := (h_a2).1; have := (h_a2).2; have := (h80).1; have := (h80).2; have : (0 : Int32).toInt = 0 := (by decide); omega
      exact W143_83 4 0 0 M46 R23 J45 H locs _ (iv_mono (iv_c (c := 0) (n := 0) (by decide)) (by decide) (by decide)) (iv_mono (iv_c (c := 0) (n := 0) (by decide)) (by decide) (by decide)) hm288 hS (lv_sub hl [1, 0, 2, 3, 4, 5, 6, 7] rfl)
    · have q289 : la.toInt ≤ a1.toInt := ti_nlt c77
      refine lv_aload_n hx hb dX6_canSpoil_114 rfl (lv_at hl 3 rfl) ?_
      have k290 : R23 a0 1 = some b5 := (Fr.kp (k := 1) g20 hk_a0 rfl).trans k6
      refine tw_getrk hx hb hW hown hK hS f_X6_43_6 hz_a0 hk_a0 (b := b5) k290 dX6_canSpoil_115 ?_
      refine lv_aload_n hx hb dX6_canSpoil_118 rfl (lv_at hl 2 rfl) ?_
      refine lv_iload hx hb dX6_canSpoil_119 (lv_at hl 1 rfl) ?_
      refine lv_iload hx hb dX6_canSpoil_121 (lv_at hl 0 rfl) ?_
      refine lv_iload_n hx hb dX6_canSpoil_123 rfl (lv_at hl 5 rfl) ?_
      refine lv_ior hx hb dX6_canSpoil_124 ?_
      refine tw_top (fun x292 => ?_)
      have h291 := iv_any x292
      refine tw_goi hS (md_runV (As := [.ref (base + b3), .int x64, .int x292]) (rest := []) hx hb hml hown hW hK hT hS.1 (t_X5_lead l D cy tx base Z K N M46 R23 J45 hS.2.1 b5 hz_b5 hk_b5 b3 hz_b3 hk_b3 hn_b3 x64 h63 x292 h291) s_X6_135 ⟨rfl, rfl, ⟨by simp only [md_rm]; omega, by simp only [md_rm]; omega⟩, ⟨Nat.le_of_ble_eq_true rfl, Nat.le_of_ble_eq_true rfl⟩⟩ hz_b5 hk_b5 (by decide) rfl rfl hl.1 rfl (Nat.le_of_ble_eq_true rfl) dX6_canSpoil_125) rfl rfl (fun x299 H locs M296 R297 J295 hS f293 g294 E298 => ?_)
      have eM296 := Fr.nil f293 rfl
      subst eM296
      have eR297 := Fr.nil g294 rfl
      subst eR297
      have h_x299 := E298
      clear E298
      refine lv_if_gt (tgt := 135) hx hb dX6_canSpoil_128 (by decide) (fun c300 => ?_) (fun c300 => ?_)
      · have q301 : 0 < x299.toInt := ti_lt c300
        have h302 : iv 1 2147483647 x299 := iv_gtL (y := 0) h_x299 (iv_c (c := 0) (n := 0) (by decide)) q301 (by decide)
        refine lv_iconst (v := 0) hx hb dX6_canSpoil_135 (by decide) ?_
        exact tw_endz hx hb hr hlocks hK hT hS hQ rfl ((iv_mono (iv_c (c := 0) (n := 0) (by decide)) (by decide) (by decide))) dX6_canSpoil_136
      · have q303 : x299.toInt ≤ 0 := ti_nlt c300
        have h304 : iv (-2147483648) 0 x299 := iv_leL (y := 0) h_x299 (iv_c (c := 0) (n := 0) (by decide)) q303 (by decide)
        refine lv_iconst (v := 1) hx hb dX6_canSpoil_131 (by decide) ?_
        refine lv_goto (tgt := 136) hx hb dX6_canSpoil_132 (by decide) ?_
        exact tw_endz hx hb hr hlocks hK hT hS hQ rfl ((iv_mono (iv_c (c := 1) (n := 1) (by decide)) (by decide) (by decide))) dX6_canSpoil_136
def Lt_X6_spoilingSet : WL := [(6, 2, 4), (6, 6, 15), (20, 0, 2000000)]
def LRt_X6_spoilingSet : WL := [(6, 4, 6)]
set_option maxRecDepth 100000 in
set_option maxHeartbeats 4000000 in
theorem t_X6_spoilingSet (l : Launch) (D : va_G) (cy : Nat → ClassId) (tx : (Nat → Nat) × (Nat → Nat)) (base Z : Nat) (K N : Nat → Nat) (Ma : MT) (Ra : RT) (Ja : JT) (hTy : Ty Z K N Ma Ra) (a0 : Nat) (hz_a0 : a0 < Z) (hk_a0 : K a0 = 7) (la : Int32) (k_la : Ma a0 13 = la) (h_la : iv 0 3 la) : Met l yX6_spoilingSet [Cond.code yX6_spoilingSet cX6_spoilingSet 4 (some .int)] (md_rm 14 0 0) (va_Pc [.ref (base + a0)] (md_U D cy tx base Z K N Ma Ra Ja)) (mQi D cy tx base (fun r u => TP Z K N Lt_X6_spoilingSet LRt_X6_spoilingSet Ma Ra u ∧ (iv (-2147483648) 2147483647 r))) 0 0 (fun q => base ≤ q) := by
  refine tw_ofW (L := Lt_X6_spoilingSet) (LR := LRt_X6_spoilingSet) (by decide) (Nat.le_of_ble_eq_true rfl) hTy ?_
  intro p e s m args below meth c Q ls hx hb hr hlocks hown hml hW hK hT hS hQ hl
  have hl : lv_has ls 4 [(0, .ref (base + a0))] := hl
  refine lv_iconst (v := 0) hx hb dX6_spoilingSet_0 (by decide) ?_
  refine lv_istore_n (lv' := [(1, .int 0), (0, .ref (base + a0))]) hx hb dX6_spoilingSet_1 rfl hl (by decide) rfl (fun ls hl => ?_)
  refine lv_iconst (v := 0) hx hb dX6_spoilingSet_2 (by decide) ?_
  refine lv_istore_n (lv' := [(2, .int 0), (1, .int 0), (0, .ref (base + a0))]) hx hb dX6_spoilingSet_3 rfl hl (by decide) rfl (fun ls hl => ?_)
  have W4_3 : ∀ (n_3 : Nat) (x1 : Int32) (x2 : Int32) (M3 : MT) (R4 : RT) (J5 : JT) (H : Heap) (locs : List Loc) (ls : Array Slot) (h_x1 : iv (-2147483648) 2147483647 x1) (h_x2 : iv 0 10 x2) (hm_3 : 10 - x2.toInt < (n_3 : Int)) (hS : SB D cy base Z K N Lt_X6_spoilingSet LRt_X6_spoilingSet Ma Ra M3 R4 J5 s H locs) (hl : lv_has ls 4 [(1, .int x1), (2, .int x2), (0, .ref (base + a0))]), W p l e (md_rm 14 0 0) s m args below meth c H locs 0 0 Q (F0 m 4 ls []) := by
    intro n_3
    induction n_3 with
    | zero =>
      intro x1 x2 M3 R4 J5 H locs ls h_x1 h_x2 hm_3 hS hl
      exfalso
      have := (h_la).1; have := (h_la).2; have := (h_x2).1; have := (h_x2).2; omega
    | succ n_3 ih_3 =>
      intro x1 x2 M3 R4 J5 H locs ls h_x1 h_x2 hm_3 hS hl
      have f6 := hS.2.2.1
      have g7 := hS.2.2.2
      refine lv_iload_n hx hb dX6_spoilingSet_4 rfl (lv_at hl 1 rfl) ?_
      refine lv_aload_n hx hb dX6_spoilingSet_5 rfl (lv_at hl 2 rfl) ?_
      refine tw_getr hx hb hW hown hK hS f_X6_39_6 hz_a0 hk_a0 (t := 10) (n := 0) rfl dX6_spoilingSet_6 (fun b8 k9 hz_b8 hk_b8 hn_b8 => ?_)
      refine tw_geti hx hb hW hown hK hS f_X6_93_9 hz_b8 hk_b8 (lo := (-2147483648)) (hi := 10) rfl dX6_spoilingSet_9 (fun x12 k11 h10 => ?_)
      refine lv_icmp_ge (tgt := 57) hx hb dX6_spoilingSet_12 (by decide) (fun c13 => ?_) (fun c13 => ?_)
      · have q14 : x12.toInt ≤ x2.toInt := ti_le c13
        refine lv_iload_n hx hb dX6_spoilingSet_57 rfl (lv_at hl 0 rfl) ?_
        exact tw_endi hx hb hr hlocks hK hT hS hQ (h_x1) dX6_spoilingSet_58
      · have q15 : x2.toInt < x12.toInt := ti_nle c13
        have h16 : iv 0 9 x2 := iv_ltL (y := x12) h_x2 h10 q15 (by decide)
        have h17 : iv 1 10 x12 := iv_gtL (y := x2) h10 h_x2 q15 (by decide)
        refine lv_iconst (v := 1) hx hb dX6_spoilingSet_15 (by decide) ?_
        refine lv_iload_n hx hb dX6_spoilingSet_16 rfl (lv_at hl 1 rfl) ?_
        refine lv_ishl hx hb dX6_spoilingSet_17 ?_
        refine tw_top (fun x19 => ?_)
        have h18 := iv_any x19
        refine lv_istore_n (lv' := [(3, .int x19), (1, .int x1), (2, .int x2), (0, .ref (base + a0))]) hx hb dX6_spoilingSet_18 rfl hl (by decide) rfl (fun ls hl => ?_)
        refine lv_aload_n hx hb dX6_spoilingSet_19 rfl (lv_at hl 3 rfl) ?_
        refine tw_getrk hx hb hW hown hK hS f_X6_39_6 hz_a0 hk_a0 (b := b8) k9 dX6_spoilingSet_20 ?_
        refine tw_geti hx hb hW hown hK hS f_X6_123_9 hz_b8 hk_b8 (lo := (-2147483648)) (hi := 2147483647) rfl dX6_spoilingSet_23 (fun x22 k21 h20 => ?_)
        refine lv_aload_n hx hb dX6_spoilingSet_26 rfl (lv_at hl 3 rfl) ?_
        refine tw_geti hx hb hW hown hK hS f_X6_47_6 hz_a0 hk_a0 (lo := (-2147483648)) (hi := 2147483647) rfl dX6_spoilingSet_27 (fun x25 k24 h23 => ?_)
        refine lv_iconst (v := (-1)) hx hb dX6_spoilingSet_30 (by decide) ?_
        refine lv_ixor hx hb dX6_spoilingSet_31 ?_
        refine tw_top (fun x27 => ?_)
        have h26 := iv_any x27
        refine lv_iand hx hb dX6_spoilingSet_32 ?_
        refine tw_top (fun x29 => ?_)
        have h28 := iv_any x29
        refine lv_iload_n hx hb dX6_spoilingSet_33 rfl (lv_at hl 0 rfl) ?_
        refine lv_iand hx hb dX6_spoilingSet_34 ?_
        refine tw_top (fun x31 => ?_)
        have h30 := iv_any x31
        refine lv_if_eq (tgt := 51) hx hb dX6_spoilingSet_35 (by decide) (fun c32 => ?_) (fun c32 => ?_)
        · have q33 : x31.toInt = 0 := ti_eq c32
          have h34 : iv 0 0 x31 := ⟨by have := (h30).1; have := ((iv_c (c := 0) (n := 0) (by decide))).1; omega, by have := (h30).2; have := ((iv_c (c := 0) (n := 0) (by decide))).2; omega⟩
          refine tw_iinc (lv' := fun x37 => [(2, .int x37), (3, .int x19), (1, .int x1), (0, .ref (base + a0))]) (lo := 1) (hi := 10) hx hb dX6_spoilingSet_51 hl (k := 2) rfl h16 (by decide) ⟨by decide, by decide⟩ ⟨by decide, by decide⟩ (by decide) (fun _ => rfl) (fun x37 ls e36 h35 hl => ?_)
          refine lv_goto (tgt := 4) hx hb dX6_spoilingSet_54 (by decide) ?_
          have hm38 : 10 - x37.toInt < (n_3 : Int) := by
            have := (h_la).1; have := (h_la).2; have := (h16).1; have := (h16).2; have := (h35).1; have := (h35).2; omega
          exact ih_3 x1 x37 M3 R4 J5 H locs _ h_x1 (iv_mono h35 (by decide) (by decide)) hm38 hS (lv_sub hl [2, 0, 3] rfl)
        · have q39 : ¬ x31.toInt = 0 := ti_ne c32
          refine lv_aload_n hx hb dX6_spoilingSet_38 rfl (lv_at hl 3 rfl) ?_
          refine lv_iconst (v := 0) hx hb dX6_spoilingSet_39 (by decide) ?_
          refine lv_iload_n hx hb dX6_spoilingSet_40 rfl (lv_at hl 0 rfl) ?_
          have k40 : M3 a0 13 = la := (Fr.kp (k := 13) f6 hk_a0 rfl).trans k_la
          have hm41 : 3 - (0 : Int32).toInt < (((4 : Nat) : Int) : Int) := by
            have := (h_la).1; have := (h_la).2; have : (0 : Int32).toInt = 0 := (by decide); omega
          refine tw_goi hS (md_runV (As := [.int 0, .int x19]) (rest := []) hx hb hml hown hW hK hT hS.1 (t_X6_canSpoil l D cy tx base Z K N 4 M3 R4 J5 hS.2.1 a0 hz_a0 hk_a0 0 (iv_mono (iv_c (c := 0) (n := 0) (by decide)) (by decide) (by decide)) x19 h18 la k40 (iv_mono h_la (by decide) (by decide)) hm41) s_X6_157 ⟨rfl, rfl, ⟨by simp only [md_rm]; omega, by simp only [md_rm]; omega⟩, ⟨Nat.le_of_ble_eq_true rfl, Nat.le_of_ble_eq_true rfl⟩⟩ hz_a0 hk_a0 (by decide) rfl rfl hl.1 rfl (Nat.le_of_ble_eq_true rfl) dX6_spoilingSet_41) rfl rfl (fun x48 H locs M45 R46 J44 hS f42 g43 E47 => ?_)
          have h_x48 := E47
          clear E47
          refine lv_if_eq (tgt := 51) hx hb dX6_spoilingSet_44 (by decide) (fun c49 => ?_) (fun c49 => ?_)
          · have q50 : x48.toInt = 0 := ti_eq c49
            have h51 : iv 0 0 x48 := ⟨by have := (h_x48).1; have := ((iv_c (c := 0) (n := 0) (by decide))).1; omega, by have := (h_x48).2; have := ((iv_c (c := 0) (n := 0) (by decide))).2; omega⟩
            refine tw_iinc (lv' := fun x54 => [(2, .int x54), (3, .int x19), (1, .int x1), (0, .ref (base + a0))]) (lo := 1) (hi := 10) hx hb dX6_spoilingSet_51 hl (k := 2) rfl h16 (by decide) ⟨by decide, by decide⟩ ⟨by decide, by decide⟩ (by decide) (fun _ => rfl) (fun x54 ls e53 h52 hl => ?_)
            refine lv_goto (tgt := 4) hx hb dX6_spoilingSet_54 (by decide) ?_
            have hm55 : 10 - x54.toInt < (n_3 : Int) := by
              have := (h_la).1; have := (h_la).2; have := (h16).1; have := (h16).2; have := (h52).1; have := (h52).2; omega
            exact ih_3 x1 x54 M45 R46 J44 H locs _ h_x1 (iv_mono h52 (by decide) (by decide)) hm55 hS (lv_sub hl [2, 0, 3] rfl)
          · have q56 : ¬ x48.toInt = 0 := ti_ne c49
            have h57 : iv 1 1 x48 := ⟨by have := (h_x48).1; have := ((iv_c (c := 0) (n := 0) (by decide))).1; have := ((iv_c (c := 0) (n := 0) (by decide))).2; omega, by have := (h_x48).2; have := ((iv_c (c := 0) (n := 0) (by decide))).1; have := ((iv_c (c := 0) (n := 0) (by decide))).2; omega⟩
            refine lv_iload_n hx hb dX6_spoilingSet_47 rfl (lv_at hl 1 rfl) ?_
            refine lv_iload_n hx hb dX6_spoilingSet_48 rfl (lv_at hl 0 rfl) ?_
            refine lv_ior hx hb dX6_spoilingSet_49 ?_
            refine tw_top (fun x59 => ?_)
            have h58 := iv_any x59
            refine lv_istore_n (lv' := [(1, .int x59), (3, .int x19), (2, .int x2), (0, .ref (base + a0))]) hx hb dX6_spoilingSet_50 rfl hl (by decide) rfl (fun ls hl => ?_)
            refine tw_iinc (lv' := fun x62 => [(2, .int x62), (1, .int x59), (3, .int x19), (0, .ref (base + a0))]) (lo := 1) (hi := 10) hx hb dX6_spoilingSet_51 hl (k := 2) rfl h16 (by decide) ⟨by decide, by decide⟩ ⟨by decide, by decide⟩ (by decide) (fun _ => rfl) (fun x62 ls e61 h60 hl => ?_)
            refine lv_goto (tgt := 4) hx hb dX6_spoilingSet_54 (by decide) ?_
            have hm63 : 10 - x62.toInt < (n_3 : Int) := by
              have := (h_la).1; have := (h_la).2; have := (h16).1; have := (h16).2; have := (h60).1; have := (h60).2; omega
            exact ih_3 x59 x62 M45 R46 J44 H locs _ h58 (iv_mono h60 (by decide) (by decide)) hm63 hS (lv_sub hl [1, 0, 3] rfl)
  have hm64 : 10 - (0 : Int32).toInt < (((11 : Nat) : Int) : Int) := by
    have := (h_la).1; have := (h_la).2; have : (0 : Int32).toInt = 0 := (by decide); omega
  exact W4_3 11 0 0 Ma Ra Ja s.heap [] _ (iv_mono (iv_c (c := 0) (n := 0) (by decide)) (by decide) (by decide)) (iv_mono (iv_c (c := 0) (n := 0) (by decide)) (by decide) (by decide)) hm64 hS (lv_sub hl [1, 0, 2] rfl)
def Lt_X11_spoilers : WL := [(6, 2, 4), (6, 6, 15), (7, 10, 15), (14, 0, 2000000), (20, 0, 2000000), (22, 0, 2000000)]
def LRt_X11_spoilers : WL := [(6, 4, 6)]
set_option maxRecDepth 100000 in
set_option maxHeartbeats 4000000 in
theorem t_X11_spoilers (l : Launch) (D : va_G) (cy : Nat → ClassId) (tx : (Nat → Nat) × (Nat → Nat)) (base Z : Nat) (K N : Nat → Nat) (Ma : MT) (Ra : RT) (Ja : JT) (hTy : Ty Z K N Ma Ra) (a0 : Nat) (hz_a0 : a0 < Z) (hk_a0 : K a0 = 11) (a1 : Int32) (h_a1 : iv (-2147483648) 2147483647 a1) (st : Nat) (k_st : Ra a0 3 = some st) (pl : Nat) (k_pl : Ra a0 11 = some pl) (hw : Ra pl 0 = some st) : Met l yX11_spoilers [Cond.code yX11_spoilers cX11_spoilers 2 (some .int)] (md_rm 15 0 0) (va_Pc [.ref (base + a0), .int a1] (md_U D cy tx base Z K N Ma Ra Ja)) (mQi D cy tx base (fun r u => TP Z K N Lt_X11_spoilers LRt_X11_spoilers Ma Ra u ∧ (iv (-2147483648) 2147483647 r))) 0 0 (fun q => base ≤ q) := by
  refine tw_ofW (L := Lt_X11_spoilers) (LR := LRt_X11_spoilers) (by decide) (Nat.le_of_ble_eq_true rfl) hTy ?_
  intro p e s m args below meth c Q ls hx hb hr hlocks hown hml hW hK hT hS hQ hl
  have hl : lv_has ls 2 [(0, .ref (base + a0)), (1, .int a1)] := hl
  obtain ⟨hz_st, hk_st, hn_st⟩ := hTy.refn hz_a0 hk_a0 (show rtR 11 3 = (10, 0, 0) from rfl) k_st
  obtain ⟨hz_pl, hk_pl, hn_pl⟩ := hTy.refn hz_a0 hk_a0 (show rtR 11 11 = (7, 0, 0) from rfl) k_pl
  refine lv_aload_n hx hb dX11_spoilers_0 rfl (lv_at hl 0 rfl) ?_
  refine lv_iload_n hx hb dX11_spoilers_1 rfl (lv_at hl 1 rfl) ?_
  obtain ⟨x3, k1⟩ : ∃ x, Ma st 7 = x := ⟨_, rfl⟩
  have h2 : iv 0 8 x3 := by rw [← k1]; exact hS.2.1.int hz_st hk_st (show rgI 10 7 = (0, 8) from rfl)
  refine tw_goi hS (md_runV (As := [.int a1]) (rest := []) hx hb hml hown hW hK hT hS.1 (t_X11_mayThrow l D cy tx base Z K N Ma Ra Ja hS.2.1 a0 hz_a0 hk_a0 a1 h_a1 st k_st x3 k1 (iv_mono h2 (by decide) (by decide))) s_X11_226 ⟨rfl, rfl, ⟨Nat.le_of_ble_eq_true rfl, Nat.le_of_ble_eq_true rfl⟩, ⟨Nat.le_of_ble_eq_true rfl, Nat.le_of_ble_eq_true rfl⟩⟩ hz_a0 hk_a0 (by decide) rfl rfl hl.1 rfl (Nat.le_of_ble_eq_true rfl) dX11_spoilers_2) rfl rfl (fun x10 H locs M7 R8 J6 hS f4 g5 E9 => ?_)
  have eM7 := Fr.nil f4 rfl
  subst eM7
  have eR8 := Fr.nil g5 rfl
  subst eR8
  obtain ⟨h_x10, p11⟩ := E9
  refine lv_if_ne (tgt := 10) hx hb dX11_spoilers_5 (by decide) (fun c12 => ?_) (fun c12 => ?_)
  · have q13 : ¬ x10.toInt = 0 := ti_ne c12
    have h14 : iv 1 1 x10 := ⟨by have := (h_x10).1; have := ((iv_c (c := 0) (n := 0) (by decide))).1; have := ((iv_c (c := 0) (n := 0) (by decide))).2; omega, by have := (h_x10).2; have := ((iv_c (c := 0) (n := 0) (by decide))).1; have := ((iv_c (c := 0) (n := 0) (by decide))).2; omega⟩
    have h15 : iv 1 4 x3 := ⟨by have := (p11 c12).1; have := (h2).1; omega, by have := (p11 c12).2; have := (h2).2; omega⟩
    refine lv_aload_n hx hb dX11_spoilers_10 rfl (lv_at hl 0 rfl) ?_
    refine tw_getrk hx hb hW hown hK hS f_X11_69_10 hz_a0 hk_a0 (b := pl) k_pl dX11_spoilers_11 ?_
    refine lv_iload_n hx hb dX11_spoilers_14 rfl (lv_at hl 1 rfl) ?_
    refine tw_goi hS (md_runV (As := [.int a1]) (rest := []) hx hb hml hown hW hK hT hS.1 (t_X6_search l D cy tx base Z K N Ma Ra J6 hS.2.1 pl hz_pl hk_pl a1 h_a1 st hw x3 k1 (iv_mono h15 (by decide) (by decide))) s_X11_229 ⟨rfl, rfl, ⟨Nat.le_of_ble_eq_true rfl, Nat.le_of_ble_eq_true rfl⟩, ⟨Nat.le_of_ble_eq_true rfl, Nat.le_of_ble_eq_true rfl⟩⟩ hz_pl hk_pl (by decide) rfl rfl hl.1 rfl (Nat.le_of_ble_eq_true rfl) dX11_spoilers_15) rfl rfl (fun x22 H locs M19 R20 J18 hS f16 g17 E21 => ?_)
    obtain ⟨h_x22, p23⟩ := E21
    obtain ⟨x26, k24, h25⟩ := p23
    have k24 : M19 pl 13 = x26 := k24
    refine lv_if_eq (tgt := 31) hx hb dX11_spoilers_18 (by decide) (fun c27 => ?_) (fun c27 => ?_)
    · have q28 : x22.toInt = 0 := ti_eq c27
      have h29 : iv 0 0 x22 := ⟨by have := (h_x22).1; have := ((iv_c (c := 0) (n := 0) (by decide))).1; omega, by have := (h_x22).2; have := ((iv_c (c := 0) (n := 0) (by decide))).2; omega⟩
      refine lv_bipush (v := (-2)) hx hb dX11_spoilers_31 (by decide) ?_
      exact tw_endi hx hb hr hlocks hK hT hS hQ ((iv_mono (iv_c (c := (-2)) (n := (-2)) (by decide)) (by decide) (by decide))) dX11_spoilers_33
    · have q30 : ¬ x22.toInt = 0 := ti_ne c27
      have h31 : iv 1 1 x22 := ⟨by have := (h_x22).1; have := ((iv_c (c := 0) (n := 0) (by decide))).1; have := ((iv_c (c := 0) (n := 0) (by decide))).2; omega, by have := (h_x22).2; have := ((iv_c (c := 0) (n := 0) (by decide))).1; have := ((iv_c (c := 0) (n := 0) (by decide))).2; omega⟩
      refine lv_aload_n hx hb dX11_spoilers_21 rfl (lv_at hl 0 rfl) ?_
      have k32 : R20 a0 11 = some pl := (Fr.kp (k := 11) g17 hk_a0 rfl).trans k_pl
      refine tw_getrk hx hb hW hown hK hS f_X11_69_10 hz_a0 hk_a0 (b := pl) k32 dX11_spoilers_22 ?_
      refine tw_goi hS (md_runV (As := []) (rest := []) hx hb hml hown hW hK hT hS.1 (t_X6_spoilingSet l D cy tx base Z K N M19 R20 J18 hS.2.1 pl hz_pl hk_pl x26 k24 (iv_mono h25 (by decide) (by decide))) s_X11_238 ⟨rfl, rfl, ⟨Nat.le_of_ble_eq_true rfl, Nat.le_of_ble_eq_true rfl⟩, ⟨Nat.le_of_ble_eq_true rfl, Nat.le_of_ble_eq_true rfl⟩⟩ hz_pl hk_pl (by decide) rfl rfl hl.1 rfl (Nat.le_of_ble_eq_true rfl) dX11_spoilers_25) rfl rfl (fun x39 H locs M36 R37 J35 hS f33 g34 E38 => ?_)
      have h_x39 := E38
      clear E38
      refine lv_goto (tgt := 33) hx hb dX11_spoilers_28 (by decide) ?_
      exact tw_endi hx hb hr hlocks hK hT hS hQ (h_x39) dX11_spoilers_33
  · have q40 : x10.toInt = 0 := ti_eq c12
    have h41 : iv 0 0 x10 := ⟨by have := (h_x10).1; have := ((iv_c (c := 0) (n := 0) (by decide))).1; omega, by have := (h_x10).2; have := ((iv_c (c := 0) (n := 0) (by decide))).2; omega⟩
    refine lv_iconst (v := (-1)) hx hb dX11_spoilers_8 (by decide) ?_
    exact tw_endi hx hb hr hlocks hK hT hS hQ ((iv_mono (iv_c (c := (-1)) (n := (-1)) (by decide)) (by decide) (by decide))) dX11_spoilers_9
def Lt_X11_status : WL := []
def LRt_X11_status : WL := []
set_option maxRecDepth 100000 in
set_option maxHeartbeats 4000000 in
theorem t_X11_status (l : Launch) (D : va_G) (cy : Nat → ClassId) (tx : (Nat → Nat) × (Nat → Nat)) (base Z : Nat) (K N : Nat → Nat) (Ma : MT) (Ra : RT) (Ja : JT) (hTy : Ty Z K N Ma Ra) (a0 : Nat) (hz_a0 : a0 < Z) (hk_a0 : K a0 = 11) (a1 : Int32) (h_a1 : iv (-2147483648) 2147483647 a1) : Met l yX11_status [Cond.code yX11_status cX11_status 2 (some .int)] (md_rm 1 0 0) (va_Pc [.ref (base + a0), .int a1] (md_U D cy tx base Z K N Ma Ra Ja)) (mQi D cy tx base (fun r u => TP Z K N Lt_X11_status LRt_X11_status Ma Ra u ∧ (iv (-2147483648) 2147483647 r))) 0 0 (fun q => base ≤ q) := by
  refine tw_ofW (L := Lt_X11_status) (LR := LRt_X11_status) (by decide) (Nat.le_of_ble_eq_true rfl) hTy ?_
  intro p e s m args below meth c Q ls hx hb hr hlocks hown hml hW hK hT hS hQ hl
  have hl : lv_has ls 2 [(0, .ref (base + a0)), (1, .int a1)] := hl
  refine lv_iload_n hx hb dX11_status_0 rfl (lv_at hl 1 rfl) ?_
  refine lv_if_lt (tgt := 22) hx hb dX11_status_1 (by decide) (fun c1 => ?_) (fun c1 => ?_)
  · have q2 : a1.toInt < 0 := ti_lt c1
    have h3 : iv (-2147483648) (-1) a1 := iv_ltL (y := 0) h_a1 (iv_c (c := 0) (n := 0) (by decide)) q2 (by decide)
    refine lv_iconst (v := (-1)) hx hb dX11_status_22 (by decide) ?_
    exact tw_endi hx hb hr hlocks hK hT hS hQ ((iv_mono (iv_c (c := (-1)) (n := (-1)) (by decide)) (by decide) (by decide))) dX11_status_23
  · have q4 : 0 ≤ a1.toInt := ti_nlt c1
    have h5 : iv 0 2147483647 a1 := iv_geL (y := 0) h_a1 (iv_c (c := 0) (n := 0) (by decide)) q4 (by decide)
    refine lv_iload_n hx hb dX11_status_4 rfl (lv_at hl 1 rfl) ?_
    refine lv_aload_n hx hb dX11_status_5 rfl (lv_at hl 0 rfl) ?_
    refine tw_getr hx hb hW hown hK hS f_X11_13_10 hz_a0 hk_a0 (t := 14) (n := 2) rfl dX11_status_6 (fun b6 k7 hz_b6 hk_b6 hn_b6 => ?_)
    have hn_b6 := hn_b6 (by decide)
    refine tw_alenk hx hb hK hS hz_b6 hk_b6 (by decide) hn_b6 (v := 2) (by decide) dX11_status_9 ?_
    refine lv_icmp_ge (tgt := 22) hx hb dX11_status_10 (by decide) (fun c8 => ?_) (fun c8 => ?_)
    · have q9 : 2 ≤ a1.toInt := ti_le c8
      have h10 : iv 2 2147483647 a1 := iv_geL (y := 2) h5 (iv_c (c := 2) (n := 2) (by decide)) q9 (by decide)
      refine lv_iconst (v := (-1)) hx hb dX11_status_22 (by decide) ?_
      exact tw_endi hx hb hr hlocks hK hT hS hQ ((iv_mono (iv_c (c := (-1)) (n := (-1)) (by decide)) (by decide) (by decide))) dX11_status_23
    · have q11 : a1.toInt < 2 := ti_nle c8
      have h12 : iv 0 1 a1 := iv_ltL (y := 2) h5 (iv_c (c := 2) (n := 2) (by decide)) q11 (by decide)
      refine lv_aload_n hx hb dX11_status_13 rfl (lv_at hl 0 rfl) ?_
      refine tw_getrk hx hb hW hown hK hS f_X11_13_10 hz_a0 hk_a0 (b := b6) k7 dX11_status_14 ?_
      refine lv_iload_n hx hb dX11_status_17 rfl (lv_at hl 1 rfl) ?_
      refine tw_iald hx hb hK hS hz_b6 hk_b6 (Or.inl rfl) hn_b6 (lo := (-2147483648)) (hi := 2147483647) h12 ⟨by decide, by decide⟩ rg_u14 dX11_status_18 (fun x15 k14 h13 => ?_)
      refine lv_goto (tgt := 23) hx hb dX11_status_19 (by decide) ?_
      exact tw_endi hx hb hr hlocks hK hT hS hQ (h13) dX11_status_23
def Lt_X11_voice : WL := []
def LRt_X11_voice : WL := []
set_option maxRecDepth 100000 in
set_option maxHeartbeats 4000000 in
theorem t_X11_voice (l : Launch) (D : va_G) (cy : Nat → ClassId) (tx : (Nat → Nat) × (Nat → Nat)) (base Z : Nat) (K N : Nat → Nat) (Ma : MT) (Ra : RT) (Ja : JT) (hTy : Ty Z K N Ma Ra) (a0 : Nat) (hz_a0 : a0 < Z) (hk_a0 : K a0 = 11) (a1 : Int32) (h_a1 : iv (-2147483648) 2147483647 a1) (a2 : Int32) (h_a2 : iv (-2147483648) 2147483647 a2) : Met l yX11_voice [Cond.code yX11_voice cX11_voice 3 (some .int)] (md_rm 2 0 0) (va_Pc [.ref (base + a0), .int a1, .int a2] (md_U D cy tx base Z K N Ma Ra Ja)) (mQi D cy tx base (fun r u => TP Z K N Lt_X11_voice LRt_X11_voice Ma Ra u ∧ (iv (-2147483648) 2147483647 r))) 0 0 (fun q => base ≤ q) := by
  refine tw_ofW (L := Lt_X11_voice) (LR := LRt_X11_voice) (by decide) (Nat.le_of_ble_eq_true rfl) hTy ?_
  intro p e s m args below meth c Q ls hx hb hr hlocks hown hml hW hK hT hS hQ hl
  have hl : lv_has ls 3 [(0, .ref (base + a0)), (1, .int a1), (2, .int a2)] := hl
  refine lv_aload_n hx hb dX11_voice_0 rfl (lv_at hl 0 rfl) ?_
  refine tw_getr hx hb hW hown hK hS f_X11_31_10 hz_a0 hk_a0 (t := 10) (n := 0) rfl dX11_voice_1 (fun b1 k2 hz_b1 hk_b1 hn_b1 => ?_)
  refine lv_iload_n hx hb dX11_voice_4 rfl (lv_at hl 1 rfl) ?_
  refine tw_goi hS (md_runV (As := [.int a1]) (rest := []) hx hb hml hown hW hK hT hS.1 (t_X9_hasMember l D cy tx base Z K N Ma Ra Ja hS.2.1 b1 hz_b1 hk_b1 a1 h_a1) s_X11_132 ⟨rfl, rfl, ⟨Nat.le_of_ble_eq_true rfl, Nat.le_of_ble_eq_true rfl⟩, ⟨Nat.le_of_ble_eq_true rfl, Nat.le_of_ble_eq_true rfl⟩⟩ hz_b1 hk_b1 (by decide) rfl rfl hl.1 rfl (Nat.le_of_ble_eq_true rfl) dX11_voice_5) rfl rfl (fun x9 H locs M6 R7 J5 hS f3 g4 E8 => ?_)
  have eM6 := Fr.nil f3 rfl
  subst eM6
  have eR7 := Fr.nil g4 rfl
  subst eR7
  obtain ⟨h_x9, p10⟩ := E8
  refine lv_if_ne (tgt := 13) hx hb dX11_voice_8 (by decide) (fun c11 => ?_) (fun c11 => ?_)
  · have q12 : ¬ x9.toInt = 0 := ti_ne c11
    have h13 : iv 1 1 x9 := ⟨by have := (h_x9).1; have := ((iv_c (c := 0) (n := 0) (by decide))).1; have := ((iv_c (c := 0) (n := 0) (by decide))).2; omega, by have := (h_x9).2; have := ((iv_c (c := 0) (n := 0) (by decide))).1; have := ((iv_c (c := 0) (n := 0) (by decide))).2; omega⟩
    have h14 : iv 0 9 a1 := ⟨by have := (p10 c11).1; have := (h_a1).1; omega, by have := (p10 c11).2; have := (h_a1).2; omega⟩
    refine lv_iload_n hx hb dX11_voice_13 rfl (lv_at hl 2 rfl) ?_
    by_cases c15 : a2 = 0
    · subst c15
      refine lv_tableIn (off := 34) (tgt := 48) hx hb dX11_voice_14 (by decide) (by decide) rfl (by decide) ?_
      refine lv_aload_n hx hb dX11_voice_48 rfl (lv_at hl 0 rfl) ?_
      refine tw_getrk hx hb hW hown hK hS f_X11_31_10 hz_a0 hk_a0 (b := b1) k2 dX11_voice_49 ?_
      refine tw_getr hx hb hW hown hK hS f_X11_136_9 hz_b1 hk_b1 (t := 20) (n := 10) rfl dX11_voice_52 (fun b16 k17 hz_b16 hk_b16 hn_b16 => ?_)
      have hn_b16 := hn_b16 (by decide)
      refine lv_iload_n hx hb dX11_voice_55 rfl (lv_at hl 1 rfl) ?_
      refine tw_iald hx hb hK hS hz_b16 hk_b16 (Or.inr (by decide)) hn_b16 (lo := (-2147483648)) (hi := 2147483647) h14 ⟨by decide, by decide⟩ rg_u20 dX11_voice_56 (fun x20 k19 h18 => ?_)
      exact tw_endi hx hb hr hlocks hK hT hS hQ (h18) dX11_voice_57
    have q21 : ¬ a2.toInt = 0 := ti_ne c15
    by_cases c22 : a2 = 1
    · subst c22
      refine lv_tableIn (off := 44) (tgt := 58) hx hb dX11_voice_14 (by decide) (by decide) rfl (by decide) ?_
      refine lv_aload_n hx hb dX11_voice_58 rfl (lv_at hl 0 rfl) ?_
      refine tw_getrk hx hb hW hown hK hS f_X11_31_10 hz_a0 hk_a0 (b := b1) k2 dX11_voice_59 ?_
      refine tw_getr hx hb hW hown hK hS f_X11_139_9 hz_b1 hk_b1 (t := 14) (n := 10) rfl dX11_voice_62 (fun b23 k24 hz_b23 hk_b23 hn_b23 => ?_)
      have hn_b23 := hn_b23 (by decide)
      refine lv_iload_n hx hb dX11_voice_65 rfl (lv_at hl 1 rfl) ?_
      refine tw_iald hx hb hK hS hz_b23 hk_b23 (Or.inl rfl) hn_b23 (lo := (-2147483648)) (hi := 2147483647) h14 ⟨by decide, by decide⟩ rg_u14 dX11_voice_66 (fun x27 k26 h25 => ?_)
      exact tw_endi hx hb hr hlocks hK hT hS hQ (h25) dX11_voice_67
    have q28 : ¬ a2.toInt = 1 := ti_ne c22
    by_cases c29 : a2 = 2
    · subst c29
      refine lv_tableIn (off := 54) (tgt := 68) hx hb dX11_voice_14 (by decide) (by decide) rfl (by decide) ?_
      refine lv_aload_n hx hb dX11_voice_68 rfl (lv_at hl 0 rfl) ?_
      refine tw_getrk hx hb hW hown hK hS f_X11_31_10 hz_a0 hk_a0 (b := b1) k2 dX11_voice_69 ?_
      refine tw_geti hx hb hW hown hK hS f_X11_142_9 hz_b1 hk_b1 (lo := (-2147483648)) (hi := 2147483647) rfl dX11_voice_72 (fun x32 k31 h30 => ?_)
      refine lv_iload_n hx hb dX11_voice_75 rfl (lv_at hl 1 rfl) ?_
      refine lv_ishr hx hb dX11_voice_76 ?_
      refine tw_top (fun x34 => ?_)
      have h33 := iv_any x34
      refine lv_iconst (v := 1) hx hb dX11_voice_77 (by decide) ?_
      refine tw_iand (hi := 1) hx hb (iv_mono (iv_c (c := 1) (n := 1) (by decide)) (lo := 0) (hi := 1) (by decide) (by decide)) (by decide) dX11_voice_78 (fun x37 h35 => ?_)
      exact tw_endi hx hb hr hlocks hK hT hS hQ ((iv_mono h35 (by decide) (by decide))) dX11_voice_79
    have q38 : ¬ a2.toInt = 2 := ti_ne c29
    by_cases c39 : a2 = 3
    · subst c39
      refine lv_tableIn (off := 66) (tgt := 80) hx hb dX11_voice_14 (by decide) (by decide) rfl (by decide) ?_
      refine lv_aload_n hx hb dX11_voice_80 rfl (lv_at hl 0 rfl) ?_
      refine tw_getrk hx hb hW hown hK hS f_X11_31_10 hz_a0 hk_a0 (b := b1) k2 dX11_voice_81 ?_
      refine tw_getr hx hb hW hown hK hS f_X11_145_9 hz_b1 hk_b1 (t := 14) (n := 10) rfl dX11_voice_84 (fun b40 k41 hz_b40 hk_b40 hn_b40 => ?_)
      have hn_b40 := hn_b40 (by decide)
      refine lv_iload_n hx hb dX11_voice_87 rfl (lv_at hl 1 rfl) ?_
      refine tw_iald hx hb hK hS hz_b40 hk_b40 (Or.inl rfl) hn_b40 (lo := (-2147483648)) (hi := 2147483647) h14 ⟨by decide, by decide⟩ rg_u14 dX11_voice_88 (fun x44 k43 h42 => ?_)
      exact tw_endi hx hb hr hlocks hK hT hS hQ (h42) dX11_voice_89
    have q45 : ¬ a2.toInt = 3 := ti_ne c39
    by_cases c46 : a2 = 4
    · subst c46
      refine lv_tableIn (off := 76) (tgt := 90) hx hb dX11_voice_14 (by decide) (by decide) rfl (by decide) ?_
      refine lv_aload_n hx hb dX11_voice_90 rfl (lv_at hl 0 rfl) ?_
      refine tw_getrk hx hb hW hown hK hS f_X11_31_10 hz_a0 hk_a0 (b := b1) k2 dX11_voice_91 ?_
      refine tw_getr hx hb hW hown hK hS f_X11_148_9 hz_b1 hk_b1 (t := 14) (n := 10) rfl dX11_voice_94 (fun b47 k48 hz_b47 hk_b47 hn_b47 => ?_)
      have hn_b47 := hn_b47 (by decide)
      refine lv_iload_n hx hb dX11_voice_97 rfl (lv_at hl 1 rfl) ?_
      refine tw_iald hx hb hK hS hz_b47 hk_b47 (Or.inl rfl) hn_b47 (lo := (-2147483648)) (hi := 2147483647) h14 ⟨by decide, by decide⟩ rg_u14 dX11_voice_98 (fun x51 k50 h49 => ?_)
      exact tw_endi hx hb hr hlocks hK hT hS hQ (h49) dX11_voice_99
    have q52 : ¬ a2.toInt = 4 := ti_ne c46
    refine lv_tableOut (tgt := 100) hx hb dX11_voice_14 (by have := (h_a2).1; have := (h_a2).2; omega) (by decide) ?_
    refine lv_iconst (v := (-1)) hx hb dX11_voice_100 (by decide) ?_
    exact tw_endi hx hb hr hlocks hK hT hS hQ ((iv_mono (iv_c (c := (-1)) (n := (-1)) (by decide)) (by decide) (by decide))) dX11_voice_101
  · have q53 : x9.toInt = 0 := ti_eq c11
    have h54 : iv 0 0 x9 := ⟨by have := (h_x9).1; have := ((iv_c (c := 0) (n := 0) (by decide))).1; omega, by have := (h_x9).2; have := ((iv_c (c := 0) (n := 0) (by decide))).2; omega⟩
    refine lv_iconst (v := (-1)) hx hb dX11_voice_11 (by decide) ?_
    exact tw_endi hx hb hr hlocks hK hT hS hQ ((iv_mono (iv_c (c := (-1)) (n := (-1)) (by decide)) (by decide) (by decide))) dX11_voice_12
def Lt_X11_vote : WL := [(6, 2, 4), (6, 6, 15), (10, 3, 4), (14, 0, 2000000), (20, 0, 2000000)]
def LRt_X11_vote : WL := [(6, 4, 5)]
set_option maxRecDepth 100000 in
set_option maxHeartbeats 4000000 in
theorem t_X11_vote (l : Launch) (D : va_G) (cy : Nat → ClassId) (tx : (Nat → Nat) × (Nat → Nat)) (base Z : Nat) (K N : Nat → Nat) (Ma : MT) (Ra : RT) (Ja : JT) (hTy : Ty Z K N Ma Ra) (a0 : Nat) (hz_a0 : a0 < Z) (hk_a0 : K a0 = 11) (a1 : Int32) (h_a1 : iv (-2147483648) 2147483647 a1) : Met l yX11_vote [Cond.code yX11_vote cX11_vote 2 (some .int)] (md_rm 5 0 0) (va_Pc [.ref (base + a0), .int a1] (md_U D cy tx base Z K N Ma Ra Ja)) (mQi D cy tx base (fun r u => TP Z K N Lt_X11_vote LRt_X11_vote Ma Ra u ∧ (iv (-2) 2 r))) 0 0 (fun q => base ≤ q) := by
  refine tw_ofW (L := Lt_X11_vote) (LR := LRt_X11_vote) (by decide) (Nat.le_of_ble_eq_true rfl) hTy ?_
  intro p e s m args below meth c Q ls hx hb hr hlocks hown hml hW hK hT hS hQ hl
  have hl : lv_has ls 2 [(0, .ref (base + a0)), (1, .int a1)] := hl
  refine lv_aload_n hx hb dX11_vote_0 rfl (lv_at hl 0 rfl) ?_
  refine tw_getr hx hb hW hown hK hS f_X11_31_10 hz_a0 hk_a0 (t := 10) (n := 0) rfl dX11_vote_1 (fun b1 k2 hz_b1 hk_b1 hn_b1 => ?_)
  refine lv_iload_n hx hb dX11_vote_4 rfl (lv_at hl 1 rfl) ?_
  refine tw_goi hS (md_runV (As := [.int a1]) (rest := []) hx hb hml hown hW hK hT hS.1 (t_X9_hasPoint l D cy tx base Z K N Ma Ra Ja hS.2.1 b1 hz_b1 hk_b1 a1 h_a1) s_X11_151 ⟨rfl, rfl, ⟨Nat.le_of_ble_eq_true rfl, Nat.le_of_ble_eq_true rfl⟩, ⟨Nat.le_of_ble_eq_true rfl, Nat.le_of_ble_eq_true rfl⟩⟩ hz_b1 hk_b1 (by decide) rfl rfl hl.1 rfl (Nat.le_of_ble_eq_true rfl) dX11_vote_5) rfl rfl (fun x9 H locs M6 R7 J5 hS f3 g4 E8 => ?_)
  have eM6 := Fr.nil f3 rfl
  subst eM6
  have eR7 := Fr.nil g4 rfl
  subst eR7
  obtain ⟨h_x9, p10⟩ := E8
  refine lv_if_ne (tgt := 17) hx hb dX11_vote_8 (by decide) (fun c11 => ?_) (fun c11 => ?_)
  · have q12 : ¬ x9.toInt = 0 := ti_ne c11
    have h13 : iv 1 1 x9 := ⟨by have := (h_x9).1; have := ((iv_c (c := 0) (n := 0) (by decide))).1; have := ((iv_c (c := 0) (n := 0) (by decide))).2; omega, by have := (h_x9).2; have := ((iv_c (c := 0) (n := 0) (by decide))).1; have := ((iv_c (c := 0) (n := 0) (by decide))).2; omega⟩
    have h14 : iv 0 11 a1 := ⟨by have := (p10 c11).1; have := (h_a1).1; omega, by have := (p10 c11).2; have := (h_a1).2; omega⟩
    refine lv_aload_n hx hb dX11_vote_17 rfl (lv_at hl 0 rfl) ?_
    refine tw_getr hx hb hW hown hK hS f_X11_39_10 hz_a0 hk_a0 (t := 6) (n := 0) rfl dX11_vote_18 (fun b15 k16 hz_b15 hk_b15 hn_b15 => ?_)
    refine lv_iload_n hx hb dX11_vote_21 rfl (lv_at hl 1 rfl) ?_
    refine lv_aload_n hx hb dX11_vote_22 rfl (lv_at hl 0 rfl) ?_
    refine tw_getrk hx hb hW hown hK hS f_X11_31_10 hz_a0 hk_a0 (b := b1) k2 dX11_vote_23 ?_
    refine tw_getr hx hb hW hown hK hS f_X11_136_9 hz_b1 hk_b1 (t := 20) (n := 10) rfl dX11_vote_26 (fun b17 k18 hz_b17 hk_b17 hn_b17 => ?_)
    have hn_b17 := hn_b17 (by decide)
    refine lv_aload_n hx hb dX11_vote_29 rfl (lv_at hl 0 rfl) ?_
    refine tw_getrk hx hb hW hown hK hS f_X11_31_10 hz_a0 hk_a0 (b := b1) k2 dX11_vote_30 ?_
    refine tw_geti hx hb hW hown hK hS f_X11_180_9 hz_b1 hk_b1 (lo := (-2147483648)) (hi := 2147483647) rfl dX11_vote_33 (fun x21 k20 h19 => ?_)
    refine tw_gov hS (md_runV (As := [.int a1, .ref (base + b17), .int x21]) (rest := []) hx hb hml hown hW hK hT hS.1 (t_X5_bringAlone l D cy tx base Z K N Ma Ra J5 hS.2.1 b15 hz_b15 hk_b15 a1 h14 b17 hz_b17 hk_b17 hn_b17 x21 h19) s_X11_183 ⟨rfl, rfl, ⟨Nat.le_of_ble_eq_true rfl, Nat.le_of_ble_eq_true rfl⟩, ⟨Nat.le_of_ble_eq_true rfl, Nat.le_of_ble_eq_true rfl⟩⟩ hz_b15 hk_b15 (by decide) rfl rfl hl.1 rfl (Nat.le_of_ble_eq_true rfl) dX11_vote_36) rfl rfl (fun H locs M25 R26 J24 hS f22 g23 E27 => ?_)
    have p28 := E27
    clear E27
    have k29 : RowOK N M25 R26 b15 := p28
    refine lv_aload_n hx hb dX11_vote_39 rfl (lv_at hl 0 rfl) ?_
    have k30 : R26 a0 9 = some b15 := (Fr.kp (k := 9) g23 hk_a0 rfl).trans k16
    refine tw_getrk hx hb hW hown hK hS f_X11_39_10 hz_a0 hk_a0 (b := b15) k30 dX11_vote_40 ?_
    refine lv_aload_n hx hb dX11_vote_43 rfl (lv_at hl 0 rfl) ?_
    have k31 : R26 a0 3 = some b1 := (Fr.kp (k := 3) g23 hk_a0 rfl).trans k2
    refine tw_getrk hx hb hW hown hK hS f_X11_31_10 hz_a0 hk_a0 (b := b1) k31 dX11_vote_44 ?_
    refine tw_geti hx hb hW hown hK hS f_X11_142_9 hz_b1 hk_b1 (lo := (-2147483648)) (hi := 2147483647) rfl dX11_vote_47 (fun x34 k33 h32 => ?_)
    refine tw_gov hS (md_runV (As := [.int x34]) (rest := []) hx hb hml hown hW hK hT hS.1 (t_X5_ask l D cy tx base Z K N M25 R26 J24 hS.2.1 b15 hz_b15 hk_b15 x34 h32 k29) s_X11_187 ⟨rfl, rfl, ⟨Nat.le_of_ble_eq_true rfl, Nat.le_of_ble_eq_true rfl⟩, ⟨Nat.le_of_ble_eq_true rfl, Nat.le_of_ble_eq_true rfl⟩⟩ hz_b15 hk_b15 (by decide) rfl rfl hl.1 rfl (Nat.le_of_ble_eq_true rfl) dX11_vote_50) rfl rfl (fun H locs M38 R39 J37 hS f35 g36 E40 => ?_)
    have eR39 := Fr.nil g36 rfl
    subst eR39
    refine lv_aload_n hx hb dX11_vote_53 rfl (lv_at hl 0 rfl) ?_
    have k41 : R26 a0 9 = some b15 := (Fr.kp (k := 9) g23 hk_a0 rfl).trans k16
    refine tw_getrk hx hb hW hown hK hS f_X11_39_10 hz_a0 hk_a0 (b := b15) k41 dX11_vote_54 ?_
    refine lv_aload_n hx hb dX11_vote_57 rfl (lv_at hl 0 rfl) ?_
    have k42 : R26 a0 9 = some b15 := (Fr.kp (k := 9) g23 hk_a0 rfl).trans k16
    refine tw_getrk hx hb hW hown hK hS f_X11_39_10 hz_a0 hk_a0 (b := b15) k42 dX11_vote_58 ?_
    refine tw_geti hx hb hW hown hK hS f_X11_190_5 hz_b15 hk_b15 (lo := (-2147483648)) (hi := 2147483647) rfl dX11_vote_61 (fun x45 k44 h43 => ?_)
    refine lv_aload_n hx hb dX11_vote_64 rfl (lv_at hl 0 rfl) ?_
    have k46 : R26 a0 9 = some b15 := (Fr.kp (k := 9) g23 hk_a0 rfl).trans k16
    refine tw_getrk hx hb hW hown hK hS f_X11_39_10 hz_a0 hk_a0 (b := b15) k46 dX11_vote_65 ?_
    refine tw_geti hx hb hW hown hK hS f_X11_193_5 hz_b15 hk_b15 (lo := (-2147483648)) (hi := 2147483647) rfl dX11_vote_68 (fun x49 k48 h47 => ?_)
    refine tw_goi hS (md_runV (As := [.int x45, .int x49]) (rest := []) hx hb hml hown hW hK hT hS.1 (t_X5_holdForGood l D cy tx base Z K N M38 R26 J37 hS.2.1 b15 hz_b15 hk_b15 x45 h43 x49 h47) s_X11_196 ⟨rfl, rfl, ⟨Nat.le_of_ble_eq_true rfl, Nat.le_of_ble_eq_true rfl⟩, ⟨Nat.le_of_ble_eq_true rfl, Nat.le_of_ble_eq_true rfl⟩⟩ hz_b15 hk_b15 (by decide) rfl rfl hl.1 rfl (Nat.le_of_ble_eq_true rfl) dX11_vote_71) rfl rfl (fun x56 H locs M53 R54 J52 hS f50 g51 E55 => ?_)
    have eR54 := Fr.nil g51 rfl
    subst eR54
    have h_x56 := E55
    clear E55
    exact tw_endi hx hb hr hlocks hK hT hS hQ ((iv_mono h_x56 (by decide) (by decide))) dX11_vote_74
  · have q57 : x9.toInt = 0 := ti_eq c11
    have h58 : iv 0 0 x9 := ⟨by have := (h_x9).1; have := ((iv_c (c := 0) (n := 0) (by decide))).1; omega, by have := (h_x9).2; have := ((iv_c (c := 0) (n := 0) (by decide))).2; omega⟩
    refine lv_aload_n hx hb dX11_vote_11 rfl (lv_at hl 0 rfl) ?_
    refine lv_iconst (v := 0) hx hb dX11_vote_12 (by decide) ?_
    refine tw_goi hS (md_runV (As := [.int 0]) (rest := []) hx hb hml hown hW hK hT hS.1 (t_X11_refuse l D cy tx base Z K N Ma Ra J5 hS.2.1 a0 hz_a0 hk_a0 0 (iv_mono (iv_c (c := 0) (n := 0) (by decide)) (by decide) (by decide))) s_X11_158 ⟨rfl, rfl, ⟨Nat.le_of_ble_eq_true rfl, Nat.le_of_ble_eq_true rfl⟩, ⟨Nat.le_of_ble_eq_true rfl, Nat.le_of_ble_eq_true rfl⟩⟩ hz_a0 hk_a0 (by decide) rfl rfl hl.1 rfl (Nat.le_of_ble_eq_true rfl) dX11_vote_13) rfl rfl (fun x65 H locs M62 R63 J61 hS f59 g60 E64 => ?_)
    have eR63 := Fr.nil g60 rfl
    subst eR63
    have h_x65 := E64
    clear E64
    exact tw_endi hx hb hr hlocks hK hT hS hQ ((iv_mono h_x65 (by decide) (by decide))) dX11_vote_16
def Lt_X11_worth : WL := []
def LRt_X11_worth : WL := []
set_option maxRecDepth 100000 in
set_option maxHeartbeats 4000000 in
theorem t_X11_worth (l : Launch) (D : va_G) (cy : Nat → ClassId) (tx : (Nat → Nat) × (Nat → Nat)) (base Z : Nat) (K N : Nat → Nat) (Ma : MT) (Ra : RT) (Ja : JT) (hTy : Ty Z K N Ma Ra) (a0 : Nat) (hz_a0 : a0 < Z) (hk_a0 : K a0 = 11) (a1 : Int32) (h_a1 : iv (-2147483648) 2147483647 a1) (a2 : Int32) (h_a2 : iv (-2147483648) 2147483647 a2) : Met l yX11_worth [Cond.code yX11_worth cX11_worth 3 (some .int)] (md_rm 2 0 0) (va_Pc [.ref (base + a0), .int a1, .int a2] (md_U D cy tx base Z K N Ma Ra Ja)) (mQi D cy tx base (fun r u => TP Z K N Lt_X11_worth LRt_X11_worth Ma Ra u ∧ (iv (-2147483648) 2147483647 r))) 0 0 (fun q => base ≤ q) := by
  refine tw_ofW (L := Lt_X11_worth) (LR := LRt_X11_worth) (by decide) (Nat.le_of_ble_eq_true rfl) hTy ?_
  intro p e s m args below meth c Q ls hx hb hr hlocks hown hml hW hK hT hS hQ hl
  have hl : lv_has ls 3 [(0, .ref (base + a0)), (1, .int a1), (2, .int a2)] := hl
  refine lv_aload_n hx hb dX11_worth_0 rfl (lv_at hl 0 rfl) ?_
  refine tw_getr hx hb hW hown hK hS f_X11_31_10 hz_a0 hk_a0 (t := 10) (n := 0) rfl dX11_worth_1 (fun b1 k2 hz_b1 hk_b1 hn_b1 => ?_)
  refine lv_iload_n hx hb dX11_worth_4 rfl (lv_at hl 1 rfl) ?_
  refine tw_goi hS (md_runV (As := [.int a1]) (rest := []) hx hb hml hown hW hK hT hS.1 (t_X9_hasMember l D cy tx base Z K N Ma Ra Ja hS.2.1 b1 hz_b1 hk_b1 a1 h_a1) s_X11_132 ⟨rfl, rfl, ⟨Nat.le_of_ble_eq_true rfl, Nat.le_of_ble_eq_true rfl⟩, ⟨Nat.le_of_ble_eq_true rfl, Nat.le_of_ble_eq_true rfl⟩⟩ hz_b1 hk_b1 (by decide) rfl rfl hl.1 rfl (Nat.le_of_ble_eq_true rfl) dX11_worth_5) rfl rfl (fun x9 H locs M6 R7 J5 hS f3 g4 E8 => ?_)
  have eM6 := Fr.nil f3 rfl
  subst eM6
  have eR7 := Fr.nil g4 rfl
  subst eR7
  obtain ⟨h_x9, p10⟩ := E8
  refine lv_if_eq (tgt := 34) hx hb dX11_worth_8 (by decide) (fun c11 => ?_) (fun c11 => ?_)
  · have q12 : x9.toInt = 0 := ti_eq c11
    have h13 : iv 0 0 x9 := ⟨by have := (h_x9).1; have := ((iv_c (c := 0) (n := 0) (by decide))).1; omega, by have := (h_x9).2; have := ((iv_c (c := 0) (n := 0) (by decide))).2; omega⟩
    refine lv_sipush (v := (-1000)) hx hb dX11_worth_34 (by decide) ?_
    exact tw_endi hx hb hr hlocks hK hT hS hQ ((iv_mono (iv_c (c := (-1000)) (n := (-1000)) (by decide)) (by decide) (by decide))) dX11_worth_37
  · have q14 : ¬ x9.toInt = 0 := ti_ne c11
    have h15 : iv 1 1 x9 := ⟨by have := (h_x9).1; have := ((iv_c (c := 0) (n := 0) (by decide))).1; have := ((iv_c (c := 0) (n := 0) (by decide))).2; omega, by have := (h_x9).2; have := ((iv_c (c := 0) (n := 0) (by decide))).1; have := ((iv_c (c := 0) (n := 0) (by decide))).2; omega⟩
    have h16 : iv 0 9 a1 := ⟨by have := (p10 c11).1; have := (h_a1).1; omega, by have := (p10 c11).2; have := (h_a1).2; omega⟩
    refine lv_aload_n hx hb dX11_worth_11 rfl (lv_at hl 0 rfl) ?_
    refine tw_getrk hx hb hW hown hK hS f_X11_31_10 hz_a0 hk_a0 (b := b1) k2 dX11_worth_12 ?_
    refine lv_iload_n hx hb dX11_worth_15 rfl (lv_at hl 2 rfl) ?_
    refine tw_goi hS (md_runV (As := [.int a2]) (rest := []) hx hb hml hown hW hK hT hS.1 (t_X9_hasPoint l D cy tx base Z K N Ma Ra J5 hS.2.1 b1 hz_b1 hk_b1 a2 h_a2) s_X11_151 ⟨rfl, rfl, ⟨Nat.le_of_ble_eq_true rfl, Nat.le_of_ble_eq_true rfl⟩, ⟨Nat.le_of_ble_eq_true rfl, Nat.le_of_ble_eq_true rfl⟩⟩ hz_b1 hk_b1 (by decide) rfl rfl hl.1 rfl (Nat.le_of_ble_eq_true rfl) dX11_worth_16) rfl rfl (fun x23 H locs M20 R21 J19 hS f17 g18 E22 => ?_)
    have eM20 := Fr.nil f17 rfl
    subst eM20
    have eR21 := Fr.nil g18 rfl
    subst eR21
    obtain ⟨h_x23, p24⟩ := E22
    refine lv_if_eq (tgt := 34) hx hb dX11_worth_19 (by decide) (fun c25 => ?_) (fun c25 => ?_)
    · have q26 : x23.toInt = 0 := ti_eq c25
      have h27 : iv 0 0 x23 := ⟨by have := (h_x23).1; have := ((iv_c (c := 0) (n := 0) (by decide))).1; omega, by have := (h_x23).2; have := ((iv_c (c := 0) (n := 0) (by decide))).2; omega⟩
      refine lv_sipush (v := (-1000)) hx hb dX11_worth_34 (by decide) ?_
      exact tw_endi hx hb hr hlocks hK hT hS hQ ((iv_mono (iv_c (c := (-1000)) (n := (-1000)) (by decide)) (by decide) (by decide))) dX11_worth_37
    · have q28 : ¬ x23.toInt = 0 := ti_ne c25
      have h29 : iv 1 1 x23 := ⟨by have := (h_x23).1; have := ((iv_c (c := 0) (n := 0) (by decide))).1; have := ((iv_c (c := 0) (n := 0) (by decide))).2; omega, by have := (h_x23).2; have := ((iv_c (c := 0) (n := 0) (by decide))).1; have := ((iv_c (c := 0) (n := 0) (by decide))).2; omega⟩
      have h30 : iv 0 11 a2 := ⟨by have := (p24 c25).1; have := (h_a2).1; omega, by have := (p24 c25).2; have := (h_a2).2; omega⟩
      refine lv_aload_n hx hb dX11_worth_22 rfl (lv_at hl 0 rfl) ?_
      refine tw_getrk hx hb hW hown hK hS f_X11_31_10 hz_a0 hk_a0 (b := b1) k2 dX11_worth_23 ?_
      refine lv_iload_n hx hb dX11_worth_26 rfl (lv_at hl 1 rfl) ?_
      refine lv_iload_n hx hb dX11_worth_27 rfl (lv_at hl 2 rfl) ?_
      refine tw_goi hS (md_runV (As := [.int a1, .int a2]) (rest := []) hx hb hml hown hW hK hT hS.1 (t_X9_worthOf l D cy tx base Z K N Ma Ra J19 hS.2.1 b1 hz_b1 hk_b1 a1 h16 a2 h30) s_X11_154 ⟨rfl, rfl, ⟨Nat.le_of_ble_eq_true rfl, Nat.le_of_ble_eq_true rfl⟩, ⟨Nat.le_of_ble_eq_true rfl, Nat.le_of_ble_eq_true rfl⟩⟩ hz_b1 hk_b1 (by decide) rfl rfl hl.1 rfl (Nat.le_of_ble_eq_true rfl) dX11_worth_28) rfl rfl (fun x37 H locs M34 R35 J33 hS f31 g32 E36 => ?_)
      have eM34 := Fr.nil f31 rfl
      subst eM34
      have eR35 := Fr.nil g32 rfl
      subst eR35
      have h_x37 := E36
      clear E36
      refine lv_goto (tgt := 37) hx hb dX11_worth_31 (by decide) ?_
      exact tw_endi hx hb hr hlocks hK hT hS hQ (h_x37) dX11_worth_37
def Lt_X3_runYear : WL := [(4, 5, 8), (6, 2, 4), (6, 6, 15), (20, 0, 2000000)]
def LRt_X3_runYear : WL := [(6, 4, 5)]
set_option maxRecDepth 100000 in
set_option maxHeartbeats 4000000 in
theorem t_X3_runYear (l : Launch) (D : va_G) (cy : Nat → ClassId) (tx : (Nat → Nat) × (Nat → Nat)) (base Z : Nat) (K N : Nat → Nat) (Ma : MT) (Ra : RT) (Ja : JT) (hTy : Ty Z K N Ma Ra) (a0 : Nat) (hz_a0 : a0 < Z) (hk_a0 : K a0 = 4) (a1 : Int32) (h_a1 : iv 1 400 a1) (a2 : Int32) (h_a2 : iv 0 9 a2) : Met l yX3_runYear [Cond.code yX3_runYear cX3_runYear 8 none] (md_rm 5 0 0) (va_Pc [.ref (base + a0), .int a1, .int a2] (md_U D cy tx base Z K N Ma Ra Ja)) (mQv D cy tx base (fun u => TP Z K N Lt_X3_runYear LRt_X3_runYear Ma Ra u ∧ (True))) 0 0 (fun q => base ≤ q) := by
  refine tw_ofW (L := Lt_X3_runYear) (LR := LRt_X3_runYear) (by decide) (Nat.le_of_ble_eq_true rfl) hTy ?_
  intro p e s m args below meth c Q ls hx hb hr hlocks hown hml hW hK hT hS hQ hl
  have hl : lv_has ls 8 [(0, .ref (base + a0)), (1, .int a1), (2, .int a2)] := hl
  refine lv_aload_n hx hb dX3_runYear_0 rfl (lv_at hl 0 rfl) ?_
  refine tw_gov hS (md_runV (As := []) (rest := []) hx hb hml hown hW hK hT hS.1 (t_X3_start l D cy tx base Z K N Ma Ra Ja hS.2.1 a0 hz_a0 hk_a0) s_X3_48 ⟨rfl, rfl, ⟨Nat.le_of_ble_eq_true rfl, Nat.le_of_ble_eq_true rfl⟩, ⟨Nat.le_of_ble_eq_true rfl, Nat.le_of_ble_eq_true rfl⟩⟩ hz_a0 hk_a0 (by decide) rfl rfl hl.1 rfl (Nat.le_of_ble_eq_true rfl) dX3_runYear_1) rfl rfl (fun H locs M4 R5 J3 hS f1 g2 E6 => ?_)
  have eR5 := Fr.nil g2 rfl
  subst eR5
  refine lv_aload_n hx hb dX3_runYear_4 rfl (lv_at hl 0 rfl) ?_
  refine tw_getr hx hb hW hown hK hS f_X3_21_3 hz_a0 hk_a0 (t := 10) (n := 0) rfl dX3_runYear_5 (fun b7 k8 hz_b7 hk_b7 hn_b7 => ?_)
  refine tw_geti hx hb hW hown hK hS f_X3_94_9 hz_b7 hk_b7 (lo := 0) (hi := 2147483647) rfl dX3_runYear_8 (fun x11 k10 h9 => ?_)
  refine lv_i2l hx hb dX3_runYear_11 rfl ?_
  refine lv_lstore_n (lv' := [(3, .long x11.toInt64), (0, .ref (base + a0)), (1, .int a1), (2, .int a2)]) hx hb dX3_runYear_12 rfl hl (by decide) rfl (fun ls hl => ?_)
  refine lv_iconst (v := 0) hx hb dX3_runYear_13 (by decide) ?_
  refine lv_istore (lv' := [(5, .int 0), (3, .long x11.toInt64), (0, .ref (base + a0)), (1, .int a1), (2, .int a2)]) hx hb dX3_runYear_14 hl (by decide) rfl (fun ls hl => ?_)
  have W16_14 : ∀ (n_14 : Nat) (x12 : Int64) (x13 : Int32) (M14 : MT) (R15 : RT) (J16 : JT) (H : Heap) (locs : List Loc) (ls : Array Slot) (h_x12 : jv 0 2147483647 x12) (h_x13 : iv 0 400 x13) (hm_14 : 400 - x13.toInt < (n_14 : Int)) (hS : SB D cy base Z K N Lt_X3_runYear LRt_X3_runYear Ma Ra M14 R15 J16 s H locs) (hl : lv_has ls 8 [(3, .long x12), (5, .int x13), (0, .ref (base + a0)), (1, .int a1), (2, .int a2)]), W p l e (md_rm 5 0 0) s m args below meth c H locs 0 0 Q (F0 m 16 ls []) := by
    intro n_14
    induction n_14 with
    | zero =>
      intro x12 x13 M14 R15 J16 H locs ls h_x12 h_x13 hm_14 hS hl
      exfalso
      have := (h_a1).1; have := (h_a1).2; have := (h_a2).1; have := (h_a2).2; have := (h_x13).1; have := (h_x13).2; omega
    | succ n_14 ih_14 =>
      intro x12 x13 M14 R15 J16 H locs ls h_x12 h_x13 hm_14 hS hl
      have f17 := hS.2.2.1
      have g18 := hS.2.2.2
      refine lv_iload hx hb dX3_runYear_16 (lv_at hl 1 rfl) ?_
      refine lv_iload_n hx hb dX3_runYear_18 rfl (lv_at hl 3 rfl) ?_
      refine lv_icmp_ge (tgt := 177) hx hb dX3_runYear_19 (by decide) (fun c19 => ?_) (fun c19 => ?_)
      · have q20 : a1.toInt ≤ x13.toInt := ti_le c19
        have h21 : iv 1 400 x13 := iv_geL (y := a1) h_x13 h_a1 q20 (by decide)
        exact tw_endv hx hb hr hlocks hK hT hS hQ (trivial) dX3_runYear_177
      · have q22 : x13.toInt < a1.toInt := ti_nle c19
        have h23 : iv 0 399 x13 := iv_ltL (y := a1) h_x13 h_a1 q22 (by decide)
        refine lv_aload_n hx hb dX3_runYear_22 rfl (lv_at hl 2 rfl) ?_
        have k24 : R15 a0 0 = some b7 := (Fr.kp (k := 0) g18 hk_a0 rfl).trans k8
        refine tw_getrk hx hb hW hown hK hS f_X3_21_3 hz_a0 hk_a0 (b := b7) k24 dX3_runYear_23 ?_
        refine tw_geti hx hb hW hown hK hS f_X3_97_9 hz_b7 hk_b7 (lo := 0) (hi := 12) rfl dX3_runYear_26 (fun x27 k26 h25 => ?_)
        refine lv_if_le (tgt := 177) hx hb dX3_runYear_29 (by decide) (fun c28 => ?_) (fun c28 => ?_)
        · have q29 : x27.toInt ≤ 0 := ti_le c28
          have h30 : iv 0 0 x27 := iv_leL (y := 0) h25 (iv_c (c := 0) (n := 0) (by decide)) q29 (by decide)
          exact tw_endv hx hb hr hlocks hK hT hS hQ (trivial) dX3_runYear_177
        · have q31 : 0 < x27.toInt := ti_nle c28
          have h32 : iv 1 12 x27 := iv_gtL (y := 0) h25 (iv_c (c := 0) (n := 0) (by decide)) q31 (by decide)
          refine lv_lload_n hx hb dX3_runYear_32 rfl (lv_at hl 0 rfl) ?_
          refine lv_ldc2 hx hb hown (hW _ w_6_10 rfl) dX3_runYear_33 ?_
          refine lv_lmul hx hb dX3_runYear_36 ?_
          refine tw_tj (lo := 0) (hi := 2369780942852698515) (jv_mul h_x12 (jv_c (x := 1103515245) (n := 1103515245) (by decide)) ⟨by decide, by decide⟩ (by decide) ⟨by decide, by decide⟩) (fun x33 h34 => ?_)
          refine lv_ldc2 hx hb hown (hW _ w_6_11 rfl) dX3_runYear_37 ?_
          refine lv_ladd hx hb dX3_runYear_40 ?_
          refine tw_tj (lo := 12345) (hi := 2369780942852710860) (jv_add h34 (jv_c (x := 12345) (n := 12345) (by decide)) ⟨by decide, by decide⟩ ⟨by decide, by decide⟩) (fun x35 h36 => ?_)
          refine lv_ldc2 hx hb hown (hW _ w_6_12 rfl) dX3_runYear_41 ?_
          refine lv_land hx hb dX3_runYear_44 ?_
          refine tw_tj (lo := 0) (hi := 2147483647) (jv_and (jv_mono (jv_c (x := 2147483647) (n := 2147483647) (by decide)) (lo := 0) (hi := 2147483647) (by decide) (by decide)) (by decide)) (fun x37 h38 => ?_)
          refine lv_lstore_n (lv' := [(3, .long x37), (5, .int x13), (0, .ref (base + a0)), (1, .int a1), (2, .int a2)]) hx hb dX3_runYear_45 rfl hl (by decide) rfl (fun ls hl => ?_)
          refine lv_lload_n hx hb dX3_runYear_46 rfl (lv_at hl 0 rfl) ?_
          refine lv_ldc2 hx hb hown (hW _ w_6_13 rfl) dX3_runYear_47 ?_
          refine lv_ldiv hx hb dX3_runYear_50 (by decide) ?_
          refine tw_tj (lo := 0) (hi := 32767) (jv_div h38 (jv_c (x := 65536) (n := 65536) (by decide)) ⟨by decide, by decide⟩ ⟨by decide, by decide⟩) (fun x39 h40 => ?_)
          refine lv_aload_n hx hb dX3_runYear_51 rfl (lv_at hl 2 rfl) ?_
          have k41 : R15 a0 0 = some b7 := (Fr.kp (k := 0) g18 hk_a0 rfl).trans k8
          refine tw_getrk hx hb hW hown hK hS f_X3_21_3 hz_a0 hk_a0 (b := b7) k41 dX3_runYear_52 ?_
          refine tw_getk hx hb hW hown hK hS f_X3_97_9 hz_b7 hk_b7 (v := x27) k26 dX3_runYear_55 ?_
          refine lv_i2l hx hb dX3_runYear_58 rfl ?_
          refine lv_lrem hx hb dX3_runYear_59 (lnz (jv_o h32) (by decide)) ?_
          refine tw_tj (lo := 0) (hi := 11) (jv_rem h40 (jv_o h32) ⟨by decide, by decide⟩ ⟨by decide, by decide⟩) (fun x42 h43 => ?_)
          refine lv_l2i hx hb dX3_runYear_60 rfl ?_
          refine tw_ti (jv_l2i h43 ⟨by decide, by decide⟩) (fun x45 h44 => ?_)
          refine lv_istore (lv' := [(6, .int x45), (3, .long x37), (5, .int x13), (0, .ref (base + a0)), (1, .int a1), (2, .int a2)]) hx hb dX3_runYear_61 hl (by decide) rfl (fun ls hl => ?_)
          refine lv_aload_n hx hb dX3_runYear_63 rfl (lv_at hl 3 rfl) ?_
          refine tw_getr hx hb hW hown hK hS f_X3_25_3 hz_a0 hk_a0 (t := 6) (n := 0) rfl dX3_runYear_64 (fun b46 k47 hz_b46 hk_b46 hn_b46 => ?_)
          refine lv_iload hx hb dX3_runYear_67 (lv_at hl 0 rfl) ?_
          refine lv_aload_n hx hb dX3_runYear_69 rfl (lv_at hl 3 rfl) ?_
          refine tw_getr hx hb hW hown hK hS f_X3_9_3 hz_a0 hk_a0 (t := 20) (n := 10) rfl dX3_runYear_70 (fun b48 k49 hz_b48 hk_b48 hn_b48 => ?_)
          have hn_b48 := hn_b48 (by decide)
          refine lv_aload_n hx hb dX3_runYear_73 rfl (lv_at hl 3 rfl) ?_
          have k50 : R15 a0 0 = some b7 := (Fr.kp (k := 0) g18 hk_a0 rfl).trans k8
          refine tw_getrk hx hb hW hown hK hS f_X3_21_3 hz_a0 hk_a0 (b := b7) k50 dX3_runYear_74 ?_
          refine tw_geti hx hb hW hown hK hS f_X3_60_9 hz_b7 hk_b7 (lo := (-2147483648)) (hi := 2147483647) rfl dX3_runYear_77 (fun x53 k52 h51 => ?_)
          refine lv_iload hx hb dX3_runYear_80 (lv_at hl 2 rfl) ?_
          refine lv_iadd hx hb dX3_runYear_82 ?_
          refine tw_top (fun x55 => ?_)
          have h54 := iv_any x55
          refine tw_gov hS (md_runV (As := [.int x45, .ref (base + b48), .int x55]) (rest := []) hx hb hml hown hW hK hT hS.1 (t_X5_bringAlone l D cy tx base Z K N M14 R15 J16 hS.2.1 b46 hz_b46 hk_b46 x45 h44 b48 hz_b48 hk_b48 hn_b48 x55 h54) s_X3_108 ⟨rfl, rfl, ⟨Nat.le_of_ble_eq_true rfl, Nat.le_of_ble_eq_true rfl⟩, ⟨Nat.le_of_ble_eq_true rfl, Nat.le_of_ble_eq_true rfl⟩⟩ hz_b46 hk_b46 (by decide) rfl rfl hl.1 rfl (Nat.le_of_ble_eq_true rfl) dX3_runYear_83) rfl rfl (fun H locs M59 R60 J58 hS f56 g57 E61 => ?_)
          have p62 := E61
          clear E61
          have k63 : RowOK N M59 R60 b46 := p62
          refine lv_aload_n hx hb dX3_runYear_86 rfl (lv_at hl 3 rfl) ?_
          have k64 : R60 a0 1 = some b46 := (Fr.kp (k := 1) g57 hk_a0 rfl).trans k47
          refine tw_getrk hx hb hW hown hK hS f_X3_25_3 hz_a0 hk_a0 (b := b46) k64 dX3_runYear_87 ?_
          refine lv_aload_n hx hb dX3_runYear_90 rfl (lv_at hl 3 rfl) ?_
          have k65 : R60 a0 0 = some b7 := ((Fr.kp (k := 0) g57 hk_a0 rfl).trans (Fr.kp (k := 0) g18 hk_a0 rfl)).trans k8
          refine tw_getrk hx hb hW hown hK hS f_X3_21_3 hz_a0 hk_a0 (b := b7) k65 dX3_runYear_91 ?_
          refine tw_geti hx hb hW hown hK hS f_X3_69_9 hz_b7 hk_b7 (lo := (-2147483648)) (hi := 2147483647) rfl dX3_runYear_94 (fun x68 k67 h66 => ?_)
          refine tw_gov hS (md_runV (As := [.int x68]) (rest := []) hx hb hml hown hW hK hT hS.1 (t_X5_ask l D cy tx base Z K N M59 R60 J58 hS.2.1 b46 hz_b46 hk_b46 x68 h66 k63) s_X3_72 ⟨rfl, rfl, ⟨Nat.le_of_ble_eq_true rfl, Nat.le_of_ble_eq_true rfl⟩, ⟨Nat.le_of_ble_eq_true rfl, Nat.le_of_ble_eq_true rfl⟩⟩ hz_b46 hk_b46 (by decide) rfl rfl hl.1 rfl (Nat.le_of_ble_eq_true rfl) dX3_runYear_97) rfl rfl (fun H locs M72 R73 J71 hS f69 g70 E74 => ?_)
          have eR73 := Fr.nil g70 rfl
          subst eR73
          refine lv_aload_n hx hb dX3_runYear_100 rfl (lv_at hl 3 rfl) ?_
          refine lv_aload_n hx hb dX3_runYear_101 rfl (lv_at hl 3 rfl) ?_
          refine tw_getrk hx hb hW hown hK hS f_X3_25_3 hz_a0 hk_a0 (b := b46) k64 dX3_runYear_102 ?_
          refine lv_aload_n hx hb dX3_runYear_105 rfl (lv_at hl 3 rfl) ?_
          have k75 : R60 a0 2 = some b48 := (Fr.kp (k := 2) g57 hk_a0 rfl).trans k49
          refine tw_getrk hx hb hW hown hK hS f_X3_9_3 hz_a0 hk_a0 (b := b48) k75 dX3_runYear_106 ?_
          refine lv_aload_n hx hb dX3_runYear_109 rfl (lv_at hl 3 rfl) ?_
          refine tw_getrk hx hb hW hown hK hS f_X3_25_3 hz_a0 hk_a0 (b := b46) k64 dX3_runYear_110 ?_
          refine tw_geti hx hb hW hown hK hS f_X3_76_5 hz_b46 hk_b46 (lo := (-2147483648)) (hi := 2147483647) rfl dX3_runYear_113 (fun x78 k77 h76 => ?_)
          refine lv_aload_n hx hb dX3_runYear_116 rfl (lv_at hl 3 rfl) ?_
          refine tw_getrk hx hb hW hown hK hS f_X3_25_3 hz_a0 hk_a0 (b := b46) k64 dX3_runYear_117 ?_
          refine tw_geti hx hb hW hown hK hS f_X3_79_5 hz_b46 hk_b46 (lo := (-2147483648)) (hi := 2147483647) rfl dX3_runYear_120 (fun x81 k80 h79 => ?_)
          refine tw_goi hS (md_runV (As := [.ref (base + b48), .int x78, .int x81]) (rest := [.ref (base + a0)]) hx hb hml hown hW hK hT hS.1 (t_X5_hold l D cy tx base Z K N M72 R60 J71 hS.2.1 b46 hz_b46 hk_b46 b48 hz_b48 hk_b48 hn_b48 x78 h76 x81 h79) s_X3_82 ⟨rfl, rfl, ⟨Nat.le_of_ble_eq_true rfl, Nat.le_of_ble_eq_true rfl⟩, ⟨Nat.le_of_ble_eq_true rfl, Nat.le_of_ble_eq_true rfl⟩⟩ hz_b46 hk_b46 (by decide) rfl rfl hl.1 rfl (Nat.le_of_ble_eq_true rfl) dX3_runYear_123) rfl rfl (fun x88 H locs M85 R86 J84 hS f82 g83 E87 => ?_)
          have eR86 := Fr.nil g83 rfl
          subst eR86
          have h_x88 := E87
          clear E87
          refine lv_iload_n hx hb dX3_runYear_126 rfl (lv_at hl 5 rfl) ?_
          refine lv_iload hx hb dX3_runYear_127 (lv_at hl 0 rfl) ?_
          refine tw_gov hS (md_runV (As := [.int x88, .int a2, .int x45]) (rest := []) hx hb hml hown hW hK hT hS.1 (t_X3_mark l D cy tx base Z K N M85 R60 J84 hS.2.1 a0 hz_a0 hk_a0 x88 h_x88 a2 h_a2 x45 h44) s_X3_86 ⟨rfl, rfl, ⟨Nat.le_of_ble_eq_true rfl, Nat.le_of_ble_eq_true rfl⟩, ⟨Nat.le_of_ble_eq_true rfl, Nat.le_of_ble_eq_true rfl⟩⟩ hz_a0 hk_a0 (by decide) rfl rfl hl.1 rfl (Nat.le_of_ble_eq_true rfl) dX3_runYear_129) rfl rfl (fun H locs M92 R93 J91 hS f89 g90 E94 => ?_)
          have eR93 := Fr.nil g90 rfl
          subst eR93
          refine lv_iconst (v := 0) hx hb dX3_runYear_132 (by decide) ?_
          refine lv_istore (lv' := [(7, .int 0), (6, .int x45), (3, .long x37), (5, .int x13), (0, .ref (base + a0)), (1, .int a1), (2, .int a2)]) hx hb dX3_runYear_133 hl (by decide) rfl (fun ls hl => ?_)
          have W135_96 : ∀ (n_96 : Nat) (x95 : Int32) (M96 : MT) (R97 : RT) (J98 : JT) (H : Heap) (locs : List Loc) (ls : Array Slot) (h_x95 : iv 0 10 x95) (hm_96 : 10 - x95.toInt < (n_96 : Int)) (hS : SB D cy base Z K N Lt_X3_runYear LRt_X3_runYear Ma Ra M96 R97 J98 s H locs) (hl : lv_has ls 8 [(7, .int x95), (6, .int x45), (3, .long x37), (5, .int x13), (0, .ref (base + a0)), (1, .int a1), (2, .int a2)]), W p l e (md_rm 5 0 0) s m args below meth c H locs 0 0 Q (F0 m 135 ls []) := by
            intro n_96
            induction n_96 with
            | zero =>
              intro x95 M96 R97 J98 H locs ls h_x95 hm_96 hS hl
              exfalso
              have := (h_a1).1; have := (h_a1).2; have := (h_a2).1; have := (h_a2).2; have := (h_x95).1; have := (h_x95).2; omega
            | succ n_96 ih_96 =>
              intro x95 M96 R97 J98 H locs ls h_x95 hm_96 hS hl
              have f99 := hS.2.2.1
              have g100 := hS.2.2.2
              refine lv_iload hx hb dX3_runYear_135 (lv_at hl 0 rfl) ?_
              refine lv_aload_n hx hb dX3_runYear_137 rfl (lv_at hl 4 rfl) ?_
              have k101 : R97 a0 0 = some b7 := (Fr.kp (k := 0) g100 hk_a0 rfl).trans k8
              refine tw_getrk hx hb hW hown hK hS f_X3_21_3 hz_a0 hk_a0 (b := b7) k101 dX3_runYear_138 ?_
              refine tw_geti hx hb hW hown hK hS f_X3_112_9 hz_b7 hk_b7 (lo := (-2147483648)) (hi := 10) rfl dX3_runYear_141 (fun x104 k103 h102 => ?_)
              refine lv_icmp_ge (tgt := 171) hx hb dX3_runYear_144 (by decide) (fun c105 => ?_) (fun c105 => ?_)
              · have q106 : x104.toInt ≤ x95.toInt := ti_le c105
                refine tw_iinc (lv' := fun x109 => [(5, .int x109), (7, .int x95), (6, .int x45), (3, .long x37), (0, .ref (base + a0)), (1, .int a1), (2, .int a2)]) (lo := 1) (hi := 400) hx hb dX3_runYear_171 hl (k := 3) rfl h23 (by decide) ⟨by decide, by decide⟩ ⟨by decide, by decide⟩ (by decide) (fun _ => rfl) (fun x109 ls e108 h107 hl => ?_)
                refine lv_goto (tgt := 16) hx hb dX3_runYear_174 (by decide) ?_
                have hm110 : 400 - x109.toInt < (n_14 : Int) := by
                  have := (h_a1).1; have := (h_a1).2; have := (h_a2).1; have := (h_a2).2; have := (h107).1; have := (h107).2; have := (h23).1; have := (h23).2; omega
                exact ih_14 (x37) x109 M96 R97 J98 H locs _ (jv_mono h38 (by decide) (by decide)) (iv_mono h107 (by decide) (by decide)) hm110 hS (lv_sub hl [3, 0, 4, 5, 6] rfl)
              · have q111 : x95.toInt < x104.toInt := ti_nle c105
                have h112 : iv 0 9 x95 := iv_ltL (y := x104) h_x95 h102 q111 (by decide)
                have h113 : iv 1 10 x104 := iv_gtL (y := x95) h102 h_x95 q111 (by decide)
                refine lv_aload_n hx hb dX3_runYear_147 rfl (lv_at hl 4 rfl) ?_
                refine lv_aload_n hx hb dX3_runYear_148 rfl (lv_at hl 4 rfl) ?_
                refine tw_geti hx hb hW hown hK hS f_X3_45_3 hz_a0 hk_a0 (lo := (-2147483648)) (hi := 2147483647) rfl dX3_runYear_149 (fun x116 k115 h114 => ?_)
                refine lv_aload_n hx hb dX3_runYear_152 rfl (lv_at hl 4 rfl) ?_
                refine tw_getr hx hb hW hown hK hS f_X3_9_3 hz_a0 hk_a0 (t := 20) (n := 10) rfl dX3_runYear_153 (fun b117 k118 hz_b117 hk_b117 hn_b117 => ?_)
                have hn_b117 := hn_b117 (by decide)
                refine lv_iload hx hb dX3_runYear_156 (lv_at hl 0 rfl) ?_
                refine tw_iald hx hb hK hS hz_b117 hk_b117 (Or.inr (by decide)) hn_b117 (lo := (-2147483648)) (hi := 2147483647) h112 ⟨by decide, by decide⟩ rg_u20 dX3_runYear_158 (fun x121 k120 h119 => ?_)
                refine va_mmax hx hb (hml.trans hl.1.symm) hown (hW _ w_6_15 rfl) (hW _ w_4_75 rfl) (hW _ w_1_13 rfl) (hW _ w_4_76 rfl) (Nat.le_of_ble_eq_true rfl) (Nat.le_of_ble_eq_true rfl) (Nat.le_of_ble_eq_true rfl) (Nat.le_of_ble_eq_true rfl) dX3_runYear_159 ?_
                refine tw_mmax (lo := (-2147483648)) (hi := 2147483647) h114 h119 (by decide) (fun x124 e123 h122 => ?_)
                refine tw_puti hx hb hW hown hK hS f_X3_45_3 hz_a0 hk_a0 rfl rfl (lo := (-2147483648)) (hi := 2147483647) rfl h122 rfl dX3_runYear_162 (fun H locs M127 hS k125 f126 => ?_)
                refine tw_iinc (lv' := fun x130 => [(7, .int x130), (6, .int x45), (3, .long x37), (5, .int x13), (0, .ref (base + a0)), (1, .int a1), (2, .int a2)]) (lo := 1) (hi := 10) hx hb dX3_runYear_165 hl (k := 0) rfl h112 (by decide) ⟨by decide, by decide⟩ ⟨by decide, by decide⟩ (by decide) (fun _ => rfl) (fun x130 ls e129 h128 hl => ?_)
                refine lv_goto (tgt := 135) hx hb dX3_runYear_168 (by decide) ?_
                have hm131 : 10 - x130.toInt < (n_96 : Int) := by
                  have := (h_a1).1; have := (h_a1).2; have := (h_a2).1; have := (h_a2).2; have := (h128).1; have := (h128).2; have := (h112).1; have := (h112).2; omega
                exact ih_96 x130 M127 R97 J98 H locs _ (iv_mono h128 (by decide) (by decide)) hm131 hS hl
          have hm132 : 10 - (0 : Int32).toInt < (((11 : Nat) : Int) : Int) := by
            have := (h_a1).1; have := (h_a1).2; have := (h_a2).1; have := (h_a2).2; have : (0 : Int32).toInt = 0 := (by decide); omega
          exact W135_96 11 0 M92 R60 J91 H locs _ (iv_mono (iv_c (c := 0) (n := 0) (by decide)) (by decide) (by decide)) hm132 hS hl
  have hm133 : 400 - (0 : Int32).toInt < (((401 : Nat) : Int) : Int) := by
    have := (h_a1).1; have := (h_a1).2; have := (h_a2).1; have := (h_a2).2; have : (0 : Int32).toInt = 0 := (by decide); omega
  exact W16_14 401 (x11.toInt64) 0 M4 Ra J3 H locs _ (jv_mono (jv_o h9) (by decide) (by decide)) (iv_mono (iv_c (c := 0) (n := 0) (by decide)) (by decide) (by decide)) hm133 hS (lv_sub hl [1, 0, 2, 3, 4] rfl)
def Lt_X11_year : WL := [(4, 5, 8), (6, 2, 4), (6, 6, 15), (20, 0, 2000000)]
def LRt_X11_year : WL := [(6, 4, 5)]
set_option maxRecDepth 100000 in
set_option maxHeartbeats 4000000 in
theorem t_X11_year (l : Launch) (D : va_G) (cy : Nat → ClassId) (tx : (Nat → Nat) × (Nat → Nat)) (base Z : Nat) (K N : Nat → Nat) (Ma : MT) (Ra : RT) (Ja : JT) (hTy : Ty Z K N Ma Ra) (a0 : Nat) (hz_a0 : a0 < Z) (hk_a0 : K a0 = 11) (a1 : Int32) (h_a1 : iv (-2147483648) 2147483647 a1) (a2 : Int32) (h_a2 : iv (-2147483648) 2147483647 a2) (a3 : Int32) (h_a3 : iv (-2147483648) 2147483647 a3) : Met l yX11_year [Cond.code yX11_year cX11_year 5 (some .int)] (md_rm 6 0 0) (va_Pc [.ref (base + a0), .int a1, .int a2, .int a3] (md_U D cy tx base Z K N Ma Ra Ja)) (mQi D cy tx base (fun r u => TP Z K N Lt_X11_year LRt_X11_year Ma Ra u ∧ (iv (-2147483648) 2147483647 r))) 0 0 (fun q => base ≤ q) := by
  refine tw_ofW (L := Lt_X11_year) (LR := LRt_X11_year) (by decide) (Nat.le_of_ble_eq_true rfl) hTy ?_
  intro p e s m args below meth c Q ls hx hb hr hlocks hown hml hW hK hT hS hQ hl
  have hl : lv_has ls 5 [(0, .ref (base + a0)), (1, .int a1), (2, .int a2), (3, .int a3)] := hl
  refine lv_aload_n hx hb dX11_year_0 rfl (lv_at hl 0 rfl) ?_
  refine tw_getr hx hb hW hown hK hS f_X11_31_10 hz_a0 hk_a0 (t := 10) (n := 0) rfl dX11_year_1 (fun b1 k2 hz_b1 hk_b1 hn_b1 => ?_)
  refine lv_iload_n hx hb dX11_year_4 rfl (lv_at hl 2 rfl) ?_
  refine tw_goi hS (md_runV (As := [.int a2]) (rest := []) hx hb hml hown hW hK hT hS.1 (t_X9_hasMember l D cy tx base Z K N Ma Ra Ja hS.2.1 b1 hz_b1 hk_b1 a2 h_a2) s_X11_132 ⟨rfl, rfl, ⟨Nat.le_of_ble_eq_true rfl, Nat.le_of_ble_eq_true rfl⟩, ⟨Nat.le_of_ble_eq_true rfl, Nat.le_of_ble_eq_true rfl⟩⟩ hz_b1 hk_b1 (by decide) rfl rfl hl.1 rfl (Nat.le_of_ble_eq_true rfl) dX11_year_5) rfl rfl (fun x9 H locs M6 R7 J5 hS f3 g4 E8 => ?_)
  have eM6 := Fr.nil f3 rfl
  subst eM6
  have eR7 := Fr.nil g4 rfl
  subst eR7
  obtain ⟨h_x9, p10⟩ := E8
  have J25_11 : ∀  (M11 : MT) (R12 : RT) (J13 : JT) (H : Heap) (locs : List Loc) (ls : Array Slot) (hS : SB D cy base Z K N Lt_X11_year LRt_X11_year Ma Ra M11 R12 J13 s H locs) (hl : lv_has ls 5 [(0, .ref (base + a0)), (1, .int a1), (2, .int a2), (3, .int a3)]), W p l e (md_rm 6 0 0) s m args below meth c H locs 0 0 Q (F0 m 25 ls []) := by
    intro  M11 R12 J13 H locs ls  hS hl
    have f14 := hS.2.2.1
    have g15 := hS.2.2.2
    refine lv_iconst (v := 0) hx hb dX11_year_25 (by decide) ?_
    refine lv_istore (lv' := [(4, .int 0), (0, .ref (base + a0)), (1, .int a1), (2, .int a2), (3, .int a3)]) hx hb dX11_year_26 hl (by decide) rfl (fun ls hl => ?_)
    refine lv_iload hx hb dX11_year_28 (lv_at hl 0 rfl) ?_
    refine lv_if_eq (tgt := 54) hx hb dX11_year_30 (by decide) (fun _ => ?_) (fun h => absurd h (by decide))
    refine lv_ldc hx hb hown (hW _ w_4_221 rfl) dX11_year_54 ?_
    exact tw_endi hx hb hr hlocks hK hT hS hQ ((iv_mono (iv_c (c := (-1000000)) (n := (-1000000)) (by decide)) (by decide) (by decide))) dX11_year_56
  refine lv_if_eq (tgt := 25) hx hb dX11_year_8 (by decide) (fun c16 => ?_) (fun c16 => ?_)
  · have q17 : x9.toInt = 0 := ti_eq c16
    have h18 : iv 0 0 x9 := ⟨by have := (h_x9).1; have := ((iv_c (c := 0) (n := 0) (by decide))).1; omega, by have := (h_x9).2; have := ((iv_c (c := 0) (n := 0) (by decide))).2; omega⟩
    exact J25_11  Ma Ra J5 H locs _  hS hl
  · have q19 : ¬ x9.toInt = 0 := ti_ne c16
    have h20 : iv 1 1 x9 := ⟨by have := (h_x9).1; have := ((iv_c (c := 0) (n := 0) (by decide))).1; have := ((iv_c (c := 0) (n := 0) (by decide))).2; omega, by have := (h_x9).2; have := ((iv_c (c := 0) (n := 0) (by decide))).1; have := ((iv_c (c := 0) (n := 0) (by decide))).2; omega⟩
    have h21 : iv 0 9 a2 := ⟨by have := (p10 c16).1; have := (h_a2).1; omega, by have := (p10 c16).2; have := (h_a2).2; omega⟩
    refine lv_aload_n hx hb dX11_year_11 rfl (lv_at hl 0 rfl) ?_
    refine tw_getrk hx hb hW hown hK hS f_X11_31_10 hz_a0 hk_a0 (b := b1) k2 dX11_year_12 ?_
    refine tw_geti hx hb hW hown hK hS f_X11_310_9 hz_b1 hk_b1 (lo := 0) (hi := 12) rfl dX11_year_15 (fun x24 k23 h22 => ?_)
    refine lv_if_le (tgt := 25) hx hb dX11_year_18 (by decide) (fun c25 => ?_) (fun c25 => ?_)
    · have q26 : x24.toInt ≤ 0 := ti_le c25
      have h27 : iv 0 0 x24 := iv_leL (y := 0) h22 (iv_c (c := 0) (n := 0) (by decide)) q26 (by decide)
      exact J25_11  Ma Ra J5 H locs _  hS hl
    · have q28 : 0 < x24.toInt := ti_nle c25
      have h29 : iv 1 12 x24 := iv_gtL (y := 0) h22 (iv_c (c := 0) (n := 0) (by decide)) q28 (by decide)
      refine lv_iconst (v := 1) hx hb dX11_year_21 (by decide) ?_
      refine lv_goto (tgt := 26) hx hb dX11_year_22 (by decide) ?_
      refine lv_istore (lv' := [(4, .int 1), (0, .ref (base + a0)), (1, .int a1), (2, .int a2), (3, .int a3)]) hx hb dX11_year_26 hl (by decide) rfl (fun ls hl => ?_)
      refine lv_iload hx hb dX11_year_28 (lv_at hl 0 rfl) ?_
      refine lv_if_eq (tgt := 54) hx hb dX11_year_30 (by decide) (fun h => absurd h (by decide)) (fun _ => ?_)
      refine lv_iload_n hx hb dX11_year_33 rfl (lv_at hl 2 rfl) ?_
      refine lv_iconst (v := 1) hx hb dX11_year_34 (by decide) ?_
      refine lv_icmp_lt (tgt := 54) hx hb dX11_year_35 (by decide) (fun c30 => ?_) (fun c30 => ?_)
      · have q31 : a1.toInt < 1 := ti_lt c30
        have h32 : iv (-2147483648) 0 a1 := iv_ltL (y := 1) h_a1 (iv_c (c := 1) (n := 1) (by decide)) q31 (by decide)
        refine lv_ldc hx hb hown (hW _ w_4_221 rfl) dX11_year_54 ?_
        exact tw_endi hx hb hr hlocks hK hT hS hQ ((iv_mono (iv_c (c := (-1000000)) (n := (-1000000)) (by decide)) (by decide) (by decide))) dX11_year_56
      · have q33 : 1 ≤ a1.toInt := ti_nlt c30
        have h34 : iv 1 2147483647 a1 := iv_geL (y := 1) h_a1 (iv_c (c := 1) (n := 1) (by decide)) q33 (by decide)
        refine lv_iload_n hx hb dX11_year_38 rfl (lv_at hl 2 rfl) ?_
        refine lv_sipush (v := 400) hx hb dX11_year_39 (by decide) ?_
        refine lv_icmp_gt (tgt := 54) hx hb dX11_year_42 (by decide) (fun c35 => ?_) (fun c35 => ?_)
        · have q36 : 400 < a1.toInt := ti_lt c35
          have h37 : iv 401 2147483647 a1 := iv_gtL (y := 400) h34 (iv_c (c := 400) (n := 400) (by decide)) q36 (by decide)
          refine lv_ldc hx hb hown (hW _ w_4_221 rfl) dX11_year_54 ?_
          exact tw_endi hx hb hr hlocks hK hT hS hQ ((iv_mono (iv_c (c := (-1000000)) (n := (-1000000)) (by decide)) (by decide) (by decide))) dX11_year_56
        · have q38 : a1.toInt ≤ 400 := ti_nlt c35
          have h39 : iv 1 400 a1 := iv_leL (y := 400) h34 (iv_c (c := 400) (n := 400) (by decide)) q38 (by decide)
          refine lv_iload_n hx hb dX11_year_45 rfl (lv_at hl 4 rfl) ?_
          refine lv_if_lt (tgt := 54) hx hb dX11_year_46 (by decide) (fun c40 => ?_) (fun c40 => ?_)
          · have q41 : a3.toInt < 0 := ti_lt c40
            have h42 : iv (-2147483648) (-1) a3 := iv_ltL (y := 0) h_a3 (iv_c (c := 0) (n := 0) (by decide)) q41 (by decide)
            refine lv_ldc hx hb hown (hW _ w_4_221 rfl) dX11_year_54 ?_
            exact tw_endi hx hb hr hlocks hK hT hS hQ ((iv_mono (iv_c (c := (-1000000)) (n := (-1000000)) (by decide)) (by decide) (by decide))) dX11_year_56
          · have q43 : 0 ≤ a3.toInt := ti_nlt c40
            have h44 : iv 0 2147483647 a3 := iv_geL (y := 0) h_a3 (iv_c (c := 0) (n := 0) (by decide)) q43 (by decide)
            refine lv_iload_n hx hb dX11_year_49 rfl (lv_at hl 4 rfl) ?_
            refine lv_iconst (v := 2) hx hb dX11_year_50 (by decide) ?_
            refine lv_icmp_le (tgt := 57) hx hb dX11_year_51 (by decide) (fun c45 => ?_) (fun c45 => ?_)
            · have q46 : a3.toInt ≤ 2 := ti_le c45
              have h47 : iv 0 2 a3 := iv_leL (y := 2) h44 (iv_c (c := 2) (n := 2) (by decide)) q46 (by decide)
              refine lv_aload_n hx hb dX11_year_57 rfl (lv_at hl 1 rfl) ?_
              refine tw_getr hx hb hW hown hK hS f_X11_62_10 hz_a0 hk_a0 (t := 4) (n := 0) rfl dX11_year_58 (fun b48 k49 hz_b48 hk_b48 hn_b48 => ?_)
              refine lv_iload_n hx hb dX11_year_61 rfl (lv_at hl 2 rfl) ?_
              refine lv_iload_n hx hb dX11_year_62 rfl (lv_at hl 3 rfl) ?_
              refine tw_gov hS (md_runV (As := [.int a1, .int a2]) (rest := []) hx hb hml hown hW hK hT hS.1 (t_X3_runYear l D cy tx base Z K N Ma Ra J5 hS.2.1 b48 hz_b48 hk_b48 a1 h39 a2 h21) s_X11_313 ⟨rfl, rfl, ⟨Nat.le_of_ble_eq_true rfl, Nat.le_of_ble_eq_true rfl⟩, ⟨Nat.le_of_ble_eq_true rfl, Nat.le_of_ble_eq_true rfl⟩⟩ hz_b48 hk_b48 (by decide) rfl rfl hl.1 rfl (Nat.le_of_ble_eq_true rfl) dX11_year_63) rfl rfl (fun H locs M53 R54 J52 hS f50 g51 E55 => ?_)
              refine lv_iload_n hx hb dX11_year_66 rfl (lv_at hl 4 rfl) ?_
              by_cases c56 : a3 = 0
              · subst c56
                refine lv_lookup (off := 25) (tgt := 92) hx hb dX11_year_67 (by decide) rfl (by decide) ?_
                refine lv_aload_n hx hb dX11_year_92 rfl (lv_at hl 1 rfl) ?_
                have k57 : R54 a0 10 = some b48 := (Fr.kp (k := 10) g51 hk_a0 rfl).trans k49
                refine tw_getrk hx hb hW hown hK hS f_X11_62_10 hz_a0 hk_a0 (b := b48) k57 dX11_year_93 ?_
                refine tw_geti hx hb hW hown hK hS f_X11_223_3 hz_b48 hk_b48 (lo := (-2147483648)) (hi := 2147483647) rfl dX11_year_96 (fun x60 k59 h58 => ?_)
                exact tw_endi hx hb hr hlocks hK hT hS hQ (h58) dX11_year_99
              by_cases c61 : a3 = 1
              · subst c61
                refine lv_lookup (off := 33) (tgt := 100) hx hb dX11_year_67 (by decide) rfl (by decide) ?_
                refine lv_aload_n hx hb dX11_year_100 rfl (lv_at hl 1 rfl) ?_
                have k62 : R54 a0 10 = some b48 := (Fr.kp (k := 10) g51 hk_a0 rfl).trans k49
                refine tw_getrk hx hb hW hown hK hS f_X11_62_10 hz_a0 hk_a0 (b := b48) k62 dX11_year_101 ?_
                refine tw_geti hx hb hW hown hK hS f_X11_220_3 hz_b48 hk_b48 (lo := (-2147483648)) (hi := 2147483647) rfl dX11_year_104 (fun x65 k64 h63 => ?_)
                exact tw_endi hx hb hr hlocks hK hT hS hQ (h63) dX11_year_107
              refine lv_lookup (off := 41) (tgt := 108) hx hb dX11_year_67 (by decide) ((lv_osw c56 (by decide)).trans ((lv_osw c61 (by decide)).trans rfl)) (by decide) ?_
              refine lv_aload_n hx hb dX11_year_108 rfl (lv_at hl 1 rfl) ?_
              have k66 : R54 a0 10 = some b48 := (Fr.kp (k := 10) g51 hk_a0 rfl).trans k49
              refine tw_getrk hx hb hW hown hK hS f_X11_62_10 hz_a0 hk_a0 (b := b48) k66 dX11_year_109 ?_
              refine tw_geti hx hb hW hown hK hS f_X11_317_3 hz_b48 hk_b48 (lo := (-2147483648)) (hi := 2147483647) rfl dX11_year_112 (fun x69 k68 h67 => ?_)
              exact tw_endi hx hb hr hlocks hK hT hS hQ (h67) dX11_year_115
            · have q70 : 2 < a3.toInt := ti_nle c45
              have h71 : iv 3 2147483647 a3 := iv_gtL (y := 2) h44 (iv_c (c := 2) (n := 2) (by decide)) q70 (by decide)
              refine lv_ldc hx hb hown (hW _ w_4_221 rfl) dX11_year_54 ?_
              exact tw_endi hx hb hr hlocks hK hT hS hQ ((iv_mono (iv_c (c := (-1000000)) (n := (-1000000)) (by decide)) (by decide) (by decide))) dX11_year_56
def Lt_X12_in : WL := []
def LRt_X12_in : WL := []
set_option maxRecDepth 100000 in
set_option maxHeartbeats 4000000 in
theorem t_X12_in (l : Launch) (D : va_G) (cy : Nat → ClassId) (tx : (Nat → Nat) × (Nat → Nat)) (base Z : Nat) (K N : Nat → Nat) (Ma : MT) (Ra : RT) (Ja : JT) (hTy : Ty Z K N Ma Ra) (a0 : Int64) (a1 : Int64) (a2 : Int64) : Met l yX12_in [Cond.code yX12_in cX12_in 6 (some .boolean)] (md_rm 1 0 0) (va_Pc [.long a0, .long a1, .long a2] (md_U D cy tx base Z K N Ma Ra Ja)) (mQi D cy tx base (fun r u => TP Z K N Lt_X12_in LRt_X12_in Ma Ra u ∧ (iv 0 1 r ∧ ((¬ r = 0 → a1.toInt ≤ a0.toInt ∧ a0.toInt ≤ a2.toInt) ∧ (r = 0 → a0.toInt < a1.toInt ∨ a2.toInt < a0.toInt))))) 0 0 (fun q => base ≤ q) := by
  refine tw_ofW (L := Lt_X12_in) (LR := LRt_X12_in) (by decide) (Nat.le_of_ble_eq_true rfl) hTy ?_
  intro p e s m args below meth c Q ls hx hb hr hlocks hown hml hW hK hT hS hQ hl
  have hl : lv_has ls 6 [(0, .long a0), (2, .long a1), (4, .long a2)] := hl
  refine lv_lload_n hx hb dX12_in_0 rfl (lv_at hl 0 rfl) ?_
  refine lv_lload_n hx hb dX12_in_1 rfl (lv_at hl 1 rfl) ?_
  refine W.lcmp hx hb dX12_in_2 ?_
  refine lv_topi (fun x3 e2 => ?_)
  have h1 := iv_any x3
  refine lv_if_lt (tgt := 17) hx hb dX12_in_3 (by decide) (fun c4 => ?_) (fun c4 => ?_)
  · have q5 : x3.toInt < 0 := ti_lt c4
    have n6 := lcm_lt e2 q5
    have h7 : iv (-2147483648) (-1) x3 := iv_ltL (y := 0) h1 (iv_c (c := 0) (n := 0) (by decide)) q5 (by decide)
    refine lv_iconst (v := 0) hx hb dX12_in_17 (by decide) ?_
    exact tw_endz hx hb hr hlocks hK hT hS hQ rfl (⟨(iv_mono (iv_c (c := 0) (n := 0) (by decide)) (by decide) (by decide)), ⟨fun h => absurd rfl h, fun _ => by omega⟩⟩) dX12_in_18
  · have q8 : 0 ≤ x3.toInt := ti_nlt c4
    have n9 := lcm_ge e2 q8
    have h10 : iv 0 2147483647 x3 := iv_geL (y := 0) h1 (iv_c (c := 0) (n := 0) (by decide)) q8 (by decide)
    refine lv_lload_n hx hb dX12_in_6 rfl (lv_at hl 0 rfl) ?_
    refine lv_lload hx hb dX12_in_7 (lv_at hl 2 rfl) ?_
    refine W.lcmp hx hb dX12_in_9 ?_
    refine lv_topi (fun x13 e12 => ?_)
    have h11 := iv_any x13
    refine lv_if_gt (tgt := 17) hx hb dX12_in_10 (by decide) (fun c14 => ?_) (fun c14 => ?_)
    · have q15 : 0 < x13.toInt := ti_lt c14
      have n16 := lcm_gt e12 q15
      have h17 : iv 1 2147483647 x13 := iv_gtL (y := 0) h11 (iv_c (c := 0) (n := 0) (by decide)) q15 (by decide)
      refine lv_iconst (v := 0) hx hb dX12_in_17 (by decide) ?_
      exact tw_endz hx hb hr hlocks hK hT hS hQ rfl (⟨(iv_mono (iv_c (c := 0) (n := 0) (by decide)) (by decide) (by decide)), ⟨fun h => absurd rfl h, fun _ => by omega⟩⟩) dX12_in_18
    · have q18 : x13.toInt ≤ 0 := ti_nlt c14
      have n19 := lcm_le e12 q18
      have h20 : iv (-2147483648) 0 x13 := iv_leL (y := 0) h11 (iv_c (c := 0) (n := 0) (by decide)) q18 (by decide)
      refine lv_iconst (v := 1) hx hb dX12_in_13 (by decide) ?_
      refine lv_goto (tgt := 18) hx hb dX12_in_14 (by decide) ?_
      exact tw_endz hx hb hr hlocks hK hT hS hQ rfl (⟨(iv_mono (iv_c (c := 1) (n := 1) (by decide)) (by decide) (by decide)), ⟨(fun _ => ⟨n9, n19⟩), fun h => absurd h (by decide)⟩⟩) dX12_in_18
def Lt_X12_isOf : WL := []
def LRt_X12_isOf : WL := []
set_option maxRecDepth 100000 in
set_option maxHeartbeats 4000000 in
theorem t_X12_isOf (l : Launch) (D : va_G) (cy : Nat → ClassId) (tx : (Nat → Nat) × (Nat → Nat)) (base Z : Nat) (K N : Nat → Nat) (Ma : MT) (Ra : RT) (Ja : JT) (hTy : Ty Z K N Ma Ra) (a0 : Int32) (h_a0 : iv (-2147483648) 2147483647 a0) (a1 : Int32) (h_a1 : iv 0 9 a1) : Met l yX12_isOf [Cond.code yX12_isOf cX12_isOf 2 (some .boolean)] (md_rm 1 0 0) (va_Pc [.int a0, .int a1] (md_U D cy tx base Z K N Ma Ra Ja)) (mQi D cy tx base (fun r u => TP Z K N Lt_X12_isOf LRt_X12_isOf Ma Ra u ∧ (iv 0 1 r))) 0 0 (fun q => base ≤ q) := by
  refine tw_ofW (L := Lt_X12_isOf) (LR := LRt_X12_isOf) (by decide) (Nat.le_of_ble_eq_true rfl) hTy ?_
  intro p e s m args below meth c Q ls hx hb hr hlocks hown hml hW hK hT hS hQ hl
  have hl : lv_has ls 2 [(0, .int a0), (1, .int a1)] := hl
  refine lv_iload_n hx hb dX12_isOf_0 rfl (lv_at hl 0 rfl) ?_
  refine lv_iload_n hx hb dX12_isOf_1 rfl (lv_at hl 1 rfl) ?_
  refine lv_ishr hx hb dX12_isOf_2 ?_
  refine tw_top (fun x2 => ?_)
  have h1 := iv_any x2
  refine lv_iconst (v := 1) hx hb dX12_isOf_3 (by decide) ?_
  refine tw_iand (hi := 1) hx hb (iv_mono (iv_c (c := 1) (n := 1) (by decide)) (lo := 0) (hi := 1) (by decide) (by decide)) (by decide) dX12_isOf_4 (fun x5 h3 => ?_)
  refine lv_iconst (v := 1) hx hb dX12_isOf_5 (by decide) ?_
  refine lv_icmp_ne (tgt := 13) hx hb dX12_isOf_6 (by decide) (fun c6 => ?_) (fun c6 => ?_)
  · have q7 : ¬ x5.toInt = 1 := ti_ne c6
    have h8 : iv 0 0 x5 := ⟨by have := (h3).1; have := ((iv_c (c := 1) (n := 1) (by decide))).1; have := ((iv_c (c := 1) (n := 1) (by decide))).2; omega, by have := (h3).2; have := ((iv_c (c := 1) (n := 1) (by decide))).1; have := ((iv_c (c := 1) (n := 1) (by decide))).2; omega⟩
    refine lv_iconst (v := 0) hx hb dX12_isOf_13 (by decide) ?_
    exact tw_endz hx hb hr hlocks hK hT hS hQ rfl ((iv_mono (iv_c (c := 0) (n := 0) (by decide)) (by decide) (by decide))) dX12_isOf_14
  · have q9 : x5.toInt = 1 := ti_eq c6
    have h10 : iv 1 1 x5 := ⟨by have := (h3).1; have := ((iv_c (c := 1) (n := 1) (by decide))).1; omega, by have := (h3).2; have := ((iv_c (c := 1) (n := 1) (by decide))).2; omega⟩
    refine lv_iconst (v := 1) hx hb dX12_isOf_9 (by decide) ?_
    refine lv_goto (tgt := 14) hx hb dX12_isOf_10 (by decide) ?_
    exact tw_endz hx hb hr hlocks hK hT hS hQ rfl ((iv_mono (iv_c (c := 1) (n := 1) (by decide)) (by decide) (by decide))) dX12_isOf_14
def Lt_X12_plain : WL := []
def LRt_X12_plain : WL := []
set_option maxRecDepth 100000 in
set_option maxHeartbeats 4000000 in
theorem t_X12_plain (l : Launch) (D : va_G) (cy : Nat → ClassId) (tx : (Nat → Nat) × (Nat → Nat)) (base Z : Nat) (K N : Nat → Nat) (Ma : MT) (Ra : RT) (Ja : JT) (hTy : Ty Z K N Ma Ra) (a0 : Int32) (h_a0 : iv (-2147483648) 2147483647 a0) : Met l yX12_plain [Cond.code yX12_plain cX12_plain 1 (some .int)] (md_rm 1 0 0) (va_Pc [.int a0] (md_U D cy tx base Z K N Ma Ra Ja)) (mQi D cy tx base (fun r u => TP Z K N Lt_X12_plain LRt_X12_plain Ma Ra u ∧ (iv (-2147483648) 2147483647 r))) 0 0 (fun q => base ≤ q) := by
  refine tw_ofW (L := Lt_X12_plain) (LR := LRt_X12_plain) (by decide) (Nat.le_of_ble_eq_true rfl) hTy ?_
  intro p e s m args below meth c Q ls hx hb hr hlocks hown hml hW hK hT hS hQ hl
  have hl : lv_has ls 1 [(0, .int a0)] := hl
  refine lv_iload_n hx hb dX12_plain_0 rfl (lv_at hl 0 rfl) ?_
  refine lv_if_ge (tgt := 9) hx hb dX12_plain_1 (by decide) (fun c1 => ?_) (fun c1 => ?_)
  · have q2 : 0 ≤ a0.toInt := ti_le c1
    have h3 : iv 0 2147483647 a0 := iv_geL (y := 0) h_a0 (iv_c (c := 0) (n := 0) (by decide)) q2 (by decide)
    refine lv_iload_n hx hb dX12_plain_9 rfl (lv_at hl 0 rfl) ?_
    exact tw_endi hx hb hr hlocks hK hT hS hQ ((iv_mono h3 (by decide) (by decide))) dX12_plain_10
  · have q4 : a0.toInt < 0 := ti_nle c1
    have h5 : iv (-2147483648) (-1) a0 := iv_ltL (y := 0) h_a0 (iv_c (c := 0) (n := 0) (by decide)) q4 (by decide)
    refine lv_iload_n hx hb dX12_plain_4 rfl (lv_at hl 0 rfl) ?_
    refine lv_ineg hx hb dX12_plain_5 ?_
    refine tw_top (fun x7 => ?_)
    have h6 := iv_any x7
    refine lv_goto (tgt := 10) hx hb dX12_plain_6 (by decide) ?_
    exact tw_endi hx hb hr hlocks hK hT hS hQ (h6) dX12_plain_10
def Lt_X12_one : WL := []
def LRt_X12_one : WL := []
set_option maxRecDepth 100000 in
set_option maxHeartbeats 4000000 in
theorem t_X12_one (l : Launch) (D : va_G) (cy : Nat → ClassId) (tx : (Nat → Nat) × (Nat → Nat)) (base Z : Nat) (K N : Nat → Nat) (Ma : MT) (Ra : RT) (Ja : JT) (hTy : Ty Z K N Ma Ra) (a0 : Int32) (h_a0 : iv 2 15 a0) (a1 : Int64) (a2 : Int64) : Met l yX12_one [Cond.code yX12_one cX12_one 5 (some .long)] (md_rm 1 0 0) (va_Pc [.int a0, .long a1, .long a2] (md_U D cy tx base Z K N Ma Ra Ja)) (mQl D cy tx base (fun r u => TP Z K N Lt_X12_one LRt_X12_one Ma Ra u ∧ (True))) 0 0 (fun q => base ≤ q) := by
  refine tw_ofW (L := Lt_X12_one) (LR := LRt_X12_one) (by decide) (Nat.le_of_ble_eq_true rfl) hTy ?_
  intro p e s m args below meth c Q ls hx hb hr hlocks hown hml hW hK hT hS hQ hl
  have hl : lv_has ls 5 [(0, .int a0), (1, .long a1), (3, .long a2)] := hl
  refine lv_iload_n hx hb dX12_one_0 rfl (lv_at hl 0 rfl) ?_
  by_cases c1 : a0 = 2
  · subst c1
    refine lv_tableIn (off := 59) (tgt := 60) hx hb dX12_one_1 (by decide) (by decide) rfl (by decide) ?_
    refine lv_lload_n hx hb dX12_one_60 rfl (lv_at hl 1 rfl) ?_
    refine lv_lload_n hx hb dX12_one_61 rfl (lv_at hl 2 rfl) ?_
    refine lv_ladd hx hb dX12_one_62 ?_
    refine tw_topl (fun x2 => ?_)
    exact tw_endl hx hb hr hlocks hK hT hS hQ (trivial) dX12_one_63
  have q3 : ¬ a0.toInt = 2 := ti_ne c1
  by_cases c4 : a0 = 3
  · subst c4
    refine lv_tableIn (off := 63) (tgt := 64) hx hb dX12_one_1 (by decide) (by decide) rfl (by decide) ?_
    refine lv_lload_n hx hb dX12_one_64 rfl (lv_at hl 1 rfl) ?_
    refine lv_lload_n hx hb dX12_one_65 rfl (lv_at hl 2 rfl) ?_
    refine lv_lsub hx hb dX12_one_66 ?_
    refine tw_topl (fun x5 => ?_)
    exact tw_endl hx hb hr hlocks hK hT hS hQ (trivial) dX12_one_67
  have q6 : ¬ a0.toInt = 3 := ti_ne c4
  by_cases c7 : a0 = 4
  · subst c7
    refine lv_tableIn (off := 67) (tgt := 68) hx hb dX12_one_1 (by decide) (by decide) rfl (by decide) ?_
    refine lv_lload_n hx hb dX12_one_68 rfl (lv_at hl 1 rfl) ?_
    refine lv_lload_n hx hb dX12_one_69 rfl (lv_at hl 2 rfl) ?_
    refine lv_lmul hx hb dX12_one_70 ?_
    refine tw_topl (fun x8 => ?_)
    exact tw_endl hx hb hr hlocks hK hT hS hQ (trivial) dX12_one_71
  have q9 : ¬ a0.toInt = 4 := ti_ne c7
  by_cases c10 : a0 = 5
  · subst c10
    refine lv_tableIn (off := 71) (tgt := 72) hx hb dX12_one_1 (by decide) (by decide) rfl (by decide) ?_
    refine lv_lload_n hx hb dX12_one_72 rfl (lv_at hl 2 rfl) ?_
    refine lv_lconst (v := 0) hx hb dX12_one_73 (by decide) ?_
    refine W.lcmp hx hb dX12_one_74 ?_
    refine lv_topi (fun x13 e12 => ?_)
    have h11 := iv_any x13
    refine lv_if_ne (tgt := 82) hx hb dX12_one_75 (by decide) (fun c14 => ?_) (fun c14 => ?_)
    · have q15 : ¬ x13.toInt = 0 := ti_ne c14
      have n16 := md_lne e12 c14
      refine lv_lload_n hx hb dX12_one_82 rfl (lv_at hl 1 rfl) ?_
      refine lv_lload_n hx hb dX12_one_83 rfl (lv_at hl 2 rfl) ?_
      refine lv_ldiv hx hb dX12_one_84 n16 ?_
      refine tw_topl (fun x17 => ?_)
      exact tw_endl hx hb hr hlocks hK hT hS hQ (trivial) dX12_one_85
    · have q18 : x13.toInt = 0 := ti_eq c14
      have h19 : iv 0 0 x13 := ⟨by have := (h11).1; have := ((iv_c (c := 0) (n := 0) (by decide))).1; omega, by have := (h11).2; have := ((iv_c (c := 0) (n := 0) (by decide))).2; omega⟩
      refine lv_lconst (v := 0) hx hb dX12_one_78 (by decide) ?_
      refine lv_goto (tgt := 85) hx hb dX12_one_79 (by decide) ?_
      exact tw_endl hx hb hr hlocks hK hT hS hQ (trivial) dX12_one_85
  have q20 : ¬ a0.toInt = 5 := ti_ne c10
  by_cases c21 : a0 = 6
  · subst c21
    refine lv_tableIn (off := 85) (tgt := 86) hx hb dX12_one_1 (by decide) (by decide) rfl (by decide) ?_
    refine lv_lload_n hx hb dX12_one_86 rfl (lv_at hl 1 rfl) ?_
    refine lv_lload_n hx hb dX12_one_87 rfl (lv_at hl 2 rfl) ?_
    refine W.lcmp hx hb dX12_one_88 ?_
    refine lv_topi (fun x24 e23 => ?_)
    have h22 := iv_any x24
    refine lv_if_ge (tgt := 96) hx hb dX12_one_89 (by decide) (fun c25 => ?_) (fun c25 => ?_)
    · have q26 : 0 ≤ x24.toInt := ti_le c25
      have n27 := lcm_ge e23 q26
      have h28 : iv 0 2147483647 x24 := iv_geL (y := 0) h22 (iv_c (c := 0) (n := 0) (by decide)) q26 (by decide)
      refine lv_lconst (v := 0) hx hb dX12_one_96 (by decide) ?_
      exact tw_endl hx hb hr hlocks hK hT hS hQ (trivial) dX12_one_97
    · have q29 : x24.toInt < 0 := ti_nle c25
      have n30 := lcm_lt e23 q29
      have h31 : iv (-2147483648) (-1) x24 := iv_ltL (y := 0) h22 (iv_c (c := 0) (n := 0) (by decide)) q29 (by decide)
      refine lv_lconst (v := 1) hx hb dX12_one_92 (by decide) ?_
      refine lv_goto (tgt := 97) hx hb dX12_one_93 (by decide) ?_
      exact tw_endl hx hb hr hlocks hK hT hS hQ (trivial) dX12_one_97
  have q32 : ¬ a0.toInt = 6 := ti_ne c21
  by_cases c33 : a0 = 7
  · subst c33
    refine lv_tableIn (off := 97) (tgt := 98) hx hb dX12_one_1 (by decide) (by decide) rfl (by decide) ?_
    refine lv_lload_n hx hb dX12_one_98 rfl (lv_at hl 1 rfl) ?_
    refine lv_lload_n hx hb dX12_one_99 rfl (lv_at hl 2 rfl) ?_
    refine W.lcmp hx hb dX12_one_100 ?_
    refine lv_topi (fun x36 e35 => ?_)
    have h34 := iv_any x36
    refine lv_if_gt (tgt := 108) hx hb dX12_one_101 (by decide) (fun c37 => ?_) (fun c37 => ?_)
    · have q38 : 0 < x36.toInt := ti_lt c37
      have n39 := lcm_gt e35 q38
      have h40 : iv 1 2147483647 x36 := iv_gtL (y := 0) h34 (iv_c (c := 0) (n := 0) (by decide)) q38 (by decide)
      refine lv_lconst (v := 0) hx hb dX12_one_108 (by decide) ?_
      exact tw_endl hx hb hr hlocks hK hT hS hQ (trivial) dX12_one_109
    · have q41 : x36.toInt ≤ 0 := ti_nlt c37
      have n42 := lcm_le e35 q41
      have h43 : iv (-2147483648) 0 x36 := iv_leL (y := 0) h34 (iv_c (c := 0) (n := 0) (by decide)) q41 (by decide)
      refine lv_lconst (v := 1) hx hb dX12_one_104 (by decide) ?_
      refine lv_goto (tgt := 109) hx hb dX12_one_105 (by decide) ?_
      exact tw_endl hx hb hr hlocks hK hT hS hQ (trivial) dX12_one_109
  have q44 : ¬ a0.toInt = 7 := ti_ne c33
  by_cases c45 : a0 = 8
  · subst c45
    refine lv_tableIn (off := 109) (tgt := 110) hx hb dX12_one_1 (by decide) (by decide) rfl (by decide) ?_
    refine lv_lload_n hx hb dX12_one_110 rfl (lv_at hl 1 rfl) ?_
    refine lv_lload_n hx hb dX12_one_111 rfl (lv_at hl 2 rfl) ?_
    refine W.lcmp hx hb dX12_one_112 ?_
    refine lv_topi (fun x48 e47 => ?_)
    have h46 := iv_any x48
    refine lv_if_ne (tgt := 120) hx hb dX12_one_113 (by decide) (fun c49 => ?_) (fun c49 => ?_)
    · have q50 : ¬ x48.toInt = 0 := ti_ne c49
      have n51 := md_lne e47 c49
      refine lv_lconst (v := 0) hx hb dX12_one_120 (by decide) ?_
      exact tw_endl hx hb hr hlocks hK hT hS hQ (trivial) dX12_one_121
    · have q52 : x48.toInt = 0 := ti_eq c49
      have h53 : iv 0 0 x48 := ⟨by have := (h46).1; have := ((iv_c (c := 0) (n := 0) (by decide))).1; omega, by have := (h46).2; have := ((iv_c (c := 0) (n := 0) (by decide))).2; omega⟩
      refine lv_lconst (v := 1) hx hb dX12_one_116 (by decide) ?_
      refine lv_goto (tgt := 121) hx hb dX12_one_117 (by decide) ?_
      exact tw_endl hx hb hr hlocks hK hT hS hQ (trivial) dX12_one_121
  have q54 : ¬ a0.toInt = 8 := ti_ne c45
  by_cases c55 : a0 = 9
  · subst c55
    refine lv_tableIn (off := 121) (tgt := 122) hx hb dX12_one_1 (by decide) (by decide) rfl (by decide) ?_
    refine lv_lload_n hx hb dX12_one_122 rfl (lv_at hl 1 rfl) ?_
    refine lv_lload_n hx hb dX12_one_123 rfl (lv_at hl 2 rfl) ?_
    refine W.lcmp hx hb dX12_one_124 ?_
    refine lv_topi (fun x58 e57 => ?_)
    have h56 := iv_any x58
    refine lv_if_lt (tgt := 132) hx hb dX12_one_125 (by decide) (fun c59 => ?_) (fun c59 => ?_)
    · have q60 : x58.toInt < 0 := ti_lt c59
      have n61 := lcm_lt e57 q60
      have h62 : iv (-2147483648) (-1) x58 := iv_ltL (y := 0) h56 (iv_c (c := 0) (n := 0) (by decide)) q60 (by decide)
      refine lv_lconst (v := 0) hx hb dX12_one_132 (by decide) ?_
      exact tw_endl hx hb hr hlocks hK hT hS hQ (trivial) dX12_one_133
    · have q63 : 0 ≤ x58.toInt := ti_nlt c59
      have n64 := lcm_ge e57 q63
      have h65 : iv 0 2147483647 x58 := iv_geL (y := 0) h56 (iv_c (c := 0) (n := 0) (by decide)) q63 (by decide)
      refine lv_lconst (v := 1) hx hb dX12_one_128 (by decide) ?_
      refine lv_goto (tgt := 133) hx hb dX12_one_129 (by decide) ?_
      exact tw_endl hx hb hr hlocks hK hT hS hQ (trivial) dX12_one_133
  have q66 : ¬ a0.toInt = 9 := ti_ne c55
  by_cases c67 : a0 = 10
  · subst c67
    refine lv_tableIn (off := 133) (tgt := 134) hx hb dX12_one_1 (by decide) (by decide) rfl (by decide) ?_
    refine lv_lload_n hx hb dX12_one_134 rfl (lv_at hl 1 rfl) ?_
    refine lv_lload_n hx hb dX12_one_135 rfl (lv_at hl 2 rfl) ?_
    refine W.lcmp hx hb dX12_one_136 ?_
    refine lv_topi (fun x70 e69 => ?_)
    have h68 := iv_any x70
    refine lv_if_le (tgt := 144) hx hb dX12_one_137 (by decide) (fun c71 => ?_) (fun c71 => ?_)
    · have q72 : x70.toInt ≤ 0 := ti_le c71
      have n73 := lcm_le e69 q72
      have h74 : iv (-2147483648) 0 x70 := iv_leL (y := 0) h68 (iv_c (c := 0) (n := 0) (by decide)) q72 (by decide)
      refine lv_lconst (v := 0) hx hb dX12_one_144 (by decide) ?_
      exact tw_endl hx hb hr hlocks hK hT hS hQ (trivial) dX12_one_145
    · have q75 : 0 < x70.toInt := ti_nle c71
      have n76 := lcm_gt e69 q75
      have h77 : iv 1 2147483647 x70 := iv_gtL (y := 0) h68 (iv_c (c := 0) (n := 0) (by decide)) q75 (by decide)
      refine lv_lconst (v := 1) hx hb dX12_one_140 (by decide) ?_
      refine lv_goto (tgt := 145) hx hb dX12_one_141 (by decide) ?_
      exact tw_endl hx hb hr hlocks hK hT hS hQ (trivial) dX12_one_145
  have q78 : ¬ a0.toInt = 10 := ti_ne c67
  by_cases c79 : a0 = 11
  · subst c79
    refine lv_tableIn (off := 149) (tgt := 150) hx hb dX12_one_1 (by decide) (by decide) rfl (by decide) ?_
    refine lv_lload_n hx hb dX12_one_150 rfl (lv_at hl 1 rfl) ?_
    refine lv_lload_n hx hb dX12_one_151 rfl (lv_at hl 2 rfl) ?_
    refine lv_lor hx hb dX12_one_152 ?_
    refine tw_topl (fun x80 => ?_)
    exact tw_endl hx hb hr hlocks hK hT hS hQ (trivial) dX12_one_153
  have q81 : ¬ a0.toInt = 11 := ti_ne c79
  by_cases c82 : a0 = 12
  · subst c82
    refine lv_tableIn (off := 145) (tgt := 146) hx hb dX12_one_1 (by decide) (by decide) rfl (by decide) ?_
    refine lv_lload_n hx hb dX12_one_146 rfl (lv_at hl 1 rfl) ?_
    refine lv_lload_n hx hb dX12_one_147 rfl (lv_at hl 2 rfl) ?_
    refine lv_land hx hb dX12_one_148 ?_
    refine tw_topl (fun x83 => ?_)
    exact tw_endl hx hb hr hlocks hK hT hS hQ (trivial) dX12_one_149
  have q84 : ¬ a0.toInt = 12 := ti_ne c82
  refine lv_tableOut (tgt := 150) hx hb dX12_one_1 (by have := (h_a0).1; have := (h_a0).2; omega) (by decide) ?_
  have h85 : iv 13 15 a0 := ⟨by have := (h_a0).1; omega, (h_a0).2⟩
  refine lv_lload_n hx hb dX12_one_150 rfl (lv_at hl 1 rfl) ?_
  refine lv_lload_n hx hb dX12_one_151 rfl (lv_at hl 2 rfl) ?_
  refine lv_lor hx hb dX12_one_152 ?_
  refine tw_topl (fun x86 => ?_)
  exact tw_endl hx hb hr hlocks hK hT hS hQ (trivial) dX12_one_153
def Lt_X12_pop : WL := [(12, 23, 24)]
def LRt_X12_pop : WL := []
set_option maxRecDepth 100000 in
set_option maxHeartbeats 4000000 in
theorem t_X12_pop (l : Launch) (D : va_G) (cy : Nat → ClassId) (tx : (Nat → Nat) × (Nat → Nat)) (base Z : Nat) (K N : Nat → Nat) (Ma : MT) (Ra : RT) (Ja : JT) (hTy : Ty Z K N Ma Ra) (a0 : Nat) (hz_a0 : a0 < Z) (hk_a0 : K a0 = 12) (tp : Int32) (k_tp : Ma a0 23 = tp) (h_tp : iv 1 64 tp) : Met l yX12_pop [Cond.code yX12_pop cX12_pop 1 (some .long)] (md_rm 1 0 0) (va_Pc [.ref (base + a0)] (md_U D cy tx base Z K N Ma Ra Ja)) (mQl D cy tx base (fun r u => TP Z K N Lt_X12_pop LRt_X12_pop Ma Ra u ∧ ((∃ x : Int32, u.2.2.2.1 a0 23 = x ∧ iv 0 63 x ∧ (x.toInt = tp.toInt - 1))))) 0 0 (fun q => base ≤ q) := by
  refine tw_ofW (L := Lt_X12_pop) (LR := LRt_X12_pop) (by decide) (Nat.le_of_ble_eq_true rfl) hTy ?_
  intro p e s m args below meth c Q ls hx hb hr hlocks hown hml hW hK hT hS hQ hl
  have hl : lv_has ls 1 [(0, .ref (base + a0))] := hl
  refine lv_aload_n hx hb dX12_pop_0 rfl (lv_at hl 0 rfl) ?_
  refine lv_dup hx hb dX12_pop_1 rfl ?_
  refine tw_getk hx hb hW hown hK hS f_X12_304_11 hz_a0 hk_a0 (v := tp) k_tp dX12_pop_2 ?_
  refine lv_iconst (v := 1) hx hb dX12_pop_5 (by decide) ?_
  refine tw_isub (lo := 0) (hi := 63) hx hb h_tp (iv_c (c := 1) (n := 1) (by decide)) ⟨by decide, by decide⟩ ⟨by decide, by decide⟩ dX12_pop_6 (fun x3 e2 h1 => ?_)
  have e2 : x3.toInt = tp.toInt - 1 := e2
  refine tw_puti hx hb hW hown hK hS f_X12_304_11 hz_a0 hk_a0 rfl rfl (lo := 0) (hi := 64) rfl (iv_mono h1 (by decide) (by decide)) rfl dX12_pop_7 (fun H locs M6 hS k4 f5 => ?_)
  refine lv_aload_n hx hb dX12_pop_10 rfl (lv_at hl 0 rfl) ?_
  refine tw_getr hx hb hW hown hK hS f_X12_38_11 hz_a0 hk_a0 (t := 15) (n := 64) rfl dX12_pop_11 (fun b7 k8 hz_b7 hk_b7 hn_b7 => ?_)
  have hn_b7 := hn_b7 (by decide)
  refine lv_aload_n hx hb dX12_pop_14 rfl (lv_at hl 0 rfl) ?_
  refine tw_getk hx hb hW hown hK hS f_X12_304_11 hz_a0 hk_a0 (v := x3) k4 dX12_pop_15 ?_
  refine tw_lald hx hb hK hS hz_b7 hk_b7 hn_b7 h1 ⟨by decide, by decide⟩ dX12_pop_18 (fun x9 => ?_)
  have q10 : x3.toInt = tp.toInt - 1 := by
    have := (h_tp).1; have := (h_tp).2; have := (h1).1; have := (h1).2; omega
  exact tw_endl hx hb hr hlocks hK hT hS hQ (⟨x3, k4, h1, q10⟩) dX12_pop_19
def Lt_X12_push : WL := [(12, 23, 24)]
def LRt_X12_push : WL := []
set_option maxRecDepth 100000 in
set_option maxHeartbeats 4000000 in
theorem t_X12_push (l : Launch) (D : va_G) (cy : Nat → ClassId) (tx : (Nat → Nat) × (Nat → Nat)) (base Z : Nat) (K N : Nat → Nat) (Ma : MT) (Ra : RT) (Ja : JT) (hTy : Ty Z K N Ma Ra) (a0 : Nat) (hz_a0 : a0 < Z) (hk_a0 : K a0 = 12) (a1 : Int64) (tp : Int32) (k_tp : Ma a0 23 = tp) (h_tp : iv 0 63 tp) : Met l yX12_push [Cond.code yX12_push cX12_push 3 none] (md_rm 1 0 0) (va_Pc [.ref (base + a0), .long a1] (md_U D cy tx base Z K N Ma Ra Ja)) (mQv D cy tx base (fun u => TP Z K N Lt_X12_push LRt_X12_push Ma Ra u ∧ ((∃ x : Int32, u.2.2.2.1 a0 23 = x ∧ iv 1 64 x ∧ (x.toInt = tp.toInt + 1))))) 0 0 (fun q => base ≤ q) := by
  refine tw_ofW (L := Lt_X12_push) (LR := LRt_X12_push) (by decide) (Nat.le_of_ble_eq_true rfl) hTy ?_
  intro p e s m args below meth c Q ls hx hb hr hlocks hown hml hW hK hT hS hQ hl
  have hl : lv_has ls 3 [(0, .ref (base + a0)), (1, .long a1)] := hl
  refine lv_aload_n hx hb dX12_push_0 rfl (lv_at hl 0 rfl) ?_
  refine tw_getr hx hb hW hown hK hS f_X12_38_11 hz_a0 hk_a0 (t := 15) (n := 64) rfl dX12_push_1 (fun b1 k2 hz_b1 hk_b1 hn_b1 => ?_)
  have hn_b1 := hn_b1 (by decide)
  refine lv_aload_n hx hb dX12_push_4 rfl (lv_at hl 0 rfl) ?_
  refine tw_getk hx hb hW hown hK hS f_X12_304_11 hz_a0 hk_a0 (v := tp) k_tp dX12_push_5 ?_
  refine lv_lload_n hx hb dX12_push_8 rfl (lv_at hl 1 rfl) ?_
  refine tw_last hx hb hK hS hz_b1 hk_b1 hn_b1 h_tp ⟨by decide, by decide⟩ dX12_push_9 (fun H locs J3 hS => ?_)
  refine lv_aload_n hx hb dX12_push_10 rfl (lv_at hl 0 rfl) ?_
  refine lv_dup hx hb dX12_push_11 rfl ?_
  refine tw_getk hx hb hW hown hK hS f_X12_304_11 hz_a0 hk_a0 (v := tp) k_tp dX12_push_12 ?_
  refine lv_iconst (v := 1) hx hb dX12_push_15 (by decide) ?_
  refine tw_iadd (lo := 1) (hi := 64) hx hb h_tp (iv_c (c := 1) (n := 1) (by decide)) ⟨by decide, by decide⟩ ⟨by decide, by decide⟩ dX12_push_16 (fun x6 e5 h4 => ?_)
  have e5 : x6.toInt = tp.toInt + 1 := e5
  refine tw_puti hx hb hW hown hK hS f_X12_304_11 hz_a0 hk_a0 rfl rfl (lo := 0) (hi := 64) rfl (iv_mono h4 (by decide) (by decide)) rfl dX12_push_17 (fun H locs M9 hS k7 f8 => ?_)
  have q10 : x6.toInt = tp.toInt + 1 := by
    have := (h_tp).1; have := (h_tp).2; have := (h4).1; have := (h4).2; omega
  exact tw_endv hx hb hr hlocks hK hT hS hQ (⟨x6, k7, h4, q10⟩) dX12_push_20
