def Lt_X11_entry : WL := [(10, 8, 9), (14, 0, 2000000)]
def LRt_X11_entry : WL := []
set_option maxRecDepth 100000 in
set_option maxHeartbeats 4000000 in
theorem t_X11_entry (l : Launch) (D : va_G) (cy : Nat → ClassId) (tx : (Nat → Nat) × (Nat → Nat)) (base Z : Nat) (K N : Nat → Nat) (Ma : MT) (Ra : RT) (Ja : JT) (hTy : Ty Z K N Ma Ra) (a0 : Nat) (hz_a0 : a0 < Z) (hk_a0 : K a0 = 11) (a1 : Int32) (h_a1 : iv (-2147483648) 2147483647 a1) (a2 : Int32) (h_a2 : iv (-2147483648) 2147483647 a2) (a3 : Int32) (h_a3 : iv (-2147483648) 2147483647 a3) (a4 : Int32) (h_a4 : iv (-2147483648) 2147483647 a4) : Met l yX11_entry [Cond.code yX11_entry cX11_entry 6 (some .int)] (md_rm 2 0 0) (va_Pc [.ref (base + a0), .int a1, .int a2, .int a3, .int a4] (md_U D cy tx base Z K N Ma Ra Ja)) (mQi D cy tx base (fun r u => TP Z K N Lt_X11_entry LRt_X11_entry Ma Ra u ∧ (iv (-2) 12 r))) 0 0 (fun q => base ≤ q) := by
  refine tw_ofW (L := Lt_X11_entry) (LR := LRt_X11_entry) (by decide) (Nat.le_of_ble_eq_true rfl) hTy ?_
  intro p e s m args below meth c Q ls hx hb hr hlocks hown hml hW hK hT hS hQ hl
  have hl : lv_has ls 6 [(0, .ref (base + a0)), (1, .int a1), (2, .int a2), (3, .int a3), (4, .int a4)] := hl
  refine lv_iload_n hx hb dX11_entry_0 rfl (lv_at hl 1 rfl) ?_
  refine lv_iconst (v := (-1)) hx hb dX11_entry_1 (by decide) ?_
  refine lv_icmp_ne (tgt := 15) hx hb dX11_entry_2 (by decide) (fun c1 => ?_) (fun c1 => ?_)
  · have q2 : ¬ a1.toInt = (-1) := ti_ne c1
    refine lv_aload_n hx hb dX11_entry_15 rfl (lv_at hl 0 rfl) ?_
    refine tw_getr hx hb hW hown hK hS f_X11_31_10 hz_a0 hk_a0 (t := 10) (n := 0) rfl dX11_entry_16 (fun b3 k4 hz_b3 hk_b3 hn_b3 => ?_)
    refine lv_iload_n hx hb dX11_entry_19 rfl (lv_at hl 1 rfl) ?_
    refine tw_goi hS (md_runV (As := [.int a1]) (rest := []) hx hb hml hown hW hK hT hS.1 (t_X9_hasSet l D cy tx base Z K N Ma Ra Ja hS.2.1 b3 hz_b3 hk_b3 a1 h_a1) s_X11_199 ⟨rfl, rfl, ⟨Nat.le_of_ble_eq_true rfl, Nat.le_of_ble_eq_true rfl⟩, ⟨Nat.le_of_ble_eq_true rfl, Nat.le_of_ble_eq_true rfl⟩⟩ hz_b3 hk_b3 (by decide) rfl rfl hl.1 rfl (Nat.le_of_ble_eq_true rfl) dX11_entry_20) rfl rfl (fun x11 H locs M8 R9 J7 hS f5 g6 E10 => ?_)
    have eM8 := Fr.nil f5 rfl
    subst eM8
    have eR9 := Fr.nil g6 rfl
    subst eR9
    have h_x11 := E10
    clear E10
    have J47_12 : ∀  (M12 : MT) (R13 : RT) (J14 : JT) (H : Heap) (locs : List Loc) (ls : Array Slot) (hS : SB D cy base Z K N Lt_X11_entry LRt_X11_entry Ma Ra M12 R13 J14 s H locs) (hl : lv_has ls 6 [(0, .ref (base + a0)), (1, .int a1), (2, .int a2), (3, .int a3), (4, .int a4)]), W p l e (md_rm 2 0 0) s m args below meth c H locs 0 0 Q (F0 m 47 ls []) := by
      intro  M12 R13 J14 H locs ls  hS hl
      have f15 := hS.2.2.1
      have g16 := hS.2.2.2
      refine lv_iconst (v := 0) hx hb dX11_entry_47 (by decide) ?_
      refine lv_istore (lv' := [(5, .int 0), (0, .ref (base + a0)), (1, .int a1), (2, .int a2), (3, .int a3), (4, .int a4)]) hx hb dX11_entry_48 hl (by decide) rfl (fun ls hl => ?_)
      refine lv_iload hx hb dX11_entry_50 (lv_at hl 0 rfl) ?_
      refine lv_if_eq (tgt := 70) hx hb dX11_entry_52 (by decide) (fun _ => ?_) (fun h => absurd h (by decide))
      refine lv_aload_n hx hb dX11_entry_70 rfl (lv_at hl 1 rfl) ?_
      refine lv_iconst (v := 0) hx hb dX11_entry_71 (by decide) ?_
      refine tw_goi hS (md_runV (As := [.int 0]) (rest := []) hx hb hml hown hW hK hT hS.1 (t_X11_refuse l D cy tx base Z K N M12 R13 J14 hS.2.1 a0 hz_a0 hk_a0 0 (iv_mono (iv_c (c := 0) (n := 0) (by decide)) (by decide) (by decide))) s_X11_158 ⟨rfl, rfl, ⟨Nat.le_of_ble_eq_true rfl, Nat.le_of_ble_eq_true rfl⟩, ⟨Nat.le_of_ble_eq_true rfl, Nat.le_of_ble_eq_true rfl⟩⟩ hz_a0 hk_a0 (by decide) rfl rfl hl.1 rfl (Nat.le_of_ble_eq_true rfl) dX11_entry_72) rfl rfl (fun x23 H locs M20 R21 J19 hS f17 g18 E22 => ?_)
      have eR21 := Fr.nil g18 rfl
      subst eR21
      have h_x23 := E22
      clear E22
      exact tw_endi hx hb hr hlocks hK hT hS hQ ((iv_mono h_x23 (by decide) (by decide))) dX11_entry_75
    refine lv_if_eq (tgt := 47) hx hb dX11_entry_23 (by decide) (fun c24 => ?_) (fun c24 => ?_)
    · have q25 : x11.toInt = 0 := ti_eq c24
      have h26 : iv 0 0 x11 := ⟨by have := (h_x11).1; have := ((iv_c (c := 0) (n := 0) (by decide))).1; omega, by have := (h_x11).2; have := ((iv_c (c := 0) (n := 0) (by decide))).2; omega⟩
      exact J47_12  Ma Ra J7 H locs _  hS hl
    · have q27 : ¬ x11.toInt = 0 := ti_ne c24
      have h28 : iv 1 1 x11 := ⟨by have := (h_x11).1; have := ((iv_c (c := 0) (n := 0) (by decide))).1; have := ((iv_c (c := 0) (n := 0) (by decide))).2; omega, by have := (h_x11).2; have := ((iv_c (c := 0) (n := 0) (by decide))).1; have := ((iv_c (c := 0) (n := 0) (by decide))).2; omega⟩
      refine lv_aload_n hx hb dX11_entry_26 rfl (lv_at hl 0 rfl) ?_
      refine tw_getrk hx hb hW hown hK hS f_X11_31_10 hz_a0 hk_a0 (b := b3) k4 dX11_entry_27 ?_
      refine lv_iload_n hx hb dX11_entry_30 rfl (lv_at hl 2 rfl) ?_
      refine tw_goi hS (md_runV (As := [.int a2]) (rest := []) hx hb hml hown hW hK hT hS.1 (t_X9_hasSet l D cy tx base Z K N Ma Ra J7 hS.2.1 b3 hz_b3 hk_b3 a2 h_a2) s_X11_199 ⟨rfl, rfl, ⟨Nat.le_of_ble_eq_true rfl, Nat.le_of_ble_eq_true rfl⟩, ⟨Nat.le_of_ble_eq_true rfl, Nat.le_of_ble_eq_true rfl⟩⟩ hz_b3 hk_b3 (by decide) rfl rfl hl.1 rfl (Nat.le_of_ble_eq_true rfl) dX11_entry_31) rfl rfl (fun x35 H locs M32 R33 J31 hS f29 g30 E34 => ?_)
      have eM32 := Fr.nil f29 rfl
      subst eM32
      have eR33 := Fr.nil g30 rfl
      subst eR33
      have h_x35 := E34
      clear E34
      refine lv_if_eq (tgt := 47) hx hb dX11_entry_34 (by decide) (fun c36 => ?_) (fun c36 => ?_)
      · have q37 : x35.toInt = 0 := ti_eq c36
        have h38 : iv 0 0 x35 := ⟨by have := (h_x35).1; have := ((iv_c (c := 0) (n := 0) (by decide))).1; omega, by have := (h_x35).2; have := ((iv_c (c := 0) (n := 0) (by decide))).2; omega⟩
        exact J47_12  Ma Ra J31 H locs _  hS hl
      · have q39 : ¬ x35.toInt = 0 := ti_ne c36
        have h40 : iv 1 1 x35 := ⟨by have := (h_x35).1; have := ((iv_c (c := 0) (n := 0) (by decide))).1; have := ((iv_c (c := 0) (n := 0) (by decide))).2; omega, by have := (h_x35).2; have := ((iv_c (c := 0) (n := 0) (by decide))).1; have := ((iv_c (c := 0) (n := 0) (by decide))).2; omega⟩
        refine lv_iload_n hx hb dX11_entry_37 rfl (lv_at hl 1 rfl) ?_
        refine lv_iload_n hx hb dX11_entry_38 rfl (lv_at hl 2 rfl) ?_
        refine lv_iand hx hb dX11_entry_39 ?_
        refine tw_top (fun x42 => ?_)
        have h41 := iv_any x42
        refine lv_if_ne (tgt := 47) hx hb dX11_entry_40 (by decide) (fun c43 => ?_) (fun c43 => ?_)
        · have q44 : ¬ x42.toInt = 0 := ti_ne c43
          exact J47_12  Ma Ra J31 H locs _  hS hl
        · have q45 : x42.toInt = 0 := ti_eq c43
          have h46 : iv 0 0 x42 := ⟨by have := (h41).1; have := ((iv_c (c := 0) (n := 0) (by decide))).1; omega, by have := (h41).2; have := ((iv_c (c := 0) (n := 0) (by decide))).2; omega⟩
          refine lv_iconst (v := 1) hx hb dX11_entry_43 (by decide) ?_
          refine lv_goto (tgt := 48) hx hb dX11_entry_44 (by decide) ?_
          refine lv_istore (lv' := [(5, .int 1), (0, .ref (base + a0)), (1, .int a1), (2, .int a2), (3, .int a3), (4, .int a4)]) hx hb dX11_entry_48 hl (by decide) rfl (fun ls hl => ?_)
          refine lv_iload hx hb dX11_entry_50 (lv_at hl 0 rfl) ?_
          refine lv_if_eq (tgt := 70) hx hb dX11_entry_52 (by decide) (fun h => absurd h (by decide)) (fun _ => ?_)
          refine lv_iload_n hx hb dX11_entry_55 rfl (lv_at hl 4 rfl) ?_
          refine tw_goi hS (md_runS (As := [.int a3]) (rest := []) hx hb hml hown hW hK hT hS.1 (t_X11_isSum l D cy tx base Z K N Ma Ra J31 hS.2.1 a3 h_a3) s_X11_279 ⟨rfl, rfl, ⟨Nat.le_of_ble_eq_true rfl, Nat.le_of_ble_eq_true rfl⟩, ⟨Nat.le_of_ble_eq_true rfl, Nat.le_of_ble_eq_true rfl⟩⟩ rfl hl.1 rfl (Nat.le_of_ble_eq_true rfl) dX11_entry_56) rfl rfl (fun x53 H locs M50 R51 J49 hS f47 g48 E52 => ?_)
          have eM50 := Fr.nil f47 rfl
          subst eM50
          have eR51 := Fr.nil g48 rfl
          subst eR51
          obtain ⟨h_x53, p54⟩ := E52
          refine lv_if_eq (tgt := 70) hx hb dX11_entry_59 (by decide) (fun c55 => ?_) (fun c55 => ?_)
          · have q56 : x53.toInt = 0 := ti_eq c55
            have h57 : iv 0 0 x53 := ⟨by have := (h_x53).1; have := ((iv_c (c := 0) (n := 0) (by decide))).1; omega, by have := (h_x53).2; have := ((iv_c (c := 0) (n := 0) (by decide))).2; omega⟩
            refine lv_aload_n hx hb dX11_entry_70 rfl (lv_at hl 1 rfl) ?_
            refine lv_iconst (v := 0) hx hb dX11_entry_71 (by decide) ?_
            refine tw_goi hS (md_runV (As := [.int 0]) (rest := []) hx hb hml hown hW hK hT hS.1 (t_X11_refuse l D cy tx base Z K N Ma Ra J49 hS.2.1 a0 hz_a0 hk_a0 0 (iv_mono (iv_c (c := 0) (n := 0) (by decide)) (by decide) (by decide))) s_X11_158 ⟨rfl, rfl, ⟨Nat.le_of_ble_eq_true rfl, Nat.le_of_ble_eq_true rfl⟩, ⟨Nat.le_of_ble_eq_true rfl, Nat.le_of_ble_eq_true rfl⟩⟩ hz_a0 hk_a0 (by decide) rfl rfl hl.1 rfl (Nat.le_of_ble_eq_true rfl) dX11_entry_72) rfl rfl (fun x64 H locs M61 R62 J60 hS f58 g59 E63 => ?_)
            have eR62 := Fr.nil g59 rfl
            subst eR62
            have h_x64 := E63
            clear E63
            exact tw_endi hx hb hr hlocks hK hT hS hQ ((iv_mono h_x64 (by decide) (by decide))) dX11_entry_75
          · have q65 : ¬ x53.toInt = 0 := ti_ne c55
            have h66 : iv 1 1 x53 := ⟨by have := (h_x53).1; have := ((iv_c (c := 0) (n := 0) (by decide))).1; have := ((iv_c (c := 0) (n := 0) (by decide))).2; omega, by have := (h_x53).2; have := ((iv_c (c := 0) (n := 0) (by decide))).1; have := ((iv_c (c := 0) (n := 0) (by decide))).2; omega⟩
            have h67 : iv 0 99999 a3 := ⟨by have := (p54 c55).1; have := (h_a3).1; omega, by have := (p54 c55).2; have := (h_a3).2; omega⟩
            refine lv_iload hx hb dX11_entry_62 (lv_at hl 5 rfl) ?_
            refine tw_goi hS (md_runS (As := [.int a4]) (rest := []) hx hb hml hown hW hK hT hS.1 (t_X11_isSum l D cy tx base Z K N Ma Ra J49 hS.2.1 a4 h_a4) s_X11_279 ⟨rfl, rfl, ⟨Nat.le_of_ble_eq_true rfl, Nat.le_of_ble_eq_true rfl⟩, ⟨Nat.le_of_ble_eq_true rfl, Nat.le_of_ble_eq_true rfl⟩⟩ rfl hl.1 rfl (Nat.le_of_ble_eq_true rfl) dX11_entry_64) rfl rfl (fun x74 H locs M71 R72 J70 hS f68 g69 E73 => ?_)
            have eM71 := Fr.nil f68 rfl
            subst eM71
            have eR72 := Fr.nil g69 rfl
            subst eR72
            obtain ⟨h_x74, p75⟩ := E73
            refine lv_if_ne (tgt := 76) hx hb dX11_entry_67 (by decide) (fun c76 => ?_) (fun c76 => ?_)
            · have q77 : ¬ x74.toInt = 0 := ti_ne c76
              have h78 : iv 1 1 x74 := ⟨by have := (h_x74).1; have := ((iv_c (c := 0) (n := 0) (by decide))).1; have := ((iv_c (c := 0) (n := 0) (by decide))).2; omega, by have := (h_x74).2; have := ((iv_c (c := 0) (n := 0) (by decide))).1; have := ((iv_c (c := 0) (n := 0) (by decide))).2; omega⟩
              have h79 : iv 0 99999 a4 := ⟨by have := (p75 c76).1; have := (h_a4).1; omega, by have := (p75 c76).2; have := (h_a4).2; omega⟩
              refine lv_aload_n hx hb dX11_entry_76 rfl (lv_at hl 1 rfl) ?_
              refine tw_getrk hx hb hW hown hK hS f_X11_31_10 hz_a0 hk_a0 (b := b3) k4 dX11_entry_77 ?_
              refine tw_geti hx hb hW hown hK hS f_X11_276_9 hz_b3 hk_b3 (lo := 0) (hi := 12) rfl dX11_entry_80 (fun x82 k81 h80 => ?_)
              refine lv_bipush (v := 12) hx hb dX11_entry_83 (by decide) ?_
              refine lv_icmp_lt (tgt := 94) hx hb dX11_entry_85 (by decide) (fun c83 => ?_) (fun c83 => ?_)
              · have q84 : x82.toInt < 12 := ti_lt c83
                have h85 : iv 0 11 x82 := iv_ltL (y := 12) h80 (iv_c (c := 12) (n := 12) (by decide)) q84 (by decide)
                refine lv_aload_n hx hb dX11_entry_94 rfl (lv_at hl 1 rfl) ?_
                refine tw_getrk hx hb hW hown hK hS f_X11_31_10 hz_a0 hk_a0 (b := b3) k4 dX11_entry_95 ?_
                refine lv_iload_n hx hb dX11_entry_98 rfl (lv_at hl 2 rfl) ?_
                refine lv_iload_n hx hb dX11_entry_99 rfl (lv_at hl 3 rfl) ?_
                refine lv_iload_n hx hb dX11_entry_100 rfl (lv_at hl 4 rfl) ?_
                refine lv_iload hx hb dX11_entry_101 (lv_at hl 5 rfl) ?_
                refine tw_gov hS (md_runV (As := [.int a1, .int a2, .int a3, .int a4]) (rest := []) hx hb hml hown hW hK hT hS.1 (t_X9_write l D cy tx base Z K N Ma Ra J70 hS.2.1 b3 hz_b3 hk_b3 a1 h_a1 a2 h_a2 a3 h67 a4 h79) s_X11_282 ⟨rfl, rfl, ⟨Nat.le_of_ble_eq_true rfl, Nat.le_of_ble_eq_true rfl⟩, ⟨Nat.le_of_ble_eq_true rfl, Nat.le_of_ble_eq_true rfl⟩⟩ hz_b3 hk_b3 (by decide) rfl rfl hl.1 rfl (Nat.le_of_ble_eq_true rfl) dX11_entry_103) rfl rfl (fun H locs M89 R90 J88 hS f86 g87 E91 => ?_)
                have eR90 := Fr.nil g87 rfl
                subst eR90
                refine lv_aload_n hx hb dX11_entry_106 rfl (lv_at hl 1 rfl) ?_
                refine tw_getrk hx hb hW hown hK hS f_X11_31_10 hz_a0 hk_a0 (b := b3) k4 dX11_entry_107 ?_
                refine tw_geti hx hb hW hown hK hS f_X11_276_9 hz_b3 hk_b3 (lo := 0) (hi := 12) rfl dX11_entry_110 (fun x94 k93 h92 => ?_)
                exact tw_endi hx hb hr hlocks hK hT hS hQ ((iv_mono h92 (by decide) (by decide))) dX11_entry_113
              · have q95 : 12 ≤ x82.toInt := ti_nlt c83
                have h96 : iv 12 12 x82 := iv_geL (y := 12) h80 (iv_c (c := 12) (n := 12) (by decide)) q95 (by decide)
                refine lv_aload_n hx hb dX11_entry_88 rfl (lv_at hl 1 rfl) ?_
                refine lv_iconst (v := 1) hx hb dX11_entry_89 (by decide) ?_
                refine tw_goi hS (md_runV (As := [.int 1]) (rest := []) hx hb hml hown hW hK hT hS.1 (t_X11_refuse l D cy tx base Z K N Ma Ra J70 hS.2.1 a0 hz_a0 hk_a0 1 (iv_mono (iv_c (c := 1) (n := 1) (by decide)) (by decide) (by decide))) s_X11_158 ⟨rfl, rfl, ⟨Nat.le_of_ble_eq_true rfl, Nat.le_of_ble_eq_true rfl⟩, ⟨Nat.le_of_ble_eq_true rfl, Nat.le_of_ble_eq_true rfl⟩⟩ hz_a0 hk_a0 (by decide) rfl rfl hl.1 rfl (Nat.le_of_ble_eq_true rfl) dX11_entry_90) rfl rfl (fun x103 H locs M100 R101 J99 hS f97 g98 E102 => ?_)
                have eR101 := Fr.nil g98 rfl
                subst eR101
                have h_x103 := E102
                clear E102
                exact tw_endi hx hb hr hlocks hK hT hS hQ ((iv_mono h_x103 (by decide) (by decide))) dX11_entry_93
            · have q104 : x74.toInt = 0 := ti_eq c76
              have h105 : iv 0 0 x74 := ⟨by have := (h_x74).1; have := ((iv_c (c := 0) (n := 0) (by decide))).1; omega, by have := (h_x74).2; have := ((iv_c (c := 0) (n := 0) (by decide))).2; omega⟩
              refine lv_aload_n hx hb dX11_entry_70 rfl (lv_at hl 1 rfl) ?_
              refine lv_iconst (v := 0) hx hb dX11_entry_71 (by decide) ?_
              refine tw_goi hS (md_runV (As := [.int 0]) (rest := []) hx hb hml hown hW hK hT hS.1 (t_X11_refuse l D cy tx base Z K N Ma Ra J70 hS.2.1 a0 hz_a0 hk_a0 0 (iv_mono (iv_c (c := 0) (n := 0) (by decide)) (by decide) (by decide))) s_X11_158 ⟨rfl, rfl, ⟨Nat.le_of_ble_eq_true rfl, Nat.le_of_ble_eq_true rfl⟩, ⟨Nat.le_of_ble_eq_true rfl, Nat.le_of_ble_eq_true rfl⟩⟩ hz_a0 hk_a0 (by decide) rfl rfl hl.1 rfl (Nat.le_of_ble_eq_true rfl) dX11_entry_72) rfl rfl (fun x112 H locs M109 R110 J108 hS f106 g107 E111 => ?_)
              have eR110 := Fr.nil g107 rfl
              subst eR110
              have h_x112 := E111
              clear E111
              exact tw_endi hx hb hr hlocks hK hT hS hQ ((iv_mono h_x112 (by decide) (by decide))) dX11_entry_75
  · have q113 : a1.toInt = (-1) := ti_eq c1
    have h114 : iv (-1) (-1) a1 := ⟨by have := (h_a1).1; have := ((iv_c (c := (-1)) (n := (-1)) (by decide))).1; omega, by have := (h_a1).2; have := ((iv_c (c := (-1)) (n := (-1)) (by decide))).2; omega⟩
    refine lv_aload_n hx hb dX11_entry_5 rfl (lv_at hl 0 rfl) ?_
    refine tw_getr hx hb hW hown hK hS f_X11_31_10 hz_a0 hk_a0 (t := 10) (n := 0) rfl dX11_entry_6 (fun b115 k116 hz_b115 hk_b115 hn_b115 => ?_)
    refine lv_iconst (v := 0) hx hb dX11_entry_9 (by decide) ?_
    refine tw_puti hx hb hW hown hK hS f_X11_276_9 hz_b115 hk_b115 rfl rfl (lo := 0) (hi := 12) rfl (iv_mono (iv_c (c := 0) (n := 0) (by decide)) (by decide) (by decide)) rfl dX11_entry_10 (fun H locs M119 hS k117 f118 => ?_)
    refine lv_iconst (v := 0) hx hb dX11_entry_13 (by decide) ?_
    exact tw_endi hx hb hr hlocks hK hT hS hQ ((iv_mono (iv_c (c := 0) (n := 0) (by decide)) (by decide) (by decide))) dX11_entry_14
def Lt_X11_lay : WL := [(11, 1, 2), (13, 0, 2000000)]
def LRt_X11_lay : WL := []
set_option maxRecDepth 100000 in
set_option maxHeartbeats 4000000 in
theorem t_X11_lay (l : Launch) (D : va_G) (cy : Nat → ClassId) (tx : (Nat → Nat) × (Nat → Nat)) (base Z : Nat) (K N : Nat → Nat) (Ma : MT) (Ra : RT) (Ja : JT) (hTy : Ty Z K N Ma Ra) (a0 : Nat) (hz_a0 : a0 < Z) (hk_a0 : K a0 = 11) (a1 : Int32) (h_a1 : iv (-2147483648) 2147483647 a1) : Met l yX11_lay [Cond.code yX11_lay cX11_lay 3 none] (md_rm 1 0 0) (va_Pc [.ref (base + a0), .int a1] (md_U D cy tx base Z K N Ma Ra Ja)) (mQv D cy tx base (fun u => TP Z K N Lt_X11_lay LRt_X11_lay Ma Ra u ∧ (True))) 0 0 (fun q => base ≤ q) := by
  refine tw_ofW (L := Lt_X11_lay) (LR := LRt_X11_lay) (by decide) (Nat.le_of_ble_eq_true rfl) hTy ?_
  intro p e s m args below meth c Q ls hx hb hr hlocks hown hml hW hK hT hS hQ hl
  have hl : lv_has ls 3 [(0, .ref (base + a0)), (1, .int a1)] := hl
  refine lv_bipush (v := 24) hx hb dX11_lay_0 (by decide) ?_
  refine lv_istore_n (lv' := [(2, .int 24), (0, .ref (base + a0)), (1, .int a1)]) hx hb dX11_lay_2 rfl hl (by decide) rfl (fun ls hl => ?_)
  have W3_2 : ∀ (n_2 : Nat) (x1 : Int32) (M2 : MT) (R3 : RT) (J4 : JT) (H : Heap) (locs : List Loc) (ls : Array Slot) (h_x1 : iv (-8) 24 x1) (hm_2 : x1.toInt - (-8) < (n_2 : Int)) (hS : SB D cy base Z K N Lt_X11_lay LRt_X11_lay Ma Ra M2 R3 J4 s H locs) (hl : lv_has ls 3 [(2, .int x1), (0, .ref (base + a0)), (1, .int a1)]), W p l e (md_rm 1 0 0) s m args below meth c H locs 0 0 Q (F0 m 3 ls []) := by
    intro n_2
    induction n_2 with
    | zero =>
      intro x1 M2 R3 J4 H locs ls h_x1 hm_2 hS hl
      exfalso
      have := (h_a1).1; have := (h_a1).2; have := (h_x1).1; have := (h_x1).2; omega
    | succ n_2 ih_2 =>
      intro x1 M2 R3 J4 H locs ls h_x1 hm_2 hS hl
      have f5 := hS.2.2.1
      have g6 := hS.2.2.2
      refine lv_iload_n hx hb dX11_lay_3 rfl (lv_at hl 0 rfl) ?_
      refine lv_if_lt (tgt := 46) hx hb dX11_lay_4 (by decide) (fun c7 => ?_) (fun c7 => ?_)
      · have q8 : x1.toInt < 0 := ti_lt c7
        have h9 : iv (-8) (-1) x1 := iv_ltL (y := 0) h_x1 (iv_c (c := 0) (n := 0) (by decide)) q8 (by decide)
        exact tw_endv hx hb hr hlocks hK hT hS hQ (trivial) dX11_lay_46
      · have q10 : 0 ≤ x1.toInt := ti_nlt c7
        have h11 : iv 0 24 x1 := iv_geL (y := 0) h_x1 (iv_c (c := 0) (n := 0) (by decide)) q10 (by decide)
        refine lv_aload_n hx hb dX11_lay_7 rfl (lv_at hl 1 rfl) ?_
        refine tw_geti hx hb hW hown hK hS f_X11_94_10 hz_a0 hk_a0 (lo := 0) (hi := 400) rfl dX11_lay_8 (fun x14 k13 h12 => ?_)
        refine lv_sipush (v := 400) hx hb dX11_lay_11 (by decide) ?_
        refine lv_icmp_ge (tgt := 46) hx hb dX11_lay_14 (by decide) (fun c15 => ?_) (fun c15 => ?_)
        · have q16 : 400 ≤ x14.toInt := ti_le c15
          have h17 : iv 400 400 x14 := iv_geL (y := 400) h12 (iv_c (c := 400) (n := 400) (by decide)) q16 (by decide)
          exact tw_endv hx hb hr hlocks hK hT hS hQ (trivial) dX11_lay_46
        · have q18 : x14.toInt < 400 := ti_nle c15
          have h19 : iv 0 399 x14 := iv_ltL (y := 400) h12 (iv_c (c := 400) (n := 400) (by decide)) q18 (by decide)
          refine lv_aload_n hx hb dX11_lay_17 rfl (lv_at hl 1 rfl) ?_
          refine tw_getr hx hb hW hown hK hS f_X11_9_10 hz_a0 hk_a0 (t := 13) (n := 400) rfl dX11_lay_18 (fun b20 k21 hz_b20 hk_b20 hn_b20 => ?_)
          have hn_b20 := hn_b20 (by decide)
          refine lv_aload_n hx hb dX11_lay_21 rfl (lv_at hl 1 rfl) ?_
          refine tw_getk hx hb hW hown hK hS f_X11_94_10 hz_a0 hk_a0 (v := x14) k13 dX11_lay_22 ?_
          refine lv_iload_n hx hb dX11_lay_25 rfl (lv_at hl 2 rfl) ?_
          refine lv_iload_n hx hb dX11_lay_26 rfl (lv_at hl 0 rfl) ?_
          refine lv_ishr hx hb dX11_lay_27 ?_
          refine tw_top (fun x23 => ?_)
          have h22 := iv_any x23
          refine lv_i2b hx hb dX11_lay_28 rfl ?_
          refine tw_top (fun x25 => ?_)
          have h24 := iv_any x25
          refine tw_bast hx hb hK hS hz_b20 hk_b20 hn_b20 h19 ⟨by decide, by decide⟩ (jl := 0) (jh := 1999999) ⟨by decide, by decide⟩ rfl dX11_lay_29 (fun H locs M27 hS f26 => ?_)
          refine lv_aload_n hx hb dX11_lay_30 rfl (lv_at hl 1 rfl) ?_
          refine lv_dup hx hb dX11_lay_31 rfl ?_
          have k28 : M27 a0 1 = x14 := (Fr.kp (k := 1) f26 hk_a0 rfl).trans k13
          refine tw_getk hx hb hW hown hK hS f_X11_94_10 hz_a0 hk_a0 (v := x14) k28 dX11_lay_32 ?_
          refine lv_iconst (v := 1) hx hb dX11_lay_35 (by decide) ?_
          refine tw_iadd (lo := 1) (hi := 400) hx hb h19 (iv_c (c := 1) (n := 1) (by decide)) ⟨by decide, by decide⟩ ⟨by decide, by decide⟩ dX11_lay_36 (fun x31 e30 h29 => ?_)
          have e30 : x31.toInt = x14.toInt + 1 := e30
          refine tw_puti hx hb hW hown hK hS f_X11_94_10 hz_a0 hk_a0 rfl rfl (lo := 0) (hi := 400) rfl (iv_mono h29 (by decide) (by decide)) rfl dX11_lay_37 (fun H locs M34 hS k32 f33 => ?_)
          refine tw_iinc (lv' := fun x37 => [(2, .int x37), (0, .ref (base + a0)), (1, .int a1)]) (lo := (-8)) (hi := 16) hx hb dX11_lay_40 hl (k := 0) rfl h11 (by decide) ⟨by decide, by decide⟩ ⟨by decide, by decide⟩ (by decide) (fun _ => rfl) (fun x37 ls e36 h35 hl => ?_)
          refine lv_goto (tgt := 3) hx hb dX11_lay_43 (by decide) ?_
          have hm38 : x37.toInt - (-8) < (n_2 : Int) := by
            have := (h_a1).1; have := (h_a1).2; have := (h11).1; have := (h11).2; have := (h35).1; have := (h35).2; omega
          exact ih_2 x37 M34 R3 J4 H locs _ (iv_mono h35 (by decide) (by decide)) hm38 hS hl
  have hm39 : (24 : Int32).toInt - (-8) < (((33 : Nat) : Int) : Int) := by
    have := (h_a1).1; have := (h_a1).2; have : (24 : Int32).toInt = 24 := (by decide); omega
  exact W3_2 33 24 Ma Ra Ja s.heap [] _ (iv_mono (iv_c (c := 24) (n := 24) (by decide)) (by decide) (by decide)) hm39 hS hl
def Lt_X11_feed : WL := [(11, 1, 2), (13, 0, 2000000)]
def LRt_X11_feed : WL := []
set_option maxRecDepth 100000 in
set_option maxHeartbeats 4000000 in
theorem t_X11_feed (l : Launch) (D : va_G) (cy : Nat → ClassId) (tx : (Nat → Nat) × (Nat → Nat)) (base Z : Nat) (K N : Nat → Nat) (Ma : MT) (Ra : RT) (Ja : JT) (hTy : Ty Z K N Ma Ra) (a0 : Nat) (hz_a0 : a0 < Z) (hk_a0 : K a0 = 11) (a1 : Int32) (h_a1 : iv (-2147483648) 2147483647 a1) (a2 : Int32) (h_a2 : iv (-2147483648) 2147483647 a2) (a3 : Int32) (h_a3 : iv (-2147483648) 2147483647 a3) (a4 : Int32) (h_a4 : iv (-2147483648) 2147483647 a4) (a5 : Int32) (h_a5 : iv (-2147483648) 2147483647 a5) : Met l yX11_feed [Cond.code yX11_feed cX11_feed 6 (some .int)] (md_rm 2 0 0) (va_Pc [.ref (base + a0), .int a1, .int a2, .int a3, .int a4, .int a5] (md_U D cy tx base Z K N Ma Ra Ja)) (mQi D cy tx base (fun r u => TP Z K N Lt_X11_feed LRt_X11_feed Ma Ra u ∧ (iv (-1) 400 r))) 0 0 (fun q => base ≤ q) := by
  refine tw_ofW (L := Lt_X11_feed) (LR := LRt_X11_feed) (by decide) (Nat.le_of_ble_eq_true rfl) hTy ?_
  intro p e s m args below meth c Q ls hx hb hr hlocks hown hml hW hK hT hS hQ hl
  have hl : lv_has ls 6 [(0, .ref (base + a0)), (1, .int a1), (2, .int a2), (3, .int a3), (4, .int a4), (5, .int a5)] := hl
  refine lv_aload_n hx hb dX11_feed_0 rfl (lv_at hl 0 rfl) ?_
  refine tw_geti hx hb hW hown hK hS f_X11_94_10 hz_a0 hk_a0 (lo := 0) (hi := 400) rfl dX11_feed_1 (fun x3 k2 h1 => ?_)
  refine lv_bipush (v := 20) hx hb dX11_feed_4 (by decide) ?_
  refine tw_iadd (lo := 20) (hi := 420) hx hb h1 (iv_c (c := 20) (n := 20) (by decide)) ⟨by decide, by decide⟩ ⟨by decide, by decide⟩ dX11_feed_6 (fun x6 e5 h4 => ?_)
  have e5 : x6.toInt = x3.toInt + 20 := e5
  refine lv_sipush (v := 400) hx hb dX11_feed_7 (by decide) ?_
  refine lv_icmp_le (tgt := 15) hx hb dX11_feed_10 (by decide) (fun c7 => ?_) (fun c7 => ?_)
  · have q8 : x6.toInt ≤ 400 := ti_le c7
    have h9 : iv 20 400 x6 := iv_leL (y := 400) h4 (iv_c (c := 400) (n := 400) (by decide)) q8 (by decide)
    refine lv_aload_n hx hb dX11_feed_15 rfl (lv_at hl 0 rfl) ?_
    refine lv_iload_n hx hb dX11_feed_16 rfl (lv_at hl 1 rfl) ?_
    refine tw_gov hS (md_runV (As := [.int a1]) (rest := []) hx hb hml hown hW hK hT hS.1 (t_X11_lay l D cy tx base Z K N Ma Ra Ja hS.2.1 a0 hz_a0 hk_a0 a1 h_a1) s_X11_98 ⟨rfl, rfl, ⟨Nat.le_of_ble_eq_true rfl, Nat.le_of_ble_eq_true rfl⟩, ⟨Nat.le_of_ble_eq_true rfl, Nat.le_of_ble_eq_true rfl⟩⟩ hz_a0 hk_a0 (by decide) rfl rfl hl.1 rfl (Nat.le_of_ble_eq_true rfl) dX11_feed_17) rfl rfl (fun H locs M13 R14 J12 hS f10 g11 E15 => ?_)
    have eR14 := Fr.nil g11 rfl
    subst eR14
    refine lv_aload_n hx hb dX11_feed_20 rfl (lv_at hl 0 rfl) ?_
    refine lv_iload_n hx hb dX11_feed_21 rfl (lv_at hl 2 rfl) ?_
    refine tw_gov hS (md_runV (As := [.int a2]) (rest := []) hx hb hml hown hW hK hT hS.1 (t_X11_lay l D cy tx base Z K N M13 Ra J12 hS.2.1 a0 hz_a0 hk_a0 a2 h_a2) s_X11_98 ⟨rfl, rfl, ⟨Nat.le_of_ble_eq_true rfl, Nat.le_of_ble_eq_true rfl⟩, ⟨Nat.le_of_ble_eq_true rfl, Nat.le_of_ble_eq_true rfl⟩⟩ hz_a0 hk_a0 (by decide) rfl rfl hl.1 rfl (Nat.le_of_ble_eq_true rfl) dX11_feed_22) rfl rfl (fun H locs M19 R20 J18 hS f16 g17 E21 => ?_)
    have eR20 := Fr.nil g17 rfl
    subst eR20
    refine lv_aload_n hx hb dX11_feed_25 rfl (lv_at hl 0 rfl) ?_
    refine lv_iload_n hx hb dX11_feed_26 rfl (lv_at hl 3 rfl) ?_
    refine tw_gov hS (md_runV (As := [.int a3]) (rest := []) hx hb hml hown hW hK hT hS.1 (t_X11_lay l D cy tx base Z K N M19 Ra J18 hS.2.1 a0 hz_a0 hk_a0 a3 h_a3) s_X11_98 ⟨rfl, rfl, ⟨Nat.le_of_ble_eq_true rfl, Nat.le_of_ble_eq_true rfl⟩, ⟨Nat.le_of_ble_eq_true rfl, Nat.le_of_ble_eq_true rfl⟩⟩ hz_a0 hk_a0 (by decide) rfl rfl hl.1 rfl (Nat.le_of_ble_eq_true rfl) dX11_feed_27) rfl rfl (fun H locs M25 R26 J24 hS f22 g23 E27 => ?_)
    have eR26 := Fr.nil g23 rfl
    subst eR26
    refine lv_aload_n hx hb dX11_feed_30 rfl (lv_at hl 0 rfl) ?_
    refine lv_iload hx hb dX11_feed_31 (lv_at hl 4 rfl) ?_
    refine tw_gov hS (md_runV (As := [.int a4]) (rest := []) hx hb hml hown hW hK hT hS.1 (t_X11_lay l D cy tx base Z K N M25 Ra J24 hS.2.1 a0 hz_a0 hk_a0 a4 h_a4) s_X11_98 ⟨rfl, rfl, ⟨Nat.le_of_ble_eq_true rfl, Nat.le_of_ble_eq_true rfl⟩, ⟨Nat.le_of_ble_eq_true rfl, Nat.le_of_ble_eq_true rfl⟩⟩ hz_a0 hk_a0 (by decide) rfl rfl hl.1 rfl (Nat.le_of_ble_eq_true rfl) dX11_feed_33) rfl rfl (fun H locs M31 R32 J30 hS f28 g29 E33 => ?_)
    have eR32 := Fr.nil g29 rfl
    subst eR32
    refine lv_aload_n hx hb dX11_feed_36 rfl (lv_at hl 0 rfl) ?_
    refine lv_iload hx hb dX11_feed_37 (lv_at hl 5 rfl) ?_
    refine tw_gov hS (md_runV (As := [.int a5]) (rest := []) hx hb hml hown hW hK hT hS.1 (t_X11_lay l D cy tx base Z K N M31 Ra J30 hS.2.1 a0 hz_a0 hk_a0 a5 h_a5) s_X11_98 ⟨rfl, rfl, ⟨Nat.le_of_ble_eq_true rfl, Nat.le_of_ble_eq_true rfl⟩, ⟨Nat.le_of_ble_eq_true rfl, Nat.le_of_ble_eq_true rfl⟩⟩ hz_a0 hk_a0 (by decide) rfl rfl hl.1 rfl (Nat.le_of_ble_eq_true rfl) dX11_feed_39) rfl rfl (fun H locs M37 R38 J36 hS f34 g35 E39 => ?_)
    have eR38 := Fr.nil g35 rfl
    subst eR38
    refine lv_aload_n hx hb dX11_feed_42 rfl (lv_at hl 0 rfl) ?_
    refine tw_geti hx hb hW hown hK hS f_X11_94_10 hz_a0 hk_a0 (lo := 0) (hi := 400) rfl dX11_feed_43 (fun x42 k41 h40 => ?_)
    exact tw_endi hx hb hr hlocks hK hT hS hQ ((iv_mono h40 (by decide) (by decide))) dX11_feed_46
  · have q43 : 400 < x6.toInt := ti_nle c7
    have h44 : iv 401 420 x6 := iv_gtL (y := 400) h4 (iv_c (c := 400) (n := 400) (by decide)) q43 (by decide)
    refine lv_iconst (v := (-1)) hx hb dX11_feed_13 (by decide) ?_
    exact tw_endi hx hb hr hlocks hK hT hS hQ ((iv_mono (iv_c (c := (-1)) (n := (-1)) (by decide)) (by decide) (by decide))) dX11_feed_14
def Lt_X9_isShortDay : WL := []
def LRt_X9_isShortDay : WL := []
set_option maxRecDepth 100000 in
set_option maxHeartbeats 4000000 in
theorem t_X9_isShortDay (l : Launch) (D : va_G) (cy : Nat → ClassId) (tx : (Nat → Nat) × (Nat → Nat)) (base Z : Nat) (K N : Nat → Nat) (Ma : MT) (Ra : RT) (Ja : JT) (hTy : Ty Z K N Ma Ra) (a0 : Nat) (hz_a0 : a0 < Z) (hk_a0 : K a0 = 10) (od : Int32) (k_od : Ma a0 7 = od) (h_od : iv 0 8 od) : Met l yX9_isShortDay [Cond.code yX9_isShortDay cX9_isShortDay 1 (some .boolean)] (md_rm 1 0 0) (va_Pc [.ref (base + a0)] (md_U D cy tx base Z K N Ma Ra Ja)) (mQi D cy tx base (fun r u => TP Z K N Lt_X9_isShortDay LRt_X9_isShortDay Ma Ra u ∧ (iv 0 1 r ∧ (¬ r = 0 → iv 1 4 od)))) 0 0 (fun q => base ≤ q) := by
  refine tw_ofW (L := Lt_X9_isShortDay) (LR := LRt_X9_isShortDay) (by decide) (Nat.le_of_ble_eq_true rfl) hTy ?_
  intro p e s m args below meth c Q ls hx hb hr hlocks hown hml hW hK hT hS hQ hl
  have hl : lv_has ls 1 [(0, .ref (base + a0))] := hl
  refine lv_aload_n hx hb dX9_isShortDay_0 rfl (lv_at hl 0 rfl) ?_
  refine tw_getk hx hb hW hown hK hS f_X9_52_9 hz_a0 hk_a0 (v := od) k_od dX9_isShortDay_1 ?_
  refine lv_iconst (v := 1) hx hb dX9_isShortDay_4 (by decide) ?_
  refine lv_icmp_lt (tgt := 20) hx hb dX9_isShortDay_5 (by decide) (fun c1 => ?_) (fun c1 => ?_)
  · have q2 : od.toInt < 1 := ti_lt c1
    have h3 : iv 0 0 od := iv_ltL (y := 1) h_od (iv_c (c := 1) (n := 1) (by decide)) q2 (by decide)
    refine lv_iconst (v := 0) hx hb dX9_isShortDay_20 (by decide) ?_
    exact tw_endz hx hb hr hlocks hK hT hS hQ rfl (⟨(iv_mono (iv_c (c := 0) (n := 0) (by decide)) (by decide) (by decide)), (fun h => absurd rfl h)⟩) dX9_isShortDay_21
  · have q4 : 1 ≤ od.toInt := ti_nlt c1
    have h5 : iv 1 8 od := iv_geL (y := 1) h_od (iv_c (c := 1) (n := 1) (by decide)) q4 (by decide)
    refine lv_aload_n hx hb dX9_isShortDay_8 rfl (lv_at hl 0 rfl) ?_
    refine tw_getk hx hb hW hown hK hS f_X9_52_9 hz_a0 hk_a0 (v := od) k_od dX9_isShortDay_9 ?_
    refine lv_iconst (v := 4) hx hb dX9_isShortDay_12 (by decide) ?_
    refine lv_icmp_gt (tgt := 20) hx hb dX9_isShortDay_13 (by decide) (fun c6 => ?_) (fun c6 => ?_)
    · have q7 : 4 < od.toInt := ti_lt c6
      have h8 : iv 5 8 od := iv_gtL (y := 4) h5 (iv_c (c := 4) (n := 4) (by decide)) q7 (by decide)
      refine lv_iconst (v := 0) hx hb dX9_isShortDay_20 (by decide) ?_
      exact tw_endz hx hb hr hlocks hK hT hS hQ rfl (⟨(iv_mono (iv_c (c := 0) (n := 0) (by decide)) (by decide) (by decide)), (fun h => absurd rfl h)⟩) dX9_isShortDay_21
    · have q9 : od.toInt ≤ 4 := ti_nlt c6
      have h10 : iv 1 4 od := iv_leL (y := 4) h5 (iv_c (c := 4) (n := 4) (by decide)) q9 (by decide)
      refine lv_iconst (v := 1) hx hb dX9_isShortDay_16 (by decide) ?_
      refine lv_goto (tgt := 21) hx hb dX9_isShortDay_17 (by decide) ?_
      exact tw_endz hx hb hr hlocks hK hT hS hQ rfl (⟨(iv_mono (iv_c (c := 1) (n := 1) (by decide)) (by decide) (by decide)), (fun _ => h10)⟩) dX9_isShortDay_21
def Lt_X9_isSide : WL := []
def LRt_X9_isSide : WL := []
set_option maxRecDepth 100000 in
set_option maxHeartbeats 4000000 in
theorem t_X9_isSide (l : Launch) (D : va_G) (cy : Nat → ClassId) (tx : (Nat → Nat) × (Nat → Nat)) (base Z : Nat) (K N : Nat → Nat) (Ma : MT) (Ra : RT) (Ja : JT) (hTy : Ty Z K N Ma Ra) (a0 : Nat) (hz_a0 : a0 < Z) (hk_a0 : K a0 = 10) (a1 : Int32) (h_a1 : iv (-2147483648) 2147483647 a1) : Met l yX9_isSide [Cond.code yX9_isSide cX9_isSide 2 (some .boolean)] (md_rm 2 0 0) (va_Pc [.ref (base + a0), .int a1] (md_U D cy tx base Z K N Ma Ra Ja)) (mQi D cy tx base (fun r u => TP Z K N Lt_X9_isSide LRt_X9_isSide Ma Ra u ∧ (iv 0 1 r))) 0 0 (fun q => base ≤ q) := by
  refine tw_ofW (L := Lt_X9_isSide) (LR := LRt_X9_isSide) (by decide) (Nat.le_of_ble_eq_true rfl) hTy ?_
  intro p e s m args below meth c Q ls hx hb hr hlocks hown hml hW hK hT hS hQ hl
  have hl : lv_has ls 2 [(0, .ref (base + a0)), (1, .int a1)] := hl
  refine lv_iload_n hx hb dX9_isSide_0 rfl (lv_at hl 1 rfl) ?_
  refine lv_if_le (tgt := 27) hx hb dX9_isSide_1 (by decide) (fun c1 => ?_) (fun c1 => ?_)
  · have q2 : a1.toInt ≤ 0 := ti_le c1
    have h3 : iv (-2147483648) 0 a1 := iv_leL (y := 0) h_a1 (iv_c (c := 0) (n := 0) (by decide)) q2 (by decide)
    refine lv_iconst (v := 0) hx hb dX9_isSide_27 (by decide) ?_
    exact tw_endz hx hb hr hlocks hK hT hS hQ rfl ((iv_mono (iv_c (c := 0) (n := 0) (by decide)) (by decide) (by decide))) dX9_isSide_28
  · have q4 : 0 < a1.toInt := ti_nle c1
    have h5 : iv 1 2147483647 a1 := iv_gtL (y := 0) h_a1 (iv_c (c := 0) (n := 0) (by decide)) q4 (by decide)
    refine lv_aload_n hx hb dX9_isSide_4 rfl (lv_at hl 0 rfl) ?_
    refine lv_iload_n hx hb dX9_isSide_5 rfl (lv_at hl 1 rfl) ?_
    refine tw_goi hS (md_runV (As := [.int a1]) (rest := []) hx hb hml hown hW hK hT hS.1 (t_X9_hasSet l D cy tx base Z K N Ma Ra Ja hS.2.1 a0 hz_a0 hk_a0 a1 (iv_mono h5 (by decide) (by decide))) s_X9_67 ⟨rfl, rfl, ⟨Nat.le_of_ble_eq_true rfl, Nat.le_of_ble_eq_true rfl⟩, ⟨Nat.le_of_ble_eq_true rfl, Nat.le_of_ble_eq_true rfl⟩⟩ hz_a0 hk_a0 (by decide) rfl rfl hl.1 rfl (Nat.le_of_ble_eq_true rfl) dX9_isSide_6) rfl rfl (fun x12 H locs M9 R10 J8 hS f6 g7 E11 => ?_)
    have eM9 := Fr.nil f6 rfl
    subst eM9
    have eR10 := Fr.nil g7 rfl
    subst eR10
    have h_x12 := E11
    clear E11
    refine lv_if_eq (tgt := 27) hx hb dX9_isSide_9 (by decide) (fun c13 => ?_) (fun c13 => ?_)
    · have q14 : x12.toInt = 0 := ti_eq c13
      have h15 : iv 0 0 x12 := ⟨by have := (h_x12).1; have := ((iv_c (c := 0) (n := 0) (by decide))).1; omega, by have := (h_x12).2; have := ((iv_c (c := 0) (n := 0) (by decide))).2; omega⟩
      refine lv_iconst (v := 0) hx hb dX9_isSide_27 (by decide) ?_
      exact tw_endz hx hb hr hlocks hK hT hS hQ rfl ((iv_mono (iv_c (c := 0) (n := 0) (by decide)) (by decide) (by decide))) dX9_isSide_28
    · have q16 : ¬ x12.toInt = 0 := ti_ne c13
      have h17 : iv 1 1 x12 := ⟨by have := (h_x12).1; have := ((iv_c (c := 0) (n := 0) (by decide))).1; have := ((iv_c (c := 0) (n := 0) (by decide))).2; omega, by have := (h_x12).2; have := ((iv_c (c := 0) (n := 0) (by decide))).1; have := ((iv_c (c := 0) (n := 0) (by decide))).2; omega⟩
      refine lv_iload_n hx hb dX9_isSide_12 rfl (lv_at hl 1 rfl) ?_
      refine lv_aload_n hx hb dX9_isSide_13 rfl (lv_at hl 0 rfl) ?_
      refine tw_geti hx hb hW hown hK hS f_X9_40_9 hz_a0 hk_a0 (lo := (-2147483648)) (hi := 2147483647) rfl dX9_isSide_14 (fun x20 k19 h18 => ?_)
      refine lv_iconst (v := (-1)) hx hb dX9_isSide_17 (by decide) ?_
      refine lv_ixor hx hb dX9_isSide_18 ?_
      refine tw_top (fun x22 => ?_)
      have h21 := iv_any x22
      refine lv_iand hx hb dX9_isSide_19 ?_
      refine tw_top (fun x24 => ?_)
      have h23 := iv_any x24
      refine lv_if_ne (tgt := 27) hx hb dX9_isSide_20 (by decide) (fun c25 => ?_) (fun c25 => ?_)
      · have q26 : ¬ x24.toInt = 0 := ti_ne c25
        refine lv_iconst (v := 0) hx hb dX9_isSide_27 (by decide) ?_
        exact tw_endz hx hb hr hlocks hK hT hS hQ rfl ((iv_mono (iv_c (c := 0) (n := 0) (by decide)) (by decide) (by decide))) dX9_isSide_28
      · have q27 : x24.toInt = 0 := ti_eq c25
        have h28 : iv 0 0 x24 := ⟨by have := (h23).1; have := ((iv_c (c := 0) (n := 0) (by decide))).1; omega, by have := (h23).2; have := ((iv_c (c := 0) (n := 0) (by decide))).2; omega⟩
        refine lv_iconst (v := 1) hx hb dX9_isSide_23 (by decide) ?_
        refine lv_goto (tgt := 28) hx hb dX9_isSide_24 (by decide) ?_
        exact tw_endz hx hb hr hlocks hK hT hS hQ rfl ((iv_mono (iv_c (c := 1) (n := 1) (by decide)) (by decide) (by decide))) dX9_isSide_28
def Lt_X11_mayThrow : WL := []
def LRt_X11_mayThrow : WL := []
set_option maxRecDepth 100000 in
set_option maxHeartbeats 4000000 in
theorem t_X11_mayThrow (l : Launch) (D : va_G) (cy : Nat → ClassId) (tx : (Nat → Nat) × (Nat → Nat)) (base Z : Nat) (K N : Nat → Nat) (Ma : MT) (Ra : RT) (Ja : JT) (hTy : Ty Z K N Ma Ra) (a0 : Nat) (hz_a0 : a0 < Z) (hk_a0 : K a0 = 11) (a1 : Int32) (h_a1 : iv (-2147483648) 2147483647 a1) (st : Nat) (k_st : Ra a0 3 = some st) (od : Int32) (k_od : Ma st 7 = od) (h_od : iv 0 8 od) : Met l yX11_mayThrow [Cond.code yX11_mayThrow cX11_mayThrow 2 (some .boolean)] (md_rm 3 0 0) (va_Pc [.ref (base + a0), .int a1] (md_U D cy tx base Z K N Ma Ra Ja)) (mQi D cy tx base (fun r u => TP Z K N Lt_X11_mayThrow LRt_X11_mayThrow Ma Ra u ∧ (iv 0 1 r ∧ (¬ r = 0 → iv 1 4 od)))) 0 0 (fun q => base ≤ q) := by
  refine tw_ofW (L := Lt_X11_mayThrow) (LR := LRt_X11_mayThrow) (by decide) (Nat.le_of_ble_eq_true rfl) hTy ?_
  intro p e s m args below meth c Q ls hx hb hr hlocks hown hml hW hK hT hS hQ hl
  have hl : lv_has ls 2 [(0, .ref (base + a0)), (1, .int a1)] := hl
  obtain ⟨hz_st, hk_st, hn_st⟩ := hTy.refn hz_a0 hk_a0 (show rtR 11 3 = (10, 0, 0) from rfl) k_st
  refine lv_aload_n hx hb dX11_mayThrow_0 rfl (lv_at hl 0 rfl) ?_
  refine tw_getrk hx hb hW hown hK hS f_X11_31_10 hz_a0 hk_a0 (b := st) k_st dX11_mayThrow_1 ?_
  refine lv_iload_n hx hb dX11_mayThrow_4 rfl (lv_at hl 1 rfl) ?_
  refine tw_goi hS (md_runV (As := [.int a1]) (rest := []) hx hb hml hown hW hK hT hS.1 (t_X9_isSide l D cy tx base Z K N Ma Ra Ja hS.2.1 st hz_st hk_st a1 h_a1) s_X11_242 ⟨rfl, rfl, ⟨Nat.le_of_ble_eq_true rfl, Nat.le_of_ble_eq_true rfl⟩, ⟨Nat.le_of_ble_eq_true rfl, Nat.le_of_ble_eq_true rfl⟩⟩ hz_st hk_st (by decide) rfl rfl hl.1 rfl (Nat.le_of_ble_eq_true rfl) dX11_mayThrow_5) rfl rfl (fun x7 H locs M4 R5 J3 hS f1 g2 E6 => ?_)
  have eM4 := Fr.nil f1 rfl
  subst eM4
  have eR5 := Fr.nil g2 rfl
  subst eR5
  have h_x7 := E6
  clear E6
  refine lv_if_eq (tgt := 33) hx hb dX11_mayThrow_8 (by decide) (fun c8 => ?_) (fun c8 => ?_)
  · have q9 : x7.toInt = 0 := ti_eq c8
    have h10 : iv 0 0 x7 := ⟨by have := (h_x7).1; have := ((iv_c (c := 0) (n := 0) (by decide))).1; omega, by have := (h_x7).2; have := ((iv_c (c := 0) (n := 0) (by decide))).2; omega⟩
    refine lv_iconst (v := 0) hx hb dX11_mayThrow_33 (by decide) ?_
    exact tw_endz hx hb hr hlocks hK hT hS hQ rfl (⟨(iv_mono (iv_c (c := 0) (n := 0) (by decide)) (by decide) (by decide)), (fun h => absurd rfl h)⟩) dX11_mayThrow_34
  · have q11 : ¬ x7.toInt = 0 := ti_ne c8
    have h12 : iv 1 1 x7 := ⟨by have := (h_x7).1; have := ((iv_c (c := 0) (n := 0) (by decide))).1; have := ((iv_c (c := 0) (n := 0) (by decide))).2; omega, by have := (h_x7).2; have := ((iv_c (c := 0) (n := 0) (by decide))).1; have := ((iv_c (c := 0) (n := 0) (by decide))).2; omega⟩
    refine lv_iload_n hx hb dX11_mayThrow_11 rfl (lv_at hl 1 rfl) ?_
    refine tw_goi hS (md_runS (As := [.int a1]) (rest := []) hx hb hml hown hW hK hT hS.1 (t_J6_bitCount_0f7a4 l D cy tx base Z K N Ma Ra J3 hS.2.1 a1 h_a1) s_X11_165 ⟨rfl, rfl, ⟨Nat.le_of_ble_eq_true rfl, Nat.le_of_ble_eq_true rfl⟩, ⟨Nat.le_of_ble_eq_true rfl, Nat.le_of_ble_eq_true rfl⟩⟩ rfl hl.1 rfl (Nat.le_of_ble_eq_true rfl) dX11_mayThrow_12) rfl rfl (fun x19 H locs M16 R17 J15 hS f13 g14 E18 => ?_)
    have eM16 := Fr.nil f13 rfl
    subst eM16
    have eR17 := Fr.nil g14 rfl
    subst eR17
    have h_x19 := E18
    clear E18
    refine lv_iconst (v := 3) hx hb dX11_mayThrow_15 (by decide) ?_
    refine lv_icmp_gt (tgt := 33) hx hb dX11_mayThrow_16 (by decide) (fun c20 => ?_) (fun c20 => ?_)
    · have q21 : 3 < x19.toInt := ti_lt c20
      have h22 : iv 4 63 x19 := iv_gtL (y := 3) h_x19 (iv_c (c := 3) (n := 3) (by decide)) q21 (by decide)
      refine lv_iconst (v := 0) hx hb dX11_mayThrow_33 (by decide) ?_
      exact tw_endz hx hb hr hlocks hK hT hS hQ rfl (⟨(iv_mono (iv_c (c := 0) (n := 0) (by decide)) (by decide) (by decide)), (fun h => absurd rfl h)⟩) dX11_mayThrow_34
    · have q23 : x19.toInt ≤ 3 := ti_nlt c20
      have h24 : iv 0 3 x19 := iv_leL (y := 3) h_x19 (iv_c (c := 3) (n := 3) (by decide)) q23 (by decide)
      refine lv_aload_n hx hb dX11_mayThrow_19 rfl (lv_at hl 0 rfl) ?_
      refine tw_getrk hx hb hW hown hK hS f_X11_31_10 hz_a0 hk_a0 (b := st) k_st dX11_mayThrow_20 ?_
      refine tw_goi hS (md_runV (As := []) (rest := []) hx hb hml hown hW hK hT hS.1 (t_X9_isShortDay l D cy tx base Z K N Ma Ra J15 hS.2.1 st hz_st hk_st od k_od (iv_mono h_od (by decide) (by decide))) s_X11_245 ⟨rfl, rfl, ⟨Nat.le_of_ble_eq_true rfl, Nat.le_of_ble_eq_true rfl⟩, ⟨Nat.le_of_ble_eq_true rfl, Nat.le_of_ble_eq_true rfl⟩⟩ hz_st hk_st (by decide) rfl rfl hl.1 rfl (Nat.le_of_ble_eq_true rfl) dX11_mayThrow_23) rfl rfl (fun x31 H locs M28 R29 J27 hS f25 g26 E30 => ?_)
      have eM28 := Fr.nil f25 rfl
      subst eM28
      have eR29 := Fr.nil g26 rfl
      subst eR29
      obtain ⟨h_x31, p32⟩ := E30
      refine lv_if_eq (tgt := 33) hx hb dX11_mayThrow_26 (by decide) (fun c33 => ?_) (fun c33 => ?_)
      · have q34 : x31.toInt = 0 := ti_eq c33
        have h35 : iv 0 0 x31 := ⟨by have := (h_x31).1; have := ((iv_c (c := 0) (n := 0) (by decide))).1; omega, by have := (h_x31).2; have := ((iv_c (c := 0) (n := 0) (by decide))).2; omega⟩
        refine lv_iconst (v := 0) hx hb dX11_mayThrow_33 (by decide) ?_
        exact tw_endz hx hb hr hlocks hK hT hS hQ rfl (⟨(iv_mono (iv_c (c := 0) (n := 0) (by decide)) (by decide) (by decide)), (fun h => absurd rfl h)⟩) dX11_mayThrow_34
      · have q36 : ¬ x31.toInt = 0 := ti_ne c33
        have h37 : iv 1 1 x31 := ⟨by have := (h_x31).1; have := ((iv_c (c := 0) (n := 0) (by decide))).1; have := ((iv_c (c := 0) (n := 0) (by decide))).2; omega, by have := (h_x31).2; have := ((iv_c (c := 0) (n := 0) (by decide))).1; have := ((iv_c (c := 0) (n := 0) (by decide))).2; omega⟩
        have h38 : iv 1 4 od := ⟨by have := (p32 c33).1; have := (h_od).1; omega, by have := (p32 c33).2; have := (h_od).2; omega⟩
        refine lv_iconst (v := 1) hx hb dX11_mayThrow_29 (by decide) ?_
        refine lv_goto (tgt := 34) hx hb dX11_mayThrow_30 (by decide) ?_
        exact tw_endz hx hb hr hlocks hK hT hS hQ rfl (⟨(iv_mono (iv_c (c := 1) (n := 1) (by decide)) (by decide) (by decide)), (fun _ => h38)⟩) dX11_mayThrow_34
def Lt_X6_closeWith : WL := [(7, 14, 15), (22, 0, 2000000)]
def LRt_X6_closeWith : WL := []
set_option maxRecDepth 100000 in
set_option maxHeartbeats 4000000 in
theorem t_X6_closeWith (l : Launch) (D : va_G) (cy : Nat → ClassId) (tx : (Nat → Nat) × (Nat → Nat)) (base Z : Nat) (K N : Nat → Nat) (Ma : MT) (Ra : RT) (Ja : JT) (hTy : Ty Z K N Ma Ra) (a0 : Nat) (hz_a0 : a0 < Z) (hk_a0 : K a0 = 7) (a1 : Int32) (h_a1 : iv (-2147483648) 2147483647 a1) (a2 : Int32) (h_a2 : iv (-2147483648) 2147483646 a2) (la : Int32) (k_la : Ma a0 13 = la) (h_la : iv 0 3 la) : Met l yX6_closeWith [Cond.code yX6_closeWith cX6_closeWith 6 none] (md_rm 2 0 0) (va_Pc [.ref (base + a0), .int a1, .int a2] (md_U D cy tx base Z K N Ma Ra Ja)) (mQv D cy tx base (fun u => TP Z K N Lt_X6_closeWith LRt_X6_closeWith Ma Ra u ∧ (True))) 0 0 (fun q => base ≤ q) := by
  refine tw_ofW (L := Lt_X6_closeWith) (LR := LRt_X6_closeWith) (by decide) (Nat.le_of_ble_eq_true rfl) hTy ?_
  intro p e s m args below meth c Q ls hx hb hr hlocks hown hml hW hK hT hS hQ hl
  have hl : lv_has ls 6 [(0, .ref (base + a0)), (1, .int a1), (2, .int a2)] := hl
  refine lv_aload_n hx hb dX6_closeWith_0 rfl (lv_at hl 0 rfl) ?_
  refine tw_getr hx hb hW hown hK hS f_X6_13_6 hz_a0 hk_a0 (t := 19) (n := 4) rfl dX6_closeWith_1 (fun b1 k2 hz_b1 hk_b1 hn_b1 => ?_)
  have hn_b1 := hn_b1 (by decide)
  refine lv_aload_n hx hb dX6_closeWith_4 rfl (lv_at hl 0 rfl) ?_
  refine tw_getk hx hb hW hown hK hS f_X6_62_6 hz_a0 hk_a0 (v := la) k_la dX6_closeWith_5 ?_
  refine tw_row hx hb hK hS hz_b1 hk_b1 hn_b1 h_la ⟨by decide, by decide⟩ dX6_closeWith_8 (fun b3 k4 hz_b3 hk_b3 hn_b3 => ?_)
  refine lv_astore_n (lv' := [(3, .ref (base + b3)), (0, .ref (base + a0)), (1, .int a1), (2, .int a2)]) hx hb dX6_closeWith_9 rfl hl (by decide) rfl (fun ls hl => ?_)
  refine lv_iload_n hx hb dX6_closeWith_10 rfl (lv_at hl 2 rfl) ?_
  refine lv_aload_n hx hb dX6_closeWith_11 rfl (lv_at hl 1 rfl) ?_
  refine tw_getr hx hb hW hown hK hS f_X6_39_6 hz_a0 hk_a0 (t := 10) (n := 0) rfl dX6_closeWith_12 (fun b5 k6 hz_b5 hk_b5 hn_b5 => ?_)
  refine lv_aload_n hx hb dX6_closeWith_15 rfl (lv_at hl 0 rfl) ?_
  refine lv_aload_n hx hb dX6_closeWith_16 rfl (lv_at hl 1 rfl) ?_
  refine tw_geti hx hb hW hown hK hS f_X6_47_6 hz_a0 hk_a0 (lo := (-2147483648)) (hi := 2147483647) rfl dX6_closeWith_17 (fun x9 k8 h7 => ?_)
  refine tw_goi hS (md_runV (As := [.ref (base + b3), .int x9]) (rest := [.int a1]) hx hb hml hown hW hK hT hS.1 (t_X9_sumOf l D cy tx base Z K N Ma Ra Ja hS.2.1 b5 hz_b5 hk_b5 b3 hz_b3 hk_b3 hn_b3 x9 h7) s_X6_153 ⟨rfl, rfl, ⟨Nat.le_of_ble_eq_true rfl, Nat.le_of_ble_eq_true rfl⟩, ⟨Nat.le_of_ble_eq_true rfl, Nat.le_of_ble_eq_true rfl⟩⟩ hz_b5 hk_b5 (by decide) rfl rfl hl.1 rfl (Nat.le_of_ble_eq_true rfl) dX6_closeWith_20) rfl rfl (fun x16 H locs M13 R14 J12 hS f10 g11 E15 => ?_)
  have eM13 := Fr.nil f10 rfl
  subst eM13
  have eR14 := Fr.nil g11 rfl
  subst eR14
  have h_x16 := E15
  clear E15
  refine lv_iadd hx hb dX6_closeWith_23 ?_
  refine tw_top (fun x18 => ?_)
  have h17 := iv_any x18
  refine lv_if_gt (tgt := 28) hx hb dX6_closeWith_24 (by decide) (fun c19 => ?_) (fun c19 => ?_)
  · have q20 : 0 < x18.toInt := ti_lt c19
    have h21 : iv 1 2147483647 x18 := iv_gtL (y := 0) h17 (iv_c (c := 0) (n := 0) (by decide)) q20 (by decide)
    refine lv_iconst (v := 0) hx hb dX6_closeWith_28 (by decide) ?_
    refine lv_istore (lv' := [(4, .int 0), (3, .ref (base + b3)), (0, .ref (base + a0)), (1, .int a1), (2, .int a2)]) hx hb dX6_closeWith_29 hl (by decide) rfl (fun ls hl => ?_)
    have W31_23 : ∀ (n_23 : Nat) (x22 : Int32) (M23 : MT) (R24 : RT) (J25 : JT) (H : Heap) (locs : List Loc) (ls : Array Slot) (h_x22 : iv 0 27 x22) (hm_23 : 27 - x22.toInt < (n_23 : Int)) (hS : SB D cy base Z K N Lt_X6_closeWith LRt_X6_closeWith Ma Ra M23 R24 J25 s H locs) (hl : lv_has ls 6 [(4, .int x22), (3, .ref (base + b3)), (0, .ref (base + a0)), (1, .int a1), (2, .int a2)]), W p l e (md_rm 2 0 0) s m args below meth c H locs 0 0 Q (F0 m 31 ls []) := by
      intro n_23
      induction n_23 with
      | zero =>
        intro x22 M23 R24 J25 H locs ls h_x22 hm_23 hS hl
        exfalso
        have := (h_a1).1; have := (h_a1).2; have := (h_a2).1; have := (h_a2).2; have := (h_la).1; have := (h_la).2; have := (h_x22).1; have := (h_x22).2; omega
      | succ n_23 ih_23 =>
        intro x22 M23 R24 J25 H locs ls h_x22 hm_23 hS hl
        have f26 := hS.2.2.1
        have g27 := hS.2.2.2
        refine lv_iload hx hb dX6_closeWith_31 (lv_at hl 0 rfl) ?_
        refine lv_aload_n hx hb dX6_closeWith_33 rfl (lv_at hl 2 rfl) ?_
        refine tw_geti hx hb hW hown hK hS f_X6_90_6 hz_a0 hk_a0 (lo := 0) (hi := 27) rfl dX6_closeWith_34 (fun x30 k29 h28 => ?_)
        refine lv_icmp_ge (tgt := 132) hx hb dX6_closeWith_37 (by decide) (fun c31 => ?_) (fun c31 => ?_)
        · have q32 : x30.toInt ≤ x22.toInt := ti_le c31
          exact tw_endv hx hb hr hlocks hK hT hS hQ (trivial) dX6_closeWith_132
        · have q33 : x22.toInt < x30.toInt := ti_nle c31
          have h34 : iv 0 26 x22 := iv_ltL (y := x30) h_x22 h28 q33 (by decide)
          have h35 : iv 1 27 x30 := iv_gtL (y := x22) h28 h_x22 q33 (by decide)
          refine lv_iload_n hx hb dX6_closeWith_40 rfl (lv_at hl 4 rfl) ?_
          refine lv_aload_n hx hb dX6_closeWith_41 rfl (lv_at hl 2 rfl) ?_
          refine tw_getr hx hb hW hown hK hS f_X6_23_6 hz_a0 hk_a0 (t := 14) (n := 108) rfl dX6_closeWith_42 (fun b36 k37 hz_b36 hk_b36 hn_b36 => ?_)
          have hn_b36 := hn_b36 (by decide)
          refine lv_aload_n hx hb dX6_closeWith_45 rfl (lv_at hl 2 rfl) ?_
          have k38 : M23 a0 13 = la := (Fr.kp (k := 13) f26 hk_a0 rfl).trans k_la
          refine tw_getk hx hb hW hown hK hS f_X6_62_6 hz_a0 hk_a0 (v := la) k38 dX6_closeWith_46 ?_
          refine lv_bipush (v := 27) hx hb dX6_closeWith_49 (by decide) ?_
          refine tw_imulc (k := 27) (lo := 0) (hi := 81) hx hb h_la (by decide) (by decide) ⟨by decide, by decide⟩ ⟨by decide, by decide⟩ dX6_closeWith_51 (fun x41 e40 h39 => ?_)
          refine lv_iload hx hb dX6_closeWith_52 (lv_at hl 0 rfl) ?_
          refine tw_iadd (lo := 0) (hi := 107) hx hb h39 h34 ⟨by decide, by decide⟩ ⟨by decide, by decide⟩ dX6_closeWith_54 (fun x44 e43 h42 => ?_)
          refine tw_iald hx hb hK hS hz_b36 hk_b36 (Or.inl rfl) hn_b36 (lo := (-2147483648)) (hi := 2147483647) h42 ⟨by decide, by decide⟩ rg_u14 dX6_closeWith_55 (fun x47 k46 h45 => ?_)
          refine lv_iadd hx hb dX6_closeWith_56 ?_
          refine tw_top (fun x49 => ?_)
          have h48 := iv_any x49
          refine lv_istore (lv' := [(5, .int x49), (4, .int x22), (3, .ref (base + b3)), (0, .ref (base + a0)), (1, .int a1), (2, .int a2)]) hx hb dX6_closeWith_57 hl (by decide) rfl (fun ls hl => ?_)
          refine lv_iload hx hb dX6_closeWith_59 (lv_at hl 0 rfl) ?_
          refine lv_aload_n hx hb dX6_closeWith_61 rfl (lv_at hl 3 rfl) ?_
          refine tw_geti hx hb hW hown hK hS f_X6_65_6 hz_a0 hk_a0 (lo := (-2147483648)) (hi := 2147483647) rfl dX6_closeWith_62 (fun x52 k51 h50 => ?_)
          refine lv_icmp_ge (tgt := 126) hx hb dX6_closeWith_65 (by decide) (fun c53 => ?_) (fun c53 => ?_)
          · have q54 : x52.toInt ≤ x49.toInt := ti_le c53
            refine tw_iinc (lv' := fun x57 => [(4, .int x57), (5, .int x49), (3, .ref (base + b3)), (0, .ref (base + a0)), (1, .int a1), (2, .int a2)]) (lo := 1) (hi := 27) hx hb dX6_closeWith_126 hl (k := 1) rfl h34 (by decide) ⟨by decide, by decide⟩ ⟨by decide, by decide⟩ (by decide) (fun _ => rfl) (fun x57 ls e56 h55 hl => ?_)
            refine lv_goto (tgt := 31) hx hb dX6_closeWith_129 (by decide) ?_
            have hm58 : 27 - x57.toInt < (n_23 : Int) := by
              have := (h_a1).1; have := (h_a1).2; have := (h_a2).1; have := (h_a2).2; have := (h_la).1; have := (h_la).2; have := (h34).1; have := (h34).2; have := (h42).1; have := (h42).2; have := (h55).1; have := (h55).2; omega
            exact ih_23 x57 M23 R24 J25 H locs _ (iv_mono h55 (by decide) (by decide)) hm58 hS (lv_sub hl [0, 2, 3, 4, 5] rfl)
          · have q59 : x49.toInt < x52.toInt := ti_nle c53
            have h60 : iv (-2147483648) 2147483646 x49 := iv_ltL (y := x52) h48 h50 q59 (by decide)
            have h61 : iv (-2147483647) 2147483647 x52 := iv_gtL (y := x49) h50 h48 q59 (by decide)
            refine lv_iload_n hx hb dX6_closeWith_68 rfl (lv_at hl 4 rfl) ?_
            refine lv_aload_n hx hb dX6_closeWith_69 rfl (lv_at hl 3 rfl) ?_
            refine tw_getr hx hb hW hown hK hS f_X6_43_6 hz_a0 hk_a0 (t := 6) (n := 0) rfl dX6_closeWith_70 (fun b62 k63 hz_b62 hk_b62 hn_b62 => ?_)
            refine lv_aload_n hx hb dX6_closeWith_73 rfl (lv_at hl 2 rfl) ?_
            refine lv_aload_n hx hb dX6_closeWith_74 rfl (lv_at hl 3 rfl) ?_
            refine tw_getr hx hb hW hown hK hS f_X6_16_6 hz_a0 hk_a0 (t := 14) (n := 27) rfl dX6_closeWith_75 (fun b64 k65 hz_b64 hk_b64 hn_b64 => ?_)
            have hn_b64 := hn_b64 (by decide)
            refine lv_iload hx hb dX6_closeWith_78 (lv_at hl 1 rfl) ?_
            refine tw_iald hx hb hK hS hz_b64 hk_b64 (Or.inl rfl) hn_b64 (lo := (-2147483648)) (hi := 2147483647) h34 ⟨by decide, by decide⟩ rg_u14 dX6_closeWith_80 (fun x68 k67 h66 => ?_)
            refine lv_aload_n hx hb dX6_closeWith_81 rfl (lv_at hl 3 rfl) ?_
            refine tw_getr hx hb hW hown hK hS f_X6_20_6 hz_a0 hk_a0 (t := 14) (n := 27) rfl dX6_closeWith_82 (fun b69 k70 hz_b69 hk_b69 hn_b69 => ?_)
            have hn_b69 := hn_b69 (by decide)
            refine lv_iload hx hb dX6_closeWith_85 (lv_at hl 1 rfl) ?_
            refine tw_iald hx hb hK hS hz_b69 hk_b69 (Or.inl rfl) hn_b69 (lo := (-2147483648)) (hi := 2147483647) h34 ⟨by decide, by decide⟩ rg_u14 dX6_closeWith_87 (fun x73 k72 h71 => ?_)
            refine tw_goi hS (md_runV (As := [.ref (base + b3), .int x68, .int x73]) (rest := [.int a1]) hx hb hml hown hW hK hT hS.1 (t_X5_lead l D cy tx base Z K N M23 R24 J25 hS.2.1 b62 hz_b62 hk_b62 b3 hz_b3 hk_b3 hn_b3 x68 h66 x73 h71) s_X6_135 ⟨rfl, rfl, ⟨Nat.le_of_ble_eq_true rfl, Nat.le_of_ble_eq_true rfl⟩, ⟨Nat.le_of_ble_eq_true rfl, Nat.le_of_ble_eq_true rfl⟩⟩ hz_b62 hk_b62 (by decide) rfl rfl hl.1 rfl (Nat.le_of_ble_eq_true rfl) dX6_closeWith_88) rfl rfl (fun x80 H locs M77 R78 J76 hS f74 g75 E79 => ?_)
            have eM77 := Fr.nil f74 rfl
            subst eM77
            have eR78 := Fr.nil g75 rfl
            subst eR78
            have h_x80 := E79
            clear E79
            refine lv_iadd hx hb dX6_closeWith_91 ?_
            refine tw_top (fun x82 => ?_)
            have h81 := iv_any x82
            refine lv_if_le (tgt := 126) hx hb dX6_closeWith_92 (by decide) (fun c83 => ?_) (fun c83 => ?_)
            · have q84 : x82.toInt ≤ 0 := ti_le c83
              have h85 : iv (-2147483648) 0 x82 := iv_leL (y := 0) h81 (iv_c (c := 0) (n := 0) (by decide)) q84 (by decide)
              refine tw_iinc (lv' := fun x88 => [(4, .int x88), (5, .int x49), (3, .ref (base + b3)), (0, .ref (base + a0)), (1, .int a1), (2, .int a2)]) (lo := 1) (hi := 27) hx hb dX6_closeWith_126 hl (k := 1) rfl h34 (by decide) ⟨by decide, by decide⟩ ⟨by decide, by decide⟩ (by decide) (fun _ => rfl) (fun x88 ls e87 h86 hl => ?_)
              refine lv_goto (tgt := 31) hx hb dX6_closeWith_129 (by decide) ?_
              have hm89 : 27 - x88.toInt < (n_23 : Int) := by
                have := (h_a1).1; have := (h_a1).2; have := (h_a2).1; have := (h_a2).2; have := (h_la).1; have := (h_la).2; have := (h34).1; have := (h34).2; have := (h42).1; have := (h42).2; have := (h86).1; have := (h86).2; omega
              exact ih_23 x88 M23 R24 J76 H locs _ (iv_mono h86 (by decide) (by decide)) hm89 hS (lv_sub hl [0, 2, 3, 4, 5] rfl)
            · have q90 : 0 < x82.toInt := ti_nle c83
              have h91 : iv 1 2147483647 x82 := iv_gtL (y := 0) h81 (iv_c (c := 0) (n := 0) (by decide)) q90 (by decide)
              refine lv_aload_n hx hb dX6_closeWith_95 rfl (lv_at hl 3 rfl) ?_
              refine lv_iload hx hb dX6_closeWith_96 (lv_at hl 0 rfl) ?_
              refine tw_puti hx hb hW hown hK hS f_X6_65_6 hz_a0 hk_a0 rfl rfl (lo := (-2147483648)) (hi := 2147483647) rfl (iv_mono h60 (by decide) (by decide)) rfl dX6_closeWith_98 (fun H locs M94 hS k92 f93 => ?_)
              refine lv_aload_n hx hb dX6_closeWith_101 rfl (lv_at hl 3 rfl) ?_
              refine tw_getr hx hb hW hown hK hS f_X6_26_6 hz_a0 hk_a0 (t := 22) (n := 4) rfl dX6_closeWith_102 (fun b95 k96 hz_b95 hk_b95 hn_b95 => ?_)
              have hn_b95 := hn_b95 (by decide)
              refine lv_aload_n hx hb dX6_closeWith_105 rfl (lv_at hl 3 rfl) ?_
              have k97 : M94 a0 13 = la := ((Fr.kp (k := 13) f93 hk_a0 rfl).trans (Fr.kp (k := 13) f26 hk_a0 rfl)).trans k_la
              refine tw_getk hx hb hW hown hK hS f_X6_62_6 hz_a0 hk_a0 (v := la) k97 dX6_closeWith_106 ?_
              refine lv_iload hx hb dX6_closeWith_109 (lv_at hl 1 rfl) ?_
              refine tw_iast hx hb hK hS hz_b95 hk_b95 (Or.inr (by decide)) hn_b95 h_la ⟨by decide, by decide⟩ h34 (rg_s22 ⟨by decide, by decide⟩) (jl := 0) (jh := 1999999) ⟨by decide, by decide⟩ rfl dX6_closeWith_111 (fun H locs M100 hS k98 f99 => ?_)
              refine lv_aload_n hx hb dX6_closeWith_112 rfl (lv_at hl 3 rfl) ?_
              refine tw_getrk hx hb hW hown hK hS f_X6_26_6 hz_a0 hk_a0 (b := b95) k96 dX6_closeWith_113 ?_
              refine lv_iconst (v := 0) hx hb dX6_closeWith_116 (by decide) ?_
              refine lv_aload_n hx hb dX6_closeWith_117 rfl (lv_at hl 3 rfl) ?_
              refine tw_getr hx hb hW hown hK hS f_X6_29_6 hz_a0 hk_a0 (t := 22) (n := 4) rfl dX6_closeWith_118 (fun b101 k102 hz_b101 hk_b101 hn_b101 => ?_)
              have hn_b101 := hn_b101 (by decide)
              refine lv_iconst (v := 0) hx hb dX6_closeWith_121 (by decide) ?_
              refine lv_iconst (v := 4) hx hb dX6_closeWith_122 (by decide) ?_
              refine tw_copy hx hb (hml.trans hl.1.symm) hW hown hK hS (md_okc w_5_40 rfl (md_okc w_3_226 rfl (md_okc w_3_225 rfl (md_okc w_1_18 rfl (md_ok0))))) hz_b101 hk_b101 (Or.inr (by decide)) hz_b95 hk_b95 (Or.inr (by decide)) hn_b101 hn_b95 (by have := ((iv_c (c := 4) (n := 4) (by decide))).1; have := ((iv_c (c := 4) (n := 4) (by decide))).2; have := ((iv_c (c := 0) (n := 0) (by decide))).1; have := ((iv_c (c := 0) (n := 0) (by decide))).2; have := ((iv_c (c := 0) (n := 0) (by decide))).1; have := ((iv_c (c := 0) (n := 0) (by decide))).2; omega) (by have := ((iv_c (c := 4) (n := 4) (by decide))).1; have := ((iv_c (c := 4) (n := 4) (by decide))).2; have := ((iv_c (c := 0) (n := 0) (by decide))).1; have := ((iv_c (c := 0) (n := 0) (by decide))).2; have := ((iv_c (c := 0) (n := 0) (by decide))).1; have := ((iv_c (c := 0) (n := 0) (by decide))).2; omega) (by have := ((iv_c (c := 4) (n := 4) (by decide))).1; have := ((iv_c (c := 4) (n := 4) (by decide))).2; have := ((iv_c (c := 0) (n := 0) (by decide))).1; have := ((iv_c (c := 0) (n := 0) (by decide))).2; have := ((iv_c (c := 0) (n := 0) (by decide))).1; have := ((iv_c (c := 0) (n := 0) (by decide))).2; omega) (by have := ((iv_c (c := 4) (n := 4) (by decide))).1; have := ((iv_c (c := 4) (n := 4) (by decide))).2; have := ((iv_c (c := 0) (n := 0) (by decide))).1; have := ((iv_c (c := 0) (n := 0) (by decide))).2; have := ((iv_c (c := 0) (n := 0) (by decide))).1; have := ((iv_c (c := 0) (n := 0) (by decide))).2; omega) (by have := ((iv_c (c := 4) (n := 4) (by decide))).1; have := ((iv_c (c := 4) (n := 4) (by decide))).2; have := ((iv_c (c := 0) (n := 0) (by decide))).1; have := ((iv_c (c := 0) (n := 0) (by decide))).2; have := ((iv_c (c := 0) (n := 0) (by decide))).1; have := ((iv_c (c := 0) (n := 0) (by decide))).2; omega) (fun _ _ => ⟨by show (0 : Int) ≤ 0; decide, by show (26 : Int) ≤ 26; decide⟩) (Nat.le_of_ble_eq_true rfl) (Nat.le_of_ble_eq_true rfl) rfl dX6_closeWith_123 (fun H locs M105 hS f103 k104 => ?_)
              refine tw_iinc (lv' := fun x108 => [(4, .int x108), (5, .int x49), (3, .ref (base + b3)), (0, .ref (base + a0)), (1, .int a1), (2, .int a2)]) (lo := 1) (hi := 27) hx hb dX6_closeWith_126 hl (k := 1) rfl h34 (by decide) ⟨by decide, by decide⟩ ⟨by decide, by decide⟩ (by decide) (fun _ => rfl) (fun x108 ls e107 h106 hl => ?_)
              refine lv_goto (tgt := 31) hx hb dX6_closeWith_129 (by decide) ?_
              have hm109 : 27 - x108.toInt < (n_23 : Int) := by
                have := (h_a1).1; have := (h_a1).2; have := (h_a2).1; have := (h_a2).2; have := (h_la).1; have := (h_la).2; have := (h106).1; have := (h106).2; have := (h34).1; have := (h34).2; have := (h42).1; have := (h42).2; omega
              exact ih_23 x108 M105 R24 J76 H locs _ (iv_mono h106 (by decide) (by decide)) hm109 hS (lv_sub hl [0, 2, 3, 4, 5] rfl)
    have hm110 : 27 - (0 : Int32).toInt < (((28 : Nat) : Int) : Int) := by
      have := (h_a1).1; have := (h_a1).2; have := (h_a2).1; have := (h_a2).2; have := (h_la).1; have := (h_la).2; have : (0 : Int32).toInt = 0 := (by decide); omega
    exact W31_23 28 0 Ma Ra J12 H locs _ (iv_mono (iv_c (c := 0) (n := 0) (by decide)) (by decide) (by decide)) hm110 hS hl
  · have q111 : x18.toInt ≤ 0 := ti_nlt c19
    have h112 : iv (-2147483648) 0 x18 := iv_leL (y := 0) h17 (iv_c (c := 0) (n := 0) (by decide)) q111 (by decide)
    exact tw_endv hx hb hr hlocks hK hT hS hQ (trivial) dX6_closeWith_27
def Lt_X6_isMet : WL := [(14, 0, 2000000)]
def LRt_X6_isMet : WL := []
set_option maxRecDepth 100000 in
set_option maxHeartbeats 4000000 in
theorem t_X6_isMet (l : Launch) (D : va_G) (cy : Nat → ClassId) (tx : (Nat → Nat) × (Nat → Nat)) (base Z : Nat) (K N : Nat → Nat) (Ma : MT) (Ra : RT) (Ja : JT) (hTy : Ty Z K N Ma Ra) (a0 : Nat) (hz_a0 : a0 < Z) (hk_a0 : K a0 = 7) (a1 : Int32) (h_a1 : iv 1 3 a1) (a2 : Int32) (h_a2 : iv (-2147483648) 2147483646 a2) : Met l yX6_isMet [Cond.code yX6_isMet cX6_isMet 16 (some .boolean)] (md_rm 1 0 0) (va_Pc [.ref (base + a0), .int a1, .int a2] (md_U D cy tx base Z K N Ma Ra Ja)) (mQi D cy tx base (fun r u => TP Z K N Lt_X6_isMet LRt_X6_isMet Ma Ra u ∧ (iv 0 1 r))) 0 0 (fun q => base ≤ q) := by
  refine tw_ofW (L := Lt_X6_isMet) (LR := LRt_X6_isMet) (by decide) (Nat.le_of_ble_eq_true rfl) hTy ?_
  intro p e s m args below meth c Q ls hx hb hr hlocks hown hml hW hK hT hS hQ hl
  have hl : lv_has ls 16 [(0, .ref (base + a0)), (1, .int a1), (2, .int a2)] := hl
  refine lv_aload_n hx hb dX6_isMet_0 rfl (lv_at hl 0 rfl) ?_
  refine tw_getr hx hb hW hown hK hS f_X6_13_6 hz_a0 hk_a0 (t := 19) (n := 4) rfl dX6_isMet_1 (fun b1 k2 hz_b1 hk_b1 hn_b1 => ?_)
  have hn_b1 := hn_b1 (by decide)
  refine lv_iload_n hx hb dX6_isMet_4 rfl (lv_at hl 1 rfl) ?_
  refine tw_row hx hb hK hS hz_b1 hk_b1 hn_b1 h_a1 ⟨by decide, by decide⟩ dX6_isMet_5 (fun b3 k4 hz_b3 hk_b3 hn_b3 => ?_)
  refine lv_astore_n (lv' := [(3, .ref (base + b3)), (0, .ref (base + a0)), (1, .int a1), (2, .int a2)]) hx hb dX6_isMet_6 rfl hl (by decide) rfl (fun ls hl => ?_)
  refine lv_iload_n hx hb dX6_isMet_7 rfl (lv_at hl 2 rfl) ?_
  refine lv_i2l hx hb dX6_isMet_8 rfl ?_
  refine lv_lstore (lv' := [(4, .long a1.toInt64), (3, .ref (base + b3)), (0, .ref (base + a0)), (1, .int a1), (2, .int a2)]) hx hb dX6_isMet_9 hl (by decide) rfl (fun ls hl => ?_)
  refine lv_lconst (v := 0) hx hb dX6_isMet_11 (by decide) ?_
  refine lv_lstore (lv' := [(6, .long 0), (4, .long a1.toInt64), (3, .ref (base + b3)), (0, .ref (base + a0)), (1, .int a1), (2, .int a2)]) hx hb dX6_isMet_12 hl (by decide) rfl (fun ls hl => ?_)
  refine lv_iconst (v := 0) hx hb dX6_isMet_14 (by decide) ?_
  refine lv_istore (lv' := [(8, .int 0), (6, .long 0), (4, .long a1.toInt64), (3, .ref (base + b3)), (0, .ref (base + a0)), (1, .int a1), (2, .int a2)]) hx hb dX6_isMet_15 hl (by decide) rfl (fun ls hl => ?_)
  have W17_8 : ∀ (n_8 : Nat) (x5 : Int64) (x6 : Int64) (x7 : Int32) (M8 : MT) (R9 : RT) (J10 : JT) (H : Heap) (locs : List Loc) (ls : Array Slot) (h_x7 : iv 0 4 x7) (hm_8 : 4 - x7.toInt < (n_8 : Int)) (hS : SB D cy base Z K N Lt_X6_isMet LRt_X6_isMet Ma Ra M8 R9 J10 s H locs) (hl : lv_has ls 16 [(4, .long x5), (6, .long x6), (8, .int x7), (3, .ref (base + b3)), (0, .ref (base + a0)), (1, .int a1), (2, .int a2)]), W p l e (md_rm 1 0 0) s m args below meth c H locs 0 0 Q (F0 m 17 ls []) := by
    intro n_8
    induction n_8 with
    | zero =>
      intro x5 x6 x7 M8 R9 J10 H locs ls h_x7 hm_8 hS hl
      exfalso
      have := (h_a1).1; have := (h_a1).2; have := (h_a2).1; have := (h_a2).2; have := (h_x7).1; have := (h_x7).2; omega
    | succ n_8 ih_8 =>
      intro x5 x6 x7 M8 R9 J10 H locs ls h_x7 hm_8 hS hl
      have f11 := hS.2.2.1
      have g12 := hS.2.2.2
      refine lv_iload hx hb dX6_isMet_17 (lv_at hl 2 rfl) ?_
      refine lv_iconst (v := 4) hx hb dX6_isMet_19 (by decide) ?_
      refine lv_icmp_ge (tgt := 57) hx hb dX6_isMet_20 (by decide) (fun c13 => ?_) (fun c13 => ?_)
      · have q14 : 4 ≤ x7.toInt := ti_le c13
        have h15 : iv 4 4 x7 := iv_geL (y := 4) h_x7 (iv_c (c := 4) (n := 4) (by decide)) q14 (by decide)
        refine lv_aload_n hx hb dX6_isMet_57 rfl (lv_at hl 3 rfl) ?_
        refine lv_bipush (v := 8) hx hb dX6_isMet_58 (by decide) ?_
        refine tw_iald hx hb hK hS hz_b3 hk_b3 (Or.inr (by decide)) hn_b3 (lo := (-2147483648)) (hi := 2147483647) (iv_c (c := 8) (n := 8) (by decide)) ⟨by decide, by decide⟩ rg_u20 dX6_isMet_60 (fun x18 k17 h16 => ?_)
        refine lv_i2l hx hb dX6_isMet_61 rfl ?_
        refine lv_bipush (v := 14) hx hb dX6_isMet_62 (by decide) ?_
        refine lv_lshl hx hb dX6_isMet_64 rfl ?_
        refine tw_topl (fun x19 => ?_)
        refine lv_aload_n hx hb dX6_isMet_65 rfl (lv_at hl 3 rfl) ?_
        refine lv_bipush (v := 9) hx hb dX6_isMet_66 (by decide) ?_
        refine tw_iald hx hb hK hS hz_b3 hk_b3 (Or.inr (by decide)) hn_b3 (lo := (-2147483648)) (hi := 2147483647) (iv_c (c := 9) (n := 9) (by decide)) ⟨by decide, by decide⟩ rg_u20 dX6_isMet_68 (fun x22 k21 h20 => ?_)
        refine lv_i2l hx hb dX6_isMet_69 rfl ?_
        refine lv_lor hx hb dX6_isMet_70 ?_
        refine tw_topl (fun x23 => ?_)
        refine lv_lstore (lv' := [(8, .long x23), (4, .long x5), (6, .long x6), (3, .ref (base + b3)), (0, .ref (base + a0)), (1, .int a1), (2, .int a2)]) hx hb dX6_isMet_71 hl (by decide) rfl (fun ls hl => ?_)
        refine lv_lload hx hb dX6_isMet_73 (lv_at hl 1 rfl) ?_
        refine lv_ldc2 hx hb hown (hW _ w_5_61 rfl) dX6_isMet_75 ?_
        refine lv_lmul hx hb dX6_isMet_78 ?_
        refine tw_topl (fun x24 => ?_)
        refine lv_lload hx hb dX6_isMet_79 (lv_at hl 2 rfl) ?_
        refine lv_ladd hx hb dX6_isMet_81 ?_
        refine tw_topl (fun x25 => ?_)
        refine lv_ldc2 hx hb hown (hW _ w_5_61 rfl) dX6_isMet_82 ?_
        refine lv_lmul hx hb dX6_isMet_85 ?_
        refine tw_topl (fun x26 => ?_)
        refine lv_lload hx hb dX6_isMet_86 (lv_at hl 0 rfl) ?_
        refine lv_ladd hx hb dX6_isMet_88 ?_
        refine tw_topl (fun x27 => ?_)
        refine lv_lstore (lv' := [(10, .long x27), (8, .long x23), (4, .long x5), (6, .long x6), (3, .ref (base + b3)), (0, .ref (base + a0)), (1, .int a1), (2, .int a2)]) hx hb dX6_isMet_89 hl (by decide) rfl (fun ls hl => ?_)
        refine lv_lload hx hb dX6_isMet_91 (lv_at hl 0 rfl) ?_
        refine lv_ldc2 hx hb hown (hW _ w_5_62 rfl) dX6_isMet_93 ?_
        refine lv_lmul hx hb dX6_isMet_96 ?_
        refine tw_topl (fun x28 => ?_)
        refine lv_bipush (v := 53) hx hb dX6_isMet_97 (by decide) ?_
        refine lv_lushr hx hb dX6_isMet_99 rfl ?_
        refine tw_tj (lo := 0) (hi := 2047) (jv_ush _) (fun x29 h30 => ?_)
        refine lv_l2i hx hb dX6_isMet_100 rfl ?_
        refine tw_ti (jv_l2i h30 ⟨by decide, by decide⟩) (fun x32 h31 => ?_)
        refine lv_istore (lv' := [(12, .int x32), (10, .long x27), (8, .long x23), (4, .long x5), (6, .long x6), (3, .ref (base + b3)), (0, .ref (base + a0)), (1, .int a1), (2, .int a2)]) hx hb dX6_isMet_101 hl (by decide) rfl (fun ls hl => ?_)
        refine lv_iload hx hb dX6_isMet_103 (lv_at hl 0 rfl) ?_
        refine lv_iconst (v := 3) hx hb dX6_isMet_105 (by decide) ?_
        refine tw_imulc (k := 3) (lo := 0) (hi := 6141) hx hb h31 (by decide) (by decide) ⟨by decide, by decide⟩ ⟨by decide, by decide⟩ dX6_isMet_106 (fun x35 e34 h33 => ?_)
        refine lv_istore (lv' := [(13, .int x35), (12, .int x32), (10, .long x27), (8, .long x23), (4, .long x5), (6, .long x6), (3, .ref (base + b3)), (0, .ref (base + a0)), (1, .int a1), (2, .int a2)]) hx hb dX6_isMet_107 hl (by decide) rfl (fun ls hl => ?_)
        refine lv_aload_n hx hb dX6_isMet_109 rfl (lv_at hl 7 rfl) ?_
        refine tw_geti hx hb hW hown hK hS f_X6_68_6 hz_a0 hk_a0 (lo := (-2147483648)) (hi := 2147483647) rfl dX6_isMet_110 (fun x38 k37 h36 => ?_)
        refine lv_iconst (v := 2) hx hb dX6_isMet_113 (by decide) ?_
        refine lv_imul hx hb dX6_isMet_114 ?_
        refine tw_top (fun x40 => ?_)
        have h39 := iv_any x40
        refine lv_bipush (v := 100) hx hb dX6_isMet_115 (by decide) ?_
        refine lv_imul hx hb dX6_isMet_117 ?_
        refine tw_top (fun x42 => ?_)
        have h41 := iv_any x42
        refine lv_istore (lv' := [(14, .int x42), (13, .int x35), (12, .int x32), (10, .long x27), (8, .long x23), (4, .long x5), (6, .long x6), (3, .ref (base + b3)), (0, .ref (base + a0)), (1, .int a1), (2, .int a2)]) hx hb dX6_isMet_118 hl (by decide) rfl (fun ls hl => ?_)
        refine lv_aload_n hx hb dX6_isMet_120 rfl (lv_at hl 8 rfl) ?_
        refine tw_getr hx hb hW hown hK hS f_X6_32_6 hz_a0 hk_a0 (t := 15) (n := 6144) rfl dX6_isMet_121 (fun b43 k44 hz_b43 hk_b43 hn_b43 => ?_)
        have hn_b43 := hn_b43 (by decide)
        refine lv_iload hx hb dX6_isMet_124 (lv_at hl 1 rfl) ?_
        refine tw_lald hx hb hK hS hz_b43 hk_b43 hn_b43 h33 ⟨by decide, by decide⟩ dX6_isMet_126 (fun x45 => ?_)
        refine lv_lload hx hb dX6_isMet_127 (lv_at hl 5 rfl) ?_
        refine W.lcmp hx hb dX6_isMet_129 ?_
        refine lv_topi (fun x48 e47 => ?_)
        have h46 := iv_any x48
        have J167_49 : ∀  (M49 : MT) (R50 : RT) (J51 : JT) (H : Heap) (locs : List Loc) (ls : Array Slot) (hS : SB D cy base Z K N Lt_X6_isMet LRt_X6_isMet Ma Ra M49 R50 J51 s H locs) (hl : lv_has ls 16 [(14, .int x42), (13, .int x35), (12, .int x32), (10, .long x27), (8, .long x23), (4, .long x5), (6, .long x6), (3, .ref (base + b3)), (0, .ref (base + a0)), (1, .int a1), (2, .int a2)]), W p l e (md_rm 1 0 0) s m args below meth c H locs 0 0 Q (F0 m 167 ls []) := by
          intro  M49 R50 J51 H locs ls  hS hl
          have f52 := hS.2.2.1
          have g53 := hS.2.2.2
          refine lv_iconst (v := 0) hx hb dX6_isMet_167 (by decide) ?_
          refine lv_istore (lv' := [(15, .int 0), (14, .int x42), (13, .int x35), (12, .int x32), (10, .long x27), (8, .long x23), (4, .long x5), (6, .long x6), (3, .ref (base + b3)), (0, .ref (base + a0)), (1, .int a1), (2, .int a2)]) hx hb dX6_isMet_168 hl (by decide) rfl (fun ls hl => ?_)
          refine lv_iload hx hb dX6_isMet_170 (lv_at hl 0 rfl) ?_
          have J203_54 : ∀  (M54 : MT) (R55 : RT) (J56 : JT) (H : Heap) (locs : List Loc) (ls : Array Slot) (hS : SB D cy base Z K N Lt_X6_isMet LRt_X6_isMet Ma Ra M54 R55 J56 s H locs) (hl : lv_has ls 16 [(15, .int 0), (14, .int x42), (13, .int x35), (12, .int x32), (10, .long x27), (8, .long x23), (4, .long x5), (6, .long x6), (3, .ref (base + b3)), (0, .ref (base + a0)), (1, .int a1), (2, .int a2)]), W p l e (md_rm 1 0 0) s m args below meth c H locs 0 0 Q (F0 m 203 ls []) := by
            intro  M54 R55 J56 H locs ls  hS hl
            have f57 := hS.2.2.1
            have g58 := hS.2.2.2
            refine lv_aload_n hx hb dX6_isMet_203 rfl (lv_at hl 9 rfl) ?_
            refine tw_getr hx hb hW hown hK hS f_X6_32_6 hz_a0 hk_a0 (t := 15) (n := 6144) rfl dX6_isMet_204 (fun b59 k60 hz_b59 hk_b59 hn_b59 => ?_)
            have hn_b59 := hn_b59 (by decide)
            refine lv_iload hx hb dX6_isMet_207 (lv_at hl 2 rfl) ?_
            refine lv_lload hx hb dX6_isMet_209 (lv_at hl 6 rfl) ?_
            refine tw_last hx hb hK hS hz_b59 hk_b59 hn_b59 h33 ⟨by decide, by decide⟩ dX6_isMet_211 (fun H locs J61 hS => ?_)
            refine lv_aload_n hx hb dX6_isMet_212 rfl (lv_at hl 9 rfl) ?_
            refine tw_getrk hx hb hW hown hK hS f_X6_32_6 hz_a0 hk_a0 (b := b59) k60 dX6_isMet_213 ?_
            refine lv_iload hx hb dX6_isMet_216 (lv_at hl 2 rfl) ?_
            refine lv_iconst (v := 1) hx hb dX6_isMet_218 (by decide) ?_
            refine tw_iadd (lo := 1) (hi := 6142) hx hb h33 (iv_c (c := 1) (n := 1) (by decide)) ⟨by decide, by decide⟩ ⟨by decide, by decide⟩ dX6_isMet_219 (fun x64 e63 h62 => ?_)
            have e63 : x64.toInt = x35.toInt + 1 := e63
            refine lv_lload hx hb dX6_isMet_220 (lv_at hl 7 rfl) ?_
            refine tw_last hx hb hK hS hz_b59 hk_b59 hn_b59 h62 ⟨by decide, by decide⟩ dX6_isMet_222 (fun H locs J65 hS => ?_)
            refine lv_aload_n hx hb dX6_isMet_223 rfl (lv_at hl 9 rfl) ?_
            refine tw_getrk hx hb hW hown hK hS f_X6_32_6 hz_a0 hk_a0 (b := b59) k60 dX6_isMet_224 ?_
            refine lv_iload hx hb dX6_isMet_227 (lv_at hl 2 rfl) ?_
            refine lv_iconst (v := 2) hx hb dX6_isMet_229 (by decide) ?_
            refine tw_iadd (lo := 2) (hi := 6143) hx hb h33 (iv_c (c := 2) (n := 2) (by decide)) ⟨by decide, by decide⟩ ⟨by decide, by decide⟩ dX6_isMet_230 (fun x68 e67 h66 => ?_)
            have e67 : x68.toInt = x35.toInt + 2 := e67
            refine lv_lload hx hb dX6_isMet_231 (lv_at hl 5 rfl) ?_
            refine tw_last hx hb hK hS hz_b59 hk_b59 hn_b59 h66 ⟨by decide, by decide⟩ dX6_isMet_233 (fun H locs J69 hS => ?_)
            refine lv_aload_n hx hb dX6_isMet_234 rfl (lv_at hl 9 rfl) ?_
            refine tw_getr hx hb hW hown hK hS f_X6_36_6 hz_a0 hk_a0 (t := 14) (n := 2048) rfl dX6_isMet_235 (fun b70 k71 hz_b70 hk_b70 hn_b70 => ?_)
            have hn_b70 := hn_b70 (by decide)
            refine lv_iload hx hb dX6_isMet_238 (lv_at hl 3 rfl) ?_
            refine lv_iload hx hb dX6_isMet_240 (lv_at hl 1 rfl) ?_
            refine lv_iload_n hx hb dX6_isMet_242 rfl (lv_at hl 11 rfl) ?_
            refine lv_iadd hx hb dX6_isMet_243 ?_
            refine tw_top (fun x73 => ?_)
            have h72 := iv_any x73
            refine tw_iast hx hb hK hS hz_b70 hk_b70 (Or.inl rfl) hn_b70 h31 ⟨by decide, by decide⟩ h72 (rg_s14 ⟨by decide, by decide⟩) (jl := 0) (jh := 1999999) ⟨by decide, by decide⟩ rfl dX6_isMet_244 (fun H locs M76 hS k74 f75 => ?_)
            refine lv_iconst (v := 0) hx hb dX6_isMet_245 (by decide) ?_
            exact tw_endz hx hb hr hlocks hK hT hS hQ rfl ((iv_mono (iv_c (c := 0) (n := 0) (by decide)) (by decide) (by decide))) dX6_isMet_246
          refine lv_if_eq (tgt := 203) hx hb dX6_isMet_172 (by decide) (fun _ => ?_) (fun h => absurd h (by decide))
          exact J203_54  M49 R50 J51 H locs _  hS hl
        refine lv_if_ne (tgt := 167) hx hb dX6_isMet_130 (by decide) (fun c77 => ?_) (fun c77 => ?_)
        · have q78 : ¬ x48.toInt = 0 := ti_ne c77
          have n79 := md_lne e47 c77
          exact J167_49  M8 R9 J10 H locs _  hS hl
        · have q80 : x48.toInt = 0 := ti_eq c77
          have h81 : iv 0 0 x48 := ⟨by have := (h46).1; have := ((iv_c (c := 0) (n := 0) (by decide))).1; omega, by have := (h46).2; have := ((iv_c (c := 0) (n := 0) (by decide))).2; omega⟩
          refine lv_aload_n hx hb dX6_isMet_133 rfl (lv_at hl 8 rfl) ?_
          refine tw_getrk hx hb hW hown hK hS f_X6_32_6 hz_a0 hk_a0 (b := b43) k44 dX6_isMet_134 ?_
          refine lv_iload hx hb dX6_isMet_137 (lv_at hl 1 rfl) ?_
          refine lv_iconst (v := 1) hx hb dX6_isMet_139 (by decide) ?_
          refine tw_iadd (lo := 1) (hi := 6142) hx hb h33 (iv_c (c := 1) (n := 1) (by decide)) ⟨by decide, by decide⟩ ⟨by decide, by decide⟩ dX6_isMet_140 (fun x84 e83 h82 => ?_)
          have e83 : x84.toInt = x35.toInt + 1 := e83
          refine tw_lald hx hb hK hS hz_b43 hk_b43 hn_b43 h82 ⟨by decide, by decide⟩ dX6_isMet_141 (fun x85 => ?_)
          refine lv_lload hx hb dX6_isMet_142 (lv_at hl 6 rfl) ?_
          refine W.lcmp hx hb dX6_isMet_144 ?_
          refine lv_topi (fun x88 e87 => ?_)
          have h86 := iv_any x88
          refine lv_if_ne (tgt := 167) hx hb dX6_isMet_145 (by decide) (fun c89 => ?_) (fun c89 => ?_)
          · have q90 : ¬ x88.toInt = 0 := ti_ne c89
            have n91 := md_lne e87 c89
            exact J167_49  M8 R9 J10 H locs _  hS hl
          · have q92 : x88.toInt = 0 := ti_eq c89
            have h93 : iv 0 0 x88 := ⟨by have := (h86).1; have := ((iv_c (c := 0) (n := 0) (by decide))).1; omega, by have := (h86).2; have := ((iv_c (c := 0) (n := 0) (by decide))).2; omega⟩
            refine lv_aload_n hx hb dX6_isMet_148 rfl (lv_at hl 8 rfl) ?_
            refine tw_getrk hx hb hW hown hK hS f_X6_32_6 hz_a0 hk_a0 (b := b43) k44 dX6_isMet_149 ?_
            refine lv_iload hx hb dX6_isMet_152 (lv_at hl 1 rfl) ?_
            refine lv_iconst (v := 2) hx hb dX6_isMet_154 (by decide) ?_
            refine tw_iadd (lo := 2) (hi := 6143) hx hb h33 (iv_c (c := 2) (n := 2) (by decide)) ⟨by decide, by decide⟩ ⟨by decide, by decide⟩ dX6_isMet_155 (fun x96 e95 h94 => ?_)
            have e95 : x96.toInt = x35.toInt + 2 := e95
            refine tw_lald hx hb hK hS hz_b43 hk_b43 hn_b43 h94 ⟨by decide, by decide⟩ dX6_isMet_156 (fun x97 => ?_)
            refine lv_lload hx hb dX6_isMet_157 (lv_at hl 4 rfl) ?_
            refine W.lcmp hx hb dX6_isMet_159 ?_
            refine lv_topi (fun x100 e99 => ?_)
            have h98 := iv_any x100
            refine lv_if_ne (tgt := 167) hx hb dX6_isMet_160 (by decide) (fun c101 => ?_) (fun c101 => ?_)
            · have q102 : ¬ x100.toInt = 0 := ti_ne c101
              have n103 := md_lne e99 c101
              exact J167_49  M8 R9 J10 H locs _  hS hl
            · have q104 : x100.toInt = 0 := ti_eq c101
              have h105 : iv 0 0 x100 := ⟨by have := (h98).1; have := ((iv_c (c := 0) (n := 0) (by decide))).1; omega, by have := (h98).2; have := ((iv_c (c := 0) (n := 0) (by decide))).2; omega⟩
              refine lv_iconst (v := 1) hx hb dX6_isMet_163 (by decide) ?_
              refine lv_goto (tgt := 168) hx hb dX6_isMet_164 (by decide) ?_
              refine lv_istore (lv' := [(15, .int 1), (14, .int x42), (13, .int x35), (12, .int x32), (10, .long x27), (8, .long x23), (4, .long x5), (6, .long x6), (3, .ref (base + b3)), (0, .ref (base + a0)), (1, .int a1), (2, .int a2)]) hx hb dX6_isMet_168 hl (by decide) rfl (fun ls hl => ?_)
              refine lv_iload hx hb dX6_isMet_170 (lv_at hl 0 rfl) ?_
              have J203_106 : ∀  (M106 : MT) (R107 : RT) (J108 : JT) (H : Heap) (locs : List Loc) (ls : Array Slot) (hS : SB D cy base Z K N Lt_X6_isMet LRt_X6_isMet Ma Ra M106 R107 J108 s H locs) (hl : lv_has ls 16 [(15, .int 1), (14, .int x42), (13, .int x35), (12, .int x32), (10, .long x27), (8, .long x23), (4, .long x5), (6, .long x6), (3, .ref (base + b3)), (0, .ref (base + a0)), (1, .int a1), (2, .int a2)]), W p l e (md_rm 1 0 0) s m args below meth c H locs 0 0 Q (F0 m 203 ls []) := by
                intro  M106 R107 J108 H locs ls  hS hl
                have f109 := hS.2.2.1
                have g110 := hS.2.2.2
                refine lv_aload_n hx hb dX6_isMet_203 rfl (lv_at hl 9 rfl) ?_
                refine tw_getr hx hb hW hown hK hS f_X6_32_6 hz_a0 hk_a0 (t := 15) (n := 6144) rfl dX6_isMet_204 (fun b111 k112 hz_b111 hk_b111 hn_b111 => ?_)
                have hn_b111 := hn_b111 (by decide)
                refine lv_iload hx hb dX6_isMet_207 (lv_at hl 2 rfl) ?_
                refine lv_lload hx hb dX6_isMet_209 (lv_at hl 6 rfl) ?_
                refine tw_last hx hb hK hS hz_b111 hk_b111 hn_b111 h33 ⟨by decide, by decide⟩ dX6_isMet_211 (fun H locs J113 hS => ?_)
                refine lv_aload_n hx hb dX6_isMet_212 rfl (lv_at hl 9 rfl) ?_
                refine tw_getrk hx hb hW hown hK hS f_X6_32_6 hz_a0 hk_a0 (b := b111) k112 dX6_isMet_213 ?_
                refine lv_iload hx hb dX6_isMet_216 (lv_at hl 2 rfl) ?_
                refine lv_iconst (v := 1) hx hb dX6_isMet_218 (by decide) ?_
                refine tw_iadd (lo := 1) (hi := 6142) hx hb h33 (iv_c (c := 1) (n := 1) (by decide)) ⟨by decide, by decide⟩ ⟨by decide, by decide⟩ dX6_isMet_219 (fun x116 e115 h114 => ?_)
                have e115 : x116.toInt = x35.toInt + 1 := e115
                refine lv_lload hx hb dX6_isMet_220 (lv_at hl 7 rfl) ?_
                refine tw_last hx hb hK hS hz_b111 hk_b111 hn_b111 h114 ⟨by decide, by decide⟩ dX6_isMet_222 (fun H locs J117 hS => ?_)
                refine lv_aload_n hx hb dX6_isMet_223 rfl (lv_at hl 9 rfl) ?_
                refine tw_getrk hx hb hW hown hK hS f_X6_32_6 hz_a0 hk_a0 (b := b111) k112 dX6_isMet_224 ?_
                refine lv_iload hx hb dX6_isMet_227 (lv_at hl 2 rfl) ?_
                refine lv_iconst (v := 2) hx hb dX6_isMet_229 (by decide) ?_
                refine tw_iadd (lo := 2) (hi := 6143) hx hb h33 (iv_c (c := 2) (n := 2) (by decide)) ⟨by decide, by decide⟩ ⟨by decide, by decide⟩ dX6_isMet_230 (fun x120 e119 h118 => ?_)
                have e119 : x120.toInt = x35.toInt + 2 := e119
                refine lv_lload hx hb dX6_isMet_231 (lv_at hl 5 rfl) ?_
                refine tw_last hx hb hK hS hz_b111 hk_b111 hn_b111 h118 ⟨by decide, by decide⟩ dX6_isMet_233 (fun H locs J121 hS => ?_)
                refine lv_aload_n hx hb dX6_isMet_234 rfl (lv_at hl 9 rfl) ?_
                refine tw_getr hx hb hW hown hK hS f_X6_36_6 hz_a0 hk_a0 (t := 14) (n := 2048) rfl dX6_isMet_235 (fun b122 k123 hz_b122 hk_b122 hn_b122 => ?_)
                have hn_b122 := hn_b122 (by decide)
                refine lv_iload hx hb dX6_isMet_238 (lv_at hl 3 rfl) ?_
                refine lv_iload hx hb dX6_isMet_240 (lv_at hl 1 rfl) ?_
                refine lv_iload_n hx hb dX6_isMet_242 rfl (lv_at hl 11 rfl) ?_
                refine lv_iadd hx hb dX6_isMet_243 ?_
                refine tw_top (fun x125 => ?_)
                have h124 := iv_any x125
                refine tw_iast hx hb hK hS hz_b122 hk_b122 (Or.inl rfl) hn_b122 h31 ⟨by decide, by decide⟩ h124 (rg_s14 ⟨by decide, by decide⟩) (jl := 0) (jh := 1999999) ⟨by decide, by decide⟩ rfl dX6_isMet_244 (fun H locs M128 hS k126 f127 => ?_)
                refine lv_iconst (v := 0) hx hb dX6_isMet_245 (by decide) ?_
                exact tw_endz hx hb hr hlocks hK hT hS hQ rfl ((iv_mono (iv_c (c := 0) (n := 0) (by decide)) (by decide) (by decide))) dX6_isMet_246
              refine lv_if_eq (tgt := 203) hx hb dX6_isMet_172 (by decide) (fun h => absurd h (by decide)) (fun _ => ?_)
              refine lv_aload_n hx hb dX6_isMet_175 rfl (lv_at hl 9 rfl) ?_
              refine tw_getr hx hb hW hown hK hS f_X6_36_6 hz_a0 hk_a0 (t := 14) (n := 2048) rfl dX6_isMet_176 (fun b129 k130 hz_b129 hk_b129 hn_b129 => ?_)
              have hn_b129 := hn_b129 (by decide)
              refine lv_iload hx hb dX6_isMet_179 (lv_at hl 3 rfl) ?_
              refine tw_iald hx hb hK hS hz_b129 hk_b129 (Or.inl rfl) hn_b129 (lo := (-2147483648)) (hi := 2147483647) h31 ⟨by decide, by decide⟩ rg_u14 dX6_isMet_181 (fun x133 k132 h131 => ?_)
              refine lv_iload hx hb dX6_isMet_182 (lv_at hl 1 rfl) ?_
              refine lv_icmp_lt (tgt := 203) hx hb dX6_isMet_184 (by decide) (fun c134 => ?_) (fun c134 => ?_)
              · have q135 : x133.toInt < x42.toInt := ti_lt c134
                have h136 : iv (-2147483648) 2147483646 x133 := iv_ltL (y := x42) h131 h41 q135 (by decide)
                have h137 : iv (-2147483647) 2147483647 x42 := iv_gtL (y := x133) h41 h131 q135 (by decide)
                exact J203_106  M8 R9 J10 H locs _  hS hl
              · have q138 : x42.toInt ≤ x133.toInt := ti_nlt c134
                refine lv_aload_n hx hb dX6_isMet_187 rfl (lv_at hl 9 rfl) ?_
                refine tw_getrk hx hb hW hown hK hS f_X6_36_6 hz_a0 hk_a0 (b := b129) k130 dX6_isMet_188 ?_
                refine lv_iload hx hb dX6_isMet_191 (lv_at hl 3 rfl) ?_
                refine tw_ialk hx hb hK hS hz_b129 hk_b129 (Or.inl rfl) hn_b129 h31 ⟨by decide, by decide⟩ (v := x133) k132 dX6_isMet_193 ?_
                refine lv_iload hx hb dX6_isMet_194 (lv_at hl 1 rfl) ?_
                refine lv_iload_n hx hb dX6_isMet_196 rfl (lv_at hl 11 rfl) ?_
                refine lv_iadd hx hb dX6_isMet_197 ?_
                refine tw_top (fun x140 => ?_)
                have h139 := iv_any x140
                refine lv_icmp_gt (tgt := 203) hx hb dX6_isMet_198 (by decide) (fun c141 => ?_) (fun c141 => ?_)
                · have q142 : x140.toInt < x133.toInt := ti_lt c141
                  have h143 : iv (-2147483647) 2147483647 x133 := iv_gtL (y := x140) h131 h139 q142 (by decide)
                  have h144 : iv (-2147483648) 2147483646 x140 := iv_ltL (y := x133) h139 h131 q142 (by decide)
                  exact J203_106  M8 R9 J10 H locs _  hS hl
                · have q145 : x133.toInt ≤ x140.toInt := ti_nlt c141
                  refine lv_iconst (v := 1) hx hb dX6_isMet_201 (by decide) ?_
                  exact tw_endz hx hb hr hlocks hK hT hS hQ rfl ((iv_mono (iv_c (c := 1) (n := 1) (by decide)) (by decide) (by decide))) dX6_isMet_202
      · have q146 : x7.toInt < 4 := ti_nle c13
        have h147 : iv 0 3 x7 := iv_ltL (y := 4) h_x7 (iv_c (c := 4) (n := 4) (by decide)) q146 (by decide)
        refine lv_lload hx hb dX6_isMet_23 (lv_at hl 0 rfl) ?_
        refine lv_bipush (v := 14) hx hb dX6_isMet_25 (by decide) ?_
        refine lv_lshl hx hb dX6_isMet_27 rfl ?_
        refine tw_topl (fun x148 => ?_)
        refine lv_aload_n hx hb dX6_isMet_28 rfl (lv_at hl 3 rfl) ?_
        refine lv_iload hx hb dX6_isMet_29 (lv_at hl 2 rfl) ?_
        refine tw_iald hx hb hK hS hz_b3 hk_b3 (Or.inr (by decide)) hn_b3 (lo := (-2147483648)) (hi := 2147483647) h147 ⟨by decide, by decide⟩ rg_u20 dX6_isMet_31 (fun x151 k150 h149 => ?_)
        refine lv_i2l hx hb dX6_isMet_32 rfl ?_
        refine lv_lor hx hb dX6_isMet_33 ?_
        refine tw_topl (fun x152 => ?_)
        refine lv_lstore (lv' := [(4, .long x152), (6, .long x6), (8, .int x7), (3, .ref (base + b3)), (0, .ref (base + a0)), (1, .int a1), (2, .int a2)]) hx hb dX6_isMet_34 hl (by decide) rfl (fun ls hl => ?_)
        refine lv_lload hx hb dX6_isMet_36 (lv_at hl 1 rfl) ?_
        refine lv_bipush (v := 14) hx hb dX6_isMet_38 (by decide) ?_
        refine lv_lshl hx hb dX6_isMet_40 rfl ?_
        refine tw_topl (fun x153 => ?_)
        refine lv_aload_n hx hb dX6_isMet_41 rfl (lv_at hl 3 rfl) ?_
        refine lv_iconst (v := 4) hx hb dX6_isMet_42 (by decide) ?_
        refine lv_iload hx hb dX6_isMet_43 (lv_at hl 2 rfl) ?_
        refine tw_iadd (lo := 4) (hi := 7) hx hb (iv_c (c := 4) (n := 4) (by decide)) h147 ⟨by decide, by decide⟩ ⟨by decide, by decide⟩ dX6_isMet_45 (fun x156 e155 h154 => ?_)
        have e155 : x156.toInt = 4 + x7.toInt := e155
        refine tw_iald hx hb hK hS hz_b3 hk_b3 (Or.inr (by decide)) hn_b3 (lo := (-2147483648)) (hi := 2147483647) h154 ⟨by decide, by decide⟩ rg_u20 dX6_isMet_46 (fun x159 k158 h157 => ?_)
        refine lv_i2l hx hb dX6_isMet_47 rfl ?_
        refine lv_lor hx hb dX6_isMet_48 ?_
        refine tw_topl (fun x160 => ?_)
        refine lv_lstore (lv' := [(6, .long x160), (4, .long x152), (8, .int x7), (3, .ref (base + b3)), (0, .ref (base + a0)), (1, .int a1), (2, .int a2)]) hx hb dX6_isMet_49 hl (by decide) rfl (fun ls hl => ?_)
        refine tw_iinc (lv' := fun x163 => [(8, .int x163), (6, .long x160), (4, .long x152), (3, .ref (base + b3)), (0, .ref (base + a0)), (1, .int a1), (2, .int a2)]) (lo := 1) (hi := 4) hx hb dX6_isMet_51 hl (k := 2) rfl h147 (by decide) ⟨by decide, by decide⟩ ⟨by decide, by decide⟩ (by decide) (fun _ => rfl) (fun x163 ls e162 h161 hl => ?_)
        refine lv_goto (tgt := 17) hx hb dX6_isMet_54 (by decide) ?_
        have hm164 : 4 - x163.toInt < (n_8 : Int) := by
          have := (h_a1).1; have := (h_a1).2; have := (h_a2).1; have := (h_a2).2; have := (h154).1; have := (h154).2; have := (h161).1; have := (h161).2; have := (h147).1; have := (h147).2; omega
        exact ih_8 (x152) (x160) x163 M8 R9 J10 H locs _ (iv_mono h161 (by decide) (by decide)) hm164 hS (lv_sub hl [2, 1, 0, 3, 4, 5, 6] rfl)
  have hm165 : 4 - (0 : Int32).toInt < (((5 : Nat) : Int) : Int) := by
    have := (h_a1).1; have := (h_a1).2; have := (h_a2).1; have := (h_a2).2; have : (0 : Int32).toInt = 0 := (by decide); omega
  exact W17_8 5 (a1.toInt64) (0) 0 Ma Ra Ja s.heap [] _ (iv_mono (iv_c (c := 0) (n := 0) (by decide)) (by decide) (by decide)) hm165 hS (lv_sub hl [2, 1, 0, 3, 4, 5, 6] rfl)
def Lt_X6_descend : WL := [(6, 2, 4), (6, 6, 15), (7, 14, 15), (14, 0, 2000000), (20, 0, 2000000), (22, 0, 2000000)]
def LRt_X6_descend : WL := [(6, 4, 6)]
set_option maxRecDepth 100000 in
set_option maxHeartbeats 4000000 in
theorem t_X6_descend (l : Launch) (D : va_G) (cy : Nat → ClassId) (tx : (Nat → Nat) × (Nat → Nat)) (base Z : Nat) (K N : Nat → Nat) : ∀ (d : Nat), ∀ (Ma : MT) (Ra : RT) (Ja : JT) (hTy : Ty Z K N Ma Ra) (a0 : Nat) (hz_a0 : a0 < Z) (hk_a0 : K a0 = 7) (a1 : Int32) (h_a1 : iv 0 3 a1) (a2 : Int32) (h_a2 : iv (-2147483648) 2147483646 a2) (la : Int32) (k_la : Ma a0 13 = la) (h_la : iv 0 3 la) (hmd : 3 - a1.toInt < (d : Int)), Met l yX6_descend [Cond.code yX6_descend cX6_descend 8 none] (md_rm (5 + 2 * d) 0 0) (va_Pc [.ref (base + a0), .int a1, .int a2] (md_U D cy tx base Z K N Ma Ra Ja)) (mQv D cy tx base (fun u => TP Z K N Lt_X6_descend LRt_X6_descend Ma Ra u ∧ (True))) 0 0 (fun q => base ≤ q) := by
  intro d
  induction d with
  | zero =>
    intro Ma Ra Ja hTy a0 hz_a0 hk_a0 a1 h_a1 a2 h_a2 la k_la h_la hmd
    exfalso
    have := h_a1.2
    omega
  | succ d ih =>
    intro Ma Ra Ja hTy a0 hz_a0 hk_a0 a1 h_a1 a2 h_a2 la k_la h_la hmd
    refine tw_ofW (L := Lt_X6_descend) (LR := LRt_X6_descend) (by decide) (Nat.le_of_ble_eq_true rfl) hTy ?_
    intro p e s m args below meth c Q ls hx hb hr hlocks hown hml hW hK hT hS hQ hl
    have hl : lv_has ls 8 [(0, .ref (base + a0)), (1, .int a1), (2, .int a2)] := hl
    refine lv_aload_n hx hb dX6_descend_0 rfl (lv_at hl 0 rfl) ?_
    refine tw_getr hx hb hW hown hK hS f_X6_13_6 hz_a0 hk_a0 (t := 19) (n := 4) rfl dX6_descend_1 (fun b1 k2 hz_b1 hk_b1 hn_b1 => ?_)
    have hn_b1 := hn_b1 (by decide)
    refine lv_iload_n hx hb dX6_descend_4 rfl (lv_at hl 1 rfl) ?_
    refine tw_row hx hb hK hS hz_b1 hk_b1 hn_b1 h_a1 ⟨by decide, by decide⟩ dX6_descend_5 (fun b3 k4 hz_b3 hk_b3 hn_b3 => ?_)
    refine lv_astore_n (lv' := [(3, .ref (base + b3)), (0, .ref (base + a0)), (1, .int a1), (2, .int a2)]) hx hb dX6_descend_6 rfl hl (by decide) rfl (fun ls hl => ?_)
    refine lv_aload_n hx hb dX6_descend_7 rfl (lv_at hl 1 rfl) ?_
    refine tw_getr hx hb hW hown hK hS f_X6_43_6 hz_a0 hk_a0 (t := 6) (n := 0) rfl dX6_descend_8 (fun b5 k6 hz_b5 hk_b5 hn_b5 => ?_)
    refine lv_aload_n hx hb dX6_descend_11 rfl (lv_at hl 1 rfl) ?_
    refine tw_getr hx hb hW hown hK hS f_X6_39_6 hz_a0 hk_a0 (t := 10) (n := 0) rfl dX6_descend_12 (fun b7 k8 hz_b7 hk_b7 hn_b7 => ?_)
    refine tw_getr hx hb hW hown hK hS f_X6_99_9 hz_b7 hk_b7 (t := 21) (n := 8) rfl dX6_descend_15 (fun b9 k10 hz_b9 hk_b9 hn_b9 => ?_)
    have hn_b9 := hn_b9 (by decide)
    refine lv_iload_n hx hb dX6_descend_18 rfl (lv_at hl 2 rfl) ?_
    refine lv_aload_n hx hb dX6_descend_19 rfl (lv_at hl 1 rfl) ?_
    refine tw_getrk hx hb hW hown hK hS f_X6_39_6 hz_a0 hk_a0 (b := b7) k8 dX6_descend_20 ?_
    refine tw_geti hx hb hW hown hK hS f_X6_51_9 hz_b7 hk_b7 (lo := 0) (hi := 8) rfl dX6_descend_23 (fun x13 k12 h11 => ?_)
    refine lv_aload_n hx hb dX6_descend_26 rfl (lv_at hl 0 rfl) ?_
    refine lv_aload_n hx hb dX6_descend_27 rfl (lv_at hl 1 rfl) ?_
    refine tw_getrk hx hb hW hown hK hS f_X6_39_6 hz_a0 hk_a0 (b := b7) k8 dX6_descend_28 ?_
    refine tw_geti hx hb hW hown hK hS f_X6_116_9 hz_b7 hk_b7 (lo := (-2147483648)) (hi := 2147483647) rfl dX6_descend_31 (fun x16 k15 h14 => ?_)
    refine lv_iload_n hx hb dX6_descend_34 rfl (lv_at hl 2 rfl) ?_
    refine lv_iadd hx hb dX6_descend_35 ?_
    refine tw_top (fun x18 => ?_)
    have h17 := iv_any x18
    refine tw_gov hS (md_runV (As := [.ref (base + b9), .int a1, .int x13, .ref (base + b3), .int x18]) (rest := []) hx hb hml hown hW hK hT hS.1 (t_X5_bring l D cy tx base Z K N Ma Ra Ja hS.2.1 b5 hz_b5 hk_b5 b9 hz_b9 hk_b9 hn_b9 a1 (iv_mono h_a1 (by decide) (by decide)) x13 h11 b3 hz_b3 hk_b3 hn_b3 x18 h17) s_X6_119 ⟨rfl, rfl, ⟨by simp only [md_rm]; omega, by simp only [md_rm]; omega⟩, ⟨Nat.le_of_ble_eq_true rfl, Nat.le_of_ble_eq_true rfl⟩⟩ hz_b5 hk_b5 (by decide) rfl rfl hl.1 rfl (Nat.le_of_ble_eq_true rfl) dX6_descend_36) rfl rfl (fun H locs M22 R23 J21 hS f19 g20 E24 => ?_)
    have p25 := E24
    clear E24
    have k26 : RowOK N M22 R23 b5 := p25
    refine lv_aload_n hx hb dX6_descend_39 rfl (lv_at hl 1 rfl) ?_
    have k27 : R23 a0 1 = some b5 := (Fr.kp (k := 1) g20 hk_a0 rfl).trans k6
    refine tw_getrk hx hb hW hown hK hS f_X6_43_6 hz_a0 hk_a0 (b := b5) k27 dX6_descend_40 ?_
    refine lv_aload_n hx hb dX6_descend_43 rfl (lv_at hl 1 rfl) ?_
    have k28 : R23 a0 0 = some b7 := (Fr.kp (k := 0) g20 hk_a0 rfl).trans k8
    refine tw_getrk hx hb hW hown hK hS f_X6_39_6 hz_a0 hk_a0 (b := b7) k28 dX6_descend_44 ?_
    refine tw_geti hx hb hW hown hK hS f_X6_123_9 hz_b7 hk_b7 (lo := (-2147483648)) (hi := 2147483647) rfl dX6_descend_47 (fun x31 k30 h29 => ?_)
    refine lv_aload_n hx hb dX6_descend_50 rfl (lv_at hl 1 rfl) ?_
    refine tw_geti hx hb hW hown hK hS f_X6_47_6 hz_a0 hk_a0 (lo := (-2147483648)) (hi := 2147483647) rfl dX6_descend_51 (fun x34 k33 h32 => ?_)
    refine lv_iconst (v := (-1)) hx hb dX6_descend_54 (by decide) ?_
    refine lv_ixor hx hb dX6_descend_55 ?_
    refine tw_top (fun x36 => ?_)
    have h35 := iv_any x36
    refine lv_iand hx hb dX6_descend_56 ?_
    refine tw_top (fun x38 => ?_)
    have h37 := iv_any x38
    refine tw_gov hS (md_runV (As := [.int x38]) (rest := []) hx hb hml hown hW hK hT hS.1 (t_X5_ask l D cy tx base Z K N M22 R23 J21 hS.2.1 b5 hz_b5 hk_b5 x38 h37 k26) s_X6_126 ⟨rfl, rfl, ⟨by simp only [md_rm]; omega, by simp only [md_rm]; omega⟩, ⟨Nat.le_of_ble_eq_true rfl, Nat.le_of_ble_eq_true rfl⟩⟩ hz_b5 hk_b5 (by decide) rfl rfl hl.1 rfl (Nat.le_of_ble_eq_true rfl) dX6_descend_57) rfl rfl (fun H locs M42 R43 J41 hS f39 g40 E44 => ?_)
    have eR43 := Fr.nil g40 rfl
    subst eR43
    refine lv_aload_n hx hb dX6_descend_60 rfl (lv_at hl 1 rfl) ?_
    have k45 : R23 a0 1 = some b5 := (Fr.kp (k := 1) g20 hk_a0 rfl).trans k6
    refine tw_getrk hx hb hW hown hK hS f_X6_43_6 hz_a0 hk_a0 (b := b5) k45 dX6_descend_61 ?_
    refine tw_geti hx hb hW hown hK hS f_X6_129_5 hz_b5 hk_b5 (lo := (-2147483648)) (hi := 2147483647) rfl dX6_descend_64 (fun x48 k47 h46 => ?_)
    refine lv_istore (lv' := [(4, .int x48), (3, .ref (base + b3)), (0, .ref (base + a0)), (1, .int a1), (2, .int a2)]) hx hb dX6_descend_67 hl (by decide) rfl (fun ls hl => ?_)
    refine lv_aload_n hx hb dX6_descend_69 rfl (lv_at hl 2 rfl) ?_
    have k49 : R23 a0 1 = some b5 := (Fr.kp (k := 1) g20 hk_a0 rfl).trans k6
    refine tw_getrk hx hb hW hown hK hS f_X6_43_6 hz_a0 hk_a0 (b := b5) k49 dX6_descend_70 ?_
    refine tw_geti hx hb hW hown hK hS f_X6_132_5 hz_b5 hk_b5 (lo := (-2147483648)) (hi := 2147483647) rfl dX6_descend_73 (fun x52 k51 h50 => ?_)
    refine lv_istore (lv' := [(5, .int x52), (4, .int x48), (3, .ref (base + b3)), (0, .ref (base + a0)), (1, .int a1), (2, .int a2)]) hx hb dX6_descend_76 hl (by decide) rfl (fun ls hl => ?_)
    refine lv_iload_n hx hb dX6_descend_78 rfl (lv_at hl 4 rfl) ?_
    refine lv_aload_n hx hb dX6_descend_79 rfl (lv_at hl 3 rfl) ?_
    have k53 : M42 a0 13 = la := ((Fr.kp (k := 13) f39 hk_a0 rfl).trans (Fr.kp (k := 13) f19 hk_a0 rfl)).trans k_la
    refine tw_getk hx hb hW hown hK hS f_X6_62_6 hz_a0 hk_a0 (v := la) k53 dX6_descend_80 ?_
    refine lv_icmp_lt (tgt := 104) hx hb dX6_descend_83 (by decide) (fun c54 => ?_) (fun c54 => ?_)
    · have q55 : a1.toInt < la.toInt := ti_lt c54
      have h56 : iv 0 2 a1 := iv_ltL (y := la) h_a1 h_la q55 (by decide)
      have h57 : iv 1 3 la := iv_gtL (y := a1) h_la h_a1 q55 (by decide)
      refine lv_iconst (v := 0) hx hb dX6_descend_104 (by decide) ?_
      refine lv_istore (lv' := [(6, .int 0), (5, .int x52), (4, .int x48), (3, .ref (base + b3)), (0, .ref (base + a0)), (1, .int a1), (2, .int a2)]) hx hb dX6_descend_105 hl (by decide) rfl (fun ls hl => ?_)
      have W107_59 : ∀ (n_59 : Nat) (x58 : Int32) (M59 : MT) (R60 : RT) (J61 : JT) (H : Heap) (locs : List Loc) (ls : Array Slot) (h_x58 : iv 0 27 x58) (hm_59 : 27 - x58.toInt < (n_59 : Int)) (hS : SB D cy base Z K N Lt_X6_descend LRt_X6_descend Ma Ra M59 R60 J61 s H locs) (hl : lv_has ls 8 [(6, .int x58), (5, .int x52), (4, .int x48), (3, .ref (base + b3)), (0, .ref (base + a0)), (1, .int a1), (2, .int a2)]), W p l e (md_rm (5 + 2 * (d + 1)) 0 0) s m args below meth c H locs 0 0 Q (F0 m 107 ls []) := by
        intro n_59
        induction n_59 with
        | zero =>
          intro x58 M59 R60 J61 H locs ls h_x58 hm_59 hS hl
          exfalso
          have := (h56).1; have := (h56).2; have := (h_a2).1; have := (h_a2).2; have := (h57).1; have := (h57).2; have := (h_x58).1; have := (h_x58).2; omega
        | succ n_59 ih_59 =>
          intro x58 M59 R60 J61 H locs ls h_x58 hm_59 hS hl
          have f62 := hS.2.2.1
          have g63 := hS.2.2.2
          refine lv_iload hx hb dX6_descend_107 (lv_at hl 0 rfl) ?_
          refine lv_aload_n hx hb dX6_descend_109 rfl (lv_at hl 4 rfl) ?_
          refine tw_geti hx hb hW hown hK hS f_X6_90_6 hz_a0 hk_a0 (lo := 0) (hi := 27) rfl dX6_descend_110 (fun x66 k65 h64 => ?_)
          refine lv_icmp_ge (tgt := 228) hx hb dX6_descend_113 (by decide) (fun c67 => ?_) (fun c67 => ?_)
          · have q68 : x66.toInt ≤ x58.toInt := ti_le c67
            exact tw_endv hx hb hr hlocks hK hT hS hQ (trivial) dX6_descend_228
          · have q69 : x58.toInt < x66.toInt := ti_nle c67
            have h70 : iv 0 26 x58 := iv_ltL (y := x66) h_x58 h64 q69 (by decide)
            have h71 : iv 1 27 x66 := iv_gtL (y := x58) h64 h_x58 q69 (by decide)
            refine lv_iload_n hx hb dX6_descend_116 rfl (lv_at hl 6 rfl) ?_
            refine lv_aload_n hx hb dX6_descend_117 rfl (lv_at hl 4 rfl) ?_
            refine tw_getr hx hb hW hown hK hS f_X6_23_6 hz_a0 hk_a0 (t := 14) (n := 108) rfl dX6_descend_118 (fun b72 k73 hz_b72 hk_b72 hn_b72 => ?_)
            have hn_b72 := hn_b72 (by decide)
            refine lv_iload_n hx hb dX6_descend_121 rfl (lv_at hl 5 rfl) ?_
            refine lv_bipush (v := 27) hx hb dX6_descend_122 (by decide) ?_
            refine tw_imulc (k := 27) (lo := 0) (hi := 54) hx hb h56 (by decide) (by decide) ⟨by decide, by decide⟩ ⟨by decide, by decide⟩ dX6_descend_124 (fun x76 e75 h74 => ?_)
            refine lv_iload hx hb dX6_descend_125 (lv_at hl 0 rfl) ?_
            refine tw_iadd (lo := 0) (hi := 80) hx hb h74 h70 ⟨by decide, by decide⟩ ⟨by decide, by decide⟩ dX6_descend_127 (fun x79 e78 h77 => ?_)
            refine tw_iald hx hb hK hS hz_b72 hk_b72 (Or.inl rfl) hn_b72 (lo := (-2147483648)) (hi := 2147483647) h77 ⟨by decide, by decide⟩ rg_u14 dX6_descend_128 (fun x82 k81 h80 => ?_)
            refine lv_iadd hx hb dX6_descend_129 ?_
            refine tw_top (fun x84 => ?_)
            have h83 := iv_any x84
            refine lv_istore (lv' := [(7, .int x84), (6, .int x58), (5, .int x52), (4, .int x48), (3, .ref (base + b3)), (0, .ref (base + a0)), (1, .int a1), (2, .int a2)]) hx hb dX6_descend_130 hl (by decide) rfl (fun ls hl => ?_)
            refine lv_iload hx hb dX6_descend_132 (lv_at hl 0 rfl) ?_
            refine lv_aload_n hx hb dX6_descend_134 rfl (lv_at hl 5 rfl) ?_
            refine tw_geti hx hb hW hown hK hS f_X6_65_6 hz_a0 hk_a0 (lo := (-2147483648)) (hi := 2147483647) rfl dX6_descend_135 (fun x87 k86 h85 => ?_)
            refine lv_icmp_ge (tgt := 222) hx hb dX6_descend_138 (by decide) (fun c88 => ?_) (fun c88 => ?_)
            · have q89 : x87.toInt ≤ x84.toInt := ti_le c88
              refine tw_iinc (lv' := fun x92 => [(6, .int x92), (7, .int x84), (5, .int x52), (4, .int x48), (3, .ref (base + b3)), (0, .ref (base + a0)), (1, .int a1), (2, .int a2)]) (lo := 1) (hi := 27) hx hb dX6_descend_222 hl (k := 1) rfl h70 (by decide) ⟨by decide, by decide⟩ ⟨by decide, by decide⟩ (by decide) (fun _ => rfl) (fun x92 ls e91 h90 hl => ?_)
              refine lv_goto (tgt := 107) hx hb dX6_descend_225 (by decide) ?_
              have hm93 : 27 - x92.toInt < (n_59 : Int) := by
                have := (h56).1; have := (h56).2; have := (h_a2).1; have := (h_a2).2; have := (h57).1; have := (h57).2; have := (h70).1; have := (h70).2; have := (h77).1; have := (h77).2; have := (h90).1; have := (h90).2; omega
              exact ih_59 x92 M59 R60 J61 H locs _ (iv_mono h90 (by decide) (by decide)) hm93 hS (lv_sub hl [0, 2, 3, 4, 5, 6, 7] rfl)
            · have q94 : x84.toInt < x87.toInt := ti_nle c88
              have h95 : iv (-2147483648) 2147483646 x84 := iv_ltL (y := x87) h83 h85 q94 (by decide)
              have h96 : iv (-2147483647) 2147483647 x87 := iv_gtL (y := x84) h85 h83 q94 (by decide)
              refine lv_aload_n hx hb dX6_descend_141 rfl (lv_at hl 4 rfl) ?_
              refine lv_iconst (v := 0) hx hb dX6_descend_142 (by decide) ?_
              refine lv_aload_n hx hb dX6_descend_143 rfl (lv_at hl 5 rfl) ?_
              have k97 : R60 a0 2 = some b1 := (Fr.kp (k := 2) g63 hk_a0 rfl).trans k2
              refine tw_getrk hx hb hW hown hK hS f_X6_13_6 hz_a0 hk_a0 (b := b1) k97 dX6_descend_144 ?_
              refine lv_iload_n hx hb dX6_descend_147 rfl (lv_at hl 6 rfl) ?_
              refine lv_iconst (v := 1) hx hb dX6_descend_148 (by decide) ?_
              refine tw_iadd (lo := 1) (hi := 3) hx hb h56 (iv_c (c := 1) (n := 1) (by decide)) ⟨by decide, by decide⟩ ⟨by decide, by decide⟩ dX6_descend_149 (fun x100 e99 h98 => ?_)
              have e99 : x100.toInt = a1.toInt + 1 := e99
              refine tw_row hx hb hK hS hz_b1 hk_b1 hn_b1 h98 ⟨by decide, by decide⟩ dX6_descend_150 (fun b101 k102 hz_b101 hk_b101 hn_b101 => ?_)
              refine lv_iconst (v := 0) hx hb dX6_descend_151 (by decide) ?_
              refine lv_bipush (v := 10) hx hb dX6_descend_152 (by decide) ?_
              refine tw_copy hx hb (hml.trans hl.1.symm) hW hown hK hS (md_okc w_5_40 rfl (md_okc w_3_226 rfl (md_okc w_3_225 rfl (md_okc w_1_18 rfl (md_ok0))))) hz_b101 hk_b101 (Or.inr (by decide)) hz_b3 hk_b3 (Or.inr (by decide)) hn_b101 hn_b3 (by have := ((iv_c (c := 10) (n := 10) (by decide))).1; have := ((iv_c (c := 10) (n := 10) (by decide))).2; have := ((iv_c (c := 0) (n := 0) (by decide))).1; have := ((iv_c (c := 0) (n := 0) (by decide))).2; have := ((iv_c (c := 0) (n := 0) (by decide))).1; have := ((iv_c (c := 0) (n := 0) (by decide))).2; omega) (by have := ((iv_c (c := 10) (n := 10) (by decide))).1; have := ((iv_c (c := 10) (n := 10) (by decide))).2; have := ((iv_c (c := 0) (n := 0) (by decide))).1; have := ((iv_c (c := 0) (n := 0) (by decide))).2; have := ((iv_c (c := 0) (n := 0) (by decide))).1; have := ((iv_c (c := 0) (n := 0) (by decide))).2; omega) (by have := ((iv_c (c := 10) (n := 10) (by decide))).1; have := ((iv_c (c := 10) (n := 10) (by decide))).2; have := ((iv_c (c := 0) (n := 0) (by decide))).1; have := ((iv_c (c := 0) (n := 0) (by decide))).2; have := ((iv_c (c := 0) (n := 0) (by decide))).1; have := ((iv_c (c := 0) (n := 0) (by decide))).2; omega) (by have := ((iv_c (c := 10) (n := 10) (by decide))).1; have := ((iv_c (c := 10) (n := 10) (by decide))).2; have := ((iv_c (c := 0) (n := 0) (by decide))).1; have := ((iv_c (c := 0) (n := 0) (by decide))).2; have := ((iv_c (c := 0) (n := 0) (by decide))).1; have := ((iv_c (c := 0) (n := 0) (by decide))).2; omega) (by have := ((iv_c (c := 10) (n := 10) (by decide))).1; have := ((iv_c (c := 10) (n := 10) (by decide))).2; have := ((iv_c (c := 0) (n := 0) (by decide))).1; have := ((iv_c (c := 0) (n := 0) (by decide))).2; have := ((iv_c (c := 0) (n := 0) (by decide))).1; have := ((iv_c (c := 0) (n := 0) (by decide))).2; omega) (fun _ _ => ⟨by show (-2147483648 : Int) ≤ -2147483648; decide, by show (2147483647 : Int) ≤ 2147483647; decide⟩) (by simp only [md_rm]; omega) (Nat.le_trans (m := 40) (Nat.le_of_ble_eq_true rfl) (by simp only [md_rm]; omega)) rfl dX6_descend_154 (fun H locs M105 hS f103 k104 => ?_)
              refine lv_aload_n hx hb dX6_descend_157 rfl (lv_at hl 5 rfl) ?_
              have k106 : R60 a0 1 = some b5 := (Fr.kp (k := 1) g63 hk_a0 rfl).trans k6
              refine tw_getrk hx hb hW hown hK hS f_X6_43_6 hz_a0 hk_a0 (b := b5) k106 dX6_descend_158 ?_
              refine lv_aload_n hx hb dX6_descend_161 rfl (lv_at hl 5 rfl) ?_
              have k107 : R60 a0 2 = some b1 := (Fr.kp (k := 2) g63 hk_a0 rfl).trans k2
              refine tw_getrk hx hb hW hown hK hS f_X6_13_6 hz_a0 hk_a0 (b := b1) k107 dX6_descend_162 ?_
              refine lv_iload_n hx hb dX6_descend_165 rfl (lv_at hl 6 rfl) ?_
              refine lv_iconst (v := 1) hx hb dX6_descend_166 (by decide) ?_
              refine tw_iadd (lo := 1) (hi := 3) hx hb h56 (iv_c (c := 1) (n := 1) (by decide)) ⟨by decide, by decide⟩ ⟨by decide, by decide⟩ dX6_descend_167 (fun x110 e109 h108 => ?_)
              have e109 : x110.toInt = a1.toInt + 1 := e109
              refine tw_row hx hb hK hS hz_b1 hk_b1 hn_b1 h108 ⟨by decide, by decide⟩ dX6_descend_168 (fun b111 k112 hz_b111 hk_b111 hn_b111 => ?_)
              refine lv_iload hx hb dX6_descend_169 (lv_at hl 3 rfl) ?_
              refine lv_aload_n hx hb dX6_descend_171 rfl (lv_at hl 5 rfl) ?_
              refine tw_getr hx hb hW hown hK hS f_X6_16_6 hz_a0 hk_a0 (t := 14) (n := 27) rfl dX6_descend_172 (fun b113 k114 hz_b113 hk_b113 hn_b113 => ?_)
              have hn_b113 := hn_b113 (by decide)
              refine lv_iload hx hb dX6_descend_175 (lv_at hl 1 rfl) ?_
              refine tw_iald hx hb hK hS hz_b113 hk_b113 (Or.inl rfl) hn_b113 (lo := (-2147483648)) (hi := 2147483647) h70 ⟨by decide, by decide⟩ rg_u14 dX6_descend_177 (fun x117 k116 h115 => ?_)
              refine lv_ior hx hb dX6_descend_178 ?_
              refine tw_top (fun x119 => ?_)
              have h118 := iv_any x119
              refine lv_iload hx hb dX6_descend_179 (lv_at hl 2 rfl) ?_
              refine lv_aload_n hx hb dX6_descend_181 rfl (lv_at hl 5 rfl) ?_
              refine tw_getr hx hb hW hown hK hS f_X6_20_6 hz_a0 hk_a0 (t := 14) (n := 27) rfl dX6_descend_182 (fun b120 k121 hz_b120 hk_b120 hn_b120 => ?_)
              have hn_b120 := hn_b120 (by decide)
              refine lv_iload hx hb dX6_descend_185 (lv_at hl 1 rfl) ?_
              refine tw_iald hx hb hK hS hz_b120 hk_b120 (Or.inl rfl) hn_b120 (lo := (-2147483648)) (hi := 2147483647) h70 ⟨by decide, by decide⟩ rg_u14 dX6_descend_187 (fun x124 k123 h122 => ?_)
              refine lv_ior hx hb dX6_descend_188 ?_
              refine tw_top (fun x126 => ?_)
              have h125 := iv_any x126
              refine tw_goi hS (md_runV (As := [.ref (base + b111), .int x119, .int x126]) (rest := []) hx hb hml hown hW hK hT hS.1 (t_X5_hold l D cy tx base Z K N M105 R60 J61 hS.2.1 b5 hz_b5 hk_b5 b111 hz_b111 hk_b111 hn_b111 x119 h118 x126 h125) s_X6_142 ⟨rfl, rfl, ⟨by simp only [md_rm]; omega, by simp only [md_rm]; omega⟩, ⟨Nat.le_of_ble_eq_true rfl, Nat.le_of_ble_eq_true rfl⟩⟩ hz_b5 hk_b5 (by decide) rfl rfl hl.1 rfl (Nat.le_of_ble_eq_true rfl) dX6_descend_189) rfl rfl (fun x133 H locs M130 R131 J129 hS f127 g128 E132 => ?_)
              have eR131 := Fr.nil g128 rfl
              subst eR131
              have h_x133 := E132
              clear E132
              refine lv_pop hx hb dX6_descend_192 rfl ?_
              refine lv_aload_n hx hb dX6_descend_193 rfl (lv_at hl 5 rfl) ?_
              refine tw_getr hx hb hW hown hK hS f_X6_26_6 hz_a0 hk_a0 (t := 22) (n := 4) rfl dX6_descend_194 (fun b134 k135 hz_b134 hk_b134 hn_b134 => ?_)
              have hn_b134 := hn_b134 (by decide)
              refine lv_iload_n hx hb dX6_descend_197 rfl (lv_at hl 6 rfl) ?_
              refine lv_iload hx hb dX6_descend_198 (lv_at hl 1 rfl) ?_
              refine tw_iast hx hb hK hS hz_b134 hk_b134 (Or.inr (by decide)) hn_b134 h56 ⟨by decide, by decide⟩ h70 (rg_s22 ⟨by decide, by decide⟩) (jl := 0) (jh := 1999999) ⟨by decide, by decide⟩ rfl dX6_descend_200 (fun H locs M138 hS k136 f137 => ?_)
              refine lv_aload_n hx hb dX6_descend_201 rfl (lv_at hl 5 rfl) ?_
              refine lv_iload_n hx hb dX6_descend_202 rfl (lv_at hl 6 rfl) ?_
              refine lv_iconst (v := 1) hx hb dX6_descend_203 (by decide) ?_
              refine tw_iadd (lo := 1) (hi := 3) hx hb h56 (iv_c (c := 1) (n := 1) (by decide)) ⟨by decide, by decide⟩ ⟨by decide, by decide⟩ dX6_descend_204 (fun x141 e140 h139 => ?_)
              have e140 : x141.toInt = a1.toInt + 1 := e140
              refine lv_iload hx hb dX6_descend_205 (lv_at hl 0 rfl) ?_
              refine tw_goi hS (md_runV (As := [.int x141, .int x84]) (rest := []) hx hb hml hown hW hK hT hS.1 (t_X6_isMet l D cy tx base Z K N M138 R60 J129 hS.2.1 a0 hz_a0 hk_a0 x141 h139 x84 h95) s_X6_145 ⟨rfl, rfl, ⟨by simp only [md_rm]; omega, by simp only [md_rm]; omega⟩, ⟨Nat.le_of_ble_eq_true rfl, Nat.le_of_ble_eq_true rfl⟩⟩ hz_a0 hk_a0 (by decide) rfl rfl hl.1 rfl (Nat.le_of_ble_eq_true rfl) dX6_descend_207) rfl rfl (fun x148 H locs M145 R146 J144 hS f142 g143 E147 => ?_)
              have eR146 := Fr.nil g143 rfl
              subst eR146
              have h_x148 := E147
              clear E147
              refine lv_if_ne (tgt := 222) hx hb dX6_descend_210 (by decide) (fun c149 => ?_) (fun c149 => ?_)
              · have q150 : ¬ x148.toInt = 0 := ti_ne c149
                have h151 : iv 1 1 x148 := ⟨by have := (h_x148).1; have := ((iv_c (c := 0) (n := 0) (by decide))).1; have := ((iv_c (c := 0) (n := 0) (by decide))).2; omega, by have := (h_x148).2; have := ((iv_c (c := 0) (n := 0) (by decide))).1; have := ((iv_c (c := 0) (n := 0) (by decide))).2; omega⟩
                refine tw_iinc (lv' := fun x154 => [(6, .int x154), (7, .int x84), (5, .int x52), (4, .int x48), (3, .ref (base + b3)), (0, .ref (base + a0)), (1, .int a1), (2, .int a2)]) (lo := 1) (hi := 27) hx hb dX6_descend_222 hl (k := 1) rfl h70 (by decide) ⟨by decide, by decide⟩ ⟨by decide, by decide⟩ (by decide) (fun _ => rfl) (fun x154 ls e153 h152 hl => ?_)
                refine lv_goto (tgt := 107) hx hb dX6_descend_225 (by decide) ?_
                have hm155 : 27 - x154.toInt < (n_59 : Int) := by
                  have := (h56).1; have := (h56).2; have := (h_a2).1; have := (h_a2).2; have := (h57).1; have := (h57).2; have := (h152).1; have := (h152).2; have := (h70).1; have := (h70).2; have := (h77).1; have := (h77).2; omega
                exact ih_59 x154 M145 R60 J144 H locs _ (iv_mono h152 (by decide) (by decide)) hm155 hS (lv_sub hl [0, 2, 3, 4, 5, 6, 7] rfl)
              · have q156 : x148.toInt = 0 := ti_eq c149
                have h157 : iv 0 0 x148 := ⟨by have := (h_x148).1; have := ((iv_c (c := 0) (n := 0) (by decide))).1; omega, by have := (h_x148).2; have := ((iv_c (c := 0) (n := 0) (by decide))).2; omega⟩
                refine lv_aload_n hx hb dX6_descend_213 rfl (lv_at hl 5 rfl) ?_
                refine lv_iload_n hx hb dX6_descend_214 rfl (lv_at hl 6 rfl) ?_
                refine lv_iconst (v := 1) hx hb dX6_descend_215 (by decide) ?_
                refine tw_iadd (lo := 1) (hi := 3) hx hb h56 (iv_c (c := 1) (n := 1) (by decide)) ⟨by decide, by decide⟩ ⟨by decide, by decide⟩ dX6_descend_216 (fun x160 e159 h158 => ?_)
                have e159 : x160.toInt = a1.toInt + 1 := e159
                refine lv_iload hx hb dX6_descend_217 (lv_at hl 0 rfl) ?_
                have k161 : M145 a0 13 = la := ((Fr.kp (k := 13) f142 hk_a0 rfl).trans ((Fr.kp (k := 13) f137 hk_a0 rfl).trans ((Fr.kp (k := 13) f127 hk_a0 rfl).trans ((Fr.kp (k := 13) f103 hk_a0 rfl).trans (Fr.kp (k := 13) f62 hk_a0 rfl))))).trans k_la
                have hm162 : 3 - x160.toInt < (d : Int) := by
                  have := (h56).1; have := (h56).2; have := (h_a2).1; have := (h_a2).2; have := (h57).1; have := (h57).2; have := (h98).1; have := (h98).2; have := (h108).1; have := (h108).2; have := (h139).1; have := (h139).2; have := (h158).1; have := (h158).2; have := (h74).1; have := (h74).2; omega
                refine tw_gov hS (md_runV (As := [.int x160, .int x84]) (rest := []) hx hb hml hown hW hK hT hS.1 (ih M145 R60 J144 hS.2.1 a0 hz_a0 hk_a0 x160 (iv_mono h158 (by decide) (by decide)) x84 h95 la k161 (iv_mono h57 (by decide) (by decide)) hm162) s_X6_86 ⟨rfl, rfl, ⟨by simp only [md_rm]; omega, by simp only [md_rm]; omega⟩, ⟨Nat.le_of_ble_eq_true rfl, Nat.le_of_ble_eq_true rfl⟩⟩ hz_a0 hk_a0 (by decide) rfl rfl hl.1 rfl (Nat.le_of_ble_eq_true rfl) dX6_descend_219) rfl rfl (fun H locs M166 R167 J165 hS f163 g164 E168 => ?_)
                refine tw_iinc (lv' := fun x171 => [(6, .int x171), (7, .int x84), (5, .int x52), (4, .int x48), (3, .ref (base + b3)), (0, .ref (base + a0)), (1, .int a1), (2, .int a2)]) (lo := 1) (hi := 27) hx hb dX6_descend_222 hl (k := 1) rfl h70 (by decide) ⟨by decide, by decide⟩ ⟨by decide, by decide⟩ (by decide) (fun _ => rfl) (fun x171 ls e170 h169 hl => ?_)
                refine lv_goto (tgt := 107) hx hb dX6_descend_225 (by decide) ?_
                have hm172 : 27 - x171.toInt < (n_59 : Int) := by
                  have := (h56).1; have := (h56).2; have := (h_a2).1; have := (h_a2).2; have := (h57).1; have := (h57).2; have := (h169).1; have := (h169).2; have := (h70).1; have := (h70).2; have := (h77).1; have := (h77).2; omega
                exact ih_59 x171 M166 R167 J165 H locs _ (iv_mono h169 (by decide) (by decide)) hm172 hS (lv_sub hl [0, 2, 3, 4, 5, 6, 7] rfl)
      have hm173 : 27 - (0 : Int32).toInt < (((28 : Nat) : Int) : Int) := by
        have := (h56).1; have := (h56).2; have := (h_a2).1; have := (h_a2).2; have := (h57).1; have := (h57).2; have : (0 : Int32).toInt = 0 := (by decide); omega
      exact W107_59 28 0 M42 R23 J41 H locs _ (iv_mono (iv_c (c := 0) (n := 0) (by decide)) (by decide) (by decide)) hm173 hS hl
    · have q174 : la.toInt ≤ a1.toInt := ti_nlt c54
      refine lv_aload_n hx hb dX6_descend_86 rfl (lv_at hl 3 rfl) ?_
      refine lv_aload_n hx hb dX6_descend_87 rfl (lv_at hl 3 rfl) ?_
      have k175 : R23 a0 1 = some b5 := (Fr.kp (k := 1) g20 hk_a0 rfl).trans k6
      refine tw_getrk hx hb hW hown hK hS f_X6_43_6 hz_a0 hk_a0 (b := b5) k175 dX6_descend_88 ?_
      refine lv_aload_n hx hb dX6_descend_91 rfl (lv_at hl 2 rfl) ?_
      refine lv_iload hx hb dX6_descend_92 (lv_at hl 1 rfl) ?_
      refine lv_iload hx hb dX6_descend_94 (lv_at hl 0 rfl) ?_
      refine tw_goi hS (md_runV (As := [.ref (base + b3), .int x48, .int x52]) (rest := [.ref (base + a0)]) hx hb hml hown hW hK hT hS.1 (t_X5_lead l D cy tx base Z K N M42 R23 J41 hS.2.1 b5 hz_b5 hk_b5 b3 hz_b3 hk_b3 hn_b3 x48 h46 x52 h50) s_X6_135 ⟨rfl, rfl, ⟨by simp only [md_rm]; omega, by simp only [md_rm]; omega⟩, ⟨Nat.le_of_ble_eq_true rfl, Nat.le_of_ble_eq_true rfl⟩⟩ hz_b5 hk_b5 (by decide) rfl rfl hl.1 rfl (Nat.le_of_ble_eq_true rfl) dX6_descend_96) rfl rfl (fun x182 H locs M179 R180 J178 hS f176 g177 E181 => ?_)
      have eM179 := Fr.nil f176 rfl
      subst eM179
      have eR180 := Fr.nil g177 rfl
      subst eR180
      have h_x182 := E181
      clear E181
      refine lv_iload_n hx hb dX6_descend_99 rfl (lv_at hl 5 rfl) ?_
      have k183 : M42 a0 13 = la := ((Fr.kp (k := 13) f39 hk_a0 rfl).trans (Fr.kp (k := 13) f19 hk_a0 rfl)).trans k_la
      refine tw_gov hS (md_runV (As := [.int x182, .int a2]) (rest := []) hx hb hml hown hW hK hT hS.1 (t_X6_closeWith l D cy tx base Z K N M42 R23 J178 hS.2.1 a0 hz_a0 hk_a0 x182 h_x182 a2 h_a2 la k183 (iv_mono h_la (by decide) (by decide))) s_X6_139 ⟨rfl, rfl, ⟨by simp only [md_rm]; omega, by simp only [md_rm]; omega⟩, ⟨Nat.le_of_ble_eq_true rfl, Nat.le_of_ble_eq_true rfl⟩⟩ hz_a0 hk_a0 (by decide) rfl rfl hl.1 rfl (Nat.le_of_ble_eq_true rfl) dX6_descend_100) rfl rfl (fun H locs M187 R188 J186 hS f184 g185 E189 => ?_)
      have eR188 := Fr.nil g185 rfl
      subst eR188
      exact tw_endv hx hb hr hlocks hK hT hS hQ (trivial) dX6_descend_103
def Lt_X6_addToChoices : WL := [(7, 12, 13), (14, 0, 2000000)]
def LRt_X6_addToChoices : WL := []
set_option maxRecDepth 100000 in
set_option maxHeartbeats 4000000 in
theorem t_X6_addToChoices (l : Launch) (D : va_G) (cy : Nat → ClassId) (tx : (Nat → Nat) × (Nat → Nat)) (base Z : Nat) (K N : Nat → Nat) (Ma : MT) (Ra : RT) (Ja : JT) (hTy : Ty Z K N Ma Ra) (a0 : Nat) (hz_a0 : a0 < Z) (hk_a0 : K a0 = 7) (a1 : Int32) (h_a1 : iv (-2147483648) 2147483647 a1) (ch : Int32) (k_ch : Ma a0 12 = ch) (h_ch : iv 0 9 ch) : Met l yX6_addToChoices [Cond.code yX6_addToChoices cX6_addToChoices 3 none] (md_rm 1 0 0) (va_Pc [.ref (base + a0), .int a1] (md_U D cy tx base Z K N Ma Ra Ja)) (mQv D cy tx base (fun u => TP Z K N Lt_X6_addToChoices LRt_X6_addToChoices Ma Ra u ∧ (True))) 0 0 (fun q => base ≤ q) := by
  refine tw_ofW (L := Lt_X6_addToChoices) (LR := LRt_X6_addToChoices) (by decide) (Nat.le_of_ble_eq_true rfl) hTy ?_
  intro p e s m args below meth c Q ls hx hb hr hlocks hown hml hW hK hT hS hQ hl
  have hl : lv_has ls 3 [(0, .ref (base + a0)), (1, .int a1)] := hl
  refine lv_iconst (v := 0) hx hb dX6_addToChoices_0 (by decide) ?_
  refine lv_istore_n (lv' := [(2, .int 0), (0, .ref (base + a0)), (1, .int a1)]) hx hb dX6_addToChoices_1 rfl hl (by decide) rfl (fun ls hl => ?_)
  have W2_2 : ∀ (n_2 : Nat) (x1 : Int32) (x7 : Int32) (M2 : MT) (R3 : RT) (J4 : JT) (H : Heap) (locs : List Loc) (ls : Array Slot) (h_x1 : iv 0 9 x1) (h_x7 : iv 0 9 x7) (k8 : M2 a0 12 = x7) (hm_2 : 9 - x1.toInt < (n_2 : Int)) (hS : SB D cy base Z K N Lt_X6_addToChoices LRt_X6_addToChoices Ma Ra M2 R3 J4 s H locs) (hl : lv_has ls 3 [(2, .int x1), (0, .ref (base + a0)), (1, .int a1)]), W p l e (md_rm 1 0 0) s m args below meth c H locs 0 0 Q (F0 m 2 ls []) := by
    intro n_2
    induction n_2 with
    | zero =>
      intro x1 x7 M2 R3 J4 H locs ls h_x1 h_x7 k8 hm_2 hS hl
      exfalso
      have := (h_a1).1; have := (h_a1).2; have := (h_ch).1; have := (h_ch).2; have := (h_x1).1; have := (h_x1).2; omega
    | succ n_2 ih_2 =>
      intro x1 x7 M2 R3 J4 H locs ls h_x1 h_x7 k8 hm_2 hS hl
      have f5 := hS.2.2.1
      have g6 := hS.2.2.2
      refine lv_iload_n hx hb dX6_addToChoices_2 rfl (lv_at hl 0 rfl) ?_
      refine lv_aload_n hx hb dX6_addToChoices_3 rfl (lv_at hl 1 rfl) ?_
      refine tw_getk hx hb hW hown hK hS f_X6_90_6 hz_a0 hk_a0 (v := x7) k8 dX6_addToChoices_4 ?_
      refine lv_icmp_ge (tgt := 100) hx hb dX6_addToChoices_7 (by decide) (fun c9 => ?_) (fun c9 => ?_)
      · have q10 : x7.toInt ≤ x1.toInt := ti_le c9
        refine lv_aload_n hx hb dX6_addToChoices_100 rfl (lv_at hl 1 rfl) ?_
        refine lv_dup hx hb dX6_addToChoices_101 rfl ?_
        refine tw_getk hx hb hW hown hK hS f_X6_90_6 hz_a0 hk_a0 (v := x7) k8 dX6_addToChoices_102 ?_
        refine lv_iconst (v := 3) hx hb dX6_addToChoices_105 (by decide) ?_
        refine tw_imulc (k := 3) (lo := 0) (hi := 27) hx hb h_x7 (by decide) (by decide) ⟨by decide, by decide⟩ ⟨by decide, by decide⟩ dX6_addToChoices_106 (fun x13 e12 h11 => ?_)
        refine tw_puti hx hb hW hown hK hS f_X6_90_6 hz_a0 hk_a0 rfl rfl (lo := 0) (hi := 27) rfl h11 rfl dX6_addToChoices_107 (fun H locs M16 hS k14 f15 => ?_)
        exact tw_endv hx hb hr hlocks hK hT hS hQ (trivial) dX6_addToChoices_110
      · have q17 : x1.toInt < x7.toInt := ti_nle c9
        have h18 : iv 0 8 x1 := iv_ltL (y := x7) h_x1 h_x7 q17 (by decide)
        have h19 : iv 1 9 x7 := iv_gtL (y := x1) h_x7 h_x1 q17 (by decide)
        refine lv_aload_n hx hb dX6_addToChoices_10 rfl (lv_at hl 1 rfl) ?_
        refine tw_getr hx hb hW hown hK hS f_X6_16_6 hz_a0 hk_a0 (t := 14) (n := 27) rfl dX6_addToChoices_11 (fun b20 k21 hz_b20 hk_b20 hn_b20 => ?_)
        have hn_b20 := hn_b20 (by decide)
        refine lv_aload_n hx hb dX6_addToChoices_14 rfl (lv_at hl 1 rfl) ?_
        refine tw_getk hx hb hW hown hK hS f_X6_90_6 hz_a0 hk_a0 (v := x7) k8 dX6_addToChoices_15 ?_
        refine lv_iload_n hx hb dX6_addToChoices_18 rfl (lv_at hl 0 rfl) ?_
        refine tw_iadd (lo := 1) (hi := 17) hx hb h19 h18 ⟨by decide, by decide⟩ ⟨by decide, by decide⟩ dX6_addToChoices_19 (fun x24 e23 h22 => ?_)
        refine lv_aload_n hx hb dX6_addToChoices_20 rfl (lv_at hl 1 rfl) ?_
        refine tw_getrk hx hb hW hown hK hS f_X6_16_6 hz_a0 hk_a0 (b := b20) k21 dX6_addToChoices_21 ?_
        refine lv_iload_n hx hb dX6_addToChoices_24 rfl (lv_at hl 0 rfl) ?_
        refine tw_iald hx hb hK hS hz_b20 hk_b20 (Or.inl rfl) hn_b20 (lo := (-2147483648)) (hi := 2147483647) h18 ⟨by decide, by decide⟩ rg_u14 dX6_addToChoices_25 (fun x27 k26 h25 => ?_)
        refine tw_iast hx hb hK hS hz_b20 hk_b20 (Or.inl rfl) hn_b20 h22 ⟨by decide, by decide⟩ h25 (rg_s14 ⟨by decide, by decide⟩) (jl := 0) (jh := 1999999) ⟨by decide, by decide⟩ rfl dX6_addToChoices_26 (fun H locs M30 hS k28 f29 => ?_)
        refine lv_aload_n hx hb dX6_addToChoices_27 rfl (lv_at hl 1 rfl) ?_
        refine tw_getr hx hb hW hown hK hS f_X6_20_6 hz_a0 hk_a0 (t := 14) (n := 27) rfl dX6_addToChoices_28 (fun b31 k32 hz_b31 hk_b31 hn_b31 => ?_)
        have hn_b31 := hn_b31 (by decide)
        refine lv_aload_n hx hb dX6_addToChoices_31 rfl (lv_at hl 1 rfl) ?_
        have k33 : M30 a0 12 = x7 := (Fr.kp (k := 12) f29 hk_a0 rfl).trans k8
        refine tw_getk hx hb hW hown hK hS f_X6_90_6 hz_a0 hk_a0 (v := x7) k33 dX6_addToChoices_32 ?_
        refine lv_iload_n hx hb dX6_addToChoices_35 rfl (lv_at hl 0 rfl) ?_
        refine tw_iadd (lo := 1) (hi := 17) hx hb h19 h18 ⟨by decide, by decide⟩ ⟨by decide, by decide⟩ dX6_addToChoices_36 (fun x36 e35 h34 => ?_)
        refine lv_aload_n hx hb dX6_addToChoices_37 rfl (lv_at hl 1 rfl) ?_
        refine tw_getrk hx hb hW hown hK hS f_X6_20_6 hz_a0 hk_a0 (b := b31) k32 dX6_addToChoices_38 ?_
        refine lv_iload_n hx hb dX6_addToChoices_41 rfl (lv_at hl 0 rfl) ?_
        refine tw_iald hx hb hK hS hz_b31 hk_b31 (Or.inl rfl) hn_b31 (lo := (-2147483648)) (hi := 2147483647) h18 ⟨by decide, by decide⟩ rg_u14 dX6_addToChoices_42 (fun x39 k38 h37 => ?_)
        refine lv_iload_n hx hb dX6_addToChoices_43 rfl (lv_at hl 2 rfl) ?_
        refine lv_ior hx hb dX6_addToChoices_44 ?_
        refine tw_top (fun x41 => ?_)
        have h40 := iv_any x41
        refine tw_iast hx hb hK hS hz_b31 hk_b31 (Or.inl rfl) hn_b31 h34 ⟨by decide, by decide⟩ h40 (rg_s14 ⟨by decide, by decide⟩) (jl := 0) (jh := 1999999) ⟨by decide, by decide⟩ rfl dX6_addToChoices_45 (fun H locs M44 hS k42 f43 => ?_)
        refine lv_aload_n hx hb dX6_addToChoices_46 rfl (lv_at hl 1 rfl) ?_
        refine tw_getrk hx hb hW hown hK hS f_X6_16_6 hz_a0 hk_a0 (b := b20) k21 dX6_addToChoices_47 ?_
        refine lv_iconst (v := 2) hx hb dX6_addToChoices_50 (by decide) ?_
        refine lv_aload_n hx hb dX6_addToChoices_51 rfl (lv_at hl 1 rfl) ?_
        have k45 : M44 a0 12 = x7 := (Fr.kp (k := 12) f43 hk_a0 rfl).trans k33
        refine tw_getk hx hb hW hown hK hS f_X6_90_6 hz_a0 hk_a0 (v := x7) k45 dX6_addToChoices_52 ?_
        refine tw_icmul (k := 2) (lo := 2) (hi := 18) hx hb (by decide) h19 (by decide) ⟨by decide, by decide⟩ ⟨by decide, by decide⟩ dX6_addToChoices_55 (fun x48 e47 h46 => ?_)
        refine lv_iload_n hx hb dX6_addToChoices_56 rfl (lv_at hl 0 rfl) ?_
        refine tw_iadd (lo := 2) (hi := 26) hx hb h46 h18 ⟨by decide, by decide⟩ ⟨by decide, by decide⟩ dX6_addToChoices_57 (fun x51 e50 h49 => ?_)
        refine lv_aload_n hx hb dX6_addToChoices_58 rfl (lv_at hl 1 rfl) ?_
        refine tw_getrk hx hb hW hown hK hS f_X6_16_6 hz_a0 hk_a0 (b := b20) k21 dX6_addToChoices_59 ?_
        refine lv_iload_n hx hb dX6_addToChoices_62 rfl (lv_at hl 0 rfl) ?_
        refine tw_iald hx hb hK hS hz_b20 hk_b20 (Or.inl rfl) hn_b20 (lo := (-2147483648)) (hi := 2147483647) h18 ⟨by decide, by decide⟩ rg_u14 dX6_addToChoices_63 (fun x54 k53 h52 => ?_)
        refine tw_iast hx hb hK hS hz_b20 hk_b20 (Or.inl rfl) hn_b20 h49 ⟨by decide, by decide⟩ h52 (rg_s14 ⟨by decide, by decide⟩) (jl := 0) (jh := 1999999) ⟨by decide, by decide⟩ rfl dX6_addToChoices_64 (fun H locs M57 hS k55 f56 => ?_)
        refine lv_aload_n hx hb dX6_addToChoices_65 rfl (lv_at hl 1 rfl) ?_
        refine tw_getrk hx hb hW hown hK hS f_X6_20_6 hz_a0 hk_a0 (b := b31) k32 dX6_addToChoices_66 ?_
        refine lv_iconst (v := 2) hx hb dX6_addToChoices_69 (by decide) ?_
        refine lv_aload_n hx hb dX6_addToChoices_70 rfl (lv_at hl 1 rfl) ?_
        have k58 : M57 a0 12 = x7 := (Fr.kp (k := 12) f56 hk_a0 rfl).trans k45
        refine tw_getk hx hb hW hown hK hS f_X6_90_6 hz_a0 hk_a0 (v := x7) k58 dX6_addToChoices_71 ?_
        refine tw_icmul (k := 2) (lo := 2) (hi := 18) hx hb (by decide) h19 (by decide) ⟨by decide, by decide⟩ ⟨by decide, by decide⟩ dX6_addToChoices_74 (fun x61 e60 h59 => ?_)
        refine lv_iload_n hx hb dX6_addToChoices_75 rfl (lv_at hl 0 rfl) ?_
        refine tw_iadd (lo := 2) (hi := 26) hx hb h59 h18 ⟨by decide, by decide⟩ ⟨by decide, by decide⟩ dX6_addToChoices_76 (fun x64 e63 h62 => ?_)
        refine lv_aload_n hx hb dX6_addToChoices_77 rfl (lv_at hl 1 rfl) ?_
        refine tw_getrk hx hb hW hown hK hS f_X6_20_6 hz_a0 hk_a0 (b := b31) k32 dX6_addToChoices_78 ?_
        refine lv_iload_n hx hb dX6_addToChoices_81 rfl (lv_at hl 0 rfl) ?_
        refine tw_iald hx hb hK hS hz_b31 hk_b31 (Or.inl rfl) hn_b31 (lo := (-2147483648)) (hi := 2147483647) h18 ⟨by decide, by decide⟩ rg_u14 dX6_addToChoices_82 (fun x67 k66 h65 => ?_)
        refine tw_iast hx hb hK hS hz_b31 hk_b31 (Or.inl rfl) hn_b31 h62 ⟨by decide, by decide⟩ h65 (rg_s14 ⟨by decide, by decide⟩) (jl := 0) (jh := 1999999) ⟨by decide, by decide⟩ rfl dX6_addToChoices_83 (fun H locs M70 hS k68 f69 => ?_)
        refine lv_aload_n hx hb dX6_addToChoices_84 rfl (lv_at hl 1 rfl) ?_
        refine tw_getrk hx hb hW hown hK hS f_X6_16_6 hz_a0 hk_a0 (b := b20) k21 dX6_addToChoices_85 ?_
        refine lv_iload_n hx hb dX6_addToChoices_88 rfl (lv_at hl 0 rfl) ?_
        refine lv_dup2_11 hx hb dX6_addToChoices_89 rfl rfl ?_
        refine tw_iald hx hb hK hS hz_b20 hk_b20 (Or.inl rfl) hn_b20 (lo := (-2147483648)) (hi := 2147483647) h18 ⟨by decide, by decide⟩ rg_u14 dX6_addToChoices_90 (fun x73 k72 h71 => ?_)
        refine lv_iload_n hx hb dX6_addToChoices_91 rfl (lv_at hl 2 rfl) ?_
        refine lv_ior hx hb dX6_addToChoices_92 ?_
        refine tw_top (fun x75 => ?_)
        have h74 := iv_any x75
        refine tw_iast hx hb hK hS hz_b20 hk_b20 (Or.inl rfl) hn_b20 h18 ⟨by decide, by decide⟩ h74 (rg_s14 ⟨by decide, by decide⟩) (jl := 0) (jh := 1999999) ⟨by decide, by decide⟩ rfl dX6_addToChoices_93 (fun H locs M78 hS k76 f77 => ?_)
        refine tw_iinc (lv' := fun x81 => [(2, .int x81), (0, .ref (base + a0)), (1, .int a1)]) (lo := 1) (hi := 9) hx hb dX6_addToChoices_94 hl (k := 0) rfl h18 (by decide) ⟨by decide, by decide⟩ ⟨by decide, by decide⟩ (by decide) (fun _ => rfl) (fun x81 ls e80 h79 hl => ?_)
        refine lv_goto (tgt := 2) hx hb dX6_addToChoices_97 (by decide) ?_
        have k82 : M78 a0 12 = x7 := ((Fr.kp (k := 12) f77 hk_a0 rfl).trans (Fr.kp (k := 12) f69 hk_a0 rfl)).trans k58
        have hm83 : 9 - x81.toInt < (n_2 : Int) := by
          have := (h_a1).1; have := (h_a1).2; have := (h_ch).1; have := (h_ch).2; have := (h18).1; have := (h18).2; have := (h22).1; have := (h22).2; have := (h34).1; have := (h34).2; have := (h49).1; have := (h49).2; have := (h62).1; have := (h62).2; have := (h79).1; have := (h79).2; omega
        exact ih_2 x81 x7 M78 R3 J4 H locs _ (iv_mono h79 (by decide) (by decide)) (iv_mono h19 (by decide) (by decide)) k82 hm83 hS hl
  have hm84 : 9 - (0 : Int32).toInt < (((10 : Nat) : Int) : Int) := by
    have := (h_a1).1; have := (h_a1).2; have := (h_ch).1; have := (h_ch).2; have : (0 : Int32).toInt = 0 := (by decide); omega
  exact W2_2 10 0 ch Ma Ra Ja s.heap [] _ (iv_mono (iv_c (c := 0) (n := 0) (by decide)) (by decide) (by decide)) h_ch k_ch hm84 hS hl
def Lt_X6_layOutChoices : WL := [(7, 12, 13), (14, 0, 2000000)]
def LRt_X6_layOutChoices : WL := []
set_option maxRecDepth 100000 in
set_option maxHeartbeats 4000000 in
theorem t_X6_layOutChoices (l : Launch) (D : va_G) (cy : Nat → ClassId) (tx : (Nat → Nat) × (Nat → Nat)) (base Z : Nat) (K N : Nat → Nat) (Ma : MT) (Ra : RT) (Ja : JT) (hTy : Ty Z K N Ma Ra) (a0 : Nat) (hz_a0 : a0 < Z) (hk_a0 : K a0 = 7) : Met l yX6_layOutChoices [Cond.code yX6_layOutChoices cX6_layOutChoices 2 none] (md_rm 2 0 0) (va_Pc [.ref (base + a0)] (md_U D cy tx base Z K N Ma Ra Ja)) (mQv D cy tx base (fun u => TP Z K N Lt_X6_layOutChoices LRt_X6_layOutChoices Ma Ra u ∧ (True))) 0 0 (fun q => base ≤ q) := by
  refine tw_ofW (L := Lt_X6_layOutChoices) (LR := LRt_X6_layOutChoices) (by decide) (Nat.le_of_ble_eq_true rfl) hTy ?_
  intro p e s m args below meth c Q ls hx hb hr hlocks hown hml hW hK hT hS hQ hl
  have hl : lv_has ls 2 [(0, .ref (base + a0))] := hl
  refine lv_aload_n hx hb dX6_layOutChoices_0 rfl (lv_at hl 0 rfl) ?_
  refine lv_iconst (v := 1) hx hb dX6_layOutChoices_1 (by decide) ?_
  refine tw_puti hx hb hW hown hK hS f_X6_90_6 hz_a0 hk_a0 rfl rfl (lo := 0) (hi := 27) rfl (iv_mono (iv_c (c := 1) (n := 1) (by decide)) (by decide) (by decide)) rfl dX6_layOutChoices_2 (fun H locs M3 hS k1 f2 => ?_)
  refine lv_aload_n hx hb dX6_layOutChoices_5 rfl (lv_at hl 0 rfl) ?_
  refine tw_getr hx hb hW hown hK hS f_X6_16_6 hz_a0 hk_a0 (t := 14) (n := 27) rfl dX6_layOutChoices_6 (fun b4 k5 hz_b4 hk_b4 hn_b4 => ?_)
  have hn_b4 := hn_b4 (by decide)
  refine lv_iconst (v := 0) hx hb dX6_layOutChoices_9 (by decide) ?_
  refine lv_iconst (v := 0) hx hb dX6_layOutChoices_10 (by decide) ?_
  refine tw_iast hx hb hK hS hz_b4 hk_b4 (Or.inl rfl) hn_b4 (iv_c (c := 0) (n := 0) (by decide)) ⟨by decide, by decide⟩ (iv_c (c := 0) (n := 0) (by decide)) (rg_s14 ⟨by decide, by decide⟩) (jl := 0) (jh := 1999999) ⟨by decide, by decide⟩ rfl dX6_layOutChoices_11 (fun H locs M8 hS k6 f7 => ?_)
  refine lv_aload_n hx hb dX6_layOutChoices_12 rfl (lv_at hl 0 rfl) ?_
  refine tw_getr hx hb hW hown hK hS f_X6_20_6 hz_a0 hk_a0 (t := 14) (n := 27) rfl dX6_layOutChoices_13 (fun b9 k10 hz_b9 hk_b9 hn_b9 => ?_)
  have hn_b9 := hn_b9 (by decide)
  refine lv_iconst (v := 0) hx hb dX6_layOutChoices_16 (by decide) ?_
  refine lv_iconst (v := 0) hx hb dX6_layOutChoices_17 (by decide) ?_
  refine tw_iast hx hb hK hS hz_b9 hk_b9 (Or.inl rfl) hn_b9 (iv_c (c := 0) (n := 0) (by decide)) ⟨by decide, by decide⟩ (iv_c (c := 0) (n := 0) (by decide)) (rg_s14 ⟨by decide, by decide⟩) (jl := 0) (jh := 1999999) ⟨by decide, by decide⟩ rfl dX6_layOutChoices_18 (fun H locs M13 hS k11 f12 => ?_)
  refine lv_aload_n hx hb dX6_layOutChoices_19 rfl (lv_at hl 0 rfl) ?_
  refine tw_getr hx hb hW hown hK hS f_X6_39_6 hz_a0 hk_a0 (t := 10) (n := 0) rfl dX6_layOutChoices_20 (fun b14 k15 hz_b14 hk_b14 hn_b14 => ?_)
  refine tw_geti hx hb hW hown hK hS f_X6_93_9 hz_b14 hk_b14 (lo := (-2147483648)) (hi := 10) rfl dX6_layOutChoices_23 (fun x18 k17 h16 => ?_)
  refine lv_iconst (v := 1) hx hb dX6_layOutChoices_26 (by decide) ?_
  refine lv_isub hx hb dX6_layOutChoices_27 ?_
  refine tw_top (fun x20 => ?_)
  have h19 := iv_any x20
  refine lv_istore_n (lv' := [(1, .int x20), (0, .ref (base + a0))]) hx hb dX6_layOutChoices_28 rfl hl (by decide) rfl (fun ls hl => ?_)
  have W29_22 : ∀ (n_22 : Nat) (x21 : Int32) (M22 : MT) (R23 : RT) (J24 : JT) (H : Heap) (locs : List Loc) (ls : Array Slot) (h_x21 : iv (-2147483648) 2147483647 x21) (hm_22 : x21.toInt - (-2147483648) < (n_22 : Int)) (hS : SB D cy base Z K N Lt_X6_layOutChoices LRt_X6_layOutChoices Ma Ra M22 R23 J24 s H locs) (hl : lv_has ls 2 [(1, .int x21), (0, .ref (base + a0))]), W p l e (md_rm 2 0 0) s m args below meth c H locs 0 0 Q (F0 m 29 ls []) := by
    intro n_22
    induction n_22 with
    | zero =>
      intro x21 M22 R23 J24 H locs ls h_x21 hm_22 hS hl
      exfalso
      have := (h_x21).1; have := (h_x21).2; omega
    | succ n_22 ih_22 =>
      intro x21 M22 R23 J24 H locs ls h_x21 hm_22 hS hl
      have f25 := hS.2.2.1
      have g26 := hS.2.2.2
      refine lv_iload_n hx hb dX6_layOutChoices_29 rfl (lv_at hl 0 rfl) ?_
      refine lv_if_lt (tgt := 69) hx hb dX6_layOutChoices_30 (by decide) (fun c27 => ?_) (fun c27 => ?_)
      · have q28 : x21.toInt < 0 := ti_lt c27
        have h29 : iv (-2147483648) (-1) x21 := iv_ltL (y := 0) h_x21 (iv_c (c := 0) (n := 0) (by decide)) q28 (by decide)
        exact tw_endv hx hb hr hlocks hK hT hS hQ (trivial) dX6_layOutChoices_69
      · have q30 : 0 ≤ x21.toInt := ti_nlt c27
        have h31 : iv 0 2147483647 x21 := iv_geL (y := 0) h_x21 (iv_c (c := 0) (n := 0) (by decide)) q30 (by decide)
        refine lv_aload_n hx hb dX6_layOutChoices_33 rfl (lv_at hl 1 rfl) ?_
        refine tw_geti hx hb hW hown hK hS f_X6_47_6 hz_a0 hk_a0 (lo := (-2147483648)) (hi := 2147483647) rfl dX6_layOutChoices_34 (fun x34 k33 h32 => ?_)
        refine lv_iload_n hx hb dX6_layOutChoices_37 rfl (lv_at hl 0 rfl) ?_
        refine lv_ishr hx hb dX6_layOutChoices_38 ?_
        refine tw_top (fun x36 => ?_)
        have h35 := iv_any x36
        refine lv_iconst (v := 1) hx hb dX6_layOutChoices_39 (by decide) ?_
        refine tw_iand (hi := 1) hx hb (iv_mono (iv_c (c := 1) (n := 1) (by decide)) (lo := 0) (hi := 1) (by decide) (by decide)) (by decide) dX6_layOutChoices_40 (fun x39 h37 => ?_)
        refine lv_iconst (v := 1) hx hb dX6_layOutChoices_41 (by decide) ?_
        refine lv_icmp_ne (tgt := 63) hx hb dX6_layOutChoices_42 (by decide) (fun c40 => ?_) (fun c40 => ?_)
        · have q41 : ¬ x39.toInt = 1 := ti_ne c40
          have h42 : iv 0 0 x39 := ⟨by have := (h37).1; have := ((iv_c (c := 1) (n := 1) (by decide))).1; have := ((iv_c (c := 1) (n := 1) (by decide))).2; omega, by have := (h37).2; have := ((iv_c (c := 1) (n := 1) (by decide))).1; have := ((iv_c (c := 1) (n := 1) (by decide))).2; omega⟩
          refine tw_iinc (lv' := fun x45 => [(1, .int x45), (0, .ref (base + a0))]) (lo := (-1)) (hi := 2147483646) hx hb dX6_layOutChoices_63 hl (k := 0) rfl h31 (by decide) ⟨by decide, by decide⟩ ⟨by decide, by decide⟩ (by decide) (fun _ => rfl) (fun x45 ls e44 h43 hl => ?_)
          refine lv_goto (tgt := 29) hx hb dX6_layOutChoices_66 (by decide) ?_
          have hm46 : x45.toInt - (-2147483648) < (n_22 : Int) := by
            have := (h31).1; have := (h31).2; have := (h43).1; have := (h43).2; omega
          exact ih_22 x45 M22 R23 J24 H locs _ (iv_mono h43 (by decide) (by decide)) hm46 hS hl
        · have q47 : x39.toInt = 1 := ti_eq c40
          have h48 : iv 1 1 x39 := ⟨by have := (h37).1; have := ((iv_c (c := 1) (n := 1) (by decide))).1; omega, by have := (h37).2; have := ((iv_c (c := 1) (n := 1) (by decide))).2; omega⟩
          refine lv_aload_n hx hb dX6_layOutChoices_45 rfl (lv_at hl 1 rfl) ?_
          refine tw_geti hx hb hW hown hK hS f_X6_90_6 hz_a0 hk_a0 (lo := 0) (hi := 27) rfl dX6_layOutChoices_46 (fun x51 k50 h49 => ?_)
          refine lv_iconst (v := 3) hx hb dX6_layOutChoices_49 (by decide) ?_
          refine tw_imulc (k := 3) (lo := 0) (hi := 81) hx hb h49 (by decide) (by decide) ⟨by decide, by decide⟩ ⟨by decide, by decide⟩ dX6_layOutChoices_50 (fun x54 e53 h52 => ?_)
          refine lv_bipush (v := 27) hx hb dX6_layOutChoices_51 (by decide) ?_
          refine lv_icmp_gt (tgt := 63) hx hb dX6_layOutChoices_53 (by decide) (fun c55 => ?_) (fun c55 => ?_)
          · have q56 : 27 < x54.toInt := ti_lt c55
            have h57 : iv 28 81 x54 := iv_gtL (y := 27) h52 (iv_c (c := 27) (n := 27) (by decide)) q56 (by decide)
            refine tw_iinc (lv' := fun x60 => [(1, .int x60), (0, .ref (base + a0))]) (lo := (-1)) (hi := 2147483646) hx hb dX6_layOutChoices_63 hl (k := 0) rfl h31 (by decide) ⟨by decide, by decide⟩ ⟨by decide, by decide⟩ (by decide) (fun _ => rfl) (fun x60 ls e59 h58 hl => ?_)
            refine lv_goto (tgt := 29) hx hb dX6_layOutChoices_66 (by decide) ?_
            have hm61 : x60.toInt - (-2147483648) < (n_22 : Int) := by
              have := (h31).1; have := (h31).2; have := (h58).1; have := (h58).2; omega
            exact ih_22 x60 M22 R23 J24 H locs _ (iv_mono h58 (by decide) (by decide)) hm61 hS hl
          · have q62 : x54.toInt ≤ 27 := ti_nlt c55
            have h63 : iv 0 27 x54 := iv_leL (y := 27) h52 (iv_c (c := 27) (n := 27) (by decide)) q62 (by decide)
            refine lv_aload_n hx hb dX6_layOutChoices_56 rfl (lv_at hl 1 rfl) ?_
            refine lv_iconst (v := 1) hx hb dX6_layOutChoices_57 (by decide) ?_
            refine lv_iload_n hx hb dX6_layOutChoices_58 rfl (lv_at hl 0 rfl) ?_
            refine lv_ishl hx hb dX6_layOutChoices_59 ?_
            refine tw_top (fun x65 => ?_)
            have h64 := iv_any x65
            have h66 : iv 0 9 x51 := by
              have := (h49).1; have := (h49).2; have := (h63).1; have := (h63).2; exact ⟨by omega, by omega⟩
            refine tw_gov hS (md_runV (As := [.int x65]) (rest := []) hx hb hml hown hW hK hT hS.1 (t_X6_addToChoices l D cy tx base Z K N M22 R23 J24 hS.2.1 a0 hz_a0 hk_a0 x65 h64 x51 k50 h66) s_X6_96 ⟨rfl, rfl, ⟨Nat.le_of_ble_eq_true rfl, Nat.le_of_ble_eq_true rfl⟩, ⟨Nat.le_of_ble_eq_true rfl, Nat.le_of_ble_eq_true rfl⟩⟩ hz_a0 hk_a0 (by decide) rfl rfl hl.1 rfl (Nat.le_of_ble_eq_true rfl) dX6_layOutChoices_60) rfl rfl (fun H locs M70 R71 J69 hS f67 g68 E72 => ?_)
            have eR71 := Fr.nil g68 rfl
            subst eR71
            refine tw_iinc (lv' := fun x75 => [(1, .int x75), (0, .ref (base + a0))]) (lo := (-1)) (hi := 2147483646) hx hb dX6_layOutChoices_63 hl (k := 0) rfl h31 (by decide) ⟨by decide, by decide⟩ ⟨by decide, by decide⟩ (by decide) (fun _ => rfl) (fun x75 ls e74 h73 hl => ?_)
            refine lv_goto (tgt := 29) hx hb dX6_layOutChoices_66 (by decide) ?_
            have hm76 : x75.toInt - (-2147483648) < (n_22 : Int) := by
              have := (h31).1; have := (h31).2; have := (h73).1; have := (h73).2; omega
            exact ih_22 x75 M70 R23 J69 H locs _ (iv_mono h73 (by decide) (by decide)) hm76 hS hl
  have hm77 : x20.toInt - (-2147483648) < (((4294967296 : Nat) : Int) : Int) := by
    have := (h19).1; have := (h19).2; omega
  exact W29_22 4294967296 x20 M13 Ra Ja H locs _ h19 hm77 hS hl
