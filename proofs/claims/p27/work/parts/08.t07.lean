def Lt_X3_runRoundDay : WL := [(4, 6, 7), (6, 2, 4), (6, 6, 15), (14, 0, 2000000), (20, 0, 2000000)]
def LRt_X3_runRoundDay : WL := [(6, 4, 6)]
set_option maxRecDepth 100000 in
set_option maxHeartbeats 4000000 in
theorem t_X3_runRoundDay (l : Launch) (D : va_G) (cy : Nat → ClassId) (tx : (Nat → Nat) × (Nat → Nat)) (base Z : Nat) (K N : Nat → Nat) (Ma : MT) (Ra : RT) (Ja : JT) (hTy : Ty Z K N Ma Ra) (a0 : Nat) (hz_a0 : a0 < Z) (hk_a0 : K a0 = 4) : Met l yX3_runRoundDay [Cond.code yX3_runRoundDay cX3_runRoundDay 3 none] (md_rm 5 0 0) (va_Pc [.ref (base + a0)] (md_U D cy tx base Z K N Ma Ra Ja)) (mQv D cy tx base (fun u => TP Z K N Lt_X3_runRoundDay LRt_X3_runRoundDay Ma Ra u ∧ (True))) 0 0 (fun q => base ≤ q) := by
  refine tw_ofW (L := Lt_X3_runRoundDay) (LR := LRt_X3_runRoundDay) (by decide) (Nat.le_of_ble_eq_true rfl) hTy ?_
  intro p e s m args below meth c Q ls hx hb hr hlocks hown hml hW hK hT hS hQ hl
  have hl : lv_has ls 3 [(0, .ref (base + a0))] := hl
  refine lv_iconst (v := 0) hx hb dX3_runRoundDay_0 (by decide) ?_
  refine lv_istore_n (lv' := [(1, .int 0), (0, .ref (base + a0))]) hx hb dX3_runRoundDay_1 rfl hl (by decide) rfl (fun ls hl => ?_)
  have W2_2 : ∀ (n_2 : Nat) (x1 : Int32) (M2 : MT) (R3 : RT) (J4 : JT) (H : Heap) (locs : List Loc) (ls : Array Slot) (h_x1 : iv 0 8 x1) (hm_2 : 8 - x1.toInt < (n_2 : Int)) (hS : SB D cy base Z K N Lt_X3_runRoundDay LRt_X3_runRoundDay Ma Ra M2 R3 J4 s H locs) (hl : lv_has ls 3 [(1, .int x1), (0, .ref (base + a0))]), W p l e (md_rm 5 0 0) s m args below meth c H locs 0 0 Q (F0 m 2 ls []) := by
    intro n_2
    induction n_2 with
    | zero =>
      intro x1 M2 R3 J4 H locs ls h_x1 hm_2 hS hl
      exfalso
      have := (h_x1).1; have := (h_x1).2; omega
    | succ n_2 ih_2 =>
      intro x1 M2 R3 J4 H locs ls h_x1 hm_2 hS hl
      have f5 := hS.2.2.1
      have g6 := hS.2.2.2
      refine lv_iload_n hx hb dX3_runRoundDay_2 rfl (lv_at hl 0 rfl) ?_
      refine lv_aload_n hx hb dX3_runRoundDay_3 rfl (lv_at hl 1 rfl) ?_
      refine tw_getr hx hb hW hown hK hS f_X3_21_3 hz_a0 hk_a0 (t := 10) (n := 0) rfl dX3_runRoundDay_4 (fun b7 k8 hz_b7 hk_b7 hn_b7 => ?_)
      refine tw_geti hx hb hW hown hK hS f_X3_51_9 hz_b7 hk_b7 (lo := 0) (hi := 8) rfl dX3_runRoundDay_7 (fun x11 k10 h9 => ?_)
      refine lv_icmp_ge (tgt := 144) hx hb dX3_runRoundDay_10 (by decide) (fun c12 => ?_) (fun c12 => ?_)
      · have q13 : x11.toInt ≤ x1.toInt := ti_le c12
        exact tw_endv hx hb hr hlocks hK hT hS hQ (trivial) dX3_runRoundDay_144
      · have q14 : x1.toInt < x11.toInt := ti_nle c12
        have h15 : iv 0 7 x1 := iv_ltL (y := x11) h_x1 h9 q14 (by decide)
        have h16 : iv 1 8 x11 := iv_gtL (y := x1) h9 h_x1 q14 (by decide)
        refine lv_aload_n hx hb dX3_runRoundDay_13 rfl (lv_at hl 1 rfl) ?_
        refine tw_getr hx hb hW hown hK hS f_X3_25_3 hz_a0 hk_a0 (t := 6) (n := 0) rfl dX3_runRoundDay_14 (fun b17 k18 hz_b17 hk_b17 hn_b17 => ?_)
        refine lv_aload_n hx hb dX3_runRoundDay_17 rfl (lv_at hl 1 rfl) ?_
        refine tw_getrk hx hb hW hown hK hS f_X3_21_3 hz_a0 hk_a0 (b := b7) k8 dX3_runRoundDay_18 ?_
        refine tw_getr hx hb hW hown hK hS f_X3_57_9 hz_b7 hk_b7 (t := 21) (n := 8) rfl dX3_runRoundDay_21 (fun b19 k20 hz_b19 hk_b19 hn_b19 => ?_)
        have hn_b19 := hn_b19 (by decide)
        refine lv_iload_n hx hb dX3_runRoundDay_24 rfl (lv_at hl 0 rfl) ?_
        refine lv_aload_n hx hb dX3_runRoundDay_25 rfl (lv_at hl 1 rfl) ?_
        refine tw_getrk hx hb hW hown hK hS f_X3_21_3 hz_a0 hk_a0 (b := b7) k8 dX3_runRoundDay_26 ?_
        refine tw_getk hx hb hW hown hK hS f_X3_51_9 hz_b7 hk_b7 (v := x11) k10 dX3_runRoundDay_29 ?_
        refine lv_aload_n hx hb dX3_runRoundDay_32 rfl (lv_at hl 1 rfl) ?_
        refine tw_getr hx hb hW hown hK hS f_X3_9_3 hz_a0 hk_a0 (t := 20) (n := 10) rfl dX3_runRoundDay_33 (fun b21 k22 hz_b21 hk_b21 hn_b21 => ?_)
        have hn_b21 := hn_b21 (by decide)
        refine lv_aload_n hx hb dX3_runRoundDay_36 rfl (lv_at hl 1 rfl) ?_
        refine tw_getrk hx hb hW hown hK hS f_X3_21_3 hz_a0 hk_a0 (b := b7) k8 dX3_runRoundDay_37 ?_
        refine tw_geti hx hb hW hown hK hS f_X3_60_9 hz_b7 hk_b7 (lo := (-2147483648)) (hi := 2147483647) rfl dX3_runRoundDay_40 (fun x25 k24 h23 => ?_)
        refine tw_gov hS (md_runV (As := [.ref (base + b19), .int x1, .int x11, .ref (base + b21), .int x25]) (rest := []) hx hb hml hown hW hK hT hS.1 (t_X5_bring l D cy tx base Z K N M2 R3 J4 hS.2.1 b17 hz_b17 hk_b17 b19 hz_b19 hk_b19 hn_b19 x1 h15 x11 (iv_mono h16 (by decide) (by decide)) b21 hz_b21 hk_b21 hn_b21 x25 h23) s_X3_63 ⟨rfl, rfl, ⟨Nat.le_of_ble_eq_true rfl, Nat.le_of_ble_eq_true rfl⟩, ⟨Nat.le_of_ble_eq_true rfl, Nat.le_of_ble_eq_true rfl⟩⟩ hz_b17 hk_b17 (by decide) rfl rfl hl.1 rfl (Nat.le_of_ble_eq_true rfl) dX3_runRoundDay_43) rfl rfl (fun H locs M29 R30 J28 hS f26 g27 E31 => ?_)
        have p32 := E31
        clear E31
        have k33 : RowOK N M29 R30 b17 := p32
        refine lv_aload_n hx hb dX3_runRoundDay_46 rfl (lv_at hl 1 rfl) ?_
        have k34 : R30 a0 1 = some b17 := (Fr.kp (k := 1) g27 hk_a0 rfl).trans k18
        refine tw_getrk hx hb hW hown hK hS f_X3_25_3 hz_a0 hk_a0 (b := b17) k34 dX3_runRoundDay_47 ?_
        refine lv_aload_n hx hb dX3_runRoundDay_50 rfl (lv_at hl 1 rfl) ?_
        have k35 : R30 a0 0 = some b7 := (Fr.kp (k := 0) g27 hk_a0 rfl).trans k8
        refine tw_getrk hx hb hW hown hK hS f_X3_21_3 hz_a0 hk_a0 (b := b7) k35 dX3_runRoundDay_51 ?_
        refine tw_geti hx hb hW hown hK hS f_X3_69_9 hz_b7 hk_b7 (lo := (-2147483648)) (hi := 2147483647) rfl dX3_runRoundDay_54 (fun x38 k37 h36 => ?_)
        refine tw_gov hS (md_runV (As := [.int x38]) (rest := []) hx hb hml hown hW hK hT hS.1 (t_X5_ask l D cy tx base Z K N M29 R30 J28 hS.2.1 b17 hz_b17 hk_b17 x38 h36 k33) s_X3_72 ⟨rfl, rfl, ⟨Nat.le_of_ble_eq_true rfl, Nat.le_of_ble_eq_true rfl⟩, ⟨Nat.le_of_ble_eq_true rfl, Nat.le_of_ble_eq_true rfl⟩⟩ hz_b17 hk_b17 (by decide) rfl rfl hl.1 rfl (Nat.le_of_ble_eq_true rfl) dX3_runRoundDay_57) rfl rfl (fun H locs M42 R43 J41 hS f39 g40 E44 => ?_)
        have eR43 := Fr.nil g40 rfl
        subst eR43
        refine lv_aload_n hx hb dX3_runRoundDay_60 rfl (lv_at hl 1 rfl) ?_
        refine tw_getrk hx hb hW hown hK hS f_X3_25_3 hz_a0 hk_a0 (b := b17) k34 dX3_runRoundDay_61 ?_
        refine lv_aload_n hx hb dX3_runRoundDay_64 rfl (lv_at hl 1 rfl) ?_
        have k45 : R30 a0 2 = some b21 := (Fr.kp (k := 2) g27 hk_a0 rfl).trans k22
        refine tw_getrk hx hb hW hown hK hS f_X3_9_3 hz_a0 hk_a0 (b := b21) k45 dX3_runRoundDay_65 ?_
        refine lv_aload_n hx hb dX3_runRoundDay_68 rfl (lv_at hl 1 rfl) ?_
        refine tw_getrk hx hb hW hown hK hS f_X3_25_3 hz_a0 hk_a0 (b := b17) k34 dX3_runRoundDay_69 ?_
        refine tw_geti hx hb hW hown hK hS f_X3_76_5 hz_b17 hk_b17 (lo := (-2147483648)) (hi := 2147483647) rfl dX3_runRoundDay_72 (fun x48 k47 h46 => ?_)
        refine lv_aload_n hx hb dX3_runRoundDay_75 rfl (lv_at hl 1 rfl) ?_
        refine tw_getrk hx hb hW hown hK hS f_X3_25_3 hz_a0 hk_a0 (b := b17) k34 dX3_runRoundDay_76 ?_
        refine tw_geti hx hb hW hown hK hS f_X3_79_5 hz_b17 hk_b17 (lo := (-2147483648)) (hi := 2147483647) rfl dX3_runRoundDay_79 (fun x51 k50 h49 => ?_)
        refine tw_goi hS (md_runV (As := [.ref (base + b21), .int x48, .int x51]) (rest := []) hx hb hml hown hW hK hT hS.1 (t_X5_hold l D cy tx base Z K N M42 R30 J41 hS.2.1 b17 hz_b17 hk_b17 b21 hz_b21 hk_b21 hn_b21 x48 h46 x51 h49) s_X3_82 ⟨rfl, rfl, ⟨Nat.le_of_ble_eq_true rfl, Nat.le_of_ble_eq_true rfl⟩, ⟨Nat.le_of_ble_eq_true rfl, Nat.le_of_ble_eq_true rfl⟩⟩ hz_b17 hk_b17 (by decide) rfl rfl hl.1 rfl (Nat.le_of_ble_eq_true rfl) dX3_runRoundDay_82) rfl rfl (fun x58 H locs M55 R56 J54 hS f52 g53 E57 => ?_)
        have eR56 := Fr.nil g53 rfl
        subst eR56
        have h_x58 := E57
        clear E57
        refine lv_iconst (v := 1) hx hb dX3_runRoundDay_85 (by decide) ?_
        refine lv_icmp_ne (tgt := 99) hx hb dX3_runRoundDay_86 (by decide) (fun c59 => ?_) (fun c59 => ?_)
        · have q60 : ¬ x58.toInt = 1 := ti_ne c59
          refine lv_iconst (v := 0) hx hb dX3_runRoundDay_99 (by decide) ?_
          refine lv_istore_n (lv' := [(2, .int 0), (1, .int x1), (0, .ref (base + a0))]) hx hb dX3_runRoundDay_100 rfl hl (by decide) rfl (fun ls hl => ?_)
          have W101_62 : ∀ (n_62 : Nat) (x61 : Int32) (M62 : MT) (R63 : RT) (J64 : JT) (H : Heap) (locs : List Loc) (ls : Array Slot) (h_x61 : iv 0 10 x61) (hm_62 : 10 - x61.toInt < (n_62 : Int)) (hS : SB D cy base Z K N Lt_X3_runRoundDay LRt_X3_runRoundDay Ma Ra M62 R63 J64 s H locs) (hl : lv_has ls 3 [(2, .int x61), (1, .int x1), (0, .ref (base + a0))]), W p l e (md_rm 5 0 0) s m args below meth c H locs 0 0 Q (F0 m 101 ls []) := by
            intro n_62
            induction n_62 with
            | zero =>
              intro x61 M62 R63 J64 H locs ls h_x61 hm_62 hS hl
              exfalso
              have := (h_x61).1; have := (h_x61).2; omega
            | succ n_62 ih_62 =>
              intro x61 M62 R63 J64 H locs ls h_x61 hm_62 hS hl
              have f65 := hS.2.2.1
              have g66 := hS.2.2.2
              refine lv_iload_n hx hb dX3_runRoundDay_101 rfl (lv_at hl 0 rfl) ?_
              refine lv_aload_n hx hb dX3_runRoundDay_102 rfl (lv_at hl 2 rfl) ?_
              refine tw_getr hx hb hW hown hK hS f_X3_21_3 hz_a0 hk_a0 (t := 10) (n := 0) rfl dX3_runRoundDay_103 (fun b67 k68 hz_b67 hk_b67 hn_b67 => ?_)
              refine tw_geti hx hb hW hown hK hS f_X3_112_9 hz_b67 hk_b67 (lo := (-2147483648)) (hi := 10) rfl dX3_runRoundDay_106 (fun x71 k70 h69 => ?_)
              refine lv_icmp_ge (tgt := 138) hx hb dX3_runRoundDay_109 (by decide) (fun c72 => ?_) (fun c72 => ?_)
              · have q73 : x71.toInt ≤ x61.toInt := ti_le c72
                refine tw_iinc (lv' := fun x76 => [(1, .int x76), (2, .int x61), (0, .ref (base + a0))]) (lo := 1) (hi := 8) hx hb dX3_runRoundDay_138 hl (k := 1) rfl h15 (by decide) ⟨by decide, by decide⟩ ⟨by decide, by decide⟩ (by decide) (fun _ => rfl) (fun x76 ls e75 h74 hl => ?_)
                refine lv_goto (tgt := 2) hx hb dX3_runRoundDay_141 (by decide) ?_
                have hm77 : 8 - x76.toInt < (n_2 : Int) := by
                  have := (h15).1; have := (h15).2; have := (h74).1; have := (h74).2; omega
                exact ih_2 x76 M62 R63 J64 H locs _ (iv_mono h74 (by decide) (by decide)) hm77 hS (lv_sub hl [0, 2] rfl)
              · have q78 : x61.toInt < x71.toInt := ti_nle c72
                have h79 : iv 0 9 x61 := iv_ltL (y := x71) h_x61 h69 q78 (by decide)
                have h80 : iv 1 10 x71 := iv_gtL (y := x61) h69 h_x61 q78 (by decide)
                refine lv_aload_n hx hb dX3_runRoundDay_112 rfl (lv_at hl 2 rfl) ?_
                refine tw_getr hx hb hW hown hK hS f_X3_18_3 hz_a0 hk_a0 (t := 14) (n := 10) rfl dX3_runRoundDay_113 (fun b81 k82 hz_b81 hk_b81 hn_b81 => ?_)
                have hn_b81 := hn_b81 (by decide)
                refine lv_iload_n hx hb dX3_runRoundDay_116 rfl (lv_at hl 0 rfl) ?_
                refine lv_dup2_11 hx hb dX3_runRoundDay_117 rfl rfl ?_
                refine tw_iald hx hb hK hS hz_b81 hk_b81 (Or.inl rfl) hn_b81 (lo := (-2147483648)) (hi := 2147483647) h79 ⟨by decide, by decide⟩ rg_u14 dX3_runRoundDay_118 (fun x85 k84 h83 => ?_)
                refine lv_aload_n hx hb dX3_runRoundDay_119 rfl (lv_at hl 2 rfl) ?_
                refine tw_getr hx hb hW hown hK hS f_X3_25_3 hz_a0 hk_a0 (t := 6) (n := 0) rfl dX3_runRoundDay_120 (fun b86 k87 hz_b86 hk_b86 hn_b86 => ?_)
                refine tw_geti hx hb hW hown hK hS f_X3_139_5 hz_b86 hk_b86 (lo := (-2147483648)) (hi := 2147483647) rfl dX3_runRoundDay_123 (fun x90 k89 h88 => ?_)
                refine lv_iload_n hx hb dX3_runRoundDay_126 rfl (lv_at hl 0 rfl) ?_
                refine lv_ishr hx hb dX3_runRoundDay_127 ?_
                refine tw_top (fun x92 => ?_)
                have h91 := iv_any x92
                refine lv_iconst (v := 1) hx hb dX3_runRoundDay_128 (by decide) ?_
                refine tw_iand (hi := 1) hx hb (iv_mono (iv_c (c := 1) (n := 1) (by decide)) (lo := 0) (hi := 1) (by decide) (by decide)) (by decide) dX3_runRoundDay_129 (fun x95 h93 => ?_)
                refine lv_iadd hx hb dX3_runRoundDay_130 ?_
                refine tw_top (fun x97 => ?_)
                have h96 := iv_any x97
                refine tw_iast hx hb hK hS hz_b81 hk_b81 (Or.inl rfl) hn_b81 h79 ⟨by decide, by decide⟩ h96 (rg_s14 ⟨by decide, by decide⟩) (jl := 0) (jh := 1999999) ⟨by decide, by decide⟩ rfl dX3_runRoundDay_131 (fun H locs M100 hS k98 f99 => ?_)
                refine tw_iinc (lv' := fun x103 => [(2, .int x103), (1, .int x1), (0, .ref (base + a0))]) (lo := 1) (hi := 10) hx hb dX3_runRoundDay_132 hl (k := 0) rfl h79 (by decide) ⟨by decide, by decide⟩ ⟨by decide, by decide⟩ (by decide) (fun _ => rfl) (fun x103 ls e102 h101 hl => ?_)
                refine lv_goto (tgt := 101) hx hb dX3_runRoundDay_135 (by decide) ?_
                have hm104 : 10 - x103.toInt < (n_62 : Int) := by
                  have := (h101).1; have := (h101).2; have := (h79).1; have := (h79).2; omega
                exact ih_62 x103 M100 R63 J64 H locs _ (iv_mono h101 (by decide) (by decide)) hm104 hS hl
          have hm105 : 10 - (0 : Int32).toInt < (((11 : Nat) : Int) : Int) := by
            have : (0 : Int32).toInt = 0 := (by decide); omega
          exact W101_62 11 0 M55 R30 J54 H locs _ (iv_mono (iv_c (c := 0) (n := 0) (by decide)) (by decide) (by decide)) hm105 hS hl
        · have q106 : x58.toInt = 1 := ti_eq c59
          have h107 : iv 1 1 x58 := ⟨by have := (h_x58).1; have := ((iv_c (c := 1) (n := 1) (by decide))).1; omega, by have := (h_x58).2; have := ((iv_c (c := 1) (n := 1) (by decide))).2; omega⟩
          refine lv_aload_n hx hb dX3_runRoundDay_89 rfl (lv_at hl 1 rfl) ?_
          refine lv_dup hx hb dX3_runRoundDay_90 rfl ?_
          refine tw_geti hx hb hW hown hK hS f_X3_42_3 hz_a0 hk_a0 (lo := (-2147483648)) (hi := 2147483647) rfl dX3_runRoundDay_91 (fun x110 k109 h108 => ?_)
          refine lv_iconst (v := 1) hx hb dX3_runRoundDay_94 (by decide) ?_
          refine lv_iadd hx hb dX3_runRoundDay_95 ?_
          refine tw_top (fun x112 => ?_)
          have h111 := iv_any x112
          refine tw_puti hx hb hW hown hK hS f_X3_42_3 hz_a0 hk_a0 rfl rfl (lo := (-2147483648)) (hi := 2147483647) rfl h111 rfl dX3_runRoundDay_96 (fun H locs M115 hS k113 f114 => ?_)
          refine lv_iconst (v := 0) hx hb dX3_runRoundDay_99 (by decide) ?_
          refine lv_istore_n (lv' := [(2, .int 0), (1, .int x1), (0, .ref (base + a0))]) hx hb dX3_runRoundDay_100 rfl hl (by decide) rfl (fun ls hl => ?_)
          have W101_117 : ∀ (n_117 : Nat) (x116 : Int32) (M117 : MT) (R118 : RT) (J119 : JT) (H : Heap) (locs : List Loc) (ls : Array Slot) (h_x116 : iv 0 10 x116) (hm_117 : 10 - x116.toInt < (n_117 : Int)) (hS : SB D cy base Z K N Lt_X3_runRoundDay LRt_X3_runRoundDay Ma Ra M117 R118 J119 s H locs) (hl : lv_has ls 3 [(2, .int x116), (1, .int x1), (0, .ref (base + a0))]), W p l e (md_rm 5 0 0) s m args below meth c H locs 0 0 Q (F0 m 101 ls []) := by
            intro n_117
            induction n_117 with
            | zero =>
              intro x116 M117 R118 J119 H locs ls h_x116 hm_117 hS hl
              exfalso
              have := (h_x116).1; have := (h_x116).2; omega
            | succ n_117 ih_117 =>
              intro x116 M117 R118 J119 H locs ls h_x116 hm_117 hS hl
              have f120 := hS.2.2.1
              have g121 := hS.2.2.2
              refine lv_iload_n hx hb dX3_runRoundDay_101 rfl (lv_at hl 0 rfl) ?_
              refine lv_aload_n hx hb dX3_runRoundDay_102 rfl (lv_at hl 2 rfl) ?_
              refine tw_getr hx hb hW hown hK hS f_X3_21_3 hz_a0 hk_a0 (t := 10) (n := 0) rfl dX3_runRoundDay_103 (fun b122 k123 hz_b122 hk_b122 hn_b122 => ?_)
              refine tw_geti hx hb hW hown hK hS f_X3_112_9 hz_b122 hk_b122 (lo := (-2147483648)) (hi := 10) rfl dX3_runRoundDay_106 (fun x126 k125 h124 => ?_)
              refine lv_icmp_ge (tgt := 138) hx hb dX3_runRoundDay_109 (by decide) (fun c127 => ?_) (fun c127 => ?_)
              · have q128 : x126.toInt ≤ x116.toInt := ti_le c127
                refine tw_iinc (lv' := fun x131 => [(1, .int x131), (2, .int x116), (0, .ref (base + a0))]) (lo := 1) (hi := 8) hx hb dX3_runRoundDay_138 hl (k := 1) rfl h15 (by decide) ⟨by decide, by decide⟩ ⟨by decide, by decide⟩ (by decide) (fun _ => rfl) (fun x131 ls e130 h129 hl => ?_)
                refine lv_goto (tgt := 2) hx hb dX3_runRoundDay_141 (by decide) ?_
                have hm132 : 8 - x131.toInt < (n_2 : Int) := by
                  have := (h15).1; have := (h15).2; have := (h129).1; have := (h129).2; omega
                exact ih_2 x131 M117 R118 J119 H locs _ (iv_mono h129 (by decide) (by decide)) hm132 hS (lv_sub hl [0, 2] rfl)
              · have q133 : x116.toInt < x126.toInt := ti_nle c127
                have h134 : iv 0 9 x116 := iv_ltL (y := x126) h_x116 h124 q133 (by decide)
                have h135 : iv 1 10 x126 := iv_gtL (y := x116) h124 h_x116 q133 (by decide)
                refine lv_aload_n hx hb dX3_runRoundDay_112 rfl (lv_at hl 2 rfl) ?_
                refine tw_getr hx hb hW hown hK hS f_X3_18_3 hz_a0 hk_a0 (t := 14) (n := 10) rfl dX3_runRoundDay_113 (fun b136 k137 hz_b136 hk_b136 hn_b136 => ?_)
                have hn_b136 := hn_b136 (by decide)
                refine lv_iload_n hx hb dX3_runRoundDay_116 rfl (lv_at hl 0 rfl) ?_
                refine lv_dup2_11 hx hb dX3_runRoundDay_117 rfl rfl ?_
                refine tw_iald hx hb hK hS hz_b136 hk_b136 (Or.inl rfl) hn_b136 (lo := (-2147483648)) (hi := 2147483647) h134 ⟨by decide, by decide⟩ rg_u14 dX3_runRoundDay_118 (fun x140 k139 h138 => ?_)
                refine lv_aload_n hx hb dX3_runRoundDay_119 rfl (lv_at hl 2 rfl) ?_
                refine tw_getr hx hb hW hown hK hS f_X3_25_3 hz_a0 hk_a0 (t := 6) (n := 0) rfl dX3_runRoundDay_120 (fun b141 k142 hz_b141 hk_b141 hn_b141 => ?_)
                refine tw_geti hx hb hW hown hK hS f_X3_139_5 hz_b141 hk_b141 (lo := (-2147483648)) (hi := 2147483647) rfl dX3_runRoundDay_123 (fun x145 k144 h143 => ?_)
                refine lv_iload_n hx hb dX3_runRoundDay_126 rfl (lv_at hl 0 rfl) ?_
                refine lv_ishr hx hb dX3_runRoundDay_127 ?_
                refine tw_top (fun x147 => ?_)
                have h146 := iv_any x147
                refine lv_iconst (v := 1) hx hb dX3_runRoundDay_128 (by decide) ?_
                refine tw_iand (hi := 1) hx hb (iv_mono (iv_c (c := 1) (n := 1) (by decide)) (lo := 0) (hi := 1) (by decide) (by decide)) (by decide) dX3_runRoundDay_129 (fun x150 h148 => ?_)
                refine lv_iadd hx hb dX3_runRoundDay_130 ?_
                refine tw_top (fun x152 => ?_)
                have h151 := iv_any x152
                refine tw_iast hx hb hK hS hz_b136 hk_b136 (Or.inl rfl) hn_b136 h134 ⟨by decide, by decide⟩ h151 (rg_s14 ⟨by decide, by decide⟩) (jl := 0) (jh := 1999999) ⟨by decide, by decide⟩ rfl dX3_runRoundDay_131 (fun H locs M155 hS k153 f154 => ?_)
                refine tw_iinc (lv' := fun x158 => [(2, .int x158), (1, .int x1), (0, .ref (base + a0))]) (lo := 1) (hi := 10) hx hb dX3_runRoundDay_132 hl (k := 0) rfl h134 (by decide) ⟨by decide, by decide⟩ ⟨by decide, by decide⟩ (by decide) (fun _ => rfl) (fun x158 ls e157 h156 hl => ?_)
                refine lv_goto (tgt := 101) hx hb dX3_runRoundDay_135 (by decide) ?_
                have hm159 : 10 - x158.toInt < (n_117 : Int) := by
                  have := (h134).1; have := (h134).2; have := (h156).1; have := (h156).2; omega
                exact ih_117 x158 M155 R118 J119 H locs _ (iv_mono h156 (by decide) (by decide)) hm159 hS hl
          have hm160 : 10 - (0 : Int32).toInt < (((11 : Nat) : Int) : Int) := by
            have : (0 : Int32).toInt = 0 := (by decide); omega
          exact W101_117 11 0 M115 R30 J54 H locs _ (iv_mono (iv_c (c := 0) (n := 0) (by decide)) (by decide) (by decide)) hm160 hS hl
  have hm161 : 8 - (0 : Int32).toInt < (((9 : Nat) : Int) : Int) := by
    have : (0 : Int32).toInt = 0 := (by decide); omega
  exact W2_2 9 0 Ma Ra Ja s.heap [] _ (iv_mono (iv_c (c := 0) (n := 0) (by decide)) (by decide) (by decide)) hm161 hS hl
def Lt_X3_runRoundAgain : WL := [(4, 6, 7), (6, 2, 4), (6, 6, 15), (14, 0, 2000000), (20, 0, 2000000)]
def LRt_X3_runRoundAgain : WL := [(6, 4, 6)]
set_option maxRecDepth 100000 in
set_option maxHeartbeats 4000000 in
theorem t_X3_runRoundAgain (l : Launch) (D : va_G) (cy : Nat → ClassId) (tx : (Nat → Nat) × (Nat → Nat)) (base Z : Nat) (K N : Nat → Nat) (Ma : MT) (Ra : RT) (Ja : JT) (hTy : Ty Z K N Ma Ra) (a0 : Nat) (hz_a0 : a0 < Z) (hk_a0 : K a0 = 4) : Met l yX3_runRoundAgain [Cond.code yX3_runRoundAgain cX3_runRoundAgain 2 none] (md_rm 6 0 0) (va_Pc [.ref (base + a0)] (md_U D cy tx base Z K N Ma Ra Ja)) (mQv D cy tx base (fun u => TP Z K N Lt_X3_runRoundAgain LRt_X3_runRoundAgain Ma Ra u ∧ (True))) 0 0 (fun q => base ≤ q) := by
  refine tw_ofW (L := Lt_X3_runRoundAgain) (LR := LRt_X3_runRoundAgain) (by decide) (Nat.le_of_ble_eq_true rfl) hTy ?_
  intro p e s m args below meth c Q ls hx hb hr hlocks hown hml hW hK hT hS hQ hl
  have hl : lv_has ls 2 [(0, .ref (base + a0))] := hl
  refine lv_aload_n hx hb dX3_runRoundAgain_0 rfl (lv_at hl 0 rfl) ?_
  refine lv_iconst (v := 0) hx hb dX3_runRoundAgain_1 (by decide) ?_
  refine tw_puti hx hb hW hown hK hS f_X3_42_3 hz_a0 hk_a0 rfl rfl (lo := (-2147483648)) (hi := 2147483647) rfl (iv_mono (iv_c (c := 0) (n := 0) (by decide)) (by decide) (by decide)) rfl dX3_runRoundAgain_2 (fun H locs M3 hS k1 f2 => ?_)
  refine lv_iconst (v := 0) hx hb dX3_runRoundAgain_5 (by decide) ?_
  refine lv_istore_n (lv' := [(1, .int 0), (0, .ref (base + a0))]) hx hb dX3_runRoundAgain_6 rfl hl (by decide) rfl (fun ls hl => ?_)
  have W7_5 : ∀ (n_5 : Nat) (x4 : Int32) (M5 : MT) (R6 : RT) (J7 : JT) (H : Heap) (locs : List Loc) (ls : Array Slot) (h_x4 : iv 0 10 x4) (hm_5 : 10 - x4.toInt < (n_5 : Int)) (hS : SB D cy base Z K N Lt_X3_runRoundAgain LRt_X3_runRoundAgain Ma Ra M5 R6 J7 s H locs) (hl : lv_has ls 2 [(1, .int x4), (0, .ref (base + a0))]), W p l e (md_rm 6 0 0) s m args below meth c H locs 0 0 Q (F0 m 7 ls []) := by
    intro n_5
    induction n_5 with
    | zero =>
      intro x4 M5 R6 J7 H locs ls h_x4 hm_5 hS hl
      exfalso
      have := (h_x4).1; have := (h_x4).2; omega
    | succ n_5 ih_5 =>
      intro x4 M5 R6 J7 H locs ls h_x4 hm_5 hS hl
      have f8 := hS.2.2.1
      have g9 := hS.2.2.2
      refine lv_iload_n hx hb dX3_runRoundAgain_7 rfl (lv_at hl 0 rfl) ?_
      refine lv_bipush (v := 10) hx hb dX3_runRoundAgain_8 (by decide) ?_
      refine lv_icmp_ge (tgt := 26) hx hb dX3_runRoundAgain_10 (by decide) (fun c10 => ?_) (fun c10 => ?_)
      · have q11 : 10 ≤ x4.toInt := ti_le c10
        have h12 : iv 10 10 x4 := iv_geL (y := 10) h_x4 (iv_c (c := 10) (n := 10) (by decide)) q11 (by decide)
        refine lv_iconst (v := 0) hx hb dX3_runRoundAgain_26 (by decide) ?_
        refine lv_istore_n (lv' := [(1, .int 0), (0, .ref (base + a0))]) hx hb dX3_runRoundAgain_27 rfl hl (by decide) rfl (fun ls hl => ?_)
        have W28_14 : ∀ (n_14 : Nat) (x13 : Int32) (M14 : MT) (R15 : RT) (J16 : JT) (H : Heap) (locs : List Loc) (ls : Array Slot) (h_x13 : iv 0 2147483647 x13) (hm_14 : 2147483647 - x13.toInt < (n_14 : Int)) (hS : SB D cy base Z K N Lt_X3_runRoundAgain LRt_X3_runRoundAgain Ma Ra M14 R15 J16 s H locs) (hl : lv_has ls 2 [(1, .int x13), (0, .ref (base + a0))]), W p l e (md_rm 6 0 0) s m args below meth c H locs 0 0 Q (F0 m 28 ls []) := by
          intro n_14
          induction n_14 with
          | zero =>
            intro x13 M14 R15 J16 H locs ls h_x13 hm_14 hS hl
            exfalso
            have := (h_x13).1; have := (h_x13).2; omega
          | succ n_14 ih_14 =>
            intro x13 M14 R15 J16 H locs ls h_x13 hm_14 hS hl
            have f17 := hS.2.2.1
            have g18 := hS.2.2.2
            refine lv_iload_n hx hb dX3_runRoundAgain_28 rfl (lv_at hl 0 rfl) ?_
            refine lv_aload_n hx hb dX3_runRoundAgain_29 rfl (lv_at hl 1 rfl) ?_
            refine tw_geti hx hb hW hown hK hS f_X3_133_3 hz_a0 hk_a0 (lo := (-2147483648)) (hi := 2147483647) rfl dX3_runRoundAgain_30 (fun x21 k20 h19 => ?_)
            refine lv_icmp_ge (tgt := 46) hx hb dX3_runRoundAgain_33 (by decide) (fun c22 => ?_) (fun c22 => ?_)
            · have q23 : x21.toInt ≤ x13.toInt := ti_le c22
              exact tw_endv hx hb hr hlocks hK hT hS hQ (trivial) dX3_runRoundAgain_46
            · have q24 : x13.toInt < x21.toInt := ti_nle c22
              have h25 : iv 0 2147483646 x13 := iv_ltL (y := x21) h_x13 h19 q24 (by decide)
              have h26 : iv 1 2147483647 x21 := iv_gtL (y := x13) h19 h_x13 q24 (by decide)
              refine lv_aload_n hx hb dX3_runRoundAgain_36 rfl (lv_at hl 1 rfl) ?_
              refine tw_gov hS (md_runV (As := []) (rest := []) hx hb hml hown hW hK hT hS.1 (t_X3_runRoundDay l D cy tx base Z K N M14 R15 J16 hS.2.1 a0 hz_a0 hk_a0) s_X3_123 ⟨rfl, rfl, ⟨Nat.le_of_ble_eq_true rfl, Nat.le_of_ble_eq_true rfl⟩, ⟨Nat.le_of_ble_eq_true rfl, Nat.le_of_ble_eq_true rfl⟩⟩ hz_a0 hk_a0 (by decide) rfl rfl hl.1 rfl (Nat.le_of_ble_eq_true rfl) dX3_runRoundAgain_37) rfl rfl (fun H locs M30 R31 J29 hS f27 g28 E32 => ?_)
              refine tw_iinc (lv' := fun x35 => [(1, .int x35), (0, .ref (base + a0))]) (lo := 1) (hi := 2147483647) hx hb dX3_runRoundAgain_40 hl (k := 0) rfl h25 (by decide) ⟨by decide, by decide⟩ ⟨by decide, by decide⟩ (by decide) (fun _ => rfl) (fun x35 ls e34 h33 hl => ?_)
              refine lv_goto (tgt := 28) hx hb dX3_runRoundAgain_43 (by decide) ?_
              have hm36 : 2147483647 - x35.toInt < (n_14 : Int) := by
                have := (h25).1; have := (h25).2; have := (h33).1; have := (h33).2; omega
              exact ih_14 x35 M30 R31 J29 H locs _ (iv_mono h33 (by decide) (by decide)) hm36 hS hl
        have hm37 : 2147483647 - (0 : Int32).toInt < (((2147483648 : Nat) : Int) : Int) := by
          have : (0 : Int32).toInt = 0 := (by decide); omega
        exact W28_14 2147483648 0 M5 R6 J7 H locs _ (iv_mono (iv_c (c := 0) (n := 0) (by decide)) (by decide) (by decide)) hm37 hS hl
      · have q38 : x4.toInt < 10 := ti_nle c10
        have h39 : iv 0 9 x4 := iv_ltL (y := 10) h_x4 (iv_c (c := 10) (n := 10) (by decide)) q38 (by decide)
        refine lv_aload_n hx hb dX3_runRoundAgain_13 rfl (lv_at hl 1 rfl) ?_
        refine tw_getr hx hb hW hown hK hS f_X3_18_3 hz_a0 hk_a0 (t := 14) (n := 10) rfl dX3_runRoundAgain_14 (fun b40 k41 hz_b40 hk_b40 hn_b40 => ?_)
        have hn_b40 := hn_b40 (by decide)
        refine lv_iload_n hx hb dX3_runRoundAgain_17 rfl (lv_at hl 0 rfl) ?_
        refine lv_iconst (v := 0) hx hb dX3_runRoundAgain_18 (by decide) ?_
        refine tw_iast hx hb hK hS hz_b40 hk_b40 (Or.inl rfl) hn_b40 h39 ⟨by decide, by decide⟩ (iv_c (c := 0) (n := 0) (by decide)) (rg_s14 ⟨by decide, by decide⟩) (jl := 0) (jh := 1999999) ⟨by decide, by decide⟩ rfl dX3_runRoundAgain_19 (fun H locs M44 hS k42 f43 => ?_)
        refine tw_iinc (lv' := fun x47 => [(1, .int x47), (0, .ref (base + a0))]) (lo := 1) (hi := 10) hx hb dX3_runRoundAgain_20 hl (k := 0) rfl h39 (by decide) ⟨by decide, by decide⟩ ⟨by decide, by decide⟩ (by decide) (fun _ => rfl) (fun x47 ls e46 h45 hl => ?_)
        refine lv_goto (tgt := 7) hx hb dX3_runRoundAgain_23 (by decide) ?_
        have hm48 : 10 - x47.toInt < (n_5 : Int) := by
          have := (h39).1; have := (h39).2; have := (h45).1; have := (h45).2; omega
        exact ih_5 x47 M44 R6 J7 H locs _ (iv_mono h45 (by decide) (by decide)) hm48 hS hl
  have hm49 : 10 - (0 : Int32).toInt < (((11 : Nat) : Int) : Int) := by
    have : (0 : Int32).toInt = 0 := (by decide); omega
  exact W7_5 11 0 M3 Ra Ja H locs _ (iv_mono (iv_c (c := 0) (n := 0) (by decide)) (by decide) (by decide)) hm49 hS hl
def Lt_X3_seenBefore : WL := []
def LRt_X3_seenBefore : WL := []
set_option maxRecDepth 100000 in
set_option maxHeartbeats 4000000 in
theorem t_X3_seenBefore (l : Launch) (D : va_G) (cy : Nat → ClassId) (tx : (Nat → Nat) × (Nat → Nat)) (base Z : Nat) (K N : Nat → Nat) (Ma : MT) (Ra : RT) (Ja : JT) (hTy : Ty Z K N Ma Ra) (a0 : Nat) (hz_a0 : a0 < Z) (hk_a0 : K a0 = 4) (a1 : Int32) (h_a1 : iv 1 300 a1) : Met l yX3_seenBefore [Cond.code yX3_seenBefore cX3_seenBefore 5 (some .int)] (md_rm 1 0 0) (va_Pc [.ref (base + a0), .int a1] (md_U D cy tx base Z K N Ma Ra Ja)) (mQi D cy tx base (fun r u => TP Z K N Lt_X3_seenBefore LRt_X3_seenBefore Ma Ra u ∧ (iv (-1) 299 r))) 0 0 (fun q => base ≤ q) := by
  refine tw_ofW (L := Lt_X3_seenBefore) (LR := LRt_X3_seenBefore) (by decide) (Nat.le_of_ble_eq_true rfl) hTy ?_
  intro p e s m args below meth c Q ls hx hb hr hlocks hown hml hW hK hT hS hQ hl
  have hl : lv_has ls 5 [(0, .ref (base + a0)), (1, .int a1)] := hl
  refine lv_iconst (v := 0) hx hb dX3_seenBefore_0 (by decide) ?_
  refine lv_istore_n (lv' := [(2, .int 0), (0, .ref (base + a0)), (1, .int a1)]) hx hb dX3_seenBefore_1 rfl hl (by decide) rfl (fun ls hl => ?_)
  have W2_2 : ∀ (n_2 : Nat) (x1 : Int32) (M2 : MT) (R3 : RT) (J4 : JT) (H : Heap) (locs : List Loc) (ls : Array Slot) (h_x1 : iv 0 300 x1) (hm_2 : 300 - x1.toInt < (n_2 : Int)) (hS : SB D cy base Z K N Lt_X3_seenBefore LRt_X3_seenBefore Ma Ra M2 R3 J4 s H locs) (hl : lv_has ls 5 [(2, .int x1), (0, .ref (base + a0)), (1, .int a1)]), W p l e (md_rm 1 0 0) s m args below meth c H locs 0 0 Q (F0 m 2 ls []) := by
    intro n_2
    induction n_2 with
    | zero =>
      intro x1 M2 R3 J4 H locs ls h_x1 hm_2 hS hl
      exfalso
      have := (h_a1).1; have := (h_a1).2; have := (h_x1).1; have := (h_x1).2; omega
    | succ n_2 ih_2 =>
      intro x1 M2 R3 J4 H locs ls h_x1 hm_2 hS hl
      have f5 := hS.2.2.1
      have g6 := hS.2.2.2
      refine lv_iload_n hx hb dX3_seenBefore_2 rfl (lv_at hl 0 rfl) ?_
      refine lv_iload_n hx hb dX3_seenBefore_3 rfl (lv_at hl 2 rfl) ?_
      refine lv_icmp_ge (tgt := 72) hx hb dX3_seenBefore_4 (by decide) (fun c7 => ?_) (fun c7 => ?_)
      · have q8 : a1.toInt ≤ x1.toInt := ti_le c7
        have h9 : iv 1 300 x1 := iv_geL (y := a1) h_x1 h_a1 q8 (by decide)
        refine lv_iconst (v := (-1)) hx hb dX3_seenBefore_72 (by decide) ?_
        exact tw_endi hx hb hr hlocks hK hT hS hQ ((iv_mono (iv_c (c := (-1)) (n := (-1)) (by decide)) (by decide) (by decide))) dX3_seenBefore_73
      · have q10 : x1.toInt < a1.toInt := ti_nle c7
        have h11 : iv 0 299 x1 := iv_ltL (y := a1) h_x1 h_a1 q10 (by decide)
        refine lv_iload_n hx hb dX3_seenBefore_7 rfl (lv_at hl 0 rfl) ?_
        refine lv_bipush (v := 10) hx hb dX3_seenBefore_8 (by decide) ?_
        refine tw_imulc (k := 10) (lo := 0) (hi := 2990) hx hb h11 (by decide) (by decide) ⟨by decide, by decide⟩ ⟨by decide, by decide⟩ dX3_seenBefore_10 (fun x14 e13 h12 => ?_)
        refine lv_istore_n (lv' := [(3, .int x14), (2, .int x1), (0, .ref (base + a0)), (1, .int a1)]) hx hb dX3_seenBefore_11 rfl hl (by decide) rfl (fun ls hl => ?_)
        refine lv_iconst (v := 0) hx hb dX3_seenBefore_12 (by decide) ?_
        refine lv_istore (lv' := [(4, .int 0), (3, .int x14), (2, .int x1), (0, .ref (base + a0)), (1, .int a1)]) hx hb dX3_seenBefore_13 hl (by decide) rfl (fun ls hl => ?_)
        have W15_16 : ∀ (n_16 : Nat) (x15 : Int32) (M16 : MT) (R17 : RT) (J18 : JT) (H : Heap) (locs : List Loc) (ls : Array Slot) (h_x15 : iv 0 10 x15) (hm_16 : 10 - x15.toInt < (n_16 : Int)) (hS : SB D cy base Z K N Lt_X3_seenBefore LRt_X3_seenBefore Ma Ra M16 R17 J18 s H locs) (hl : lv_has ls 5 [(4, .int x15), (3, .int x14), (2, .int x1), (0, .ref (base + a0)), (1, .int a1)]), W p l e (md_rm 1 0 0) s m args below meth c H locs 0 0 Q (F0 m 15 ls []) := by
          intro n_16
          induction n_16 with
          | zero =>
            intro x15 M16 R17 J18 H locs ls h_x15 hm_16 hS hl
            exfalso
            have := (h_a1).1; have := (h_a1).2; have := (h_x15).1; have := (h_x15).2; omega
          | succ n_16 ih_16 =>
            intro x15 M16 R17 J18 H locs ls h_x15 hm_16 hS hl
            have f19 := hS.2.2.1
            have g20 := hS.2.2.2
            refine lv_iload hx hb dX3_seenBefore_15 (lv_at hl 0 rfl) ?_
            refine lv_aload_n hx hb dX3_seenBefore_17 rfl (lv_at hl 3 rfl) ?_
            refine tw_getr hx hb hW hown hK hS f_X3_21_3 hz_a0 hk_a0 (t := 10) (n := 0) rfl dX3_seenBefore_18 (fun b21 k22 hz_b21 hk_b21 hn_b21 => ?_)
            refine tw_geti hx hb hW hown hK hS f_X3_112_9 hz_b21 hk_b21 (lo := (-2147483648)) (hi := 10) rfl dX3_seenBefore_21 (fun x25 k24 h23 => ?_)
            have J52_26 : ∀  (M26 : MT) (R27 : RT) (J28 : JT) (H : Heap) (locs : List Loc) (ls : Array Slot) (hS : SB D cy base Z K N Lt_X3_seenBefore LRt_X3_seenBefore Ma Ra M26 R27 J28 s H locs) (hl : lv_has ls 5 [(4, .int x15), (3, .int x14), (2, .int x1), (0, .ref (base + a0)), (1, .int a1)]), W p l e (md_rm 1 0 0) s m args below meth c H locs 0 0 Q (F0 m 52 ls []) := by
              intro  M26 R27 J28 H locs ls  hS hl
              have f29 := hS.2.2.1
              have g30 := hS.2.2.2
              refine lv_iload hx hb dX3_seenBefore_52 (lv_at hl 0 rfl) ?_
              refine lv_aload_n hx hb dX3_seenBefore_54 rfl (lv_at hl 3 rfl) ?_
              refine tw_getr hx hb hW hown hK hS f_X3_21_3 hz_a0 hk_a0 (t := 10) (n := 0) rfl dX3_seenBefore_55 (fun b31 k32 hz_b31 hk_b31 hn_b31 => ?_)
              refine tw_geti hx hb hW hown hK hS f_X3_112_9 hz_b31 hk_b31 (lo := (-2147483648)) (hi := 10) rfl dX3_seenBefore_58 (fun x35 k34 h33 => ?_)
              refine lv_icmp_lt (tgt := 66) hx hb dX3_seenBefore_61 (by decide) (fun c36 => ?_) (fun c36 => ?_)
              · have q37 : x15.toInt < x35.toInt := ti_lt c36
                have h38 : iv 0 9 x15 := iv_ltL (y := x35) h_x15 h33 q37 (by decide)
                have h39 : iv 1 10 x35 := iv_gtL (y := x15) h33 h_x15 q37 (by decide)
                refine tw_iinc (lv' := fun x42 => [(2, .int x42), (4, .int x15), (3, .int x14), (0, .ref (base + a0)), (1, .int a1)]) (lo := 1) (hi := 300) hx hb dX3_seenBefore_66 hl (k := 2) rfl h11 (by decide) ⟨by decide, by decide⟩ ⟨by decide, by decide⟩ (by decide) (fun _ => rfl) (fun x42 ls e41 h40 hl => ?_)
                refine lv_goto (tgt := 2) hx hb dX3_seenBefore_69 (by decide) ?_
                have hm43 : 300 - x42.toInt < (n_2 : Int) := by
                  have := (h_a1).1; have := (h_a1).2; have := (h11).1; have := (h11).2; have := (h12).1; have := (h12).2; have := (h40).1; have := (h40).2; omega
                exact ih_2 x42 M26 R27 J28 H locs _ (iv_mono h40 (by decide) (by decide)) hm43 hS (lv_sub hl [0, 3, 4] rfl)
              · have q44 : x35.toInt ≤ x15.toInt := ti_nlt c36
                refine lv_iload_n hx hb dX3_seenBefore_64 rfl (lv_at hl 2 rfl) ?_
                exact tw_endi hx hb hr hlocks hK hT hS hQ ((iv_mono h11 (by decide) (by decide))) dX3_seenBefore_65
            refine lv_icmp_ge (tgt := 52) hx hb dX3_seenBefore_24 (by decide) (fun c45 => ?_) (fun c45 => ?_)
            · have q46 : x25.toInt ≤ x15.toInt := ti_le c45
              exact J52_26  M16 R17 J18 H locs _  hS hl
            · have q47 : x15.toInt < x25.toInt := ti_nle c45
              have h48 : iv 0 9 x15 := iv_ltL (y := x25) h_x15 h23 q47 (by decide)
              have h49 : iv 1 10 x25 := iv_gtL (y := x15) h23 h_x15 q47 (by decide)
              refine lv_aload_n hx hb dX3_seenBefore_27 rfl (lv_at hl 3 rfl) ?_
              refine tw_getr hx hb hW hown hK hS f_X3_15_3 hz_a0 hk_a0 (t := 14) (n := 3010) rfl dX3_seenBefore_28 (fun b50 k51 hz_b50 hk_b50 hn_b50 => ?_)
              have hn_b50 := hn_b50 (by decide)
              refine lv_iload_n hx hb dX3_seenBefore_31 rfl (lv_at hl 1 rfl) ?_
              refine lv_iload hx hb dX3_seenBefore_32 (lv_at hl 0 rfl) ?_
              refine tw_iadd (lo := 0) (hi := 2999) hx hb h12 h48 ⟨by decide, by decide⟩ ⟨by decide, by decide⟩ dX3_seenBefore_34 (fun x54 e53 h52 => ?_)
              refine tw_iald hx hb hK hS hz_b50 hk_b50 (Or.inl rfl) hn_b50 (lo := (-2147483648)) (hi := 2147483647) h52 ⟨by decide, by decide⟩ rg_u14 dX3_seenBefore_35 (fun x57 k56 h55 => ?_)
              refine lv_aload_n hx hb dX3_seenBefore_36 rfl (lv_at hl 3 rfl) ?_
              refine tw_getr hx hb hW hown hK hS f_X3_9_3 hz_a0 hk_a0 (t := 20) (n := 10) rfl dX3_seenBefore_37 (fun b58 k59 hz_b58 hk_b58 hn_b58 => ?_)
              have hn_b58 := hn_b58 (by decide)
              refine lv_iload hx hb dX3_seenBefore_40 (lv_at hl 0 rfl) ?_
              refine tw_iald hx hb hK hS hz_b58 hk_b58 (Or.inr (by decide)) hn_b58 (lo := (-2147483648)) (hi := 2147483647) h48 ⟨by decide, by decide⟩ rg_u20 dX3_seenBefore_42 (fun x62 k61 h60 => ?_)
              refine lv_icmp_ne (tgt := 52) hx hb dX3_seenBefore_43 (by decide) (fun c63 => ?_) (fun c63 => ?_)
              · have q64 : ¬ x57.toInt = x62.toInt := ti_ne c63
                exact J52_26  M16 R17 J18 H locs _  hS hl
              · have q65 : x57.toInt = x62.toInt := ti_eq c63
                refine tw_iinc (lv' := fun x68 => [(4, .int x68), (3, .int x14), (2, .int x1), (0, .ref (base + a0)), (1, .int a1)]) (lo := 1) (hi := 10) hx hb dX3_seenBefore_46 hl (k := 0) rfl h48 (by decide) ⟨by decide, by decide⟩ ⟨by decide, by decide⟩ (by decide) (fun _ => rfl) (fun x68 ls e67 h66 hl => ?_)
                refine lv_goto (tgt := 15) hx hb dX3_seenBefore_49 (by decide) ?_
                have hm69 : 10 - x68.toInt < (n_16 : Int) := by
                  have := (h_a1).1; have := (h_a1).2; have := (h48).1; have := (h48).2; have := (h52).1; have := (h52).2; have := (h66).1; have := (h66).2; omega
                exact ih_16 x68 M16 R17 J18 H locs _ (iv_mono h66 (by decide) (by decide)) hm69 hS hl
        have hm70 : 10 - (0 : Int32).toInt < (((11 : Nat) : Int) : Int) := by
          have := (h_a1).1; have := (h_a1).2; have : (0 : Int32).toInt = 0 := (by decide); omega
        exact W15_16 11 0 M2 R3 J4 H locs _ (iv_mono (iv_c (c := 0) (n := 0) (by decide)) (by decide) (by decide)) hm70 hS hl
  have hm71 : 300 - (0 : Int32).toInt < (((301 : Nat) : Int) : Int) := by
    have := (h_a1).1; have := (h_a1).2; have : (0 : Int32).toInt = 0 := (by decide); omega
  exact W2_2 301 0 Ma Ra Ja s.heap [] _ (iv_mono (iv_c (c := 0) (n := 0) (by decide)) (by decide) (by decide)) hm71 hS hl
def Lt_X3_seekRound : WL := [(4, 5, 10), (6, 2, 4), (6, 6, 15), (14, 0, 2000000), (20, 0, 2000000)]
def LRt_X3_seekRound : WL := [(6, 4, 6)]
set_option maxRecDepth 100000 in
set_option maxHeartbeats 4000000 in
theorem t_X3_seekRound (l : Launch) (D : va_G) (cy : Nat → ClassId) (tx : (Nat → Nat) × (Nat → Nat)) (base Z : Nat) (K N : Nat → Nat) (Ma : MT) (Ra : RT) (Ja : JT) (hTy : Ty Z K N Ma Ra) (a0 : Nat) (hz_a0 : a0 < Z) (hk_a0 : K a0 = 4) : Met l yX3_seekRound [Cond.code yX3_seekRound cX3_seekRound 3 (some .boolean)] (md_rm 7 0 0) (va_Pc [.ref (base + a0)] (md_U D cy tx base Z K N Ma Ra Ja)) (mQi D cy tx base (fun r u => TP Z K N Lt_X3_seekRound LRt_X3_seekRound Ma Ra u ∧ (iv 0 1 r))) 0 0 (fun q => base ≤ q) := by
  refine tw_ofW (L := Lt_X3_seekRound) (LR := LRt_X3_seekRound) (by decide) (Nat.le_of_ble_eq_true rfl) hTy ?_
  intro p e s m args below meth c Q ls hx hb hr hlocks hown hml hW hK hT hS hQ hl
  have hl : lv_has ls 3 [(0, .ref (base + a0))] := hl
  refine lv_aload_n hx hb dX3_seekRound_0 rfl (lv_at hl 0 rfl) ?_
  refine tw_gov hS (md_runV (As := []) (rest := []) hx hb hml hown hW hK hT hS.1 (t_X3_start l D cy tx base Z K N Ma Ra Ja hS.2.1 a0 hz_a0 hk_a0) s_X3_48 ⟨rfl, rfl, ⟨Nat.le_of_ble_eq_true rfl, Nat.le_of_ble_eq_true rfl⟩, ⟨Nat.le_of_ble_eq_true rfl, Nat.le_of_ble_eq_true rfl⟩⟩ hz_a0 hk_a0 (by decide) rfl rfl hl.1 rfl (Nat.le_of_ble_eq_true rfl) dX3_seekRound_1) rfl rfl (fun H locs M4 R5 J3 hS f1 g2 E6 => ?_)
  have eR5 := Fr.nil g2 rfl
  subst eR5
  refine lv_aload_n hx hb dX3_seekRound_4 rfl (lv_at hl 0 rfl) ?_
  refine lv_iconst (v := 0) hx hb dX3_seekRound_5 (by decide) ?_
  refine tw_gov hS (md_runV (As := [.int 0]) (rest := []) hx hb hml hown hW hK hT hS.1 (t_X3_keep l D cy tx base Z K N M4 Ra J3 hS.2.1 a0 hz_a0 hk_a0 0 (iv_mono (iv_c (c := 0) (n := 0) (by decide)) (by decide) (by decide))) s_X3_120 ⟨rfl, rfl, ⟨Nat.le_of_ble_eq_true rfl, Nat.le_of_ble_eq_true rfl⟩, ⟨Nat.le_of_ble_eq_true rfl, Nat.le_of_ble_eq_true rfl⟩⟩ hz_a0 hk_a0 (by decide) rfl rfl hl.1 rfl (Nat.le_of_ble_eq_true rfl) dX3_seekRound_6) rfl rfl (fun H locs M10 R11 J9 hS f7 g8 E12 => ?_)
  have eR11 := Fr.nil g8 rfl
  subst eR11
  refine lv_iconst (v := 1) hx hb dX3_seekRound_9 (by decide) ?_
  refine lv_istore_n (lv' := [(1, .int 1), (0, .ref (base + a0))]) hx hb dX3_seekRound_10 rfl hl (by decide) rfl (fun ls hl => ?_)
  have W11_14 : ∀ (n_14 : Nat) (x13 : Int32) (M14 : MT) (R15 : RT) (J16 : JT) (H : Heap) (locs : List Loc) (ls : Array Slot) (h_x13 : iv 1 301 x13) (hm_14 : 301 - x13.toInt < (n_14 : Int)) (hS : SB D cy base Z K N Lt_X3_seekRound LRt_X3_seekRound Ma Ra M14 R15 J16 s H locs) (hl : lv_has ls 3 [(1, .int x13), (0, .ref (base + a0))]), W p l e (md_rm 7 0 0) s m args below meth c H locs 0 0 Q (F0 m 11 ls []) := by
    intro n_14
    induction n_14 with
    | zero =>
      intro x13 M14 R15 J16 H locs ls h_x13 hm_14 hS hl
      exfalso
      have := (h_x13).1; have := (h_x13).2; omega
    | succ n_14 ih_14 =>
      intro x13 M14 R15 J16 H locs ls h_x13 hm_14 hS hl
      have f17 := hS.2.2.1
      have g18 := hS.2.2.2
      refine lv_iload_n hx hb dX3_seekRound_11 rfl (lv_at hl 0 rfl) ?_
      refine lv_sipush (v := 300) hx hb dX3_seekRound_12 (by decide) ?_
      refine lv_icmp_gt (tgt := 62) hx hb dX3_seekRound_15 (by decide) (fun c19 => ?_) (fun c19 => ?_)
      · have q20 : 300 < x13.toInt := ti_lt c19
        have h21 : iv 301 301 x13 := iv_gtL (y := 300) h_x13 (iv_c (c := 300) (n := 300) (by decide)) q20 (by decide)
        refine lv_iconst (v := 0) hx hb dX3_seekRound_62 (by decide) ?_
        exact tw_endz hx hb hr hlocks hK hT hS hQ rfl ((iv_mono (iv_c (c := 0) (n := 0) (by decide)) (by decide) (by decide))) dX3_seekRound_63
      · have q22 : x13.toInt ≤ 300 := ti_nlt c19
        have h23 : iv 1 300 x13 := iv_leL (y := 300) h_x13 (iv_c (c := 300) (n := 300) (by decide)) q22 (by decide)
        refine lv_aload_n hx hb dX3_seekRound_18 rfl (lv_at hl 1 rfl) ?_
        refine tw_gov hS (md_runV (As := []) (rest := []) hx hb hml hown hW hK hT hS.1 (t_X3_runRoundDay l D cy tx base Z K N M14 R15 J16 hS.2.1 a0 hz_a0 hk_a0) s_X3_123 ⟨rfl, rfl, ⟨Nat.le_of_ble_eq_true rfl, Nat.le_of_ble_eq_true rfl⟩, ⟨Nat.le_of_ble_eq_true rfl, Nat.le_of_ble_eq_true rfl⟩⟩ hz_a0 hk_a0 (by decide) rfl rfl hl.1 rfl (Nat.le_of_ble_eq_true rfl) dX3_seekRound_19) rfl rfl (fun H locs M27 R28 J26 hS f24 g25 E29 => ?_)
        refine lv_aload_n hx hb dX3_seekRound_22 rfl (lv_at hl 1 rfl) ?_
        refine lv_iload_n hx hb dX3_seekRound_23 rfl (lv_at hl 0 rfl) ?_
        refine tw_goi hS (md_runV (As := [.int x13]) (rest := []) hx hb hml hown hW hK hT hS.1 (t_X3_seenBefore l D cy tx base Z K N M27 R28 J26 hS.2.1 a0 hz_a0 hk_a0 x13 h23) s_X3_126 ⟨rfl, rfl, ⟨Nat.le_of_ble_eq_true rfl, Nat.le_of_ble_eq_true rfl⟩, ⟨Nat.le_of_ble_eq_true rfl, Nat.le_of_ble_eq_true rfl⟩⟩ hz_a0 hk_a0 (by decide) rfl rfl hl.1 rfl (Nat.le_of_ble_eq_true rfl) dX3_seekRound_24) rfl rfl (fun x36 H locs M33 R34 J32 hS f30 g31 E35 => ?_)
        have eM33 := Fr.nil f30 rfl
        subst eM33
        have eR34 := Fr.nil g31 rfl
        subst eR34
        have h_x36 := E35
        clear E35
        refine lv_istore_n (lv' := [(2, .int x36), (1, .int x13), (0, .ref (base + a0))]) hx hb dX3_seekRound_27 rfl hl (by decide) rfl (fun ls hl => ?_)
        refine lv_iload_n hx hb dX3_seekRound_28 rfl (lv_at hl 0 rfl) ?_
        refine lv_iconst (v := (-1)) hx hb dX3_seekRound_29 (by decide) ?_
        refine lv_icmp_eq (tgt := 51) hx hb dX3_seekRound_30 (by decide) (fun c37 => ?_) (fun c37 => ?_)
        · have q38 : x36.toInt = (-1) := ti_eq c37
          have h39 : iv (-1) (-1) x36 := ⟨by have := (h_x36).1; have := ((iv_c (c := (-1)) (n := (-1)) (by decide))).1; omega, by have := (h_x36).2; have := ((iv_c (c := (-1)) (n := (-1)) (by decide))).2; omega⟩
          refine lv_aload_n hx hb dX3_seekRound_51 rfl (lv_at hl 2 rfl) ?_
          refine lv_iload_n hx hb dX3_seekRound_52 rfl (lv_at hl 1 rfl) ?_
          refine tw_gov hS (md_runV (As := [.int x13]) (rest := []) hx hb hml hown hW hK hT hS.1 (t_X3_keep l D cy tx base Z K N M27 R28 J32 hS.2.1 a0 hz_a0 hk_a0 x13 (iv_mono h23 (by decide) (by decide))) s_X3_120 ⟨rfl, rfl, ⟨Nat.le_of_ble_eq_true rfl, Nat.le_of_ble_eq_true rfl⟩, ⟨Nat.le_of_ble_eq_true rfl, Nat.le_of_ble_eq_true rfl⟩⟩ hz_a0 hk_a0 (by decide) rfl rfl hl.1 rfl (Nat.le_of_ble_eq_true rfl) dX3_seekRound_53) rfl rfl (fun H locs M43 R44 J42 hS f40 g41 E45 => ?_)
          have eR44 := Fr.nil g41 rfl
          subst eR44
          refine tw_iinc (lv' := fun x48 => [(1, .int x48), (2, .int x36), (0, .ref (base + a0))]) (lo := 2) (hi := 301) hx hb dX3_seekRound_56 hl (k := 1) rfl h23 (by decide) ⟨by decide, by decide⟩ ⟨by decide, by decide⟩ (by decide) (fun _ => rfl) (fun x48 ls e47 h46 hl => ?_)
          refine lv_goto (tgt := 11) hx hb dX3_seekRound_59 (by decide) ?_
          have hm49 : 301 - x48.toInt < (n_14 : Int) := by
            have := (h23).1; have := (h23).2; have := (h46).1; have := (h46).2; omega
          exact ih_14 x48 M43 R28 J42 H locs _ (iv_mono h46 (by decide) (by decide)) hm49 hS (lv_sub hl [0, 2] rfl)
        · have q50 : ¬ x36.toInt = (-1) := ti_ne c37
          have h51 : iv 0 299 x36 := ⟨by have := (h_x36).1; have := ((iv_c (c := (-1)) (n := (-1)) (by decide))).1; have := ((iv_c (c := (-1)) (n := (-1)) (by decide))).2; omega, by have := (h_x36).2; have := ((iv_c (c := (-1)) (n := (-1)) (by decide))).1; have := ((iv_c (c := (-1)) (n := (-1)) (by decide))).2; omega⟩
          refine lv_aload_n hx hb dX3_seekRound_33 rfl (lv_at hl 2 rfl) ?_
          refine lv_iload_n hx hb dX3_seekRound_34 rfl (lv_at hl 0 rfl) ?_
          refine tw_puti hx hb hW hown hK hS f_X3_130_3 hz_a0 hk_a0 rfl rfl (lo := (-2147483648)) (hi := 2147483647) rfl (iv_mono h51 (by decide) (by decide)) rfl dX3_seekRound_35 (fun H locs M54 hS k52 f53 => ?_)
          refine lv_aload_n hx hb dX3_seekRound_38 rfl (lv_at hl 2 rfl) ?_
          refine lv_iload_n hx hb dX3_seekRound_39 rfl (lv_at hl 1 rfl) ?_
          refine lv_iload_n hx hb dX3_seekRound_40 rfl (lv_at hl 0 rfl) ?_
          refine tw_isub (lo := (-298)) (hi := 300) hx hb h23 h51 ⟨by decide, by decide⟩ ⟨by decide, by decide⟩ dX3_seekRound_41 (fun x57 e56 h55 => ?_)
          refine tw_puti hx hb hW hown hK hS f_X3_133_3 hz_a0 hk_a0 rfl rfl (lo := (-2147483648)) (hi := 2147483647) rfl (iv_mono h55 (by decide) (by decide)) rfl dX3_seekRound_42 (fun H locs M60 hS k58 f59 => ?_)
          refine lv_aload_n hx hb dX3_seekRound_45 rfl (lv_at hl 2 rfl) ?_
          refine tw_gov hS (md_runV (As := []) (rest := []) hx hb hml hown hW hK hT hS.1 (t_X3_runRoundAgain l D cy tx base Z K N M60 R28 J32 hS.2.1 a0 hz_a0 hk_a0) s_X3_136 ⟨rfl, rfl, ⟨Nat.le_of_ble_eq_true rfl, Nat.le_of_ble_eq_true rfl⟩, ⟨Nat.le_of_ble_eq_true rfl, Nat.le_of_ble_eq_true rfl⟩⟩ hz_a0 hk_a0 (by decide) rfl rfl hl.1 rfl (Nat.le_of_ble_eq_true rfl) dX3_seekRound_46) rfl rfl (fun H locs M64 R65 J63 hS f61 g62 E66 => ?_)
          refine lv_iconst (v := 1) hx hb dX3_seekRound_49 (by decide) ?_
          exact tw_endz hx hb hr hlocks hK hT hS hQ rfl ((iv_mono (iv_c (c := 1) (n := 1) (by decide)) (by decide) (by decide))) dX3_seekRound_50
  have hm67 : 301 - (1 : Int32).toInt < (((301 : Nat) : Int) : Int) := by
    have : (1 : Int32).toInt = 1 := (by decide); omega
  exact W11_14 301 1 M10 Ra J9 H locs _ (iv_mono (iv_c (c := 1) (n := 1) (by decide)) (by decide) (by decide)) hm67 hS hl
def Lt_X11_rounds : WL := [(4, 5, 10), (6, 2, 4), (6, 6, 15), (14, 0, 2000000), (20, 0, 2000000)]
def LRt_X11_rounds : WL := [(6, 4, 6)]
set_option maxRecDepth 100000 in
set_option maxHeartbeats 4000000 in
theorem t_X11_rounds (l : Launch) (D : va_G) (cy : Nat → ClassId) (tx : (Nat → Nat) × (Nat → Nat)) (base Z : Nat) (K N : Nat → Nat) (Ma : MT) (Ra : RT) (Ja : JT) (hTy : Ty Z K N Ma Ra) (a0 : Nat) (hz_a0 : a0 < Z) (hk_a0 : K a0 = 11) (a1 : Int32) (h_a1 : iv (-2147483648) 2147483647 a1) : Met l yX11_rounds [Cond.code yX11_rounds cX11_rounds 2 (some .int)] (md_rm 8 0 0) (va_Pc [.ref (base + a0), .int a1] (md_U D cy tx base Z K N Ma Ra Ja)) (mQi D cy tx base (fun r u => TP Z K N Lt_X11_rounds LRt_X11_rounds Ma Ra u ∧ (iv (-2147483648) 2147483647 r))) 0 0 (fun q => base ≤ q) := by
  refine tw_ofW (L := Lt_X11_rounds) (LR := LRt_X11_rounds) (by decide) (Nat.le_of_ble_eq_true rfl) hTy ?_
  intro p e s m args below meth c Q ls hx hb hr hlocks hown hml hW hK hT hS hQ hl
  have hl : lv_has ls 2 [(0, .ref (base + a0)), (1, .int a1)] := hl
  refine lv_aload_n hx hb dX11_rounds_0 rfl (lv_at hl 0 rfl) ?_
  refine tw_getr hx hb hW hown hK hS f_X11_31_10 hz_a0 hk_a0 (t := 10) (n := 0) rfl dX11_rounds_1 (fun b1 k2 hz_b1 hk_b1 hn_b1 => ?_)
  refine tw_geti hx hb hW hown hK hS f_X11_202_9 hz_b1 hk_b1 (lo := 0) (hi := 8) rfl dX11_rounds_4 (fun x5 k4 h3 => ?_)
  refine lv_iconst (v := 1) hx hb dX11_rounds_7 (by decide) ?_
  refine lv_icmp_lt (tgt := 28) hx hb dX11_rounds_8 (by decide) (fun c6 => ?_) (fun c6 => ?_)
  · have q7 : x5.toInt < 1 := ti_lt c6
    have h8 : iv 0 0 x5 := iv_ltL (y := 1) h3 (iv_c (c := 1) (n := 1) (by decide)) q7 (by decide)
    refine lv_iconst (v := (-1)) hx hb dX11_rounds_28 (by decide) ?_
    exact tw_endi hx hb hr hlocks hK hT hS hQ ((iv_mono (iv_c (c := (-1)) (n := (-1)) (by decide)) (by decide) (by decide))) dX11_rounds_29
  · have q9 : 1 ≤ x5.toInt := ti_nlt c6
    have h10 : iv 1 8 x5 := iv_geL (y := 1) h3 (iv_c (c := 1) (n := 1) (by decide)) q9 (by decide)
    refine lv_iload_n hx hb dX11_rounds_11 rfl (lv_at hl 1 rfl) ?_
    refine lv_if_lt (tgt := 28) hx hb dX11_rounds_12 (by decide) (fun c11 => ?_) (fun c11 => ?_)
    · have q12 : a1.toInt < 0 := ti_lt c11
      have h13 : iv (-2147483648) (-1) a1 := iv_ltL (y := 0) h_a1 (iv_c (c := 0) (n := 0) (by decide)) q12 (by decide)
      refine lv_iconst (v := (-1)) hx hb dX11_rounds_28 (by decide) ?_
      exact tw_endi hx hb hr hlocks hK hT hS hQ ((iv_mono (iv_c (c := (-1)) (n := (-1)) (by decide)) (by decide) (by decide))) dX11_rounds_29
    · have q14 : 0 ≤ a1.toInt := ti_nlt c11
      have h15 : iv 0 2147483647 a1 := iv_geL (y := 0) h_a1 (iv_c (c := 0) (n := 0) (by decide)) q14 (by decide)
      refine lv_iload_n hx hb dX11_rounds_15 rfl (lv_at hl 1 rfl) ?_
      refine lv_iconst (v := 3) hx hb dX11_rounds_16 (by decide) ?_
      refine lv_aload_n hx hb dX11_rounds_17 rfl (lv_at hl 0 rfl) ?_
      refine tw_getrk hx hb hW hown hK hS f_X11_31_10 hz_a0 hk_a0 (b := b1) k2 dX11_rounds_18 ?_
      refine tw_geti hx hb hW hown hK hS f_X11_116_9 hz_b1 hk_b1 (lo := (-2147483648)) (hi := 10) rfl dX11_rounds_21 (fun x18 k17 h16 => ?_)
      refine tw_iadd (lo := (-2147483645)) (hi := 13) hx hb (iv_c (c := 3) (n := 3) (by decide)) h16 ⟨by decide, by decide⟩ ⟨by decide, by decide⟩ dX11_rounds_24 (fun x21 e20 h19 => ?_)
      have e20 : x21.toInt = 3 + x18.toInt := e20
      refine lv_icmp_lt (tgt := 30) hx hb dX11_rounds_25 (by decide) (fun c22 => ?_) (fun c22 => ?_)
      · have q23 : a1.toInt < x21.toInt := ti_lt c22
        have h24 : iv 0 12 a1 := iv_ltL (y := x21) h15 h19 q23 (by decide)
        have h25 : iv 1 13 x21 := iv_gtL (y := a1) h19 h15 q23 (by decide)
        refine lv_aload_n hx hb dX11_rounds_30 rfl (lv_at hl 0 rfl) ?_
        refine tw_getr hx hb hW hown hK hS f_X11_62_10 hz_a0 hk_a0 (t := 4) (n := 0) rfl dX11_rounds_31 (fun b26 k27 hz_b26 hk_b26 hn_b26 => ?_)
        refine tw_goi hS (md_runV (As := []) (rest := []) hx hb hml hown hW hK hT hS.1 (t_X3_seekRound l D cy tx base Z K N Ma Ra Ja hS.2.1 b26 hz_b26 hk_b26) s_X11_264 ⟨rfl, rfl, ⟨Nat.le_of_ble_eq_true rfl, Nat.le_of_ble_eq_true rfl⟩, ⟨Nat.le_of_ble_eq_true rfl, Nat.le_of_ble_eq_true rfl⟩⟩ hz_b26 hk_b26 (by decide) rfl rfl hl.1 rfl (Nat.le_of_ble_eq_true rfl) dX11_rounds_34) rfl rfl (fun x34 H locs M31 R32 J30 hS f28 g29 E33 => ?_)
        have h_x34 := E33
        clear E33
        refine lv_if_ne (tgt := 43) hx hb dX11_rounds_37 (by decide) (fun c35 => ?_) (fun c35 => ?_)
        · have q36 : ¬ x34.toInt = 0 := ti_ne c35
          have h37 : iv 1 1 x34 := ⟨by have := (h_x34).1; have := ((iv_c (c := 0) (n := 0) (by decide))).1; have := ((iv_c (c := 0) (n := 0) (by decide))).2; omega, by have := (h_x34).2; have := ((iv_c (c := 0) (n := 0) (by decide))).1; have := ((iv_c (c := 0) (n := 0) (by decide))).2; omega⟩
          refine lv_iload_n hx hb dX11_rounds_43 rfl (lv_at hl 1 rfl) ?_
          by_cases c38 : a1 = 0
          · subst c38
            refine lv_tableIn (off := 28) (tgt := 72) hx hb dX11_rounds_44 (by decide) (by decide) rfl (by decide) ?_
            refine lv_aload_n hx hb dX11_rounds_72 rfl (lv_at hl 0 rfl) ?_
            have k39 : R32 a0 10 = some b26 := (Fr.kp (k := 10) g29 hk_a0 rfl).trans k27
            refine tw_getrk hx hb hW hown hK hS f_X11_62_10 hz_a0 hk_a0 (b := b26) k39 dX11_rounds_73 ?_
            refine tw_geti hx hb hW hown hK hS f_X11_267_3 hz_b26 hk_b26 (lo := (-2147483648)) (hi := 2147483647) rfl dX11_rounds_76 (fun x42 k41 h40 => ?_)
            exact tw_endi hx hb hr hlocks hK hT hS hQ (h40) dX11_rounds_79
          have q43 : ¬ a1.toInt = 0 := ti_ne c38
          by_cases c44 : a1 = 1
          · subst c44
            refine lv_tableIn (off := 36) (tgt := 80) hx hb dX11_rounds_44 (by decide) (by decide) rfl (by decide) ?_
            refine lv_aload_n hx hb dX11_rounds_80 rfl (lv_at hl 0 rfl) ?_
            have k45 : R32 a0 10 = some b26 := (Fr.kp (k := 10) g29 hk_a0 rfl).trans k27
            refine tw_getrk hx hb hW hown hK hS f_X11_62_10 hz_a0 hk_a0 (b := b26) k45 dX11_rounds_81 ?_
            refine tw_geti hx hb hW hown hK hS f_X11_270_3 hz_b26 hk_b26 (lo := (-2147483648)) (hi := 2147483647) rfl dX11_rounds_84 (fun x48 k47 h46 => ?_)
            exact tw_endi hx hb hr hlocks hK hT hS hQ (h46) dX11_rounds_87
          have q49 : ¬ a1.toInt = 1 := ti_ne c44
          by_cases c50 : a1 = 2
          · subst c50
            refine lv_tableIn (off := 44) (tgt := 88) hx hb dX11_rounds_44 (by decide) (by decide) rfl (by decide) ?_
            refine lv_aload_n hx hb dX11_rounds_88 rfl (lv_at hl 0 rfl) ?_
            have k51 : R32 a0 10 = some b26 := (Fr.kp (k := 10) g29 hk_a0 rfl).trans k27
            refine tw_getrk hx hb hW hown hK hS f_X11_62_10 hz_a0 hk_a0 (b := b26) k51 dX11_rounds_89 ?_
            refine tw_geti hx hb hW hown hK hS f_X11_220_3 hz_b26 hk_b26 (lo := (-2147483648)) (hi := 2147483647) rfl dX11_rounds_92 (fun x54 k53 h52 => ?_)
            exact tw_endi hx hb hr hlocks hK hT hS hQ (h52) dX11_rounds_95
          have q55 : ¬ a1.toInt = 2 := ti_ne c50
          refine lv_tableOut (tgt := 96) hx hb dX11_rounds_44 (by have := (h24).1; have := (h24).2; omega) (by decide) ?_
          have h56 : iv 3 12 a1 := ⟨by have := (h24).1; omega, (h24).2⟩
          refine lv_aload_n hx hb dX11_rounds_96 rfl (lv_at hl 0 rfl) ?_
          have k57 : R32 a0 10 = some b26 := (Fr.kp (k := 10) g29 hk_a0 rfl).trans k27
          refine tw_getrk hx hb hW hown hK hS f_X11_62_10 hz_a0 hk_a0 (b := b26) k57 dX11_rounds_97 ?_
          refine tw_getr hx hb hW hown hK hS f_X11_273_3 hz_b26 hk_b26 (t := 14) (n := 10) rfl dX11_rounds_100 (fun b58 k59 hz_b58 hk_b58 hn_b58 => ?_)
          have hn_b58 := hn_b58 (by decide)
          refine lv_iload_n hx hb dX11_rounds_103 rfl (lv_at hl 1 rfl) ?_
          refine lv_iconst (v := 3) hx hb dX11_rounds_104 (by decide) ?_
          refine tw_isub (lo := 0) (hi := 9) hx hb h56 (iv_c (c := 3) (n := 3) (by decide)) ⟨by decide, by decide⟩ ⟨by decide, by decide⟩ dX11_rounds_105 (fun x62 e61 h60 => ?_)
          have e61 : x62.toInt = a1.toInt - 3 := e61
          refine tw_iald hx hb hK hS hz_b58 hk_b58 (Or.inl rfl) hn_b58 (lo := (-2147483648)) (hi := 2147483647) h60 ⟨by decide, by decide⟩ rg_u14 dX11_rounds_106 (fun x65 k64 h63 => ?_)
          exact tw_endi hx hb hr hlocks hK hT hS hQ (h63) dX11_rounds_107
        · have q66 : x34.toInt = 0 := ti_eq c35
          have h67 : iv 0 0 x34 := ⟨by have := (h_x34).1; have := ((iv_c (c := 0) (n := 0) (by decide))).1; omega, by have := (h_x34).2; have := ((iv_c (c := 0) (n := 0) (by decide))).2; omega⟩
          refine lv_bipush (v := (-2)) hx hb dX11_rounds_40 (by decide) ?_
          exact tw_endi hx hb hr hlocks hK hT hS hQ ((iv_mono (iv_c (c := (-2)) (n := (-2)) (by decide)) (by decide) (by decide))) dX11_rounds_42
      · have q68 : x21.toInt ≤ a1.toInt := ti_nlt c22
        refine lv_iconst (v := (-1)) hx hb dX11_rounds_28 (by decide) ?_
        exact tw_endi hx hb hr hlocks hK hT hS hQ ((iv_mono (iv_c (c := (-1)) (n := (-1)) (by decide)) (by decide) (by decide))) dX11_rounds_29
def Lt_X5_bringAlone : WL := [(6, 2, 4), (6, 6, 9)]
def LRt_X5_bringAlone : WL := [(6, 4, 5)]
set_option maxRecDepth 100000 in
set_option maxHeartbeats 4000000 in
theorem t_X5_bringAlone (l : Launch) (D : va_G) (cy : Nat → ClassId) (tx : (Nat → Nat) × (Nat → Nat)) (base Z : Nat) (K N : Nat → Nat) (Ma : MT) (Ra : RT) (Ja : JT) (hTy : Ty Z K N Ma Ra) (a0 : Nat) (hz_a0 : a0 < Z) (hk_a0 : K a0 = 6) (a1 : Int32) (h_a1 : iv 0 11 a1) (a2 : Nat) (hz_a2 : a2 < Z) (hk_a2 : K a2 = 20) (hn_a2 : N a2 = 10) (a3 : Int32) (h_a3 : iv (-2147483648) 2147483647 a3) : Met l yX5_bringAlone [Cond.code yX5_bringAlone cX5_bringAlone 4 none] (md_rm 1 0 0) (va_Pc [.ref (base + a0), .int a1, .ref (base + a2), .int a3] (md_U D cy tx base Z K N Ma Ra Ja)) (mQv D cy tx base (fun u => TP Z K N Lt_X5_bringAlone LRt_X5_bringAlone Ma Ra u ∧ (RowOK N u.2.2.2.1 u.2.2.2.2.1 a0))) 0 0 (fun q => base ≤ q) := by
  refine tw_ofW (L := Lt_X5_bringAlone) (LR := LRt_X5_bringAlone) (by decide) (Nat.le_of_ble_eq_true rfl) hTy ?_
  intro p e s m args below meth c Q ls hx hb hr hlocks hown hml hW hK hT hS hQ hl
  have hl : lv_has ls 4 [(0, .ref (base + a0)), (1, .int a1), (2, .ref (base + a2)), (3, .int a3)] := hl
  refine lv_aload_n hx hb dX5_bringAlone_0 rfl (lv_at hl 0 rfl) ?_
  refine lv_iload_n hx hb dX5_bringAlone_1 rfl (lv_at hl 1 rfl) ?_
  refine tw_puti hx hb hW hown hK hS f_X5_30_5 hz_a0 hk_a0 rfl rfl (lo := 0) (hi := 11) rfl h_a1 rfl dX5_bringAlone_2 (fun H locs M3 hS k1 f2 => ?_)
  refine lv_aload_n hx hb dX5_bringAlone_5 rfl (lv_at hl 0 rfl) ?_
  refine lv_aload_n hx hb dX5_bringAlone_6 rfl (lv_at hl 2 rfl) ?_
  refine tw_putr hx hb hW hown hK hS f_X5_25_5 hz_a0 hk_a0 rfl rfl (t := 20) (n := 10) rfl hz_a2 hk_a2 (fun _ => hn_a2) rfl dX5_bringAlone_7 (fun H locs R6 hS k4 f5 => ?_)
  refine lv_aload_n hx hb dX5_bringAlone_10 rfl (lv_at hl 0 rfl) ?_
  refine lv_iload_n hx hb dX5_bringAlone_11 rfl (lv_at hl 3 rfl) ?_
  refine tw_puti hx hb hW hown hK hS f_X5_34_5 hz_a0 hk_a0 rfl rfl (lo := (-2147483648)) (hi := 2147483647) rfl h_a3 rfl dX5_bringAlone_12 (fun H locs M9 hS k7 f8 => ?_)
  refine lv_aload_n hx hb dX5_bringAlone_15 rfl (lv_at hl 0 rfl) ?_
  refine lv_iconst (v := 0) hx hb dX5_bringAlone_16 (by decide) ?_
  refine tw_puti hx hb hW hown hK hS f_X5_37_5 hz_a0 hk_a0 rfl rfl (lo := 0) (hi := 8) rfl (iv_mono (iv_c (c := 0) (n := 0) (by decide)) (by decide) (by decide)) rfl dX5_bringAlone_17 (fun H locs M12 hS k10 f11 => ?_)
  refine lv_aload_n hx hb dX5_bringAlone_20 rfl (lv_at hl 0 rfl) ?_
  refine lv_iconst (v := 0) hx hb dX5_bringAlone_21 (by decide) ?_
  refine tw_puti hx hb hW hown hK hS f_X5_40_5 hz_a0 hk_a0 rfl rfl (lo := 0) (hi := 8) rfl (iv_mono (iv_c (c := 0) (n := 0) (by decide)) (by decide) (by decide)) rfl dX5_bringAlone_22 (fun H locs M15 hS k13 f14 => ?_)
  refine lv_aload_n hx hb dX5_bringAlone_25 rfl (lv_at hl 0 rfl) ?_
  refine lv_iconst (v := 0) hx hb dX5_bringAlone_26 (by decide) ?_
  refine tw_puti hx hb hW hown hK hS f_X5_43_5 hz_a0 hk_a0 rfl rfl (lo := 0) (hi := 1) rfl (iv_mono (iv_c (c := 0) (n := 0) (by decide)) (by decide) (by decide)) rfl dX5_bringAlone_27 (fun H locs M18 hS k16 f17 => ?_)
  have k19 : M18 a0 7 = 0 := (Fr.kp (k := 7) f17 hk_a0 rfl).trans k13
  exact tw_endv hx hb hr hlocks hK hT hS hQ ((show RowOK N M18 R6 a0 from fun b _ => by rw [k19]; show (0 : Int32).toInt ≤ _; have : (0 : Int32).toInt = 0 := (by decide); omega)) dX5_bringAlone_30
def Lt_X11_says : WL := [(6, 2, 4), (6, 6, 14)]
def LRt_X11_says : WL := [(6, 4, 5)]
set_option maxRecDepth 100000 in
set_option maxHeartbeats 4000000 in
theorem t_X11_says (l : Launch) (D : va_G) (cy : Nat → ClassId) (tx : (Nat → Nat) × (Nat → Nat)) (base Z : Nat) (K N : Nat → Nat) (Ma : MT) (Ra : RT) (Ja : JT) (hTy : Ty Z K N Ma Ra) (a0 : Nat) (hz_a0 : a0 < Z) (hk_a0 : K a0 = 11) (a1 : Int32) (h_a1 : iv (-2147483648) 2147483647 a1) (a2 : Int32) (h_a2 : iv (-2147483648) 2147483647 a2) : Met l yX11_says [Cond.code yX11_says cX11_says 3 (some .int)] (md_rm 5 0 0) (va_Pc [.ref (base + a0), .int a1, .int a2] (md_U D cy tx base Z K N Ma Ra Ja)) (mQi D cy tx base (fun r u => TP Z K N Lt_X11_says LRt_X11_says Ma Ra u ∧ (iv (-1) 2 r))) 0 0 (fun q => base ≤ q) := by
  refine tw_ofW (L := Lt_X11_says) (LR := LRt_X11_says) (by decide) (Nat.le_of_ble_eq_true rfl) hTy ?_
  intro p e s m args below meth c Q ls hx hb hr hlocks hown hml hW hK hT hS hQ hl
  have hl : lv_has ls 3 [(0, .ref (base + a0)), (1, .int a1), (2, .int a2)] := hl
  refine lv_aload_n hx hb dX11_says_0 rfl (lv_at hl 0 rfl) ?_
  refine tw_getr hx hb hW hown hK hS f_X11_31_10 hz_a0 hk_a0 (t := 10) (n := 0) rfl dX11_says_1 (fun b1 k2 hz_b1 hk_b1 hn_b1 => ?_)
  refine lv_iload_n hx hb dX11_says_4 rfl (lv_at hl 1 rfl) ?_
  refine tw_goi hS (md_runV (As := [.int a1]) (rest := []) hx hb hml hown hW hK hT hS.1 (t_X9_hasMember l D cy tx base Z K N Ma Ra Ja hS.2.1 b1 hz_b1 hk_b1 a1 h_a1) s_X11_132 ⟨rfl, rfl, ⟨Nat.le_of_ble_eq_true rfl, Nat.le_of_ble_eq_true rfl⟩, ⟨Nat.le_of_ble_eq_true rfl, Nat.le_of_ble_eq_true rfl⟩⟩ hz_b1 hk_b1 (by decide) rfl rfl hl.1 rfl (Nat.le_of_ble_eq_true rfl) dX11_says_5) rfl rfl (fun x9 H locs M6 R7 J5 hS f3 g4 E8 => ?_)
  have eM6 := Fr.nil f3 rfl
  subst eM6
  have eR7 := Fr.nil g4 rfl
  subst eR7
  obtain ⟨h_x9, p10⟩ := E8
  refine lv_if_eq (tgt := 33) hx hb dX11_says_8 (by decide) (fun c11 => ?_) (fun c11 => ?_)
  · have q12 : x9.toInt = 0 := ti_eq c11
    have h13 : iv 0 0 x9 := ⟨by have := (h_x9).1; have := ((iv_c (c := 0) (n := 0) (by decide))).1; omega, by have := (h_x9).2; have := ((iv_c (c := 0) (n := 0) (by decide))).2; omega⟩
    refine lv_iconst (v := (-1)) hx hb dX11_says_33 (by decide) ?_
    exact tw_endi hx hb hr hlocks hK hT hS hQ ((iv_mono (iv_c (c := (-1)) (n := (-1)) (by decide)) (by decide) (by decide))) dX11_says_34
  · have q14 : ¬ x9.toInt = 0 := ti_ne c11
    have h15 : iv 1 1 x9 := ⟨by have := (h_x9).1; have := ((iv_c (c := 0) (n := 0) (by decide))).1; have := ((iv_c (c := 0) (n := 0) (by decide))).2; omega, by have := (h_x9).2; have := ((iv_c (c := 0) (n := 0) (by decide))).1; have := ((iv_c (c := 0) (n := 0) (by decide))).2; omega⟩
    have h16 : iv 0 9 a1 := ⟨by have := (p10 c11).1; have := (h_a1).1; omega, by have := (p10 c11).2; have := (h_a1).2; omega⟩
    refine lv_aload_n hx hb dX11_says_11 rfl (lv_at hl 0 rfl) ?_
    refine tw_getrk hx hb hW hown hK hS f_X11_31_10 hz_a0 hk_a0 (b := b1) k2 dX11_says_12 ?_
    refine lv_iload_n hx hb dX11_says_15 rfl (lv_at hl 1 rfl) ?_
    refine tw_goi hS (md_runV (As := [.int a1]) (rest := []) hx hb hml hown hW hK hT hS.1 (t_X9_isPresent l D cy tx base Z K N Ma Ra J5 hS.2.1 b1 hz_b1 hk_b1 a1 h16) s_X11_162 ⟨rfl, rfl, ⟨Nat.le_of_ble_eq_true rfl, Nat.le_of_ble_eq_true rfl⟩, ⟨Nat.le_of_ble_eq_true rfl, Nat.le_of_ble_eq_true rfl⟩⟩ hz_b1 hk_b1 (by decide) rfl rfl hl.1 rfl (Nat.le_of_ble_eq_true rfl) dX11_says_16) rfl rfl (fun x23 H locs M20 R21 J19 hS f17 g18 E22 => ?_)
    have eM20 := Fr.nil f17 rfl
    subst eM20
    have eR21 := Fr.nil g18 rfl
    subst eR21
    have h_x23 := E22
    clear E22
    refine lv_if_eq (tgt := 33) hx hb dX11_says_19 (by decide) (fun c24 => ?_) (fun c24 => ?_)
    · have q25 : x23.toInt = 0 := ti_eq c24
      have h26 : iv 0 0 x23 := ⟨by have := (h_x23).1; have := ((iv_c (c := 0) (n := 0) (by decide))).1; omega, by have := (h_x23).2; have := ((iv_c (c := 0) (n := 0) (by decide))).2; omega⟩
      refine lv_iconst (v := (-1)) hx hb dX11_says_33 (by decide) ?_
      exact tw_endi hx hb hr hlocks hK hT hS hQ ((iv_mono (iv_c (c := (-1)) (n := (-1)) (by decide)) (by decide) (by decide))) dX11_says_34
    · have q27 : ¬ x23.toInt = 0 := ti_ne c24
      have h28 : iv 1 1 x23 := ⟨by have := (h_x23).1; have := ((iv_c (c := 0) (n := 0) (by decide))).1; have := ((iv_c (c := 0) (n := 0) (by decide))).2; omega, by have := (h_x23).2; have := ((iv_c (c := 0) (n := 0) (by decide))).1; have := ((iv_c (c := 0) (n := 0) (by decide))).2; omega⟩
      refine lv_aload_n hx hb dX11_says_22 rfl (lv_at hl 0 rfl) ?_
      refine tw_getrk hx hb hW hown hK hS f_X11_31_10 hz_a0 hk_a0 (b := b1) k2 dX11_says_23 ?_
      refine lv_iload_n hx hb dX11_says_26 rfl (lv_at hl 2 rfl) ?_
      refine tw_goi hS (md_runV (As := [.int a2]) (rest := []) hx hb hml hown hW hK hT hS.1 (t_X9_hasPoint l D cy tx base Z K N Ma Ra J19 hS.2.1 b1 hz_b1 hk_b1 a2 h_a2) s_X11_151 ⟨rfl, rfl, ⟨Nat.le_of_ble_eq_true rfl, Nat.le_of_ble_eq_true rfl⟩, ⟨Nat.le_of_ble_eq_true rfl, Nat.le_of_ble_eq_true rfl⟩⟩ hz_b1 hk_b1 (by decide) rfl rfl hl.1 rfl (Nat.le_of_ble_eq_true rfl) dX11_says_27) rfl rfl (fun x35 H locs M32 R33 J31 hS f29 g30 E34 => ?_)
      have eM32 := Fr.nil f29 rfl
      subst eM32
      have eR33 := Fr.nil g30 rfl
      subst eR33
      obtain ⟨h_x35, p36⟩ := E34
      refine lv_if_ne (tgt := 35) hx hb dX11_says_30 (by decide) (fun c37 => ?_) (fun c37 => ?_)
      · have q38 : ¬ x35.toInt = 0 := ti_ne c37
        have h39 : iv 1 1 x35 := ⟨by have := (h_x35).1; have := ((iv_c (c := 0) (n := 0) (by decide))).1; have := ((iv_c (c := 0) (n := 0) (by decide))).2; omega, by have := (h_x35).2; have := ((iv_c (c := 0) (n := 0) (by decide))).1; have := ((iv_c (c := 0) (n := 0) (by decide))).2; omega⟩
        have h40 : iv 0 11 a2 := ⟨by have := (p36 c37).1; have := (h_a2).1; omega, by have := (p36 c37).2; have := (h_a2).2; omega⟩
        refine lv_aload_n hx hb dX11_says_35 rfl (lv_at hl 0 rfl) ?_
        refine tw_getr hx hb hW hown hK hS f_X11_39_10 hz_a0 hk_a0 (t := 6) (n := 0) rfl dX11_says_36 (fun b41 k42 hz_b41 hk_b41 hn_b41 => ?_)
        refine lv_iload_n hx hb dX11_says_39 rfl (lv_at hl 2 rfl) ?_
        refine lv_aload_n hx hb dX11_says_40 rfl (lv_at hl 0 rfl) ?_
        refine tw_getrk hx hb hW hown hK hS f_X11_31_10 hz_a0 hk_a0 (b := b1) k2 dX11_says_41 ?_
        refine tw_getr hx hb hW hown hK hS f_X11_136_9 hz_b1 hk_b1 (t := 20) (n := 10) rfl dX11_says_44 (fun b43 k44 hz_b43 hk_b43 hn_b43 => ?_)
        have hn_b43 := hn_b43 (by decide)
        refine lv_aload_n hx hb dX11_says_47 rfl (lv_at hl 0 rfl) ?_
        refine tw_getrk hx hb hW hown hK hS f_X11_31_10 hz_a0 hk_a0 (b := b1) k2 dX11_says_48 ?_
        refine tw_geti hx hb hW hown hK hS f_X11_180_9 hz_b1 hk_b1 (lo := (-2147483648)) (hi := 2147483647) rfl dX11_says_51 (fun x47 k46 h45 => ?_)
        refine tw_gov hS (md_runV (As := [.int a2, .ref (base + b43), .int x47]) (rest := []) hx hb hml hown hW hK hT hS.1 (t_X5_bringAlone l D cy tx base Z K N Ma Ra J31 hS.2.1 b41 hz_b41 hk_b41 a2 h40 b43 hz_b43 hk_b43 hn_b43 x47 h45) s_X11_183 ⟨rfl, rfl, ⟨Nat.le_of_ble_eq_true rfl, Nat.le_of_ble_eq_true rfl⟩, ⟨Nat.le_of_ble_eq_true rfl, Nat.le_of_ble_eq_true rfl⟩⟩ hz_b41 hk_b41 (by decide) rfl rfl hl.1 rfl (Nat.le_of_ble_eq_true rfl) dX11_says_54) rfl rfl (fun H locs M51 R52 J50 hS f48 g49 E53 => ?_)
        have p54 := E53
        clear E53
        have k55 : RowOK N M51 R52 b41 := p54
        refine lv_aload_n hx hb dX11_says_57 rfl (lv_at hl 0 rfl) ?_
        have k56 : R52 a0 9 = some b41 := (Fr.kp (k := 9) g49 hk_a0 rfl).trans k42
        refine tw_getrk hx hb hW hown hK hS f_X11_39_10 hz_a0 hk_a0 (b := b41) k56 dX11_says_58 ?_
        refine lv_iconst (v := 1) hx hb dX11_says_61 (by decide) ?_
        refine lv_iload_n hx hb dX11_says_62 rfl (lv_at hl 1 rfl) ?_
        refine lv_ishl hx hb dX11_says_63 ?_
        refine tw_top (fun x58 => ?_)
        have h57 := iv_any x58
        refine tw_gov hS (md_runV (As := [.int x58]) (rest := []) hx hb hml hown hW hK hT hS.1 (t_X5_ask l D cy tx base Z K N M51 R52 J50 hS.2.1 b41 hz_b41 hk_b41 x58 h57 k55) s_X11_187 ⟨rfl, rfl, ⟨Nat.le_of_ble_eq_true rfl, Nat.le_of_ble_eq_true rfl⟩, ⟨Nat.le_of_ble_eq_true rfl, Nat.le_of_ble_eq_true rfl⟩⟩ hz_b41 hk_b41 (by decide) rfl rfl hl.1 rfl (Nat.le_of_ble_eq_true rfl) dX11_says_64) rfl rfl (fun H locs M62 R63 J61 hS f59 g60 E64 => ?_)
        have eR63 := Fr.nil g60 rfl
        subst eR63
        refine lv_aload_n hx hb dX11_says_67 rfl (lv_at hl 0 rfl) ?_
        have k65 : R52 a0 9 = some b41 := (Fr.kp (k := 9) g49 hk_a0 rfl).trans k42
        refine tw_getrk hx hb hW hown hK hS f_X11_39_10 hz_a0 hk_a0 (b := b41) k65 dX11_says_68 ?_
        refine tw_geti hx hb hW hown hK hS f_X11_190_5 hz_b41 hk_b41 (lo := (-2147483648)) (hi := 2147483647) rfl dX11_says_71 (fun x68 k67 h66 => ?_)
        refine lv_if_eq (tgt := 81) hx hb dX11_says_74 (by decide) (fun c69 => ?_) (fun c69 => ?_)
        · have q70 : x68.toInt = 0 := ti_eq c69
          have h71 : iv 0 0 x68 := ⟨by have := (h66).1; have := ((iv_c (c := 0) (n := 0) (by decide))).1; omega, by have := (h66).2; have := ((iv_c (c := 0) (n := 0) (by decide))).2; omega⟩
          refine lv_aload_n hx hb dX11_says_81 rfl (lv_at hl 0 rfl) ?_
          have k72 : R52 a0 9 = some b41 := (Fr.kp (k := 9) g49 hk_a0 rfl).trans k42
          refine tw_getrk hx hb hW hown hK hS f_X11_39_10 hz_a0 hk_a0 (b := b41) k72 dX11_says_82 ?_
          refine tw_geti hx hb hW hown hK hS f_X11_193_5 hz_b41 hk_b41 (lo := (-2147483648)) (hi := 2147483647) rfl dX11_says_85 (fun x75 k74 h73 => ?_)
          refine lv_if_eq (tgt := 95) hx hb dX11_says_88 (by decide) (fun c76 => ?_) (fun c76 => ?_)
          · have q77 : x75.toInt = 0 := ti_eq c76
            have h78 : iv 0 0 x75 := ⟨by have := (h73).1; have := ((iv_c (c := 0) (n := 0) (by decide))).1; omega, by have := (h73).2; have := ((iv_c (c := 0) (n := 0) (by decide))).2; omega⟩
            refine lv_iconst (v := 2) hx hb dX11_says_95 (by decide) ?_
            exact tw_endi hx hb hr hlocks hK hT hS hQ ((iv_mono (iv_c (c := 2) (n := 2) (by decide)) (by decide) (by decide))) dX11_says_96
          · have q79 : ¬ x75.toInt = 0 := ti_ne c76
            refine lv_iconst (v := 0) hx hb dX11_says_91 (by decide) ?_
            refine lv_goto (tgt := 96) hx hb dX11_says_92 (by decide) ?_
            exact tw_endi hx hb hr hlocks hK hT hS hQ ((iv_mono (iv_c (c := 0) (n := 0) (by decide)) (by decide) (by decide))) dX11_says_96
        · have q80 : ¬ x68.toInt = 0 := ti_ne c69
          refine lv_iconst (v := 1) hx hb dX11_says_77 (by decide) ?_
          refine lv_goto (tgt := 96) hx hb dX11_says_78 (by decide) ?_
          exact tw_endi hx hb hr hlocks hK hT hS hQ ((iv_mono (iv_c (c := 1) (n := 1) (by decide)) (by decide) (by decide))) dX11_says_96
      · have q81 : x35.toInt = 0 := ti_eq c37
        have h82 : iv 0 0 x35 := ⟨by have := (h_x35).1; have := ((iv_c (c := 0) (n := 0) (by decide))).1; omega, by have := (h_x35).2; have := ((iv_c (c := 0) (n := 0) (by decide))).2; omega⟩
        refine lv_iconst (v := (-1)) hx hb dX11_says_33 (by decide) ?_
        exact tw_endi hx hb hr hlocks hK hT hS hQ ((iv_mono (iv_c (c := (-1)) (n := (-1)) (by decide)) (by decide) (by decide))) dX11_says_34
def Lt_X11_seed : WL := [(10, 6, 7), (14, 0, 2000000)]
def LRt_X11_seed : WL := []
set_option maxRecDepth 100000 in
set_option maxHeartbeats 4000000 in
theorem t_X11_seed (l : Launch) (D : va_G) (cy : Nat → ClassId) (tx : (Nat → Nat) × (Nat → Nat)) (base Z : Nat) (K N : Nat → Nat) (Ma : MT) (Ra : RT) (Ja : JT) (hTy : Ty Z K N Ma Ra) (a0 : Nat) (hz_a0 : a0 < Z) (hk_a0 : K a0 = 11) (a1 : Int32) (h_a1 : iv (-2147483648) 2147483647 a1) : Met l yX11_seed [Cond.code yX11_seed cX11_seed 3 (some .int)] (md_rm 2 0 0) (va_Pc [.ref (base + a0), .int a1] (md_U D cy tx base Z K N Ma Ra Ja)) (mQi D cy tx base (fun r u => TP Z K N Lt_X11_seed LRt_X11_seed Ma Ra u ∧ (iv (-2) 2147483647 r))) 0 0 (fun q => base ≤ q) := by
  refine tw_ofW (L := Lt_X11_seed) (LR := LRt_X11_seed) (by decide) (Nat.le_of_ble_eq_true rfl) hTy ?_
  intro p e s m args below meth c Q ls hx hb hr hlocks hown hml hW hK hT hS hQ hl
  have hl : lv_has ls 3 [(0, .ref (base + a0)), (1, .int a1)] := hl
  refine lv_iload_n hx hb dX11_seed_0 rfl (lv_at hl 1 rfl) ?_
  refine lv_if_ge (tgt := 10) hx hb dX11_seed_1 (by decide) (fun c1 => ?_) (fun c1 => ?_)
  · have q2 : 0 ≤ a1.toInt := ti_le c1
    have h3 : iv 0 2147483647 a1 := iv_geL (y := 0) h_a1 (iv_c (c := 0) (n := 0) (by decide)) q2 (by decide)
    refine lv_aload_n hx hb dX11_seed_10 rfl (lv_at hl 0 rfl) ?_
    refine tw_getr hx hb hW hown hK hS f_X11_31_10 hz_a0 hk_a0 (t := 10) (n := 0) rfl dX11_seed_11 (fun b4 k5 hz_b4 hk_b4 hn_b4 => ?_)
    refine tw_geti hx hb hW hown hK hS f_X11_106_9 hz_b4 hk_b4 (lo := 0) (hi := 2147483647) rfl dX11_seed_14 (fun x8 k7 h6 => ?_)
    refine lv_istore_n (lv' := [(2, .int x8), (0, .ref (base + a0)), (1, .int a1)]) hx hb dX11_seed_17 rfl hl (by decide) rfl (fun ls hl => ?_)
    refine lv_aload_n hx hb dX11_seed_18 rfl (lv_at hl 1 rfl) ?_
    refine tw_getrk hx hb hW hown hK hS f_X11_31_10 hz_a0 hk_a0 (b := b4) k5 dX11_seed_19 ?_
    refine lv_iload_n hx hb dX11_seed_22 rfl (lv_at hl 2 rfl) ?_
    refine tw_puti hx hb hW hown hK hS f_X11_106_9 hz_b4 hk_b4 rfl rfl (lo := 0) (hi := 2147483647) rfl h3 rfl dX11_seed_23 (fun H locs M11 hS k9 f10 => ?_)
    refine lv_iload_n hx hb dX11_seed_26 rfl (lv_at hl 0 rfl) ?_
    exact tw_endi hx hb hr hlocks hK hT hS hQ ((iv_mono h6 (by decide) (by decide))) dX11_seed_27
  · have q12 : a1.toInt < 0 := ti_nle c1
    have h13 : iv (-2147483648) (-1) a1 := iv_ltL (y := 0) h_a1 (iv_c (c := 0) (n := 0) (by decide)) q12 (by decide)
    refine lv_aload_n hx hb dX11_seed_4 rfl (lv_at hl 0 rfl) ?_
    refine lv_iconst (v := 0) hx hb dX11_seed_5 (by decide) ?_
    refine tw_goi hS (md_runV (As := [.int 0]) (rest := []) hx hb hml hown hW hK hT hS.1 (t_X11_refuse l D cy tx base Z K N Ma Ra Ja hS.2.1 a0 hz_a0 hk_a0 0 (iv_mono (iv_c (c := 0) (n := 0) (by decide)) (by decide) (by decide))) s_X11_158 ⟨rfl, rfl, ⟨Nat.le_of_ble_eq_true rfl, Nat.le_of_ble_eq_true rfl⟩, ⟨Nat.le_of_ble_eq_true rfl, Nat.le_of_ble_eq_true rfl⟩⟩ hz_a0 hk_a0 (by decide) rfl rfl hl.1 rfl (Nat.le_of_ble_eq_true rfl) dX11_seed_6) rfl rfl (fun x20 H locs M17 R18 J16 hS f14 g15 E19 => ?_)
    have eR18 := Fr.nil g15 rfl
    subst eR18
    have h_x20 := E19
    clear E19
    exact tw_endi hx hb hr hlocks hK hT hS hQ ((iv_mono h_x20 (by decide) (by decide))) dX11_seed_9
def Lt_X4_play : WL := [(5, 7, 8), (6, 2, 4), (6, 6, 15), (20, 0, 2000000)]
def LRt_X4_play : WL := [(6, 4, 6)]
def Lt_X4_answered : WL := [(5, 7, 8), (6, 2, 4), (6, 6, 15), (20, 0, 2000000)]
def LRt_X4_answered : WL := [(6, 4, 6)]
set_option maxRecDepth 100000 in
set_option maxHeartbeats 4000000 in
theorem t_X4_answered (l : Launch) (D : va_G) (cy : Nat → ClassId) (tx : (Nat → Nat) × (Nat → Nat)) (base Z : Nat) (K N : Nat → Nat) (d : Nat) (ih : ∀ (Ma : MT) (Ra : RT) (Ja : JT) (hTy : Ty Z K N Ma Ra) (a0 : Nat) (hz_a0 : a0 < Z) (hk_a0 : K a0 = 5) (a1 : Int32) (h_a1 : iv 0 4 a1) (hmd : 4 - a1.toInt < (d : Int)), Met l yX4_play [Cond.code yX4_play cX4_play 9 (some .int)] (md_rm (5 + 2 * d) 0 0) (va_Pc [.ref (base + a0), .int a1] (md_U D cy tx base Z K N Ma Ra Ja)) (mQi D cy tx base (fun r u => TP Z K N Lt_X4_play LRt_X4_play Ma Ra u ∧ (iv (-1000000000) 1000000000 r))) 0 0 (fun q => base ≤ q)) (Ma : MT) (Ra : RT) (Ja : JT) (hTy : Ty Z K N Ma Ra) (a0 : Nat) (hz_a0 : a0 < Z) (hk_a0 : K a0 = 5) (a1 : Int32) (h_a1 : iv 0 3 a1) (a2 : Int32) (h_a2 : iv (-2147483648) 2147483647 a2) (a3 : Int32) (h_a3 : iv (-2147483648) 2147483647 a3) (hmd : 3 - a1.toInt < (d : Int)) : Met l yX4_answered [Cond.code yX4_answered cX4_answered 11 (some .int)] (md_rm (6 + 2 * d) 0 0) (va_Pc [.ref (base + a0), .int a1, .int a2, .int a3] (md_U D cy tx base Z K N Ma Ra Ja)) (mQi D cy tx base (fun r u => TP Z K N Lt_X4_answered LRt_X4_answered Ma Ra u ∧ (iv (-2147483648) 1000000000 r))) 0 0 (fun q => base ≤ q) := by
  refine tw_ofW (L := Lt_X4_answered) (LR := LRt_X4_answered) (by decide) (Nat.le_of_ble_eq_true rfl) hTy ?_
  intro p e s m args below meth c Q ls hx hb hr hlocks hown hml hW hK hT hS hQ hl
  have hl : lv_has ls 11 [(0, .ref (base + a0)), (1, .int a1), (2, .int a2), (3, .int a3)] := hl
  refine lv_ldc hx hb hown (hW _ w_5_112 rfl) dX4_answered_0 ?_
  refine lv_istore (lv' := [(4, .int 1000000000), (0, .ref (base + a0)), (1, .int a1), (2, .int a2), (3, .int a3)]) hx hb dX4_answered_2 hl (by decide) rfl (fun ls hl => ?_)
  refine lv_aload_n hx hb dX4_answered_4 rfl (lv_at hl 1 rfl) ?_
  refine tw_getr hx hb hW hown hK hS f_X4_13_4 hz_a0 hk_a0 (t := 19) (n := 5) rfl dX4_answered_5 (fun b1 k2 hz_b1 hk_b1 hn_b1 => ?_)
  have hn_b1 := hn_b1 (by decide)
  refine lv_iload_n hx hb dX4_answered_8 rfl (lv_at hl 2 rfl) ?_
  refine lv_iconst (v := 1) hx hb dX4_answered_9 (by decide) ?_
  refine tw_iadd (lo := 1) (hi := 4) hx hb h_a1 (iv_c (c := 1) (n := 1) (by decide)) ⟨by decide, by decide⟩ ⟨by decide, by decide⟩ dX4_answered_10 (fun x5 e4 h3 => ?_)
  have e4 : x5.toInt = a1.toInt + 1 := e4
  refine tw_row hx hb hK hS hz_b1 hk_b1 hn_b1 h3 ⟨by decide, by decide⟩ dX4_answered_11 (fun b6 k7 hz_b6 hk_b6 hn_b6 => ?_)
  refine lv_astore (lv' := [(5, .ref (base + b6)), (4, .int 1000000000), (0, .ref (base + a0)), (1, .int a1), (2, .int a2), (3, .int a3)]) hx hb dX4_answered_12 hl (by decide) rfl (fun ls hl => ?_)
  refine lv_iconst (v := 0) hx hb dX4_answered_14 (by decide) ?_
  refine lv_istore (lv' := [(6, .int 0), (5, .ref (base + b6)), (4, .int 1000000000), (0, .ref (base + a0)), (1, .int a1), (2, .int a2), (3, .int a3)]) hx hb dX4_answered_15 hl (by decide) rfl (fun ls hl => ?_)
  have W17_10 : ∀ (n_10 : Nat) (x8 : Int32) (x9 : Int32) (M10 : MT) (R11 : RT) (J12 : JT) (H : Heap) (locs : List Loc) (ls : Array Slot) (h_x8 : iv (-2147483648) 1000000000 x8) (h_x9 : iv 0 3 x9) (hm_10 : 3 - x9.toInt < (n_10 : Int)) (hS : SB D cy base Z K N Lt_X4_answered LRt_X4_answered Ma Ra M10 R11 J12 s H locs) (hl : lv_has ls 11 [(4, .int x8), (6, .int x9), (5, .ref (base + b6)), (0, .ref (base + a0)), (1, .int a1), (2, .int a2), (3, .int a3)]), W p l e (md_rm (6 + 2 * d) 0 0) s m args below meth c H locs 0 0 Q (F0 m 17 ls []) := by
    intro n_10
    induction n_10 with
    | zero =>
      intro x8 x9 M10 R11 J12 H locs ls h_x8 h_x9 hm_10 hS hl
      exfalso
      have := (h_a1).1; have := (h_a1).2; have := (h_a2).1; have := (h_a2).2; have := (h_a3).1; have := (h_a3).2; have := (h_x9).1; have := (h_x9).2; omega
    | succ n_10 ih_10 =>
      intro x8 x9 M10 R11 J12 H locs ls h_x8 h_x9 hm_10 hS hl
      have f13 := hS.2.2.1
      have g14 := hS.2.2.2
      refine lv_iload hx hb dX4_answered_17 (lv_at hl 1 rfl) ?_
      obtain ⟨sy0, sy1, hY0, hY1⟩ := hT.2.2.2.2
      refine va_getsN hx hb hY0 hS.1.2.2 hown (va_Nw.use rfl hK.2.2.1.2.2.2.2.2.2.1) (fun _ h => h) dX4_answered_19 ?_
      refine va_tlen hx hb hY1 hS.1.2.2 (v := 3) (by decide) dX4_answered_22 ?_
      refine lv_icmp_ge (tgt := 140) hx hb dX4_answered_23 (by decide) (fun c15 => ?_) (fun c15 => ?_)
      · have q16 : 3 ≤ x9.toInt := ti_le c15
        have h17 : iv 3 3 x9 := iv_geL (y := 3) h_x9 (iv_c (c := 3) (n := 3) (by decide)) q16 (by decide)
        refine lv_iload hx hb dX4_answered_140 (lv_at hl 0 rfl) ?_
        exact tw_endi hx hb hr hlocks hK hT hS hQ (h_x8) dX4_answered_142
      · have q18 : x9.toInt < 3 := ti_nle c15
        have h19 : iv 0 2 x9 := iv_ltL (y := 3) h_x9 (iv_c (c := 3) (n := 3) (by decide)) q18 (by decide)
        obtain ⟨sy0, sy1, hY0, hY1⟩ := hT.2.2.2.2
        refine va_getsN hx hb hY0 hS.1.2.2 hown (va_Nw.use rfl hK.2.2.1.2.2.2.2.2.2.1) (fun _ h => h) dX4_answered_26 ?_
        refine lv_iload hx hb dX4_answered_29 (lv_at hl 1 rfl) ?_
        refine va_ti hx hb hY1 hS.1.2.2 (iv_in h19 ⟨by decide, by decide⟩) rfl dX4_answered_31 ?_
        refine tw_top (fun x21 => ?_)
        have h20 := iv_any x21
        refine lv_iconst (v := 1) hx hb dX4_answered_32 (by decide) ?_
        refine lv_icmp_ne (tgt := 43) hx hb dX4_answered_33 (by decide) (fun c22 => ?_) (fun c22 => ?_)
        · have q23 : ¬ x21.toInt = 1 := ti_ne c22
          refine lv_iconst (v := 0) hx hb dX4_answered_43 (by decide) ?_
          refine lv_istore (lv' := [(7, .int 0), (4, .int x8), (6, .int x9), (5, .ref (base + b6)), (0, .ref (base + a0)), (1, .int a1), (2, .int a2), (3, .int a3)]) hx hb dX4_answered_44 hl (by decide) rfl (fun ls hl => ?_)
          obtain ⟨sy0, sy1, hY0, hY1⟩ := hT.2.2.2.2
          refine va_getsN hx hb hY0 hS.1.2.2 hown (va_Nw.use rfl hK.2.2.1.2.2.2.2.2.2.1) (fun _ h => h) dX4_answered_46 ?_
          refine lv_iload hx hb dX4_answered_49 (lv_at hl 2 rfl) ?_
          refine va_ti hx hb hY1 hS.1.2.2 (iv_in h19 ⟨by decide, by decide⟩) rfl dX4_answered_51 ?_
          refine tw_top (fun x25 => ?_)
          have h24 := iv_any x25
          refine lv_if_ne (tgt := 62) hx hb dX4_answered_52 (by decide) (fun c26 => ?_) (fun c26 => ?_)
          · have q27 : ¬ x25.toInt = 0 := ti_ne c26
            refine lv_iconst (v := 0) hx hb dX4_answered_62 (by decide) ?_
            refine lv_istore (lv' := [(8, .int 0), (7, .int 0), (4, .int x8), (6, .int x9), (5, .ref (base + b6)), (0, .ref (base + a0)), (1, .int a1), (2, .int a2), (3, .int a3)]) hx hb dX4_answered_63 hl (by decide) rfl (fun ls hl => ?_)
            refine lv_aload_n hx hb dX4_answered_65 rfl (lv_at hl 5 rfl) ?_
            have k28 : R11 a0 2 = some b1 := (Fr.kp (k := 2) g14 hk_a0 rfl).trans k2
            refine tw_getrk hx hb hW hown hK hS f_X4_13_4 hz_a0 hk_a0 (b := b1) k28 dX4_answered_66 ?_
            refine lv_iload_n hx hb dX4_answered_69 rfl (lv_at hl 6 rfl) ?_
            refine tw_row hx hb hK hS hz_b1 hk_b1 hn_b1 h_a1 ⟨by decide, by decide⟩ dX4_answered_70 (fun b29 k30 hz_b29 hk_b29 hn_b29 => ?_)
            refine lv_iconst (v := 0) hx hb dX4_answered_71 (by decide) ?_
            refine lv_aload hx hb dX4_answered_72 (lv_at hl 4 rfl) ?_
            refine lv_iconst (v := 0) hx hb dX4_answered_74 (by decide) ?_
            refine lv_bipush (v := 10) hx hb dX4_answered_75 (by decide) ?_
            refine tw_copy hx hb (hml.trans hl.1.symm) hW hown hK hS (md_okc w_5_99 rfl (md_okc w_3_226 rfl (md_okc w_3_225 rfl (md_okc w_1_18 rfl (md_ok0))))) hz_b6 hk_b6 (Or.inr (by decide)) hz_b29 hk_b29 (Or.inr (by decide)) hn_b6 hn_b29 (by have := ((iv_c (c := 10) (n := 10) (by decide))).1; have := ((iv_c (c := 10) (n := 10) (by decide))).2; have := ((iv_c (c := 0) (n := 0) (by decide))).1; have := ((iv_c (c := 0) (n := 0) (by decide))).2; have := ((iv_c (c := 0) (n := 0) (by decide))).1; have := ((iv_c (c := 0) (n := 0) (by decide))).2; omega) (by have := ((iv_c (c := 10) (n := 10) (by decide))).1; have := ((iv_c (c := 10) (n := 10) (by decide))).2; have := ((iv_c (c := 0) (n := 0) (by decide))).1; have := ((iv_c (c := 0) (n := 0) (by decide))).2; have := ((iv_c (c := 0) (n := 0) (by decide))).1; have := ((iv_c (c := 0) (n := 0) (by decide))).2; omega) (by have := ((iv_c (c := 10) (n := 10) (by decide))).1; have := ((iv_c (c := 10) (n := 10) (by decide))).2; have := ((iv_c (c := 0) (n := 0) (by decide))).1; have := ((iv_c (c := 0) (n := 0) (by decide))).2; have := ((iv_c (c := 0) (n := 0) (by decide))).1; have := ((iv_c (c := 0) (n := 0) (by decide))).2; omega) (by have := ((iv_c (c := 10) (n := 10) (by decide))).1; have := ((iv_c (c := 10) (n := 10) (by decide))).2; have := ((iv_c (c := 0) (n := 0) (by decide))).1; have := ((iv_c (c := 0) (n := 0) (by decide))).2; have := ((iv_c (c := 0) (n := 0) (by decide))).1; have := ((iv_c (c := 0) (n := 0) (by decide))).2; omega) (by have := ((iv_c (c := 10) (n := 10) (by decide))).1; have := ((iv_c (c := 10) (n := 10) (by decide))).2; have := ((iv_c (c := 0) (n := 0) (by decide))).1; have := ((iv_c (c := 0) (n := 0) (by decide))).2; have := ((iv_c (c := 0) (n := 0) (by decide))).1; have := ((iv_c (c := 0) (n := 0) (by decide))).2; omega) (fun _ _ => ⟨by show (-2147483648 : Int) ≤ -2147483648; decide, by show (2147483647 : Int) ≤ 2147483647; decide⟩) (by simp only [md_rm]; omega) (Nat.le_trans (m := 40) (Nat.le_of_ble_eq_true rfl) (by simp only [md_rm]; omega)) rfl dX4_answered_77 (fun H locs M33 hS f31 k32 => ?_)
            refine lv_aload_n hx hb dX4_answered_80 rfl (lv_at hl 5 rfl) ?_
            refine tw_getr hx hb hW hown hK hS f_X4_24_4 hz_a0 hk_a0 (t := 6) (n := 0) rfl dX4_answered_81 (fun b34 k35 hz_b34 hk_b34 hn_b34 => ?_)
            refine lv_aload hx hb dX4_answered_84 (lv_at hl 4 rfl) ?_
            refine lv_iload_n hx hb dX4_answered_86 rfl (lv_at hl 7 rfl) ?_
            refine lv_iload hx hb dX4_answered_87 (lv_at hl 1 rfl) ?_
            refine lv_ior hx hb dX4_answered_89 ?_
            refine tw_top (fun x37 => ?_)
            have h36 := iv_any x37
            refine lv_iload_n hx hb dX4_answered_90 rfl (lv_at hl 8 rfl) ?_
            refine lv_iload hx hb dX4_answered_91 (lv_at hl 0 rfl) ?_
            refine lv_ior hx hb dX4_answered_93 ?_
            refine tw_top (fun x39 => ?_)
            have h38 := iv_any x39
            refine tw_goi hS (md_runV (As := [.ref (base + b6), .int x37, .int x39]) (rest := []) hx hb hml hown hW hK hT hS.1 (t_X5_hold l D cy tx base Z K N M33 R11 J12 hS.2.1 b34 hz_b34 hk_b34 b6 hz_b6 hk_b6 hn_b6 x37 h36 x39 h38) s_X4_101 ⟨rfl, rfl, ⟨by simp only [md_rm]; omega, by simp only [md_rm]; omega⟩, ⟨Nat.le_of_ble_eq_true rfl, Nat.le_of_ble_eq_true rfl⟩⟩ hz_b34 hk_b34 (by decide) rfl rfl hl.1 rfl (Nat.le_of_ble_eq_true rfl) dX4_answered_94) rfl rfl (fun x46 H locs M43 R44 J42 hS f40 g41 E45 => ?_)
            have eR44 := Fr.nil g41 rfl
            subst eR44
            have h_x46 := E45
            clear E45
            refine lv_istore (lv' := [(9, .int x46), (8, .int 0), (7, .int 0), (4, .int x8), (6, .int x9), (5, .ref (base + b6)), (0, .ref (base + a0)), (1, .int a1), (2, .int a2), (3, .int a3)]) hx hb dX4_answered_97 hl (by decide) rfl (fun ls hl => ?_)
            refine lv_iload hx hb dX4_answered_99 (lv_at hl 0 rfl) ?_
            refine lv_iconst (v := 1) hx hb dX4_answered_101 (by decide) ?_
            refine lv_icmp_ne (tgt := 114) hx hb dX4_answered_102 (by decide) (fun c47 => ?_) (fun c47 => ?_)
            · have q48 : ¬ x46.toInt = 1 := ti_ne c47
              refine lv_iconst (v := 0) hx hb dX4_answered_114 (by decide) ?_
              refine lv_istore (lv' := [(10, .int 0), (9, .int x46), (8, .int 0), (7, .int 0), (4, .int x8), (6, .int x9), (5, .ref (base + b6)), (0, .ref (base + a0)), (1, .int a1), (2, .int a2), (3, .int a3)]) hx hb dX4_answered_115 hl (by decide) rfl (fun ls hl => ?_)
              refine lv_iload hx hb dX4_answered_117 (lv_at hl 4 rfl) ?_
              refine lv_iload hx hb dX4_answered_119 (lv_at hl 0 rfl) ?_
              refine lv_aload_n hx hb dX4_answered_121 rfl (lv_at hl 7 rfl) ?_
              refine lv_iload_n hx hb dX4_answered_122 rfl (lv_at hl 8 rfl) ?_
              refine lv_iconst (v := 1) hx hb dX4_answered_123 (by decide) ?_
              refine tw_iadd (lo := 1) (hi := 4) hx hb h_a1 (iv_c (c := 1) (n := 1) (by decide)) ⟨by decide, by decide⟩ ⟨by decide, by decide⟩ dX4_answered_124 (fun x51 e50 h49 => ?_)
              have e50 : x51.toInt = a1.toInt + 1 := e50
              have hm52 : 4 - x51.toInt < (d : Int) := by
                have := (h_a1).1; have := (h_a1).2; have := (h_a2).1; have := (h_a2).2; have := (h_a3).1; have := (h_a3).2; have := (h3).1; have := (h3).2; have := (h49).1; have := (h49).2; omega
              refine tw_goi hS (md_runV (As := [.int x51]) (rest := [.int 0, .int x8]) hx hb hml hown hW hK hT hS.1 (ih M43 R11 J42 hS.2.1 a0 hz_a0 hk_a0 x51 (iv_mono h49 (by decide) (by decide)) hm52) s_X4_63 ⟨rfl, rfl, ⟨by simp only [md_rm]; omega, by simp only [md_rm]; omega⟩, ⟨Nat.le_of_ble_eq_true rfl, Nat.le_of_ble_eq_true rfl⟩⟩ hz_a0 hk_a0 (by decide) rfl rfl hl.1 rfl (Nat.le_of_ble_eq_true rfl) dX4_answered_125) rfl rfl (fun x59 H locs M56 R57 J55 hS f53 g54 E58 => ?_)
              have h_x59 := E58
              clear E58
              refine tw_iadd (lo := (-1000000000)) (hi := 1000000000) hx hb (iv_c (c := 0) (n := 0) (by decide)) h_x59 ⟨by decide, by decide⟩ ⟨by decide, by decide⟩ dX4_answered_128 (fun x62 e61 h60 => ?_)
              have e61 : x62.toInt = 0 + x59.toInt := e61
              refine va_mmin hx hb (hml.trans hl.1.symm) hown (hW _ w_5_93 rfl) (hW _ w_3_86 rfl) (hW _ w_1_13 rfl) (hW _ w_3_87 rfl) (by simp only [md_rm]; omega) (Nat.le_trans (m := 40) (Nat.le_of_ble_eq_true rfl) (by simp only [md_rm]; omega)) (Nat.le_of_ble_eq_true rfl) (Nat.le_of_ble_eq_true rfl) dX4_answered_129 ?_
              refine tw_mmin (lo := (-2147483648)) (hi := 1000000000) h_x8 h60 (by decide) (fun x65 e64 h63 => ?_)
              refine lv_istore (lv' := [(4, .int x65), (10, .int 0), (9, .int x46), (8, .int 0), (7, .int 0), (6, .int x9), (5, .ref (base + b6)), (0, .ref (base + a0)), (1, .int a1), (2, .int a2), (3, .int a3)]) hx hb dX4_answered_132 hl (by decide) rfl (fun ls hl => ?_)
              refine tw_iinc (lv' := fun x68 => [(6, .int x68), (4, .int x65), (10, .int 0), (9, .int x46), (8, .int 0), (7, .int 0), (5, .ref (base + b6)), (0, .ref (base + a0)), (1, .int a1), (2, .int a2), (3, .int a3)]) (lo := 1) (hi := 3) hx hb dX4_answered_134 hl (k := 5) rfl h19 (by decide) ⟨by decide, by decide⟩ ⟨by decide, by decide⟩ (by decide) (fun _ => rfl) (fun x68 ls e67 h66 hl => ?_)
              refine lv_goto (tgt := 17) hx hb dX4_answered_137 (by decide) ?_
              have hm69 : 3 - x68.toInt < (n_10 : Int) := by
                have := (h_a1).1; have := (h_a1).2; have := (h_a2).1; have := (h_a2).2; have := (h_a3).1; have := (h_a3).2; have := (h66).1; have := (h66).2; have := (h19).1; have := (h19).2; omega
              exact ih_10 x65 x68 M56 R57 J55 H locs _ h63 (iv_mono h66 (by decide) (by decide)) hm69 hS (lv_sub hl [1, 0, 6, 7, 8, 9, 10] rfl)
            · have q70 : x46.toInt = 1 := ti_eq c47
              have h71 : iv 1 1 x46 := ⟨by have := (h_x46).1; have := ((iv_c (c := 1) (n := 1) (by decide))).1; omega, by have := (h_x46).2; have := ((iv_c (c := 1) (n := 1) (by decide))).2; omega⟩
              refine lv_aload_n hx hb dX4_answered_105 rfl (lv_at hl 6 rfl) ?_
              refine tw_getr hx hb hW hown hK hS f_X4_16_4 hz_a0 hk_a0 (t := 14) (n := 4) rfl dX4_answered_106 (fun b72 k73 hz_b72 hk_b72 hn_b72 => ?_)
              have hn_b72 := hn_b72 (by decide)
              refine lv_iload_n hx hb dX4_answered_109 rfl (lv_at hl 7 rfl) ?_
              refine tw_iald hx hb hK hS hz_b72 hk_b72 (Or.inl rfl) hn_b72 (lo := (-2147483648)) (hi := 2147483647) h_a1 ⟨by decide, by decide⟩ rg_u14 dX4_answered_110 (fun x76 k75 h74 => ?_)
              refine lv_goto (tgt := 115) hx hb dX4_answered_111 (by decide) ?_
              refine lv_istore (lv' := [(10, .int x76), (9, .int x46), (8, .int 0), (7, .int 0), (4, .int x8), (6, .int x9), (5, .ref (base + b6)), (0, .ref (base + a0)), (1, .int a1), (2, .int a2), (3, .int a3)]) hx hb dX4_answered_115 hl (by decide) rfl (fun ls hl => ?_)
              refine lv_iload hx hb dX4_answered_117 (lv_at hl 4 rfl) ?_
              refine lv_iload hx hb dX4_answered_119 (lv_at hl 0 rfl) ?_
              refine lv_aload_n hx hb dX4_answered_121 rfl (lv_at hl 7 rfl) ?_
              refine lv_iload_n hx hb dX4_answered_122 rfl (lv_at hl 8 rfl) ?_
              refine lv_iconst (v := 1) hx hb dX4_answered_123 (by decide) ?_
              refine tw_iadd (lo := 1) (hi := 4) hx hb h_a1 (iv_c (c := 1) (n := 1) (by decide)) ⟨by decide, by decide⟩ ⟨by decide, by decide⟩ dX4_answered_124 (fun x79 e78 h77 => ?_)
              have e78 : x79.toInt = a1.toInt + 1 := e78
              have hm80 : 4 - x79.toInt < (d : Int) := by
                have := (h_a1).1; have := (h_a1).2; have := (h_a2).1; have := (h_a2).2; have := (h_a3).1; have := (h_a3).2; have := (h3).1; have := (h3).2; have := (h77).1; have := (h77).2; omega
              refine tw_goi hS (md_runV (As := [.int x79]) (rest := [.int x76, .int x8]) hx hb hml hown hW hK hT hS.1 (ih M43 R11 J42 hS.2.1 a0 hz_a0 hk_a0 x79 (iv_mono h77 (by decide) (by decide)) hm80) s_X4_63 ⟨rfl, rfl, ⟨by simp only [md_rm]; omega, by simp only [md_rm]; omega⟩, ⟨Nat.le_of_ble_eq_true rfl, Nat.le_of_ble_eq_true rfl⟩⟩ hz_a0 hk_a0 (by decide) rfl rfl hl.1 rfl (Nat.le_of_ble_eq_true rfl) dX4_answered_125) rfl rfl (fun x87 H locs M84 R85 J83 hS f81 g82 E86 => ?_)
              have h_x87 := E86
              clear E86
              refine lv_iadd hx hb dX4_answered_128 ?_
              refine tw_top (fun x89 => ?_)
              have h88 := iv_any x89
              refine va_mmin hx hb (hml.trans hl.1.symm) hown (hW _ w_5_93 rfl) (hW _ w_3_86 rfl) (hW _ w_1_13 rfl) (hW _ w_3_87 rfl) (by simp only [md_rm]; omega) (Nat.le_trans (m := 40) (Nat.le_of_ble_eq_true rfl) (by simp only [md_rm]; omega)) (Nat.le_of_ble_eq_true rfl) (Nat.le_of_ble_eq_true rfl) dX4_answered_129 ?_
              refine tw_mmin (lo := (-2147483648)) (hi := 1000000000) h_x8 h88 (by decide) (fun x92 e91 h90 => ?_)
              refine lv_istore (lv' := [(4, .int x92), (10, .int x76), (9, .int x46), (8, .int 0), (7, .int 0), (6, .int x9), (5, .ref (base + b6)), (0, .ref (base + a0)), (1, .int a1), (2, .int a2), (3, .int a3)]) hx hb dX4_answered_132 hl (by decide) rfl (fun ls hl => ?_)
              refine tw_iinc (lv' := fun x95 => [(6, .int x95), (4, .int x92), (10, .int x76), (9, .int x46), (8, .int 0), (7, .int 0), (5, .ref (base + b6)), (0, .ref (base + a0)), (1, .int a1), (2, .int a2), (3, .int a3)]) (lo := 1) (hi := 3) hx hb dX4_answered_134 hl (k := 5) rfl h19 (by decide) ⟨by decide, by decide⟩ ⟨by decide, by decide⟩ (by decide) (fun _ => rfl) (fun x95 ls e94 h93 hl => ?_)
              refine lv_goto (tgt := 17) hx hb dX4_answered_137 (by decide) ?_
              have hm96 : 3 - x95.toInt < (n_10 : Int) := by
                have := (h_a1).1; have := (h_a1).2; have := (h_a2).1; have := (h_a2).2; have := (h_a3).1; have := (h_a3).2; have := (h19).1; have := (h19).2; have := (h93).1; have := (h93).2; omega
              exact ih_10 x92 x95 M84 R85 J83 H locs _ h90 (iv_mono h93 (by decide) (by decide)) hm96 hS (lv_sub hl [1, 0, 6, 7, 8, 9, 10] rfl)
          · have q97 : x25.toInt = 0 := ti_eq c26
            have h98 : iv 0 0 x25 := ⟨by have := (h24).1; have := ((iv_c (c := 0) (n := 0) (by decide))).1; omega, by have := (h24).2; have := ((iv_c (c := 0) (n := 0) (by decide))).2; omega⟩
            refine lv_aload_n hx hb dX4_answered_55 rfl (lv_at hl 4 rfl) ?_
            refine tw_geti hx hb hW hown hK hS f_X4_32_4 hz_a0 hk_a0 (lo := (-2147483648)) (hi := 2147483647) rfl dX4_answered_56 (fun x101 k100 h99 => ?_)
            refine lv_goto (tgt := 63) hx hb dX4_answered_59 (by decide) ?_
            refine lv_istore (lv' := [(8, .int x101), (7, .int 0), (4, .int x8), (6, .int x9), (5, .ref (base + b6)), (0, .ref (base + a0)), (1, .int a1), (2, .int a2), (3, .int a3)]) hx hb dX4_answered_63 hl (by decide) rfl (fun ls hl => ?_)
            refine lv_aload_n hx hb dX4_answered_65 rfl (lv_at hl 5 rfl) ?_
            have k102 : R11 a0 2 = some b1 := (Fr.kp (k := 2) g14 hk_a0 rfl).trans k2
            refine tw_getrk hx hb hW hown hK hS f_X4_13_4 hz_a0 hk_a0 (b := b1) k102 dX4_answered_66 ?_
            refine lv_iload_n hx hb dX4_answered_69 rfl (lv_at hl 6 rfl) ?_
            refine tw_row hx hb hK hS hz_b1 hk_b1 hn_b1 h_a1 ⟨by decide, by decide⟩ dX4_answered_70 (fun b103 k104 hz_b103 hk_b103 hn_b103 => ?_)
            refine lv_iconst (v := 0) hx hb dX4_answered_71 (by decide) ?_
            refine lv_aload hx hb dX4_answered_72 (lv_at hl 4 rfl) ?_
            refine lv_iconst (v := 0) hx hb dX4_answered_74 (by decide) ?_
            refine lv_bipush (v := 10) hx hb dX4_answered_75 (by decide) ?_
            refine tw_copy hx hb (hml.trans hl.1.symm) hW hown hK hS (md_okc w_5_99 rfl (md_okc w_3_226 rfl (md_okc w_3_225 rfl (md_okc w_1_18 rfl (md_ok0))))) hz_b6 hk_b6 (Or.inr (by decide)) hz_b103 hk_b103 (Or.inr (by decide)) hn_b6 hn_b103 (by have := ((iv_c (c := 10) (n := 10) (by decide))).1; have := ((iv_c (c := 10) (n := 10) (by decide))).2; have := ((iv_c (c := 0) (n := 0) (by decide))).1; have := ((iv_c (c := 0) (n := 0) (by decide))).2; have := ((iv_c (c := 0) (n := 0) (by decide))).1; have := ((iv_c (c := 0) (n := 0) (by decide))).2; omega) (by have := ((iv_c (c := 10) (n := 10) (by decide))).1; have := ((iv_c (c := 10) (n := 10) (by decide))).2; have := ((iv_c (c := 0) (n := 0) (by decide))).1; have := ((iv_c (c := 0) (n := 0) (by decide))).2; have := ((iv_c (c := 0) (n := 0) (by decide))).1; have := ((iv_c (c := 0) (n := 0) (by decide))).2; omega) (by have := ((iv_c (c := 10) (n := 10) (by decide))).1; have := ((iv_c (c := 10) (n := 10) (by decide))).2; have := ((iv_c (c := 0) (n := 0) (by decide))).1; have := ((iv_c (c := 0) (n := 0) (by decide))).2; have := ((iv_c (c := 0) (n := 0) (by decide))).1; have := ((iv_c (c := 0) (n := 0) (by decide))).2; omega) (by have := ((iv_c (c := 10) (n := 10) (by decide))).1; have := ((iv_c (c := 10) (n := 10) (by decide))).2; have := ((iv_c (c := 0) (n := 0) (by decide))).1; have := ((iv_c (c := 0) (n := 0) (by decide))).2; have := ((iv_c (c := 0) (n := 0) (by decide))).1; have := ((iv_c (c := 0) (n := 0) (by decide))).2; omega) (by have := ((iv_c (c := 10) (n := 10) (by decide))).1; have := ((iv_c (c := 10) (n := 10) (by decide))).2; have := ((iv_c (c := 0) (n := 0) (by decide))).1; have := ((iv_c (c := 0) (n := 0) (by decide))).2; have := ((iv_c (c := 0) (n := 0) (by decide))).1; have := ((iv_c (c := 0) (n := 0) (by decide))).2; omega) (fun _ _ => ⟨by show (-2147483648 : Int) ≤ -2147483648; decide, by show (2147483647 : Int) ≤ 2147483647; decide⟩) (by simp only [md_rm]; omega) (Nat.le_trans (m := 40) (Nat.le_of_ble_eq_true rfl) (by simp only [md_rm]; omega)) rfl dX4_answered_77 (fun H locs M107 hS f105 k106 => ?_)
            refine lv_aload_n hx hb dX4_answered_80 rfl (lv_at hl 5 rfl) ?_
            refine tw_getr hx hb hW hown hK hS f_X4_24_4 hz_a0 hk_a0 (t := 6) (n := 0) rfl dX4_answered_81 (fun b108 k109 hz_b108 hk_b108 hn_b108 => ?_)
            refine lv_aload hx hb dX4_answered_84 (lv_at hl 4 rfl) ?_
            refine lv_iload_n hx hb dX4_answered_86 rfl (lv_at hl 7 rfl) ?_
            refine lv_iload hx hb dX4_answered_87 (lv_at hl 1 rfl) ?_
            refine lv_ior hx hb dX4_answered_89 ?_
            refine tw_top (fun x111 => ?_)
            have h110 := iv_any x111
            refine lv_iload_n hx hb dX4_answered_90 rfl (lv_at hl 8 rfl) ?_
            refine lv_iload hx hb dX4_answered_91 (lv_at hl 0 rfl) ?_
            refine lv_ior hx hb dX4_answered_93 ?_
            refine tw_top (fun x113 => ?_)
            have h112 := iv_any x113
            refine tw_goi hS (md_runV (As := [.ref (base + b6), .int x111, .int x113]) (rest := []) hx hb hml hown hW hK hT hS.1 (t_X5_hold l D cy tx base Z K N M107 R11 J12 hS.2.1 b108 hz_b108 hk_b108 b6 hz_b6 hk_b6 hn_b6 x111 h110 x113 h112) s_X4_101 ⟨rfl, rfl, ⟨by simp only [md_rm]; omega, by simp only [md_rm]; omega⟩, ⟨Nat.le_of_ble_eq_true rfl, Nat.le_of_ble_eq_true rfl⟩⟩ hz_b108 hk_b108 (by decide) rfl rfl hl.1 rfl (Nat.le_of_ble_eq_true rfl) dX4_answered_94) rfl rfl (fun x120 H locs M117 R118 J116 hS f114 g115 E119 => ?_)
            have eR118 := Fr.nil g115 rfl
            subst eR118
            have h_x120 := E119
            clear E119
            refine lv_istore (lv' := [(9, .int x120), (8, .int x101), (7, .int 0), (4, .int x8), (6, .int x9), (5, .ref (base + b6)), (0, .ref (base + a0)), (1, .int a1), (2, .int a2), (3, .int a3)]) hx hb dX4_answered_97 hl (by decide) rfl (fun ls hl => ?_)
            refine lv_iload hx hb dX4_answered_99 (lv_at hl 0 rfl) ?_
            refine lv_iconst (v := 1) hx hb dX4_answered_101 (by decide) ?_
            refine lv_icmp_ne (tgt := 114) hx hb dX4_answered_102 (by decide) (fun c121 => ?_) (fun c121 => ?_)
            · have q122 : ¬ x120.toInt = 1 := ti_ne c121
              refine lv_iconst (v := 0) hx hb dX4_answered_114 (by decide) ?_
              refine lv_istore (lv' := [(10, .int 0), (9, .int x120), (8, .int x101), (7, .int 0), (4, .int x8), (6, .int x9), (5, .ref (base + b6)), (0, .ref (base + a0)), (1, .int a1), (2, .int a2), (3, .int a3)]) hx hb dX4_answered_115 hl (by decide) rfl (fun ls hl => ?_)
              refine lv_iload hx hb dX4_answered_117 (lv_at hl 4 rfl) ?_
              refine lv_iload hx hb dX4_answered_119 (lv_at hl 0 rfl) ?_
              refine lv_aload_n hx hb dX4_answered_121 rfl (lv_at hl 7 rfl) ?_
              refine lv_iload_n hx hb dX4_answered_122 rfl (lv_at hl 8 rfl) ?_
              refine lv_iconst (v := 1) hx hb dX4_answered_123 (by decide) ?_
              refine tw_iadd (lo := 1) (hi := 4) hx hb h_a1 (iv_c (c := 1) (n := 1) (by decide)) ⟨by decide, by decide⟩ ⟨by decide, by decide⟩ dX4_answered_124 (fun x125 e124 h123 => ?_)
              have e124 : x125.toInt = a1.toInt + 1 := e124
              have hm126 : 4 - x125.toInt < (d : Int) := by
                have := (h_a1).1; have := (h_a1).2; have := (h_a2).1; have := (h_a2).2; have := (h_a3).1; have := (h_a3).2; have := (h123).1; have := (h123).2; have := (h3).1; have := (h3).2; omega
              refine tw_goi hS (md_runV (As := [.int x125]) (rest := [.int 0, .int x8]) hx hb hml hown hW hK hT hS.1 (ih M117 R11 J116 hS.2.1 a0 hz_a0 hk_a0 x125 (iv_mono h123 (by decide) (by decide)) hm126) s_X4_63 ⟨rfl, rfl, ⟨by simp only [md_rm]; omega, by simp only [md_rm]; omega⟩, ⟨Nat.le_of_ble_eq_true rfl, Nat.le_of_ble_eq_true rfl⟩⟩ hz_a0 hk_a0 (by decide) rfl rfl hl.1 rfl (Nat.le_of_ble_eq_true rfl) dX4_answered_125) rfl rfl (fun x133 H locs M130 R131 J129 hS f127 g128 E132 => ?_)
              have h_x133 := E132
              clear E132
              refine tw_iadd (lo := (-1000000000)) (hi := 1000000000) hx hb (iv_c (c := 0) (n := 0) (by decide)) h_x133 ⟨by decide, by decide⟩ ⟨by decide, by decide⟩ dX4_answered_128 (fun x136 e135 h134 => ?_)
              have e135 : x136.toInt = 0 + x133.toInt := e135
              refine va_mmin hx hb (hml.trans hl.1.symm) hown (hW _ w_5_93 rfl) (hW _ w_3_86 rfl) (hW _ w_1_13 rfl) (hW _ w_3_87 rfl) (by simp only [md_rm]; omega) (Nat.le_trans (m := 40) (Nat.le_of_ble_eq_true rfl) (by simp only [md_rm]; omega)) (Nat.le_of_ble_eq_true rfl) (Nat.le_of_ble_eq_true rfl) dX4_answered_129 ?_
              refine tw_mmin (lo := (-2147483648)) (hi := 1000000000) h_x8 h134 (by decide) (fun x139 e138 h137 => ?_)
              refine lv_istore (lv' := [(4, .int x139), (10, .int 0), (9, .int x120), (8, .int x101), (7, .int 0), (6, .int x9), (5, .ref (base + b6)), (0, .ref (base + a0)), (1, .int a1), (2, .int a2), (3, .int a3)]) hx hb dX4_answered_132 hl (by decide) rfl (fun ls hl => ?_)
              refine tw_iinc (lv' := fun x142 => [(6, .int x142), (4, .int x139), (10, .int 0), (9, .int x120), (8, .int x101), (7, .int 0), (5, .ref (base + b6)), (0, .ref (base + a0)), (1, .int a1), (2, .int a2), (3, .int a3)]) (lo := 1) (hi := 3) hx hb dX4_answered_134 hl (k := 5) rfl h19 (by decide) ⟨by decide, by decide⟩ ⟨by decide, by decide⟩ (by decide) (fun _ => rfl) (fun x142 ls e141 h140 hl => ?_)
              refine lv_goto (tgt := 17) hx hb dX4_answered_137 (by decide) ?_
              have hm143 : 3 - x142.toInt < (n_10 : Int) := by
                have := (h_a1).1; have := (h_a1).2; have := (h_a2).1; have := (h_a2).2; have := (h_a3).1; have := (h_a3).2; have := (h140).1; have := (h140).2; have := (h19).1; have := (h19).2; omega
              exact ih_10 x139 x142 M130 R131 J129 H locs _ h137 (iv_mono h140 (by decide) (by decide)) hm143 hS (lv_sub hl [1, 0, 6, 7, 8, 9, 10] rfl)
            · have q144 : x120.toInt = 1 := ti_eq c121
              have h145 : iv 1 1 x120 := ⟨by have := (h_x120).1; have := ((iv_c (c := 1) (n := 1) (by decide))).1; omega, by have := (h_x120).2; have := ((iv_c (c := 1) (n := 1) (by decide))).2; omega⟩
              refine lv_aload_n hx hb dX4_answered_105 rfl (lv_at hl 6 rfl) ?_
              refine tw_getr hx hb hW hown hK hS f_X4_16_4 hz_a0 hk_a0 (t := 14) (n := 4) rfl dX4_answered_106 (fun b146 k147 hz_b146 hk_b146 hn_b146 => ?_)
              have hn_b146 := hn_b146 (by decide)
              refine lv_iload_n hx hb dX4_answered_109 rfl (lv_at hl 7 rfl) ?_
              refine tw_iald hx hb hK hS hz_b146 hk_b146 (Or.inl rfl) hn_b146 (lo := (-2147483648)) (hi := 2147483647) h_a1 ⟨by decide, by decide⟩ rg_u14 dX4_answered_110 (fun x150 k149 h148 => ?_)
              refine lv_goto (tgt := 115) hx hb dX4_answered_111 (by decide) ?_
              refine lv_istore (lv' := [(10, .int x150), (9, .int x120), (8, .int x101), (7, .int 0), (4, .int x8), (6, .int x9), (5, .ref (base + b6)), (0, .ref (base + a0)), (1, .int a1), (2, .int a2), (3, .int a3)]) hx hb dX4_answered_115 hl (by decide) rfl (fun ls hl => ?_)
              refine lv_iload hx hb dX4_answered_117 (lv_at hl 4 rfl) ?_
              refine lv_iload hx hb dX4_answered_119 (lv_at hl 0 rfl) ?_
              refine lv_aload_n hx hb dX4_answered_121 rfl (lv_at hl 7 rfl) ?_
              refine lv_iload_n hx hb dX4_answered_122 rfl (lv_at hl 8 rfl) ?_
              refine lv_iconst (v := 1) hx hb dX4_answered_123 (by decide) ?_
              refine tw_iadd (lo := 1) (hi := 4) hx hb h_a1 (iv_c (c := 1) (n := 1) (by decide)) ⟨by decide, by decide⟩ ⟨by decide, by decide⟩ dX4_answered_124 (fun x153 e152 h151 => ?_)
              have e152 : x153.toInt = a1.toInt + 1 := e152
              have hm154 : 4 - x153.toInt < (d : Int) := by
                have := (h_a1).1; have := (h_a1).2; have := (h_a2).1; have := (h_a2).2; have := (h_a3).1; have := (h_a3).2; have := (h151).1; have := (h151).2; have := (h3).1; have := (h3).2; omega
              refine tw_goi hS (md_runV (As := [.int x153]) (rest := [.int x150, .int x8]) hx hb hml hown hW hK hT hS.1 (ih M117 R11 J116 hS.2.1 a0 hz_a0 hk_a0 x153 (iv_mono h151 (by decide) (by decide)) hm154) s_X4_63 ⟨rfl, rfl, ⟨by simp only [md_rm]; omega, by simp only [md_rm]; omega⟩, ⟨Nat.le_of_ble_eq_true rfl, Nat.le_of_ble_eq_true rfl⟩⟩ hz_a0 hk_a0 (by decide) rfl rfl hl.1 rfl (Nat.le_of_ble_eq_true rfl) dX4_answered_125) rfl rfl (fun x161 H locs M158 R159 J157 hS f155 g156 E160 => ?_)
              have h_x161 := E160
              clear E160
              refine lv_iadd hx hb dX4_answered_128 ?_
              refine tw_top (fun x163 => ?_)
              have h162 := iv_any x163
              refine va_mmin hx hb (hml.trans hl.1.symm) hown (hW _ w_5_93 rfl) (hW _ w_3_86 rfl) (hW _ w_1_13 rfl) (hW _ w_3_87 rfl) (by simp only [md_rm]; omega) (Nat.le_trans (m := 40) (Nat.le_of_ble_eq_true rfl) (by simp only [md_rm]; omega)) (Nat.le_of_ble_eq_true rfl) (Nat.le_of_ble_eq_true rfl) dX4_answered_129 ?_
              refine tw_mmin (lo := (-2147483648)) (hi := 1000000000) h_x8 h162 (by decide) (fun x166 e165 h164 => ?_)
              refine lv_istore (lv' := [(4, .int x166), (10, .int x150), (9, .int x120), (8, .int x101), (7, .int 0), (6, .int x9), (5, .ref (base + b6)), (0, .ref (base + a0)), (1, .int a1), (2, .int a2), (3, .int a3)]) hx hb dX4_answered_132 hl (by decide) rfl (fun ls hl => ?_)
              refine tw_iinc (lv' := fun x169 => [(6, .int x169), (4, .int x166), (10, .int x150), (9, .int x120), (8, .int x101), (7, .int 0), (5, .ref (base + b6)), (0, .ref (base + a0)), (1, .int a1), (2, .int a2), (3, .int a3)]) (lo := 1) (hi := 3) hx hb dX4_answered_134 hl (k := 5) rfl h19 (by decide) ⟨by decide, by decide⟩ ⟨by decide, by decide⟩ (by decide) (fun _ => rfl) (fun x169 ls e168 h167 hl => ?_)
              refine lv_goto (tgt := 17) hx hb dX4_answered_137 (by decide) ?_
              have hm170 : 3 - x169.toInt < (n_10 : Int) := by
                have := (h_a1).1; have := (h_a1).2; have := (h_a2).1; have := (h_a2).2; have := (h_a3).1; have := (h_a3).2; have := (h167).1; have := (h167).2; have := (h19).1; have := (h19).2; omega
              exact ih_10 x166 x169 M158 R159 J157 H locs _ h164 (iv_mono h167 (by decide) (by decide)) hm170 hS (lv_sub hl [1, 0, 6, 7, 8, 9, 10] rfl)
        · have q171 : x21.toInt = 1 := ti_eq c22
          have h172 : iv 1 1 x21 := ⟨by have := (h20).1; have := ((iv_c (c := 1) (n := 1) (by decide))).1; omega, by have := (h20).2; have := ((iv_c (c := 1) (n := 1) (by decide))).2; omega⟩
          refine lv_aload_n hx hb dX4_answered_36 rfl (lv_at hl 3 rfl) ?_
          refine tw_geti hx hb hW hown hK hS f_X4_32_4 hz_a0 hk_a0 (lo := (-2147483648)) (hi := 2147483647) rfl dX4_answered_37 (fun x175 k174 h173 => ?_)
          refine lv_goto (tgt := 44) hx hb dX4_answered_40 (by decide) ?_
          refine lv_istore (lv' := [(7, .int x175), (4, .int x8), (6, .int x9), (5, .ref (base + b6)), (0, .ref (base + a0)), (1, .int a1), (2, .int a2), (3, .int a3)]) hx hb dX4_answered_44 hl (by decide) rfl (fun ls hl => ?_)
          obtain ⟨sy0, sy1, hY0, hY1⟩ := hT.2.2.2.2
          refine va_getsN hx hb hY0 hS.1.2.2 hown (va_Nw.use rfl hK.2.2.1.2.2.2.2.2.2.1) (fun _ h => h) dX4_answered_46 ?_
          refine lv_iload hx hb dX4_answered_49 (lv_at hl 2 rfl) ?_
          refine va_ti hx hb hY1 hS.1.2.2 (iv_in h19 ⟨by decide, by decide⟩) rfl dX4_answered_51 ?_
          refine tw_top (fun x177 => ?_)
          have h176 := iv_any x177
          refine lv_if_ne (tgt := 62) hx hb dX4_answered_52 (by decide) (fun c178 => ?_) (fun c178 => ?_)
          · have q179 : ¬ x177.toInt = 0 := ti_ne c178
            refine lv_iconst (v := 0) hx hb dX4_answered_62 (by decide) ?_
            refine lv_istore (lv' := [(8, .int 0), (7, .int x175), (4, .int x8), (6, .int x9), (5, .ref (base + b6)), (0, .ref (base + a0)), (1, .int a1), (2, .int a2), (3, .int a3)]) hx hb dX4_answered_63 hl (by decide) rfl (fun ls hl => ?_)
            refine lv_aload_n hx hb dX4_answered_65 rfl (lv_at hl 5 rfl) ?_
            have k180 : R11 a0 2 = some b1 := (Fr.kp (k := 2) g14 hk_a0 rfl).trans k2
            refine tw_getrk hx hb hW hown hK hS f_X4_13_4 hz_a0 hk_a0 (b := b1) k180 dX4_answered_66 ?_
            refine lv_iload_n hx hb dX4_answered_69 rfl (lv_at hl 6 rfl) ?_
            refine tw_row hx hb hK hS hz_b1 hk_b1 hn_b1 h_a1 ⟨by decide, by decide⟩ dX4_answered_70 (fun b181 k182 hz_b181 hk_b181 hn_b181 => ?_)
            refine lv_iconst (v := 0) hx hb dX4_answered_71 (by decide) ?_
            refine lv_aload hx hb dX4_answered_72 (lv_at hl 4 rfl) ?_
            refine lv_iconst (v := 0) hx hb dX4_answered_74 (by decide) ?_
            refine lv_bipush (v := 10) hx hb dX4_answered_75 (by decide) ?_
            refine tw_copy hx hb (hml.trans hl.1.symm) hW hown hK hS (md_okc w_5_99 rfl (md_okc w_3_226 rfl (md_okc w_3_225 rfl (md_okc w_1_18 rfl (md_ok0))))) hz_b6 hk_b6 (Or.inr (by decide)) hz_b181 hk_b181 (Or.inr (by decide)) hn_b6 hn_b181 (by have := ((iv_c (c := 10) (n := 10) (by decide))).1; have := ((iv_c (c := 10) (n := 10) (by decide))).2; have := ((iv_c (c := 0) (n := 0) (by decide))).1; have := ((iv_c (c := 0) (n := 0) (by decide))).2; have := ((iv_c (c := 0) (n := 0) (by decide))).1; have := ((iv_c (c := 0) (n := 0) (by decide))).2; omega) (by have := ((iv_c (c := 10) (n := 10) (by decide))).1; have := ((iv_c (c := 10) (n := 10) (by decide))).2; have := ((iv_c (c := 0) (n := 0) (by decide))).1; have := ((iv_c (c := 0) (n := 0) (by decide))).2; have := ((iv_c (c := 0) (n := 0) (by decide))).1; have := ((iv_c (c := 0) (n := 0) (by decide))).2; omega) (by have := ((iv_c (c := 10) (n := 10) (by decide))).1; have := ((iv_c (c := 10) (n := 10) (by decide))).2; have := ((iv_c (c := 0) (n := 0) (by decide))).1; have := ((iv_c (c := 0) (n := 0) (by decide))).2; have := ((iv_c (c := 0) (n := 0) (by decide))).1; have := ((iv_c (c := 0) (n := 0) (by decide))).2; omega) (by have := ((iv_c (c := 10) (n := 10) (by decide))).1; have := ((iv_c (c := 10) (n := 10) (by decide))).2; have := ((iv_c (c := 0) (n := 0) (by decide))).1; have := ((iv_c (c := 0) (n := 0) (by decide))).2; have := ((iv_c (c := 0) (n := 0) (by decide))).1; have := ((iv_c (c := 0) (n := 0) (by decide))).2; omega) (by have := ((iv_c (c := 10) (n := 10) (by decide))).1; have := ((iv_c (c := 10) (n := 10) (by decide))).2; have := ((iv_c (c := 0) (n := 0) (by decide))).1; have := ((iv_c (c := 0) (n := 0) (by decide))).2; have := ((iv_c (c := 0) (n := 0) (by decide))).1; have := ((iv_c (c := 0) (n := 0) (by decide))).2; omega) (fun _ _ => ⟨by show (-2147483648 : Int) ≤ -2147483648; decide, by show (2147483647 : Int) ≤ 2147483647; decide⟩) (by simp only [md_rm]; omega) (Nat.le_trans (m := 40) (Nat.le_of_ble_eq_true rfl) (by simp only [md_rm]; omega)) rfl dX4_answered_77 (fun H locs M185 hS f183 k184 => ?_)
            refine lv_aload_n hx hb dX4_answered_80 rfl (lv_at hl 5 rfl) ?_
            refine tw_getr hx hb hW hown hK hS f_X4_24_4 hz_a0 hk_a0 (t := 6) (n := 0) rfl dX4_answered_81 (fun b186 k187 hz_b186 hk_b186 hn_b186 => ?_)
            refine lv_aload hx hb dX4_answered_84 (lv_at hl 4 rfl) ?_
            refine lv_iload_n hx hb dX4_answered_86 rfl (lv_at hl 7 rfl) ?_
            refine lv_iload hx hb dX4_answered_87 (lv_at hl 1 rfl) ?_
            refine lv_ior hx hb dX4_answered_89 ?_
            refine tw_top (fun x189 => ?_)
            have h188 := iv_any x189
            refine lv_iload_n hx hb dX4_answered_90 rfl (lv_at hl 8 rfl) ?_
            refine lv_iload hx hb dX4_answered_91 (lv_at hl 0 rfl) ?_
            refine lv_ior hx hb dX4_answered_93 ?_
            refine tw_top (fun x191 => ?_)
            have h190 := iv_any x191
            refine tw_goi hS (md_runV (As := [.ref (base + b6), .int x189, .int x191]) (rest := []) hx hb hml hown hW hK hT hS.1 (t_X5_hold l D cy tx base Z K N M185 R11 J12 hS.2.1 b186 hz_b186 hk_b186 b6 hz_b6 hk_b6 hn_b6 x189 h188 x191 h190) s_X4_101 ⟨rfl, rfl, ⟨by simp only [md_rm]; omega, by simp only [md_rm]; omega⟩, ⟨Nat.le_of_ble_eq_true rfl, Nat.le_of_ble_eq_true rfl⟩⟩ hz_b186 hk_b186 (by decide) rfl rfl hl.1 rfl (Nat.le_of_ble_eq_true rfl) dX4_answered_94) rfl rfl (fun x198 H locs M195 R196 J194 hS f192 g193 E197 => ?_)
            have eR196 := Fr.nil g193 rfl
            subst eR196
            have h_x198 := E197
            clear E197
            refine lv_istore (lv' := [(9, .int x198), (8, .int 0), (7, .int x175), (4, .int x8), (6, .int x9), (5, .ref (base + b6)), (0, .ref (base + a0)), (1, .int a1), (2, .int a2), (3, .int a3)]) hx hb dX4_answered_97 hl (by decide) rfl (fun ls hl => ?_)
            refine lv_iload hx hb dX4_answered_99 (lv_at hl 0 rfl) ?_
            refine lv_iconst (v := 1) hx hb dX4_answered_101 (by decide) ?_
            refine lv_icmp_ne (tgt := 114) hx hb dX4_answered_102 (by decide) (fun c199 => ?_) (fun c199 => ?_)
            · have q200 : ¬ x198.toInt = 1 := ti_ne c199
              refine lv_iconst (v := 0) hx hb dX4_answered_114 (by decide) ?_
              refine lv_istore (lv' := [(10, .int 0), (9, .int x198), (8, .int 0), (7, .int x175), (4, .int x8), (6, .int x9), (5, .ref (base + b6)), (0, .ref (base + a0)), (1, .int a1), (2, .int a2), (3, .int a3)]) hx hb dX4_answered_115 hl (by decide) rfl (fun ls hl => ?_)
              refine lv_iload hx hb dX4_answered_117 (lv_at hl 4 rfl) ?_
              refine lv_iload hx hb dX4_answered_119 (lv_at hl 0 rfl) ?_
              refine lv_aload_n hx hb dX4_answered_121 rfl (lv_at hl 7 rfl) ?_
              refine lv_iload_n hx hb dX4_answered_122 rfl (lv_at hl 8 rfl) ?_
              refine lv_iconst (v := 1) hx hb dX4_answered_123 (by decide) ?_
              refine tw_iadd (lo := 1) (hi := 4) hx hb h_a1 (iv_c (c := 1) (n := 1) (by decide)) ⟨by decide, by decide⟩ ⟨by decide, by decide⟩ dX4_answered_124 (fun x203 e202 h201 => ?_)
              have e202 : x203.toInt = a1.toInt + 1 := e202
              have hm204 : 4 - x203.toInt < (d : Int) := by
                have := (h_a1).1; have := (h_a1).2; have := (h_a2).1; have := (h_a2).2; have := (h_a3).1; have := (h_a3).2; have := (h201).1; have := (h201).2; have := (h3).1; have := (h3).2; omega
              refine tw_goi hS (md_runV (As := [.int x203]) (rest := [.int 0, .int x8]) hx hb hml hown hW hK hT hS.1 (ih M195 R11 J194 hS.2.1 a0 hz_a0 hk_a0 x203 (iv_mono h201 (by decide) (by decide)) hm204) s_X4_63 ⟨rfl, rfl, ⟨by simp only [md_rm]; omega, by simp only [md_rm]; omega⟩, ⟨Nat.le_of_ble_eq_true rfl, Nat.le_of_ble_eq_true rfl⟩⟩ hz_a0 hk_a0 (by decide) rfl rfl hl.1 rfl (Nat.le_of_ble_eq_true rfl) dX4_answered_125) rfl rfl (fun x211 H locs M208 R209 J207 hS f205 g206 E210 => ?_)
              have h_x211 := E210
              clear E210
              refine tw_iadd (lo := (-1000000000)) (hi := 1000000000) hx hb (iv_c (c := 0) (n := 0) (by decide)) h_x211 ⟨by decide, by decide⟩ ⟨by decide, by decide⟩ dX4_answered_128 (fun x214 e213 h212 => ?_)
              have e213 : x214.toInt = 0 + x211.toInt := e213
              refine va_mmin hx hb (hml.trans hl.1.symm) hown (hW _ w_5_93 rfl) (hW _ w_3_86 rfl) (hW _ w_1_13 rfl) (hW _ w_3_87 rfl) (by simp only [md_rm]; omega) (Nat.le_trans (m := 40) (Nat.le_of_ble_eq_true rfl) (by simp only [md_rm]; omega)) (Nat.le_of_ble_eq_true rfl) (Nat.le_of_ble_eq_true rfl) dX4_answered_129 ?_
              refine tw_mmin (lo := (-2147483648)) (hi := 1000000000) h_x8 h212 (by decide) (fun x217 e216 h215 => ?_)
              refine lv_istore (lv' := [(4, .int x217), (10, .int 0), (9, .int x198), (8, .int 0), (7, .int x175), (6, .int x9), (5, .ref (base + b6)), (0, .ref (base + a0)), (1, .int a1), (2, .int a2), (3, .int a3)]) hx hb dX4_answered_132 hl (by decide) rfl (fun ls hl => ?_)
              refine tw_iinc (lv' := fun x220 => [(6, .int x220), (4, .int x217), (10, .int 0), (9, .int x198), (8, .int 0), (7, .int x175), (5, .ref (base + b6)), (0, .ref (base + a0)), (1, .int a1), (2, .int a2), (3, .int a3)]) (lo := 1) (hi := 3) hx hb dX4_answered_134 hl (k := 5) rfl h19 (by decide) ⟨by decide, by decide⟩ ⟨by decide, by decide⟩ (by decide) (fun _ => rfl) (fun x220 ls e219 h218 hl => ?_)
              refine lv_goto (tgt := 17) hx hb dX4_answered_137 (by decide) ?_
              have hm221 : 3 - x220.toInt < (n_10 : Int) := by
                have := (h_a1).1; have := (h_a1).2; have := (h_a2).1; have := (h_a2).2; have := (h_a3).1; have := (h_a3).2; have := (h218).1; have := (h218).2; have := (h19).1; have := (h19).2; omega
              exact ih_10 x217 x220 M208 R209 J207 H locs _ h215 (iv_mono h218 (by decide) (by decide)) hm221 hS (lv_sub hl [1, 0, 6, 7, 8, 9, 10] rfl)
            · have q222 : x198.toInt = 1 := ti_eq c199
              have h223 : iv 1 1 x198 := ⟨by have := (h_x198).1; have := ((iv_c (c := 1) (n := 1) (by decide))).1; omega, by have := (h_x198).2; have := ((iv_c (c := 1) (n := 1) (by decide))).2; omega⟩
              refine lv_aload_n hx hb dX4_answered_105 rfl (lv_at hl 6 rfl) ?_
              refine tw_getr hx hb hW hown hK hS f_X4_16_4 hz_a0 hk_a0 (t := 14) (n := 4) rfl dX4_answered_106 (fun b224 k225 hz_b224 hk_b224 hn_b224 => ?_)
              have hn_b224 := hn_b224 (by decide)
              refine lv_iload_n hx hb dX4_answered_109 rfl (lv_at hl 7 rfl) ?_
              refine tw_iald hx hb hK hS hz_b224 hk_b224 (Or.inl rfl) hn_b224 (lo := (-2147483648)) (hi := 2147483647) h_a1 ⟨by decide, by decide⟩ rg_u14 dX4_answered_110 (fun x228 k227 h226 => ?_)
              refine lv_goto (tgt := 115) hx hb dX4_answered_111 (by decide) ?_
              refine lv_istore (lv' := [(10, .int x228), (9, .int x198), (8, .int 0), (7, .int x175), (4, .int x8), (6, .int x9), (5, .ref (base + b6)), (0, .ref (base + a0)), (1, .int a1), (2, .int a2), (3, .int a3)]) hx hb dX4_answered_115 hl (by decide) rfl (fun ls hl => ?_)
              refine lv_iload hx hb dX4_answered_117 (lv_at hl 4 rfl) ?_
              refine lv_iload hx hb dX4_answered_119 (lv_at hl 0 rfl) ?_
              refine lv_aload_n hx hb dX4_answered_121 rfl (lv_at hl 7 rfl) ?_
              refine lv_iload_n hx hb dX4_answered_122 rfl (lv_at hl 8 rfl) ?_
              refine lv_iconst (v := 1) hx hb dX4_answered_123 (by decide) ?_
              refine tw_iadd (lo := 1) (hi := 4) hx hb h_a1 (iv_c (c := 1) (n := 1) (by decide)) ⟨by decide, by decide⟩ ⟨by decide, by decide⟩ dX4_answered_124 (fun x231 e230 h229 => ?_)
              have e230 : x231.toInt = a1.toInt + 1 := e230
              have hm232 : 4 - x231.toInt < (d : Int) := by
                have := (h_a1).1; have := (h_a1).2; have := (h_a2).1; have := (h_a2).2; have := (h_a3).1; have := (h_a3).2; have := (h229).1; have := (h229).2; have := (h3).1; have := (h3).2; omega
              refine tw_goi hS (md_runV (As := [.int x231]) (rest := [.int x228, .int x8]) hx hb hml hown hW hK hT hS.1 (ih M195 R11 J194 hS.2.1 a0 hz_a0 hk_a0 x231 (iv_mono h229 (by decide) (by decide)) hm232) s_X4_63 ⟨rfl, rfl, ⟨by simp only [md_rm]; omega, by simp only [md_rm]; omega⟩, ⟨Nat.le_of_ble_eq_true rfl, Nat.le_of_ble_eq_true rfl⟩⟩ hz_a0 hk_a0 (by decide) rfl rfl hl.1 rfl (Nat.le_of_ble_eq_true rfl) dX4_answered_125) rfl rfl (fun x239 H locs M236 R237 J235 hS f233 g234 E238 => ?_)
              have h_x239 := E238
              clear E238
              refine lv_iadd hx hb dX4_answered_128 ?_
              refine tw_top (fun x241 => ?_)
              have h240 := iv_any x241
              refine va_mmin hx hb (hml.trans hl.1.symm) hown (hW _ w_5_93 rfl) (hW _ w_3_86 rfl) (hW _ w_1_13 rfl) (hW _ w_3_87 rfl) (by simp only [md_rm]; omega) (Nat.le_trans (m := 40) (Nat.le_of_ble_eq_true rfl) (by simp only [md_rm]; omega)) (Nat.le_of_ble_eq_true rfl) (Nat.le_of_ble_eq_true rfl) dX4_answered_129 ?_
              refine tw_mmin (lo := (-2147483648)) (hi := 1000000000) h_x8 h240 (by decide) (fun x244 e243 h242 => ?_)
              refine lv_istore (lv' := [(4, .int x244), (10, .int x228), (9, .int x198), (8, .int 0), (7, .int x175), (6, .int x9), (5, .ref (base + b6)), (0, .ref (base + a0)), (1, .int a1), (2, .int a2), (3, .int a3)]) hx hb dX4_answered_132 hl (by decide) rfl (fun ls hl => ?_)
              refine tw_iinc (lv' := fun x247 => [(6, .int x247), (4, .int x244), (10, .int x228), (9, .int x198), (8, .int 0), (7, .int x175), (5, .ref (base + b6)), (0, .ref (base + a0)), (1, .int a1), (2, .int a2), (3, .int a3)]) (lo := 1) (hi := 3) hx hb dX4_answered_134 hl (k := 5) rfl h19 (by decide) ⟨by decide, by decide⟩ ⟨by decide, by decide⟩ (by decide) (fun _ => rfl) (fun x247 ls e246 h245 hl => ?_)
              refine lv_goto (tgt := 17) hx hb dX4_answered_137 (by decide) ?_
              have hm248 : 3 - x247.toInt < (n_10 : Int) := by
                have := (h_a1).1; have := (h_a1).2; have := (h_a2).1; have := (h_a2).2; have := (h_a3).1; have := (h_a3).2; have := (h245).1; have := (h245).2; have := (h19).1; have := (h19).2; omega
              exact ih_10 x244 x247 M236 R237 J235 H locs _ h242 (iv_mono h245 (by decide) (by decide)) hm248 hS (lv_sub hl [1, 0, 6, 7, 8, 9, 10] rfl)
          · have q249 : x177.toInt = 0 := ti_eq c178
            have h250 : iv 0 0 x177 := ⟨by have := (h176).1; have := ((iv_c (c := 0) (n := 0) (by decide))).1; omega, by have := (h176).2; have := ((iv_c (c := 0) (n := 0) (by decide))).2; omega⟩
            refine lv_aload_n hx hb dX4_answered_55 rfl (lv_at hl 4 rfl) ?_
            refine tw_getk hx hb hW hown hK hS f_X4_32_4 hz_a0 hk_a0 (v := x175) k174 dX4_answered_56 ?_
            refine lv_goto (tgt := 63) hx hb dX4_answered_59 (by decide) ?_
            refine lv_istore (lv' := [(8, .int x175), (7, .int x175), (4, .int x8), (6, .int x9), (5, .ref (base + b6)), (0, .ref (base + a0)), (1, .int a1), (2, .int a2), (3, .int a3)]) hx hb dX4_answered_63 hl (by decide) rfl (fun ls hl => ?_)
            refine lv_aload_n hx hb dX4_answered_65 rfl (lv_at hl 5 rfl) ?_
            have k251 : R11 a0 2 = some b1 := (Fr.kp (k := 2) g14 hk_a0 rfl).trans k2
            refine tw_getrk hx hb hW hown hK hS f_X4_13_4 hz_a0 hk_a0 (b := b1) k251 dX4_answered_66 ?_
            refine lv_iload_n hx hb dX4_answered_69 rfl (lv_at hl 6 rfl) ?_
            refine tw_row hx hb hK hS hz_b1 hk_b1 hn_b1 h_a1 ⟨by decide, by decide⟩ dX4_answered_70 (fun b252 k253 hz_b252 hk_b252 hn_b252 => ?_)
            refine lv_iconst (v := 0) hx hb dX4_answered_71 (by decide) ?_
            refine lv_aload hx hb dX4_answered_72 (lv_at hl 4 rfl) ?_
            refine lv_iconst (v := 0) hx hb dX4_answered_74 (by decide) ?_
            refine lv_bipush (v := 10) hx hb dX4_answered_75 (by decide) ?_
            refine tw_copy hx hb (hml.trans hl.1.symm) hW hown hK hS (md_okc w_5_99 rfl (md_okc w_3_226 rfl (md_okc w_3_225 rfl (md_okc w_1_18 rfl (md_ok0))))) hz_b6 hk_b6 (Or.inr (by decide)) hz_b252 hk_b252 (Or.inr (by decide)) hn_b6 hn_b252 (by have := ((iv_c (c := 10) (n := 10) (by decide))).1; have := ((iv_c (c := 10) (n := 10) (by decide))).2; have := ((iv_c (c := 0) (n := 0) (by decide))).1; have := ((iv_c (c := 0) (n := 0) (by decide))).2; have := ((iv_c (c := 0) (n := 0) (by decide))).1; have := ((iv_c (c := 0) (n := 0) (by decide))).2; omega) (by have := ((iv_c (c := 10) (n := 10) (by decide))).1; have := ((iv_c (c := 10) (n := 10) (by decide))).2; have := ((iv_c (c := 0) (n := 0) (by decide))).1; have := ((iv_c (c := 0) (n := 0) (by decide))).2; have := ((iv_c (c := 0) (n := 0) (by decide))).1; have := ((iv_c (c := 0) (n := 0) (by decide))).2; omega) (by have := ((iv_c (c := 10) (n := 10) (by decide))).1; have := ((iv_c (c := 10) (n := 10) (by decide))).2; have := ((iv_c (c := 0) (n := 0) (by decide))).1; have := ((iv_c (c := 0) (n := 0) (by decide))).2; have := ((iv_c (c := 0) (n := 0) (by decide))).1; have := ((iv_c (c := 0) (n := 0) (by decide))).2; omega) (by have := ((iv_c (c := 10) (n := 10) (by decide))).1; have := ((iv_c (c := 10) (n := 10) (by decide))).2; have := ((iv_c (c := 0) (n := 0) (by decide))).1; have := ((iv_c (c := 0) (n := 0) (by decide))).2; have := ((iv_c (c := 0) (n := 0) (by decide))).1; have := ((iv_c (c := 0) (n := 0) (by decide))).2; omega) (by have := ((iv_c (c := 10) (n := 10) (by decide))).1; have := ((iv_c (c := 10) (n := 10) (by decide))).2; have := ((iv_c (c := 0) (n := 0) (by decide))).1; have := ((iv_c (c := 0) (n := 0) (by decide))).2; have := ((iv_c (c := 0) (n := 0) (by decide))).1; have := ((iv_c (c := 0) (n := 0) (by decide))).2; omega) (fun _ _ => ⟨by show (-2147483648 : Int) ≤ -2147483648; decide, by show (2147483647 : Int) ≤ 2147483647; decide⟩) (by simp only [md_rm]; omega) (Nat.le_trans (m := 40) (Nat.le_of_ble_eq_true rfl) (by simp only [md_rm]; omega)) rfl dX4_answered_77 (fun H locs M256 hS f254 k255 => ?_)
            refine lv_aload_n hx hb dX4_answered_80 rfl (lv_at hl 5 rfl) ?_
            refine tw_getr hx hb hW hown hK hS f_X4_24_4 hz_a0 hk_a0 (t := 6) (n := 0) rfl dX4_answered_81 (fun b257 k258 hz_b257 hk_b257 hn_b257 => ?_)
            refine lv_aload hx hb dX4_answered_84 (lv_at hl 4 rfl) ?_
            refine lv_iload_n hx hb dX4_answered_86 rfl (lv_at hl 7 rfl) ?_
            refine lv_iload hx hb dX4_answered_87 (lv_at hl 1 rfl) ?_
            refine lv_ior hx hb dX4_answered_89 ?_
            refine tw_top (fun x260 => ?_)
            have h259 := iv_any x260
            refine lv_iload_n hx hb dX4_answered_90 rfl (lv_at hl 8 rfl) ?_
            refine lv_iload hx hb dX4_answered_91 (lv_at hl 0 rfl) ?_
            refine lv_ior hx hb dX4_answered_93 ?_
            refine tw_top (fun x262 => ?_)
            have h261 := iv_any x262
            refine tw_goi hS (md_runV (As := [.ref (base + b6), .int x260, .int x262]) (rest := []) hx hb hml hown hW hK hT hS.1 (t_X5_hold l D cy tx base Z K N M256 R11 J12 hS.2.1 b257 hz_b257 hk_b257 b6 hz_b6 hk_b6 hn_b6 x260 h259 x262 h261) s_X4_101 ⟨rfl, rfl, ⟨by simp only [md_rm]; omega, by simp only [md_rm]; omega⟩, ⟨Nat.le_of_ble_eq_true rfl, Nat.le_of_ble_eq_true rfl⟩⟩ hz_b257 hk_b257 (by decide) rfl rfl hl.1 rfl (Nat.le_of_ble_eq_true rfl) dX4_answered_94) rfl rfl (fun x269 H locs M266 R267 J265 hS f263 g264 E268 => ?_)
            have eR267 := Fr.nil g264 rfl
            subst eR267
            have h_x269 := E268
            clear E268
            refine lv_istore (lv' := [(9, .int x269), (8, .int x175), (7, .int x175), (4, .int x8), (6, .int x9), (5, .ref (base + b6)), (0, .ref (base + a0)), (1, .int a1), (2, .int a2), (3, .int a3)]) hx hb dX4_answered_97 hl (by decide) rfl (fun ls hl => ?_)
            refine lv_iload hx hb dX4_answered_99 (lv_at hl 0 rfl) ?_
            refine lv_iconst (v := 1) hx hb dX4_answered_101 (by decide) ?_
            refine lv_icmp_ne (tgt := 114) hx hb dX4_answered_102 (by decide) (fun c270 => ?_) (fun c270 => ?_)
            · have q271 : ¬ x269.toInt = 1 := ti_ne c270
              refine lv_iconst (v := 0) hx hb dX4_answered_114 (by decide) ?_
              refine lv_istore (lv' := [(10, .int 0), (9, .int x269), (8, .int x175), (7, .int x175), (4, .int x8), (6, .int x9), (5, .ref (base + b6)), (0, .ref (base + a0)), (1, .int a1), (2, .int a2), (3, .int a3)]) hx hb dX4_answered_115 hl (by decide) rfl (fun ls hl => ?_)
              refine lv_iload hx hb dX4_answered_117 (lv_at hl 4 rfl) ?_
              refine lv_iload hx hb dX4_answered_119 (lv_at hl 0 rfl) ?_
              refine lv_aload_n hx hb dX4_answered_121 rfl (lv_at hl 7 rfl) ?_
              refine lv_iload_n hx hb dX4_answered_122 rfl (lv_at hl 8 rfl) ?_
              refine lv_iconst (v := 1) hx hb dX4_answered_123 (by decide) ?_
              refine tw_iadd (lo := 1) (hi := 4) hx hb h_a1 (iv_c (c := 1) (n := 1) (by decide)) ⟨by decide, by decide⟩ ⟨by decide, by decide⟩ dX4_answered_124 (fun x274 e273 h272 => ?_)
              have e273 : x274.toInt = a1.toInt + 1 := e273
              have hm275 : 4 - x274.toInt < (d : Int) := by
                have := (h_a1).1; have := (h_a1).2; have := (h_a2).1; have := (h_a2).2; have := (h_a3).1; have := (h_a3).2; have := (h272).1; have := (h272).2; have := (h3).1; have := (h3).2; omega
              refine tw_goi hS (md_runV (As := [.int x274]) (rest := [.int 0, .int x8]) hx hb hml hown hW hK hT hS.1 (ih M266 R11 J265 hS.2.1 a0 hz_a0 hk_a0 x274 (iv_mono h272 (by decide) (by decide)) hm275) s_X4_63 ⟨rfl, rfl, ⟨by simp only [md_rm]; omega, by simp only [md_rm]; omega⟩, ⟨Nat.le_of_ble_eq_true rfl, Nat.le_of_ble_eq_true rfl⟩⟩ hz_a0 hk_a0 (by decide) rfl rfl hl.1 rfl (Nat.le_of_ble_eq_true rfl) dX4_answered_125) rfl rfl (fun x282 H locs M279 R280 J278 hS f276 g277 E281 => ?_)
              have h_x282 := E281
              clear E281
              refine tw_iadd (lo := (-1000000000)) (hi := 1000000000) hx hb (iv_c (c := 0) (n := 0) (by decide)) h_x282 ⟨by decide, by decide⟩ ⟨by decide, by decide⟩ dX4_answered_128 (fun x285 e284 h283 => ?_)
              have e284 : x285.toInt = 0 + x282.toInt := e284
              refine va_mmin hx hb (hml.trans hl.1.symm) hown (hW _ w_5_93 rfl) (hW _ w_3_86 rfl) (hW _ w_1_13 rfl) (hW _ w_3_87 rfl) (by simp only [md_rm]; omega) (Nat.le_trans (m := 40) (Nat.le_of_ble_eq_true rfl) (by simp only [md_rm]; omega)) (Nat.le_of_ble_eq_true rfl) (Nat.le_of_ble_eq_true rfl) dX4_answered_129 ?_
              refine tw_mmin (lo := (-2147483648)) (hi := 1000000000) h_x8 h283 (by decide) (fun x288 e287 h286 => ?_)
              refine lv_istore (lv' := [(4, .int x288), (10, .int 0), (9, .int x269), (8, .int x175), (7, .int x175), (6, .int x9), (5, .ref (base + b6)), (0, .ref (base + a0)), (1, .int a1), (2, .int a2), (3, .int a3)]) hx hb dX4_answered_132 hl (by decide) rfl (fun ls hl => ?_)
              refine tw_iinc (lv' := fun x291 => [(6, .int x291), (4, .int x288), (10, .int 0), (9, .int x269), (8, .int x175), (7, .int x175), (5, .ref (base + b6)), (0, .ref (base + a0)), (1, .int a1), (2, .int a2), (3, .int a3)]) (lo := 1) (hi := 3) hx hb dX4_answered_134 hl (k := 5) rfl h19 (by decide) ⟨by decide, by decide⟩ ⟨by decide, by decide⟩ (by decide) (fun _ => rfl) (fun x291 ls e290 h289 hl => ?_)
              refine lv_goto (tgt := 17) hx hb dX4_answered_137 (by decide) ?_
              have hm292 : 3 - x291.toInt < (n_10 : Int) := by
                have := (h_a1).1; have := (h_a1).2; have := (h_a2).1; have := (h_a2).2; have := (h_a3).1; have := (h_a3).2; have := (h289).1; have := (h289).2; have := (h19).1; have := (h19).2; omega
              exact ih_10 x288 x291 M279 R280 J278 H locs _ h286 (iv_mono h289 (by decide) (by decide)) hm292 hS (lv_sub hl [1, 0, 6, 7, 8, 9, 10] rfl)
            · have q293 : x269.toInt = 1 := ti_eq c270
              have h294 : iv 1 1 x269 := ⟨by have := (h_x269).1; have := ((iv_c (c := 1) (n := 1) (by decide))).1; omega, by have := (h_x269).2; have := ((iv_c (c := 1) (n := 1) (by decide))).2; omega⟩
              refine lv_aload_n hx hb dX4_answered_105 rfl (lv_at hl 6 rfl) ?_
              refine tw_getr hx hb hW hown hK hS f_X4_16_4 hz_a0 hk_a0 (t := 14) (n := 4) rfl dX4_answered_106 (fun b295 k296 hz_b295 hk_b295 hn_b295 => ?_)
              have hn_b295 := hn_b295 (by decide)
              refine lv_iload_n hx hb dX4_answered_109 rfl (lv_at hl 7 rfl) ?_
              refine tw_iald hx hb hK hS hz_b295 hk_b295 (Or.inl rfl) hn_b295 (lo := (-2147483648)) (hi := 2147483647) h_a1 ⟨by decide, by decide⟩ rg_u14 dX4_answered_110 (fun x299 k298 h297 => ?_)
              refine lv_goto (tgt := 115) hx hb dX4_answered_111 (by decide) ?_
              refine lv_istore (lv' := [(10, .int x299), (9, .int x269), (8, .int x175), (7, .int x175), (4, .int x8), (6, .int x9), (5, .ref (base + b6)), (0, .ref (base + a0)), (1, .int a1), (2, .int a2), (3, .int a3)]) hx hb dX4_answered_115 hl (by decide) rfl (fun ls hl => ?_)
              refine lv_iload hx hb dX4_answered_117 (lv_at hl 4 rfl) ?_
              refine lv_iload hx hb dX4_answered_119 (lv_at hl 0 rfl) ?_
              refine lv_aload_n hx hb dX4_answered_121 rfl (lv_at hl 7 rfl) ?_
              refine lv_iload_n hx hb dX4_answered_122 rfl (lv_at hl 8 rfl) ?_
              refine lv_iconst (v := 1) hx hb dX4_answered_123 (by decide) ?_
              refine tw_iadd (lo := 1) (hi := 4) hx hb h_a1 (iv_c (c := 1) (n := 1) (by decide)) ⟨by decide, by decide⟩ ⟨by decide, by decide⟩ dX4_answered_124 (fun x302 e301 h300 => ?_)
              have e301 : x302.toInt = a1.toInt + 1 := e301
              have hm303 : 4 - x302.toInt < (d : Int) := by
                have := (h_a1).1; have := (h_a1).2; have := (h_a2).1; have := (h_a2).2; have := (h_a3).1; have := (h_a3).2; have := (h300).1; have := (h300).2; have := (h3).1; have := (h3).2; omega
              refine tw_goi hS (md_runV (As := [.int x302]) (rest := [.int x299, .int x8]) hx hb hml hown hW hK hT hS.1 (ih M266 R11 J265 hS.2.1 a0 hz_a0 hk_a0 x302 (iv_mono h300 (by decide) (by decide)) hm303) s_X4_63 ⟨rfl, rfl, ⟨by simp only [md_rm]; omega, by simp only [md_rm]; omega⟩, ⟨Nat.le_of_ble_eq_true rfl, Nat.le_of_ble_eq_true rfl⟩⟩ hz_a0 hk_a0 (by decide) rfl rfl hl.1 rfl (Nat.le_of_ble_eq_true rfl) dX4_answered_125) rfl rfl (fun x310 H locs M307 R308 J306 hS f304 g305 E309 => ?_)
              have h_x310 := E309
              clear E309
              refine lv_iadd hx hb dX4_answered_128 ?_
              refine tw_top (fun x312 => ?_)
              have h311 := iv_any x312
              refine va_mmin hx hb (hml.trans hl.1.symm) hown (hW _ w_5_93 rfl) (hW _ w_3_86 rfl) (hW _ w_1_13 rfl) (hW _ w_3_87 rfl) (by simp only [md_rm]; omega) (Nat.le_trans (m := 40) (Nat.le_of_ble_eq_true rfl) (by simp only [md_rm]; omega)) (Nat.le_of_ble_eq_true rfl) (Nat.le_of_ble_eq_true rfl) dX4_answered_129 ?_
              refine tw_mmin (lo := (-2147483648)) (hi := 1000000000) h_x8 h311 (by decide) (fun x315 e314 h313 => ?_)
              refine lv_istore (lv' := [(4, .int x315), (10, .int x299), (9, .int x269), (8, .int x175), (7, .int x175), (6, .int x9), (5, .ref (base + b6)), (0, .ref (base + a0)), (1, .int a1), (2, .int a2), (3, .int a3)]) hx hb dX4_answered_132 hl (by decide) rfl (fun ls hl => ?_)
              refine tw_iinc (lv' := fun x318 => [(6, .int x318), (4, .int x315), (10, .int x299), (9, .int x269), (8, .int x175), (7, .int x175), (5, .ref (base + b6)), (0, .ref (base + a0)), (1, .int a1), (2, .int a2), (3, .int a3)]) (lo := 1) (hi := 3) hx hb dX4_answered_134 hl (k := 5) rfl h19 (by decide) ⟨by decide, by decide⟩ ⟨by decide, by decide⟩ (by decide) (fun _ => rfl) (fun x318 ls e317 h316 hl => ?_)
              refine lv_goto (tgt := 17) hx hb dX4_answered_137 (by decide) ?_
              have hm319 : 3 - x318.toInt < (n_10 : Int) := by
                have := (h_a1).1; have := (h_a1).2; have := (h_a2).1; have := (h_a2).2; have := (h_a3).1; have := (h_a3).2; have := (h316).1; have := (h316).2; have := (h19).1; have := (h19).2; omega
              exact ih_10 x315 x318 M307 R308 J306 H locs _ h313 (iv_mono h316 (by decide) (by decide)) hm319 hS (lv_sub hl [1, 0, 6, 7, 8, 9, 10] rfl)
  have hm320 : 3 - (0 : Int32).toInt < (((4 : Nat) : Int) : Int) := by
    have := (h_a1).1; have := (h_a1).2; have := (h_a2).1; have := (h_a2).2; have := (h_a3).1; have := (h_a3).2; have : (0 : Int32).toInt = 0 := (by decide); omega
  exact W17_10 4 1000000000 0 Ma Ra Ja s.heap [] _ (iv_mono (iv_c (c := 1000000000) (n := 1000000000) (by decide)) (by decide) (by decide)) (iv_mono (iv_c (c := 0) (n := 0) (by decide)) (by decide) (by decide)) hm320 hS (lv_sub hl [2, 0, 1, 3, 4, 5, 6] rfl)
