def Lt_X5_ask : WL := [(6, 8, 14)]
def LRt_X5_ask : WL := []
set_option maxRecDepth 100000 in
set_option maxHeartbeats 4000000 in
theorem t_X5_ask (l : Launch) (D : va_G) (cy : Nat → ClassId) (tx : (Nat → Nat) × (Nat → Nat)) (base Z : Nat) (K N : Nat → Nat) (Ma : MT) (Ra : RT) (Ja : JT) (hTy : Ty Z K N Ma Ra) (a0 : Nat) (hz_a0 : a0 < Z) (hk_a0 : K a0 = 6) (a1 : Int32) (h_a1 : iv (-2147483648) 2147483647 a1) (row_a0 : RowOK N Ma Ra a0) : Met l yX5_ask [Cond.code yX5_ask cX5_ask 6 none] (md_rm 4 0 0) (va_Pc [.ref (base + a0), .int a1] (md_U D cy tx base Z K N Ma Ra Ja)) (mQv D cy tx base (fun u => TP Z K N Lt_X5_ask LRt_X5_ask Ma Ra u ∧ (True))) 0 0 (fun q => base ≤ q) := by
  refine tw_ofW (L := Lt_X5_ask) (LR := LRt_X5_ask) (by decide) (Nat.le_of_ble_eq_true rfl) hTy ?_
  intro p e s m args below meth c Q ls hx hb hr hlocks hown hml hW hK hT hS hQ hl
  have hl : lv_has ls 6 [(0, .ref (base + a0)), (1, .int a1)] := hl
  refine lv_aload_n hx hb dX5_ask_0 rfl (lv_at hl 0 rfl) ?_
  refine lv_iconst (v := 0) hx hb dX5_ask_1 (by decide) ?_
  refine tw_puti hx hb hW hown hK hS f_X5_47_5 hz_a0 hk_a0 rfl rfl (lo := (-2147483648)) (hi := 2147483647) rfl (iv_mono (iv_c (c := 0) (n := 0) (by decide)) (by decide) (by decide)) rfl dX5_ask_2 (fun H locs M3 hS k1 f2 => ?_)
  refine lv_aload_n hx hb dX5_ask_5 rfl (lv_at hl 0 rfl) ?_
  refine lv_iconst (v := 0) hx hb dX5_ask_6 (by decide) ?_
  refine tw_puti hx hb hW hown hK hS f_X5_50_5 hz_a0 hk_a0 rfl rfl (lo := (-2147483648)) (hi := 2147483647) rfl (iv_mono (iv_c (c := 0) (n := 0) (by decide)) (by decide) (by decide)) rfl dX5_ask_7 (fun H locs M6 hS k4 f5 => ?_)
  refine lv_iconst (v := 0) hx hb dX5_ask_10 (by decide) ?_
  refine lv_istore_n (lv' := [(2, .int 0), (0, .ref (base + a0)), (1, .int a1)]) hx hb dX5_ask_11 rfl hl (by decide) rfl (fun ls hl => ?_)
  have W12_8 : ∀ (n_8 : Nat) (x7 : Int32) (M8 : MT) (R9 : RT) (J10 : JT) (H : Heap) (locs : List Loc) (ls : Array Slot) (h_x7 : iv 0 10 x7) (hm_8 : 10 - x7.toInt < (n_8 : Int)) (hS : SB D cy base Z K N Lt_X5_ask LRt_X5_ask Ma Ra M8 R9 J10 s H locs) (hl : lv_has ls 6 [(2, .int x7), (0, .ref (base + a0)), (1, .int a1)]), W p l e (md_rm 4 0 0) s m args below meth c H locs 0 0 Q (F0 m 12 ls []) := by
    intro n_8
    induction n_8 with
    | zero =>
      intro x7 M8 R9 J10 H locs ls h_x7 hm_8 hS hl
      exfalso
      have := (h_a1).1; have := (h_a1).2; have := (h_x7).1; have := (h_x7).2; omega
    | succ n_8 ih_8 =>
      intro x7 M8 R9 J10 H locs ls h_x7 hm_8 hS hl
      have f11 := hS.2.2.1
      have g12 := hS.2.2.2
      refine lv_iload_n hx hb dX5_ask_12 rfl (lv_at hl 0 rfl) ?_
      refine lv_aload_n hx hb dX5_ask_13 rfl (lv_at hl 1 rfl) ?_
      refine tw_getr hx hb hW hown hK hS f_X5_9_5 hz_a0 hk_a0 (t := 10) (n := 0) rfl dX5_ask_14 (fun b13 k14 hz_b13 hk_b13 hn_b13 => ?_)
      refine tw_geti hx hb hW hown hK hS f_X5_53_9 hz_b13 hk_b13 (lo := (-2147483648)) (hi := 10) rfl dX5_ask_17 (fun x17 k16 h15 => ?_)
      refine lv_icmp_ge (tgt := 160) hx hb dX5_ask_20 (by decide) (fun c18 => ?_) (fun c18 => ?_)
      · have q19 : x17.toInt ≤ x7.toInt := ti_le c18
        exact tw_endv hx hb hr hlocks hK hT hS hQ (trivial) dX5_ask_160
      · have q20 : x7.toInt < x17.toInt := ti_nle c18
        have h21 : iv 0 9 x7 := iv_ltL (y := x17) h_x7 h15 q20 (by decide)
        have h22 : iv 1 10 x17 := iv_gtL (y := x7) h15 h_x7 q20 (by decide)
        refine lv_iload_n hx hb dX5_ask_23 rfl (lv_at hl 2 rfl) ?_
        refine lv_iload_n hx hb dX5_ask_24 rfl (lv_at hl 0 rfl) ?_
        refine lv_ishr hx hb dX5_ask_25 ?_
        refine tw_top (fun x24 => ?_)
        have h23 := iv_any x24
        refine lv_iconst (v := 1) hx hb dX5_ask_26 (by decide) ?_
        refine tw_iand (hi := 1) hx hb (iv_mono (iv_c (c := 1) (n := 1) (by decide)) (lo := 0) (hi := 1) (by decide) (by decide)) (by decide) dX5_ask_27 (fun x27 h25 => ?_)
        refine lv_iconst (v := 1) hx hb dX5_ask_28 (by decide) ?_
        refine lv_icmp_ne (tgt := 154) hx hb dX5_ask_29 (by decide) (fun c28 => ?_) (fun c28 => ?_)
        · have q29 : ¬ x27.toInt = 1 := ti_ne c28
          have h30 : iv 0 0 x27 := ⟨by have := (h25).1; have := ((iv_c (c := 1) (n := 1) (by decide))).1; have := ((iv_c (c := 1) (n := 1) (by decide))).2; omega, by have := (h25).2; have := ((iv_c (c := 1) (n := 1) (by decide))).1; have := ((iv_c (c := 1) (n := 1) (by decide))).2; omega⟩
          refine tw_iinc (lv' := fun x33 => [(2, .int x33), (0, .ref (base + a0)), (1, .int a1)]) (lo := 1) (hi := 10) hx hb dX5_ask_154 hl (k := 0) rfl h21 (by decide) ⟨by decide, by decide⟩ ⟨by decide, by decide⟩ (by decide) (fun _ => rfl) (fun x33 ls e32 h31 hl => ?_)
          refine lv_goto (tgt := 12) hx hb dX5_ask_157 (by decide) ?_
          have hm34 : 10 - x33.toInt < (n_8 : Int) := by
            have := (h_a1).1; have := (h_a1).2; have := (h31).1; have := (h31).2; have := (h21).1; have := (h21).2; omega
          exact ih_8 x33 M8 R9 J10 H locs _ (iv_mono h31 (by decide) (by decide)) hm34 hS hl
        · have q35 : x27.toInt = 1 := ti_eq c28
          have h36 : iv 1 1 x27 := ⟨by have := (h25).1; have := ((iv_c (c := 1) (n := 1) (by decide))).1; omega, by have := (h25).2; have := ((iv_c (c := 1) (n := 1) (by decide))).2; omega⟩
          refine lv_aload_n hx hb dX5_ask_32 rfl (lv_at hl 1 rfl) ?_
          refine tw_getrk hx hb hW hown hK hS f_X5_9_5 hz_a0 hk_a0 (b := b13) k14 dX5_ask_33 ?_
          refine tw_getr hx hb hW hown hK hS f_X5_56_9 hz_b13 hk_b13 (t := 14) (n := 10) rfl dX5_ask_36 (fun b37 k38 hz_b37 hk_b37 hn_b37 => ?_)
          have hn_b37 := hn_b37 (by decide)
          refine lv_iload_n hx hb dX5_ask_39 rfl (lv_at hl 0 rfl) ?_
          refine tw_iald hx hb hK hS hz_b37 hk_b37 (Or.inl rfl) hn_b37 (lo := (-2147483648)) (hi := 2147483647) h21 ⟨by decide, by decide⟩ rg_u14 dX5_ask_40 (fun x41 k40 h39 => ?_)
          refine lv_istore_n (lv' := [(3, .int x41), (2, .int x7), (0, .ref (base + a0)), (1, .int a1)]) hx hb dX5_ask_41 rfl hl (by decide) rfl (fun ls hl => ?_)
          refine lv_iload_n hx hb dX5_ask_42 rfl (lv_at hl 0 rfl) ?_
          have J68_42 : ∀  (M42 : MT) (R43 : RT) (J44 : JT) (H : Heap) (locs : List Loc) (ls : Array Slot) (hS : SB D cy base Z K N Lt_X5_ask LRt_X5_ask Ma Ra M42 R43 J44 s H locs) (hl : lv_has ls 6 [(3, .int x41), (2, .int x7), (0, .ref (base + a0)), (1, .int a1)]), W p l e (md_rm 4 0 0) s m args below meth c H locs 0 0 Q (F0 m 68 ls []) := by
            intro  M42 R43 J44 H locs ls  hS hl
            have f45 := hS.2.2.1
            have g46 := hS.2.2.2
            refine lv_iconst (v := 0) hx hb dX5_ask_68 (by decide) ?_
            refine lv_istore (lv' := [(4, .int 0), (3, .int x41), (2, .int x7), (0, .ref (base + a0)), (1, .int a1)]) hx hb dX5_ask_69 hl (by decide) rfl (fun ls hl => ?_)
            refine lv_iload hx hb dX5_ask_71 (lv_at hl 0 rfl) ?_
            refine lv_if_eq (tgt := 90) hx hb dX5_ask_73 (by decide) (fun _ => ?_) (fun h => absurd h (by decide))
            refine lv_iconst (v := (-1)) hx hb dX5_ask_90 (by decide) ?_
            refine lv_istore (lv' := [(5, .int (-1)), (4, .int 0), (3, .int x41), (2, .int x7), (0, .ref (base + a0)), (1, .int a1)]) hx hb dX5_ask_91 hl (by decide) rfl (fun ls hl => ?_)
            refine lv_iload hx hb dX5_ask_93 (lv_at hl 0 rfl) ?_
            refine lv_iconst (v := (-1)) hx hb dX5_ask_95 (by decide) ?_
            have J116_48 : ∀ (x47 : Int32) (M48 : MT) (R49 : RT) (J50 : JT) (H : Heap) (locs : List Loc) (ls : Array Slot) (h_x47 : iv (-134217728) 134217727 x47) (hS : SB D cy base Z K N Lt_X5_ask LRt_X5_ask Ma Ra M48 R49 J50 s H locs) (hl : lv_has ls 6 [(5, .int x47), (4, .int 0), (3, .int x41), (2, .int x7), (0, .ref (base + a0)), (1, .int a1)]), W p l e (md_rm 4 0 0) s m args below meth c H locs 0 0 Q (F0 m 116 ls []) := by
              intro x47 M48 R49 J50 H locs ls h_x47 hS hl
              have f51 := hS.2.2.1
              have g52 := hS.2.2.2
              refine lv_iload hx hb dX5_ask_116 (lv_at hl 0 rfl) ?_
              refine lv_iconst (v := 1) hx hb dX5_ask_118 (by decide) ?_
              refine lv_icmp_ne (tgt := 137) hx hb dX5_ask_119 (by decide) (fun c53 => ?_) (fun c53 => ?_)
              · have q54 : ¬ x47.toInt = 1 := ti_ne c53
                refine lv_iload hx hb dX5_ask_137 (lv_at hl 0 rfl) ?_
                refine lv_if_ne (tgt := 154) hx hb dX5_ask_139 (by decide) (fun c55 => ?_) (fun c55 => ?_)
                · have q56 : ¬ x47.toInt = 0 := ti_ne c55
                  refine tw_iinc (lv' := fun x59 => [(2, .int x59), (5, .int x47), (4, .int 0), (3, .int x41), (0, .ref (base + a0)), (1, .int a1)]) (lo := 1) (hi := 10) hx hb dX5_ask_154 hl (k := 3) rfl h21 (by decide) ⟨by decide, by decide⟩ ⟨by decide, by decide⟩ (by decide) (fun _ => rfl) (fun x59 ls e58 h57 hl => ?_)
                  refine lv_goto (tgt := 12) hx hb dX5_ask_157 (by decide) ?_
                  have hm60 : 10 - x59.toInt < (n_8 : Int) := by
                    have := (h_a1).1; have := (h_a1).2; have := (h57).1; have := (h57).2; have := (h21).1; have := (h21).2; omega
                  exact ih_8 x59 M48 R49 J50 H locs _ (iv_mono h57 (by decide) (by decide)) hm60 hS (lv_sub hl [0, 4, 5] rfl)
                · have q61 : x47.toInt = 0 := ti_eq c55
                  have h62 : iv 0 0 x47 := ⟨by have := (h_x47).1; have := ((iv_c (c := 0) (n := 0) (by decide))).1; omega, by have := (h_x47).2; have := ((iv_c (c := 0) (n := 0) (by decide))).2; omega⟩
                  refine lv_aload_n hx hb dX5_ask_142 rfl (lv_at hl 4 rfl) ?_
                  refine lv_dup hx hb dX5_ask_143 rfl ?_
                  refine tw_geti hx hb hW hown hK hS f_X5_50_5 hz_a0 hk_a0 (lo := (-2147483648)) (hi := 2147483647) rfl dX5_ask_144 (fun x65 k64 h63 => ?_)
                  refine lv_iconst (v := 1) hx hb dX5_ask_147 (by decide) ?_
                  refine lv_iload_n hx hb dX5_ask_148 rfl (lv_at hl 3 rfl) ?_
                  refine lv_ishl hx hb dX5_ask_149 ?_
                  refine tw_top (fun x67 => ?_)
                  have h66 := iv_any x67
                  refine lv_ior hx hb dX5_ask_150 ?_
                  refine tw_top (fun x69 => ?_)
                  have h68 := iv_any x69
                  refine tw_puti hx hb hW hown hK hS f_X5_50_5 hz_a0 hk_a0 rfl rfl (lo := (-2147483648)) (hi := 2147483647) rfl h68 rfl dX5_ask_151 (fun H locs M72 hS k70 f71 => ?_)
                  refine tw_iinc (lv' := fun x75 => [(2, .int x75), (5, .int x47), (4, .int 0), (3, .int x41), (0, .ref (base + a0)), (1, .int a1)]) (lo := 1) (hi := 10) hx hb dX5_ask_154 hl (k := 3) rfl h21 (by decide) ⟨by decide, by decide⟩ ⟨by decide, by decide⟩ (by decide) (fun _ => rfl) (fun x75 ls e74 h73 hl => ?_)
                  refine lv_goto (tgt := 12) hx hb dX5_ask_157 (by decide) ?_
                  have hm76 : 10 - x75.toInt < (n_8 : Int) := by
                    have := (h_a1).1; have := (h_a1).2; have := (h21).1; have := (h21).2; have := (h73).1; have := (h73).2; omega
                  exact ih_8 x75 M72 R49 J50 H locs _ (iv_mono h73 (by decide) (by decide)) hm76 hS (lv_sub hl [0, 4, 5] rfl)
              · have q77 : x47.toInt = 1 := ti_eq c53
                have h78 : iv 1 1 x47 := ⟨by have := (h_x47).1; have := ((iv_c (c := 1) (n := 1) (by decide))).1; omega, by have := (h_x47).2; have := ((iv_c (c := 1) (n := 1) (by decide))).2; omega⟩
                refine lv_aload_n hx hb dX5_ask_122 rfl (lv_at hl 4 rfl) ?_
                refine lv_dup hx hb dX5_ask_123 rfl ?_
                refine tw_geti hx hb hW hown hK hS f_X5_47_5 hz_a0 hk_a0 (lo := (-2147483648)) (hi := 2147483647) rfl dX5_ask_124 (fun x81 k80 h79 => ?_)
                refine lv_iconst (v := 1) hx hb dX5_ask_127 (by decide) ?_
                refine lv_iload_n hx hb dX5_ask_128 rfl (lv_at hl 3 rfl) ?_
                refine lv_ishl hx hb dX5_ask_129 ?_
                refine tw_top (fun x83 => ?_)
                have h82 := iv_any x83
                refine lv_ior hx hb dX5_ask_130 ?_
                refine tw_top (fun x85 => ?_)
                have h84 := iv_any x85
                refine tw_puti hx hb hW hown hK hS f_X5_47_5 hz_a0 hk_a0 rfl rfl (lo := (-2147483648)) (hi := 2147483647) rfl h84 rfl dX5_ask_131 (fun H locs M88 hS k86 f87 => ?_)
                refine lv_goto (tgt := 154) hx hb dX5_ask_134 (by decide) ?_
                refine tw_iinc (lv' := fun x91 => [(2, .int x91), (5, .int x47), (4, .int 0), (3, .int x41), (0, .ref (base + a0)), (1, .int a1)]) (lo := 1) (hi := 10) hx hb dX5_ask_154 hl (k := 3) rfl h21 (by decide) ⟨by decide, by decide⟩ ⟨by decide, by decide⟩ (by decide) (fun _ => rfl) (fun x91 ls e90 h89 hl => ?_)
                refine lv_goto (tgt := 12) hx hb dX5_ask_157 (by decide) ?_
                have hm92 : 10 - x91.toInt < (n_8 : Int) := by
                  have := (h_a1).1; have := (h_a1).2; have := (h21).1; have := (h21).2; have := (h89).1; have := (h89).2; omega
                exact ih_8 x91 M88 R49 J50 H locs _ (iv_mono h89 (by decide) (by decide)) hm92 hS (lv_sub hl [0, 4, 5] rfl)
            refine lv_icmp_ne (tgt := 116) hx hb dX5_ask_96 (by decide) (fun h => absurd h (by decide)) (fun _ => ?_)
            refine lv_aload_n hx hb dX5_ask_99 rfl (lv_at hl 4 rfl) ?_
            refine tw_getr hx hb hW hown hK hS f_X5_9_5 hz_a0 hk_a0 (t := 10) (n := 0) rfl dX5_ask_100 (fun b93 k94 hz_b93 hk_b93 hn_b93 => ?_)
            refine lv_iload_n hx hb dX5_ask_103 rfl (lv_at hl 3 rfl) ?_
            refine lv_aload_n hx hb dX5_ask_104 rfl (lv_at hl 4 rfl) ?_
            refine tw_geti hx hb hW hown hK hS f_X5_30_5 hz_a0 hk_a0 (lo := 0) (hi := 11) rfl dX5_ask_105 (fun x97 k96 h95 => ?_)
            refine tw_goi hS (md_runV (As := [.int x7, .int x97]) (rest := []) hx hb hml hown hW hK hT hS.1 (t_X9_worthOf l D cy tx base Z K N M42 R43 J44 hS.2.1 b93 hz_b93 hk_b93 x7 h21 x97 h95) s_X5_65 ⟨rfl, rfl, ⟨Nat.le_of_ble_eq_true rfl, Nat.le_of_ble_eq_true rfl⟩, ⟨Nat.le_of_ble_eq_true rfl, Nat.le_of_ble_eq_true rfl⟩⟩ hz_b93 hk_b93 (by decide) rfl rfl hl.1 rfl (Nat.le_of_ble_eq_true rfl) dX5_ask_108) rfl rfl (fun x104 H locs M101 R102 J100 hS f98 g99 E103 => ?_)
            have eM101 := Fr.nil f98 rfl
            subst eM101
            have eR102 := Fr.nil g99 rfl
            subst eR102
            have h_x104 := E103
            clear E103
            refine tw_goi hS (md_runS (As := [.int x104]) (rest := []) hx hb hml hown hW hK hT hS.1 (t_X5_trueSaying l D cy tx base Z K N M42 R43 J100 hS.2.1 x104 h_x104) s_X5_69 ⟨rfl, rfl, ⟨Nat.le_of_ble_eq_true rfl, Nat.le_of_ble_eq_true rfl⟩, ⟨Nat.le_of_ble_eq_true rfl, Nat.le_of_ble_eq_true rfl⟩⟩ rfl hl.1 rfl (Nat.le_of_ble_eq_true rfl) dX5_ask_111) rfl rfl (fun x111 H locs M108 R109 J107 hS f105 g106 E110 => ?_)
            have eM108 := Fr.nil f105 rfl
            subst eM108
            have eR109 := Fr.nil g106 rfl
            subst eR109
            have h_x111 := E110
            clear E110
            refine lv_istore (lv' := [(5, .int x111), (4, .int 0), (3, .int x41), (2, .int x7), (0, .ref (base + a0)), (1, .int a1)]) hx hb dX5_ask_114 hl (by decide) rfl (fun ls hl => ?_)
            exact J116_48 x111 M42 R43 J107 H locs _ (iv_mono h_x111 (by decide) (by decide)) hS hl
          refine lv_if_lt (tgt := 68) hx hb dX5_ask_43 (by decide) (fun c112 => ?_) (fun c112 => ?_)
          · have q113 : x41.toInt < 0 := ti_lt c112
            have h114 : iv (-2147483648) (-1) x41 := iv_ltL (y := 0) h39 (iv_c (c := 0) (n := 0) (by decide)) q113 (by decide)
            exact J68_42  M8 R9 J10 H locs _  hS hl
          · have q115 : 0 ≤ x41.toInt := ti_nlt c112
            have h116 : iv 0 2147483647 x41 := iv_geL (y := 0) h39 (iv_c (c := 0) (n := 0) (by decide)) q115 (by decide)
            refine lv_iload_n hx hb dX5_ask_46 rfl (lv_at hl 0 rfl) ?_
            refine lv_aload_n hx hb dX5_ask_47 rfl (lv_at hl 2 rfl) ?_
            refine tw_getr hx hb hW hown hK hS f_X5_15_5 hz_a0 hk_a0 (t := 17) (n := 6) rfl dX5_ask_48 (fun b117 k118 hz_b117 hk_b117 hn_b117 => ?_)
            have hn_b117 := hn_b117 (by decide)
            refine tw_alenk hx hb hK hS hz_b117 hk_b117 (by decide) hn_b117 (v := 6) (by decide) dX5_ask_51 ?_
            refine lv_icmp_ge (tgt := 68) hx hb dX5_ask_52 (by decide) (fun c119 => ?_) (fun c119 => ?_)
            · have q120 : 6 ≤ x41.toInt := ti_le c119
              have h121 : iv 6 2147483647 x41 := iv_geL (y := 6) h116 (iv_c (c := 6) (n := 6) (by decide)) q120 (by decide)
              exact J68_42  M8 R9 J10 H locs _  hS hl
            · have q122 : x41.toInt < 6 := ti_nle c119
              have h123 : iv 0 5 x41 := iv_ltL (y := 6) h116 (iv_c (c := 6) (n := 6) (by decide)) q122 (by decide)
              refine lv_aload_n hx hb dX5_ask_55 rfl (lv_at hl 2 rfl) ?_
              refine tw_getrk hx hb hW hown hK hS f_X5_15_5 hz_a0 hk_a0 (b := b117) k118 dX5_ask_56 ?_
              refine lv_iload_n hx hb dX5_ask_59 rfl (lv_at hl 0 rfl) ?_
              refine tw_aald hx hb hK hS hz_b117 hk_b117 ⟨by decide, by decide⟩ hn_b117 h123 ⟨by decide, by decide⟩ (t2 := 8) (n2 := 0) (o := 1) (fun _ => rfl) dX5_ask_60 (fun k126 => ?_) (fun b124 k125 hz_b124 hk_b124 hn_b124 => ?_)
              · refine lv_ifnullN (tgt := 68) hx hb dX5_ask_61 (by decide) ?_
                exact J68_42  M8 R9 J10 H locs _  hS hl
              · refine lv_ifnull hx hb dX5_ask_61 ?_
                refine lv_iconst (v := 1) hx hb dX5_ask_64 (by decide) ?_
                refine lv_goto (tgt := 69) hx hb dX5_ask_65 (by decide) ?_
                refine lv_istore (lv' := [(4, .int 1), (3, .int x41), (2, .int x7), (0, .ref (base + a0)), (1, .int a1)]) hx hb dX5_ask_69 hl (by decide) rfl (fun ls hl => ?_)
                refine lv_iload hx hb dX5_ask_71 (lv_at hl 0 rfl) ?_
                refine lv_if_eq (tgt := 90) hx hb dX5_ask_73 (by decide) (fun h => absurd h (by decide)) (fun _ => ?_)
                refine lv_aload_n hx hb dX5_ask_76 rfl (lv_at hl 3 rfl) ?_
                refine tw_getrk hx hb hW hown hK hS f_X5_15_5 hz_a0 hk_a0 (b := b117) k118 dX5_ask_77 ?_
                refine lv_iload_n hx hb dX5_ask_80 rfl (lv_at hl 1 rfl) ?_
                refine tw_aalk hx hb hK hS hz_b117 hk_b117 ⟨by decide, by decide⟩ hn_b117 h123 ⟨by decide, by decide⟩ (b := b124) k125 dX5_ask_81 ?_
                refine lv_iload_n hx hb dX5_ask_82 rfl (lv_at hl 2 rfl) ?_
                refine lv_aload_n hx hb dX5_ask_83 rfl (lv_at hl 3 rfl) ?_
                refine tw_goi hS (md_runV (As := [.int x7, .ref (base + a0)]) (rest := []) hx hb hml hown hW hK hT hS.1 (t_X7_sayingOf l D cy tx base Z K N M8 R9 J10 hS.2.1 b124 hz_b124 hk_b124 x7 h21 a0 hz_a0 hk_a0 (RowOK.to row_a0 (Fr.kp (k := 7) f11 hk_a0 rfl) (Fr.kp (k := 5) g12 hk_a0 rfl))) s_X5_59 ⟨rfl, rfl, ⟨Nat.le_of_ble_eq_true rfl, Nat.le_of_ble_eq_true rfl⟩, ⟨Nat.le_of_ble_eq_true rfl, Nat.le_of_ble_eq_true rfl⟩⟩ hz_b124 hk_b124 (by decide) rfl rfl hl.1 rfl (Nat.le_of_ble_eq_true rfl) dX5_ask_84) rfl rfl (fun x133 H locs M130 R131 J129 hS f127 g128 E132 => ?_)
                have eR131 := Fr.nil g128 rfl
                subst eR131
                have h_x133 := E132
                clear E132
                refine lv_goto (tgt := 91) hx hb dX5_ask_87 (by decide) ?_
                refine lv_istore (lv' := [(5, .int x133), (4, .int 1), (3, .int x41), (2, .int x7), (0, .ref (base + a0)), (1, .int a1)]) hx hb dX5_ask_91 hl (by decide) rfl (fun ls hl => ?_)
                refine lv_iload hx hb dX5_ask_93 (lv_at hl 0 rfl) ?_
                refine lv_iconst (v := (-1)) hx hb dX5_ask_95 (by decide) ?_
                have J116_135 : ∀ (x134 : Int32) (M135 : MT) (R136 : RT) (J137 : JT) (H : Heap) (locs : List Loc) (ls : Array Slot) (h_x134 : iv (-134217728) 134217727 x134) (hS : SB D cy base Z K N Lt_X5_ask LRt_X5_ask Ma Ra M135 R136 J137 s H locs) (hl : lv_has ls 6 [(5, .int x134), (4, .int 1), (3, .int x41), (2, .int x7), (0, .ref (base + a0)), (1, .int a1)]), W p l e (md_rm 4 0 0) s m args below meth c H locs 0 0 Q (F0 m 116 ls []) := by
                  intro x134 M135 R136 J137 H locs ls h_x134 hS hl
                  have f138 := hS.2.2.1
                  have g139 := hS.2.2.2
                  refine lv_iload hx hb dX5_ask_116 (lv_at hl 0 rfl) ?_
                  refine lv_iconst (v := 1) hx hb dX5_ask_118 (by decide) ?_
                  refine lv_icmp_ne (tgt := 137) hx hb dX5_ask_119 (by decide) (fun c140 => ?_) (fun c140 => ?_)
                  · have q141 : ¬ x134.toInt = 1 := ti_ne c140
                    refine lv_iload hx hb dX5_ask_137 (lv_at hl 0 rfl) ?_
                    refine lv_if_ne (tgt := 154) hx hb dX5_ask_139 (by decide) (fun c142 => ?_) (fun c142 => ?_)
                    · have q143 : ¬ x134.toInt = 0 := ti_ne c142
                      refine tw_iinc (lv' := fun x146 => [(2, .int x146), (5, .int x134), (4, .int 1), (3, .int x41), (0, .ref (base + a0)), (1, .int a1)]) (lo := 1) (hi := 10) hx hb dX5_ask_154 hl (k := 3) rfl h21 (by decide) ⟨by decide, by decide⟩ ⟨by decide, by decide⟩ (by decide) (fun _ => rfl) (fun x146 ls e145 h144 hl => ?_)
                      refine lv_goto (tgt := 12) hx hb dX5_ask_157 (by decide) ?_
                      have hm147 : 10 - x146.toInt < (n_8 : Int) := by
                        have := (h_a1).1; have := (h_a1).2; have := (h144).1; have := (h144).2; have := (h21).1; have := (h21).2; omega
                      exact ih_8 x146 M135 R136 J137 H locs _ (iv_mono h144 (by decide) (by decide)) hm147 hS (lv_sub hl [0, 4, 5] rfl)
                    · have q148 : x134.toInt = 0 := ti_eq c142
                      have h149 : iv 0 0 x134 := ⟨by have := (h_x134).1; have := ((iv_c (c := 0) (n := 0) (by decide))).1; omega, by have := (h_x134).2; have := ((iv_c (c := 0) (n := 0) (by decide))).2; omega⟩
                      refine lv_aload_n hx hb dX5_ask_142 rfl (lv_at hl 4 rfl) ?_
                      refine lv_dup hx hb dX5_ask_143 rfl ?_
                      refine tw_geti hx hb hW hown hK hS f_X5_50_5 hz_a0 hk_a0 (lo := (-2147483648)) (hi := 2147483647) rfl dX5_ask_144 (fun x152 k151 h150 => ?_)
                      refine lv_iconst (v := 1) hx hb dX5_ask_147 (by decide) ?_
                      refine lv_iload_n hx hb dX5_ask_148 rfl (lv_at hl 3 rfl) ?_
                      refine lv_ishl hx hb dX5_ask_149 ?_
                      refine tw_top (fun x154 => ?_)
                      have h153 := iv_any x154
                      refine lv_ior hx hb dX5_ask_150 ?_
                      refine tw_top (fun x156 => ?_)
                      have h155 := iv_any x156
                      refine tw_puti hx hb hW hown hK hS f_X5_50_5 hz_a0 hk_a0 rfl rfl (lo := (-2147483648)) (hi := 2147483647) rfl h155 rfl dX5_ask_151 (fun H locs M159 hS k157 f158 => ?_)
                      refine tw_iinc (lv' := fun x162 => [(2, .int x162), (5, .int x134), (4, .int 1), (3, .int x41), (0, .ref (base + a0)), (1, .int a1)]) (lo := 1) (hi := 10) hx hb dX5_ask_154 hl (k := 3) rfl h21 (by decide) ⟨by decide, by decide⟩ ⟨by decide, by decide⟩ (by decide) (fun _ => rfl) (fun x162 ls e161 h160 hl => ?_)
                      refine lv_goto (tgt := 12) hx hb dX5_ask_157 (by decide) ?_
                      have hm163 : 10 - x162.toInt < (n_8 : Int) := by
                        have := (h_a1).1; have := (h_a1).2; have := (h160).1; have := (h160).2; have := (h21).1; have := (h21).2; omega
                      exact ih_8 x162 M159 R136 J137 H locs _ (iv_mono h160 (by decide) (by decide)) hm163 hS (lv_sub hl [0, 4, 5] rfl)
                  · have q164 : x134.toInt = 1 := ti_eq c140
                    have h165 : iv 1 1 x134 := ⟨by have := (h_x134).1; have := ((iv_c (c := 1) (n := 1) (by decide))).1; omega, by have := (h_x134).2; have := ((iv_c (c := 1) (n := 1) (by decide))).2; omega⟩
                    refine lv_aload_n hx hb dX5_ask_122 rfl (lv_at hl 4 rfl) ?_
                    refine lv_dup hx hb dX5_ask_123 rfl ?_
                    refine tw_geti hx hb hW hown hK hS f_X5_47_5 hz_a0 hk_a0 (lo := (-2147483648)) (hi := 2147483647) rfl dX5_ask_124 (fun x168 k167 h166 => ?_)
                    refine lv_iconst (v := 1) hx hb dX5_ask_127 (by decide) ?_
                    refine lv_iload_n hx hb dX5_ask_128 rfl (lv_at hl 3 rfl) ?_
                    refine lv_ishl hx hb dX5_ask_129 ?_
                    refine tw_top (fun x170 => ?_)
                    have h169 := iv_any x170
                    refine lv_ior hx hb dX5_ask_130 ?_
                    refine tw_top (fun x172 => ?_)
                    have h171 := iv_any x172
                    refine tw_puti hx hb hW hown hK hS f_X5_47_5 hz_a0 hk_a0 rfl rfl (lo := (-2147483648)) (hi := 2147483647) rfl h171 rfl dX5_ask_131 (fun H locs M175 hS k173 f174 => ?_)
                    refine lv_goto (tgt := 154) hx hb dX5_ask_134 (by decide) ?_
                    refine tw_iinc (lv' := fun x178 => [(2, .int x178), (5, .int x134), (4, .int 1), (3, .int x41), (0, .ref (base + a0)), (1, .int a1)]) (lo := 1) (hi := 10) hx hb dX5_ask_154 hl (k := 3) rfl h21 (by decide) ⟨by decide, by decide⟩ ⟨by decide, by decide⟩ (by decide) (fun _ => rfl) (fun x178 ls e177 h176 hl => ?_)
                    refine lv_goto (tgt := 12) hx hb dX5_ask_157 (by decide) ?_
                    have hm179 : 10 - x178.toInt < (n_8 : Int) := by
                      have := (h_a1).1; have := (h_a1).2; have := (h176).1; have := (h176).2; have := (h21).1; have := (h21).2; omega
                    exact ih_8 x178 M175 R136 J137 H locs _ (iv_mono h176 (by decide) (by decide)) hm179 hS (lv_sub hl [0, 4, 5] rfl)
                refine lv_icmp_ne (tgt := 116) hx hb dX5_ask_96 (by decide) (fun c180 => ?_) (fun c180 => ?_)
                · have q181 : ¬ x133.toInt = (-1) := ti_ne c180
                  exact J116_135 x133 M130 R9 J129 H locs _ h_x133 hS hl
                · have q182 : x133.toInt = (-1) := ti_eq c180
                  have h183 : iv (-1) (-1) x133 := ⟨by have := (h_x133).1; have := ((iv_c (c := (-1)) (n := (-1)) (by decide))).1; omega, by have := (h_x133).2; have := ((iv_c (c := (-1)) (n := (-1)) (by decide))).2; omega⟩
                  refine lv_aload_n hx hb dX5_ask_99 rfl (lv_at hl 4 rfl) ?_
                  refine tw_getrk hx hb hW hown hK hS f_X5_9_5 hz_a0 hk_a0 (b := b13) k14 dX5_ask_100 ?_
                  refine lv_iload_n hx hb dX5_ask_103 rfl (lv_at hl 3 rfl) ?_
                  refine lv_aload_n hx hb dX5_ask_104 rfl (lv_at hl 4 rfl) ?_
                  refine tw_geti hx hb hW hown hK hS f_X5_30_5 hz_a0 hk_a0 (lo := 0) (hi := 11) rfl dX5_ask_105 (fun x186 k185 h184 => ?_)
                  refine tw_goi hS (md_runV (As := [.int x7, .int x186]) (rest := []) hx hb hml hown hW hK hT hS.1 (t_X9_worthOf l D cy tx base Z K N M130 R9 J129 hS.2.1 b13 hz_b13 hk_b13 x7 h21 x186 h184) s_X5_65 ⟨rfl, rfl, ⟨Nat.le_of_ble_eq_true rfl, Nat.le_of_ble_eq_true rfl⟩, ⟨Nat.le_of_ble_eq_true rfl, Nat.le_of_ble_eq_true rfl⟩⟩ hz_b13 hk_b13 (by decide) rfl rfl hl.1 rfl (Nat.le_of_ble_eq_true rfl) dX5_ask_108) rfl rfl (fun x193 H locs M190 R191 J189 hS f187 g188 E192 => ?_)
                  have eM190 := Fr.nil f187 rfl
                  subst eM190
                  have eR191 := Fr.nil g188 rfl
                  subst eR191
                  have h_x193 := E192
                  clear E192
                  refine tw_goi hS (md_runS (As := [.int x193]) (rest := []) hx hb hml hown hW hK hT hS.1 (t_X5_trueSaying l D cy tx base Z K N M130 R9 J189 hS.2.1 x193 h_x193) s_X5_69 ⟨rfl, rfl, ⟨Nat.le_of_ble_eq_true rfl, Nat.le_of_ble_eq_true rfl⟩, ⟨Nat.le_of_ble_eq_true rfl, Nat.le_of_ble_eq_true rfl⟩⟩ rfl hl.1 rfl (Nat.le_of_ble_eq_true rfl) dX5_ask_111) rfl rfl (fun x200 H locs M197 R198 J196 hS f194 g195 E199 => ?_)
                  have eM197 := Fr.nil f194 rfl
                  subst eM197
                  have eR198 := Fr.nil g195 rfl
                  subst eR198
                  have h_x200 := E199
                  clear E199
                  refine lv_istore (lv' := [(5, .int x200), (4, .int 1), (3, .int x41), (2, .int x7), (0, .ref (base + a0)), (1, .int a1)]) hx hb dX5_ask_114 hl (by decide) rfl (fun ls hl => ?_)
                  exact J116_135 x200 M130 R9 J196 H locs _ (iv_mono h_x200 (by decide) (by decide)) hS hl
  have hm201 : 10 - (0 : Int32).toInt < (((11 : Nat) : Int) : Int) := by
    have := (h_a1).1; have := (h_a1).2; have : (0 : Int32).toInt = 0 := (by decide); omega
  exact W12_8 11 0 M6 Ra Ja H locs _ (iv_mono (iv_c (c := 0) (n := 0) (by decide)) (by decide) (by decide)) hm201 hS hl
def Lt_X5_bring_1 : WL := [(6, 2, 4), (6, 6, 9)]
def LRt_X5_bring_1 : WL := [(6, 4, 6)]
set_option maxRecDepth 100000 in
set_option maxHeartbeats 4000000 in
theorem t_X5_bring_1 (l : Launch) (D : va_G) (cy : Nat → ClassId) (tx : (Nat → Nat) × (Nat → Nat)) (base Z : Nat) (K N : Nat → Nat) (Ma : MT) (Ra : RT) (Ja : JT) (hTy : Ty Z K N Ma Ra) (a0 : Nat) (hz_a0 : a0 < Z) (hk_a0 : K a0 = 6) (a1 : Nat) (hz_a1 : a1 < Z) (hk_a1 : K a1 = 21) (hn_a1 : N a1 = 6) (a2 : Int32) (h_a2 : iv 0 5 a2) (a3 : Int32) (h_a3 : iv 0 6 a3) (a4 : Nat) (hz_a4 : a4 < Z) (hk_a4 : K a4 = 20) (hn_a4 : N a4 = 10) (a5 : Int32) (h_a5 : iv (-2147483648) 2147483647 a5) : Met l yX5_bring [Cond.code yX5_bring cX5_bring 6 none] (md_rm 1 0 0) (va_Pc [.ref (base + a0), .ref (base + a1), .int a2, .int a3, .ref (base + a4), .int a5] (md_U D cy tx base Z K N Ma Ra Ja)) (mQv D cy tx base (fun u => TP Z K N Lt_X5_bring_1 LRt_X5_bring_1 Ma Ra u ∧ (RowOK N u.2.2.2.1 u.2.2.2.2.1 a0))) 0 0 (fun q => base ≤ q) := by
  refine tw_ofW (L := Lt_X5_bring_1) (LR := LRt_X5_bring_1) (by decide) (Nat.le_of_ble_eq_true rfl) hTy ?_
  intro p e s m args below meth c Q ls hx hb hr hlocks hown hml hW hK hT hS hQ hl
  have hl : lv_has ls 6 [(0, .ref (base + a0)), (1, .ref (base + a1)), (2, .int a2), (3, .int a3), (4, .ref (base + a4)), (5, .int a5)] := hl
  refine lv_aload_n hx hb dX5_bring_0 rfl (lv_at hl 0 rfl) ?_
  refine lv_aload_n hx hb dX5_bring_1 rfl (lv_at hl 1 rfl) ?_
  refine lv_iload_n hx hb dX5_bring_2 rfl (lv_at hl 2 rfl) ?_
  refine tw_iald hx hb hK hS hz_a1 hk_a1 (Or.inr (by decide)) hn_a1 (lo := 0) (hi := 11) h_a2 ⟨by decide, by decide⟩ rg_u21 dX5_bring_3 (fun x3 k2 h1 => ?_)
  refine tw_puti hx hb hW hown hK hS f_X5_30_5 hz_a0 hk_a0 rfl rfl (lo := 0) (hi := 11) rfl h1 rfl dX5_bring_4 (fun H locs M6 hS k4 f5 => ?_)
  refine lv_aload_n hx hb dX5_bring_7 rfl (lv_at hl 0 rfl) ?_
  refine lv_aload hx hb dX5_bring_8 (lv_at hl 4 rfl) ?_
  refine tw_putr hx hb hW hown hK hS f_X5_25_5 hz_a0 hk_a0 rfl rfl (t := 20) (n := 10) rfl hz_a4 hk_a4 (fun _ => hn_a4) rfl dX5_bring_10 (fun H locs R9 hS k7 f8 => ?_)
  refine lv_aload_n hx hb dX5_bring_13 rfl (lv_at hl 0 rfl) ?_
  refine lv_iload hx hb dX5_bring_14 (lv_at hl 5 rfl) ?_
  refine tw_puti hx hb hW hown hK hS f_X5_34_5 hz_a0 hk_a0 rfl rfl (lo := (-2147483648)) (hi := 2147483647) rfl h_a5 rfl dX5_bring_16 (fun H locs M12 hS k10 f11 => ?_)
  refine lv_aload_n hx hb dX5_bring_19 rfl (lv_at hl 0 rfl) ?_
  refine lv_aload_n hx hb dX5_bring_20 rfl (lv_at hl 1 rfl) ?_
  refine tw_putr hx hb hW hown hK hS f_X5_29_5 hz_a0 hk_a0 rfl rfl (t := 21) (n := 0) rfl hz_a1 hk_a1 (fun h => absurd rfl h) rfl dX5_bring_21 (fun H locs R15 hS k13 f14 => ?_)
  refine lv_aload_n hx hb dX5_bring_24 rfl (lv_at hl 0 rfl) ?_
  refine lv_iload_n hx hb dX5_bring_25 rfl (lv_at hl 2 rfl) ?_
  refine lv_iconst (v := 1) hx hb dX5_bring_26 (by decide) ?_
  refine tw_iadd (lo := 1) (hi := 6) hx hb h_a2 (iv_c (c := 1) (n := 1) (by decide)) ⟨by decide, by decide⟩ ⟨by decide, by decide⟩ dX5_bring_27 (fun x18 e17 h16 => ?_)
  have e17 : x18.toInt = a2.toInt + 1 := e17
  refine tw_puti hx hb hW hown hK hS f_X5_37_5 hz_a0 hk_a0 rfl rfl (lo := 0) (hi := 8) rfl (iv_mono h16 (by decide) (by decide)) rfl dX5_bring_28 (fun H locs M21 hS k19 f20 => ?_)
  refine lv_aload_n hx hb dX5_bring_31 rfl (lv_at hl 0 rfl) ?_
  refine lv_iload_n hx hb dX5_bring_32 rfl (lv_at hl 3 rfl) ?_
  refine tw_puti hx hb hW hown hK hS f_X5_40_5 hz_a0 hk_a0 rfl rfl (lo := 0) (hi := 8) rfl (iv_mono h_a3 (by decide) (by decide)) rfl dX5_bring_33 (fun H locs M24 hS k22 f23 => ?_)
  refine lv_aload_n hx hb dX5_bring_36 rfl (lv_at hl 0 rfl) ?_
  refine lv_iconst (v := 0) hx hb dX5_bring_37 (by decide) ?_
  refine tw_puti hx hb hW hown hK hS f_X5_43_5 hz_a0 hk_a0 rfl rfl (lo := 0) (hi := 1) rfl (iv_mono (iv_c (c := 0) (n := 0) (by decide)) (by decide) (by decide)) rfl dX5_bring_38 (fun H locs M27 hS k25 f26 => ?_)
  have k28 : M27 a0 7 = a3 := (Fr.kp (k := 7) f26 hk_a0 rfl).trans k22
  exact tw_endv hx hb hr hlocks hK hT hS hQ ((show RowOK N M27 R15 a0 from fun b hb => by rw [k13] at hb; cases hb; rw [k28, hn_a1]; have := (h_a3).2; omega)) dX5_bring_41
def Lt_X1_gainAt : WL := [(6, 2, 4), (6, 6, 15), (20, 0, 2000000)]
def LRt_X1_gainAt : WL := [(6, 4, 6)]
set_option maxRecDepth 100000 in
set_option maxHeartbeats 4000000 in
theorem t_X1_gainAt (l : Launch) (D : va_G) (cy : Nat → ClassId) (tx : (Nat → Nat) × (Nat → Nat)) (base Z : Nat) (K N : Nat → Nat) (Ma : MT) (Ra : RT) (Ja : JT) (hTy : Ty Z K N Ma Ra) (a0 : Nat) (hz_a0 : a0 < Z) (hk_a0 : K a0 = 2) (a1 : Int32) (h_a1 : iv 0 5 a1) : Met l yX1_gainAt [Cond.code yX1_gainAt cX1_gainAt 3 (some .int)] (md_rm 5 0 0) (va_Pc [.ref (base + a0), .int a1] (md_U D cy tx base Z K N Ma Ra Ja)) (mQi D cy tx base (fun r u => TP Z K N Lt_X1_gainAt LRt_X1_gainAt Ma Ra u ∧ (iv (-2147483648) 2147483647 r))) 0 0 (fun q => base ≤ q) := by
  refine tw_ofW (L := Lt_X1_gainAt) (LR := LRt_X1_gainAt) (by decide) (Nat.le_of_ble_eq_true rfl) hTy ?_
  intro p e s m args below meth c Q ls hx hb hr hlocks hown hml hW hK hT hS hQ hl
  have hl : lv_has ls 3 [(0, .ref (base + a0)), (1, .int a1)] := hl
  refine lv_aload_n hx hb dX1_gainAt_0 rfl (lv_at hl 0 rfl) ?_
  refine tw_getr hx hb hW hown hK hS f_X1_27_1 hz_a0 hk_a0 (t := 6) (n := 0) rfl dX1_gainAt_1 (fun b1 k2 hz_b1 hk_b1 hn_b1 => ?_)
  refine lv_aload_n hx hb dX1_gainAt_4 rfl (lv_at hl 0 rfl) ?_
  refine tw_getr hx hb hW hown hK hS f_X1_16_1 hz_a0 hk_a0 (t := 21) (n := 6) rfl dX1_gainAt_5 (fun b3 k4 hz_b3 hk_b3 hn_b3 => ?_)
  have hn_b3 := hn_b3 (by decide)
  refine lv_iload_n hx hb dX1_gainAt_8 rfl (lv_at hl 1 rfl) ?_
  refine lv_aload_n hx hb dX1_gainAt_9 rfl (lv_at hl 0 rfl) ?_
  refine tw_geti hx hb hW hown hK hS f_X1_49_1 hz_a0 hk_a0 (lo := 0) (hi := 6) rfl dX1_gainAt_10 (fun x7 k6 h5 => ?_)
  refine lv_aload_n hx hb dX1_gainAt_13 rfl (lv_at hl 0 rfl) ?_
  refine tw_getr hx hb hW hown hK hS f_X1_13_1 hz_a0 hk_a0 (t := 19) (n := 7) rfl dX1_gainAt_14 (fun b8 k9 hz_b8 hk_b8 hn_b8 => ?_)
  have hn_b8 := hn_b8 (by decide)
  refine lv_iload_n hx hb dX1_gainAt_17 rfl (lv_at hl 1 rfl) ?_
  refine tw_row hx hb hK hS hz_b8 hk_b8 hn_b8 h_a1 ⟨by decide, by decide⟩ dX1_gainAt_18 (fun b10 k11 hz_b10 hk_b10 hn_b10 => ?_)
  refine lv_aload_n hx hb dX1_gainAt_19 rfl (lv_at hl 0 rfl) ?_
  refine tw_getr hx hb hW hown hK hS f_X1_23_1 hz_a0 hk_a0 (t := 10) (n := 0) rfl dX1_gainAt_20 (fun b12 k13 hz_b12 hk_b12 hn_b12 => ?_)
  refine tw_geti hx hb hW hown hK hS f_X1_76_9 hz_b12 hk_b12 (lo := (-2147483648)) (hi := 2147483647) rfl dX1_gainAt_23 (fun x16 k15 h14 => ?_)
  refine lv_iload_n hx hb dX1_gainAt_26 rfl (lv_at hl 1 rfl) ?_
  refine lv_iadd hx hb dX1_gainAt_27 ?_
  refine tw_top (fun x18 => ?_)
  have h17 := iv_any x18
  refine tw_gov hS (md_runV (As := [.ref (base + b3), .int a1, .int x7, .ref (base + b10), .int x18]) (rest := []) hx hb hml hown hW hK hT hS.1 (t_X5_bring_1 l D cy tx base Z K N Ma Ra Ja hS.2.1 b1 hz_b1 hk_b1 b3 hz_b3 hk_b3 hn_b3 a1 h_a1 x7 h5 b10 hz_b10 hk_b10 hn_b10 x18 h17) s_X1_79 ⟨rfl, rfl, ⟨Nat.le_of_ble_eq_true rfl, Nat.le_of_ble_eq_true rfl⟩, ⟨Nat.le_of_ble_eq_true rfl, Nat.le_of_ble_eq_true rfl⟩⟩ hz_b1 hk_b1 (by decide) rfl rfl hl.1 rfl (Nat.le_of_ble_eq_true rfl) dX1_gainAt_28) rfl rfl (fun H locs M22 R23 J21 hS f19 g20 E24 => ?_)
  have p25 := E24
  clear E24
  have k26 : RowOK N M22 R23 b1 := p25
  refine lv_aload_n hx hb dX1_gainAt_31 rfl (lv_at hl 0 rfl) ?_
  have k27 : R23 a0 1 = some b1 := (Fr.kp (k := 1) g20 hk_a0 rfl).trans k2
  refine tw_getrk hx hb hW hown hK hS f_X1_27_1 hz_a0 hk_a0 (b := b1) k27 dX1_gainAt_32 ?_
  refine lv_aload_n hx hb dX1_gainAt_35 rfl (lv_at hl 0 rfl) ?_
  have k28 : R23 a0 0 = some b12 := (Fr.kp (k := 0) g20 hk_a0 rfl).trans k13
  refine tw_getrk hx hb hW hown hK hS f_X1_23_1 hz_a0 hk_a0 (b := b12) k28 dX1_gainAt_36 ?_
  refine tw_geti hx hb hW hown hK hS f_X1_85_9 hz_b12 hk_b12 (lo := (-2147483648)) (hi := 2147483647) rfl dX1_gainAt_39 (fun x31 k30 h29 => ?_)
  refine tw_gov hS (md_runV (As := [.int x31]) (rest := []) hx hb hml hown hW hK hT hS.1 (t_X5_ask l D cy tx base Z K N M22 R23 J21 hS.2.1 b1 hz_b1 hk_b1 x31 h29 k26) s_X1_88 ⟨rfl, rfl, ⟨Nat.le_of_ble_eq_true rfl, Nat.le_of_ble_eq_true rfl⟩, ⟨Nat.le_of_ble_eq_true rfl, Nat.le_of_ble_eq_true rfl⟩⟩ hz_b1 hk_b1 (by decide) rfl rfl hl.1 rfl (Nat.le_of_ble_eq_true rfl) dX1_gainAt_42) rfl rfl (fun H locs M35 R36 J34 hS f32 g33 E37 => ?_)
  have eR36 := Fr.nil g33 rfl
  subst eR36
  refine lv_aload_n hx hb dX1_gainAt_45 rfl (lv_at hl 0 rfl) ?_
  have k38 : R23 a0 2 = some b8 := (Fr.kp (k := 2) g20 hk_a0 rfl).trans k9
  refine tw_getrk hx hb hW hown hK hS f_X1_13_1 hz_a0 hk_a0 (b := b8) k38 dX1_gainAt_46 ?_
  refine lv_iload_n hx hb dX1_gainAt_49 rfl (lv_at hl 1 rfl) ?_
  have k39 : R23 b8 a1.toNatClampNeg = some b10 := (Fr.kpa g20 hk_b8 rfl a1.toNatClampNeg).trans k11
  refine tw_aalk hx hb hK hS hz_b8 hk_b8 ⟨by decide, by decide⟩ hn_b8 h_a1 ⟨by decide, by decide⟩ (b := b10) k39 dX1_gainAt_50 ?_
  refine lv_iconst (v := 0) hx hb dX1_gainAt_51 (by decide) ?_
  refine lv_aload_n hx hb dX1_gainAt_52 rfl (lv_at hl 0 rfl) ?_
  have k40 : R23 a0 2 = some b8 := (Fr.kp (k := 2) g20 hk_a0 rfl).trans k9
  refine tw_getrk hx hb hW hown hK hS f_X1_13_1 hz_a0 hk_a0 (b := b8) k40 dX1_gainAt_53 ?_
  refine lv_iload_n hx hb dX1_gainAt_56 rfl (lv_at hl 1 rfl) ?_
  refine lv_iconst (v := 1) hx hb dX1_gainAt_57 (by decide) ?_
  refine tw_iadd (lo := 1) (hi := 6) hx hb h_a1 (iv_c (c := 1) (n := 1) (by decide)) ⟨by decide, by decide⟩ ⟨by decide, by decide⟩ dX1_gainAt_58 (fun x43 e42 h41 => ?_)
  have e42 : x43.toInt = a1.toInt + 1 := e42
  refine tw_row hx hb hK hS hz_b8 hk_b8 hn_b8 h41 ⟨by decide, by decide⟩ dX1_gainAt_59 (fun b44 k45 hz_b44 hk_b44 hn_b44 => ?_)
  refine lv_iconst (v := 0) hx hb dX1_gainAt_60 (by decide) ?_
  refine lv_bipush (v := 10) hx hb dX1_gainAt_61 (by decide) ?_
  refine tw_copy hx hb (hml.trans hl.1.symm) hW hown hK hS (md_okc w_5_128 rfl (md_okc w_3_226 rfl (md_okc w_3_225 rfl (md_okc w_1_18 rfl (md_ok0))))) hz_b44 hk_b44 (Or.inr (by decide)) hz_b10 hk_b10 (Or.inr (by decide)) hn_b44 hn_b10 (by have := ((iv_c (c := 10) (n := 10) (by decide))).1; have := ((iv_c (c := 10) (n := 10) (by decide))).2; have := ((iv_c (c := 0) (n := 0) (by decide))).1; have := ((iv_c (c := 0) (n := 0) (by decide))).2; have := ((iv_c (c := 0) (n := 0) (by decide))).1; have := ((iv_c (c := 0) (n := 0) (by decide))).2; omega) (by have := ((iv_c (c := 10) (n := 10) (by decide))).1; have := ((iv_c (c := 10) (n := 10) (by decide))).2; have := ((iv_c (c := 0) (n := 0) (by decide))).1; have := ((iv_c (c := 0) (n := 0) (by decide))).2; have := ((iv_c (c := 0) (n := 0) (by decide))).1; have := ((iv_c (c := 0) (n := 0) (by decide))).2; omega) (by have := ((iv_c (c := 10) (n := 10) (by decide))).1; have := ((iv_c (c := 10) (n := 10) (by decide))).2; have := ((iv_c (c := 0) (n := 0) (by decide))).1; have := ((iv_c (c := 0) (n := 0) (by decide))).2; have := ((iv_c (c := 0) (n := 0) (by decide))).1; have := ((iv_c (c := 0) (n := 0) (by decide))).2; omega) (by have := ((iv_c (c := 10) (n := 10) (by decide))).1; have := ((iv_c (c := 10) (n := 10) (by decide))).2; have := ((iv_c (c := 0) (n := 0) (by decide))).1; have := ((iv_c (c := 0) (n := 0) (by decide))).2; have := ((iv_c (c := 0) (n := 0) (by decide))).1; have := ((iv_c (c := 0) (n := 0) (by decide))).2; omega) (by have := ((iv_c (c := 10) (n := 10) (by decide))).1; have := ((iv_c (c := 10) (n := 10) (by decide))).2; have := ((iv_c (c := 0) (n := 0) (by decide))).1; have := ((iv_c (c := 0) (n := 0) (by decide))).2; have := ((iv_c (c := 0) (n := 0) (by decide))).1; have := ((iv_c (c := 0) (n := 0) (by decide))).2; omega) (fun _ _ => ⟨by show (-2147483648 : Int) ≤ -2147483648; decide, by show (2147483647 : Int) ≤ 2147483647; decide⟩) (Nat.le_of_ble_eq_true rfl) (Nat.le_of_ble_eq_true rfl) rfl dX1_gainAt_63 (fun H locs M48 hS f46 k47 => ?_)
  refine lv_aload_n hx hb dX1_gainAt_66 rfl (lv_at hl 0 rfl) ?_
  have k49 : R23 a0 1 = some b1 := (Fr.kp (k := 1) g20 hk_a0 rfl).trans k2
  refine tw_getrk hx hb hW hown hK hS f_X1_27_1 hz_a0 hk_a0 (b := b1) k49 dX1_gainAt_67 ?_
  refine lv_aload_n hx hb dX1_gainAt_70 rfl (lv_at hl 0 rfl) ?_
  have k50 : R23 a0 2 = some b8 := (Fr.kp (k := 2) g20 hk_a0 rfl).trans k9
  refine tw_getrk hx hb hW hown hK hS f_X1_13_1 hz_a0 hk_a0 (b := b8) k50 dX1_gainAt_71 ?_
  refine lv_iload_n hx hb dX1_gainAt_74 rfl (lv_at hl 1 rfl) ?_
  refine lv_iconst (v := 1) hx hb dX1_gainAt_75 (by decide) ?_
  refine tw_iadd (lo := 1) (hi := 6) hx hb h_a1 (iv_c (c := 1) (n := 1) (by decide)) ⟨by decide, by decide⟩ ⟨by decide, by decide⟩ dX1_gainAt_76 (fun x53 e52 h51 => ?_)
  have e52 : x53.toInt = a1.toInt + 1 := e52
  refine tw_row hx hb hK hS hz_b8 hk_b8 hn_b8 h51 ⟨by decide, by decide⟩ dX1_gainAt_77 (fun b54 k55 hz_b54 hk_b54 hn_b54 => ?_)
  refine lv_aload_n hx hb dX1_gainAt_78 rfl (lv_at hl 0 rfl) ?_
  have k56 : R23 a0 1 = some b1 := (Fr.kp (k := 1) g20 hk_a0 rfl).trans k2
  refine tw_getrk hx hb hW hown hK hS f_X1_27_1 hz_a0 hk_a0 (b := b1) k56 dX1_gainAt_79 ?_
  refine tw_geti hx hb hW hown hK hS f_X1_92_5 hz_b1 hk_b1 (lo := (-2147483648)) (hi := 2147483647) rfl dX1_gainAt_82 (fun x59 k58 h57 => ?_)
  refine lv_aload_n hx hb dX1_gainAt_85 rfl (lv_at hl 0 rfl) ?_
  have k60 : R23 a0 1 = some b1 := (Fr.kp (k := 1) g20 hk_a0 rfl).trans k2
  refine tw_getrk hx hb hW hown hK hS f_X1_27_1 hz_a0 hk_a0 (b := b1) k60 dX1_gainAt_86 ?_
  refine tw_geti hx hb hW hown hK hS f_X1_95_5 hz_b1 hk_b1 (lo := (-2147483648)) (hi := 2147483647) rfl dX1_gainAt_89 (fun x63 k62 h61 => ?_)
  refine tw_goi hS (md_runV (As := [.ref (base + b54), .int x59, .int x63]) (rest := []) hx hb hml hown hW hK hT hS.1 (t_X5_hold l D cy tx base Z K N M48 R23 J34 hS.2.1 b1 hz_b1 hk_b1 b54 hz_b54 hk_b54 hn_b54 x59 h57 x63 h61) s_X1_98 ⟨rfl, rfl, ⟨Nat.le_of_ble_eq_true rfl, Nat.le_of_ble_eq_true rfl⟩, ⟨Nat.le_of_ble_eq_true rfl, Nat.le_of_ble_eq_true rfl⟩⟩ hz_b1 hk_b1 (by decide) rfl rfl hl.1 rfl (Nat.le_of_ble_eq_true rfl) dX1_gainAt_92) rfl rfl (fun x70 H locs M67 R68 J66 hS f64 g65 E69 => ?_)
  have eR68 := Fr.nil g65 rfl
  subst eR68
  have h_x70 := E69
  clear E69
  refine lv_istore_n (lv' := [(2, .int x70), (0, .ref (base + a0)), (1, .int a1)]) hx hb dX1_gainAt_95 rfl hl (by decide) rfl (fun ls hl => ?_)
  refine lv_iload_n hx hb dX1_gainAt_96 rfl (lv_at hl 0 rfl) ?_
  refine lv_iconst (v := 1) hx hb dX1_gainAt_97 (by decide) ?_
  refine lv_icmp_ne (tgt := 126) hx hb dX1_gainAt_98 (by decide) (fun c71 => ?_) (fun c71 => ?_)
  · have q72 : ¬ x70.toInt = 1 := ti_ne c71
    refine lv_iconst (v := 0) hx hb dX1_gainAt_126 (by decide) ?_
    exact tw_endi hx hb hr hlocks hK hT hS hQ ((iv_mono (iv_c (c := 0) (n := 0) (by decide)) (by decide) (by decide))) dX1_gainAt_127
  · have q73 : x70.toInt = 1 := ti_eq c71
    have h74 : iv 1 1 x70 := ⟨by have := (h_x70).1; have := ((iv_c (c := 1) (n := 1) (by decide))).1; omega, by have := (h_x70).2; have := ((iv_c (c := 1) (n := 1) (by decide))).2; omega⟩
    refine lv_aload_n hx hb dX1_gainAt_101 rfl (lv_at hl 1 rfl) ?_
    refine tw_geti hx hb hW hown hK hS f_X1_35_1 hz_a0 hk_a0 (lo := (-2147483648)) (hi := 2147483647) rfl dX1_gainAt_102 (fun x77 k76 h75 => ?_)
    refine lv_aload_n hx hb dX1_gainAt_105 rfl (lv_at hl 1 rfl) ?_
    have k78 : R23 a0 0 = some b12 := (Fr.kp (k := 0) g20 hk_a0 rfl).trans k13
    refine tw_getrk hx hb hW hown hK hS f_X1_23_1 hz_a0 hk_a0 (b := b12) k78 dX1_gainAt_106 ?_
    refine lv_aload_n hx hb dX1_gainAt_109 rfl (lv_at hl 1 rfl) ?_
    refine tw_geti hx hb hW hown hK hS f_X1_31_1 hz_a0 hk_a0 (lo := 0) (hi := 9) rfl dX1_gainAt_110 (fun x81 k80 h79 => ?_)
    refine lv_aload_n hx hb dX1_gainAt_113 rfl (lv_at hl 1 rfl) ?_
    have k82 : R23 a0 3 = some b3 := (Fr.kp (k := 3) g20 hk_a0 rfl).trans k4
    refine tw_getrk hx hb hW hown hK hS f_X1_16_1 hz_a0 hk_a0 (b := b3) k82 dX1_gainAt_114 ?_
    refine lv_iload_n hx hb dX1_gainAt_117 rfl (lv_at hl 2 rfl) ?_
    refine tw_iald hx hb hK hS hz_b3 hk_b3 (Or.inr (by decide)) hn_b3 (lo := 0) (hi := 11) h_a1 ⟨by decide, by decide⟩ rg_u21 dX1_gainAt_118 (fun x85 k84 h83 => ?_)
    refine tw_goi hS (md_runV (As := [.int x81, .int x85]) (rest := [.int x77]) hx hb hml hown hW hK hT hS.1 (t_X9_worthOf l D cy tx base Z K N M67 R23 J66 hS.2.1 b12 hz_b12 hk_b12 x81 h79 x85 h83) s_X1_102 ⟨rfl, rfl, ⟨Nat.le_of_ble_eq_true rfl, Nat.le_of_ble_eq_true rfl⟩, ⟨Nat.le_of_ble_eq_true rfl, Nat.le_of_ble_eq_true rfl⟩⟩ hz_b12 hk_b12 (by decide) rfl rfl hl.1 rfl (Nat.le_of_ble_eq_true rfl) dX1_gainAt_119) rfl rfl (fun x92 H locs M89 R90 J88 hS f86 g87 E91 => ?_)
    have eM89 := Fr.nil f86 rfl
    subst eM89
    have eR90 := Fr.nil g87 rfl
    subst eR90
    have h_x92 := E91
    clear E91
    refine lv_imul hx hb dX1_gainAt_122 ?_
    refine tw_top (fun x94 => ?_)
    have h93 := iv_any x94
    refine lv_goto (tgt := 127) hx hb dX1_gainAt_123 (by decide) ?_
    exact tw_endi hx hb hr hlocks hK hT hS hQ (h93) dX1_gainAt_127
def Lt_X1_arrange : WL := [(2, 8, 9), (6, 2, 4), (6, 6, 15), (20, 0, 2000000), (21, 0, 2000000)]
def LRt_X1_arrange : WL := [(6, 4, 6)]
set_option maxRecDepth 100000 in
set_option maxHeartbeats 4000000 in
theorem t_X1_arrange (l : Launch) (D : va_G) (cy : Nat → ClassId) (tx : (Nat → Nat) × (Nat → Nat)) (base Z : Nat) (K N : Nat → Nat) : ∀ (d : Nat), ∀ (Ma : MT) (Ra : RT) (Ja : JT) (hTy : Ty Z K N Ma Ra) (a0 : Nat) (hz_a0 : a0 < Z) (hk_a0 : K a0 = 2) (a1 : Int32) (h_a1 : iv 0 6 a1) (a2 : Int32) (h_a2 : iv (-2147483648) 2147483647 a2) (hmd : 6 - a1.toInt < (d : Int)), Met l yX1_arrange [Cond.code yX1_arrange cX1_arrange 5 none] (md_rm (6 + 2 * d) 0 0) (va_Pc [.ref (base + a0), .int a1, .int a2] (md_U D cy tx base Z K N Ma Ra Ja)) (mQv D cy tx base (fun u => TP Z K N Lt_X1_arrange LRt_X1_arrange Ma Ra u ∧ (True))) 0 0 (fun q => base ≤ q) := by
  intro d
  induction d with
  | zero =>
    intro Ma Ra Ja hTy a0 hz_a0 hk_a0 a1 h_a1 a2 h_a2 hmd
    exfalso
    have := h_a1.2
    omega
  | succ d ih =>
    intro Ma Ra Ja hTy a0 hz_a0 hk_a0 a1 h_a1 a2 h_a2 hmd
    refine tw_ofW (L := Lt_X1_arrange) (LR := LRt_X1_arrange) (by decide) (Nat.le_of_ble_eq_true rfl) hTy ?_
    intro p e s m args below meth c Q ls hx hb hr hlocks hown hml hW hK hT hS hQ hl
    have hl : lv_has ls 5 [(0, .ref (base + a0)), (1, .int a1), (2, .int a2)] := hl
    refine lv_iload_n hx hb dX1_arrange_0 rfl (lv_at hl 1 rfl) ?_
    refine lv_aload_n hx hb dX1_arrange_1 rfl (lv_at hl 0 rfl) ?_
    refine tw_geti hx hb hW hown hK hS f_X1_49_1 hz_a0 hk_a0 (lo := 0) (hi := 6) rfl dX1_arrange_2 (fun x3 k2 h1 => ?_)
    refine lv_icmp_lt (tgt := 37) hx hb dX1_arrange_5 (by decide) (fun c4 => ?_) (fun c4 => ?_)
    · have q5 : a1.toInt < x3.toInt := ti_lt c4
      have h6 : iv 0 5 a1 := iv_ltL (y := x3) h_a1 h1 q5 (by decide)
      have h7 : iv 1 6 x3 := iv_gtL (y := a1) h1 h_a1 q5 (by decide)
      refine lv_iload_n hx hb dX1_arrange_37 rfl (lv_at hl 1 rfl) ?_
      refine lv_istore_n (lv' := [(3, .int a1), (0, .ref (base + a0)), (1, .int a1), (2, .int a2)]) hx hb dX1_arrange_38 rfl hl (by decide) rfl (fun ls hl => ?_)
      have W39_9 : ∀ (n_9 : Nat) (x8 : Int32) (M9 : MT) (R10 : RT) (J11 : JT) (H : Heap) (locs : List Loc) (ls : Array Slot) (h_x8 : iv 0 6 x8) (w0_9 : a1.toInt ≤ x8.toInt) (hm_9 : 6 - x8.toInt < (n_9 : Int)) (hS : SB D cy base Z K N Lt_X1_arrange LRt_X1_arrange Ma Ra M9 R10 J11 s H locs) (hl : lv_has ls 5 [(3, .int x8), (0, .ref (base + a0)), (1, .int a1), (2, .int a2)]), W p l e (md_rm (6 + 2 * (d + 1)) 0 0) s m args below meth c H locs 0 0 Q (F0 m 39 ls []) := by
        intro n_9
        induction n_9 with
        | zero =>
          intro x8 M9 R10 J11 H locs ls h_x8 w0_9 hm_9 hS hl
          exfalso
          have := (h6).1; have := (h6).2; have := (h_a2).1; have := (h_a2).2; have := (h_x8).1; have := (h_x8).2; omega
        | succ n_9 ih_9 =>
          intro x8 M9 R10 J11 H locs ls h_x8 w0_9 hm_9 hS hl
          have f12 := hS.2.2.1
          have g13 := hS.2.2.2
          refine lv_iload_n hx hb dX1_arrange_39 rfl (lv_at hl 0 rfl) ?_
          refine lv_aload_n hx hb dX1_arrange_40 rfl (lv_at hl 1 rfl) ?_
          have k14 : M9 a0 5 = x3 := (Fr.kp (k := 5) f12 hk_a0 rfl).trans k2
          refine tw_getk hx hb hW hown hK hS f_X1_49_1 hz_a0 hk_a0 (v := x3) k14 dX1_arrange_41 ?_
          refine lv_icmp_ge (tgt := 145) hx hb dX1_arrange_44 (by decide) (fun c15 => ?_) (fun c15 => ?_)
          · have q16 : x3.toInt ≤ x8.toInt := ti_le c15
            have h17 : iv 1 6 x8 := iv_geL (y := x3) h_x8 h7 q16 (by decide)
            exact tw_endv hx hb hr hlocks hK hT hS hQ (trivial) dX1_arrange_145
          · have q18 : x8.toInt < x3.toInt := ti_nle c15
            have h19 : iv 0 5 x8 := iv_ltL (y := x3) h_x8 h7 q18 (by decide)
            refine lv_aload_n hx hb dX1_arrange_47 rfl (lv_at hl 1 rfl) ?_
            refine tw_getr hx hb hW hown hK hS f_X1_16_1 hz_a0 hk_a0 (t := 21) (n := 6) rfl dX1_arrange_48 (fun b20 k21 hz_b20 hk_b20 hn_b20 => ?_)
            have hn_b20 := hn_b20 (by decide)
            refine lv_iload_n hx hb dX1_arrange_51 rfl (lv_at hl 0 rfl) ?_
            refine tw_iald hx hb hK hS hz_b20 hk_b20 (Or.inr (by decide)) hn_b20 (lo := 0) (hi := 11) h19 ⟨by decide, by decide⟩ rg_u21 dX1_arrange_52 (fun x24 k23 h22 => ?_)
            refine lv_istore (lv' := [(4, .int x24), (3, .int x8), (0, .ref (base + a0)), (1, .int a1), (2, .int a2)]) hx hb dX1_arrange_53 hl (by decide) rfl (fun ls hl => ?_)
            refine lv_iload_n hx hb dX1_arrange_55 rfl (lv_at hl 1 rfl) ?_
            refine lv_iload_n hx hb dX1_arrange_56 rfl (lv_at hl 3 rfl) ?_
            have J73_25 : ∀  (M25 : MT) (R26 : RT) (J27 : JT) (H : Heap) (locs : List Loc) (ls : Array Slot) (hS : SB D cy base Z K N Lt_X1_arrange LRt_X1_arrange Ma Ra M25 R26 J27 s H locs) (hl : lv_has ls 5 [(4, .int x24), (3, .int x8), (0, .ref (base + a0)), (1, .int a1), (2, .int a2)]), W p l e (md_rm (6 + 2 * (d + 1)) 0 0) s m args below meth c H locs 0 0 Q (F0 m 73 ls []) := by
              intro  M25 R26 J27 H locs ls  hS hl
              have f28 := hS.2.2.1
              have g29 := hS.2.2.2
              refine lv_aload_n hx hb dX1_arrange_73 rfl (lv_at hl 2 rfl) ?_
              refine tw_getr hx hb hW hown hK hS f_X1_16_1 hz_a0 hk_a0 (t := 21) (n := 6) rfl dX1_arrange_74 (fun b30 k31 hz_b30 hk_b30 hn_b30 => ?_)
              have hn_b30 := hn_b30 (by decide)
              refine lv_iload_n hx hb dX1_arrange_77 rfl (lv_at hl 3 rfl) ?_
              refine lv_aload_n hx hb dX1_arrange_78 rfl (lv_at hl 2 rfl) ?_
              refine tw_getrk hx hb hW hown hK hS f_X1_16_1 hz_a0 hk_a0 (b := b30) k31 dX1_arrange_79 ?_
              refine lv_iload_n hx hb dX1_arrange_82 rfl (lv_at hl 3 rfl) ?_
              refine lv_iconst (v := 1) hx hb dX1_arrange_83 (by decide) ?_
              refine tw_iadd (lo := 1) (hi := 6) hx hb h6 (iv_c (c := 1) (n := 1) (by decide)) ⟨by decide, by decide⟩ ⟨by decide, by decide⟩ dX1_arrange_84 (fun x34 e33 h32 => ?_)
              have e33 : x34.toInt = a1.toInt + 1 := e33
              refine lv_iload_n hx hb dX1_arrange_85 rfl (lv_at hl 1 rfl) ?_
              refine lv_iload_n hx hb dX1_arrange_86 rfl (lv_at hl 3 rfl) ?_
              refine tw_isub (lo := (-5)) (hi := 5) hx hb h19 h6 ⟨by decide, by decide⟩ ⟨by decide, by decide⟩ dX1_arrange_87 (fun x37 e36 h35 => ?_)
              refine tw_copy hx hb (hml.trans hl.1.symm) hW hown hK hS (md_okc w_5_128 rfl (md_okc w_3_226 rfl (md_okc w_3_225 rfl (md_okc w_1_18 rfl (md_ok0))))) hz_b30 hk_b30 (Or.inr (by decide)) hz_b30 hk_b30 (Or.inr (by decide)) hn_b30 hn_b30 (by have := (h19).1; have := (h19).2; have := (h35).1; have := (h35).2; have := (h32).1; have := (h32).2; have := (h6).1; have := (h6).2; omega) (by have := (h19).1; have := (h19).2; have := (h35).1; have := (h35).2; have := (h32).1; have := (h32).2; have := (h6).1; have := (h6).2; omega) (by have := (h19).1; have := (h19).2; have := (h35).1; have := (h35).2; have := (h32).1; have := (h32).2; have := (h6).1; have := (h6).2; omega) (by have := (h19).1; have := (h19).2; have := (h35).1; have := (h35).2; have := (h32).1; have := (h32).2; have := (h6).1; have := (h6).2; omega) (by have := (h19).1; have := (h19).2; have := (h35).1; have := (h35).2; have := (h32).1; have := (h32).2; have := (h6).1; have := (h6).2; omega) (fun _ _ => ⟨by show (0 : Int) ≤ 0; decide, by show (11 : Int) ≤ 11; decide⟩) (by simp only [md_rm]; omega) (Nat.le_trans (m := 40) (Nat.le_of_ble_eq_true rfl) (by simp only [md_rm]; omega)) rfl dX1_arrange_88 (fun H locs M40 hS f38 k39 => ?_)
              refine lv_aload_n hx hb dX1_arrange_91 rfl (lv_at hl 2 rfl) ?_
              refine tw_getrk hx hb hW hown hK hS f_X1_16_1 hz_a0 hk_a0 (b := b30) k31 dX1_arrange_92 ?_
              refine lv_iload_n hx hb dX1_arrange_95 rfl (lv_at hl 3 rfl) ?_
              refine lv_iload hx hb dX1_arrange_96 (lv_at hl 0 rfl) ?_
              refine tw_iast hx hb hK hS hz_b30 hk_b30 (Or.inr (by decide)) hn_b30 h6 ⟨by decide, by decide⟩ h22 (rg_s21 ⟨by decide, by decide⟩) (jl := 0) (jh := 1999999) ⟨by decide, by decide⟩ rfl dX1_arrange_98 (fun H locs M43 hS k41 f42 => ?_)
              refine lv_aload_n hx hb dX1_arrange_99 rfl (lv_at hl 2 rfl) ?_
              refine lv_iload_n hx hb dX1_arrange_100 rfl (lv_at hl 3 rfl) ?_
              refine lv_iconst (v := 1) hx hb dX1_arrange_101 (by decide) ?_
              refine tw_iadd (lo := 1) (hi := 6) hx hb h6 (iv_c (c := 1) (n := 1) (by decide)) ⟨by decide, by decide⟩ ⟨by decide, by decide⟩ dX1_arrange_102 (fun x46 e45 h44 => ?_)
              have e45 : x46.toInt = a1.toInt + 1 := e45
              refine lv_iload_n hx hb dX1_arrange_103 rfl (lv_at hl 4 rfl) ?_
              refine lv_aload_n hx hb dX1_arrange_104 rfl (lv_at hl 2 rfl) ?_
              refine lv_iload_n hx hb dX1_arrange_105 rfl (lv_at hl 3 rfl) ?_
              refine tw_goi hS (md_runV (As := [.int a1]) (rest := [.int a2, .int x46, .ref (base + a0)]) hx hb hml hown hW hK hT hS.1 (t_X1_gainAt l D cy tx base Z K N M43 R26 J27 hS.2.1 a0 hz_a0 hk_a0 a1 h6) s_X1_72 ⟨rfl, rfl, ⟨by simp only [md_rm]; omega, by simp only [md_rm]; omega⟩, ⟨Nat.le_of_ble_eq_true rfl, Nat.le_of_ble_eq_true rfl⟩⟩ hz_a0 hk_a0 (by decide) rfl rfl hl.1 rfl (Nat.le_of_ble_eq_true rfl) dX1_arrange_106) rfl rfl (fun x53 H locs M50 R51 J49 hS f47 g48 E52 => ?_)
              have h_x53 := E52
              clear E52
              refine lv_iadd hx hb dX1_arrange_109 ?_
              refine tw_top (fun x55 => ?_)
              have h54 := iv_any x55
              have hm56 : 6 - x46.toInt < (d : Int) := by
                have := (h6).1; have := (h6).2; have := (h_a2).1; have := (h_a2).2; have := (h32).1; have := (h32).2; have := (h35).1; have := (h35).2; have := (h44).1; have := (h44).2; have := (h19).1; have := (h19).2; omega
              refine tw_gov hS (md_runV (As := [.int x46, .int x55]) (rest := []) hx hb hml hown hW hK hT hS.1 (ih M50 R51 J49 hS.2.1 a0 hz_a0 hk_a0 x46 (iv_mono h44 (by decide) (by decide)) x55 h54 hm56) s_X1_69 ⟨rfl, rfl, ⟨by simp only [md_rm]; omega, by simp only [md_rm]; omega⟩, ⟨Nat.le_of_ble_eq_true rfl, Nat.le_of_ble_eq_true rfl⟩⟩ hz_a0 hk_a0 (by decide) rfl rfl hl.1 rfl (Nat.le_of_ble_eq_true rfl) dX1_arrange_110) rfl rfl (fun H locs M60 R61 J59 hS f57 g58 E62 => ?_)
              refine lv_aload_n hx hb dX1_arrange_113 rfl (lv_at hl 2 rfl) ?_
              have k63 : R61 a0 3 = some b30 := ((Fr.kp (k := 3) g58 hk_a0 rfl).trans (Fr.kp (k := 3) g48 hk_a0 rfl)).trans k31
              refine tw_getrk hx hb hW hown hK hS f_X1_16_1 hz_a0 hk_a0 (b := b30) k63 dX1_arrange_114 ?_
              refine lv_iload_n hx hb dX1_arrange_117 rfl (lv_at hl 3 rfl) ?_
              refine lv_iconst (v := 1) hx hb dX1_arrange_118 (by decide) ?_
              refine tw_iadd (lo := 1) (hi := 6) hx hb h6 (iv_c (c := 1) (n := 1) (by decide)) ⟨by decide, by decide⟩ ⟨by decide, by decide⟩ dX1_arrange_119 (fun x66 e65 h64 => ?_)
              have e65 : x66.toInt = a1.toInt + 1 := e65
              refine lv_aload_n hx hb dX1_arrange_120 rfl (lv_at hl 2 rfl) ?_
              refine tw_getrk hx hb hW hown hK hS f_X1_16_1 hz_a0 hk_a0 (b := b30) k63 dX1_arrange_121 ?_
              refine lv_iload_n hx hb dX1_arrange_124 rfl (lv_at hl 3 rfl) ?_
              refine lv_iload_n hx hb dX1_arrange_125 rfl (lv_at hl 1 rfl) ?_
              refine lv_iload_n hx hb dX1_arrange_126 rfl (lv_at hl 3 rfl) ?_
              refine tw_isub (lo := (-5)) (hi := 5) hx hb h19 h6 ⟨by decide, by decide⟩ ⟨by decide, by decide⟩ dX1_arrange_127 (fun x69 e68 h67 => ?_)
              refine tw_copy hx hb (hml.trans hl.1.symm) hW hown hK hS (md_okc w_5_128 rfl (md_okc w_3_226 rfl (md_okc w_3_225 rfl (md_okc w_1_18 rfl (md_ok0))))) hz_b30 hk_b30 (Or.inr (by decide)) hz_b30 hk_b30 (Or.inr (by decide)) hn_b30 hn_b30 (by have := (h19).1; have := (h19).2; have := (h67).1; have := (h67).2; have := (h6).1; have := (h6).2; have := (h64).1; have := (h64).2; omega) (by have := (h19).1; have := (h19).2; have := (h67).1; have := (h67).2; have := (h6).1; have := (h6).2; have := (h64).1; have := (h64).2; omega) (by have := (h19).1; have := (h19).2; have := (h67).1; have := (h67).2; have := (h6).1; have := (h6).2; have := (h64).1; have := (h64).2; omega) (by have := (h19).1; have := (h19).2; have := (h67).1; have := (h67).2; have := (h6).1; have := (h6).2; have := (h64).1; have := (h64).2; omega) (by have := (h19).1; have := (h19).2; have := (h67).1; have := (h67).2; have := (h6).1; have := (h6).2; have := (h64).1; have := (h64).2; omega) (fun _ _ => ⟨by show (0 : Int) ≤ 0; decide, by show (11 : Int) ≤ 11; decide⟩) (by simp only [md_rm]; omega) (Nat.le_trans (m := 40) (Nat.le_of_ble_eq_true rfl) (by simp only [md_rm]; omega)) rfl dX1_arrange_128 (fun H locs M72 hS f70 k71 => ?_)
              refine lv_aload_n hx hb dX1_arrange_131 rfl (lv_at hl 2 rfl) ?_
              refine tw_getrk hx hb hW hown hK hS f_X1_16_1 hz_a0 hk_a0 (b := b30) k63 dX1_arrange_132 ?_
              refine lv_iload_n hx hb dX1_arrange_135 rfl (lv_at hl 1 rfl) ?_
              refine lv_iload hx hb dX1_arrange_136 (lv_at hl 0 rfl) ?_
              refine tw_iast hx hb hK hS hz_b30 hk_b30 (Or.inr (by decide)) hn_b30 h19 ⟨by decide, by decide⟩ h22 (rg_s21 ⟨by decide, by decide⟩) (jl := 0) (jh := 1999999) ⟨by decide, by decide⟩ rfl dX1_arrange_138 (fun H locs M75 hS k73 f74 => ?_)
              refine tw_iinc (lv' := fun x78 => [(3, .int x78), (4, .int x24), (0, .ref (base + a0)), (1, .int a1), (2, .int a2)]) (lo := 1) (hi := 6) hx hb dX1_arrange_139 hl (k := 1) rfl h19 (by decide) ⟨by decide, by decide⟩ ⟨by decide, by decide⟩ (by decide) (fun _ => rfl) (fun x78 ls e77 h76 hl => ?_)
              refine lv_goto (tgt := 39) hx hb dX1_arrange_142 (by decide) ?_
              have w79 : a1.toInt ≤ x78.toInt := by
                have := (h6).1; have := (h6).2; have := (h_a2).1; have := (h_a2).2; have := (h32).1; have := (h32).2; have := (h35).1; have := (h35).2; have := (h44).1; have := (h44).2; have := (h64).1; have := (h64).2; have := (h67).1; have := (h67).2; have := (h76).1; have := (h76).2; have := (h19).1; have := (h19).2; omega
              have hm80 : 6 - x78.toInt < (n_9 : Int) := by
                have := (h6).1; have := (h6).2; have := (h_a2).1; have := (h_a2).2; have := (h32).1; have := (h32).2; have := (h35).1; have := (h35).2; have := (h44).1; have := (h44).2; have := (h64).1; have := (h64).2; have := (h67).1; have := (h67).2; have := (h76).1; have := (h76).2; have := (h19).1; have := (h19).2; omega
              exact ih_9 x78 M75 R61 J59 H locs _ (iv_mono h76 (by decide) (by decide)) w79 hm80 hS (lv_sub hl [0, 2, 3, 4] rfl)
            refine lv_icmp_eq (tgt := 73) hx hb dX1_arrange_57 (by decide) (fun c81 => ?_) (fun c81 => ?_)
            · have q82 : x8.toInt = a1.toInt := ti_eq c81
              exact J73_25  M9 R10 J11 H locs _  hS hl
            · have q83 : ¬ x8.toInt = a1.toInt := ti_ne c81
              refine lv_iload hx hb dX1_arrange_60 (lv_at hl 0 rfl) ?_
              refine lv_aload_n hx hb dX1_arrange_62 rfl (lv_at hl 2 rfl) ?_
              refine tw_getrk hx hb hW hown hK hS f_X1_16_1 hz_a0 hk_a0 (b := b20) k21 dX1_arrange_63 ?_
              refine lv_iload_n hx hb dX1_arrange_66 rfl (lv_at hl 1 rfl) ?_
              refine lv_iconst (v := 1) hx hb dX1_arrange_67 (by decide) ?_
              refine tw_isub (lo := (-1)) (hi := 4) hx hb h19 (iv_c (c := 1) (n := 1) (by decide)) ⟨by decide, by decide⟩ ⟨by decide, by decide⟩ dX1_arrange_68 (fun x86 e85 h84 => ?_)
              have e85 : x86.toInt = x8.toInt - 1 := e85
              have h87 : iv 0 5 x86 := by
                have := (h6).1; have := (h6).2; have := (h_a2).1; have := (h_a2).2; have := (h19).1; have := (h19).2; have := (h84).1; have := (h84).2; exact ⟨by omega, by omega⟩
              refine tw_iald hx hb hK hS hz_b20 hk_b20 (Or.inr (by decide)) hn_b20 (lo := 0) (hi := 11) h87 ⟨by decide, by decide⟩ rg_u21 dX1_arrange_69 (fun x90 k89 h88 => ?_)
              refine lv_icmp_eq (tgt := 139) hx hb dX1_arrange_70 (by decide) (fun c91 => ?_) (fun c91 => ?_)
              · have q92 : x24.toInt = x90.toInt := ti_eq c91
                refine tw_iinc (lv' := fun x95 => [(3, .int x95), (4, .int x24), (0, .ref (base + a0)), (1, .int a1), (2, .int a2)]) (lo := 1) (hi := 6) hx hb dX1_arrange_139 hl (k := 1) rfl h19 (by decide) ⟨by decide, by decide⟩ ⟨by decide, by decide⟩ (by decide) (fun _ => rfl) (fun x95 ls e94 h93 hl => ?_)
                refine lv_goto (tgt := 39) hx hb dX1_arrange_142 (by decide) ?_
                have w96 : a1.toInt ≤ x95.toInt := by
                  have := (h6).1; have := (h6).2; have := (h_a2).1; have := (h_a2).2; have := (h19).1; have := (h19).2; have := (h87).1; have := (h87).2; have := (h93).1; have := (h93).2; omega
                have hm97 : 6 - x95.toInt < (n_9 : Int) := by
                  have := (h6).1; have := (h6).2; have := (h_a2).1; have := (h_a2).2; have := (h19).1; have := (h19).2; have := (h87).1; have := (h87).2; have := (h93).1; have := (h93).2; omega
                exact ih_9 x95 M9 R10 J11 H locs _ (iv_mono h93 (by decide) (by decide)) w96 hm97 hS (lv_sub hl [0, 2, 3, 4] rfl)
              · have q98 : ¬ x24.toInt = x90.toInt := ti_ne c91
                exact J73_25  M9 R10 J11 H locs _  hS hl
      have w99 : a1.toInt ≤ a1.toInt := by
        have := (h6).1; have := (h6).2; have := (h_a2).1; have := (h_a2).2; omega
      have hm100 : 6 - a1.toInt < (((7 : Nat) : Int) : Int) := by
        have := (h6).1; have := (h6).2; have := (h_a2).1; have := (h_a2).2; omega
      exact W39_9 7 a1 Ma Ra Ja s.heap [] _ (iv_mono h6 (by decide) (by decide)) w99 hm100 hS hl
    · have q101 : x3.toInt ≤ a1.toInt := ti_nlt c4
      refine lv_iload_n hx hb dX1_arrange_8 rfl (lv_at hl 2 rfl) ?_
      refine lv_aload_n hx hb dX1_arrange_9 rfl (lv_at hl 0 rfl) ?_
      refine tw_geti hx hb hW hown hK hS f_X1_53_1 hz_a0 hk_a0 (lo := (-2147483648)) (hi := 2147483647) rfl dX1_arrange_10 (fun x104 k103 h102 => ?_)
      refine lv_icmp_le (tgt := 36) hx hb dX1_arrange_13 (by decide) (fun c105 => ?_) (fun c105 => ?_)
      · have q106 : a2.toInt ≤ x104.toInt := ti_le c105
        exact tw_endv hx hb hr hlocks hK hT hS hQ (trivial) dX1_arrange_36
      · have q107 : x104.toInt < a2.toInt := ti_nle c105
        have h108 : iv (-2147483647) 2147483647 a2 := iv_gtL (y := x104) h_a2 h102 q107 (by decide)
        have h109 : iv (-2147483648) 2147483646 x104 := iv_ltL (y := a2) h102 h_a2 q107 (by decide)
        refine lv_aload_n hx hb dX1_arrange_16 rfl (lv_at hl 0 rfl) ?_
        refine lv_iload_n hx hb dX1_arrange_17 rfl (lv_at hl 2 rfl) ?_
        refine tw_puti hx hb hW hown hK hS f_X1_53_1 hz_a0 hk_a0 rfl rfl (lo := (-2147483648)) (hi := 2147483647) rfl (iv_mono h108 (by decide) (by decide)) rfl dX1_arrange_18 (fun H locs M112 hS k110 f111 => ?_)
        refine lv_aload_n hx hb dX1_arrange_21 rfl (lv_at hl 0 rfl) ?_
        refine tw_getr hx hb hW hown hK hS f_X1_16_1 hz_a0 hk_a0 (t := 21) (n := 6) rfl dX1_arrange_22 (fun b113 k114 hz_b113 hk_b113 hn_b113 => ?_)
        have hn_b113 := hn_b113 (by decide)
        refine lv_iconst (v := 0) hx hb dX1_arrange_25 (by decide) ?_
        refine lv_aload_n hx hb dX1_arrange_26 rfl (lv_at hl 0 rfl) ?_
        refine tw_getr hx hb hW hown hK hS f_X1_20_1 hz_a0 hk_a0 (t := 21) (n := 6) rfl dX1_arrange_27 (fun b115 k116 hz_b115 hk_b115 hn_b115 => ?_)
        have hn_b115 := hn_b115 (by decide)
        refine lv_iconst (v := 0) hx hb dX1_arrange_30 (by decide) ?_
        refine lv_bipush (v := 6) hx hb dX1_arrange_31 (by decide) ?_
        refine tw_copy hx hb (hml.trans hl.1.symm) hW hown hK hS (md_okc w_5_128 rfl (md_okc w_3_226 rfl (md_okc w_3_225 rfl (md_okc w_1_18 rfl (md_ok0))))) hz_b115 hk_b115 (Or.inr (by decide)) hz_b113 hk_b113 (Or.inr (by decide)) hn_b115 hn_b113 (by have := ((iv_c (c := 6) (n := 6) (by decide))).1; have := ((iv_c (c := 6) (n := 6) (by decide))).2; have := ((iv_c (c := 0) (n := 0) (by decide))).1; have := ((iv_c (c := 0) (n := 0) (by decide))).2; have := ((iv_c (c := 0) (n := 0) (by decide))).1; have := ((iv_c (c := 0) (n := 0) (by decide))).2; omega) (by have := ((iv_c (c := 6) (n := 6) (by decide))).1; have := ((iv_c (c := 6) (n := 6) (by decide))).2; have := ((iv_c (c := 0) (n := 0) (by decide))).1; have := ((iv_c (c := 0) (n := 0) (by decide))).2; have := ((iv_c (c := 0) (n := 0) (by decide))).1; have := ((iv_c (c := 0) (n := 0) (by decide))).2; omega) (by have := ((iv_c (c := 6) (n := 6) (by decide))).1; have := ((iv_c (c := 6) (n := 6) (by decide))).2; have := ((iv_c (c := 0) (n := 0) (by decide))).1; have := ((iv_c (c := 0) (n := 0) (by decide))).2; have := ((iv_c (c := 0) (n := 0) (by decide))).1; have := ((iv_c (c := 0) (n := 0) (by decide))).2; omega) (by have := ((iv_c (c := 6) (n := 6) (by decide))).1; have := ((iv_c (c := 6) (n := 6) (by decide))).2; have := ((iv_c (c := 0) (n := 0) (by decide))).1; have := ((iv_c (c := 0) (n := 0) (by decide))).2; have := ((iv_c (c := 0) (n := 0) (by decide))).1; have := ((iv_c (c := 0) (n := 0) (by decide))).2; omega) (by have := ((iv_c (c := 6) (n := 6) (by decide))).1; have := ((iv_c (c := 6) (n := 6) (by decide))).2; have := ((iv_c (c := 0) (n := 0) (by decide))).1; have := ((iv_c (c := 0) (n := 0) (by decide))).2; have := ((iv_c (c := 0) (n := 0) (by decide))).1; have := ((iv_c (c := 0) (n := 0) (by decide))).2; omega) (fun _ _ => ⟨by show (0 : Int) ≤ 0; decide, by show (11 : Int) ≤ 11; decide⟩) (by simp only [md_rm]; omega) (Nat.le_trans (m := 40) (Nat.le_of_ble_eq_true rfl) (by simp only [md_rm]; omega)) rfl dX1_arrange_33 (fun H locs M119 hS f117 k118 => ?_)
        exact tw_endv hx hb hr hlocks hK hT hS hQ (trivial) dX1_arrange_36
def Lt_X1_insert : WL := [(21, 0, 2000000)]
def LRt_X1_insert : WL := []
set_option maxRecDepth 100000 in
set_option maxHeartbeats 4000000 in
theorem t_X1_insert (l : Launch) (D : va_G) (cy : Nat → ClassId) (tx : (Nat → Nat) × (Nat → Nat)) (base Z : Nat) (K N : Nat → Nat) (Ma : MT) (Ra : RT) (Ja : JT) (hTy : Ty Z K N Ma Ra) (a0 : Nat) (hz_a0 : a0 < Z) (hk_a0 : K a0 = 2) (a1 : Int32) (h_a1 : iv 0 11 a1) (a2 : Int32) (h_a2 : iv 0 5 a2) : Met l yX1_insert [Cond.code yX1_insert cX1_insert 4 none] (md_rm 1 0 0) (va_Pc [.ref (base + a0), .int a1, .int a2] (md_U D cy tx base Z K N Ma Ra Ja)) (mQv D cy tx base (fun u => TP Z K N Lt_X1_insert LRt_X1_insert Ma Ra u ∧ (True))) 0 0 (fun q => base ≤ q) := by
  refine tw_ofW (L := Lt_X1_insert) (LR := LRt_X1_insert) (by decide) (Nat.le_of_ble_eq_true rfl) hTy ?_
  intro p e s m args below meth c Q ls hx hb hr hlocks hown hml hW hK hT hS hQ hl
  have hl : lv_has ls 4 [(0, .ref (base + a0)), (1, .int a1), (2, .int a2)] := hl
  refine lv_iload_n hx hb dX1_insert_0 rfl (lv_at hl 2 rfl) ?_
  refine lv_istore_n (lv' := [(3, .int a2), (0, .ref (base + a0)), (1, .int a1), (2, .int a2)]) hx hb dX1_insert_1 rfl hl (by decide) rfl (fun ls hl => ?_)
  have W2_2 : ∀ (n_2 : Nat) (x1 : Int32) (M2 : MT) (R3 : RT) (J4 : JT) (H : Heap) (locs : List Loc) (ls : Array Slot) (h_x1 : iv 0 5 x1) (hm_2 : x1.toInt - 0 < (n_2 : Int)) (hS : SB D cy base Z K N Lt_X1_insert LRt_X1_insert Ma Ra M2 R3 J4 s H locs) (hl : lv_has ls 4 [(3, .int x1), (0, .ref (base + a0)), (1, .int a1), (2, .int a2)]), W p l e (md_rm 1 0 0) s m args below meth c H locs 0 0 Q (F0 m 2 ls []) := by
    intro n_2
    induction n_2 with
    | zero =>
      intro x1 M2 R3 J4 H locs ls h_x1 hm_2 hS hl
      exfalso
      have := (h_a1).1; have := (h_a1).2; have := (h_a2).1; have := (h_a2).2; have := (h_x1).1; have := (h_x1).2; omega
    | succ n_2 ih_2 =>
      intro x1 M2 R3 J4 H locs ls h_x1 hm_2 hS hl
      have f5 := hS.2.2.1
      have g6 := hS.2.2.2
      refine lv_iload_n hx hb dX1_insert_2 rfl (lv_at hl 0 rfl) ?_
      refine lv_if_le (tgt := 38) hx hb dX1_insert_3 (by decide) (fun c7 => ?_) (fun c7 => ?_)
      · have q8 : x1.toInt ≤ 0 := ti_le c7
        have h9 : iv 0 0 x1 := iv_leL (y := 0) h_x1 (iv_c (c := 0) (n := 0) (by decide)) q8 (by decide)
        refine lv_aload_n hx hb dX1_insert_38 rfl (lv_at hl 1 rfl) ?_
        refine tw_getr hx hb hW hown hK hS f_X1_16_1 hz_a0 hk_a0 (t := 21) (n := 6) rfl dX1_insert_39 (fun b10 k11 hz_b10 hk_b10 hn_b10 => ?_)
        have hn_b10 := hn_b10 (by decide)
        refine lv_iload_n hx hb dX1_insert_42 rfl (lv_at hl 0 rfl) ?_
        refine lv_iload_n hx hb dX1_insert_43 rfl (lv_at hl 2 rfl) ?_
        refine tw_iast hx hb hK hS hz_b10 hk_b10 (Or.inr (by decide)) hn_b10 h9 ⟨by decide, by decide⟩ h_a1 (rg_s21 ⟨by decide, by decide⟩) (jl := 0) (jh := 1999999) ⟨by decide, by decide⟩ rfl dX1_insert_44 (fun H locs M14 hS k12 f13 => ?_)
        exact tw_endv hx hb hr hlocks hK hT hS hQ (trivial) dX1_insert_45
      · have q15 : 0 < x1.toInt := ti_nle c7
        have h16 : iv 1 5 x1 := iv_gtL (y := 0) h_x1 (iv_c (c := 0) (n := 0) (by decide)) q15 (by decide)
        refine lv_aload_n hx hb dX1_insert_6 rfl (lv_at hl 1 rfl) ?_
        refine tw_getr hx hb hW hown hK hS f_X1_16_1 hz_a0 hk_a0 (t := 21) (n := 6) rfl dX1_insert_7 (fun b17 k18 hz_b17 hk_b17 hn_b17 => ?_)
        have hn_b17 := hn_b17 (by decide)
        refine lv_iload_n hx hb dX1_insert_10 rfl (lv_at hl 0 rfl) ?_
        refine lv_iconst (v := 1) hx hb dX1_insert_11 (by decide) ?_
        refine tw_isub (lo := 0) (hi := 4) hx hb h16 (iv_c (c := 1) (n := 1) (by decide)) ⟨by decide, by decide⟩ ⟨by decide, by decide⟩ dX1_insert_12 (fun x21 e20 h19 => ?_)
        have e20 : x21.toInt = x1.toInt - 1 := e20
        refine tw_iald hx hb hK hS hz_b17 hk_b17 (Or.inr (by decide)) hn_b17 (lo := 0) (hi := 11) h19 ⟨by decide, by decide⟩ rg_u21 dX1_insert_13 (fun x24 k23 h22 => ?_)
        refine lv_iload_n hx hb dX1_insert_14 rfl (lv_at hl 2 rfl) ?_
        refine lv_icmp_le (tgt := 38) hx hb dX1_insert_15 (by decide) (fun c25 => ?_) (fun c25 => ?_)
        · have q26 : x24.toInt ≤ a1.toInt := ti_le c25
          refine lv_aload_n hx hb dX1_insert_38 rfl (lv_at hl 1 rfl) ?_
          refine tw_getrk hx hb hW hown hK hS f_X1_16_1 hz_a0 hk_a0 (b := b17) k18 dX1_insert_39 ?_
          refine lv_iload_n hx hb dX1_insert_42 rfl (lv_at hl 0 rfl) ?_
          refine lv_iload_n hx hb dX1_insert_43 rfl (lv_at hl 2 rfl) ?_
          refine tw_iast hx hb hK hS hz_b17 hk_b17 (Or.inr (by decide)) hn_b17 h16 ⟨by decide, by decide⟩ h_a1 (rg_s21 ⟨by decide, by decide⟩) (jl := 0) (jh := 1999999) ⟨by decide, by decide⟩ rfl dX1_insert_44 (fun H locs M29 hS k27 f28 => ?_)
          exact tw_endv hx hb hr hlocks hK hT hS hQ (trivial) dX1_insert_45
        · have q30 : a1.toInt < x24.toInt := ti_nle c25
          have h31 : iv 1 11 x24 := iv_gtL (y := a1) h22 h_a1 q30 (by decide)
          have h32 : iv 0 10 a1 := iv_ltL (y := x24) h_a1 h22 q30 (by decide)
          refine lv_aload_n hx hb dX1_insert_18 rfl (lv_at hl 1 rfl) ?_
          refine tw_getrk hx hb hW hown hK hS f_X1_16_1 hz_a0 hk_a0 (b := b17) k18 dX1_insert_19 ?_
          refine lv_iload_n hx hb dX1_insert_22 rfl (lv_at hl 0 rfl) ?_
          refine lv_aload_n hx hb dX1_insert_23 rfl (lv_at hl 1 rfl) ?_
          refine tw_getrk hx hb hW hown hK hS f_X1_16_1 hz_a0 hk_a0 (b := b17) k18 dX1_insert_24 ?_
          refine lv_iload_n hx hb dX1_insert_27 rfl (lv_at hl 0 rfl) ?_
          refine lv_iconst (v := 1) hx hb dX1_insert_28 (by decide) ?_
          refine tw_isub (lo := 0) (hi := 4) hx hb h16 (iv_c (c := 1) (n := 1) (by decide)) ⟨by decide, by decide⟩ ⟨by decide, by decide⟩ dX1_insert_29 (fun x35 e34 h33 => ?_)
          have e34 : x35.toInt = x1.toInt - 1 := e34
          refine tw_iald hx hb hK hS hz_b17 hk_b17 (Or.inr (by decide)) hn_b17 (lo := 0) (hi := 11) h33 ⟨by decide, by decide⟩ rg_u21 dX1_insert_30 (fun x38 k37 h36 => ?_)
          refine tw_iast hx hb hK hS hz_b17 hk_b17 (Or.inr (by decide)) hn_b17 h16 ⟨by decide, by decide⟩ h36 (rg_s21 ⟨by decide, by decide⟩) (jl := 0) (jh := 1999999) ⟨by decide, by decide⟩ rfl dX1_insert_31 (fun H locs M41 hS k39 f40 => ?_)
          refine tw_iinc (lv' := fun x44 => [(3, .int x44), (0, .ref (base + a0)), (1, .int a1), (2, .int a2)]) (lo := 0) (hi := 4) hx hb dX1_insert_32 hl (k := 0) rfl h16 (by decide) ⟨by decide, by decide⟩ ⟨by decide, by decide⟩ (by decide) (fun _ => rfl) (fun x44 ls e43 h42 hl => ?_)
          refine lv_goto (tgt := 2) hx hb dX1_insert_35 (by decide) ?_
          have hm45 : x44.toInt - 0 < (n_2 : Int) := by
            have := (h32).1; have := (h32).2; have := (h_a2).1; have := (h_a2).2; have := (h16).1; have := (h16).2; have := (h19).1; have := (h19).2; have := (h33).1; have := (h33).2; have := (h42).1; have := (h42).2; omega
          exact ih_2 x44 M41 R3 J4 H locs _ (iv_mono h42 (by decide) (by decide)) hm45 hS hl
  have hm46 : a2.toInt - 0 < (((6 : Nat) : Int) : Int) := by
    have := (h_a1).1; have := (h_a1).2; have := (h_a2).1; have := (h_a2).2; omega
  exact W2_2 6 a2 Ma Ra Ja s.heap [] _ h_a2 hm46 hS hl
def Lt_X1_seek : WL := [(2, 5, 9), (6, 2, 4), (6, 6, 15), (20, 0, 2000000), (21, 0, 2000000)]
def LRt_X1_seek : WL := [(6, 4, 6)]
set_option maxRecDepth 100000 in
set_option maxHeartbeats 4000000 in
theorem t_X1_seek (l : Launch) (D : va_G) (cy : Nat → ClassId) (tx : (Nat → Nat) × (Nat → Nat)) (base Z : Nat) (K N : Nat → Nat) (Ma : MT) (Ra : RT) (Ja : JT) (hTy : Ty Z K N Ma Ra) (a0 : Nat) (hz_a0 : a0 < Z) (hk_a0 : K a0 = 2) (a1 : Int32) (h_a1 : iv 0 9 a1) (a2 : Int32) (h_a2 : iv (-2147483648) 2147483647 a2) : Met l yX1_seek [Cond.code yX1_seek cX1_seek 4 none] (md_rm 21 0 0) (va_Pc [.ref (base + a0), .int a1, .int a2] (md_U D cy tx base Z K N Ma Ra Ja)) (mQv D cy tx base (fun u => TP Z K N Lt_X1_seek LRt_X1_seek Ma Ra u ∧ (True))) 0 0 (fun q => base ≤ q) := by
  refine tw_ofW (L := Lt_X1_seek) (LR := LRt_X1_seek) (by decide) (Nat.le_of_ble_eq_true rfl) hTy ?_
  intro p e s m args below meth c Q ls hx hb hr hlocks hown hml hW hK hT hS hQ hl
  have hl : lv_has ls 4 [(0, .ref (base + a0)), (1, .int a1), (2, .int a2)] := hl
  refine lv_aload_n hx hb dX1_seek_0 rfl (lv_at hl 0 rfl) ?_
  refine lv_iload_n hx hb dX1_seek_1 rfl (lv_at hl 1 rfl) ?_
  refine tw_puti hx hb hW hown hK hS f_X1_31_1 hz_a0 hk_a0 rfl rfl (lo := 0) (hi := 9) rfl h_a1 rfl dX1_seek_2 (fun H locs M3 hS k1 f2 => ?_)
  refine lv_aload_n hx hb dX1_seek_5 rfl (lv_at hl 0 rfl) ?_
  refine lv_iload_n hx hb dX1_seek_6 rfl (lv_at hl 2 rfl) ?_
  refine lv_if_eq (tgt := 14) hx hb dX1_seek_7 (by decide) (fun c4 => ?_) (fun c4 => ?_)
  · have q5 : a2.toInt = 0 := ti_eq c4
    have h6 : iv 0 0 a2 := ⟨by have := (h_a2).1; have := ((iv_c (c := 0) (n := 0) (by decide))).1; omega, by have := (h_a2).2; have := ((iv_c (c := 0) (n := 0) (by decide))).2; omega⟩
    refine lv_iconst (v := (-1)) hx hb dX1_seek_14 (by decide) ?_
    refine tw_puti hx hb hW hown hK hS f_X1_35_1 hz_a0 hk_a0 rfl rfl (lo := (-2147483648)) (hi := 2147483647) rfl (iv_mono (iv_c (c := (-1)) (n := (-1)) (by decide)) (by decide) (by decide)) rfl dX1_seek_15 (fun H locs M9 hS k7 f8 => ?_)
    refine lv_aload_n hx hb dX1_seek_18 rfl (lv_at hl 0 rfl) ?_
    refine lv_aload_n hx hb dX1_seek_19 rfl (lv_at hl 0 rfl) ?_
    refine tw_getr hx hb hW hown hK hS f_X1_23_1 hz_a0 hk_a0 (t := 10) (n := 0) rfl dX1_seek_20 (fun b10 k11 hz_b10 hk_b10 hn_b10 => ?_)
    refine tw_geti hx hb hW hown hK hS f_X1_38_9 hz_b10 hk_b10 (lo := 0) (hi := 8) rfl dX1_seek_23 (fun x14 k13 h12 => ?_)
    refine lv_bipush (v := 6) hx hb dX1_seek_26 (by decide) ?_
    refine va_mmin hx hb (hml.trans hl.1.symm) hown (hW _ w_5_122 rfl) (hW _ w_3_86 rfl) (hW _ w_1_13 rfl) (hW _ w_3_87 rfl) (Nat.le_of_ble_eq_true rfl) (Nat.le_of_ble_eq_true rfl) (Nat.le_of_ble_eq_true rfl) (Nat.le_of_ble_eq_true rfl) dX1_seek_28 ?_
    refine tw_mmin (lo := 0) (hi := 6) h12 (iv_c (c := 6) (n := 6) (by decide)) (by decide) (fun x17 e16 h15 => ?_)
    refine tw_puti hx hb hW hown hK hS f_X1_49_1 hz_a0 hk_a0 rfl rfl (lo := 0) (hi := 6) rfl h15 rfl dX1_seek_31 (fun H locs M20 hS k18 f19 => ?_)
    refine lv_aload_n hx hb dX1_seek_34 rfl (lv_at hl 0 rfl) ?_
    refine lv_ldc hx hb hown (hW _ w_5_123 rfl) dX1_seek_35 ?_
    refine tw_puti hx hb hW hown hK hS f_X1_53_1 hz_a0 hk_a0 rfl rfl (lo := (-2147483648)) (hi := 2147483647) rfl (iv_mono (iv_c (c := (-1000000000)) (n := (-1000000000)) (by decide)) (by decide) (by decide)) rfl dX1_seek_37 (fun H locs M23 hS k21 f22 => ?_)
    refine lv_iconst (v := 0) hx hb dX1_seek_40 (by decide) ?_
    refine lv_istore_n (lv' := [(3, .int 0), (0, .ref (base + a0)), (1, .int a1), (2, .int a2)]) hx hb dX1_seek_41 rfl hl (by decide) rfl (fun ls hl => ?_)
    have W42_25 : ∀ (n_25 : Nat) (x24 : Int32) (M25 : MT) (R26 : RT) (J27 : JT) (H : Heap) (locs : List Loc) (ls : Array Slot) (h_x24 : iv 0 6 x24) (hm_25 : 6 - x24.toInt < (n_25 : Int)) (hS : SB D cy base Z K N Lt_X1_seek LRt_X1_seek Ma Ra M25 R26 J27 s H locs) (hl : lv_has ls 4 [(3, .int x24), (0, .ref (base + a0)), (1, .int a1), (2, .int a2)]), W p l e (md_rm 21 0 0) s m args below meth c H locs 0 0 Q (F0 m 42 ls []) := by
      intro n_25
      induction n_25 with
      | zero =>
        intro x24 M25 R26 J27 H locs ls h_x24 hm_25 hS hl
        exfalso
        have := (h_a1).1; have := (h_a1).2; have := (h6).1; have := (h6).2; have := (h_x24).1; have := (h_x24).2; omega
      | succ n_25 ih_25 =>
        intro x24 M25 R26 J27 H locs ls h_x24 hm_25 hS hl
        have f28 := hS.2.2.1
        have g29 := hS.2.2.2
        refine lv_iload_n hx hb dX1_seek_42 rfl (lv_at hl 0 rfl) ?_
        refine lv_aload_n hx hb dX1_seek_43 rfl (lv_at hl 1 rfl) ?_
        refine tw_geti hx hb hW hown hK hS f_X1_49_1 hz_a0 hk_a0 (lo := 0) (hi := 6) rfl dX1_seek_44 (fun x32 k31 h30 => ?_)
        refine lv_icmp_ge (tgt := 70) hx hb dX1_seek_47 (by decide) (fun c33 => ?_) (fun c33 => ?_)
        · have q34 : x32.toInt ≤ x24.toInt := ti_le c33
          refine lv_aload_n hx hb dX1_seek_70 rfl (lv_at hl 1 rfl) ?_
          have k35 : R26 a0 0 = some b10 := (Fr.kp (k := 0) g29 hk_a0 rfl).trans k11
          refine tw_getrk hx hb hW hown hK hS f_X1_23_1 hz_a0 hk_a0 (b := b10) k35 dX1_seek_71 ?_
          refine tw_getr hx hb hW hown hK hS f_X1_61_9 hz_b10 hk_b10 (t := 20) (n := 10) rfl dX1_seek_74 (fun b36 k37 hz_b36 hk_b36 hn_b36 => ?_)
          have hn_b36 := hn_b36 (by decide)
          refine lv_iconst (v := 0) hx hb dX1_seek_77 (by decide) ?_
          refine lv_aload_n hx hb dX1_seek_78 rfl (lv_at hl 1 rfl) ?_
          refine tw_getr hx hb hW hown hK hS f_X1_13_1 hz_a0 hk_a0 (t := 19) (n := 7) rfl dX1_seek_79 (fun b38 k39 hz_b38 hk_b38 hn_b38 => ?_)
          have hn_b38 := hn_b38 (by decide)
          refine lv_iconst (v := 0) hx hb dX1_seek_82 (by decide) ?_
          refine tw_row hx hb hK hS hz_b38 hk_b38 hn_b38 (iv_c (c := 0) (n := 0) (by decide)) ⟨by decide, by decide⟩ dX1_seek_83 (fun b40 k41 hz_b40 hk_b40 hn_b40 => ?_)
          refine lv_iconst (v := 0) hx hb dX1_seek_84 (by decide) ?_
          refine lv_bipush (v := 10) hx hb dX1_seek_85 (by decide) ?_
          refine tw_copy hx hb (hml.trans hl.1.symm) hW hown hK hS (md_okc w_5_128 rfl (md_okc w_3_226 rfl (md_okc w_3_225 rfl (md_okc w_1_18 rfl (md_ok0))))) hz_b40 hk_b40 (Or.inr (by decide)) hz_b36 hk_b36 (Or.inr (by decide)) hn_b40 hn_b36 (by have := ((iv_c (c := 10) (n := 10) (by decide))).1; have := ((iv_c (c := 10) (n := 10) (by decide))).2; have := ((iv_c (c := 0) (n := 0) (by decide))).1; have := ((iv_c (c := 0) (n := 0) (by decide))).2; have := ((iv_c (c := 0) (n := 0) (by decide))).1; have := ((iv_c (c := 0) (n := 0) (by decide))).2; omega) (by have := ((iv_c (c := 10) (n := 10) (by decide))).1; have := ((iv_c (c := 10) (n := 10) (by decide))).2; have := ((iv_c (c := 0) (n := 0) (by decide))).1; have := ((iv_c (c := 0) (n := 0) (by decide))).2; have := ((iv_c (c := 0) (n := 0) (by decide))).1; have := ((iv_c (c := 0) (n := 0) (by decide))).2; omega) (by have := ((iv_c (c := 10) (n := 10) (by decide))).1; have := ((iv_c (c := 10) (n := 10) (by decide))).2; have := ((iv_c (c := 0) (n := 0) (by decide))).1; have := ((iv_c (c := 0) (n := 0) (by decide))).2; have := ((iv_c (c := 0) (n := 0) (by decide))).1; have := ((iv_c (c := 0) (n := 0) (by decide))).2; omega) (by have := ((iv_c (c := 10) (n := 10) (by decide))).1; have := ((iv_c (c := 10) (n := 10) (by decide))).2; have := ((iv_c (c := 0) (n := 0) (by decide))).1; have := ((iv_c (c := 0) (n := 0) (by decide))).2; have := ((iv_c (c := 0) (n := 0) (by decide))).1; have := ((iv_c (c := 0) (n := 0) (by decide))).2; omega) (by have := ((iv_c (c := 10) (n := 10) (by decide))).1; have := ((iv_c (c := 10) (n := 10) (by decide))).2; have := ((iv_c (c := 0) (n := 0) (by decide))).1; have := ((iv_c (c := 0) (n := 0) (by decide))).2; have := ((iv_c (c := 0) (n := 0) (by decide))).1; have := ((iv_c (c := 0) (n := 0) (by decide))).2; omega) (fun _ _ => ⟨by show (-2147483648 : Int) ≤ -2147483648; decide, by show (2147483647 : Int) ≤ 2147483647; decide⟩) (Nat.le_of_ble_eq_true rfl) (Nat.le_of_ble_eq_true rfl) rfl dX1_seek_87 (fun H locs M44 hS f42 k43 => ?_)
          refine lv_aload_n hx hb dX1_seek_90 rfl (lv_at hl 1 rfl) ?_
          refine lv_iconst (v := 0) hx hb dX1_seek_91 (by decide) ?_
          refine lv_iconst (v := 0) hx hb dX1_seek_92 (by decide) ?_
          have hm45 : 6 - (0 : Int32).toInt < (((7 : Nat) : Int) : Int) := by
            have := (h_a1).1; have := (h_a1).2; have := (h6).1; have := (h6).2; have : (0 : Int32).toInt = 0 := (by decide); omega
          refine tw_gov hS (md_runV (As := [.int 0, .int 0]) (rest := []) hx hb hml hown hW hK hT hS.1 (t_X1_arrange l D cy tx base Z K N 7 M44 R26 J27 hS.2.1 a0 hz_a0 hk_a0 0 (iv_mono (iv_c (c := 0) (n := 0) (by decide)) (by decide) (by decide)) 0 (iv_mono (iv_c (c := 0) (n := 0) (by decide)) (by decide) (by decide)) hm45) s_X1_69 ⟨rfl, rfl, ⟨by simp only [md_rm]; omega, by simp only [md_rm]; omega⟩, ⟨Nat.le_of_ble_eq_true rfl, Nat.le_of_ble_eq_true rfl⟩⟩ hz_a0 hk_a0 (by decide) rfl rfl hl.1 rfl (Nat.le_of_ble_eq_true rfl) dX1_seek_93) rfl rfl (fun H locs M49 R50 J48 hS f46 g47 E51 => ?_)
          exact tw_endv hx hb hr hlocks hK hT hS hQ (trivial) dX1_seek_96
        · have q52 : x24.toInt < x32.toInt := ti_nle c33
          have h53 : iv 0 5 x24 := iv_ltL (y := x32) h_x24 h30 q52 (by decide)
          have h54 : iv 1 6 x32 := iv_gtL (y := x24) h30 h_x24 q52 (by decide)
          refine lv_aload_n hx hb dX1_seek_50 rfl (lv_at hl 1 rfl) ?_
          refine lv_aload_n hx hb dX1_seek_51 rfl (lv_at hl 1 rfl) ?_
          have k55 : R26 a0 0 = some b10 := (Fr.kp (k := 0) g29 hk_a0 rfl).trans k11
          refine tw_getrk hx hb hW hown hK hS f_X1_23_1 hz_a0 hk_a0 (b := b10) k55 dX1_seek_52 ?_
          refine tw_getr hx hb hW hown hK hS f_X1_56_9 hz_b10 hk_b10 (t := 21) (n := 8) rfl dX1_seek_55 (fun b56 k57 hz_b56 hk_b56 hn_b56 => ?_)
          have hn_b56 := hn_b56 (by decide)
          refine lv_iload_n hx hb dX1_seek_58 rfl (lv_at hl 0 rfl) ?_
          refine tw_iald hx hb hK hS hz_b56 hk_b56 (Or.inr (by decide)) hn_b56 (lo := 0) (hi := 11) h53 ⟨by decide, by decide⟩ rg_u21 dX1_seek_59 (fun x60 k59 h58 => ?_)
          refine lv_iload_n hx hb dX1_seek_60 rfl (lv_at hl 0 rfl) ?_
          refine tw_gov hS (md_runV (As := [.int x60, .int x24]) (rest := []) hx hb hml hown hW hK hT hS.1 (t_X1_insert l D cy tx base Z K N M25 R26 J27 hS.2.1 a0 hz_a0 hk_a0 x60 h58 x24 h53) s_X1_57 ⟨rfl, rfl, ⟨Nat.le_of_ble_eq_true rfl, Nat.le_of_ble_eq_true rfl⟩, ⟨Nat.le_of_ble_eq_true rfl, Nat.le_of_ble_eq_true rfl⟩⟩ hz_a0 hk_a0 (by decide) rfl rfl hl.1 rfl (Nat.le_of_ble_eq_true rfl) dX1_seek_61) rfl rfl (fun H locs M64 R65 J63 hS f61 g62 E66 => ?_)
          have eR65 := Fr.nil g62 rfl
          subst eR65
          refine tw_iinc (lv' := fun x69 => [(3, .int x69), (0, .ref (base + a0)), (1, .int a1), (2, .int a2)]) (lo := 1) (hi := 6) hx hb dX1_seek_64 hl (k := 0) rfl h53 (by decide) ⟨by decide, by decide⟩ ⟨by decide, by decide⟩ (by decide) (fun _ => rfl) (fun x69 ls e68 h67 hl => ?_)
          refine lv_goto (tgt := 42) hx hb dX1_seek_67 (by decide) ?_
          have hm70 : 6 - x69.toInt < (n_25 : Int) := by
            have := (h_a1).1; have := (h_a1).2; have := (h6).1; have := (h6).2; have := (h53).1; have := (h53).2; have := (h67).1; have := (h67).2; omega
          exact ih_25 x69 M64 R26 J63 H locs _ (iv_mono h67 (by decide) (by decide)) hm70 hS hl
    have hm71 : 6 - (0 : Int32).toInt < (((7 : Nat) : Int) : Int) := by
      have := (h_a1).1; have := (h_a1).2; have := (h6).1; have := (h6).2; have : (0 : Int32).toInt = 0 := (by decide); omega
    exact W42_25 7 0 M23 Ra Ja H locs _ (iv_mono (iv_c (c := 0) (n := 0) (by decide)) (by decide) (by decide)) hm71 hS hl
  · have q72 : ¬ a2.toInt = 0 := ti_ne c4
    refine lv_iconst (v := 1) hx hb dX1_seek_10 (by decide) ?_
    refine lv_goto (tgt := 15) hx hb dX1_seek_11 (by decide) ?_
    refine tw_puti hx hb hW hown hK hS f_X1_35_1 hz_a0 hk_a0 rfl rfl (lo := (-2147483648)) (hi := 2147483647) rfl (iv_mono (iv_c (c := 1) (n := 1) (by decide)) (by decide) (by decide)) rfl dX1_seek_15 (fun H locs M75 hS k73 f74 => ?_)
    refine lv_aload_n hx hb dX1_seek_18 rfl (lv_at hl 0 rfl) ?_
    refine lv_aload_n hx hb dX1_seek_19 rfl (lv_at hl 0 rfl) ?_
    refine tw_getr hx hb hW hown hK hS f_X1_23_1 hz_a0 hk_a0 (t := 10) (n := 0) rfl dX1_seek_20 (fun b76 k77 hz_b76 hk_b76 hn_b76 => ?_)
    refine tw_geti hx hb hW hown hK hS f_X1_38_9 hz_b76 hk_b76 (lo := 0) (hi := 8) rfl dX1_seek_23 (fun x80 k79 h78 => ?_)
    refine lv_bipush (v := 6) hx hb dX1_seek_26 (by decide) ?_
    refine va_mmin hx hb (hml.trans hl.1.symm) hown (hW _ w_5_122 rfl) (hW _ w_3_86 rfl) (hW _ w_1_13 rfl) (hW _ w_3_87 rfl) (Nat.le_of_ble_eq_true rfl) (Nat.le_of_ble_eq_true rfl) (Nat.le_of_ble_eq_true rfl) (Nat.le_of_ble_eq_true rfl) dX1_seek_28 ?_
    refine tw_mmin (lo := 0) (hi := 6) h78 (iv_c (c := 6) (n := 6) (by decide)) (by decide) (fun x83 e82 h81 => ?_)
    refine tw_puti hx hb hW hown hK hS f_X1_49_1 hz_a0 hk_a0 rfl rfl (lo := 0) (hi := 6) rfl h81 rfl dX1_seek_31 (fun H locs M86 hS k84 f85 => ?_)
    refine lv_aload_n hx hb dX1_seek_34 rfl (lv_at hl 0 rfl) ?_
    refine lv_ldc hx hb hown (hW _ w_5_123 rfl) dX1_seek_35 ?_
    refine tw_puti hx hb hW hown hK hS f_X1_53_1 hz_a0 hk_a0 rfl rfl (lo := (-2147483648)) (hi := 2147483647) rfl (iv_mono (iv_c (c := (-1000000000)) (n := (-1000000000)) (by decide)) (by decide) (by decide)) rfl dX1_seek_37 (fun H locs M89 hS k87 f88 => ?_)
    refine lv_iconst (v := 0) hx hb dX1_seek_40 (by decide) ?_
    refine lv_istore_n (lv' := [(3, .int 0), (0, .ref (base + a0)), (1, .int a1), (2, .int a2)]) hx hb dX1_seek_41 rfl hl (by decide) rfl (fun ls hl => ?_)
    have W42_91 : ∀ (n_91 : Nat) (x90 : Int32) (M91 : MT) (R92 : RT) (J93 : JT) (H : Heap) (locs : List Loc) (ls : Array Slot) (h_x90 : iv 0 6 x90) (hm_91 : 6 - x90.toInt < (n_91 : Int)) (hS : SB D cy base Z K N Lt_X1_seek LRt_X1_seek Ma Ra M91 R92 J93 s H locs) (hl : lv_has ls 4 [(3, .int x90), (0, .ref (base + a0)), (1, .int a1), (2, .int a2)]), W p l e (md_rm 21 0 0) s m args below meth c H locs 0 0 Q (F0 m 42 ls []) := by
      intro n_91
      induction n_91 with
      | zero =>
        intro x90 M91 R92 J93 H locs ls h_x90 hm_91 hS hl
        exfalso
        have := (h_a1).1; have := (h_a1).2; have := (h_a2).1; have := (h_a2).2; have := (h_x90).1; have := (h_x90).2; omega
      | succ n_91 ih_91 =>
        intro x90 M91 R92 J93 H locs ls h_x90 hm_91 hS hl
        have f94 := hS.2.2.1
        have g95 := hS.2.2.2
        refine lv_iload_n hx hb dX1_seek_42 rfl (lv_at hl 0 rfl) ?_
        refine lv_aload_n hx hb dX1_seek_43 rfl (lv_at hl 1 rfl) ?_
        refine tw_geti hx hb hW hown hK hS f_X1_49_1 hz_a0 hk_a0 (lo := 0) (hi := 6) rfl dX1_seek_44 (fun x98 k97 h96 => ?_)
        refine lv_icmp_ge (tgt := 70) hx hb dX1_seek_47 (by decide) (fun c99 => ?_) (fun c99 => ?_)
        · have q100 : x98.toInt ≤ x90.toInt := ti_le c99
          refine lv_aload_n hx hb dX1_seek_70 rfl (lv_at hl 1 rfl) ?_
          have k101 : R92 a0 0 = some b76 := (Fr.kp (k := 0) g95 hk_a0 rfl).trans k77
          refine tw_getrk hx hb hW hown hK hS f_X1_23_1 hz_a0 hk_a0 (b := b76) k101 dX1_seek_71 ?_
          refine tw_getr hx hb hW hown hK hS f_X1_61_9 hz_b76 hk_b76 (t := 20) (n := 10) rfl dX1_seek_74 (fun b102 k103 hz_b102 hk_b102 hn_b102 => ?_)
          have hn_b102 := hn_b102 (by decide)
          refine lv_iconst (v := 0) hx hb dX1_seek_77 (by decide) ?_
          refine lv_aload_n hx hb dX1_seek_78 rfl (lv_at hl 1 rfl) ?_
          refine tw_getr hx hb hW hown hK hS f_X1_13_1 hz_a0 hk_a0 (t := 19) (n := 7) rfl dX1_seek_79 (fun b104 k105 hz_b104 hk_b104 hn_b104 => ?_)
          have hn_b104 := hn_b104 (by decide)
          refine lv_iconst (v := 0) hx hb dX1_seek_82 (by decide) ?_
          refine tw_row hx hb hK hS hz_b104 hk_b104 hn_b104 (iv_c (c := 0) (n := 0) (by decide)) ⟨by decide, by decide⟩ dX1_seek_83 (fun b106 k107 hz_b106 hk_b106 hn_b106 => ?_)
          refine lv_iconst (v := 0) hx hb dX1_seek_84 (by decide) ?_
          refine lv_bipush (v := 10) hx hb dX1_seek_85 (by decide) ?_
          refine tw_copy hx hb (hml.trans hl.1.symm) hW hown hK hS (md_okc w_5_128 rfl (md_okc w_3_226 rfl (md_okc w_3_225 rfl (md_okc w_1_18 rfl (md_ok0))))) hz_b106 hk_b106 (Or.inr (by decide)) hz_b102 hk_b102 (Or.inr (by decide)) hn_b106 hn_b102 (by have := ((iv_c (c := 10) (n := 10) (by decide))).1; have := ((iv_c (c := 10) (n := 10) (by decide))).2; have := ((iv_c (c := 0) (n := 0) (by decide))).1; have := ((iv_c (c := 0) (n := 0) (by decide))).2; have := ((iv_c (c := 0) (n := 0) (by decide))).1; have := ((iv_c (c := 0) (n := 0) (by decide))).2; omega) (by have := ((iv_c (c := 10) (n := 10) (by decide))).1; have := ((iv_c (c := 10) (n := 10) (by decide))).2; have := ((iv_c (c := 0) (n := 0) (by decide))).1; have := ((iv_c (c := 0) (n := 0) (by decide))).2; have := ((iv_c (c := 0) (n := 0) (by decide))).1; have := ((iv_c (c := 0) (n := 0) (by decide))).2; omega) (by have := ((iv_c (c := 10) (n := 10) (by decide))).1; have := ((iv_c (c := 10) (n := 10) (by decide))).2; have := ((iv_c (c := 0) (n := 0) (by decide))).1; have := ((iv_c (c := 0) (n := 0) (by decide))).2; have := ((iv_c (c := 0) (n := 0) (by decide))).1; have := ((iv_c (c := 0) (n := 0) (by decide))).2; omega) (by have := ((iv_c (c := 10) (n := 10) (by decide))).1; have := ((iv_c (c := 10) (n := 10) (by decide))).2; have := ((iv_c (c := 0) (n := 0) (by decide))).1; have := ((iv_c (c := 0) (n := 0) (by decide))).2; have := ((iv_c (c := 0) (n := 0) (by decide))).1; have := ((iv_c (c := 0) (n := 0) (by decide))).2; omega) (by have := ((iv_c (c := 10) (n := 10) (by decide))).1; have := ((iv_c (c := 10) (n := 10) (by decide))).2; have := ((iv_c (c := 0) (n := 0) (by decide))).1; have := ((iv_c (c := 0) (n := 0) (by decide))).2; have := ((iv_c (c := 0) (n := 0) (by decide))).1; have := ((iv_c (c := 0) (n := 0) (by decide))).2; omega) (fun _ _ => ⟨by show (-2147483648 : Int) ≤ -2147483648; decide, by show (2147483647 : Int) ≤ 2147483647; decide⟩) (Nat.le_of_ble_eq_true rfl) (Nat.le_of_ble_eq_true rfl) rfl dX1_seek_87 (fun H locs M110 hS f108 k109 => ?_)
          refine lv_aload_n hx hb dX1_seek_90 rfl (lv_at hl 1 rfl) ?_
          refine lv_iconst (v := 0) hx hb dX1_seek_91 (by decide) ?_
          refine lv_iconst (v := 0) hx hb dX1_seek_92 (by decide) ?_
          have hm111 : 6 - (0 : Int32).toInt < (((7 : Nat) : Int) : Int) := by
            have := (h_a1).1; have := (h_a1).2; have := (h_a2).1; have := (h_a2).2; have : (0 : Int32).toInt = 0 := (by decide); omega
          refine tw_gov hS (md_runV (As := [.int 0, .int 0]) (rest := []) hx hb hml hown hW hK hT hS.1 (t_X1_arrange l D cy tx base Z K N 7 M110 R92 J93 hS.2.1 a0 hz_a0 hk_a0 0 (iv_mono (iv_c (c := 0) (n := 0) (by decide)) (by decide) (by decide)) 0 (iv_mono (iv_c (c := 0) (n := 0) (by decide)) (by decide) (by decide)) hm111) s_X1_69 ⟨rfl, rfl, ⟨by simp only [md_rm]; omega, by simp only [md_rm]; omega⟩, ⟨Nat.le_of_ble_eq_true rfl, Nat.le_of_ble_eq_true rfl⟩⟩ hz_a0 hk_a0 (by decide) rfl rfl hl.1 rfl (Nat.le_of_ble_eq_true rfl) dX1_seek_93) rfl rfl (fun H locs M115 R116 J114 hS f112 g113 E117 => ?_)
          exact tw_endv hx hb hr hlocks hK hT hS hQ (trivial) dX1_seek_96
        · have q118 : x90.toInt < x98.toInt := ti_nle c99
          have h119 : iv 0 5 x90 := iv_ltL (y := x98) h_x90 h96 q118 (by decide)
          have h120 : iv 1 6 x98 := iv_gtL (y := x90) h96 h_x90 q118 (by decide)
          refine lv_aload_n hx hb dX1_seek_50 rfl (lv_at hl 1 rfl) ?_
          refine lv_aload_n hx hb dX1_seek_51 rfl (lv_at hl 1 rfl) ?_
          have k121 : R92 a0 0 = some b76 := (Fr.kp (k := 0) g95 hk_a0 rfl).trans k77
          refine tw_getrk hx hb hW hown hK hS f_X1_23_1 hz_a0 hk_a0 (b := b76) k121 dX1_seek_52 ?_
          refine tw_getr hx hb hW hown hK hS f_X1_56_9 hz_b76 hk_b76 (t := 21) (n := 8) rfl dX1_seek_55 (fun b122 k123 hz_b122 hk_b122 hn_b122 => ?_)
          have hn_b122 := hn_b122 (by decide)
          refine lv_iload_n hx hb dX1_seek_58 rfl (lv_at hl 0 rfl) ?_
          refine tw_iald hx hb hK hS hz_b122 hk_b122 (Or.inr (by decide)) hn_b122 (lo := 0) (hi := 11) h119 ⟨by decide, by decide⟩ rg_u21 dX1_seek_59 (fun x126 k125 h124 => ?_)
          refine lv_iload_n hx hb dX1_seek_60 rfl (lv_at hl 0 rfl) ?_
          refine tw_gov hS (md_runV (As := [.int x126, .int x90]) (rest := []) hx hb hml hown hW hK hT hS.1 (t_X1_insert l D cy tx base Z K N M91 R92 J93 hS.2.1 a0 hz_a0 hk_a0 x126 h124 x90 h119) s_X1_57 ⟨rfl, rfl, ⟨Nat.le_of_ble_eq_true rfl, Nat.le_of_ble_eq_true rfl⟩, ⟨Nat.le_of_ble_eq_true rfl, Nat.le_of_ble_eq_true rfl⟩⟩ hz_a0 hk_a0 (by decide) rfl rfl hl.1 rfl (Nat.le_of_ble_eq_true rfl) dX1_seek_61) rfl rfl (fun H locs M130 R131 J129 hS f127 g128 E132 => ?_)
          have eR131 := Fr.nil g128 rfl
          subst eR131
          refine tw_iinc (lv' := fun x135 => [(3, .int x135), (0, .ref (base + a0)), (1, .int a1), (2, .int a2)]) (lo := 1) (hi := 6) hx hb dX1_seek_64 hl (k := 0) rfl h119 (by decide) ⟨by decide, by decide⟩ ⟨by decide, by decide⟩ (by decide) (fun _ => rfl) (fun x135 ls e134 h133 hl => ?_)
          refine lv_goto (tgt := 42) hx hb dX1_seek_67 (by decide) ?_
          have hm136 : 6 - x135.toInt < (n_91 : Int) := by
            have := (h_a1).1; have := (h_a1).2; have := (h_a2).1; have := (h_a2).2; have := (h133).1; have := (h133).2; have := (h119).1; have := (h119).2; omega
          exact ih_91 x135 M130 R92 J129 H locs _ (iv_mono h133 (by decide) (by decide)) hm136 hS hl
    have hm137 : 6 - (0 : Int32).toInt < (((7 : Nat) : Int) : Int) := by
      have := (h_a1).1; have := (h_a1).2; have := (h_a2).1; have := (h_a2).2; have : (0 : Int32).toInt = 0 := (by decide); omega
    exact W42_91 7 0 M89 Ra Ja H locs _ (iv_mono (iv_c (c := 0) (n := 0) (by decide)) (by decide) (by decide)) hm137 hS hl
def Lt_X11_chair : WL := [(2, 5, 9), (6, 2, 4), (6, 6, 15), (20, 0, 2000000), (21, 0, 2000000)]
def LRt_X11_chair : WL := [(6, 4, 6)]
set_option maxRecDepth 100000 in
set_option maxHeartbeats 4000000 in
theorem t_X11_chair (l : Launch) (D : va_G) (cy : Nat → ClassId) (tx : (Nat → Nat) × (Nat → Nat)) (base Z : Nat) (K N : Nat → Nat) (Ma : MT) (Ra : RT) (Ja : JT) (hTy : Ty Z K N Ma Ra) (a0 : Nat) (hz_a0 : a0 < Z) (hk_a0 : K a0 = 11) (a1 : Int32) (h_a1 : iv (-2147483648) 2147483647 a1) (a2 : Int32) (h_a2 : iv (-2147483648) 2147483647 a2) (a3 : Int32) (h_a3 : iv (-2147483648) 2147483647 a3) : Met l yX11_chair [Cond.code yX11_chair cX11_chair 5 (some .int)] (md_rm 22 0 0) (va_Pc [.ref (base + a0), .int a1, .int a2, .int a3] (md_U D cy tx base Z K N Ma Ra Ja)) (mQi D cy tx base (fun r u => TP Z K N Lt_X11_chair LRt_X11_chair Ma Ra u ∧ (iv (-2147483648) 2147483647 r))) 0 0 (fun q => base ≤ q) := by
  refine tw_ofW (L := Lt_X11_chair) (LR := LRt_X11_chair) (by decide) (Nat.le_of_ble_eq_true rfl) hTy ?_
  intro p e s m args below meth c Q ls hx hb hr hlocks hown hml hW hK hT hS hQ hl
  have hl : lv_has ls 5 [(0, .ref (base + a0)), (1, .int a1), (2, .int a2), (3, .int a3)] := hl
  refine lv_aload_n hx hb dX11_chair_0 rfl (lv_at hl 0 rfl) ?_
  refine tw_getr hx hb hW hown hK hS f_X11_31_10 hz_a0 hk_a0 (t := 10) (n := 0) rfl dX11_chair_1 (fun b1 k2 hz_b1 hk_b1 hn_b1 => ?_)
  refine tw_geti hx hb hW hown hK hS f_X11_202_9 hz_b1 hk_b1 (lo := 0) (hi := 8) rfl dX11_chair_4 (fun x5 k4 h3 => ?_)
  refine lv_iconst (v := 1) hx hb dX11_chair_7 (by decide) ?_
  have J27_6 : ∀  (M6 : MT) (R7 : RT) (J8 : JT) (H : Heap) (locs : List Loc) (ls : Array Slot) (hS : SB D cy base Z K N Lt_X11_chair LRt_X11_chair Ma Ra M6 R7 J8 s H locs) (hl : lv_has ls 5 [(0, .ref (base + a0)), (1, .int a1), (2, .int a2), (3, .int a3)]), W p l e (md_rm 22 0 0) s m args below meth c H locs 0 0 Q (F0 m 27 ls []) := by
    intro  M6 R7 J8 H locs ls  hS hl
    have f9 := hS.2.2.1
    have g10 := hS.2.2.2
    refine lv_iconst (v := 0) hx hb dX11_chair_27 (by decide) ?_
    refine lv_istore (lv' := [(4, .int 0), (0, .ref (base + a0)), (1, .int a1), (2, .int a2), (3, .int a3)]) hx hb dX11_chair_28 hl (by decide) rfl (fun ls hl => ?_)
    refine lv_aload_n hx hb dX11_chair_30 rfl (lv_at hl 1 rfl) ?_
    have k11 : R7 a0 3 = some b1 := (Fr.kp (k := 3) g10 hk_a0 rfl).trans k2
    refine tw_getrk hx hb hW hown hK hS f_X11_31_10 hz_a0 hk_a0 (b := b1) k11 dX11_chair_31 ?_
    refine lv_iload_n hx hb dX11_chair_34 rfl (lv_at hl 2 rfl) ?_
    refine tw_goi hS (md_runV (As := [.int a1]) (rest := []) hx hb hml hown hW hK hT hS.1 (t_X9_hasMember l D cy tx base Z K N M6 R7 J8 hS.2.1 b1 hz_b1 hk_b1 a1 h_a1) s_X11_132 ⟨rfl, rfl, ⟨Nat.le_of_ble_eq_true rfl, Nat.le_of_ble_eq_true rfl⟩, ⟨Nat.le_of_ble_eq_true rfl, Nat.le_of_ble_eq_true rfl⟩⟩ hz_b1 hk_b1 (by decide) rfl rfl hl.1 rfl (Nat.le_of_ble_eq_true rfl) dX11_chair_35) rfl rfl (fun x18 H locs M15 R16 J14 hS f12 g13 E17 => ?_)
    have eM15 := Fr.nil f12 rfl
    subst eM15
    have eR16 := Fr.nil g13 rfl
    subst eR16
    obtain ⟨h_x18, p19⟩ := E17
    refine lv_if_eq (tgt := 61) hx hb dX11_chair_38 (by decide) (fun c20 => ?_) (fun c20 => ?_)
    · have q21 : x18.toInt = 0 := ti_eq c20
      have h22 : iv 0 0 x18 := ⟨by have := (h_x18).1; have := ((iv_c (c := 0) (n := 0) (by decide))).1; omega, by have := (h_x18).2; have := ((iv_c (c := 0) (n := 0) (by decide))).2; omega⟩
      refine lv_ldc hx hb hown (hW _ w_4_221 rfl) dX11_chair_61 ?_
      exact tw_endi hx hb hr hlocks hK hT hS hQ ((iv_mono (iv_c (c := (-1000000)) (n := (-1000000)) (by decide)) (by decide) (by decide))) dX11_chair_63
    · have q23 : ¬ x18.toInt = 0 := ti_ne c20
      have h24 : iv 1 1 x18 := ⟨by have := (h_x18).1; have := ((iv_c (c := 0) (n := 0) (by decide))).1; have := ((iv_c (c := 0) (n := 0) (by decide))).2; omega, by have := (h_x18).2; have := ((iv_c (c := 0) (n := 0) (by decide))).1; have := ((iv_c (c := 0) (n := 0) (by decide))).2; omega⟩
      have h25 : iv 0 9 a1 := ⟨by have := (p19 c20).1; have := (h_a1).1; omega, by have := (p19 c20).2; have := (h_a1).2; omega⟩
      refine lv_iload hx hb dX11_chair_41 (lv_at hl 0 rfl) ?_
      refine lv_if_eq (tgt := 61) hx hb dX11_chair_43 (by decide) (fun _ => ?_) (fun h => absurd h (by decide))
      refine lv_ldc hx hb hown (hW _ w_4_221 rfl) dX11_chair_61 ?_
      exact tw_endi hx hb hr hlocks hK hT hS hQ ((iv_mono (iv_c (c := (-1000000)) (n := (-1000000)) (by decide)) (by decide) (by decide))) dX11_chair_63
  refine lv_icmp_lt (tgt := 27) hx hb dX11_chair_8 (by decide) (fun c26 => ?_) (fun c26 => ?_)
  · have q27 : x5.toInt < 1 := ti_lt c26
    have h28 : iv 0 0 x5 := iv_ltL (y := 1) h3 (iv_c (c := 1) (n := 1) (by decide)) q27 (by decide)
    exact J27_6  Ma Ra Ja s.heap [] _  hS hl
  · have q29 : 1 ≤ x5.toInt := ti_nlt c26
    have h30 : iv 1 8 x5 := iv_geL (y := 1) h3 (iv_c (c := 1) (n := 1) (by decide)) q29 (by decide)
    refine lv_aload_n hx hb dX11_chair_11 rfl (lv_at hl 0 rfl) ?_
    refine tw_getrk hx hb hW hown hK hS f_X11_31_10 hz_a0 hk_a0 (b := b1) k2 dX11_chair_12 ?_
    refine tw_getk hx hb hW hown hK hS f_X11_202_9 hz_b1 hk_b1 (v := x5) k4 dX11_chair_15 ?_
    refine lv_bipush (v := 6) hx hb dX11_chair_18 (by decide) ?_
    refine lv_icmp_gt (tgt := 27) hx hb dX11_chair_20 (by decide) (fun c31 => ?_) (fun c31 => ?_)
    · have q32 : 6 < x5.toInt := ti_lt c31
      have h33 : iv 7 8 x5 := iv_gtL (y := 6) h30 (iv_c (c := 6) (n := 6) (by decide)) q32 (by decide)
      exact J27_6  Ma Ra Ja s.heap [] _  hS hl
    · have q34 : x5.toInt ≤ 6 := ti_nlt c31
      have h35 : iv 1 6 x5 := iv_leL (y := 6) h30 (iv_c (c := 6) (n := 6) (by decide)) q34 (by decide)
      refine lv_iconst (v := 1) hx hb dX11_chair_23 (by decide) ?_
      refine lv_goto (tgt := 28) hx hb dX11_chair_24 (by decide) ?_
      refine lv_istore (lv' := [(4, .int 1), (0, .ref (base + a0)), (1, .int a1), (2, .int a2), (3, .int a3)]) hx hb dX11_chair_28 hl (by decide) rfl (fun ls hl => ?_)
      refine lv_aload_n hx hb dX11_chair_30 rfl (lv_at hl 1 rfl) ?_
      refine tw_getrk hx hb hW hown hK hS f_X11_31_10 hz_a0 hk_a0 (b := b1) k2 dX11_chair_31 ?_
      refine lv_iload_n hx hb dX11_chair_34 rfl (lv_at hl 2 rfl) ?_
      refine tw_goi hS (md_runV (As := [.int a1]) (rest := []) hx hb hml hown hW hK hT hS.1 (t_X9_hasMember l D cy tx base Z K N Ma Ra Ja hS.2.1 b1 hz_b1 hk_b1 a1 h_a1) s_X11_132 ⟨rfl, rfl, ⟨Nat.le_of_ble_eq_true rfl, Nat.le_of_ble_eq_true rfl⟩, ⟨Nat.le_of_ble_eq_true rfl, Nat.le_of_ble_eq_true rfl⟩⟩ hz_b1 hk_b1 (by decide) rfl rfl hl.1 rfl (Nat.le_of_ble_eq_true rfl) dX11_chair_35) rfl rfl (fun x42 H locs M39 R40 J38 hS f36 g37 E41 => ?_)
      have eM39 := Fr.nil f36 rfl
      subst eM39
      have eR40 := Fr.nil g37 rfl
      subst eR40
      obtain ⟨h_x42, p43⟩ := E41
      refine lv_if_eq (tgt := 61) hx hb dX11_chair_38 (by decide) (fun c44 => ?_) (fun c44 => ?_)
      · have q45 : x42.toInt = 0 := ti_eq c44
        have h46 : iv 0 0 x42 := ⟨by have := (h_x42).1; have := ((iv_c (c := 0) (n := 0) (by decide))).1; omega, by have := (h_x42).2; have := ((iv_c (c := 0) (n := 0) (by decide))).2; omega⟩
        refine lv_ldc hx hb hown (hW _ w_4_221 rfl) dX11_chair_61 ?_
        exact tw_endi hx hb hr hlocks hK hT hS hQ ((iv_mono (iv_c (c := (-1000000)) (n := (-1000000)) (by decide)) (by decide) (by decide))) dX11_chair_63
      · have q47 : ¬ x42.toInt = 0 := ti_ne c44
        have h48 : iv 1 1 x42 := ⟨by have := (h_x42).1; have := ((iv_c (c := 0) (n := 0) (by decide))).1; have := ((iv_c (c := 0) (n := 0) (by decide))).2; omega, by have := (h_x42).2; have := ((iv_c (c := 0) (n := 0) (by decide))).1; have := ((iv_c (c := 0) (n := 0) (by decide))).2; omega⟩
        have h49 : iv 0 9 a1 := ⟨by have := (p43 c44).1; have := (h_a1).1; omega, by have := (p43 c44).2; have := (h_a1).2; omega⟩
        refine lv_iload hx hb dX11_chair_41 (lv_at hl 0 rfl) ?_
        refine lv_if_eq (tgt := 61) hx hb dX11_chair_43 (by decide) (fun h => absurd h (by decide)) (fun _ => ?_)
        refine lv_iload_n hx hb dX11_chair_46 rfl (lv_at hl 4 rfl) ?_
        refine lv_if_lt (tgt := 61) hx hb dX11_chair_47 (by decide) (fun c50 => ?_) (fun c50 => ?_)
        · have q51 : a3.toInt < 0 := ti_lt c50
          have h52 : iv (-2147483648) (-1) a3 := iv_ltL (y := 0) h_a3 (iv_c (c := 0) (n := 0) (by decide)) q51 (by decide)
          refine lv_ldc hx hb hown (hW _ w_4_221 rfl) dX11_chair_61 ?_
          exact tw_endi hx hb hr hlocks hK hT hS hQ ((iv_mono (iv_c (c := (-1000000)) (n := (-1000000)) (by decide)) (by decide) (by decide))) dX11_chair_63
        · have q53 : 0 ≤ a3.toInt := ti_nlt c50
          have h54 : iv 0 2147483647 a3 := iv_geL (y := 0) h_a3 (iv_c (c := 0) (n := 0) (by decide)) q53 (by decide)
          refine lv_iload_n hx hb dX11_chair_50 rfl (lv_at hl 4 rfl) ?_
          refine lv_aload_n hx hb dX11_chair_51 rfl (lv_at hl 1 rfl) ?_
          refine tw_getrk hx hb hW hown hK hS f_X11_31_10 hz_a0 hk_a0 (b := b1) k2 dX11_chair_52 ?_
          refine tw_getk hx hb hW hown hK hS f_X11_202_9 hz_b1 hk_b1 (v := x5) k4 dX11_chair_55 ?_
          refine lv_icmp_le (tgt := 64) hx hb dX11_chair_58 (by decide) (fun c55 => ?_) (fun c55 => ?_)
          · have q56 : a3.toInt ≤ x5.toInt := ti_le c55
            have h57 : iv 0 6 a3 := iv_leL (y := x5) h54 h35 q56 (by decide)
            refine lv_aload_n hx hb dX11_chair_64 rfl (lv_at hl 1 rfl) ?_
            refine tw_getr hx hb hW hown hK hS f_X11_83_10 hz_a0 hk_a0 (t := 2) (n := 0) rfl dX11_chair_65 (fun b58 k59 hz_b58 hk_b58 hn_b58 => ?_)
            refine lv_iload_n hx hb dX11_chair_68 rfl (lv_at hl 2 rfl) ?_
            refine lv_iload_n hx hb dX11_chair_69 rfl (lv_at hl 3 rfl) ?_
            refine tw_gov hS (md_runV (As := [.int a1, .int a2]) (rest := []) hx hb hml hown hW hK hT hS.1 (t_X1_seek l D cy tx base Z K N Ma Ra J38 hS.2.1 b58 hz_b58 hk_b58 a1 h49 a2 h_a2) s_X11_254 ⟨rfl, rfl, ⟨Nat.le_of_ble_eq_true rfl, Nat.le_of_ble_eq_true rfl⟩, ⟨Nat.le_of_ble_eq_true rfl, Nat.le_of_ble_eq_true rfl⟩⟩ hz_b58 hk_b58 (by decide) rfl rfl hl.1 rfl (Nat.le_of_ble_eq_true rfl) dX11_chair_70) rfl rfl (fun H locs M63 R64 J62 hS f60 g61 E65 => ?_)
            refine lv_iload_n hx hb dX11_chair_73 rfl (lv_at hl 4 rfl) ?_
            refine lv_if_ne (tgt := 87) hx hb dX11_chair_74 (by decide) (fun c66 => ?_) (fun c66 => ?_)
            · have q67 : ¬ a3.toInt = 0 := ti_ne c66
              have h68 : iv 1 6 a3 := ⟨by have := (h57).1; have := ((iv_c (c := 0) (n := 0) (by decide))).1; have := ((iv_c (c := 0) (n := 0) (by decide))).2; omega, by have := (h57).2; have := ((iv_c (c := 0) (n := 0) (by decide))).1; have := ((iv_c (c := 0) (n := 0) (by decide))).2; omega⟩
              refine lv_aload_n hx hb dX11_chair_87 rfl (lv_at hl 1 rfl) ?_
              have k69 : R64 a0 13 = some b58 := (Fr.kp (k := 13) g61 hk_a0 rfl).trans k59
              refine tw_getrk hx hb hW hown hK hS f_X11_83_10 hz_a0 hk_a0 (b := b58) k69 dX11_chair_88 ?_
              refine lv_iload_n hx hb dX11_chair_91 rfl (lv_at hl 4 rfl) ?_
              refine lv_iconst (v := 1) hx hb dX11_chair_92 (by decide) ?_
              refine tw_isub (lo := 0) (hi := 5) hx hb h68 (iv_c (c := 1) (n := 1) (by decide)) ⟨by decide, by decide⟩ ⟨by decide, by decide⟩ dX11_chair_93 (fun x72 e71 h70 => ?_)
              have e71 : x72.toInt = a3.toInt - 1 := e71
              refine tw_goi hS (md_runV (As := [.int x72]) (rest := []) hx hb hml hown hW hK hT hS.1 (t_X1_pointAt l D cy tx base Z K N M63 R64 J62 hS.2.1 b58 hz_b58 hk_b58 x72 h70) s_X11_261 ⟨rfl, rfl, ⟨Nat.le_of_ble_eq_true rfl, Nat.le_of_ble_eq_true rfl⟩, ⟨Nat.le_of_ble_eq_true rfl, Nat.le_of_ble_eq_true rfl⟩⟩ hz_b58 hk_b58 (by decide) rfl rfl hl.1 rfl (Nat.le_of_ble_eq_true rfl) dX11_chair_94) rfl rfl (fun x79 H locs M76 R77 J75 hS f73 g74 E78 => ?_)
              have eM76 := Fr.nil f73 rfl
              subst eM76
              have eR77 := Fr.nil g74 rfl
              subst eR77
              have h_x79 := E78
              clear E78
              exact tw_endi hx hb hr hlocks hK hT hS hQ ((iv_mono h_x79 (by decide) (by decide))) dX11_chair_97
            · have q80 : a3.toInt = 0 := ti_eq c66
              have h81 : iv 0 0 a3 := ⟨by have := (h57).1; have := ((iv_c (c := 0) (n := 0) (by decide))).1; omega, by have := (h57).2; have := ((iv_c (c := 0) (n := 0) (by decide))).2; omega⟩
              refine lv_aload_n hx hb dX11_chair_77 rfl (lv_at hl 1 rfl) ?_
              have k82 : R64 a0 13 = some b58 := (Fr.kp (k := 13) g61 hk_a0 rfl).trans k59
              refine tw_getrk hx hb hW hown hK hS f_X11_83_10 hz_a0 hk_a0 (b := b58) k82 dX11_chair_78 ?_
              refine tw_goi hS (md_runV (As := []) (rest := []) hx hb hml hown hW hK hT hS.1 (t_X1_gainFound l D cy tx base Z K N M63 R64 J62 hS.2.1 b58 hz_b58 hk_b58) s_X11_258 ⟨rfl, rfl, ⟨Nat.le_of_ble_eq_true rfl, Nat.le_of_ble_eq_true rfl⟩, ⟨Nat.le_of_ble_eq_true rfl, Nat.le_of_ble_eq_true rfl⟩⟩ hz_b58 hk_b58 (by decide) rfl rfl hl.1 rfl (Nat.le_of_ble_eq_true rfl) dX11_chair_81) rfl rfl (fun x89 H locs M86 R87 J85 hS f83 g84 E88 => ?_)
              have eM86 := Fr.nil f83 rfl
              subst eM86
              have eR87 := Fr.nil g84 rfl
              subst eR87
              have h_x89 := E88
              clear E88
              refine lv_goto (tgt := 97) hx hb dX11_chair_84 (by decide) ?_
              exact tw_endi hx hb hr hlocks hK hT hS hQ (h_x89) dX11_chair_97
          · have q90 : x5.toInt < a3.toInt := ti_nle c55
            have h91 : iv 2 2147483647 a3 := iv_gtL (y := x5) h54 h35 q90 (by decide)
            refine lv_ldc hx hb hown (hW _ w_4_221 rfl) dX11_chair_61 ?_
            exact tw_endi hx hb hr hlocks hK hT hS hQ ((iv_mono (iv_c (c := (-1000000)) (n := (-1000000)) (by decide)) (by decide) (by decide))) dX11_chair_63
def Lt_X2_mayStand : WL := []
def LRt_X2_mayStand : WL := []
set_option maxRecDepth 100000 in
set_option maxHeartbeats 4000000 in
theorem t_X2_mayStand (l : Launch) (D : va_G) (cy : Nat → ClassId) (tx : (Nat → Nat) × (Nat → Nat)) (base Z : Nat) (K N : Nat → Nat) (Ma : MT) (Ra : RT) (Ja : JT) (hTy : Ty Z K N Ma Ra) (a0 : Nat) (hz_a0 : a0 < Z) (hk_a0 : K a0 = 3) (a1 : Int32) (h_a1 : iv (-2147483648) 2147483647 a1) (a2 : Int32) (h_a2 : iv 0 1 a2) (dr : Nat) (k_dr : Ra a0 5 = some dr) (po : Int32) (k_po : Ma dr 1 = po) (h_po : iv 0 12 po) : Met l yX2_mayStand [Cond.code yX2_mayStand cX2_mayStand 3 (some .boolean)] (md_rm 1 0 0) (va_Pc [.ref (base + a0), .int a1, .int a2] (md_U D cy tx base Z K N Ma Ra Ja)) (mQi D cy tx base (fun r u => TP Z K N Lt_X2_mayStand LRt_X2_mayStand Ma Ra u ∧ (iv 0 1 r ∧ (¬ r = 0 → ¬ a1.toInt = 1 ∨ po.toInt ≤ 11)))) 0 0 (fun q => base ≤ q) := by
  refine tw_ofW (L := Lt_X2_mayStand) (LR := LRt_X2_mayStand) (by decide) (Nat.le_of_ble_eq_true rfl) hTy ?_
  intro p e s m args below meth c Q ls hx hb hr hlocks hown hml hW hK hT hS hQ hl
  have hl : lv_has ls 3 [(0, .ref (base + a0)), (1, .int a1), (2, .int a2)] := hl
  obtain ⟨hz_dr, hk_dr, hn_dr⟩ := hTy.refn hz_a0 hk_a0 (show rtR 3 5 = (10, 0, 0) from rfl) k_dr
  refine lv_iload_n hx hb dX2_mayStand_0 rfl (lv_at hl 2 rfl) ?_
  refine lv_if_ne (tgt := 8) hx hb dX2_mayStand_1 (by decide) (fun c1 => ?_) (fun c1 => ?_)
  · have q2 : ¬ a2.toInt = 0 := ti_ne c1
    have h3 : iv 1 1 a2 := ⟨by have := (h_a2).1; have := ((iv_c (c := 0) (n := 0) (by decide))).1; have := ((iv_c (c := 0) (n := 0) (by decide))).2; omega, by have := (h_a2).2; have := ((iv_c (c := 0) (n := 0) (by decide))).1; have := ((iv_c (c := 0) (n := 0) (by decide))).2; omega⟩
    refine lv_iload_n hx hb dX2_mayStand_8 rfl (lv_at hl 2 rfl) ?_
    refine lv_if_eq (tgt := 20) hx hb dX2_mayStand_9 (by decide) (fun c4 => False.elim (by have q : a2.toInt = 0 := ti_eq c4; have := (h3).1; have := (h3).2; omega)) (fun c4 => ?_)
    have q5 : ¬ a2.toInt = 0 := ti_ne c4
    refine lv_iload_n hx hb dX2_mayStand_12 rfl (lv_at hl 1 rfl) ?_
    refine lv_if_ne (tgt := 20) hx hb dX2_mayStand_13 (by decide) (fun c6 => ?_) (fun c6 => ?_)
    · have q7 : ¬ a1.toInt = 0 := ti_ne c6
      refine lv_iconst (v := 0) hx hb dX2_mayStand_20 (by decide) ?_
      exact tw_endz hx hb hr hlocks hK hT hS hQ rfl (⟨(iv_mono (iv_c (c := 0) (n := 0) (by decide)) (by decide) (by decide)), (fun h => absurd rfl h)⟩) dX2_mayStand_21
    · have q8 : a1.toInt = 0 := ti_eq c6
      have h9 : iv 0 0 a1 := ⟨by have := (h_a1).1; have := ((iv_c (c := 0) (n := 0) (by decide))).1; omega, by have := (h_a1).2; have := ((iv_c (c := 0) (n := 0) (by decide))).2; omega⟩
      refine lv_iconst (v := 1) hx hb dX2_mayStand_16 (by decide) ?_
      refine lv_goto (tgt := 21) hx hb dX2_mayStand_17 (by decide) ?_
      exact tw_endz hx hb hr hlocks hK hT hS hQ rfl (⟨(iv_mono (iv_c (c := 1) (n := 1) (by decide)) (by decide) (by decide)), (fun _ => by have := (h9).1; have := (h9).2; have := (h_po).1; have := (h_po).2; omega)⟩) dX2_mayStand_21
  · have q10 : a2.toInt = 0 := ti_eq c1
    have h11 : iv 0 0 a2 := ⟨by have := (h_a2).1; have := ((iv_c (c := 0) (n := 0) (by decide))).1; omega, by have := (h_a2).2; have := ((iv_c (c := 0) (n := 0) (by decide))).2; omega⟩
    refine lv_iload_n hx hb dX2_mayStand_4 rfl (lv_at hl 1 rfl) ?_
    refine lv_if_ne (tgt := 22) hx hb dX2_mayStand_5 (by decide) (fun c12 => ?_) (fun c12 => ?_)
    · have q13 : ¬ a1.toInt = 0 := ti_ne c12
      refine lv_iload_n hx hb dX2_mayStand_22 rfl (lv_at hl 1 rfl) ?_
      refine lv_iconst (v := 1) hx hb dX2_mayStand_23 (by decide) ?_
      refine lv_icmp_ne (tgt := 47) hx hb dX2_mayStand_24 (by decide) (fun c14 => ?_) (fun c14 => ?_)
      · have q15 : ¬ a1.toInt = 1 := ti_ne c14
        refine lv_iload_n hx hb dX2_mayStand_47 rfl (lv_at hl 1 rfl) ?_
        refine lv_iconst (v := 2) hx hb dX2_mayStand_48 (by decide) ?_
        refine lv_icmp_ne (tgt := 59) hx hb dX2_mayStand_49 (by decide) (fun c16 => ?_) (fun c16 => ?_)
        · have q17 : ¬ a1.toInt = 2 := ti_ne c16
          refine lv_iconst (v := 1) hx hb dX2_mayStand_59 (by decide) ?_
          refine lv_goto (tgt := 64) hx hb dX2_mayStand_60 (by decide) ?_
          exact tw_endz hx hb hr hlocks hK hT hS hQ rfl (⟨(iv_mono (iv_c (c := 1) (n := 1) (by decide)) (by decide) (by decide)), (fun _ => by have := (h_a1).1; have := (h_a1).2; have := (h_po).1; have := (h_po).2; omega)⟩) dX2_mayStand_64
        · have q18 : a1.toInt = 2 := ti_eq c16
          have h19 : iv 2 2 a1 := ⟨by have := (h_a1).1; have := ((iv_c (c := 2) (n := 2) (by decide))).1; omega, by have := (h_a1).2; have := ((iv_c (c := 2) (n := 2) (by decide))).2; omega⟩
          refine lv_aload_n hx hb dX2_mayStand_52 rfl (lv_at hl 0 rfl) ?_
          refine tw_geti hx hb hW hown hK hS f_X2_25_2 hz_a0 hk_a0 (lo := (-2147483648)) (hi := 2147483647) rfl dX2_mayStand_53 (fun x22 k21 h20 => ?_)
          refine lv_if_ne (tgt := 63) hx hb dX2_mayStand_56 (by decide) (fun c23 => ?_) (fun c23 => ?_)
          · have q24 : ¬ x22.toInt = 0 := ti_ne c23
            refine lv_iconst (v := 0) hx hb dX2_mayStand_63 (by decide) ?_
            exact tw_endz hx hb hr hlocks hK hT hS hQ rfl (⟨(iv_mono (iv_c (c := 0) (n := 0) (by decide)) (by decide) (by decide)), (fun h => absurd rfl h)⟩) dX2_mayStand_64
          · have q25 : x22.toInt = 0 := ti_eq c23
            have h26 : iv 0 0 x22 := ⟨by have := (h20).1; have := ((iv_c (c := 0) (n := 0) (by decide))).1; omega, by have := (h20).2; have := ((iv_c (c := 0) (n := 0) (by decide))).2; omega⟩
            refine lv_iconst (v := 1) hx hb dX2_mayStand_59 (by decide) ?_
            refine lv_goto (tgt := 64) hx hb dX2_mayStand_60 (by decide) ?_
            exact tw_endz hx hb hr hlocks hK hT hS hQ rfl (⟨(iv_mono (iv_c (c := 1) (n := 1) (by decide)) (by decide) (by decide)), (fun _ => by have := (h19).1; have := (h19).2; have := (h_po).1; have := (h_po).2; omega)⟩) dX2_mayStand_64
      · have q27 : a1.toInt = 1 := ti_eq c14
        have h28 : iv 1 1 a1 := ⟨by have := (h_a1).1; have := ((iv_c (c := 1) (n := 1) (by decide))).1; omega, by have := (h_a1).2; have := ((iv_c (c := 1) (n := 1) (by decide))).2; omega⟩
        refine lv_aload_n hx hb dX2_mayStand_27 rfl (lv_at hl 0 rfl) ?_
        refine tw_getrk hx hb hW hown hK hS f_X2_12_2 hz_a0 hk_a0 (b := dr) k_dr dX2_mayStand_28 ?_
        refine tw_getk hx hb hW hown hK hS f_X2_74_9 hz_dr hk_dr (v := po) k_po dX2_mayStand_31 ?_
        refine lv_bipush (v := 12) hx hb dX2_mayStand_34 (by decide) ?_
        refine lv_icmp_ge (tgt := 43) hx hb dX2_mayStand_36 (by decide) (fun c29 => ?_) (fun c29 => ?_)
        · have q30 : 12 ≤ po.toInt := ti_le c29
          have h31 : iv 12 12 po := iv_geL (y := 12) h_po (iv_c (c := 12) (n := 12) (by decide)) q30 (by decide)
          refine lv_iconst (v := 0) hx hb dX2_mayStand_43 (by decide) ?_
          refine lv_goto (tgt := 64) hx hb dX2_mayStand_44 (by decide) ?_
          exact tw_endz hx hb hr hlocks hK hT hS hQ rfl (⟨(iv_mono (iv_c (c := 0) (n := 0) (by decide)) (by decide) (by decide)), (fun h => absurd rfl h)⟩) dX2_mayStand_64
        · have q32 : po.toInt < 12 := ti_nle c29
          have h33 : iv 0 11 po := iv_ltL (y := 12) h_po (iv_c (c := 12) (n := 12) (by decide)) q32 (by decide)
          refine lv_iconst (v := 1) hx hb dX2_mayStand_39 (by decide) ?_
          refine lv_goto (tgt := 64) hx hb dX2_mayStand_40 (by decide) ?_
          exact tw_endz hx hb hr hlocks hK hT hS hQ rfl (⟨(iv_mono (iv_c (c := 1) (n := 1) (by decide)) (by decide) (by decide)), (fun _ => by have := (h28).1; have := (h28).2; have := (h33).1; have := (h33).2; omega)⟩) dX2_mayStand_64
    · have q34 : a1.toInt = 0 := ti_eq c12
      have h35 : iv 0 0 a1 := ⟨by have := (h_a1).1; have := ((iv_c (c := 0) (n := 0) (by decide))).1; omega, by have := (h_a1).2; have := ((iv_c (c := 0) (n := 0) (by decide))).2; omega⟩
      refine lv_iload_n hx hb dX2_mayStand_8 rfl (lv_at hl 2 rfl) ?_
      refine lv_if_eq (tgt := 20) hx hb dX2_mayStand_9 (by decide) (fun c36 => ?_) (fun c36 => False.elim (by have q : ¬ a2.toInt = 0 := ti_ne c36; have := (h11).1; have := (h11).2; omega))
      have q37 : a2.toInt = 0 := ti_eq c36
      refine lv_iconst (v := 0) hx hb dX2_mayStand_20 (by decide) ?_
      exact tw_endz hx hb hr hlocks hK hT hS hQ rfl (⟨(iv_mono (iv_c (c := 0) (n := 0) (by decide)) (by decide) (by decide)), (fun h => absurd rfl h)⟩) dX2_mayStand_21
def Lt_X2_numberBehindBlanks : WL := [(3, 2, 4)]
def LRt_X2_numberBehindBlanks : WL := []
set_option maxRecDepth 100000 in
set_option maxHeartbeats 4000000 in
theorem t_X2_numberBehindBlanks (l : Launch) (D : va_G) (cy : Nat → ClassId) (tx : (Nat → Nat) × (Nat → Nat)) (base Z : Nat) (K N : Nat → Nat) (Ma : MT) (Ra : RT) (Ja : JT) (hTy : Ty Z K N Ma Ra) (a0 : Nat) (hz_a0 : a0 < Z) (hk_a0 : K a0 = 3) (a1 : Int32) (h_a1 : iv 0 1 a1) (a2 : Int32) (h_a2 : iv (-2147483648) 2147483647 a2) (tb : Nat) (k_tb : Ra a0 0 = some tb) (ln : Int32) (k_ln : Ma a0 1 = ln) (h_ln : iv 0 400 ln) (pa : Int32) (k_pa : Ma a0 2 = pa) (h_pa : iv 0 400 pa) (hin : pa.toInt ≤ ln.toInt) : Met l yX2_numberBehindBlanks [Cond.code yX2_numberBehindBlanks cX2_numberBehindBlanks 3 (some .int)] (md_rm 3 0 0) (va_Pc [.ref (base + a0), .int a1, .int a2] (md_U D cy tx base Z K N Ma Ra Ja)) (mQi D cy tx base (fun r u => TP Z K N Lt_X2_numberBehindBlanks LRt_X2_numberBehindBlanks Ma Ra u ∧ (iv (-2147483648) 2147483647 r ∧ (∃ x0 : Int32, u.2.2.2.1 a0 2 = x0 ∧ iv 0 400 x0 ∧ (x0.toInt ≤ ln.toInt))))) 0 0 (fun q => base ≤ q) := by
  refine tw_ofW (L := Lt_X2_numberBehindBlanks) (LR := LRt_X2_numberBehindBlanks) (by decide) (Nat.le_of_ble_eq_true rfl) hTy ?_
  intro p e s m args below meth c Q ls hx hb hr hlocks hown hml hW hK hT hS hQ hl
  have hl : lv_has ls 3 [(0, .ref (base + a0)), (1, .int a1), (2, .int a2)] := hl
  obtain ⟨hz_tb, hk_tb, hn_tb⟩ := hTy.refn hz_a0 hk_a0 (show rtR 3 0 = (13, 400, 1) from rfl) k_tb
  have hn_tb := hn_tb (by decide)
  refine lv_aload_n hx hb dX2_numberBehindBlanks_0 rfl (lv_at hl 0 rfl) ?_
  refine tw_goi hS (md_runU (As := []) (rest := []) hx hb hml hown hW hK hT hS.1 (t_X10_hereBehindBlanks_1 l D cy tx base Z K N Ma Ra Ja hS.2.1 a0 hz_a0 hk_a0 tb k_tb ln k_ln (iv_mono h_ln (by decide) (by decide)) pa k_pa (iv_mono h_pa (by decide) (by decide))) s_X2_47_X2 ⟨rfl, rfl, ⟨Nat.le_of_ble_eq_true rfl, Nat.le_of_ble_eq_true rfl⟩, ⟨Nat.le_of_ble_eq_true rfl, Nat.le_of_ble_eq_true rfl⟩⟩ hz_a0 hk_a0 (by decide) rfl rfl hl.1 rfl (Nat.le_of_ble_eq_true rfl) dX2_numberBehindBlanks_1) rfl rfl (fun x7 H locs M4 R5 J3 hS f1 g2 E6 => ?_)
  have eR5 := Fr.nil g2 rfl
  subst eR5
  obtain ⟨h_x7, p8⟩ := E6
  obtain ⟨x10, k11, h9, q12⟩ := p8
  have k11 : M4 a0 2 = x10 := k11
  have h13 : iv 0 400 x10 := by
    have := (h_a1).1; have := (h_a1).2; have := (h_a2).1; have := (h_a2).2; have := (h_ln).1; have := (h_ln).2; have := (h_pa).1; have := (h_pa).2; have := (h9).1; have := (h9).2; exact ⟨by omega, by omega⟩
  refine lv_pop hx hb dX2_numberBehindBlanks_4 rfl ?_
  refine lv_aload_n hx hb dX2_numberBehindBlanks_5 rfl (lv_at hl 0 rfl) ?_
  refine lv_iload_n hx hb dX2_numberBehindBlanks_6 rfl (lv_at hl 1 rfl) ?_
  refine lv_iload_n hx hb dX2_numberBehindBlanks_7 rfl (lv_at hl 2 rfl) ?_
  have k14 : M4 a0 1 = ln := (Fr.kp (k := 1) f1 hk_a0 rfl).trans k_ln
  obtain ⟨x17, k15⟩ : ∃ x, M4 a0 3 = x := ⟨_, rfl⟩
  have h16 : iv (-2147483648) 2147483647 x17 := by rw [← k15]; exact hS.2.1.int hz_a0 hk_a0 (show rgI 3 3 = ((-2147483648), 2147483647) from rfl)
  refine tw_goi hS (md_runU (As := [.int a1, .int a2]) (rest := []) hx hb hml hown hW hK hT hS.1 (t_X10_number_1 l D cy tx base Z K N M4 Ra J3 hS.2.1 a0 hz_a0 hk_a0 a1 h_a1 a2 h_a2 tb k_tb ln k14 (iv_mono h_ln (by decide) (by decide)) x10 k11 (iv_mono h13 (by decide) (by decide)) x17 k15 (iv_mono h16 (by decide) (by decide))) s_X2_96_X2 ⟨rfl, rfl, ⟨Nat.le_of_ble_eq_true rfl, Nat.le_of_ble_eq_true rfl⟩, ⟨Nat.le_of_ble_eq_true rfl, Nat.le_of_ble_eq_true rfl⟩⟩ hz_a0 hk_a0 (by decide) rfl rfl hl.1 rfl (Nat.le_of_ble_eq_true rfl) dX2_numberBehindBlanks_8) rfl rfl (fun x24 H locs M21 R22 J20 hS f18 g19 E23 => ?_)
  have eR22 := Fr.nil g19 rfl
  subst eR22
  obtain ⟨h_x24, p25⟩ := E23
  obtain ⟨x27, x29, k30, k31, h26, h28, q32⟩ := p25
  have k30 : M21 a0 2 = x27 := k30
  have k31 : M21 a0 3 = x29 := k31
  have h33 : iv 0 400 x27 := by
    have := (h_a1).1; have := (h_a1).2; have := (h_a2).1; have := (h_a2).2; have := (h_ln).1; have := (h_ln).2; have := (h_pa).1; have := (h_pa).2; have := (h13).1; have := (h13).2; have := (h16).1; have := (h16).2; have := (h26).1; have := (h26).2; have := (h28).1; have := (h28).2; exact ⟨by omega, by omega⟩
  have q34 : x27.toInt ≤ ln.toInt := by
    have := (h_a1).1; have := (h_a1).2; have := (h_a2).1; have := (h_a2).2; have := (h_ln).1; have := (h_ln).2; have := (h_pa).1; have := (h_pa).2; have := (h13).1; have := (h13).2; have := (h16).1; have := (h16).2; have := (h33).1; have := (h33).2; have := (h28).1; have := (h28).2; omega
  exact tw_endi hx hb hr hlocks hK hT hS hQ (⟨h_x24, ⟨x27, k30, h33, q34⟩⟩) dX2_numberBehindBlanks_11
def Lt_X2_readBent : WL := [(3, 2, 4), (14, 0, 2000000)]
def LRt_X2_readBent : WL := []
set_option maxRecDepth 100000 in
set_option maxHeartbeats 4000000 in
theorem t_X2_readBent (l : Launch) (D : va_G) (cy : Nat → ClassId) (tx : (Nat → Nat) × (Nat → Nat)) (base Z : Nat) (K N : Nat → Nat) (Ma : MT) (Ra : RT) (Ja : JT) (hTy : Ty Z K N Ma Ra) (a0 : Nat) (hz_a0 : a0 < Z) (hk_a0 : K a0 = 3) (tb : Nat) (k_tb : Ra a0 0 = some tb) (ln : Int32) (k_ln : Ma a0 1 = ln) (h_ln : iv 0 400 ln) (pa : Int32) (k_pa : Ma a0 2 = pa) (h_pa : iv 0 400 pa) (hin : pa.toInt ≤ ln.toInt) : Met l yX2_readBent [Cond.code yX2_readBent cX2_readBent 3 none] (md_rm 4 0 0) (va_Pc [.ref (base + a0)] (md_U D cy tx base Z K N Ma Ra Ja)) (mQv D cy tx base (fun u => TP Z K N Lt_X2_readBent LRt_X2_readBent Ma Ra u ∧ ((∃ x0 : Int32, u.2.2.2.1 a0 2 = x0 ∧ iv 0 400 x0 ∧ (x0.toInt ≤ ln.toInt))))) 0 0 (fun q => base ≤ q) := by
  refine tw_ofW (L := Lt_X2_readBent) (LR := LRt_X2_readBent) (by decide) (Nat.le_of_ble_eq_true rfl) hTy ?_
  intro p e s m args below meth c Q ls hx hb hr hlocks hown hml hW hK hT hS hQ hl
  have hl : lv_has ls 3 [(0, .ref (base + a0))] := hl
  obtain ⟨hz_tb, hk_tb, hn_tb⟩ := hTy.refn hz_a0 hk_a0 (show rtR 3 0 = (13, 400, 1) from rfl) k_tb
  have hn_tb := hn_tb (by decide)
  refine lv_aload_n hx hb dX2_readBent_0 rfl (lv_at hl 0 rfl) ?_
  refine lv_iconst (v := 0) hx hb dX2_readBent_1 (by decide) ?_
  refine lv_aload_n hx hb dX2_readBent_2 rfl (lv_at hl 0 rfl) ?_
  refine tw_getr hx hb hW hown hK hS f_X2_12_2 hz_a0 hk_a0 (t := 10) (n := 0) rfl dX2_readBent_3 (fun b1 k2 hz_b1 hk_b1 hn_b1 => ?_)
  refine tw_geti hx hb hW hown hK hS f_X2_37_9 hz_b1 hk_b1 (lo := (-2147483648)) (hi := 10) rfl dX2_readBent_6 (fun x5 k4 h3 => ?_)
  refine lv_iconst (v := 1) hx hb dX2_readBent_9 (by decide) ?_
  refine lv_isub hx hb dX2_readBent_10 ?_
  refine tw_top (fun x7 => ?_)
  have h6 := iv_any x7
  have q8 : pa.toInt ≤ ln.toInt := by
    have := (h_ln).1; have := (h_ln).2; have := (h_pa).1; have := (h_pa).2; omega
  refine tw_goi hS (md_runV (As := [.int 0, .int x7]) (rest := []) hx hb hml hown hW hK hT hS.1 (t_X2_numberBehindBlanks l D cy tx base Z K N Ma Ra Ja hS.2.1 a0 hz_a0 hk_a0 0 (iv_mono (iv_c (c := 0) (n := 0) (by decide)) (by decide) (by decide)) x7 h6 tb k_tb ln k_ln (iv_mono h_ln (by decide) (by decide)) pa k_pa (iv_mono h_pa (by decide) (by decide)) q8) s_X2_77 ⟨rfl, rfl, ⟨Nat.le_of_ble_eq_true rfl, Nat.le_of_ble_eq_true rfl⟩, ⟨Nat.le_of_ble_eq_true rfl, Nat.le_of_ble_eq_true rfl⟩⟩ hz_a0 hk_a0 (by decide) rfl rfl hl.1 rfl (Nat.le_of_ble_eq_true rfl) dX2_readBent_11) rfl rfl (fun x15 H locs M12 R13 J11 hS f9 g10 E14 => ?_)
  have eR13 := Fr.nil g10 rfl
  subst eR13
  obtain ⟨h_x15, p16⟩ := E14
  obtain ⟨x18, k19, h17, q20⟩ := p16
  have k19 : M12 a0 2 = x18 := k19
  refine lv_istore_n (lv' := [(1, .int x15), (0, .ref (base + a0))]) hx hb dX2_readBent_14 rfl hl (by decide) rfl (fun ls hl => ?_)
  refine lv_aload_n hx hb dX2_readBent_15 rfl (lv_at hl 1 rfl) ?_
  refine tw_geti hx hb hW hown hK hS f_X2_44_2 hz_a0 hk_a0 (lo := (-2147483648)) (hi := 2147483647) rfl dX2_readBent_16 (fun x23 k22 h21 => ?_)
  refine lv_if_ne (tgt := 50) hx hb dX2_readBent_19 (by decide) (fun c24 => ?_) (fun c24 => ?_)
  · have q25 : ¬ x23.toInt = 0 := ti_ne c24
    have q26 : x18.toInt ≤ ln.toInt := by
      have := (h_ln).1; have := (h_ln).2; have := (h_pa).1; have := (h_pa).2; have := (h17).1; have := (h17).2; omega
    exact tw_endv hx hb hr hlocks hK hT hS hQ (⟨x18, k19, h17, q26⟩) dX2_readBent_50
  · have q27 : x23.toInt = 0 := ti_eq c24
    have h28 : iv 0 0 x23 := ⟨by have := (h21).1; have := ((iv_c (c := 0) (n := 0) (by decide))).1; omega, by have := (h21).2; have := ((iv_c (c := 0) (n := 0) (by decide))).2; omega⟩
    refine lv_aload_n hx hb dX2_readBent_22 rfl (lv_at hl 1 rfl) ?_
    refine lv_iconst (v := 0) hx hb dX2_readBent_23 (by decide) ?_
    refine lv_iconst (v := 5) hx hb dX2_readBent_24 (by decide) ?_
    have k29 : M12 a0 1 = ln := (Fr.kp (k := 1) f9 hk_a0 rfl).trans k_ln
    have q30 : x18.toInt ≤ ln.toInt := by
      have := (h_ln).1; have := (h_ln).2; have := (h_pa).1; have := (h_pa).2; have := (h17).1; have := (h17).2; omega
    refine tw_goi hS (md_runV (As := [.int 0, .int 5]) (rest := []) hx hb hml hown hW hK hT hS.1 (t_X2_numberBehindBlanks l D cy tx base Z K N M12 Ra J11 hS.2.1 a0 hz_a0 hk_a0 0 (iv_mono (iv_c (c := 0) (n := 0) (by decide)) (by decide) (by decide)) 5 (iv_mono (iv_c (c := 5) (n := 5) (by decide)) (by decide) (by decide)) tb k_tb ln k29 (iv_mono h_ln (by decide) (by decide)) x18 k19 (iv_mono h17 (by decide) (by decide)) q30) s_X2_77 ⟨rfl, rfl, ⟨Nat.le_of_ble_eq_true rfl, Nat.le_of_ble_eq_true rfl⟩, ⟨Nat.le_of_ble_eq_true rfl, Nat.le_of_ble_eq_true rfl⟩⟩ hz_a0 hk_a0 (by decide) rfl rfl hl.1 rfl (Nat.le_of_ble_eq_true rfl) dX2_readBent_25) rfl rfl (fun x37 H locs M34 R35 J33 hS f31 g32 E36 => ?_)
    have eR35 := Fr.nil g32 rfl
    subst eR35
    obtain ⟨h_x37, p38⟩ := E36
    obtain ⟨x40, k41, h39, q42⟩ := p38
    have k41 : M34 a0 2 = x40 := k41
    refine lv_istore_n (lv' := [(2, .int x37), (1, .int x15), (0, .ref (base + a0))]) hx hb dX2_readBent_28 rfl hl (by decide) rfl (fun ls hl => ?_)
    refine lv_aload_n hx hb dX2_readBent_29 rfl (lv_at hl 2 rfl) ?_
    refine tw_getrk hx hb hW hown hK hS f_X2_12_2 hz_a0 hk_a0 (b := b1) k2 dX2_readBent_30 ?_
    refine lv_iload_n hx hb dX2_readBent_33 rfl (lv_at hl 1 rfl) ?_
    refine tw_goi hS (md_runV (As := [.int x15]) (rest := []) hx hb hml hown hW hK hT hS.1 (t_X9_hasMember l D cy tx base Z K N M34 Ra J33 hS.2.1 b1 hz_b1 hk_b1 x15 h_x15) s_X2_102 ⟨rfl, rfl, ⟨Nat.le_of_ble_eq_true rfl, Nat.le_of_ble_eq_true rfl⟩, ⟨Nat.le_of_ble_eq_true rfl, Nat.le_of_ble_eq_true rfl⟩⟩ hz_b1 hk_b1 (by decide) rfl rfl hl.1 rfl (Nat.le_of_ble_eq_true rfl) dX2_readBent_34) rfl rfl (fun x49 H locs M46 R47 J45 hS f43 g44 E48 => ?_)
    have eM46 := Fr.nil f43 rfl
    subst eM46
    have eR47 := Fr.nil g44 rfl
    subst eR47
    obtain ⟨h_x49, p50⟩ := E48
    refine lv_if_eq (tgt := 50) hx hb dX2_readBent_37 (by decide) (fun c51 => ?_) (fun c51 => ?_)
    · have q52 : x49.toInt = 0 := ti_eq c51
      have h53 : iv 0 0 x49 := ⟨by have := (h_x49).1; have := ((iv_c (c := 0) (n := 0) (by decide))).1; omega, by have := (h_x49).2; have := ((iv_c (c := 0) (n := 0) (by decide))).2; omega⟩
      have q54 : x40.toInt ≤ ln.toInt := by
        have := (h_ln).1; have := (h_ln).2; have := (h_pa).1; have := (h_pa).2; have := (h17).1; have := (h17).2; have := (h39).1; have := (h39).2; omega
      exact tw_endv hx hb hr hlocks hK hT hS hQ (⟨x40, k41, h39, q54⟩) dX2_readBent_50
    · have q55 : ¬ x49.toInt = 0 := ti_ne c51
      have h56 : iv 1 1 x49 := ⟨by have := (h_x49).1; have := ((iv_c (c := 0) (n := 0) (by decide))).1; have := ((iv_c (c := 0) (n := 0) (by decide))).2; omega, by have := (h_x49).2; have := ((iv_c (c := 0) (n := 0) (by decide))).1; have := ((iv_c (c := 0) (n := 0) (by decide))).2; omega⟩
      have h57 : iv 0 9 x15 := ⟨by have := (p50 c51).1; have := (h_x15).1; omega, by have := (p50 c51).2; have := (h_x15).2; omega⟩
      refine lv_aload_n hx hb dX2_readBent_40 rfl (lv_at hl 2 rfl) ?_
      refine tw_getrk hx hb hW hown hK hS f_X2_12_2 hz_a0 hk_a0 (b := b1) k2 dX2_readBent_41 ?_
      refine tw_getr hx hb hW hown hK hS f_X2_106_9 hz_b1 hk_b1 (t := 14) (n := 10) rfl dX2_readBent_44 (fun b58 k59 hz_b58 hk_b58 hn_b58 => ?_)
      have hn_b58 := hn_b58 (by decide)
      refine lv_iload_n hx hb dX2_readBent_47 rfl (lv_at hl 1 rfl) ?_
      refine lv_iload_n hx hb dX2_readBent_48 rfl (lv_at hl 0 rfl) ?_
      refine tw_iast hx hb hK hS hz_b58 hk_b58 (Or.inl rfl) hn_b58 h57 ⟨by decide, by decide⟩ h_x37 (rg_s14 ⟨by decide, by decide⟩) (jl := 0) (jh := 1999999) ⟨by decide, by decide⟩ rfl dX2_readBent_49 (fun H locs M62 hS k60 f61 => ?_)
      have k63 : M62 a0 2 = x40 := (Fr.kp (k := 2) f61 hk_a0 rfl).trans k41
      have q64 : x40.toInt ≤ ln.toInt := by
        have := (h_ln).1; have := (h_ln).2; have := (h_pa).1; have := (h_pa).2; have := (h17).1; have := (h17).2; have := (h39).1; have := (h39).2; omega
      exact tw_endv hx hb hr hlocks hK hT hS hQ (⟨x40, k63, h39, q64⟩) dX2_readBent_50
