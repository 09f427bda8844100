def Lt_X12_saying : WL := [(12, 23, 24)]
def LRt_X12_saying : WL := []
set_option maxRecDepth 100000 in
set_option maxHeartbeats 4000000 in
theorem t_X12_saying (l : Launch) (D : va_G) (cy : Nat → ClassId) (tx : (Nat → Nat) × (Nat → Nat)) (base Z : Nat) (K N : Nat → Nat) (Ma : MT) (Ra : RT) (Ja : JT) (hTy : Ty Z K N Ma Ra) (a0 : Nat) (hz_a0 : a0 < Z) (hk_a0 : K a0 = 12) (a1 : Int32) (h_a1 : iv 0 9 a1) (a2 : Int32) (h_a2 : iv 0 11 a2) (a3 : Int32) (h_a3 : iv (-1) 7 a3) (co_a0 : Codes Ma Ra a0) : Met l yX12_saying [Cond.code yX12_saying cX12_saying 8 (some .int)] (md_rm 3 0 0) (va_Pc [.ref (base + a0), .int a1, .int a2, .int a3] (md_U D cy tx base Z K N Ma Ra Ja)) (mQi D cy tx base (fun r u => TP Z K N Lt_X12_saying LRt_X12_saying Ma Ra u ∧ (iv (-2147483648) 2147483647 r))) 0 0 (fun q => base ≤ q) := by
  refine tw_ofW (L := Lt_X12_saying) (LR := LRt_X12_saying) (by decide) (Nat.le_of_ble_eq_true rfl) hTy ?_
  intro p e s m args below meth c Q ls hx hb hr hlocks hown hml hW hK hT hS hQ hl
  have hl : lv_has ls 8 [(0, .ref (base + a0)), (1, .int a1), (2, .int a2), (3, .int a3)] := hl
  refine lv_aload_n hx hb dX12_saying_0 rfl (lv_at hl 0 rfl) ?_
  refine lv_iload_n hx hb dX12_saying_1 rfl (lv_at hl 1 rfl) ?_
  refine lv_iload_n hx hb dX12_saying_2 rfl (lv_at hl 2 rfl) ?_
  refine tw_goi hS (md_runV (As := [.int a1, .int a2]) (rest := []) hx hb hml hown hW hK hT hS.1 (t_X12_worthOf l D cy tx base Z K N Ma Ra Ja hS.2.1 a0 hz_a0 hk_a0 a1 h_a1 a2 h_a2) s_X12_330 ⟨rfl, rfl, ⟨Nat.le_of_ble_eq_true rfl, Nat.le_of_ble_eq_true rfl⟩, ⟨Nat.le_of_ble_eq_true rfl, Nat.le_of_ble_eq_true rfl⟩⟩ hz_a0 hk_a0 (by decide) rfl rfl hl.1 rfl (Nat.le_of_ble_eq_true rfl) dX12_saying_3) rfl rfl (fun x7 H locs M4 R5 J3 hS f1 g2 E6 => ?_)
  have eM4 := Fr.nil f1 rfl
  subst eM4
  have eR5 := Fr.nil g2 rfl
  subst eR5
  have h_x7 := E6
  clear E6
  refine lv_istore (lv' := [(4, .int x7), (0, .ref (base + a0)), (1, .int a1), (2, .int a2), (3, .int a3)]) hx hb dX12_saying_6 hl (by decide) rfl (fun ls hl => ?_)
  refine lv_aload_n hx hb dX12_saying_8 rfl (lv_at hl 1 rfl) ?_
  refine tw_getr hx hb hW hown hK hS f_X12_45_11 hz_a0 hk_a0 (t := 23) (n := 226) rfl dX12_saying_9 (fun b8 k9 hz_b8 hk_b8 hn_b8 => ?_)
  have hn_b8 := hn_b8 (by decide)
  refine lv_bipush (v := 20) hx hb dX12_saying_12 (by decide) ?_
  refine lv_iload_n hx hb dX12_saying_14 rfl (lv_at hl 2 rfl) ?_
  refine tw_iadd (lo := 20) (hi := 29) hx hb (iv_c (c := 20) (n := 20) (by decide)) h_a1 ⟨by decide, by decide⟩ ⟨by decide, by decide⟩ dX12_saying_15 (fun x12 e11 h10 => ?_)
  have e11 : x12.toInt = 20 + a1.toInt := e11
  refine tw_iald hx hb hK hS hz_b8 hk_b8 (Or.inr (by decide)) hn_b8 (lo := (-2147483648)) (hi := 2147483647) h10 ⟨by decide, by decide⟩ rg_full dX12_saying_16 (fun x15 k14 h13 => ?_)
  refine lv_istore (lv' := [(5, .int x15), (4, .int x7), (0, .ref (base + a0)), (1, .int a1), (2, .int a2), (3, .int a3)]) hx hb dX12_saying_17 hl (by decide) rfl (fun ls hl => ?_)
  refine lv_iload hx hb dX12_saying_19 (lv_at hl 0 rfl) ?_
  refine lv_if_lt (tgt := 33) hx hb dX12_saying_21 (by decide) (fun c16 => ?_) (fun c16 => ?_)
  · have q17 : x15.toInt < 0 := ti_lt c16
    have h18 : iv (-2147483648) (-1) x15 := iv_ltL (y := 0) h13 (iv_c (c := 0) (n := 0) (by decide)) q17 (by decide)
    refine lv_iload hx hb dX12_saying_33 (lv_at hl 1 rfl) ?_
    refine tw_goi hS (md_runS (As := [.int x7]) (rest := []) hx hb hml hown hW hK hT hS.1 (t_X12_truly l D cy tx base Z K N Ma Ra J3 hS.2.1 x7 h_x7) s_X12_354 ⟨rfl, rfl, ⟨Nat.le_of_ble_eq_true rfl, Nat.le_of_ble_eq_true rfl⟩, ⟨Nat.le_of_ble_eq_true rfl, Nat.le_of_ble_eq_true rfl⟩⟩ rfl hl.1 rfl (Nat.le_of_ble_eq_true rfl) dX12_saying_35) rfl rfl (fun x25 H locs M22 R23 J21 hS f19 g20 E24 => ?_)
    have eM22 := Fr.nil f19 rfl
    subst eM22
    have eR23 := Fr.nil g20 rfl
    subst eR23
    have h_x25 := E24
    clear E24
    exact tw_endi hx hb hr hlocks hK hT hS hQ ((iv_mono h_x25 (by decide) (by decide))) dX12_saying_38
  · have q26 : 0 ≤ x15.toInt := ti_nlt c16
    have h27 : iv 0 2147483647 x15 := iv_geL (y := 0) h13 (iv_c (c := 0) (n := 0) (by decide)) q26 (by decide)
    refine lv_iload hx hb dX12_saying_24 (lv_at hl 0 rfl) ?_
    refine lv_aload_n hx hb dX12_saying_26 rfl (lv_at hl 2 rfl) ?_
    refine tw_geti hx hb hW hown hK hS f_X12_298_11 hz_a0 hk_a0 (lo := 0) (hi := 6) rfl dX12_saying_27 (fun x30 k29 h28 => ?_)
    refine lv_icmp_lt (tgt := 39) hx hb dX12_saying_30 (by decide) (fun c31 => ?_) (fun c31 => ?_)
    · have q32 : x15.toInt < x30.toInt := ti_lt c31
      have h33 : iv 0 5 x15 := iv_ltL (y := x30) h27 h28 q32 (by decide)
      have h34 : iv 1 6 x30 := iv_gtL (y := x15) h28 h27 q32 (by decide)
      refine lv_aload_n hx hb dX12_saying_39 rfl (lv_at hl 2 rfl) ?_
      refine tw_getr hx hb hW hown hK hS f_X12_42_11 hz_a0 hk_a0 (t := 15) (n := 10) rfl dX12_saying_40 (fun b35 k36 hz_b35 hk_b35 hn_b35 => ?_)
      have hn_b35 := hn_b35 (by decide)
      refine lv_iconst (v := 0) hx hb dX12_saying_43 (by decide) ?_
      refine lv_iload_n hx hb dX12_saying_44 rfl (lv_at hl 3 rfl) ?_
      refine lv_i2l hx hb dX12_saying_45 rfl ?_
      refine tw_last hx hb hK hS hz_b35 hk_b35 hn_b35 (iv_c (c := 0) (n := 0) (by decide)) ⟨by decide, by decide⟩ dX12_saying_46 (fun H locs J37 hS => ?_)
      refine lv_aload_n hx hb dX12_saying_47 rfl (lv_at hl 2 rfl) ?_
      refine tw_getrk hx hb hW hown hK hS f_X12_42_11 hz_a0 hk_a0 (b := b35) k36 dX12_saying_48 ?_
      refine lv_iconst (v := 2) hx hb dX12_saying_51 (by decide) ?_
      refine lv_iload hx hb dX12_saying_52 (lv_at hl 1 rfl) ?_
      refine lv_i2l hx hb dX12_saying_54 rfl ?_
      refine tw_last hx hb hK hS hz_b35 hk_b35 hn_b35 (iv_c (c := 2) (n := 2) (by decide)) ⟨by decide, by decide⟩ dX12_saying_55 (fun H locs J38 hS => ?_)
      refine lv_aload_n hx hb dX12_saying_56 rfl (lv_at hl 2 rfl) ?_
      refine tw_getrk hx hb hW hown hK hS f_X12_42_11 hz_a0 hk_a0 (b := b35) k36 dX12_saying_57 ?_
      refine lv_iconst (v := 3) hx hb dX12_saying_60 (by decide) ?_
      refine lv_aload_n hx hb dX12_saying_61 rfl (lv_at hl 2 rfl) ?_
      refine tw_getr hx hb hW hown hK hS f_X12_51_11 hz_a0 hk_a0 (t := 30) (n := 10) rfl dX12_saying_62 (fun b39 k40 hz_b39 hk_b39 hn_b39 => ?_)
      have hn_b39 := hn_b39 (by decide)
      refine lv_iload_n hx hb dX12_saying_65 rfl (lv_at hl 3 rfl) ?_
      refine tw_iald hx hb hK hS hz_b39 hk_b39 (Or.inr (by decide)) hn_b39 (lo := 0) (hi := 9999) h_a1 ⟨by decide, by decide⟩ rg_u30 dX12_saying_66 (fun x43 k42 h41 => ?_)
      refine lv_i2l hx hb dX12_saying_67 rfl ?_
      refine tw_last hx hb hK hS hz_b35 hk_b35 hn_b35 (iv_c (c := 3) (n := 3) (by decide)) ⟨by decide, by decide⟩ dX12_saying_68 (fun H locs J44 hS => ?_)
      refine lv_aload_n hx hb dX12_saying_69 rfl (lv_at hl 2 rfl) ?_
      refine tw_getrk hx hb hW hown hK hS f_X12_42_11 hz_a0 hk_a0 (b := b35) k36 dX12_saying_70 ?_
      refine lv_bipush (v := 7) hx hb dX12_saying_73 (by decide) ?_
      refine lv_lconst (v := 0) hx hb dX12_saying_75 (by decide) ?_
      refine tw_last hx hb hK hS hz_b35 hk_b35 hn_b35 (iv_c (c := 7) (n := 7) (by decide)) ⟨by decide, by decide⟩ dX12_saying_76 (fun H locs J45 hS => ?_)
      refine lv_iload_n hx hb dX12_saying_77 rfl (lv_at hl 5 rfl) ?_
      refine lv_iconst (v := 1) hx hb dX12_saying_78 (by decide) ?_
      refine tw_iadd (lo := 0) (hi := 8) hx hb h_a3 (iv_c (c := 1) (n := 1) (by decide)) ⟨by decide, by decide⟩ ⟨by decide, by decide⟩ dX12_saying_79 (fun x48 e47 h46 => ?_)
      have e47 : x48.toInt = a3.toInt + 1 := e47
      refine lv_istore (lv' := [(6, .int x48), (5, .int x15), (4, .int x7), (0, .ref (base + a0)), (1, .int a1), (2, .int a2), (3, .int a3)]) hx hb dX12_saying_80 hl (by decide) rfl (fun ls hl => ?_)
      have W82_50 : ∀ (n_50 : Nat) (x49 : Int32) (M50 : MT) (R51 : RT) (J52 : JT) (H : Heap) (locs : List Loc) (ls : Array Slot) (h_x49 : iv 0 8 x49) (hm_50 : 8 - x49.toInt < (n_50 : Int)) (hS : SB D cy base Z K N Lt_X12_saying LRt_X12_saying Ma Ra M50 R51 J52 s H locs) (hl : lv_has ls 8 [(6, .int x49), (5, .int x15), (4, .int x7), (0, .ref (base + a0)), (1, .int a1), (2, .int a2), (3, .int a3)]), W p l e (md_rm 3 0 0) s m args below meth c H locs 0 0 Q (F0 m 82 ls []) := by
        intro n_50
        induction n_50 with
        | zero =>
          intro x49 M50 R51 J52 H locs ls h_x49 hm_50 hS hl
          exfalso
          have := (h_a1).1; have := (h_a1).2; have := (h_a2).1; have := (h_a2).2; have := (h_a3).1; have := (h_a3).2; have := (h_x49).1; have := (h_x49).2; omega
        | succ n_50 ih_50 =>
          intro x49 M50 R51 J52 H locs ls h_x49 hm_50 hS hl
          have f53 := hS.2.2.1
          have g54 := hS.2.2.2
          refine lv_iload_n hx hb dX12_saying_82 rfl (lv_at hl 6 rfl) ?_
          refine lv_if_lt (tgt := 151) hx hb dX12_saying_83 (by decide) (fun c55 => ?_) (fun c55 => ?_)
          · have q56 : a3.toInt < 0 := ti_lt c55
            have h57 : iv (-1) (-1) a3 := iv_ltL (y := 0) h_a3 (iv_c (c := 0) (n := 0) (by decide)) q56 (by decide)
            refine lv_iconst (v := 0) hx hb dX12_saying_151 (by decide) ?_
            refine lv_istore (lv' := [(6, .int 0), (5, .int x15), (4, .int x7), (0, .ref (base + a0)), (1, .int a1), (2, .int a2), (3, .int a3)]) hx hb dX12_saying_152 hl (by decide) rfl (fun ls hl => ?_)
            have W154_59 : ∀ (n_59 : Nat) (x58 : Int32) (M59 : MT) (R60 : RT) (J61 : JT) (H : Heap) (locs : List Loc) (ls : Array Slot) (h_x58 : iv 0 12 x58) (hm_59 : 12 - x58.toInt < (n_59 : Int)) (hS : SB D cy base Z K N Lt_X12_saying LRt_X12_saying Ma Ra M59 R60 J61 s H locs) (hl : lv_has ls 8 [(6, .int x58), (5, .int x15), (4, .int x7), (0, .ref (base + a0)), (1, .int a1), (2, .int a2), (3, .int a3)]), W p l e (md_rm 3 0 0) s m args below meth c H locs 0 0 Q (F0 m 154 ls []) := by
              intro n_59
              induction n_59 with
              | zero =>
                intro x58 M59 R60 J61 H locs ls h_x58 hm_59 hS hl
                exfalso
                have := (h_a1).1; have := (h_a1).2; have := (h_a2).1; have := (h_a2).2; have := (h57).1; have := (h57).2; have := (h_x58).1; have := (h_x58).2; omega
              | succ n_59 ih_59 =>
                intro x58 M59 R60 J61 H locs ls h_x58 hm_59 hS hl
                have f62 := hS.2.2.1
                have g63 := hS.2.2.2
                refine lv_iload hx hb dX12_saying_154 (lv_at hl 0 rfl) ?_
                refine lv_aload_n hx hb dX12_saying_156 rfl (lv_at hl 3 rfl) ?_
                refine tw_getr hx hb hW hown hK hS f_X12_23_11 hz_a0 hk_a0 (t := 28) (n := 6) rfl dX12_saying_157 (fun b64 k65 hz_b64 hk_b64 hn_b64 => ?_)
                have hn_b64 := hn_b64 (by decide)
                refine lv_iload hx hb dX12_saying_160 (lv_at hl 1 rfl) ?_
                refine tw_iald hx hb hK hS hz_b64 hk_b64 (Or.inr (by decide)) hn_b64 (lo := 0) (hi := 12) h33 ⟨by decide, by decide⟩ rg_u28 dX12_saying_162 (fun x68 k67 h66 => ?_)
                refine lv_icmp_ge (tgt := 233) hx hb dX12_saying_163 (by decide) (fun c69 => ?_) (fun c69 => ?_)
                · have q70 : x68.toInt ≤ x58.toInt := ti_le c69
                  refine lv_iload hx hb dX12_saying_233 (lv_at hl 2 rfl) ?_
                  refine tw_goi hS (md_runS (As := [.int x7]) (rest := []) hx hb hml hown hW hK hT hS.1 (t_X12_truly l D cy tx base Z K N M59 R60 J61 hS.2.1 x7 h_x7) s_X12_354 ⟨rfl, rfl, ⟨Nat.le_of_ble_eq_true rfl, Nat.le_of_ble_eq_true rfl⟩, ⟨Nat.le_of_ble_eq_true rfl, Nat.le_of_ble_eq_true rfl⟩⟩ rfl hl.1 rfl (Nat.le_of_ble_eq_true rfl) dX12_saying_235) rfl rfl (fun x77 H locs M74 R75 J73 hS f71 g72 E76 => ?_)
                  have eM74 := Fr.nil f71 rfl
                  subst eM74
                  have eR75 := Fr.nil g72 rfl
                  subst eR75
                  have h_x77 := E76
                  clear E76
                  exact tw_endi hx hb hr hlocks hK hT hS hQ ((iv_mono h_x77 (by decide) (by decide))) dX12_saying_238
                · have q78 : x58.toInt < x68.toInt := ti_nle c69
                  have h79 : iv 0 11 x58 := iv_ltL (y := x68) h_x58 h66 q78 (by decide)
                  have h80 : iv 1 12 x68 := iv_gtL (y := x58) h66 h_x58 q78 (by decide)
                  refine lv_bipush (v := 36) hx hb dX12_saying_166 (by decide) ?_
                  refine lv_iload hx hb dX12_saying_168 (lv_at hl 1 rfl) ?_
                  refine tw_icmul (k := 36) (lo := 0) (hi := 180) hx hb (by decide) h33 (by decide) ⟨by decide, by decide⟩ ⟨by decide, by decide⟩ dX12_saying_170 (fun x83 e82 h81 => ?_)
                  refine lv_iconst (v := 3) hx hb dX12_saying_171 (by decide) ?_
                  refine lv_iload hx hb dX12_saying_172 (lv_at hl 0 rfl) ?_
                  refine tw_icmul (k := 3) (lo := 0) (hi := 33) hx hb (by decide) h79 (by decide) ⟨by decide, by decide⟩ ⟨by decide, by decide⟩ dX12_saying_174 (fun x86 e85 h84 => ?_)
                  refine tw_iadd (lo := 0) (hi := 213) hx hb h81 h84 ⟨by decide, by decide⟩ ⟨by decide, by decide⟩ dX12_saying_175 (fun x89 e88 h87 => ?_)
                  refine lv_istore (lv' := [(7, .int x89), (6, .int x58), (5, .int x15), (4, .int x7), (0, .ref (base + a0)), (1, .int a1), (2, .int a2), (3, .int a3)]) hx hb dX12_saying_176 hl (by decide) rfl (fun ls hl => ?_)
                  refine lv_aload_n hx hb dX12_saying_178 rfl (lv_at hl 4 rfl) ?_
                  refine tw_getr hx hb hW hown hK hS f_X12_20_11 hz_a0 hk_a0 (t := 27) (n := 216) rfl dX12_saying_179 (fun b90 k91 hz_b90 hk_b90 hn_b90 => ?_)
                  have hn_b90 := hn_b90 (by decide)
                  refine lv_iload hx hb dX12_saying_182 (lv_at hl 0 rfl) ?_
                  refine lv_iconst (v := 1) hx hb dX12_saying_184 (by decide) ?_
                  refine tw_iadd (lo := 1) (hi := 214) hx hb h87 (iv_c (c := 1) (n := 1) (by decide)) ⟨by decide, by decide⟩ ⟨by decide, by decide⟩ dX12_saying_185 (fun x94 e93 h92 => ?_)
                  have e93 : x94.toInt = x89.toInt + 1 := e93
                  refine tw_iald hx hb hK hS hz_b90 hk_b90 (Or.inr (by decide)) hn_b90 (lo := (-2147483648)) (hi := 2147483647) h92 ⟨by decide, by decide⟩ rg_u27 dX12_saying_186 (fun x97 k96 h95 => ?_)
                  refine lv_if_lt (tgt := 219) hx hb dX12_saying_187 (by decide) (fun c98 => ?_) (fun c98 => ?_)
                  · have q99 : x97.toInt < 0 := ti_lt c98
                    have h100 : iv (-2147483648) (-1) x97 := iv_ltL (y := 0) h95 (iv_c (c := 0) (n := 0) (by decide)) q99 (by decide)
                    refine lv_aload_n hx hb dX12_saying_219 rfl (lv_at hl 4 rfl) ?_
                    refine tw_getrk hx hb hW hown hK hS f_X12_20_11 hz_a0 hk_a0 (b := b90) k91 dX12_saying_220 ?_
                    refine lv_iload hx hb dX12_saying_223 (lv_at hl 0 rfl) ?_
                    refine tw_iald hx hb hK hS hz_b90 hk_b90 (Or.inr (by decide)) hn_b90 (lo := (-2147483648)) (hi := 2147483647) h87 ⟨by decide, by decide⟩ rg_u27 dX12_saying_225 (fun x103 k102 h101 => ?_)
                    exact tw_endi hx hb hr hlocks hK hT hS hQ (h101) dX12_saying_226
                  · have q104 : 0 ≤ x97.toInt := ti_nlt c98
                    have h105 : iv 0 2147483647 x97 := iv_geL (y := 0) h95 (iv_c (c := 0) (n := 0) (by decide)) q104 (by decide)
                    refine lv_aload_n hx hb dX12_saying_190 rfl (lv_at hl 4 rfl) ?_
                    refine lv_iload hx hb dX12_saying_191 (lv_at hl 2 rfl) ?_
                    refine lv_aload_n hx hb dX12_saying_193 rfl (lv_at hl 4 rfl) ?_
                    refine tw_getrk hx hb hW hown hK hS f_X12_20_11 hz_a0 hk_a0 (b := b90) k91 dX12_saying_194 ?_
                    refine lv_iload hx hb dX12_saying_197 (lv_at hl 0 rfl) ?_
                    refine lv_iconst (v := 1) hx hb dX12_saying_199 (by decide) ?_
                    refine tw_iadd (lo := 1) (hi := 214) hx hb h87 (iv_c (c := 1) (n := 1) (by decide)) ⟨by decide, by decide⟩ ⟨by decide, by decide⟩ dX12_saying_200 (fun x108 e107 h106 => ?_)
                    have e107 : x108.toInt = x89.toInt + 1 := e107
                    refine tw_iald hx hb hK hS hz_b90 hk_b90 (Or.inr (by decide)) hn_b90 (lo := (-2147483648)) (hi := 2147483647) h106 ⟨by decide, by decide⟩ rg_u27 dX12_saying_201 (fun x111 k110 h109 => ?_)
                    refine lv_aload_n hx hb dX12_saying_202 rfl (lv_at hl 4 rfl) ?_
                    refine tw_getrk hx hb hW hown hK hS f_X12_20_11 hz_a0 hk_a0 (b := b90) k91 dX12_saying_203 ?_
                    refine lv_iload hx hb dX12_saying_206 (lv_at hl 0 rfl) ?_
                    refine lv_iconst (v := 2) hx hb dX12_saying_208 (by decide) ?_
                    refine tw_iadd (lo := 2) (hi := 215) hx hb h87 (iv_c (c := 2) (n := 2) (by decide)) ⟨by decide, by decide⟩ ⟨by decide, by decide⟩ dX12_saying_209 (fun x114 e113 h112 => ?_)
                    have e113 : x114.toInt = x89.toInt + 2 := e113
                    refine tw_iald hx hb hK hS hz_b90 hk_b90 (Or.inr (by decide)) hn_b90 (lo := (-2147483648)) (hi := 2147483647) h112 ⟨by decide, by decide⟩ rg_u27 dX12_saying_210 (fun x117 k116 h115 => ?_)
                    obtain ⟨b118, k119, hz_b118, hk_b118, hn_b118⟩ := hS.2.1.ref hz_a0 hk_a0 (show rtR 12 3 = (25, 2400, 0) from rfl)
                    have hn_b118 := hn_b118 (by decide)
                    have k120 : M59 a0 2 = x30 := (Fr.kp (k := 2) f62 hk_a0 rfl).trans k29
                    have zr117 := ti_cl (x := x15) (by have := (h33).1; omega); have zk117 := ti_cl (x := x58) (by have := (h79).1; omega); have za117 := ti_cl (x := x94) (by have := (h92).1; omega); have zb117 := ti_cl (x := x108) (by have := (h106).1; omega); have zc117 := ti_cl (x := x114) (by have := (h112).1; omega)
                    have zx117 : x111 = x97 := by rw [← k110, ← k96, show x108.toNatClampNeg = x94.toNatClampNeg by omega]
                    have zt117 : ((x15.toNatClampNeg : Nat) : Int) < (M59 a0 2).toInt := by rw [k120]; omega
                    have zu117 : ((x58.toNatClampNeg : Nat) : Int) < (M59 b64 x15.toNatClampNeg).toInt := by rw [k67]; omega
                    have zo117 := (Codes.fr co_a0 hTy hz_a0 hk_a0 hS.2.2.1 hS.2.2.2 rfl) b118 b90 b64 k119 k91 k65 _ _ zt117 zu117
                    rw [show 36 * x15.toNatClampNeg + 3 * x58.toNatClampNeg + 1 = x108.toNatClampNeg by omega, show 36 * x15.toNatClampNeg + 3 * x58.toNatClampNeg + 2 = x114.toNatClampNeg by omega, k110, k116] at zo117
                    have zp117 := zo117.resolve_left (by rw [zx117]; have := (h105).1; omega)
                    have h121 : iv 0 400 x111 := ⟨by rw [zx117]; exact (h105).1, Int.le_trans zp117.1 zp117.2.1⟩
                    have h122 : iv 0 400 x117 := ⟨Int.le_trans (h121).1 zp117.1, zp117.2.1⟩
                    refine tw_gol hS (md_runV (As := [.int x15, .int x111, .int x117]) (rest := []) hx hb hml hown hW hK hT hS.1 (t_X12_reckons l D cy tx base Z K N M59 R60 J61 hS.2.1 a0 hz_a0 hk_a0 x15 h33 x111 h121 x117 h122 b118 k119 zp117.1 zp117.2.2) s_X12_360 ⟨rfl, rfl, ⟨Nat.le_of_ble_eq_true rfl, Nat.le_of_ble_eq_true rfl⟩, ⟨Nat.le_of_ble_eq_true rfl, Nat.le_of_ble_eq_true rfl⟩⟩ hz_a0 hk_a0 (by decide) rfl rfl hl.1 rfl (Nat.le_of_ble_eq_true rfl) dX12_saying_211) rfl rfl (fun x129 H locs M126 R127 J125 hS f123 g124 E128 => ?_)
                    have eR127 := Fr.nil g124 rfl
                    subst eR127
                    refine lv_lconst (v := 1) hx hb dX12_saying_214 (by decide) ?_
                    refine W.lcmp hx hb dX12_saying_215 ?_
                    refine lv_topi (fun x132 e131 => ?_)
                    have h130 := iv_any x132
                    refine lv_if_ne (tgt := 227) hx hb dX12_saying_216 (by decide) (fun c133 => ?_) (fun c133 => ?_)
                    · have q134 : ¬ x132.toInt = 0 := ti_ne c133
                      have n135 := md_lne e131 c133
                      refine tw_iinc (lv' := fun x138 => [(6, .int x138), (7, .int x89), (5, .int x15), (4, .int x7), (0, .ref (base + a0)), (1, .int a1), (2, .int a2), (3, .int a3)]) (lo := 1) (hi := 12) hx hb dX12_saying_227 hl (k := 1) rfl h79 (by decide) ⟨by decide, by decide⟩ ⟨by decide, by decide⟩ (by decide) (fun _ => rfl) (fun x138 ls e137 h136 hl => ?_)
                      refine lv_goto (tgt := 154) hx hb dX12_saying_230 (by decide) ?_
                      have hm139 : 12 - x138.toInt < (n_59 : Int) := by
                        have := (h_a1).1; have := (h_a1).2; have := (h_a2).1; have := (h_a2).2; have := (h57).1; have := (h57).2; have := (h136).1; have := (h136).2; have := (h79).1; have := (h79).2; have := (h84).1; have := (h84).2; omega
                      exact ih_59 x138 M126 R60 J125 H locs _ (iv_mono h136 (by decide) (by decide)) hm139 hS (lv_sub hl [0, 2, 3, 4, 5, 6, 7] rfl)
                    · have q140 : x132.toInt = 0 := ti_eq c133
                      have h141 : iv 0 0 x132 := ⟨by have := (h130).1; have := ((iv_c (c := 0) (n := 0) (by decide))).1; omega, by have := (h130).2; have := ((iv_c (c := 0) (n := 0) (by decide))).2; omega⟩
                      refine lv_aload_n hx hb dX12_saying_219 rfl (lv_at hl 4 rfl) ?_
                      refine tw_getrk hx hb hW hown hK hS f_X12_20_11 hz_a0 hk_a0 (b := b90) k91 dX12_saying_220 ?_
                      refine lv_iload hx hb dX12_saying_223 (lv_at hl 0 rfl) ?_
                      refine tw_iald hx hb hK hS hz_b90 hk_b90 (Or.inr (by decide)) hn_b90 (lo := (-2147483648)) (hi := 2147483647) h87 ⟨by decide, by decide⟩ rg_u27 dX12_saying_225 (fun x144 k143 h142 => ?_)
                      exact tw_endi hx hb hr hlocks hK hT hS hQ (h142) dX12_saying_226
            have hm145 : 12 - (0 : Int32).toInt < (((13 : Nat) : Int) : Int) := by
              have := (h_a1).1; have := (h_a1).2; have := (h_a2).1; have := (h_a2).2; have := (h57).1; have := (h57).2; have : (0 : Int32).toInt = 0 := (by decide); omega
            exact W154_59 13 0 M50 R51 J52 H locs _ (iv_mono (iv_c (c := 0) (n := 0) (by decide)) (by decide) (by decide)) hm145 hS hl
          · have q146 : 0 ≤ a3.toInt := ti_nlt c55
            have h147 : iv 0 7 a3 := iv_geL (y := 0) h_a3 (iv_c (c := 0) (n := 0) (by decide)) q146 (by decide)
            refine lv_iload hx hb dX12_saying_86 (lv_at hl 0 rfl) ?_
            refine lv_aload_n hx hb dX12_saying_88 rfl (lv_at hl 3 rfl) ?_
            refine tw_geti hx hb hW hown hK hS f_X12_351_11 hz_a0 hk_a0 (lo := 0) (hi := 8) rfl dX12_saying_89 (fun x150 k149 h148 => ?_)
            refine lv_icmp_ge (tgt := 151) hx hb dX12_saying_92 (by decide) (fun c151 => ?_) (fun c151 => ?_)
            · have q152 : x150.toInt ≤ x49.toInt := ti_le c151
              refine lv_iconst (v := 0) hx hb dX12_saying_151 (by decide) ?_
              refine lv_istore (lv' := [(6, .int 0), (5, .int x15), (4, .int x7), (0, .ref (base + a0)), (1, .int a1), (2, .int a2), (3, .int a3)]) hx hb dX12_saying_152 hl (by decide) rfl (fun ls hl => ?_)
              have W154_154 : ∀ (n_154 : Nat) (x153 : Int32) (M154 : MT) (R155 : RT) (J156 : JT) (H : Heap) (locs : List Loc) (ls : Array Slot) (h_x153 : iv 0 12 x153) (hm_154 : 12 - x153.toInt < (n_154 : Int)) (hS : SB D cy base Z K N Lt_X12_saying LRt_X12_saying Ma Ra M154 R155 J156 s H locs) (hl : lv_has ls 8 [(6, .int x153), (5, .int x15), (4, .int x7), (0, .ref (base + a0)), (1, .int a1), (2, .int a2), (3, .int a3)]), W p l e (md_rm 3 0 0) s m args below meth c H locs 0 0 Q (F0 m 154 ls []) := by
                intro n_154
                induction n_154 with
                | zero =>
                  intro x153 M154 R155 J156 H locs ls h_x153 hm_154 hS hl
                  exfalso
                  have := (h_a1).1; have := (h_a1).2; have := (h_a2).1; have := (h_a2).2; have := (h147).1; have := (h147).2; have := (h_x153).1; have := (h_x153).2; omega
                | succ n_154 ih_154 =>
                  intro x153 M154 R155 J156 H locs ls h_x153 hm_154 hS hl
                  have f157 := hS.2.2.1
                  have g158 := hS.2.2.2
                  refine lv_iload hx hb dX12_saying_154 (lv_at hl 0 rfl) ?_
                  refine lv_aload_n hx hb dX12_saying_156 rfl (lv_at hl 3 rfl) ?_
                  refine tw_getr hx hb hW hown hK hS f_X12_23_11 hz_a0 hk_a0 (t := 28) (n := 6) rfl dX12_saying_157 (fun b159 k160 hz_b159 hk_b159 hn_b159 => ?_)
                  have hn_b159 := hn_b159 (by decide)
                  refine lv_iload hx hb dX12_saying_160 (lv_at hl 1 rfl) ?_
                  refine tw_iald hx hb hK hS hz_b159 hk_b159 (Or.inr (by decide)) hn_b159 (lo := 0) (hi := 12) h33 ⟨by decide, by decide⟩ rg_u28 dX12_saying_162 (fun x163 k162 h161 => ?_)
                  refine lv_icmp_ge (tgt := 233) hx hb dX12_saying_163 (by decide) (fun c164 => ?_) (fun c164 => ?_)
                  · have q165 : x163.toInt ≤ x153.toInt := ti_le c164
                    refine lv_iload hx hb dX12_saying_233 (lv_at hl 2 rfl) ?_
                    refine tw_goi hS (md_runS (As := [.int x7]) (rest := []) hx hb hml hown hW hK hT hS.1 (t_X12_truly l D cy tx base Z K N M154 R155 J156 hS.2.1 x7 h_x7) s_X12_354 ⟨rfl, rfl, ⟨Nat.le_of_ble_eq_true rfl, Nat.le_of_ble_eq_true rfl⟩, ⟨Nat.le_of_ble_eq_true rfl, Nat.le_of_ble_eq_true rfl⟩⟩ rfl hl.1 rfl (Nat.le_of_ble_eq_true rfl) dX12_saying_235) rfl rfl (fun x172 H locs M169 R170 J168 hS f166 g167 E171 => ?_)
                    have eM169 := Fr.nil f166 rfl
                    subst eM169
                    have eR170 := Fr.nil g167 rfl
                    subst eR170
                    have h_x172 := E171
                    clear E171
                    exact tw_endi hx hb hr hlocks hK hT hS hQ ((iv_mono h_x172 (by decide) (by decide))) dX12_saying_238
                  · have q173 : x153.toInt < x163.toInt := ti_nle c164
                    have h174 : iv 0 11 x153 := iv_ltL (y := x163) h_x153 h161 q173 (by decide)
                    have h175 : iv 1 12 x163 := iv_gtL (y := x153) h161 h_x153 q173 (by decide)
                    refine lv_bipush (v := 36) hx hb dX12_saying_166 (by decide) ?_
                    refine lv_iload hx hb dX12_saying_168 (lv_at hl 1 rfl) ?_
                    refine tw_icmul (k := 36) (lo := 0) (hi := 180) hx hb (by decide) h33 (by decide) ⟨by decide, by decide⟩ ⟨by decide, by decide⟩ dX12_saying_170 (fun x178 e177 h176 => ?_)
                    refine lv_iconst (v := 3) hx hb dX12_saying_171 (by decide) ?_
                    refine lv_iload hx hb dX12_saying_172 (lv_at hl 0 rfl) ?_
                    refine tw_icmul (k := 3) (lo := 0) (hi := 33) hx hb (by decide) h174 (by decide) ⟨by decide, by decide⟩ ⟨by decide, by decide⟩ dX12_saying_174 (fun x181 e180 h179 => ?_)
                    refine tw_iadd (lo := 0) (hi := 213) hx hb h176 h179 ⟨by decide, by decide⟩ ⟨by decide, by decide⟩ dX12_saying_175 (fun x184 e183 h182 => ?_)
                    refine lv_istore (lv' := [(7, .int x184), (6, .int x153), (5, .int x15), (4, .int x7), (0, .ref (base + a0)), (1, .int a1), (2, .int a2), (3, .int a3)]) hx hb dX12_saying_176 hl (by decide) rfl (fun ls hl => ?_)
                    refine lv_aload_n hx hb dX12_saying_178 rfl (lv_at hl 4 rfl) ?_
                    refine tw_getr hx hb hW hown hK hS f_X12_20_11 hz_a0 hk_a0 (t := 27) (n := 216) rfl dX12_saying_179 (fun b185 k186 hz_b185 hk_b185 hn_b185 => ?_)
                    have hn_b185 := hn_b185 (by decide)
                    refine lv_iload hx hb dX12_saying_182 (lv_at hl 0 rfl) ?_
                    refine lv_iconst (v := 1) hx hb dX12_saying_184 (by decide) ?_
                    refine tw_iadd (lo := 1) (hi := 214) hx hb h182 (iv_c (c := 1) (n := 1) (by decide)) ⟨by decide, by decide⟩ ⟨by decide, by decide⟩ dX12_saying_185 (fun x189 e188 h187 => ?_)
                    have e188 : x189.toInt = x184.toInt + 1 := e188
                    refine tw_iald hx hb hK hS hz_b185 hk_b185 (Or.inr (by decide)) hn_b185 (lo := (-2147483648)) (hi := 2147483647) h187 ⟨by decide, by decide⟩ rg_u27 dX12_saying_186 (fun x192 k191 h190 => ?_)
                    refine lv_if_lt (tgt := 219) hx hb dX12_saying_187 (by decide) (fun c193 => ?_) (fun c193 => ?_)
                    · have q194 : x192.toInt < 0 := ti_lt c193
                      have h195 : iv (-2147483648) (-1) x192 := iv_ltL (y := 0) h190 (iv_c (c := 0) (n := 0) (by decide)) q194 (by decide)
                      refine lv_aload_n hx hb dX12_saying_219 rfl (lv_at hl 4 rfl) ?_
                      refine tw_getrk hx hb hW hown hK hS f_X12_20_11 hz_a0 hk_a0 (b := b185) k186 dX12_saying_220 ?_
                      refine lv_iload hx hb dX12_saying_223 (lv_at hl 0 rfl) ?_
                      refine tw_iald hx hb hK hS hz_b185 hk_b185 (Or.inr (by decide)) hn_b185 (lo := (-2147483648)) (hi := 2147483647) h182 ⟨by decide, by decide⟩ rg_u27 dX12_saying_225 (fun x198 k197 h196 => ?_)
                      exact tw_endi hx hb hr hlocks hK hT hS hQ (h196) dX12_saying_226
                    · have q199 : 0 ≤ x192.toInt := ti_nlt c193
                      have h200 : iv 0 2147483647 x192 := iv_geL (y := 0) h190 (iv_c (c := 0) (n := 0) (by decide)) q199 (by decide)
                      refine lv_aload_n hx hb dX12_saying_190 rfl (lv_at hl 4 rfl) ?_
                      refine lv_iload hx hb dX12_saying_191 (lv_at hl 2 rfl) ?_
                      refine lv_aload_n hx hb dX12_saying_193 rfl (lv_at hl 4 rfl) ?_
                      refine tw_getrk hx hb hW hown hK hS f_X12_20_11 hz_a0 hk_a0 (b := b185) k186 dX12_saying_194 ?_
                      refine lv_iload hx hb dX12_saying_197 (lv_at hl 0 rfl) ?_
                      refine lv_iconst (v := 1) hx hb dX12_saying_199 (by decide) ?_
                      refine tw_iadd (lo := 1) (hi := 214) hx hb h182 (iv_c (c := 1) (n := 1) (by decide)) ⟨by decide, by decide⟩ ⟨by decide, by decide⟩ dX12_saying_200 (fun x203 e202 h201 => ?_)
                      have e202 : x203.toInt = x184.toInt + 1 := e202
                      refine tw_iald hx hb hK hS hz_b185 hk_b185 (Or.inr (by decide)) hn_b185 (lo := (-2147483648)) (hi := 2147483647) h201 ⟨by decide, by decide⟩ rg_u27 dX12_saying_201 (fun x206 k205 h204 => ?_)
                      refine lv_aload_n hx hb dX12_saying_202 rfl (lv_at hl 4 rfl) ?_
                      refine tw_getrk hx hb hW hown hK hS f_X12_20_11 hz_a0 hk_a0 (b := b185) k186 dX12_saying_203 ?_
                      refine lv_iload hx hb dX12_saying_206 (lv_at hl 0 rfl) ?_
                      refine lv_iconst (v := 2) hx hb dX12_saying_208 (by decide) ?_
                      refine tw_iadd (lo := 2) (hi := 215) hx hb h182 (iv_c (c := 2) (n := 2) (by decide)) ⟨by decide, by decide⟩ ⟨by decide, by decide⟩ dX12_saying_209 (fun x209 e208 h207 => ?_)
                      have e208 : x209.toInt = x184.toInt + 2 := e208
                      refine tw_iald hx hb hK hS hz_b185 hk_b185 (Or.inr (by decide)) hn_b185 (lo := (-2147483648)) (hi := 2147483647) h207 ⟨by decide, by decide⟩ rg_u27 dX12_saying_210 (fun x212 k211 h210 => ?_)
                      obtain ⟨b213, k214, hz_b213, hk_b213, hn_b213⟩ := hS.2.1.ref hz_a0 hk_a0 (show rtR 12 3 = (25, 2400, 0) from rfl)
                      have hn_b213 := hn_b213 (by decide)
                      have k215 : M154 a0 2 = x30 := (Fr.kp (k := 2) f157 hk_a0 rfl).trans k29
                      have zr212 := ti_cl (x := x15) (by have := (h33).1; omega); have zk212 := ti_cl (x := x153) (by have := (h174).1; omega); have za212 := ti_cl (x := x189) (by have := (h187).1; omega); have zb212 := ti_cl (x := x203) (by have := (h201).1; omega); have zc212 := ti_cl (x := x209) (by have := (h207).1; omega)
                      have zx212 : x206 = x192 := by rw [← k205, ← k191, show x203.toNatClampNeg = x189.toNatClampNeg by omega]
                      have zt212 : ((x15.toNatClampNeg : Nat) : Int) < (M154 a0 2).toInt := by rw [k215]; omega
                      have zu212 : ((x153.toNatClampNeg : Nat) : Int) < (M154 b159 x15.toNatClampNeg).toInt := by rw [k162]; omega
                      have zo212 := (Codes.fr co_a0 hTy hz_a0 hk_a0 hS.2.2.1 hS.2.2.2 rfl) b213 b185 b159 k214 k186 k160 _ _ zt212 zu212
                      rw [show 36 * x15.toNatClampNeg + 3 * x153.toNatClampNeg + 1 = x203.toNatClampNeg by omega, show 36 * x15.toNatClampNeg + 3 * x153.toNatClampNeg + 2 = x209.toNatClampNeg by omega, k205, k211] at zo212
                      have zp212 := zo212.resolve_left (by rw [zx212]; have := (h200).1; omega)
                      have h216 : iv 0 400 x206 := ⟨by rw [zx212]; exact (h200).1, Int.le_trans zp212.1 zp212.2.1⟩
                      have h217 : iv 0 400 x212 := ⟨Int.le_trans (h216).1 zp212.1, zp212.2.1⟩
                      refine tw_gol hS (md_runV (As := [.int x15, .int x206, .int x212]) (rest := []) hx hb hml hown hW hK hT hS.1 (t_X12_reckons l D cy tx base Z K N M154 R155 J156 hS.2.1 a0 hz_a0 hk_a0 x15 h33 x206 h216 x212 h217 b213 k214 zp212.1 zp212.2.2) s_X12_360 ⟨rfl, rfl, ⟨Nat.le_of_ble_eq_true rfl, Nat.le_of_ble_eq_true rfl⟩, ⟨Nat.le_of_ble_eq_true rfl, Nat.le_of_ble_eq_true rfl⟩⟩ hz_a0 hk_a0 (by decide) rfl rfl hl.1 rfl (Nat.le_of_ble_eq_true rfl) dX12_saying_211) rfl rfl (fun x224 H locs M221 R222 J220 hS f218 g219 E223 => ?_)
                      have eR222 := Fr.nil g219 rfl
                      subst eR222
                      refine lv_lconst (v := 1) hx hb dX12_saying_214 (by decide) ?_
                      refine W.lcmp hx hb dX12_saying_215 ?_
                      refine lv_topi (fun x227 e226 => ?_)
                      have h225 := iv_any x227
                      refine lv_if_ne (tgt := 227) hx hb dX12_saying_216 (by decide) (fun c228 => ?_) (fun c228 => ?_)
                      · have q229 : ¬ x227.toInt = 0 := ti_ne c228
                        have n230 := md_lne e226 c228
                        refine tw_iinc (lv' := fun x233 => [(6, .int x233), (7, .int x184), (5, .int x15), (4, .int x7), (0, .ref (base + a0)), (1, .int a1), (2, .int a2), (3, .int a3)]) (lo := 1) (hi := 12) hx hb dX12_saying_227 hl (k := 1) rfl h174 (by decide) ⟨by decide, by decide⟩ ⟨by decide, by decide⟩ (by decide) (fun _ => rfl) (fun x233 ls e232 h231 hl => ?_)
                        refine lv_goto (tgt := 154) hx hb dX12_saying_230 (by decide) ?_
                        have hm234 : 12 - x233.toInt < (n_154 : Int) := by
                          have := (h_a1).1; have := (h_a1).2; have := (h_a2).1; have := (h_a2).2; have := (h147).1; have := (h147).2; have := (h174).1; have := (h174).2; have := (h179).1; have := (h179).2; have := (h231).1; have := (h231).2; omega
                        exact ih_154 x233 M221 R155 J220 H locs _ (iv_mono h231 (by decide) (by decide)) hm234 hS (lv_sub hl [0, 2, 3, 4, 5, 6, 7] rfl)
                      · have q235 : x227.toInt = 0 := ti_eq c228
                        have h236 : iv 0 0 x227 := ⟨by have := (h225).1; have := ((iv_c (c := 0) (n := 0) (by decide))).1; omega, by have := (h225).2; have := ((iv_c (c := 0) (n := 0) (by decide))).2; omega⟩
                        refine lv_aload_n hx hb dX12_saying_219 rfl (lv_at hl 4 rfl) ?_
                        refine tw_getrk hx hb hW hown hK hS f_X12_20_11 hz_a0 hk_a0 (b := b185) k186 dX12_saying_220 ?_
                        refine lv_iload hx hb dX12_saying_223 (lv_at hl 0 rfl) ?_
                        refine tw_iald hx hb hK hS hz_b185 hk_b185 (Or.inr (by decide)) hn_b185 (lo := (-2147483648)) (hi := 2147483647) h182 ⟨by decide, by decide⟩ rg_u27 dX12_saying_225 (fun x239 k238 h237 => ?_)
                        exact tw_endi hx hb hr hlocks hK hT hS hQ (h237) dX12_saying_226
              have hm240 : 12 - (0 : Int32).toInt < (((13 : Nat) : Int) : Int) := by
                have := (h_a1).1; have := (h_a1).2; have := (h_a2).1; have := (h_a2).2; have := (h147).1; have := (h147).2; have : (0 : Int32).toInt = 0 := (by decide); omega
              exact W154_154 13 0 M50 R51 J52 H locs _ (iv_mono (iv_c (c := 0) (n := 0) (by decide)) (by decide) (by decide)) hm240 hS hl
            · have q241 : x49.toInt < x150.toInt := ti_nle c151
              have h242 : iv 0 7 x49 := iv_ltL (y := x150) h_x49 h148 q241 (by decide)
              have h243 : iv 1 8 x150 := iv_gtL (y := x49) h148 h_x49 q241 (by decide)
              refine lv_aload_n hx hb dX12_saying_95 rfl (lv_at hl 3 rfl) ?_
              refine lv_iload_n hx hb dX12_saying_96 rfl (lv_at hl 4 rfl) ?_
              refine lv_aload_n hx hb dX12_saying_97 rfl (lv_at hl 3 rfl) ?_
              refine tw_getr hx hb hW hown hK hS f_X12_54_11 hz_a0 hk_a0 (t := 31) (n := 8) rfl dX12_saying_98 (fun b244 k245 hz_b244 hk_b244 hn_b244 => ?_)
              have hn_b244 := hn_b244 (by decide)
              refine lv_iload hx hb dX12_saying_101 (lv_at hl 0 rfl) ?_
              refine tw_iald hx hb hK hS hz_b244 hk_b244 (Or.inr (by decide)) hn_b244 (lo := 0) (hi := 11) h242 ⟨by decide, by decide⟩ rg_u31 dX12_saying_103 (fun x248 k247 h246 => ?_)
              refine tw_goi hS (md_runV (As := [.int a1, .int x248]) (rest := []) hx hb hml hown hW hK hT hS.1 (t_X12_worthOf l D cy tx base Z K N M50 R51 J52 hS.2.1 a0 hz_a0 hk_a0 a1 h_a1 x248 h246) s_X12_330 ⟨rfl, rfl, ⟨Nat.le_of_ble_eq_true rfl, Nat.le_of_ble_eq_true rfl⟩, ⟨Nat.le_of_ble_eq_true rfl, Nat.le_of_ble_eq_true rfl⟩⟩ hz_a0 hk_a0 (by decide) rfl rfl hl.1 rfl (Nat.le_of_ble_eq_true rfl) dX12_saying_104) rfl rfl (fun x255 H locs M252 R253 J251 hS f249 g250 E254 => ?_)
              have eM252 := Fr.nil f249 rfl
              subst eM252
              have eR253 := Fr.nil g250 rfl
              subst eR253
              have h_x255 := E254
              clear E254
              refine tw_goi hS (md_runS (As := [.int x255]) (rest := []) hx hb hml hown hW hK hT hS.1 (t_X12_plain l D cy tx base Z K N M50 R51 J251 hS.2.1 x255 h_x255) s_X12_357 ⟨rfl, rfl, ⟨Nat.le_of_ble_eq_true rfl, Nat.le_of_ble_eq_true rfl⟩, ⟨Nat.le_of_ble_eq_true rfl, Nat.le_of_ble_eq_true rfl⟩⟩ rfl hl.1 rfl (Nat.le_of_ble_eq_true rfl) dX12_saying_107) rfl rfl (fun x262 H locs M259 R260 J258 hS f256 g257 E261 => ?_)
              have eM259 := Fr.nil f256 rfl
              subst eM259
              have eR260 := Fr.nil g257 rfl
              subst eR260
              have h_x262 := E261
              clear E261
              refine lv_i2l hx hb dX12_saying_110 rfl ?_
              refine lv_aload_n hx hb dX12_saying_111 rfl (lv_at hl 3 rfl) ?_
              have k263 : R51 a0 24 = some b35 := (Fr.kp (k := 24) g54 hk_a0 rfl).trans k36
              refine tw_getrk hx hb hW hown hK hS f_X12_42_11 hz_a0 hk_a0 (b := b35) k263 dX12_saying_112 ?_
              refine lv_bipush (v := 7) hx hb dX12_saying_115 (by decide) ?_
              refine tw_lald hx hb hK hS hz_b35 hk_b35 hn_b35 (iv_c (c := 7) (n := 7) (by decide)) ⟨by decide, by decide⟩ dX12_saying_117 (fun x264 => ?_)
              refine W.lcmp hx hb dX12_saying_118 ?_
              refine lv_topi (fun x267 e266 => ?_)
              have h265 := iv_any x267
              refine lv_if_le (tgt := 145) hx hb dX12_saying_119 (by decide) (fun c268 => ?_) (fun c268 => ?_)
              · have q269 : x267.toInt ≤ 0 := ti_le c268
                have n270 := lcm_le e266 q269
                have h271 : iv (-2147483648) 0 x267 := iv_leL (y := 0) h265 (iv_c (c := 0) (n := 0) (by decide)) q269 (by decide)
                refine tw_iinc (lv' := fun x274 => [(6, .int x274), (5, .int x15), (4, .int x7), (0, .ref (base + a0)), (1, .int a1), (2, .int a2), (3, .int a3)]) (lo := 1) (hi := 8) hx hb dX12_saying_145 hl (k := 0) rfl h242 (by decide) ⟨by decide, by decide⟩ ⟨by decide, by decide⟩ (by decide) (fun _ => rfl) (fun x274 ls e273 h272 hl => ?_)
                refine lv_goto (tgt := 82) hx hb dX12_saying_148 (by decide) ?_
                have hm275 : 8 - x274.toInt < (n_50 : Int) := by
                  have := (h_a1).1; have := (h_a1).2; have := (h_a2).1; have := (h_a2).2; have := (h147).1; have := (h147).2; have := (h272).1; have := (h272).2; have := (h242).1; have := (h242).2; omega
                exact ih_50 x274 M50 R51 J258 H locs _ (iv_mono h272 (by decide) (by decide)) hm275 hS hl
              · have q276 : 0 < x267.toInt := ti_nle c268
                have n277 := lcm_gt e266 q276
                have h278 : iv 1 2147483647 x267 := iv_gtL (y := 0) h265 (iv_c (c := 0) (n := 0) (by decide)) q276 (by decide)
                refine lv_aload_n hx hb dX12_saying_122 rfl (lv_at hl 3 rfl) ?_
                have k279 : R51 a0 24 = some b35 := (Fr.kp (k := 24) g54 hk_a0 rfl).trans k36
                refine tw_getrk hx hb hW hown hK hS f_X12_42_11 hz_a0 hk_a0 (b := b35) k279 dX12_saying_123 ?_
                refine lv_bipush (v := 7) hx hb dX12_saying_126 (by decide) ?_
                refine lv_aload_n hx hb dX12_saying_128 rfl (lv_at hl 3 rfl) ?_
                refine lv_iload_n hx hb dX12_saying_129 rfl (lv_at hl 4 rfl) ?_
                refine lv_aload_n hx hb dX12_saying_130 rfl (lv_at hl 3 rfl) ?_
                refine tw_getrk hx hb hW hown hK hS f_X12_54_11 hz_a0 hk_a0 (b := b244) k245 dX12_saying_131 ?_
                refine lv_iload hx hb dX12_saying_134 (lv_at hl 0 rfl) ?_
                refine tw_ialk hx hb hK hS hz_b244 hk_b244 (Or.inr (by decide)) hn_b244 h242 ⟨by decide, by decide⟩ (v := x248) k247 dX12_saying_136 ?_
                refine tw_goi hS (md_runV (As := [.int a1, .int x248]) (rest := [.int 7, .ref (base + b35)]) hx hb hml hown hW hK hT hS.1 (t_X12_worthOf l D cy tx base Z K N M50 R51 J258 hS.2.1 a0 hz_a0 hk_a0 a1 h_a1 x248 h246) s_X12_330 ⟨rfl, rfl, ⟨Nat.le_of_ble_eq_true rfl, Nat.le_of_ble_eq_true rfl⟩, ⟨Nat.le_of_ble_eq_true rfl, Nat.le_of_ble_eq_true rfl⟩⟩ hz_a0 hk_a0 (by decide) rfl rfl hl.1 rfl (Nat.le_of_ble_eq_true rfl) dX12_saying_137) rfl rfl (fun x286 H locs M283 R284 J282 hS f280 g281 E285 => ?_)
                have eM283 := Fr.nil f280 rfl
                subst eM283
                have eR284 := Fr.nil g281 rfl
                subst eR284
                have h_x286 := E285
                clear E285
                refine tw_goi hS (md_runS (As := [.int x286]) (rest := [.int 7, .ref (base + b35)]) hx hb hml hown hW hK hT hS.1 (t_X12_plain l D cy tx base Z K N M50 R51 J282 hS.2.1 x286 h_x286) s_X12_357 ⟨rfl, rfl, ⟨Nat.le_of_ble_eq_true rfl, Nat.le_of_ble_eq_true rfl⟩, ⟨Nat.le_of_ble_eq_true rfl, Nat.le_of_ble_eq_true rfl⟩⟩ rfl hl.1 rfl (Nat.le_of_ble_eq_true rfl) dX12_saying_140) rfl rfl (fun x293 H locs M290 R291 J289 hS f287 g288 E292 => ?_)
                have eM290 := Fr.nil f287 rfl
                subst eM290
                have eR291 := Fr.nil g288 rfl
                subst eR291
                have h_x293 := E292
                clear E292
                refine lv_i2l hx hb dX12_saying_143 rfl ?_
                refine tw_last hx hb hK hS hz_b35 hk_b35 hn_b35 (iv_c (c := 7) (n := 7) (by decide)) ⟨by decide, by decide⟩ dX12_saying_144 (fun H locs J294 hS => ?_)
                refine tw_iinc (lv' := fun x297 => [(6, .int x297), (5, .int x15), (4, .int x7), (0, .ref (base + a0)), (1, .int a1), (2, .int a2), (3, .int a3)]) (lo := 1) (hi := 8) hx hb dX12_saying_145 hl (k := 0) rfl h242 (by decide) ⟨by decide, by decide⟩ ⟨by decide, by decide⟩ (by decide) (fun _ => rfl) (fun x297 ls e296 h295 hl => ?_)
                refine lv_goto (tgt := 82) hx hb dX12_saying_148 (by decide) ?_
                have hm298 : 8 - x297.toInt < (n_50 : Int) := by
                  have := (h_a1).1; have := (h_a1).2; have := (h_a2).1; have := (h_a2).2; have := (h147).1; have := (h147).2; have := (h295).1; have := (h295).2; have := (h242).1; have := (h242).2; omega
                exact ih_50 x297 M50 R51 J294 H locs _ (iv_mono h295 (by decide) (by decide)) hm298 hS hl
      have hm299 : 8 - x48.toInt < (((9 : Nat) : Int) : Int) := by
        have := (h_a1).1; have := (h_a1).2; have := (h_a2).1; have := (h_a2).2; have := (h_a3).1; have := (h_a3).2; have := (h46).1; have := (h46).2; omega
      exact W82_50 9 x48 Ma Ra J45 H locs _ h46 hm299 hS hl
    · have q300 : x30.toInt ≤ x15.toInt := ti_nlt c31
      refine lv_iload hx hb dX12_saying_33 (lv_at hl 1 rfl) ?_
      refine tw_goi hS (md_runS (As := [.int x7]) (rest := []) hx hb hml hown hW hK hT hS.1 (t_X12_truly l D cy tx base Z K N Ma Ra J3 hS.2.1 x7 h_x7) s_X12_354 ⟨rfl, rfl, ⟨Nat.le_of_ble_eq_true rfl, Nat.le_of_ble_eq_true rfl⟩, ⟨Nat.le_of_ble_eq_true rfl, Nat.le_of_ble_eq_true rfl⟩⟩ rfl hl.1 rfl (Nat.le_of_ble_eq_true rfl) dX12_saying_35) rfl rfl (fun x307 H locs M304 R305 J303 hS f301 g302 E306 => ?_)
      have eM304 := Fr.nil f301 rfl
      subst eM304
      have eR305 := Fr.nil g302 rfl
      subst eR305
      have h_x307 := E306
      clear E306
      exact tw_endi hx hb hr hlocks hK hT hS hQ ((iv_mono h_x307 (by decide) (by decide))) dX12_saying_38
def Lt_X12_sets : WL := [(12, 31, 33)]
def LRt_X12_sets : WL := []
set_option maxRecDepth 100000 in
set_option maxHeartbeats 4000000 in
theorem t_X12_sets (l : Launch) (D : va_G) (cy : Nat → ClassId) (tx : (Nat → Nat) × (Nat → Nat)) (base Z : Nat) (K N : Nat → Nat) (Ma : MT) (Ra : RT) (Ja : JT) (hTy : Ty Z K N Ma Ra) (a0 : Nat) (hz_a0 : a0 < Z) (hk_a0 : K a0 = 12) (a1 : Int32) (h_a1 : iv 0 9 a1) (a2 : Int32) (h_a2 : iv (-2147483648) 2147483647 a2) : Met l yX12_sets [Cond.code yX12_sets cX12_sets 3 none] (md_rm 1 0 0) (va_Pc [.ref (base + a0), .int a1, .int a2] (md_U D cy tx base Z K N Ma Ra Ja)) (mQv D cy tx base (fun u => TP Z K N Lt_X12_sets LRt_X12_sets Ma Ra u ∧ (True))) 0 0 (fun q => base ≤ q) := by
  refine tw_ofW (L := Lt_X12_sets) (LR := LRt_X12_sets) (by decide) (Nat.le_of_ble_eq_true rfl) hTy ?_
  intro p e s m args below meth c Q ls hx hb hr hlocks hown hml hW hK hT hS hQ hl
  have hl : lv_has ls 3 [(0, .ref (base + a0)), (1, .int a1), (2, .int a2)] := hl
  refine lv_aload_n hx hb dX12_sets_0 rfl (lv_at hl 0 rfl) ?_
  refine lv_dup hx hb dX12_sets_1 rfl ?_
  refine tw_geti hx hb hW hown hK hS f_X12_364_11 hz_a0 hk_a0 (lo := (-2147483648)) (hi := 2147483647) rfl dX12_sets_2 (fun x3 k2 h1 => ?_)
  refine lv_iconst (v := 1) hx hb dX12_sets_5 (by decide) ?_
  refine lv_iload_n hx hb dX12_sets_6 rfl (lv_at hl 1 rfl) ?_
  refine lv_ishl hx hb dX12_sets_7 ?_
  refine tw_top (fun x5 => ?_)
  have h4 := iv_any x5
  refine lv_iconst (v := (-1)) hx hb dX12_sets_8 (by decide) ?_
  refine lv_ixor hx hb dX12_sets_9 ?_
  refine tw_top (fun x7 => ?_)
  have h6 := iv_any x7
  refine lv_iand hx hb dX12_sets_10 ?_
  refine tw_top (fun x9 => ?_)
  have h8 := iv_any x9
  refine tw_puti hx hb hW hown hK hS f_X12_364_11 hz_a0 hk_a0 rfl rfl (lo := (-2147483648)) (hi := 2147483647) rfl h8 rfl dX12_sets_11 (fun H locs M12 hS k10 f11 => ?_)
  refine lv_aload_n hx hb dX12_sets_14 rfl (lv_at hl 0 rfl) ?_
  refine lv_dup hx hb dX12_sets_15 rfl ?_
  refine tw_geti hx hb hW hown hK hS f_X12_367_11 hz_a0 hk_a0 (lo := (-2147483648)) (hi := 2147483647) rfl dX12_sets_16 (fun x15 k14 h13 => ?_)
  refine lv_iconst (v := 1) hx hb dX12_sets_19 (by decide) ?_
  refine lv_iload_n hx hb dX12_sets_20 rfl (lv_at hl 1 rfl) ?_
  refine lv_ishl hx hb dX12_sets_21 ?_
  refine tw_top (fun x17 => ?_)
  have h16 := iv_any x17
  refine lv_iconst (v := (-1)) hx hb dX12_sets_22 (by decide) ?_
  refine lv_ixor hx hb dX12_sets_23 ?_
  refine tw_top (fun x19 => ?_)
  have h18 := iv_any x19
  refine lv_iand hx hb dX12_sets_24 ?_
  refine tw_top (fun x21 => ?_)
  have h20 := iv_any x21
  refine tw_puti hx hb hW hown hK hS f_X12_367_11 hz_a0 hk_a0 rfl rfl (lo := (-2147483648)) (hi := 2147483647) rfl h20 rfl dX12_sets_25 (fun H locs M24 hS k22 f23 => ?_)
  refine lv_aload_n hx hb dX12_sets_28 rfl (lv_at hl 0 rfl) ?_
  refine lv_dup hx hb dX12_sets_29 rfl ?_
  have k25 : M24 a0 31 = x9 := (Fr.kp (k := 31) f23 hk_a0 rfl).trans k10
  refine tw_getk hx hb hW hown hK hS f_X12_364_11 hz_a0 hk_a0 (v := x9) k25 dX12_sets_30 ?_
  refine lv_iload_n hx hb dX12_sets_33 rfl (lv_at hl 2 rfl) ?_
  refine lv_iconst (v := 1) hx hb dX12_sets_34 (by decide) ?_
  refine lv_icmp_ne (tgt := 44) hx hb dX12_sets_35 (by decide) (fun c26 => ?_) (fun c26 => ?_)
  · have q27 : ¬ a2.toInt = 1 := ti_ne c26
    refine lv_iconst (v := 0) hx hb dX12_sets_44 (by decide) ?_
    refine lv_ior hx hb dX12_sets_45 ?_
    refine tw_top (fun x29 => ?_)
    have h28 := iv_any x29
    refine tw_puti hx hb hW hown hK hS f_X12_364_11 hz_a0 hk_a0 rfl rfl (lo := (-2147483648)) (hi := 2147483647) rfl h28 rfl dX12_sets_46 (fun H locs M32 hS k30 f31 => ?_)
    refine lv_aload_n hx hb dX12_sets_49 rfl (lv_at hl 0 rfl) ?_
    refine lv_dup hx hb dX12_sets_50 rfl ?_
    have k33 : M32 a0 32 = x21 := (Fr.kp (k := 32) f31 hk_a0 rfl).trans k22
    refine tw_getk hx hb hW hown hK hS f_X12_367_11 hz_a0 hk_a0 (v := x21) k33 dX12_sets_51 ?_
    refine lv_iload_n hx hb dX12_sets_54 rfl (lv_at hl 2 rfl) ?_
    refine lv_if_ne (tgt := 64) hx hb dX12_sets_55 (by decide) (fun c34 => ?_) (fun c34 => ?_)
    · have q35 : ¬ a2.toInt = 0 := ti_ne c34
      refine lv_iconst (v := 0) hx hb dX12_sets_64 (by decide) ?_
      refine lv_ior hx hb dX12_sets_65 ?_
      refine tw_top (fun x37 => ?_)
      have h36 := iv_any x37
      refine tw_puti hx hb hW hown hK hS f_X12_367_11 hz_a0 hk_a0 rfl rfl (lo := (-2147483648)) (hi := 2147483647) rfl h36 rfl dX12_sets_66 (fun H locs M40 hS k38 f39 => ?_)
      exact tw_endv hx hb hr hlocks hK hT hS hQ (trivial) dX12_sets_69
    · have q41 : a2.toInt = 0 := ti_eq c34
      have h42 : iv 0 0 a2 := ⟨by have := (h_a2).1; have := ((iv_c (c := 0) (n := 0) (by decide))).1; omega, by have := (h_a2).2; have := ((iv_c (c := 0) (n := 0) (by decide))).2; omega⟩
      refine lv_iconst (v := 1) hx hb dX12_sets_58 (by decide) ?_
      refine lv_iload_n hx hb dX12_sets_59 rfl (lv_at hl 1 rfl) ?_
      refine lv_ishl hx hb dX12_sets_60 ?_
      refine tw_top (fun x44 => ?_)
      have h43 := iv_any x44
      refine lv_goto (tgt := 65) hx hb dX12_sets_61 (by decide) ?_
      refine lv_ior hx hb dX12_sets_65 ?_
      refine tw_top (fun x46 => ?_)
      have h45 := iv_any x46
      refine tw_puti hx hb hW hown hK hS f_X12_367_11 hz_a0 hk_a0 rfl rfl (lo := (-2147483648)) (hi := 2147483647) rfl h45 rfl dX12_sets_66 (fun H locs M49 hS k47 f48 => ?_)
      exact tw_endv hx hb hr hlocks hK hT hS hQ (trivial) dX12_sets_69
  · have q50 : a2.toInt = 1 := ti_eq c26
    have h51 : iv 1 1 a2 := ⟨by have := (h_a2).1; have := ((iv_c (c := 1) (n := 1) (by decide))).1; omega, by have := (h_a2).2; have := ((iv_c (c := 1) (n := 1) (by decide))).2; omega⟩
    refine lv_iconst (v := 1) hx hb dX12_sets_38 (by decide) ?_
    refine lv_iload_n hx hb dX12_sets_39 rfl (lv_at hl 1 rfl) ?_
    refine lv_ishl hx hb dX12_sets_40 ?_
    refine tw_top (fun x53 => ?_)
    have h52 := iv_any x53
    refine lv_goto (tgt := 45) hx hb dX12_sets_41 (by decide) ?_
    refine lv_ior hx hb dX12_sets_45 ?_
    refine tw_top (fun x55 => ?_)
    have h54 := iv_any x55
    refine tw_puti hx hb hW hown hK hS f_X12_364_11 hz_a0 hk_a0 rfl rfl (lo := (-2147483648)) (hi := 2147483647) rfl h54 rfl dX12_sets_46 (fun H locs M58 hS k56 f57 => ?_)
    refine lv_aload_n hx hb dX12_sets_49 rfl (lv_at hl 0 rfl) ?_
    refine lv_dup hx hb dX12_sets_50 rfl ?_
    have k59 : M58 a0 32 = x21 := (Fr.kp (k := 32) f57 hk_a0 rfl).trans k22
    refine tw_getk hx hb hW hown hK hS f_X12_367_11 hz_a0 hk_a0 (v := x21) k59 dX12_sets_51 ?_
    refine lv_iload_n hx hb dX12_sets_54 rfl (lv_at hl 2 rfl) ?_
    refine lv_if_ne (tgt := 64) hx hb dX12_sets_55 (by decide) (fun c60 => ?_) (fun c60 => False.elim (by have q : a2.toInt = 0 := ti_eq c60; have := (h51).1; have := (h51).2; omega))
    have q61 : ¬ a2.toInt = 0 := ti_ne c60
    refine lv_iconst (v := 0) hx hb dX12_sets_64 (by decide) ?_
    refine lv_ior hx hb dX12_sets_65 ?_
    refine tw_top (fun x63 => ?_)
    have h62 := iv_any x63
    refine tw_puti hx hb hW hown hK hS f_X12_367_11 hz_a0 hk_a0 rfl rfl (lo := (-2147483648)) (hi := 2147483647) rfl h62 rfl dX12_sets_66 (fun H locs M66 hS k64 f65 => ?_)
    exact tw_endv hx hb hr hlocks hK hT hS hQ (trivial) dX12_sets_69
def Lt_X12_wordsForAll : WL := []
def LRt_X12_wordsForAll : WL := []
set_option maxRecDepth 100000 in
set_option maxHeartbeats 4000000 in
theorem t_X12_wordsForAll (l : Launch) (D : va_G) (cy : Nat → ClassId) (tx : (Nat → Nat) × (Nat → Nat)) (base Z : Nat) (K N : Nat → Nat) (Ma : MT) (Ra : RT) (Ja : JT) (hTy : Ty Z K N Ma Ra) (a0 : Nat) (hz_a0 : a0 < Z) (hk_a0 : K a0 = 12) (a1 : Int32) (h_a1 : iv 0 11 a1) (a2 : Int32) (h_a2 : iv (-1) 7 a2) : Met l yX12_wordsForAll [Cond.code yX12_wordsForAll cX12_wordsForAll 4 none] (md_rm 2 0 0) (va_Pc [.ref (base + a0), .int a1, .int a2] (md_U D cy tx base Z K N Ma Ra Ja)) (mQv D cy tx base (fun u => TP Z K N Lt_X12_wordsForAll LRt_X12_wordsForAll Ma Ra u ∧ (True))) 0 0 (fun q => base ≤ q) := by
  refine tw_ofW (L := Lt_X12_wordsForAll) (LR := LRt_X12_wordsForAll) (by decide) (Nat.le_of_ble_eq_true rfl) hTy ?_
  intro p e s m args below meth c Q ls hx hb hr hlocks hown hml hW hK hT hS hQ hl
  have hl : lv_has ls 4 [(0, .ref (base + a0)), (1, .int a1), (2, .int a2)] := hl
  refine lv_aload_n hx hb dX12_wordsForAll_0 rfl (lv_at hl 0 rfl) ?_
  refine tw_getr hx hb hW hown hK hS f_X12_42_11 hz_a0 hk_a0 (t := 15) (n := 10) rfl dX12_wordsForAll_1 (fun b1 k2 hz_b1 hk_b1 hn_b1 => ?_)
  have hn_b1 := hn_b1 (by decide)
  refine lv_iconst (v := 1) hx hb dX12_wordsForAll_4 (by decide) ?_
  refine lv_iload_n hx hb dX12_wordsForAll_5 rfl (lv_at hl 1 rfl) ?_
  refine lv_i2l hx hb dX12_wordsForAll_6 rfl ?_
  refine tw_last hx hb hK hS hz_b1 hk_b1 hn_b1 (iv_c (c := 1) (n := 1) (by decide)) ⟨by decide, by decide⟩ dX12_wordsForAll_7 (fun H locs J3 hS => ?_)
  refine lv_aload_n hx hb dX12_wordsForAll_8 rfl (lv_at hl 0 rfl) ?_
  refine tw_getrk hx hb hW hown hK hS f_X12_42_11 hz_a0 hk_a0 (b := b1) k2 dX12_wordsForAll_9 ?_
  refine lv_iconst (v := 4) hx hb dX12_wordsForAll_12 (by decide) ?_
  refine lv_lconst (v := 0) hx hb dX12_wordsForAll_13 (by decide) ?_
  refine tw_last hx hb hK hS hz_b1 hk_b1 hn_b1 (iv_c (c := 4) (n := 4) (by decide)) ⟨by decide, by decide⟩ dX12_wordsForAll_14 (fun H locs J4 hS => ?_)
  refine lv_aload_n hx hb dX12_wordsForAll_15 rfl (lv_at hl 0 rfl) ?_
  refine tw_getrk hx hb hW hown hK hS f_X12_42_11 hz_a0 hk_a0 (b := b1) k2 dX12_wordsForAll_16 ?_
  refine lv_iconst (v := 5) hx hb dX12_wordsForAll_19 (by decide) ?_
  refine lv_lconst (v := 0) hx hb dX12_wordsForAll_20 (by decide) ?_
  refine tw_last hx hb hK hS hz_b1 hk_b1 hn_b1 (iv_c (c := 5) (n := 5) (by decide)) ⟨by decide, by decide⟩ dX12_wordsForAll_21 (fun H locs J5 hS => ?_)
  refine lv_aload_n hx hb dX12_wordsForAll_22 rfl (lv_at hl 0 rfl) ?_
  refine tw_getrk hx hb hW hown hK hS f_X12_42_11 hz_a0 hk_a0 (b := b1) k2 dX12_wordsForAll_23 ?_
  refine lv_bipush (v := 6) hx hb dX12_wordsForAll_26 (by decide) ?_
  refine lv_lconst (v := 0) hx hb dX12_wordsForAll_28 (by decide) ?_
  refine tw_last hx hb hK hS hz_b1 hk_b1 hn_b1 (iv_c (c := 6) (n := 6) (by decide)) ⟨by decide, by decide⟩ dX12_wordsForAll_29 (fun H locs J6 hS => ?_)
  refine lv_iconst (v := 0) hx hb dX12_wordsForAll_30 (by decide) ?_
  refine lv_istore_n (lv' := [(3, .int 0), (0, .ref (base + a0)), (1, .int a1), (2, .int a2)]) hx hb dX12_wordsForAll_31 rfl hl (by decide) rfl (fun ls hl => ?_)
  have W32_8 : ∀ (n_8 : Nat) (x7 : Int32) (M8 : MT) (R9 : RT) (J10 : JT) (H : Heap) (locs : List Loc) (ls : Array Slot) (h_x7 : iv 0 10 x7) (hm_8 : 10 - x7.toInt < (n_8 : Int)) (hS : SB D cy base Z K N Lt_X12_wordsForAll LRt_X12_wordsForAll Ma Ra M8 R9 J10 s H locs) (hl : lv_has ls 4 [(3, .int x7), (0, .ref (base + a0)), (1, .int a1), (2, .int a2)]), W p l e (md_rm 2 0 0) s m args below meth c H locs 0 0 Q (F0 m 32 ls []) := by
    intro n_8
    induction n_8 with
    | zero =>
      intro x7 M8 R9 J10 H locs ls h_x7 hm_8 hS hl
      exfalso
      have := (h_a1).1; have := (h_a1).2; have := (h_a2).1; have := (h_a2).2; have := (h_x7).1; have := (h_x7).2; omega
    | succ n_8 ih_8 =>
      intro x7 M8 R9 J10 H locs ls h_x7 hm_8 hS hl
      have f11 := hS.2.2.1
      have g12 := hS.2.2.2
      refine lv_iload_n hx hb dX12_wordsForAll_32 rfl (lv_at hl 0 rfl) ?_
      refine lv_aload_n hx hb dX12_wordsForAll_33 rfl (lv_at hl 1 rfl) ?_
      refine tw_getr hx hb hW hown hK hS f_X12_45_11 hz_a0 hk_a0 (t := 23) (n := 226) rfl dX12_wordsForAll_34 (fun b13 k14 hz_b13 hk_b13 hn_b13 => ?_)
      have hn_b13 := hn_b13 (by decide)
      refine lv_iconst (v := 0) hx hb dX12_wordsForAll_37 (by decide) ?_
      refine tw_iald hx hb hK hS hz_b13 hk_b13 (Or.inr (by decide)) hn_b13 (lo := 0) (hi := 10) (iv_c (c := 0) (n := 0) (by decide)) ⟨by decide, by decide⟩ (rg_c (k0 := 0) rfl rfl rfl) dX12_wordsForAll_38 (fun x17 k16 h15 => ?_)
      refine lv_icmp_ge (tgt := 139) hx hb dX12_wordsForAll_39 (by decide) (fun c18 => ?_) (fun c18 => ?_)
      · have q19 : x17.toInt ≤ x7.toInt := ti_le c18
        refine lv_aload_n hx hb dX12_wordsForAll_139 rfl (lv_at hl 1 rfl) ?_
        have k20 : R9 a0 24 = some b1 := (Fr.kp (k := 24) g12 hk_a0 rfl).trans k2
        refine tw_getrk hx hb hW hown hK hS f_X12_42_11 hz_a0 hk_a0 (b := b1) k20 dX12_wordsForAll_140 ?_
        refine lv_bipush (v := 8) hx hb dX12_wordsForAll_143 (by decide) ?_
        refine lv_iload_n hx hb dX12_wordsForAll_145 rfl (lv_at hl 3 rfl) ?_
        refine lv_if_ge (tgt := 153) hx hb dX12_wordsForAll_146 (by decide) (fun c21 => ?_) (fun c21 => ?_)
        · have q22 : 0 ≤ a2.toInt := ti_le c21
          have h23 : iv 0 7 a2 := iv_geL (y := 0) h_a2 (iv_c (c := 0) (n := 0) (by decide)) q22 (by decide)
          refine lv_aload_n hx hb dX12_wordsForAll_153 rfl (lv_at hl 1 rfl) ?_
          refine tw_geti hx hb hW hown hK hS f_X12_351_11 hz_a0 hk_a0 (lo := 0) (hi := 8) rfl dX12_wordsForAll_154 (fun x26 k25 h24 => ?_)
          refine lv_iconst (v := 1) hx hb dX12_wordsForAll_157 (by decide) ?_
          refine tw_isub (lo := (-1)) (hi := 7) hx hb h24 (iv_c (c := 1) (n := 1) (by decide)) ⟨by decide, by decide⟩ ⟨by decide, by decide⟩ dX12_wordsForAll_158 (fun x29 e28 h27 => ?_)
          have e28 : x29.toInt = x26.toInt - 1 := e28
          refine lv_iload_n hx hb dX12_wordsForAll_159 rfl (lv_at hl 3 rfl) ?_
          refine tw_isub (lo := (-8)) (hi := 7) hx hb h27 h23 ⟨by decide, by decide⟩ ⟨by decide, by decide⟩ dX12_wordsForAll_160 (fun x32 e31 h30 => ?_)
          refine lv_i2l hx hb dX12_wordsForAll_161 rfl ?_
          refine tw_last hx hb hK hS hz_b1 hk_b1 hn_b1 (iv_c (c := 8) (n := 8) (by decide)) ⟨by decide, by decide⟩ dX12_wordsForAll_162 (fun H locs J33 hS => ?_)
          refine lv_aload_n hx hb dX12_wordsForAll_163 rfl (lv_at hl 1 rfl) ?_
          have k34 : R9 a0 24 = some b1 := (Fr.kp (k := 24) g12 hk_a0 rfl).trans k2
          refine tw_getrk hx hb hW hown hK hS f_X12_42_11 hz_a0 hk_a0 (b := b1) k34 dX12_wordsForAll_164 ?_
          refine lv_bipush (v := 9) hx hb dX12_wordsForAll_167 (by decide) ?_
          refine lv_aload_n hx hb dX12_wordsForAll_169 rfl (lv_at hl 1 rfl) ?_
          refine tw_geti hx hb hW hown hK hS f_X12_348_11 hz_a0 hk_a0 (lo := (-2147483648)) (hi := 2147483647) rfl dX12_wordsForAll_170 (fun x37 k36 h35 => ?_)
          refine lv_i2l hx hb dX12_wordsForAll_173 rfl ?_
          refine tw_last hx hb hK hS hz_b1 hk_b1 hn_b1 (iv_c (c := 9) (n := 9) (by decide)) ⟨by decide, by decide⟩ dX12_wordsForAll_174 (fun H locs J38 hS => ?_)
          exact tw_endv hx hb hr hlocks hK hT hS hQ (trivial) dX12_wordsForAll_175
        · have q39 : a2.toInt < 0 := ti_nle c21
          have h40 : iv (-1) (-1) a2 := iv_ltL (y := 0) h_a2 (iv_c (c := 0) (n := 0) (by decide)) q39 (by decide)
          refine lv_lconst (v := 0) hx hb dX12_wordsForAll_149 (by decide) ?_
          refine lv_goto (tgt := 162) hx hb dX12_wordsForAll_150 (by decide) ?_
          refine tw_last hx hb hK hS hz_b1 hk_b1 hn_b1 (iv_c (c := 8) (n := 8) (by decide)) ⟨by decide, by decide⟩ dX12_wordsForAll_162 (fun H locs J41 hS => ?_)
          refine lv_aload_n hx hb dX12_wordsForAll_163 rfl (lv_at hl 1 rfl) ?_
          have k42 : R9 a0 24 = some b1 := (Fr.kp (k := 24) g12 hk_a0 rfl).trans k2
          refine tw_getrk hx hb hW hown hK hS f_X12_42_11 hz_a0 hk_a0 (b := b1) k42 dX12_wordsForAll_164 ?_
          refine lv_bipush (v := 9) hx hb dX12_wordsForAll_167 (by decide) ?_
          refine lv_aload_n hx hb dX12_wordsForAll_169 rfl (lv_at hl 1 rfl) ?_
          refine tw_geti hx hb hW hown hK hS f_X12_348_11 hz_a0 hk_a0 (lo := (-2147483648)) (hi := 2147483647) rfl dX12_wordsForAll_170 (fun x45 k44 h43 => ?_)
          refine lv_i2l hx hb dX12_wordsForAll_173 rfl ?_
          refine tw_last hx hb hK hS hz_b1 hk_b1 hn_b1 (iv_c (c := 9) (n := 9) (by decide)) ⟨by decide, by decide⟩ dX12_wordsForAll_174 (fun H locs J46 hS => ?_)
          exact tw_endv hx hb hr hlocks hK hT hS hQ (trivial) dX12_wordsForAll_175
      · have q47 : x7.toInt < x17.toInt := ti_nle c18
        have h48 : iv 0 9 x7 := iv_ltL (y := x17) h_x7 h15 q47 (by decide)
        have h49 : iv 1 10 x17 := iv_gtL (y := x7) h15 h_x7 q47 (by decide)
        refine lv_aload_n hx hb dX12_wordsForAll_42 rfl (lv_at hl 1 rfl) ?_
        refine tw_getrk hx hb hW hown hK hS f_X12_45_11 hz_a0 hk_a0 (b := b13) k14 dX12_wordsForAll_43 ?_
        refine lv_iconst (v := 2) hx hb dX12_wordsForAll_46 (by decide) ?_
        refine tw_iald hx hb hK hS hz_b13 hk_b13 (Or.inr (by decide)) hn_b13 (lo := (-2147483648)) (hi := 2147483647) (iv_c (c := 2) (n := 2) (by decide)) ⟨by decide, by decide⟩ (rg_c (k0 := 2) rfl rfl rfl) dX12_wordsForAll_47 (fun x52 k51 h50 => ?_)
        refine lv_iload_n hx hb dX12_wordsForAll_48 rfl (lv_at hl 0 rfl) ?_
        refine tw_goi hS (md_runS (As := [.int x52, .int x7]) (rest := []) hx hb hml hown hW hK hT hS.1 (t_X12_isOf l D cy tx base Z K N M8 R9 J10 hS.2.1 x52 h50 x7 h48) s_X12_322 ⟨rfl, rfl, ⟨Nat.le_of_ble_eq_true rfl, Nat.le_of_ble_eq_true rfl⟩, ⟨Nat.le_of_ble_eq_true rfl, Nat.le_of_ble_eq_true rfl⟩⟩ rfl hl.1 rfl (Nat.le_of_ble_eq_true rfl) dX12_wordsForAll_49) rfl rfl (fun x59 H locs M56 R57 J55 hS f53 g54 E58 => ?_)
        have eM56 := Fr.nil f53 rfl
        subst eM56
        have eR57 := Fr.nil g54 rfl
        subst eR57
        have h_x59 := E58
        clear E58
        refine lv_if_ne (tgt := 58) hx hb dX12_wordsForAll_52 (by decide) (fun c60 => ?_) (fun c60 => ?_)
        · have q61 : ¬ x59.toInt = 0 := ti_ne c60
          have h62 : iv 1 1 x59 := ⟨by have := (h_x59).1; have := ((iv_c (c := 0) (n := 0) (by decide))).1; have := ((iv_c (c := 0) (n := 0) (by decide))).2; omega, by have := (h_x59).2; have := ((iv_c (c := 0) (n := 0) (by decide))).1; have := ((iv_c (c := 0) (n := 0) (by decide))).2; omega⟩
          refine lv_aload_n hx hb dX12_wordsForAll_58 rfl (lv_at hl 1 rfl) ?_
          have k63 : R9 a0 24 = some b1 := (Fr.kp (k := 24) g12 hk_a0 rfl).trans k2
          refine tw_getrk hx hb hW hown hK hS f_X12_42_11 hz_a0 hk_a0 (b := b1) k63 dX12_wordsForAll_59 ?_
          refine lv_iconst (v := 4) hx hb dX12_wordsForAll_62 (by decide) ?_
          refine lv_dup2_11 hx hb dX12_wordsForAll_63 rfl rfl ?_
          refine tw_lald hx hb hK hS hz_b1 hk_b1 hn_b1 (iv_c (c := 4) (n := 4) (by decide)) ⟨by decide, by decide⟩ dX12_wordsForAll_64 (fun x64 => ?_)
          refine lv_aload_n hx hb dX12_wordsForAll_65 rfl (lv_at hl 1 rfl) ?_
          refine tw_getr hx hb hW hown hK hS f_X12_51_11 hz_a0 hk_a0 (t := 30) (n := 10) rfl dX12_wordsForAll_66 (fun b65 k66 hz_b65 hk_b65 hn_b65 => ?_)
          have hn_b65 := hn_b65 (by decide)
          refine lv_iload_n hx hb dX12_wordsForAll_69 rfl (lv_at hl 0 rfl) ?_
          refine tw_iald hx hb hK hS hz_b65 hk_b65 (Or.inr (by decide)) hn_b65 (lo := 0) (hi := 9999) h48 ⟨by decide, by decide⟩ rg_u30 dX12_wordsForAll_70 (fun x69 k68 h67 => ?_)
          refine lv_i2l hx hb dX12_wordsForAll_71 rfl ?_
          refine lv_ladd hx hb dX12_wordsForAll_72 ?_
          refine tw_topl (fun x70 => ?_)
          refine tw_last hx hb hK hS hz_b1 hk_b1 hn_b1 (iv_c (c := 4) (n := 4) (by decide)) ⟨by decide, by decide⟩ dX12_wordsForAll_73 (fun H locs J71 hS => ?_)
          refine lv_aload_n hx hb dX12_wordsForAll_74 rfl (lv_at hl 1 rfl) ?_
          have k72 : R9 a0 24 = some b1 := (Fr.kp (k := 24) g12 hk_a0 rfl).trans k2
          refine tw_getrk hx hb hW hown hK hS f_X12_42_11 hz_a0 hk_a0 (b := b1) k72 dX12_wordsForAll_75 ?_
          refine lv_iconst (v := 5) hx hb dX12_wordsForAll_78 (by decide) ?_
          refine lv_dup2_11 hx hb dX12_wordsForAll_79 rfl rfl ?_
          refine tw_lald hx hb hK hS hz_b1 hk_b1 hn_b1 (iv_c (c := 5) (n := 5) (by decide)) ⟨by decide, by decide⟩ dX12_wordsForAll_80 (fun x73 => ?_)
          refine lv_aload_n hx hb dX12_wordsForAll_81 rfl (lv_at hl 1 rfl) ?_
          refine lv_iload_n hx hb dX12_wordsForAll_82 rfl (lv_at hl 0 rfl) ?_
          refine lv_iload_n hx hb dX12_wordsForAll_83 rfl (lv_at hl 2 rfl) ?_
          refine tw_goi hS (md_runV (As := [.int x7, .int a1]) (rest := [.long x73, .int 5, .ref (base + b1)]) hx hb hml hown hW hK hT hS.1 (t_X12_worthOf l D cy tx base Z K N M8 R9 J71 hS.2.1 a0 hz_a0 hk_a0 x7 h48 a1 h_a1) s_X12_330 ⟨rfl, rfl, ⟨Nat.le_of_ble_eq_true rfl, Nat.le_of_ble_eq_true rfl⟩, ⟨Nat.le_of_ble_eq_true rfl, Nat.le_of_ble_eq_true rfl⟩⟩ hz_a0 hk_a0 (by decide) rfl rfl hl.1 rfl (Nat.le_of_ble_eq_true rfl) dX12_wordsForAll_84) rfl rfl (fun x80 H locs M77 R78 J76 hS f74 g75 E79 => ?_)
          have eM77 := Fr.nil f74 rfl
          subst eM77
          have eR78 := Fr.nil g75 rfl
          subst eR78
          have h_x80 := E79
          clear E79
          refine lv_if_le (tgt := 100) hx hb dX12_wordsForAll_87 (by decide) (fun c81 => ?_) (fun c81 => ?_)
          · have q82 : x80.toInt ≤ 0 := ti_le c81
            have h83 : iv (-2147483648) 0 x80 := iv_leL (y := 0) h_x80 (iv_c (c := 0) (n := 0) (by decide)) q82 (by decide)
            refine lv_lconst (v := 0) hx hb dX12_wordsForAll_100 (by decide) ?_
            refine lv_ladd hx hb dX12_wordsForAll_101 ?_
            refine tw_topl (fun x84 => ?_)
            refine tw_last hx hb hK hS hz_b1 hk_b1 hn_b1 (iv_c (c := 5) (n := 5) (by decide)) ⟨by decide, by decide⟩ dX12_wordsForAll_102 (fun H locs J85 hS => ?_)
            refine lv_aload_n hx hb dX12_wordsForAll_103 rfl (lv_at hl 1 rfl) ?_
            have k86 : R9 a0 24 = some b1 := (Fr.kp (k := 24) g12 hk_a0 rfl).trans k2
            refine tw_getrk hx hb hW hown hK hS f_X12_42_11 hz_a0 hk_a0 (b := b1) k86 dX12_wordsForAll_104 ?_
            refine lv_bipush (v := 6) hx hb dX12_wordsForAll_107 (by decide) ?_
            refine lv_dup2_11 hx hb dX12_wordsForAll_109 rfl rfl ?_
            refine tw_lald hx hb hK hS hz_b1 hk_b1 hn_b1 (iv_c (c := 6) (n := 6) (by decide)) ⟨by decide, by decide⟩ dX12_wordsForAll_110 (fun x87 => ?_)
            refine lv_aload_n hx hb dX12_wordsForAll_111 rfl (lv_at hl 1 rfl) ?_
            refine lv_iload_n hx hb dX12_wordsForAll_112 rfl (lv_at hl 0 rfl) ?_
            refine lv_iload_n hx hb dX12_wordsForAll_113 rfl (lv_at hl 2 rfl) ?_
            refine tw_goi hS (md_runV (As := [.int x7, .int a1]) (rest := [.long x87, .int 6, .ref (base + b1)]) hx hb hml hown hW hK hT hS.1 (t_X12_worthOf l D cy tx base Z K N M8 R9 J85 hS.2.1 a0 hz_a0 hk_a0 x7 h48 a1 h_a1) s_X12_330 ⟨rfl, rfl, ⟨Nat.le_of_ble_eq_true rfl, Nat.le_of_ble_eq_true rfl⟩, ⟨Nat.le_of_ble_eq_true rfl, Nat.le_of_ble_eq_true rfl⟩⟩ hz_a0 hk_a0 (by decide) rfl rfl hl.1 rfl (Nat.le_of_ble_eq_true rfl) dX12_wordsForAll_114) rfl rfl (fun x94 H locs M91 R92 J90 hS f88 g89 E93 => ?_)
            have eM91 := Fr.nil f88 rfl
            subst eM91
            have eR92 := Fr.nil g89 rfl
            subst eR92
            have h_x94 := E93
            clear E93
            refine lv_if_ge (tgt := 130) hx hb dX12_wordsForAll_117 (by decide) (fun c95 => ?_) (fun c95 => ?_)
            · have q96 : 0 ≤ x94.toInt := ti_le c95
              have h97 : iv 0 2147483647 x94 := iv_geL (y := 0) h_x94 (iv_c (c := 0) (n := 0) (by decide)) q96 (by decide)
              refine lv_lconst (v := 0) hx hb dX12_wordsForAll_130 (by decide) ?_
              refine lv_ladd hx hb dX12_wordsForAll_131 ?_
              refine tw_topl (fun x98 => ?_)
              refine tw_last hx hb hK hS hz_b1 hk_b1 hn_b1 (iv_c (c := 6) (n := 6) (by decide)) ⟨by decide, by decide⟩ dX12_wordsForAll_132 (fun H locs J99 hS => ?_)
              refine tw_iinc (lv' := fun x102 => [(3, .int x102), (0, .ref (base + a0)), (1, .int a1), (2, .int a2)]) (lo := 1) (hi := 10) hx hb dX12_wordsForAll_133 hl (k := 0) rfl h48 (by decide) ⟨by decide, by decide⟩ ⟨by decide, by decide⟩ (by decide) (fun _ => rfl) (fun x102 ls e101 h100 hl => ?_)
              refine lv_goto (tgt := 32) hx hb dX12_wordsForAll_136 (by decide) ?_
              have hm103 : 10 - x102.toInt < (n_8 : Int) := by
                have := (h_a1).1; have := (h_a1).2; have := (h_a2).1; have := (h_a2).2; have := (h100).1; have := (h100).2; have := (h48).1; have := (h48).2; omega
              exact ih_8 x102 M8 R9 J99 H locs _ (iv_mono h100 (by decide) (by decide)) hm103 hS hl
            · have q104 : x94.toInt < 0 := ti_nle c95
              have h105 : iv (-2147483648) (-1) x94 := iv_ltL (y := 0) h_x94 (iv_c (c := 0) (n := 0) (by decide)) q104 (by decide)
              refine lv_aload_n hx hb dX12_wordsForAll_120 rfl (lv_at hl 1 rfl) ?_
              refine tw_getrk hx hb hW hown hK hS f_X12_51_11 hz_a0 hk_a0 (b := b65) k66 dX12_wordsForAll_121 ?_
              refine lv_iload_n hx hb dX12_wordsForAll_124 rfl (lv_at hl 0 rfl) ?_
              refine tw_ialk hx hb hK hS hz_b65 hk_b65 (Or.inr (by decide)) hn_b65 h48 ⟨by decide, by decide⟩ (v := x69) k68 dX12_wordsForAll_125 ?_
              refine lv_i2l hx hb dX12_wordsForAll_126 rfl ?_
              refine lv_goto (tgt := 131) hx hb dX12_wordsForAll_127 (by decide) ?_
              refine lv_ladd hx hb dX12_wordsForAll_131 ?_
              refine tw_topl (fun x106 => ?_)
              refine tw_last hx hb hK hS hz_b1 hk_b1 hn_b1 (iv_c (c := 6) (n := 6) (by decide)) ⟨by decide, by decide⟩ dX12_wordsForAll_132 (fun H locs J107 hS => ?_)
              refine tw_iinc (lv' := fun x110 => [(3, .int x110), (0, .ref (base + a0)), (1, .int a1), (2, .int a2)]) (lo := 1) (hi := 10) hx hb dX12_wordsForAll_133 hl (k := 0) rfl h48 (by decide) ⟨by decide, by decide⟩ ⟨by decide, by decide⟩ (by decide) (fun _ => rfl) (fun x110 ls e109 h108 hl => ?_)
              refine lv_goto (tgt := 32) hx hb dX12_wordsForAll_136 (by decide) ?_
              have hm111 : 10 - x110.toInt < (n_8 : Int) := by
                have := (h_a1).1; have := (h_a1).2; have := (h_a2).1; have := (h_a2).2; have := (h108).1; have := (h108).2; have := (h48).1; have := (h48).2; omega
              exact ih_8 x110 M8 R9 J107 H locs _ (iv_mono h108 (by decide) (by decide)) hm111 hS hl
          · have q112 : 0 < x80.toInt := ti_nle c81
            have h113 : iv 1 2147483647 x80 := iv_gtL (y := 0) h_x80 (iv_c (c := 0) (n := 0) (by decide)) q112 (by decide)
            refine lv_aload_n hx hb dX12_wordsForAll_90 rfl (lv_at hl 1 rfl) ?_
            refine tw_getrk hx hb hW hown hK hS f_X12_51_11 hz_a0 hk_a0 (b := b65) k66 dX12_wordsForAll_91 ?_
            refine lv_iload_n hx hb dX12_wordsForAll_94 rfl (lv_at hl 0 rfl) ?_
            refine tw_ialk hx hb hK hS hz_b65 hk_b65 (Or.inr (by decide)) hn_b65 h48 ⟨by decide, by decide⟩ (v := x69) k68 dX12_wordsForAll_95 ?_
            refine lv_i2l hx hb dX12_wordsForAll_96 rfl ?_
            refine lv_goto (tgt := 101) hx hb dX12_wordsForAll_97 (by decide) ?_
            refine lv_ladd hx hb dX12_wordsForAll_101 ?_
            refine tw_topl (fun x114 => ?_)
            refine tw_last hx hb hK hS hz_b1 hk_b1 hn_b1 (iv_c (c := 5) (n := 5) (by decide)) ⟨by decide, by decide⟩ dX12_wordsForAll_102 (fun H locs J115 hS => ?_)
            refine lv_aload_n hx hb dX12_wordsForAll_103 rfl (lv_at hl 1 rfl) ?_
            have k116 : R9 a0 24 = some b1 := (Fr.kp (k := 24) g12 hk_a0 rfl).trans k2
            refine tw_getrk hx hb hW hown hK hS f_X12_42_11 hz_a0 hk_a0 (b := b1) k116 dX12_wordsForAll_104 ?_
            refine lv_bipush (v := 6) hx hb dX12_wordsForAll_107 (by decide) ?_
            refine lv_dup2_11 hx hb dX12_wordsForAll_109 rfl rfl ?_
            refine tw_lald hx hb hK hS hz_b1 hk_b1 hn_b1 (iv_c (c := 6) (n := 6) (by decide)) ⟨by decide, by decide⟩ dX12_wordsForAll_110 (fun x117 => ?_)
            refine lv_aload_n hx hb dX12_wordsForAll_111 rfl (lv_at hl 1 rfl) ?_
            refine lv_iload_n hx hb dX12_wordsForAll_112 rfl (lv_at hl 0 rfl) ?_
            refine lv_iload_n hx hb dX12_wordsForAll_113 rfl (lv_at hl 2 rfl) ?_
            refine tw_goi hS (md_runV (As := [.int x7, .int a1]) (rest := [.long x117, .int 6, .ref (base + b1)]) hx hb hml hown hW hK hT hS.1 (t_X12_worthOf l D cy tx base Z K N M8 R9 J115 hS.2.1 a0 hz_a0 hk_a0 x7 h48 a1 h_a1) s_X12_330 ⟨rfl, rfl, ⟨Nat.le_of_ble_eq_true rfl, Nat.le_of_ble_eq_true rfl⟩, ⟨Nat.le_of_ble_eq_true rfl, Nat.le_of_ble_eq_true rfl⟩⟩ hz_a0 hk_a0 (by decide) rfl rfl hl.1 rfl (Nat.le_of_ble_eq_true rfl) dX12_wordsForAll_114) rfl rfl (fun x124 H locs M121 R122 J120 hS f118 g119 E123 => ?_)
            have eM121 := Fr.nil f118 rfl
            subst eM121
            have eR122 := Fr.nil g119 rfl
            subst eR122
            have h_x124 := E123
            clear E123
            refine lv_if_ge (tgt := 130) hx hb dX12_wordsForAll_117 (by decide) (fun c125 => ?_) (fun c125 => ?_)
            · have q126 : 0 ≤ x124.toInt := ti_le c125
              have h127 : iv 0 2147483647 x124 := iv_geL (y := 0) h_x124 (iv_c (c := 0) (n := 0) (by decide)) q126 (by decide)
              refine lv_lconst (v := 0) hx hb dX12_wordsForAll_130 (by decide) ?_
              refine lv_ladd hx hb dX12_wordsForAll_131 ?_
              refine tw_topl (fun x128 => ?_)
              refine tw_last hx hb hK hS hz_b1 hk_b1 hn_b1 (iv_c (c := 6) (n := 6) (by decide)) ⟨by decide, by decide⟩ dX12_wordsForAll_132 (fun H locs J129 hS => ?_)
              refine tw_iinc (lv' := fun x132 => [(3, .int x132), (0, .ref (base + a0)), (1, .int a1), (2, .int a2)]) (lo := 1) (hi := 10) hx hb dX12_wordsForAll_133 hl (k := 0) rfl h48 (by decide) ⟨by decide, by decide⟩ ⟨by decide, by decide⟩ (by decide) (fun _ => rfl) (fun x132 ls e131 h130 hl => ?_)
              refine lv_goto (tgt := 32) hx hb dX12_wordsForAll_136 (by decide) ?_
              have hm133 : 10 - x132.toInt < (n_8 : Int) := by
                have := (h_a1).1; have := (h_a1).2; have := (h_a2).1; have := (h_a2).2; have := (h130).1; have := (h130).2; have := (h48).1; have := (h48).2; omega
              exact ih_8 x132 M8 R9 J129 H locs _ (iv_mono h130 (by decide) (by decide)) hm133 hS hl
            · have q134 : x124.toInt < 0 := ti_nle c125
              have h135 : iv (-2147483648) (-1) x124 := iv_ltL (y := 0) h_x124 (iv_c (c := 0) (n := 0) (by decide)) q134 (by decide)
              refine lv_aload_n hx hb dX12_wordsForAll_120 rfl (lv_at hl 1 rfl) ?_
              refine tw_getrk hx hb hW hown hK hS f_X12_51_11 hz_a0 hk_a0 (b := b65) k66 dX12_wordsForAll_121 ?_
              refine lv_iload_n hx hb dX12_wordsForAll_124 rfl (lv_at hl 0 rfl) ?_
              refine tw_ialk hx hb hK hS hz_b65 hk_b65 (Or.inr (by decide)) hn_b65 h48 ⟨by decide, by decide⟩ (v := x69) k68 dX12_wordsForAll_125 ?_
              refine lv_i2l hx hb dX12_wordsForAll_126 rfl ?_
              refine lv_goto (tgt := 131) hx hb dX12_wordsForAll_127 (by decide) ?_
              refine lv_ladd hx hb dX12_wordsForAll_131 ?_
              refine tw_topl (fun x136 => ?_)
              refine tw_last hx hb hK hS hz_b1 hk_b1 hn_b1 (iv_c (c := 6) (n := 6) (by decide)) ⟨by decide, by decide⟩ dX12_wordsForAll_132 (fun H locs J137 hS => ?_)
              refine tw_iinc (lv' := fun x140 => [(3, .int x140), (0, .ref (base + a0)), (1, .int a1), (2, .int a2)]) (lo := 1) (hi := 10) hx hb dX12_wordsForAll_133 hl (k := 0) rfl h48 (by decide) ⟨by decide, by decide⟩ ⟨by decide, by decide⟩ (by decide) (fun _ => rfl) (fun x140 ls e139 h138 hl => ?_)
              refine lv_goto (tgt := 32) hx hb dX12_wordsForAll_136 (by decide) ?_
              have hm141 : 10 - x140.toInt < (n_8 : Int) := by
                have := (h_a1).1; have := (h_a1).2; have := (h_a2).1; have := (h_a2).2; have := (h138).1; have := (h138).2; have := (h48).1; have := (h48).2; omega
              exact ih_8 x140 M8 R9 J137 H locs _ (iv_mono h138 (by decide) (by decide)) hm141 hS hl
        · have q142 : x59.toInt = 0 := ti_eq c60
          have h143 : iv 0 0 x59 := ⟨by have := (h_x59).1; have := ((iv_c (c := 0) (n := 0) (by decide))).1; omega, by have := (h_x59).2; have := ((iv_c (c := 0) (n := 0) (by decide))).2; omega⟩
          refine lv_goto (tgt := 133) hx hb dX12_wordsForAll_55 (by decide) ?_
          refine tw_iinc (lv' := fun x146 => [(3, .int x146), (0, .ref (base + a0)), (1, .int a1), (2, .int a2)]) (lo := 1) (hi := 10) hx hb dX12_wordsForAll_133 hl (k := 0) rfl h48 (by decide) ⟨by decide, by decide⟩ ⟨by decide, by decide⟩ (by decide) (fun _ => rfl) (fun x146 ls e145 h144 hl => ?_)
          refine lv_goto (tgt := 32) hx hb dX12_wordsForAll_136 (by decide) ?_
          have hm147 : 10 - x146.toInt < (n_8 : Int) := by
            have := (h_a1).1; have := (h_a1).2; have := (h_a2).1; have := (h_a2).2; have := (h144).1; have := (h144).2; have := (h48).1; have := (h48).2; omega
          exact ih_8 x146 M8 R9 J55 H locs _ (iv_mono h144 (by decide) (by decide)) hm147 hS hl
  have hm148 : 10 - (0 : Int32).toInt < (((11 : Nat) : Int) : Int) := by
    have := (h_a1).1; have := (h_a1).2; have := (h_a2).1; have := (h_a2).2; have : (0 : Int32).toInt = 0 := (by decide); omega
  exact W32_8 11 0 Ma Ra J6 H locs _ (iv_mono (iv_c (c := 0) (n := 0) (by decide)) (by decide) (by decide)) hm148 hS hl
def Lt_X12_asks : WL := [(12, 23, 24), (12, 31, 33)]
def LRt_X12_asks : WL := []
set_option maxRecDepth 100000 in
set_option maxHeartbeats 4000000 in
theorem t_X12_asks (l : Launch) (D : va_G) (cy : Nat → ClassId) (tx : (Nat → Nat) × (Nat → Nat)) (base Z : Nat) (K N : Nat → Nat) (Ma : MT) (Ra : RT) (Ja : JT) (hTy : Ty Z K N Ma Ra) (a0 : Nat) (hz_a0 : a0 < Z) (hk_a0 : K a0 = 12) (a1 : Int32) (h_a1 : iv 0 11 a1) (a2 : Int32) (h_a2 : iv (-1) 7 a2) (co_a0 : Codes Ma Ra a0) : Met l yX12_asks [Cond.code yX12_asks cX12_asks 4 none] (md_rm 4 0 0) (va_Pc [.ref (base + a0), .int a1, .int a2] (md_U D cy tx base Z K N Ma Ra Ja)) (mQv D cy tx base (fun u => TP Z K N Lt_X12_asks LRt_X12_asks Ma Ra u ∧ (True))) 0 0 (fun q => base ≤ q) := by
  refine tw_ofW (L := Lt_X12_asks) (LR := LRt_X12_asks) (by decide) (Nat.le_of_ble_eq_true rfl) hTy ?_
  intro p e s m args below meth c Q ls hx hb hr hlocks hown hml hW hK hT hS hQ hl
  have hl : lv_has ls 4 [(0, .ref (base + a0)), (1, .int a1), (2, .int a2)] := hl
  refine lv_aload_n hx hb dX12_asks_0 rfl (lv_at hl 0 rfl) ?_
  refine lv_iconst (v := 0) hx hb dX12_asks_1 (by decide) ?_
  refine tw_puti hx hb hW hown hK hS f_X12_364_11 hz_a0 hk_a0 rfl rfl (lo := (-2147483648)) (hi := 2147483647) rfl (iv_mono (iv_c (c := 0) (n := 0) (by decide)) (by decide) (by decide)) rfl dX12_asks_2 (fun H locs M3 hS k1 f2 => ?_)
  refine lv_aload_n hx hb dX12_asks_5 rfl (lv_at hl 0 rfl) ?_
  refine lv_iconst (v := 0) hx hb dX12_asks_6 (by decide) ?_
  refine tw_puti hx hb hW hown hK hS f_X12_367_11 hz_a0 hk_a0 rfl rfl (lo := (-2147483648)) (hi := 2147483647) rfl (iv_mono (iv_c (c := 0) (n := 0) (by decide)) (by decide) (by decide)) rfl dX12_asks_7 (fun H locs M6 hS k4 f5 => ?_)
  refine lv_aload_n hx hb dX12_asks_10 rfl (lv_at hl 0 rfl) ?_
  refine lv_iload_n hx hb dX12_asks_11 rfl (lv_at hl 1 rfl) ?_
  refine lv_iload_n hx hb dX12_asks_12 rfl (lv_at hl 2 rfl) ?_
  refine tw_gov hS (md_runV (As := [.int a1, .int a2]) (rest := []) hx hb hml hown hW hK hT hS.1 (t_X12_wordsForAll l D cy tx base Z K N M6 Ra Ja hS.2.1 a0 hz_a0 hk_a0 a1 h_a1 a2 h_a2) s_X12_370 ⟨rfl, rfl, ⟨Nat.le_of_ble_eq_true rfl, Nat.le_of_ble_eq_true rfl⟩, ⟨Nat.le_of_ble_eq_true rfl, Nat.le_of_ble_eq_true rfl⟩⟩ hz_a0 hk_a0 (by decide) rfl rfl hl.1 rfl (Nat.le_of_ble_eq_true rfl) dX12_asks_13) rfl rfl (fun H locs M10 R11 J9 hS f7 g8 E12 => ?_)
  have eM10 := Fr.nil f7 rfl
  subst eM10
  have eR11 := Fr.nil g8 rfl
  subst eR11
  refine lv_iconst (v := 0) hx hb dX12_asks_16 (by decide) ?_
  refine lv_istore_n (lv' := [(3, .int 0), (0, .ref (base + a0)), (1, .int a1), (2, .int a2)]) hx hb dX12_asks_17 rfl hl (by decide) rfl (fun ls hl => ?_)
  have W18_14 : ∀ (n_14 : Nat) (x13 : Int32) (M14 : MT) (R15 : RT) (J16 : JT) (H : Heap) (locs : List Loc) (ls : Array Slot) (h_x13 : iv 0 10 x13) (hm_14 : 10 - x13.toInt < (n_14 : Int)) (hS : SB D cy base Z K N Lt_X12_asks LRt_X12_asks Ma Ra M14 R15 J16 s H locs) (hl : lv_has ls 4 [(3, .int x13), (0, .ref (base + a0)), (1, .int a1), (2, .int a2)]), W p l e (md_rm 4 0 0) s m args below meth c H locs 0 0 Q (F0 m 18 ls []) := by
    intro n_14
    induction n_14 with
    | zero =>
      intro x13 M14 R15 J16 H locs ls h_x13 hm_14 hS hl
      exfalso
      have := (h_a1).1; have := (h_a1).2; have := (h_a2).1; have := (h_a2).2; have := (h_x13).1; have := (h_x13).2; omega
    | succ n_14 ih_14 =>
      intro x13 M14 R15 J16 H locs ls h_x13 hm_14 hS hl
      have f17 := hS.2.2.1
      have g18 := hS.2.2.2
      refine lv_iload_n hx hb dX12_asks_18 rfl (lv_at hl 0 rfl) ?_
      refine lv_aload_n hx hb dX12_asks_19 rfl (lv_at hl 1 rfl) ?_
      refine tw_getr hx hb hW hown hK hS f_X12_45_11 hz_a0 hk_a0 (t := 23) (n := 226) rfl dX12_asks_20 (fun b19 k20 hz_b19 hk_b19 hn_b19 => ?_)
      have hn_b19 := hn_b19 (by decide)
      refine lv_iconst (v := 0) hx hb dX12_asks_23 (by decide) ?_
      refine tw_iald hx hb hK hS hz_b19 hk_b19 (Or.inr (by decide)) hn_b19 (lo := 0) (hi := 10) (iv_c (c := 0) (n := 0) (by decide)) ⟨by decide, by decide⟩ (rg_c (k0 := 0) rfl rfl rfl) dX12_asks_24 (fun x23 k22 h21 => ?_)
      refine lv_icmp_ge (tgt := 59) hx hb dX12_asks_25 (by decide) (fun c24 => ?_) (fun c24 => ?_)
      · have q25 : x23.toInt ≤ x13.toInt := ti_le c24
        exact tw_endv hx hb hr hlocks hK hT hS hQ (trivial) dX12_asks_59
      · have q26 : x13.toInt < x23.toInt := ti_nle c24
        have h27 : iv 0 9 x13 := iv_ltL (y := x23) h_x13 h21 q26 (by decide)
        have h28 : iv 1 10 x23 := iv_gtL (y := x13) h21 h_x13 q26 (by decide)
        refine lv_aload_n hx hb dX12_asks_28 rfl (lv_at hl 1 rfl) ?_
        refine tw_getrk hx hb hW hown hK hS f_X12_45_11 hz_a0 hk_a0 (b := b19) k20 dX12_asks_29 ?_
        refine lv_iconst (v := 2) hx hb dX12_asks_32 (by decide) ?_
        refine tw_iald hx hb hK hS hz_b19 hk_b19 (Or.inr (by decide)) hn_b19 (lo := (-2147483648)) (hi := 2147483647) (iv_c (c := 2) (n := 2) (by decide)) ⟨by decide, by decide⟩ (rg_c (k0 := 2) rfl rfl rfl) dX12_asks_33 (fun x31 k30 h29 => ?_)
        refine lv_iload_n hx hb dX12_asks_34 rfl (lv_at hl 0 rfl) ?_
        refine tw_goi hS (md_runS (As := [.int x31, .int x13]) (rest := []) hx hb hml hown hW hK hT hS.1 (t_X12_isOf l D cy tx base Z K N M14 R15 J16 hS.2.1 x31 h29 x13 h27) s_X12_322 ⟨rfl, rfl, ⟨Nat.le_of_ble_eq_true rfl, Nat.le_of_ble_eq_true rfl⟩, ⟨Nat.le_of_ble_eq_true rfl, Nat.le_of_ble_eq_true rfl⟩⟩ rfl hl.1 rfl (Nat.le_of_ble_eq_true rfl) dX12_asks_35) rfl rfl (fun x38 H locs M35 R36 J34 hS f32 g33 E37 => ?_)
        have eM35 := Fr.nil f32 rfl
        subst eM35
        have eR36 := Fr.nil g33 rfl
        subst eR36
        have h_x38 := E37
        clear E37
        refine lv_if_eq (tgt := 53) hx hb dX12_asks_38 (by decide) (fun c39 => ?_) (fun c39 => ?_)
        · have q40 : x38.toInt = 0 := ti_eq c39
          have h41 : iv 0 0 x38 := ⟨by have := (h_x38).1; have := ((iv_c (c := 0) (n := 0) (by decide))).1; omega, by have := (h_x38).2; have := ((iv_c (c := 0) (n := 0) (by decide))).2; omega⟩
          refine tw_iinc (lv' := fun x44 => [(3, .int x44), (0, .ref (base + a0)), (1, .int a1), (2, .int a2)]) (lo := 1) (hi := 10) hx hb dX12_asks_53 hl (k := 0) rfl h27 (by decide) ⟨by decide, by decide⟩ ⟨by decide, by decide⟩ (by decide) (fun _ => rfl) (fun x44 ls e43 h42 hl => ?_)
          refine lv_goto (tgt := 18) hx hb dX12_asks_56 (by decide) ?_
          have hm45 : 10 - x44.toInt < (n_14 : Int) := by
            have := (h_a1).1; have := (h_a1).2; have := (h_a2).1; have := (h_a2).2; have := (h27).1; have := (h27).2; have := (h42).1; have := (h42).2; omega
          exact ih_14 x44 M14 R15 J34 H locs _ (iv_mono h42 (by decide) (by decide)) hm45 hS hl
        · have q46 : ¬ x38.toInt = 0 := ti_ne c39
          have h47 : iv 1 1 x38 := ⟨by have := (h_x38).1; have := ((iv_c (c := 0) (n := 0) (by decide))).1; have := ((iv_c (c := 0) (n := 0) (by decide))).2; omega, by have := (h_x38).2; have := ((iv_c (c := 0) (n := 0) (by decide))).1; have := ((iv_c (c := 0) (n := 0) (by decide))).2; omega⟩
          refine lv_aload_n hx hb dX12_asks_41 rfl (lv_at hl 1 rfl) ?_
          refine lv_iload_n hx hb dX12_asks_42 rfl (lv_at hl 0 rfl) ?_
          refine lv_aload_n hx hb dX12_asks_43 rfl (lv_at hl 1 rfl) ?_
          refine lv_iload_n hx hb dX12_asks_44 rfl (lv_at hl 0 rfl) ?_
          refine lv_iload_n hx hb dX12_asks_45 rfl (lv_at hl 2 rfl) ?_
          refine lv_iload_n hx hb dX12_asks_46 rfl (lv_at hl 3 rfl) ?_
          refine tw_goi hS (md_runV (As := [.int x13, .int a1, .int a2]) (rest := [.int x13, .ref (base + a0)]) hx hb hml hown hW hK hT hS.1 (t_X12_saying l D cy tx base Z K N M14 R15 J34 hS.2.1 a0 hz_a0 hk_a0 x13 h27 a1 h_a1 a2 h_a2 (Codes.fr co_a0 hTy hz_a0 hk_a0 hS.2.2.1 hS.2.2.2 rfl)) s_X12_373 ⟨rfl, rfl, ⟨Nat.le_of_ble_eq_true rfl, Nat.le_of_ble_eq_true rfl⟩, ⟨Nat.le_of_ble_eq_true rfl, Nat.le_of_ble_eq_true rfl⟩⟩ hz_a0 hk_a0 (by decide) rfl rfl hl.1 rfl (Nat.le_of_ble_eq_true rfl) dX12_asks_47) rfl rfl (fun x54 H locs M51 R52 J50 hS f48 g49 E53 => ?_)
          have eR52 := Fr.nil g49 rfl
          subst eR52
          have h_x54 := E53
          clear E53
          refine tw_gov hS (md_runV (As := [.int x13, .int x54]) (rest := []) hx hb hml hown hW hK hT hS.1 (t_X12_sets l D cy tx base Z K N M51 R15 J50 hS.2.1 a0 hz_a0 hk_a0 x13 h27 x54 h_x54) s_X12_377 ⟨rfl, rfl, ⟨Nat.le_of_ble_eq_true rfl, Nat.le_of_ble_eq_true rfl⟩, ⟨Nat.le_of_ble_eq_true rfl, Nat.le_of_ble_eq_true rfl⟩⟩ hz_a0 hk_a0 (by decide) rfl rfl hl.1 rfl (Nat.le_of_ble_eq_true rfl) dX12_asks_50) rfl rfl (fun H locs M58 R59 J57 hS f55 g56 E60 => ?_)
          have eR59 := Fr.nil g56 rfl
          subst eR59
          refine tw_iinc (lv' := fun x63 => [(3, .int x63), (0, .ref (base + a0)), (1, .int a1), (2, .int a2)]) (lo := 1) (hi := 10) hx hb dX12_asks_53 hl (k := 0) rfl h27 (by decide) ⟨by decide, by decide⟩ ⟨by decide, by decide⟩ (by decide) (fun _ => rfl) (fun x63 ls e62 h61 hl => ?_)
          refine lv_goto (tgt := 18) hx hb dX12_asks_56 (by decide) ?_
          have hm64 : 10 - x63.toInt < (n_14 : Int) := by
            have := (h_a1).1; have := (h_a1).2; have := (h_a2).1; have := (h_a2).2; have := (h27).1; have := (h27).2; have := (h61).1; have := (h61).2; omega
          exact ih_14 x63 M58 R15 J57 H locs _ (iv_mono h61 (by decide) (by decide)) hm64 hS hl
  have hm65 : 10 - (0 : Int32).toInt < (((11 : Nat) : Int) : Int) := by
    have := (h_a1).1; have := (h_a1).2; have := (h_a2).1; have := (h_a2).2; have : (0 : Int32).toInt = 0 := (by decide); omega
  exact W18_14 11 0 M6 Ra J9 H locs _ (iv_mono (iv_c (c := 0) (n := 0) (by decide)) (by decide) (by decide)) hm65 hS hl
def Lt_X12_isMember : WL := []
def LRt_X12_isMember : WL := []
set_option maxRecDepth 100000 in
set_option maxHeartbeats 4000000 in
theorem t_X12_isMember (l : Launch) (D : va_G) (cy : Nat → ClassId) (tx : (Nat → Nat) × (Nat → Nat)) (base Z : Nat) (K N : Nat → Nat) (Ma : MT) (Ra : RT) (Ja : JT) (hTy : Ty Z K N Ma Ra) (a0 : Nat) (hz_a0 : a0 < Z) (hk_a0 : K a0 = 12) (a1 : Int32) (h_a1 : iv (-2147483648) 2147483647 a1) : Met l yX12_isMember [Cond.code yX12_isMember cX12_isMember 2 (some .boolean)] (md_rm 1 0 0) (va_Pc [.ref (base + a0), .int a1] (md_U D cy tx base Z K N Ma Ra Ja)) (mQi D cy tx base (fun r u => TP Z K N Lt_X12_isMember LRt_X12_isMember Ma Ra u ∧ (iv 0 1 r ∧ (¬ r = 0 → iv 0 9 a1)))) 0 0 (fun q => base ≤ q) := by
  refine tw_ofW (L := Lt_X12_isMember) (LR := LRt_X12_isMember) (by decide) (Nat.le_of_ble_eq_true rfl) hTy ?_
  intro p e s m args below meth c Q ls hx hb hr hlocks hown hml hW hK hT hS hQ hl
  have hl : lv_has ls 2 [(0, .ref (base + a0)), (1, .int a1)] := hl
  refine lv_iload_n hx hb dX12_isMember_0 rfl (lv_at hl 1 rfl) ?_
  refine lv_if_lt (tgt := 18) hx hb dX12_isMember_1 (by decide) (fun c1 => ?_) (fun c1 => ?_)
  · have q2 : a1.toInt < 0 := ti_lt c1
    have h3 : iv (-2147483648) (-1) a1 := iv_ltL (y := 0) h_a1 (iv_c (c := 0) (n := 0) (by decide)) q2 (by decide)
    refine lv_iconst (v := 0) hx hb dX12_isMember_18 (by decide) ?_
    exact tw_endz hx hb hr hlocks hK hT hS hQ rfl (⟨(iv_mono (iv_c (c := 0) (n := 0) (by decide)) (by decide) (by decide)), (fun h => absurd rfl h)⟩) dX12_isMember_19
  · have q4 : 0 ≤ a1.toInt := ti_nlt c1
    have h5 : iv 0 2147483647 a1 := iv_geL (y := 0) h_a1 (iv_c (c := 0) (n := 0) (by decide)) q4 (by decide)
    refine lv_iload_n hx hb dX12_isMember_4 rfl (lv_at hl 1 rfl) ?_
    refine lv_aload_n hx hb dX12_isMember_5 rfl (lv_at hl 0 rfl) ?_
    refine tw_getr hx hb hW hown hK hS f_X12_45_11 hz_a0 hk_a0 (t := 23) (n := 226) rfl dX12_isMember_6 (fun b6 k7 hz_b6 hk_b6 hn_b6 => ?_)
    have hn_b6 := hn_b6 (by decide)
    refine lv_iconst (v := 0) hx hb dX12_isMember_9 (by decide) ?_
    refine tw_iald hx hb hK hS hz_b6 hk_b6 (Or.inr (by decide)) hn_b6 (lo := 0) (hi := 10) (iv_c (c := 0) (n := 0) (by decide)) ⟨by decide, by decide⟩ (rg_c (k0 := 0) rfl rfl rfl) dX12_isMember_10 (fun x10 k9 h8 => ?_)
    refine lv_icmp_ge (tgt := 18) hx hb dX12_isMember_11 (by decide) (fun c11 => ?_) (fun c11 => ?_)
    · have q12 : x10.toInt ≤ a1.toInt := ti_le c11
      refine lv_iconst (v := 0) hx hb dX12_isMember_18 (by decide) ?_
      exact tw_endz hx hb hr hlocks hK hT hS hQ rfl (⟨(iv_mono (iv_c (c := 0) (n := 0) (by decide)) (by decide) (by decide)), (fun h => absurd rfl h)⟩) dX12_isMember_19
    · have q13 : a1.toInt < x10.toInt := ti_nle c11
      have h14 : iv 0 9 a1 := iv_ltL (y := x10) h5 h8 q13 (by decide)
      have h15 : iv 1 10 x10 := iv_gtL (y := a1) h8 h5 q13 (by decide)
      refine lv_iconst (v := 1) hx hb dX12_isMember_14 (by decide) ?_
      refine lv_goto (tgt := 19) hx hb dX12_isMember_15 (by decide) ?_
      exact tw_endz hx hb hr hlocks hK hT hS hQ rfl (⟨(iv_mono (iv_c (c := 1) (n := 1) (by decide)) (by decide) (by decide)), (fun _ => h14)⟩) dX12_isMember_19
def Lt_X12_refuses : WL := [(14, 0, 2000000)]
def LRt_X12_refuses : WL := []
set_option maxRecDepth 100000 in
set_option maxHeartbeats 4000000 in
theorem t_X12_refuses (l : Launch) (D : va_G) (cy : Nat → ClassId) (tx : (Nat → Nat) × (Nat → Nat)) (base Z : Nat) (K N : Nat → Nat) (Ma : MT) (Ra : RT) (Ja : JT) (hTy : Ty Z K N Ma Ra) (a0 : Nat) (hz_a0 : a0 < Z) (hk_a0 : K a0 = 12) (a1 : Int32) (h_a1 : iv 0 1 a1) : Met l yX12_refuses [Cond.code yX12_refuses cX12_refuses 2 (some .int)] (md_rm 1 0 0) (va_Pc [.ref (base + a0), .int a1] (md_U D cy tx base Z K N Ma Ra Ja)) (mQi D cy tx base (fun r u => TP Z K N Lt_X12_refuses LRt_X12_refuses Ma Ra u ∧ (iv (-2) (-2) r))) 0 0 (fun q => base ≤ q) := by
  refine tw_ofW (L := Lt_X12_refuses) (LR := LRt_X12_refuses) (by decide) (Nat.le_of_ble_eq_true rfl) hTy ?_
  intro p e s m args below meth c Q ls hx hb hr hlocks hown hml hW hK hT hS hQ hl
  have hl : lv_has ls 2 [(0, .ref (base + a0)), (1, .int a1)] := hl
  refine lv_aload_n hx hb dX12_refuses_0 rfl (lv_at hl 0 rfl) ?_
  refine tw_getr hx hb hW hown hK hS f_X12_48_11 hz_a0 hk_a0 (t := 14) (n := 2) rfl dX12_refuses_1 (fun b1 k2 hz_b1 hk_b1 hn_b1 => ?_)
  have hn_b1 := hn_b1 (by decide)
  refine lv_iload_n hx hb dX12_refuses_4 rfl (lv_at hl 1 rfl) ?_
  refine lv_dup2_11 hx hb dX12_refuses_5 rfl rfl ?_
  refine tw_iald hx hb hK hS hz_b1 hk_b1 (Or.inl rfl) hn_b1 (lo := (-2147483648)) (hi := 2147483647) h_a1 ⟨by decide, by decide⟩ rg_u14 dX12_refuses_6 (fun x5 k4 h3 => ?_)
  refine lv_iconst (v := 1) hx hb dX12_refuses_7 (by decide) ?_
  refine lv_iadd hx hb dX12_refuses_8 ?_
  refine tw_top (fun x7 => ?_)
  have h6 := iv_any x7
  refine tw_iast hx hb hK hS hz_b1 hk_b1 (Or.inl rfl) hn_b1 h_a1 ⟨by decide, by decide⟩ h6 (rg_s14 ⟨by decide, by decide⟩) (jl := 0) (jh := 1999999) ⟨by decide, by decide⟩ rfl dX12_refuses_9 (fun H locs M10 hS k8 f9 => ?_)
  refine lv_bipush (v := (-2)) hx hb dX12_refuses_10 (by decide) ?_
  exact tw_endi hx hb hr hlocks hK hT hS hQ ((iv_c (c := (-2)) (n := (-2)) (by decide))) dX12_refuses_12
def Lt_X12_begins : WL := [(12, 28, 29), (12, 30, 31), (14, 0, 2000000), (30, 0, 2000000), (31, 0, 2000000)]
def LRt_X12_begins : WL := []
set_option maxRecDepth 100000 in
set_option maxHeartbeats 4000000 in
theorem t_X12_begins (l : Launch) (D : va_G) (cy : Nat → ClassId) (tx : (Nat → Nat) × (Nat → Nat)) (base Z : Nat) (K N : Nat → Nat) (Ma : MT) (Ra : RT) (Ja : JT) (hTy : Ty Z K N Ma Ra) (a0 : Nat) (hz_a0 : a0 < Z) (hk_a0 : K a0 = 12) (sd : Nat) (k_sd : Ra a0 25 = some sd) (e4 : Int32) (k_e4 : Ma sd (4 : Int32).toNatClampNeg = e4) (h_e4 : iv 0 8 e4) : Met l yX12_begins [Cond.code yX12_begins cX12_begins 2 none] (md_rm 1 0 0) (va_Pc [.ref (base + a0)] (md_U D cy tx base Z K N Ma Ra Ja)) (mQv D cy tx base (fun u => TP Z K N Lt_X12_begins LRt_X12_begins Ma Ra u ∧ (u.2.2.2.1 a0 30 = e4))) 0 0 (fun q => base ≤ q) := by
  refine tw_ofW (L := Lt_X12_begins) (LR := LRt_X12_begins) (by decide) (Nat.le_of_ble_eq_true rfl) hTy ?_
  intro p e s m args below meth c Q ls hx hb hr hlocks hown hml hW hK hT hS hQ hl
  have hl : lv_has ls 2 [(0, .ref (base + a0))] := hl
  obtain ⟨hz_sd, hk_sd, hn_sd⟩ := hTy.refn hz_a0 hk_a0 (show rtR 12 25 = (23, 226, 0) from rfl) k_sd
  have hn_sd := hn_sd (by decide)
  refine lv_iconst (v := 0) hx hb dX12_begins_0 (by decide) ?_
  refine lv_istore_n (lv' := [(1, .int 0), (0, .ref (base + a0))]) hx hb dX12_begins_1 rfl hl (by decide) rfl (fun ls hl => ?_)
  have W2_2 : ∀ (n_2 : Nat) (x1 : Int32) (M2 : MT) (R3 : RT) (J4 : JT) (H : Heap) (locs : List Loc) (ls : Array Slot) (h_x1 : iv 0 10 x1) (hm_2 : 10 - x1.toInt < (n_2 : Int)) (hS : SB D cy base Z K N Lt_X12_begins LRt_X12_begins Ma Ra M2 R3 J4 s H locs) (hl : lv_has ls 2 [(1, .int x1), (0, .ref (base + a0))]), W p l e (md_rm 1 0 0) s m args below meth c H locs 0 0 Q (F0 m 2 ls []) := by
    intro n_2
    induction n_2 with
    | zero =>
      intro x1 M2 R3 J4 H locs ls h_x1 hm_2 hS hl
      exfalso
      have := (h_e4).1; have := (h_e4).2; have := (h_x1).1; have := (h_x1).2; omega
    | succ n_2 ih_2 =>
      intro x1 M2 R3 J4 H locs ls h_x1 hm_2 hS hl
      have f5 := hS.2.2.1
      have g6 := hS.2.2.2
      refine lv_iload_n hx hb dX12_begins_2 rfl (lv_at hl 0 rfl) ?_
      refine lv_bipush (v := 10) hx hb dX12_begins_3 (by decide) ?_
      refine lv_icmp_ge (tgt := 43) hx hb dX12_begins_5 (by decide) (fun c7 => ?_) (fun c7 => ?_)
      · have q8 : 10 ≤ x1.toInt := ti_le c7
        have h9 : iv 10 10 x1 := iv_geL (y := 10) h_x1 (iv_c (c := 10) (n := 10) (by decide)) q8 (by decide)
        refine lv_aload_n hx hb dX12_begins_43 rfl (lv_at hl 1 rfl) ?_
        refine lv_aload_n hx hb dX12_begins_44 rfl (lv_at hl 1 rfl) ?_
        have k10 : R3 a0 25 = some sd := (Fr.kp (k := 25) g6 hk_a0 rfl).trans k_sd
        refine tw_getrk hx hb hW hown hK hS f_X12_45_11 hz_a0 hk_a0 (b := sd) k10 dX12_begins_45 ?_
        refine lv_iconst (v := 3) hx hb dX12_begins_48 (by decide) ?_
        refine tw_iald hx hb hK hS hz_sd hk_sd (Or.inr (by decide)) hn_sd (lo := (-2147483648)) (hi := 2147483647) (iv_c (c := 3) (n := 3) (by decide)) ⟨by decide, by decide⟩ (rg_c (k0 := 3) rfl rfl rfl) dX12_begins_49 (fun x13 k12 h11 => ?_)
        refine tw_puti hx hb hW hown hK hS f_X12_348_11 hz_a0 hk_a0 rfl rfl (lo := (-2147483648)) (hi := 2147483647) rfl h11 rfl dX12_begins_50 (fun H locs M16 hS k14 f15 => ?_)
        refine lv_aload_n hx hb dX12_begins_53 rfl (lv_at hl 1 rfl) ?_
        refine lv_aload_n hx hb dX12_begins_54 rfl (lv_at hl 1 rfl) ?_
        have k17 : R3 a0 25 = some sd := (Fr.kp (k := 25) g6 hk_a0 rfl).trans k_sd
        refine tw_getrk hx hb hW hown hK hS f_X12_45_11 hz_a0 hk_a0 (b := sd) k17 dX12_begins_55 ?_
        refine lv_iconst (v := 4) hx hb dX12_begins_58 (by decide) ?_
        have k18 : M16 sd (4 : Int32).toNatClampNeg = e4 := ((Fr.kp (k := (4 : Int32).toNatClampNeg) f15 hk_sd rfl).trans (Fr.kp (k := (4 : Int32).toNatClampNeg) f5 hk_sd rfl)).trans k_e4
        refine tw_ialk hx hb hK hS hz_sd hk_sd (Or.inr (by decide)) hn_sd (iv_c (c := 4) (n := 4) (by decide)) ⟨by decide, by decide⟩ (v := e4) k18 dX12_begins_59 ?_
        refine tw_puti hx hb hW hown hK hS f_X12_351_11 hz_a0 hk_a0 rfl rfl (lo := 0) (hi := 8) rfl h_e4 rfl dX12_begins_60 (fun H locs M21 hS k19 f20 => ?_)
        refine lv_iconst (v := 0) hx hb dX12_begins_63 (by decide) ?_
        refine lv_istore_n (lv' := [(1, .int 0), (0, .ref (base + a0))]) hx hb dX12_begins_64 rfl hl (by decide) rfl (fun ls hl => ?_)
        have W65_23 : ∀ (n_23 : Nat) (x22 : Int32) (x28 : Int32) (M23 : MT) (R24 : RT) (J25 : JT) (H : Heap) (locs : List Loc) (ls : Array Slot) (h_x22 : iv 0 8 x22) (h_x28 : iv 0 8 x28) (k29 : M23 a0 30 = x28) (w0_23 : x28.toInt = e4.toInt) (hm_23 : 8 - x22.toInt < (n_23 : Int)) (hS : SB D cy base Z K N Lt_X12_begins LRt_X12_begins Ma Ra M23 R24 J25 s H locs) (hl : lv_has ls 2 [(1, .int x22), (0, .ref (base + a0))]), W p l e (md_rm 1 0 0) s m args below meth c H locs 0 0 Q (F0 m 65 ls []) := by
          intro n_23
          induction n_23 with
          | zero =>
            intro x22 x28 M23 R24 J25 H locs ls h_x22 h_x28 k29 w0_23 hm_23 hS hl
            exfalso
            have := (h_e4).1; have := (h_e4).2; have := (h_x22).1; have := (h_x22).2; omega
          | succ n_23 ih_23 =>
            intro x22 x28 M23 R24 J25 H locs ls h_x22 h_x28 k29 w0_23 hm_23 hS hl
            have f26 := hS.2.2.1
            have g27 := hS.2.2.2
            refine lv_iload_n hx hb dX12_begins_65 rfl (lv_at hl 0 rfl) ?_
            refine lv_aload_n hx hb dX12_begins_66 rfl (lv_at hl 1 rfl) ?_
            refine tw_getk hx hb hW hown hK hS f_X12_351_11 hz_a0 hk_a0 (v := x28) k29 dX12_begins_67 ?_
            refine lv_icmp_ge (tgt := 95) hx hb dX12_begins_70 (by decide) (fun c30 => ?_) (fun c30 => ?_)
            · have q31 : x28.toInt ≤ x22.toInt := ti_le c30
              exact tw_endv hx hb hr hlocks hK hT hS hQ ((k29.trans (Int32.toInt_inj.mp (by omega)))) dX12_begins_95
            · have q32 : x22.toInt < x28.toInt := ti_nle c30
              have h33 : iv 0 7 x22 := iv_ltL (y := x28) h_x22 h_x28 q32 (by decide)
              have h34 : iv 1 8 x28 := iv_gtL (y := x22) h_x28 h_x22 q32 (by decide)
              refine lv_aload_n hx hb dX12_begins_73 rfl (lv_at hl 1 rfl) ?_
              refine tw_getr hx hb hW hown hK hS f_X12_54_11 hz_a0 hk_a0 (t := 31) (n := 8) rfl dX12_begins_74 (fun b35 k36 hz_b35 hk_b35 hn_b35 => ?_)
              have hn_b35 := hn_b35 (by decide)
              refine lv_iload_n hx hb dX12_begins_77 rfl (lv_at hl 0 rfl) ?_
              refine lv_aload_n hx hb dX12_begins_78 rfl (lv_at hl 1 rfl) ?_
              have k37 : R24 a0 25 = some sd := (Fr.kp (k := 25) g27 hk_a0 rfl).trans k_sd
              refine tw_getrk hx hb hW hown hK hS f_X12_45_11 hz_a0 hk_a0 (b := sd) k37 dX12_begins_79 ?_
              refine lv_sipush (v := 170) hx hb dX12_begins_82 (by decide) ?_
              refine lv_iload_n hx hb dX12_begins_85 rfl (lv_at hl 0 rfl) ?_
              refine tw_iadd (lo := 170) (hi := 177) hx hb (iv_c (c := 170) (n := 170) (by decide)) h33 ⟨by decide, by decide⟩ ⟨by decide, by decide⟩ dX12_begins_86 (fun x40 e39 h38 => ?_)
              have e39 : x40.toInt = 170 + x22.toInt := e39
              refine tw_iald hx hb hK hS hz_sd hk_sd (Or.inr (by decide)) hn_sd (lo := 0) (hi := 11) h38 ⟨by decide, by decide⟩ (rg_so ⟨by decide, by decide⟩) dX12_begins_87 (fun x43 k42 h41 => ?_)
              refine tw_iast hx hb hK hS hz_b35 hk_b35 (Or.inr (by decide)) hn_b35 h33 ⟨by decide, by decide⟩ h41 (rg_s31 ⟨by decide, by decide⟩) (jl := 0) (jh := 1999999) ⟨by decide, by decide⟩ rfl dX12_begins_88 (fun H locs M46 hS k44 f45 => ?_)
              refine tw_iinc (lv' := fun x49 => [(1, .int x49), (0, .ref (base + a0))]) (lo := 1) (hi := 8) hx hb dX12_begins_89 hl (k := 0) rfl h33 (by decide) ⟨by decide, by decide⟩ ⟨by decide, by decide⟩ (by decide) (fun _ => rfl) (fun x49 ls e48 h47 hl => ?_)
              refine lv_goto (tgt := 65) hx hb dX12_begins_92 (by decide) ?_
              have k50 : M46 a0 30 = x28 := (Fr.kp (k := 30) f45 hk_a0 rfl).trans k29
              have w51 : x28.toInt = e4.toInt := by
                have := (h_e4).1; have := (h_e4).2; have := (h34).1; have := (h34).2; omega
              have hm52 : 8 - x49.toInt < (n_23 : Int) := by
                have := (h_e4).1; have := (h_e4).2; have := (h33).1; have := (h33).2; have := (h38).1; have := (h38).2; have := (h47).1; have := (h47).2; omega
              exact ih_23 x49 x28 M46 R24 J25 H locs _ (iv_mono h47 (by decide) (by decide)) (iv_mono h34 (by decide) (by decide)) k50 w51 hm52 hS hl
        have w53 : e4.toInt = e4.toInt := by
          have := (h_e4).1; have := (h_e4).2; omega
        have hm54 : 8 - (0 : Int32).toInt < (((9 : Nat) : Int) : Int) := by
          have := (h_e4).1; have := (h_e4).2; have : (0 : Int32).toInt = 0 := (by decide); omega
        exact W65_23 9 0 e4 M21 R3 J4 H locs _ (iv_mono (iv_c (c := 0) (n := 0) (by decide)) (by decide) (by decide)) h_e4 k19 w53 hm54 hS hl
      · have q55 : x1.toInt < 10 := ti_nle c7
        have h56 : iv 0 9 x1 := iv_ltL (y := 10) h_x1 (iv_c (c := 10) (n := 10) (by decide)) q55 (by decide)
        refine lv_aload_n hx hb dX12_begins_8 rfl (lv_at hl 1 rfl) ?_
        refine tw_getr hx hb hW hown hK hS f_X12_51_11 hz_a0 hk_a0 (t := 30) (n := 10) rfl dX12_begins_9 (fun b57 k58 hz_b57 hk_b57 hn_b57 => ?_)
        have hn_b57 := hn_b57 (by decide)
        refine lv_iload_n hx hb dX12_begins_12 rfl (lv_at hl 0 rfl) ?_
        refine lv_aload_n hx hb dX12_begins_13 rfl (lv_at hl 1 rfl) ?_
        have k59 : R3 a0 25 = some sd := (Fr.kp (k := 25) g6 hk_a0 rfl).trans k_sd
        refine tw_getrk hx hb hW hown hK hS f_X12_45_11 hz_a0 hk_a0 (b := sd) k59 dX12_begins_14 ?_
        refine lv_bipush (v := 10) hx hb dX12_begins_17 (by decide) ?_
        refine lv_iload_n hx hb dX12_begins_19 rfl (lv_at hl 0 rfl) ?_
        refine tw_iadd (lo := 10) (hi := 19) hx hb (iv_c (c := 10) (n := 10) (by decide)) h56 ⟨by decide, by decide⟩ ⟨by decide, by decide⟩ dX12_begins_20 (fun x62 e61 h60 => ?_)
        have e61 : x62.toInt = 10 + x1.toInt := e61
        refine tw_iald hx hb hK hS hz_sd hk_sd (Or.inr (by decide)) hn_sd (lo := 0) (hi := 9999) h60 ⟨by decide, by decide⟩ (rg_sv ⟨by decide, by decide⟩) dX12_begins_21 (fun x65 k64 h63 => ?_)
        refine tw_iast hx hb hK hS hz_b57 hk_b57 (Or.inr (by decide)) hn_b57 h56 ⟨by decide, by decide⟩ h63 (rg_s30 ⟨by decide, by decide⟩) (jl := 0) (jh := 1999999) ⟨by decide, by decide⟩ rfl dX12_begins_22 (fun H locs M68 hS k66 f67 => ?_)
        refine lv_aload_n hx hb dX12_begins_23 rfl (lv_at hl 1 rfl) ?_
        refine tw_getr hx hb hW hown hK hS f_X12_57_11 hz_a0 hk_a0 (t := 14) (n := 10) rfl dX12_begins_24 (fun b69 k70 hz_b69 hk_b69 hn_b69 => ?_)
        have hn_b69 := hn_b69 (by decide)
        refine lv_iload_n hx hb dX12_begins_27 rfl (lv_at hl 0 rfl) ?_
        refine lv_iconst (v := 0) hx hb dX12_begins_28 (by decide) ?_
        refine tw_iast hx hb hK hS hz_b69 hk_b69 (Or.inl rfl) hn_b69 h56 ⟨by decide, by decide⟩ (iv_c (c := 0) (n := 0) (by decide)) (rg_s14 ⟨by decide, by decide⟩) (jl := 0) (jh := 1999999) ⟨by decide, by decide⟩ rfl dX12_begins_29 (fun H locs M73 hS k71 f72 => ?_)
        refine lv_aload_n hx hb dX12_begins_30 rfl (lv_at hl 1 rfl) ?_
        refine tw_getr hx hb hW hown hK hS f_X12_60_11 hz_a0 hk_a0 (t := 14) (n := 10) rfl dX12_begins_31 (fun b74 k75 hz_b74 hk_b74 hn_b74 => ?_)
        have hn_b74 := hn_b74 (by decide)
        refine lv_iload_n hx hb dX12_begins_34 rfl (lv_at hl 0 rfl) ?_
        refine lv_iconst (v := 0) hx hb dX12_begins_35 (by decide) ?_
        refine tw_iast hx hb hK hS hz_b74 hk_b74 (Or.inl rfl) hn_b74 h56 ⟨by decide, by decide⟩ (iv_c (c := 0) (n := 0) (by decide)) (rg_s14 ⟨by decide, by decide⟩) (jl := 0) (jh := 1999999) ⟨by decide, by decide⟩ rfl dX12_begins_36 (fun H locs M78 hS k76 f77 => ?_)
        refine tw_iinc (lv' := fun x81 => [(1, .int x81), (0, .ref (base + a0))]) (lo := 1) (hi := 10) hx hb dX12_begins_37 hl (k := 0) rfl h56 (by decide) ⟨by decide, by decide⟩ ⟨by decide, by decide⟩ (by decide) (fun _ => rfl) (fun x81 ls e80 h79 hl => ?_)
        refine lv_goto (tgt := 2) hx hb dX12_begins_40 (by decide) ?_
        have hm82 : 10 - x81.toInt < (n_2 : Int) := by
          have := (h_e4).1; have := (h_e4).2; have := (h56).1; have := (h56).2; have := (h60).1; have := (h60).2; have := (h79).1; have := (h79).2; omega
        exact ih_2 x81 M78 R3 J4 H locs _ (iv_mono h79 (by decide) (by decide)) hm82 hS hl
  have hm83 : 10 - (0 : Int32).toInt < (((11 : Nat) : Int) : Int) := by
    have := (h_e4).1; have := (h_e4).2; have : (0 : Int32).toInt = 0 := (by decide); omega
  exact W2_2 11 0 Ma Ra Ja s.heap [] _ (iv_mono (iv_c (c := 0) (n := 0) (by decide)) (by decide) (by decide)) hm83 hS hl
def Lt_X12_isSet : WL := []
def LRt_X12_isSet : WL := []
set_option maxRecDepth 100000 in
set_option maxHeartbeats 4000000 in
theorem t_X12_isSet (l : Launch) (D : va_G) (cy : Nat → ClassId) (tx : (Nat → Nat) × (Nat → Nat)) (base Z : Nat) (K N : Nat → Nat) (Ma : MT) (Ra : RT) (Ja : JT) (hTy : Ty Z K N Ma Ra) (a0 : Nat) (hz_a0 : a0 < Z) (hk_a0 : K a0 = 12) (a1 : Int32) (h_a1 : iv (-2147483648) 2147483647 a1) : Met l yX12_isSet [Cond.code yX12_isSet cX12_isSet 2 (some .boolean)] (md_rm 1 0 0) (va_Pc [.ref (base + a0), .int a1] (md_U D cy tx base Z K N Ma Ra Ja)) (mQi D cy tx base (fun r u => TP Z K N Lt_X12_isSet LRt_X12_isSet Ma Ra u ∧ (iv 0 1 r))) 0 0 (fun q => base ≤ q) := by
  refine tw_ofW (L := Lt_X12_isSet) (LR := LRt_X12_isSet) (by decide) (Nat.le_of_ble_eq_true rfl) hTy ?_
  intro p e s m args below meth c Q ls hx hb hr hlocks hown hml hW hK hT hS hQ hl
  have hl : lv_has ls 2 [(0, .ref (base + a0)), (1, .int a1)] := hl
  refine lv_iload_n hx hb dX12_isSet_0 rfl (lv_at hl 1 rfl) ?_
  refine lv_if_lt (tgt := 20) hx hb dX12_isSet_1 (by decide) (fun c1 => ?_) (fun c1 => ?_)
  · have q2 : a1.toInt < 0 := ti_lt c1
    have h3 : iv (-2147483648) (-1) a1 := iv_ltL (y := 0) h_a1 (iv_c (c := 0) (n := 0) (by decide)) q2 (by decide)
    refine lv_iconst (v := 0) hx hb dX12_isSet_20 (by decide) ?_
    exact tw_endz hx hb hr hlocks hK hT hS hQ rfl ((iv_mono (iv_c (c := 0) (n := 0) (by decide)) (by decide) (by decide))) dX12_isSet_21
  · have q4 : 0 ≤ a1.toInt := ti_nlt c1
    have h5 : iv 0 2147483647 a1 := iv_geL (y := 0) h_a1 (iv_c (c := 0) (n := 0) (by decide)) q4 (by decide)
    refine lv_iload_n hx hb dX12_isSet_4 rfl (lv_at hl 1 rfl) ?_
    refine lv_iconst (v := 1) hx hb dX12_isSet_5 (by decide) ?_
    refine lv_aload_n hx hb dX12_isSet_6 rfl (lv_at hl 0 rfl) ?_
    refine tw_getr hx hb hW hown hK hS f_X12_45_11 hz_a0 hk_a0 (t := 23) (n := 226) rfl dX12_isSet_7 (fun b6 k7 hz_b6 hk_b6 hn_b6 => ?_)
    have hn_b6 := hn_b6 (by decide)
    refine lv_iconst (v := 0) hx hb dX12_isSet_10 (by decide) ?_
    refine tw_iald hx hb hK hS hz_b6 hk_b6 (Or.inr (by decide)) hn_b6 (lo := 0) (hi := 10) (iv_c (c := 0) (n := 0) (by decide)) ⟨by decide, by decide⟩ (rg_c (k0 := 0) rfl rfl rfl) dX12_isSet_11 (fun x10 k9 h8 => ?_)
    refine lv_ishl hx hb dX12_isSet_12 ?_
    refine tw_top (fun x12 => ?_)
    have h11 := iv_any x12
    refine lv_icmp_ge (tgt := 20) hx hb dX12_isSet_13 (by decide) (fun c13 => ?_) (fun c13 => ?_)
    · have q14 : x12.toInt ≤ a1.toInt := ti_le c13
      refine lv_iconst (v := 0) hx hb dX12_isSet_20 (by decide) ?_
      exact tw_endz hx hb hr hlocks hK hT hS hQ rfl ((iv_mono (iv_c (c := 0) (n := 0) (by decide)) (by decide) (by decide))) dX12_isSet_21
    · have q15 : a1.toInt < x12.toInt := ti_nle c13
      have h16 : iv 0 2147483646 a1 := iv_ltL (y := x12) h5 h11 q15 (by decide)
      have h17 : iv 1 2147483647 x12 := iv_gtL (y := a1) h11 h5 q15 (by decide)
      refine lv_iconst (v := 1) hx hb dX12_isSet_16 (by decide) ?_
      refine lv_goto (tgt := 21) hx hb dX12_isSet_17 (by decide) ?_
      exact tw_endz hx hb hr hlocks hK hT hS hQ rfl ((iv_mono (iv_c (c := 1) (n := 1) (by decide)) (by decide) (by decide))) dX12_isSet_21
def Lt_X12_grows : WL := [(14, 0, 2000000), (30, 0, 2000000)]
def LRt_X12_grows : WL := []
set_option maxRecDepth 100000 in
set_option maxHeartbeats 4000000 in
theorem t_X12_grows (l : Launch) (D : va_G) (cy : Nat → ClassId) (tx : (Nat → Nat) × (Nat → Nat)) (base Z : Nat) (K N : Nat → Nat) (Ma : MT) (Ra : RT) (Ja : JT) (hTy : Ty Z K N Ma Ra) (a0 : Nat) (hz_a0 : a0 < Z) (hk_a0 : K a0 = 12) (a1 : Int32) (h_a1 : iv 0 9 a1) (a2 : Int32) (h_a2 : iv 0 1 a2) : Met l yX12_grows [Cond.code yX12_grows cX12_grows 5 none] (md_rm 1 0 0) (va_Pc [.ref (base + a0), .int a1, .int a2] (md_U D cy tx base Z K N Ma Ra Ja)) (mQv D cy tx base (fun u => TP Z K N Lt_X12_grows LRt_X12_grows Ma Ra u ∧ (True))) 0 0 (fun q => base ≤ q) := by
  refine tw_ofW (L := Lt_X12_grows) (LR := LRt_X12_grows) (by decide) (Nat.le_of_ble_eq_true rfl) hTy ?_
  intro p e s m args below meth c Q ls hx hb hr hlocks hown hml hW hK hT hS hQ hl
  have hl : lv_has ls 5 [(0, .ref (base + a0)), (1, .int a1), (2, .int a2)] := hl
  refine lv_aload_n hx hb dX12_grows_0 rfl (lv_at hl 0 rfl) ?_
  refine tw_getr hx hb hW hown hK hS f_X12_51_11 hz_a0 hk_a0 (t := 30) (n := 10) rfl dX12_grows_1 (fun b1 k2 hz_b1 hk_b1 hn_b1 => ?_)
  have hn_b1 := hn_b1 (by decide)
  refine lv_iload_n hx hb dX12_grows_4 rfl (lv_at hl 1 rfl) ?_
  refine tw_iald hx hb hK hS hz_b1 hk_b1 (Or.inr (by decide)) hn_b1 (lo := 0) (hi := 9999) h_a1 ⟨by decide, by decide⟩ rg_u30 dX12_grows_5 (fun x5 k4 h3 => ?_)
  refine lv_istore_n (lv' := [(3, .int x5), (0, .ref (base + a0)), (1, .int a1), (2, .int a2)]) hx hb dX12_grows_6 rfl hl (by decide) rfl (fun ls hl => ?_)
  refine lv_iload_n hx hb dX12_grows_7 rfl (lv_at hl 3 rfl) ?_
  refine lv_if_eq (tgt := 51) hx hb dX12_grows_8 (by decide) (fun c6 => ?_) (fun c6 => ?_)
  · have q7 : a2.toInt = 0 := ti_eq c6
    have h8 : iv 0 0 a2 := ⟨by have := (h_a2).1; have := ((iv_c (c := 0) (n := 0) (by decide))).1; omega, by have := (h_a2).2; have := ((iv_c (c := 0) (n := 0) (by decide))).2; omega⟩
    refine lv_aload_n hx hb dX12_grows_51 rfl (lv_at hl 1 rfl) ?_
    refine tw_getr hx hb hW hown hK hS f_X12_60_11 hz_a0 hk_a0 (t := 14) (n := 10) rfl dX12_grows_52 (fun b9 k10 hz_b9 hk_b9 hn_b9 => ?_)
    have hn_b9 := hn_b9 (by decide)
    refine lv_iload_n hx hb dX12_grows_55 rfl (lv_at hl 2 rfl) ?_
    refine lv_dup2_11 hx hb dX12_grows_56 rfl rfl ?_
    refine tw_iald hx hb hK hS hz_b9 hk_b9 (Or.inl rfl) hn_b9 (lo := (-2147483648)) (hi := 2147483647) h_a1 ⟨by decide, by decide⟩ rg_u14 dX12_grows_57 (fun x13 k12 h11 => ?_)
    refine lv_iconst (v := 1) hx hb dX12_grows_58 (by decide) ?_
    refine lv_iadd hx hb dX12_grows_59 ?_
    refine tw_top (fun x15 => ?_)
    have h14 := iv_any x15
    refine tw_iast hx hb hK hS hz_b9 hk_b9 (Or.inl rfl) hn_b9 h_a1 ⟨by decide, by decide⟩ h14 (rg_s14 ⟨by decide, by decide⟩) (jl := 0) (jh := 1999999) ⟨by decide, by decide⟩ rfl dX12_grows_60 (fun H locs M18 hS k16 f17 => ?_)
    refine lv_aload_n hx hb dX12_grows_61 rfl (lv_at hl 1 rfl) ?_
    refine tw_getr hx hb hW hown hK hS f_X12_45_11 hz_a0 hk_a0 (t := 23) (n := 226) rfl dX12_grows_62 (fun b19 k20 hz_b19 hk_b19 hn_b19 => ?_)
    have hn_b19 := hn_b19 (by decide)
    refine lv_bipush (v := 7) hx hb dX12_grows_65 (by decide) ?_
    refine tw_iald hx hb hK hS hz_b19 hk_b19 (Or.inr (by decide)) hn_b19 (lo := (-2147483648)) (hi := 2147483647) (iv_c (c := 7) (n := 7) (by decide)) ⟨by decide, by decide⟩ (rg_c (k0 := 7) rfl rfl rfl) dX12_grows_67 (fun x23 k22 h21 => ?_)
    refine lv_iconst (v := 1) hx hb dX12_grows_68 (by decide) ?_
    refine lv_icmp_ne (tgt := 78) hx hb dX12_grows_69 (by decide) (fun c24 => ?_) (fun c24 => ?_)
    · have q25 : ¬ x23.toInt = 1 := ti_ne c24
      refine lv_iload_n hx hb dX12_grows_78 rfl (lv_at hl 0 rfl) ?_
      refine lv_iconst (v := 1) hx hb dX12_grows_79 (by decide) ?_
      refine tw_iadd (lo := 1) (hi := 10000) hx hb h3 (iv_c (c := 1) (n := 1) (by decide)) ⟨by decide, by decide⟩ ⟨by decide, by decide⟩ dX12_grows_80 (fun x28 e27 h26 => ?_)
      have e27 : x28.toInt = x5.toInt + 1 := e27
      refine lv_istore (lv' := [(4, .int x28), (3, .int x5), (0, .ref (base + a0)), (1, .int a1), (2, .int a2)]) hx hb dX12_grows_81 hl (by decide) rfl (fun ls hl => ?_)
      refine lv_aload_n hx hb dX12_grows_83 rfl (lv_at hl 2 rfl) ?_
      refine tw_getrk hx hb hW hown hK hS f_X12_51_11 hz_a0 hk_a0 (b := b1) k2 dX12_grows_84 ?_
      refine lv_iload_n hx hb dX12_grows_87 rfl (lv_at hl 3 rfl) ?_
      refine lv_iload hx hb dX12_grows_88 (lv_at hl 0 rfl) ?_
      refine lv_aload_n hx hb dX12_grows_90 rfl (lv_at hl 2 rfl) ?_
      refine tw_getrk hx hb hW hown hK hS f_X12_45_11 hz_a0 hk_a0 (b := b19) k20 dX12_grows_91 ?_
      refine lv_bipush (v := 8) hx hb dX12_grows_94 (by decide) ?_
      refine tw_iald hx hb hK hS hz_b19 hk_b19 (Or.inr (by decide)) hn_b19 (lo := 0) (hi := 9999) (iv_c (c := 8) (n := 8) (by decide)) ⟨by decide, by decide⟩ (rg_c (k0 := 8) rfl rfl rfl) dX12_grows_96 (fun x31 k30 h29 => ?_)
      refine lv_icmp_le (tgt := 110) hx hb dX12_grows_97 (by decide) (fun c32 => ?_) (fun c32 => ?_)
      · have q33 : x28.toInt ≤ x31.toInt := ti_le c32
        have h34 : iv 1 9999 x28 := iv_leL (y := x31) h26 h29 q33 (by decide)
        have h35 : iv 1 9999 x31 := iv_geL (y := x28) h29 h26 q33 (by decide)
        refine lv_iload hx hb dX12_grows_110 (lv_at hl 0 rfl) ?_
        refine tw_iast hx hb hK hS hz_b1 hk_b1 (Or.inr (by decide)) hn_b1 h_a1 ⟨by decide, by decide⟩ h34 (rg_s30 ⟨by decide, by decide⟩) (jl := 0) (jh := 1999999) ⟨by decide, by decide⟩ rfl dX12_grows_112 (fun H locs M38 hS k36 f37 => ?_)
        exact tw_endv hx hb hr hlocks hK hT hS hQ (trivial) dX12_grows_113
      · have q39 : x31.toInt < x28.toInt := ti_nle c32
        refine lv_aload_n hx hb dX12_grows_100 rfl (lv_at hl 2 rfl) ?_
        refine tw_getrk hx hb hW hown hK hS f_X12_45_11 hz_a0 hk_a0 (b := b19) k20 dX12_grows_101 ?_
        refine lv_bipush (v := 8) hx hb dX12_grows_104 (by decide) ?_
        refine tw_ialk hx hb hK hS hz_b19 hk_b19 (Or.inr (by decide)) hn_b19 (iv_c (c := 8) (n := 8) (by decide)) ⟨by decide, by decide⟩ (v := x31) k30 dX12_grows_106 ?_
        refine lv_goto (tgt := 112) hx hb dX12_grows_107 (by decide) ?_
        refine tw_iast hx hb hK hS hz_b1 hk_b1 (Or.inr (by decide)) hn_b1 h_a1 ⟨by decide, by decide⟩ h29 (rg_s30 ⟨by decide, by decide⟩) (jl := 0) (jh := 1999999) ⟨by decide, by decide⟩ rfl dX12_grows_112 (fun H locs M42 hS k40 f41 => ?_)
        exact tw_endv hx hb hr hlocks hK hT hS hQ (trivial) dX12_grows_113
    · have q43 : x23.toInt = 1 := ti_eq c24
      have h44 : iv 1 1 x23 := ⟨by have := (h21).1; have := ((iv_c (c := 1) (n := 1) (by decide))).1; omega, by have := (h21).2; have := ((iv_c (c := 1) (n := 1) (by decide))).2; omega⟩
      refine lv_iconst (v := 2) hx hb dX12_grows_72 (by decide) ?_
      refine lv_iload_n hx hb dX12_grows_73 rfl (lv_at hl 0 rfl) ?_
      refine tw_icmul (k := 2) (lo := 0) (hi := 19998) hx hb (by decide) h3 (by decide) ⟨by decide, by decide⟩ ⟨by decide, by decide⟩ dX12_grows_74 (fun x47 e46 h45 => ?_)
      refine lv_goto (tgt := 81) hx hb dX12_grows_75 (by decide) ?_
      refine lv_istore (lv' := [(4, .int x47), (3, .int x5), (0, .ref (base + a0)), (1, .int a1), (2, .int a2)]) hx hb dX12_grows_81 hl (by decide) rfl (fun ls hl => ?_)
      refine lv_aload_n hx hb dX12_grows_83 rfl (lv_at hl 2 rfl) ?_
      refine tw_getrk hx hb hW hown hK hS f_X12_51_11 hz_a0 hk_a0 (b := b1) k2 dX12_grows_84 ?_
      refine lv_iload_n hx hb dX12_grows_87 rfl (lv_at hl 3 rfl) ?_
      refine lv_iload hx hb dX12_grows_88 (lv_at hl 0 rfl) ?_
      refine lv_aload_n hx hb dX12_grows_90 rfl (lv_at hl 2 rfl) ?_
      refine tw_getrk hx hb hW hown hK hS f_X12_45_11 hz_a0 hk_a0 (b := b19) k20 dX12_grows_91 ?_
      refine lv_bipush (v := 8) hx hb dX12_grows_94 (by decide) ?_
      refine tw_iald hx hb hK hS hz_b19 hk_b19 (Or.inr (by decide)) hn_b19 (lo := 0) (hi := 9999) (iv_c (c := 8) (n := 8) (by decide)) ⟨by decide, by decide⟩ (rg_c (k0 := 8) rfl rfl rfl) dX12_grows_96 (fun x50 k49 h48 => ?_)
      refine lv_icmp_le (tgt := 110) hx hb dX12_grows_97 (by decide) (fun c51 => ?_) (fun c51 => ?_)
      · have q52 : x47.toInt ≤ x50.toInt := ti_le c51
        have h53 : iv 0 9999 x47 := iv_leL (y := x50) h45 h48 q52 (by decide)
        refine lv_iload hx hb dX12_grows_110 (lv_at hl 0 rfl) ?_
        refine tw_iast hx hb hK hS hz_b1 hk_b1 (Or.inr (by decide)) hn_b1 h_a1 ⟨by decide, by decide⟩ h53 (rg_s30 ⟨by decide, by decide⟩) (jl := 0) (jh := 1999999) ⟨by decide, by decide⟩ rfl dX12_grows_112 (fun H locs M56 hS k54 f55 => ?_)
        exact tw_endv hx hb hr hlocks hK hT hS hQ (trivial) dX12_grows_113
      · have q57 : x50.toInt < x47.toInt := ti_nle c51
        have h58 : iv 1 19998 x47 := iv_gtL (y := x50) h45 h48 q57 (by decide)
        refine lv_aload_n hx hb dX12_grows_100 rfl (lv_at hl 2 rfl) ?_
        refine tw_getrk hx hb hW hown hK hS f_X12_45_11 hz_a0 hk_a0 (b := b19) k20 dX12_grows_101 ?_
        refine lv_bipush (v := 8) hx hb dX12_grows_104 (by decide) ?_
        refine tw_ialk hx hb hK hS hz_b19 hk_b19 (Or.inr (by decide)) hn_b19 (iv_c (c := 8) (n := 8) (by decide)) ⟨by decide, by decide⟩ (v := x50) k49 dX12_grows_106 ?_
        refine lv_goto (tgt := 112) hx hb dX12_grows_107 (by decide) ?_
        refine tw_iast hx hb hK hS hz_b1 hk_b1 (Or.inr (by decide)) hn_b1 h_a1 ⟨by decide, by decide⟩ h48 (rg_s30 ⟨by decide, by decide⟩) (jl := 0) (jh := 1999999) ⟨by decide, by decide⟩ rfl dX12_grows_112 (fun H locs M61 hS k59 f60 => ?_)
        exact tw_endv hx hb hr hlocks hK hT hS hQ (trivial) dX12_grows_113
  · have q62 : ¬ a2.toInt = 0 := ti_ne c6
    have h63 : iv 1 1 a2 := ⟨by have := (h_a2).1; have := ((iv_c (c := 0) (n := 0) (by decide))).1; have := ((iv_c (c := 0) (n := 0) (by decide))).2; omega, by have := (h_a2).2; have := ((iv_c (c := 0) (n := 0) (by decide))).1; have := ((iv_c (c := 0) (n := 0) (by decide))).2; omega⟩
    refine lv_aload_n hx hb dX12_grows_11 rfl (lv_at hl 1 rfl) ?_
    refine tw_getr hx hb hW hown hK hS f_X12_57_11 hz_a0 hk_a0 (t := 14) (n := 10) rfl dX12_grows_12 (fun b64 k65 hz_b64 hk_b64 hn_b64 => ?_)
    have hn_b64 := hn_b64 (by decide)
    refine lv_iload_n hx hb dX12_grows_15 rfl (lv_at hl 2 rfl) ?_
    refine lv_dup2_11 hx hb dX12_grows_16 rfl rfl ?_
    refine tw_iald hx hb hK hS hz_b64 hk_b64 (Or.inl rfl) hn_b64 (lo := (-2147483648)) (hi := 2147483647) h_a1 ⟨by decide, by decide⟩ rg_u14 dX12_grows_17 (fun x68 k67 h66 => ?_)
    refine lv_iconst (v := 1) hx hb dX12_grows_18 (by decide) ?_
    refine lv_iadd hx hb dX12_grows_19 ?_
    refine tw_top (fun x70 => ?_)
    have h69 := iv_any x70
    refine tw_iast hx hb hK hS hz_b64 hk_b64 (Or.inl rfl) hn_b64 h_a1 ⟨by decide, by decide⟩ h69 (rg_s14 ⟨by decide, by decide⟩) (jl := 0) (jh := 1999999) ⟨by decide, by decide⟩ rfl dX12_grows_20 (fun H locs M73 hS k71 f72 => ?_)
    refine lv_aload_n hx hb dX12_grows_21 rfl (lv_at hl 1 rfl) ?_
    refine tw_getrk hx hb hW hown hK hS f_X12_51_11 hz_a0 hk_a0 (b := b1) k2 dX12_grows_22 ?_
    refine lv_iload_n hx hb dX12_grows_25 rfl (lv_at hl 2 rfl) ?_
    refine lv_aload_n hx hb dX12_grows_26 rfl (lv_at hl 1 rfl) ?_
    refine tw_getr hx hb hW hown hK hS f_X12_45_11 hz_a0 hk_a0 (t := 23) (n := 226) rfl dX12_grows_27 (fun b74 k75 hz_b74 hk_b74 hn_b74 => ?_)
    have hn_b74 := hn_b74 (by decide)
    refine lv_bipush (v := 7) hx hb dX12_grows_30 (by decide) ?_
    refine tw_iald hx hb hK hS hz_b74 hk_b74 (Or.inr (by decide)) hn_b74 (lo := (-2147483648)) (hi := 2147483647) (iv_c (c := 7) (n := 7) (by decide)) ⟨by decide, by decide⟩ (rg_c (k0 := 7) rfl rfl rfl) dX12_grows_32 (fun x78 k77 h76 => ?_)
    refine lv_iconst (v := 2) hx hb dX12_grows_33 (by decide) ?_
    refine lv_icmp_ne (tgt := 48) hx hb dX12_grows_34 (by decide) (fun c79 => ?_) (fun c79 => ?_)
    · have q80 : ¬ x78.toInt = 2 := ti_ne c79
      refine lv_iconst (v := 1) hx hb dX12_grows_48 (by decide) ?_
      refine tw_iast hx hb hK hS hz_b1 hk_b1 (Or.inr (by decide)) hn_b1 h_a1 ⟨by decide, by decide⟩ (iv_c (c := 1) (n := 1) (by decide)) (rg_s30 ⟨by decide, by decide⟩) (jl := 0) (jh := 1999999) ⟨by decide, by decide⟩ rfl dX12_grows_49 (fun H locs M83 hS k81 f82 => ?_)
      exact tw_endv hx hb hr hlocks hK hT hS hQ (trivial) dX12_grows_50
    · have q84 : x78.toInt = 2 := ti_eq c79
      have h85 : iv 2 2 x78 := ⟨by have := (h76).1; have := ((iv_c (c := 2) (n := 2) (by decide))).1; omega, by have := (h76).2; have := ((iv_c (c := 2) (n := 2) (by decide))).2; omega⟩
      refine lv_iload_n hx hb dX12_grows_37 rfl (lv_at hl 0 rfl) ?_
      refine lv_iconst (v := 3) hx hb dX12_grows_38 (by decide) ?_
      refine lv_icmp_le (tgt := 48) hx hb dX12_grows_39 (by decide) (fun c86 => ?_) (fun c86 => ?_)
      · have q87 : x5.toInt ≤ 3 := ti_le c86
        have h88 : iv 0 3 x5 := iv_leL (y := 3) h3 (iv_c (c := 3) (n := 3) (by decide)) q87 (by decide)
        refine lv_iconst (v := 1) hx hb dX12_grows_48 (by decide) ?_
        refine tw_iast hx hb hK hS hz_b1 hk_b1 (Or.inr (by decide)) hn_b1 h_a1 ⟨by decide, by decide⟩ (iv_c (c := 1) (n := 1) (by decide)) (rg_s30 ⟨by decide, by decide⟩) (jl := 0) (jh := 1999999) ⟨by decide, by decide⟩ rfl dX12_grows_49 (fun H locs M91 hS k89 f90 => ?_)
        exact tw_endv hx hb hr hlocks hK hT hS hQ (trivial) dX12_grows_50
      · have q92 : 3 < x5.toInt := ti_nle c86
        have h93 : iv 4 9999 x5 := iv_gtL (y := 3) h3 (iv_c (c := 3) (n := 3) (by decide)) q92 (by decide)
        refine lv_iload_n hx hb dX12_grows_42 rfl (lv_at hl 0 rfl) ?_
        refine lv_iconst (v := 2) hx hb dX12_grows_43 (by decide) ?_
        refine tw_idiv (lo := 0) (hi := 4999) hx hb h93 (iv_c (c := 2) (n := 2) (by decide)) ⟨by decide, by decide⟩ ⟨by decide, by decide⟩ dX12_grows_44 (fun x96 e95 h94 => ?_)
        have e95 : x96.toInt = x5.toInt / 2 := e95
        refine lv_goto (tgt := 49) hx hb dX12_grows_45 (by decide) ?_
        refine tw_iast hx hb hK hS hz_b1 hk_b1 (Or.inr (by decide)) hn_b1 h_a1 ⟨by decide, by decide⟩ h94 (rg_s30 ⟨by decide, by decide⟩) (jl := 0) (jh := 1999999) ⟨by decide, by decide⟩ rfl dX12_grows_49 (fun H locs M99 hS k97 f98 => ?_)
        exact tw_endv hx hb hr hlocks hK hT hS hQ (trivial) dX12_grows_50
def Lt_X12_voicesOf : WL := []
def LRt_X12_voicesOf : WL := []
set_option maxRecDepth 100000 in
set_option maxHeartbeats 4000000 in
theorem t_X12_voicesOf (l : Launch) (D : va_G) (cy : Nat → ClassId) (tx : (Nat → Nat) × (Nat → Nat)) (base Z : Nat) (K N : Nat → Nat) (Ma : MT) (Ra : RT) (Ja : JT) (hTy : Ty Z K N Ma Ra) (a0 : Nat) (hz_a0 : a0 < Z) (hk_a0 : K a0 = 12) (a1 : Int32) (h_a1 : iv (-2147483648) 2147483647 a1) (sd : Nat) (k_sd : Ra a0 25 = some sd) (e0 : Int32) (k_e0 : Ma sd (0 : Int32).toNatClampNeg = e0) (h_e0 : iv 0 10 e0) : Met l yX12_voicesOf [Cond.code yX12_voicesOf cX12_voicesOf 4 (some .int)] (md_rm 2 0 0) (va_Pc [.ref (base + a0), .int a1] (md_U D cy tx base Z K N Ma Ra Ja)) (mQi D cy tx base (fun r u => TP Z K N Lt_X12_voicesOf LRt_X12_voicesOf Ma Ra u ∧ (iv 0 99990 r ∧ (r.toInt ≤ 9999 * e0.toInt)))) 0 0 (fun q => base ≤ q) := by
  refine tw_ofW (L := Lt_X12_voicesOf) (LR := LRt_X12_voicesOf) (by decide) (Nat.le_of_ble_eq_true rfl) hTy ?_
  intro p e s m args below meth c Q ls hx hb hr hlocks hown hml hW hK hT hS hQ hl
  have hl : lv_has ls 4 [(0, .ref (base + a0)), (1, .int a1)] := hl
  obtain ⟨hz_sd, hk_sd, hn_sd⟩ := hTy.refn hz_a0 hk_a0 (show rtR 12 25 = (23, 226, 0) from rfl) k_sd
  have hn_sd := hn_sd (by decide)
  refine lv_iconst (v := 0) hx hb dX12_voicesOf_0 (by decide) ?_
  refine lv_istore_n (lv' := [(2, .int 0), (0, .ref (base + a0)), (1, .int a1)]) hx hb dX12_voicesOf_1 rfl hl (by decide) rfl (fun ls hl => ?_)
  refine lv_iconst (v := 0) hx hb dX12_voicesOf_2 (by decide) ?_
  refine lv_istore_n (lv' := [(3, .int 0), (2, .int 0), (0, .ref (base + a0)), (1, .int a1)]) hx hb dX12_voicesOf_3 rfl hl (by decide) rfl (fun ls hl => ?_)
  have W4_3 : ∀ (n_3 : Nat) (x1 : Int32) (x2 : Int32) (M3 : MT) (R4 : RT) (J5 : JT) (H : Heap) (locs : List Loc) (ls : Array Slot) (h_x1 : iv 0 99990 x1) (h_x2 : iv 0 10 x2) (w0_3 : x2.toInt ≤ e0.toInt) (w1_3 : 0 ≤ x1.toInt ∧ x1.toInt ≤ 9999 * x2.toInt) (hm_3 : 10 - x2.toInt < (n_3 : Int)) (hS : SB D cy base Z K N Lt_X12_voicesOf LRt_X12_voicesOf Ma Ra M3 R4 J5 s H locs) (hl : lv_has ls 4 [(2, .int x1), (3, .int x2), (0, .ref (base + a0)), (1, .int a1)]), W p l e (md_rm 2 0 0) s m args below meth c H locs 0 0 Q (F0 m 4 ls []) := by
    intro n_3
    induction n_3 with
    | zero =>
      intro x1 x2 M3 R4 J5 H locs ls h_x1 h_x2 w0_3 w1_3 hm_3 hS hl
      exfalso
      have := (h_a1).1; have := (h_a1).2; have := (h_e0).1; have := (h_e0).2; have := (h_x1).1; have := (h_x1).2; have := (h_x2).1; have := (h_x2).2; omega
    | succ n_3 ih_3 =>
      intro x1 x2 M3 R4 J5 H locs ls h_x1 h_x2 w0_3 w1_3 hm_3 hS hl
      have f6 := hS.2.2.1
      have g7 := hS.2.2.2
      refine lv_iload_n hx hb dX12_voicesOf_4 rfl (lv_at hl 1 rfl) ?_
      refine lv_aload_n hx hb dX12_voicesOf_5 rfl (lv_at hl 2 rfl) ?_
      have k8 : R4 a0 25 = some sd := (Fr.kp (k := 25) g7 hk_a0 rfl).trans k_sd
      refine tw_getrk hx hb hW hown hK hS f_X12_45_11 hz_a0 hk_a0 (b := sd) k8 dX12_voicesOf_6 ?_
      refine lv_iconst (v := 0) hx hb dX12_voicesOf_9 (by decide) ?_
      have k9 : M3 sd (0 : Int32).toNatClampNeg = e0 := (Fr.kp (k := (0 : Int32).toNatClampNeg) f6 hk_sd rfl).trans k_e0
      refine tw_ialk hx hb hK hS hz_sd hk_sd (Or.inr (by decide)) hn_sd (iv_c (c := 0) (n := 0) (by decide)) ⟨by decide, by decide⟩ (v := e0) k9 dX12_voicesOf_10 ?_
      refine lv_icmp_ge (tgt := 41) hx hb dX12_voicesOf_11 (by decide) (fun c10 => ?_) (fun c10 => ?_)
      · have q11 : e0.toInt ≤ x2.toInt := ti_le c10
        refine lv_iload_n hx hb dX12_voicesOf_41 rfl (lv_at hl 0 rfl) ?_
        have q12 : x1.toInt ≤ 9999 * e0.toInt := by
          have := (h_a1).1; have := (h_a1).2; have := (h_e0).1; have := (h_e0).2; have := (h_x1).1; have := (h_x1).2; have := (h_x2).1; have := (h_x2).2; omega
        exact tw_endi hx hb hr hlocks hK hT hS hQ (⟨h_x1, q12⟩) dX12_voicesOf_42
      · have q13 : x2.toInt < e0.toInt := ti_nle c10
        have h14 : iv 0 9 x2 := iv_ltL (y := e0) h_x2 h_e0 q13 (by decide)
        have h15 : iv 1 10 e0 := iv_gtL (y := x2) h_e0 h_x2 q13 (by decide)
        refine lv_iload_n hx hb dX12_voicesOf_14 rfl (lv_at hl 0 rfl) ?_
        refine lv_iload_n hx hb dX12_voicesOf_15 rfl (lv_at hl 3 rfl) ?_
        refine lv_iload_n hx hb dX12_voicesOf_16 rfl (lv_at hl 1 rfl) ?_
        refine tw_goi hS (md_runS (As := [.int a1, .int x2]) (rest := [.int x1]) hx hb hml hown hW hK hT hS.1 (t_X12_isOf l D cy tx base Z K N M3 R4 J5 hS.2.1 a1 h_a1 x2 h14) s_X12_322 ⟨rfl, rfl, ⟨Nat.le_of_ble_eq_true rfl, Nat.le_of_ble_eq_true rfl⟩, ⟨Nat.le_of_ble_eq_true rfl, Nat.le_of_ble_eq_true rfl⟩⟩ rfl hl.1 rfl (Nat.le_of_ble_eq_true rfl) dX12_voicesOf_17) rfl rfl (fun x22 H locs M19 R20 J18 hS f16 g17 E21 => ?_)
        have eM19 := Fr.nil f16 rfl
        subst eM19
        have eR20 := Fr.nil g17 rfl
        subst eR20
        have h_x22 := E21
        clear E21
        refine lv_if_eq (tgt := 32) hx hb dX12_voicesOf_20 (by decide) (fun c23 => ?_) (fun c23 => ?_)
        · have q24 : x22.toInt = 0 := ti_eq c23
          have h25 : iv 0 0 x22 := ⟨by have := (h_x22).1; have := ((iv_c (c := 0) (n := 0) (by decide))).1; omega, by have := (h_x22).2; have := ((iv_c (c := 0) (n := 0) (by decide))).2; omega⟩
          refine lv_iconst (v := 0) hx hb dX12_voicesOf_32 (by decide) ?_
          refine tw_iadd (lo := 0) (hi := 99990) hx hb h_x1 (iv_c (c := 0) (n := 0) (by decide)) ⟨by decide, by decide⟩ ⟨by decide, by decide⟩ dX12_voicesOf_33 (fun x28 e27 h26 => ?_)
          have e27 : x28.toInt = x1.toInt + 0 := e27
          refine lv_istore_n (lv' := [(2, .int x28), (3, .int x2), (0, .ref (base + a0)), (1, .int a1)]) hx hb dX12_voicesOf_34 rfl hl (by decide) rfl (fun ls hl => ?_)
          refine tw_iinc (lv' := fun x31 => [(3, .int x31), (2, .int x28), (0, .ref (base + a0)), (1, .int a1)]) (lo := 1) (hi := 10) hx hb dX12_voicesOf_35 hl (k := 1) rfl h14 (by decide) ⟨by decide, by decide⟩ ⟨by decide, by decide⟩ (by decide) (fun _ => rfl) (fun x31 ls e30 h29 hl => ?_)
          refine lv_goto (tgt := 4) hx hb dX12_voicesOf_38 (by decide) ?_
          have w32 : x31.toInt ≤ e0.toInt := by
            have := (h_a1).1; have := (h_a1).2; have := (h15).1; have := (h15).2; have := (h_x1).1; have := (h_x1).2; have := (h14).1; have := (h14).2; have := (h26).1; have := (h26).2; have := (h29).1; have := (h29).2; omega
          have w33 : 0 ≤ x28.toInt ∧ x28.toInt ≤ 9999 * x31.toInt := by
            have := (h_a1).1; have := (h_a1).2; have := (h15).1; have := (h15).2; have := (h_x1).1; have := (h_x1).2; have := (h14).1; have := (h14).2; have := (h26).1; have := (h26).2; have := (h29).1; have := (h29).2; omega
          have hm34 : 10 - x31.toInt < (n_3 : Int) := by
            have := (h_a1).1; have := (h_a1).2; have := (h15).1; have := (h15).2; have := (h_x1).1; have := (h_x1).2; have := (h14).1; have := (h14).2; have := (h26).1; have := (h26).2; have := (h29).1; have := (h29).2; omega
          exact ih_3 x28 x31 M3 R4 J18 H locs _ h26 (iv_mono h29 (by decide) (by decide)) w32 w33 hm34 hS (lv_sub hl [1, 0, 2, 3] rfl)
        · have q35 : ¬ x22.toInt = 0 := ti_ne c23
          have h36 : iv 1 1 x22 := ⟨by have := (h_x22).1; have := ((iv_c (c := 0) (n := 0) (by decide))).1; have := ((iv_c (c := 0) (n := 0) (by decide))).2; omega, by have := (h_x22).2; have := ((iv_c (c := 0) (n := 0) (by decide))).1; have := ((iv_c (c := 0) (n := 0) (by decide))).2; omega⟩
          refine lv_aload_n hx hb dX12_voicesOf_23 rfl (lv_at hl 2 rfl) ?_
          refine tw_getr hx hb hW hown hK hS f_X12_51_11 hz_a0 hk_a0 (t := 30) (n := 10) rfl dX12_voicesOf_24 (fun b37 k38 hz_b37 hk_b37 hn_b37 => ?_)
          have hn_b37 := hn_b37 (by decide)
          refine lv_iload_n hx hb dX12_voicesOf_27 rfl (lv_at hl 1 rfl) ?_
          refine tw_iald hx hb hK hS hz_b37 hk_b37 (Or.inr (by decide)) hn_b37 (lo := 0) (hi := 9999) h14 ⟨by decide, by decide⟩ rg_u30 dX12_voicesOf_28 (fun x41 k40 h39 => ?_)
          refine lv_goto (tgt := 33) hx hb dX12_voicesOf_29 (by decide) ?_
          refine tw_iadd (lo := 0) (hi := 109989) hx hb h_x1 h39 ⟨by decide, by decide⟩ ⟨by decide, by decide⟩ dX12_voicesOf_33 (fun x44 e43 h42 => ?_)
          refine lv_istore_n (lv' := [(2, .int x44), (3, .int x2), (0, .ref (base + a0)), (1, .int a1)]) hx hb dX12_voicesOf_34 rfl hl (by decide) rfl (fun ls hl => ?_)
          refine tw_iinc (lv' := fun x47 => [(3, .int x47), (2, .int x44), (0, .ref (base + a0)), (1, .int a1)]) (lo := 1) (hi := 10) hx hb dX12_voicesOf_35 hl (k := 1) rfl h14 (by decide) ⟨by decide, by decide⟩ ⟨by decide, by decide⟩ (by decide) (fun _ => rfl) (fun x47 ls e46 h45 hl => ?_)
          refine lv_goto (tgt := 4) hx hb dX12_voicesOf_38 (by decide) ?_
          have h48 : iv 0 99990 x44 := by
            have := (h_a1).1; have := (h_a1).2; have := (h15).1; have := (h15).2; have := (h_x1).1; have := (h_x1).2; have := (h14).1; have := (h14).2; have := (h39).1; have := (h39).2; have := (h42).1; have := (h42).2; have := (h45).1; have := (h45).2; exact ⟨by omega, by omega⟩
          have w49 : x47.toInt ≤ e0.toInt := by
            have := (h_a1).1; have := (h_a1).2; have := (h15).1; have := (h15).2; have := (h_x1).1; have := (h_x1).2; have := (h14).1; have := (h14).2; have := (h42).1; have := (h42).2; have := (h45).1; have := (h45).2; omega
          have w50 : 0 ≤ x44.toInt ∧ x44.toInt ≤ 9999 * x47.toInt := by
            have := (h_a1).1; have := (h_a1).2; have := (h15).1; have := (h15).2; have := (h_x1).1; have := (h_x1).2; have := (h14).1; have := (h14).2; have := (h39).1; have := (h39).2; have := (h42).1; have := (h42).2; have := (h45).1; have := (h45).2; omega
          have hm51 : 10 - x47.toInt < (n_3 : Int) := by
            have := (h_a1).1; have := (h_a1).2; have := (h15).1; have := (h15).2; have := (h_x1).1; have := (h_x1).2; have := (h14).1; have := (h14).2; have := (h42).1; have := (h42).2; have := (h45).1; have := (h45).2; omega
          exact ih_3 x44 x47 M3 R4 J18 H locs _ h48 (iv_mono h45 (by decide) (by decide)) w49 w50 hm51 hS (lv_sub hl [1, 0, 2, 3] rfl)
  have w52 : (0 : Int32).toInt ≤ e0.toInt := by
    have := (h_a1).1; have := (h_a1).2; have := (h_e0).1; have := (h_e0).2; have : (0 : Int32).toInt = 0 := (by decide); omega
  have w53 : 0 ≤ (0 : Int32).toInt ∧ (0 : Int32).toInt ≤ 9999 * (0 : Int32).toInt := by
    have := (h_a1).1; have := (h_a1).2; have := (h_e0).1; have := (h_e0).2; have : (0 : Int32).toInt = 0 := (by decide); omega
  have hm54 : 10 - (0 : Int32).toInt < (((11 : Nat) : Int) : Int) := by
    have := (h_a1).1; have := (h_a1).2; have := (h_e0).1; have := (h_e0).2; have : (0 : Int32).toInt = 0 := (by decide); omega
  exact W4_3 11 0 0 Ma Ra Ja s.heap [] _ (iv_mono (iv_c (c := 0) (n := 0) (by decide)) (by decide) (by decide)) (iv_mono (iv_c (c := 0) (n := 0) (by decide)) (by decide) (by decide)) w52 w53 hm54 hS (lv_sub hl [1, 0, 2, 3] rfl)
def Lt_X12_result : WL := []
def LRt_X12_result : WL := []
set_option maxRecDepth 100000 in
set_option maxHeartbeats 4000000 in
theorem t_X12_result (l : Launch) (D : va_G) (cy : Nat → ClassId) (tx : (Nat → Nat) × (Nat → Nat)) (base Z : Nat) (K N : Nat → Nat) (Ma : MT) (Ra : RT) (Ja : JT) (hTy : Ty Z K N Ma Ra) (a0 : Nat) (hz_a0 : a0 < Z) (hk_a0 : K a0 = 12) : Met l yX12_result [Cond.code yX12_result cX12_result 3 (some .int)] (md_rm 3 0 0) (va_Pc [.ref (base + a0)] (md_U D cy tx base Z K N Ma Ra Ja)) (mQi D cy tx base (fun r u => TP Z K N Lt_X12_result LRt_X12_result Ma Ra u ∧ (iv 0 2 r))) 0 0 (fun q => base ≤ q) := by
  refine tw_ofW (L := Lt_X12_result) (LR := LRt_X12_result) (by decide) (Nat.le_of_ble_eq_true rfl) hTy ?_
  intro p e s m args below meth c Q ls hx hb hr hlocks hown hml hW hK hT hS hQ hl
  have hl : lv_has ls 3 [(0, .ref (base + a0))] := hl
  refine lv_aload_n hx hb dX12_result_0 rfl (lv_at hl 0 rfl) ?_
  refine lv_aload_n hx hb dX12_result_1 rfl (lv_at hl 0 rfl) ?_
  refine tw_geti hx hb hW hown hK hS f_X12_364_11 hz_a0 hk_a0 (lo := (-2147483648)) (hi := 2147483647) rfl dX12_result_2 (fun x3 k2 h1 => ?_)
  obtain ⟨b4, k5, hz_b4, hk_b4, hn_b4⟩ := hS.2.1.ref hz_a0 hk_a0 (show rtR 12 25 = (23, 226, 0) from rfl)
  have hn_b4 := hn_b4 (by decide)
  obtain ⟨x8, k6⟩ : ∃ x, Ma b4 (0 : Int32).toNatClampNeg = x := ⟨_, rfl⟩
  have h7 : iv 0 10 x8 := by rw [← k6]; exact hS.2.1.int hz_b4 hk_b4 (show rgI 23 (0 : Int32).toNatClampNeg = (0, 10) from rfl)
  refine tw_goi hS (md_runV (As := [.int x3]) (rest := []) hx hb hml hown hW hK hT hS.1 (t_X12_voicesOf l D cy tx base Z K N Ma Ra Ja hS.2.1 a0 hz_a0 hk_a0 x3 h1 b4 k5 x8 k6 (iv_mono h7 (by decide) (by decide))) s_X12_380 ⟨rfl, rfl, ⟨Nat.le_of_ble_eq_true rfl, Nat.le_of_ble_eq_true rfl⟩, ⟨Nat.le_of_ble_eq_true rfl, Nat.le_of_ble_eq_true rfl⟩⟩ hz_a0 hk_a0 (by decide) rfl rfl hl.1 rfl (Nat.le_of_ble_eq_true rfl) dX12_result_5) rfl rfl (fun x15 H locs M12 R13 J11 hS f9 g10 E14 => ?_)
  have eM12 := Fr.nil f9 rfl
  subst eM12
  have eR13 := Fr.nil g10 rfl
  subst eR13
  obtain ⟨h_x15, p16⟩ := E14
  refine lv_istore_n (lv' := [(1, .int x15), (0, .ref (base + a0))]) hx hb dX12_result_8 rfl hl (by decide) rfl (fun ls hl => ?_)
  refine lv_aload_n hx hb dX12_result_9 rfl (lv_at hl 1 rfl) ?_
  refine lv_aload_n hx hb dX12_result_10 rfl (lv_at hl 1 rfl) ?_
  refine tw_geti hx hb hW hown hK hS f_X12_367_11 hz_a0 hk_a0 (lo := (-2147483648)) (hi := 2147483647) rfl dX12_result_11 (fun x19 k18 h17 => ?_)
  refine tw_goi hS (md_runV (As := [.int x19]) (rest := []) hx hb hml hown hW hK hT hS.1 (t_X12_voicesOf l D cy tx base Z K N Ma Ra J11 hS.2.1 a0 hz_a0 hk_a0 x19 h17 b4 k5 x8 k6 (iv_mono h7 (by decide) (by decide))) s_X12_380 ⟨rfl, rfl, ⟨Nat.le_of_ble_eq_true rfl, Nat.le_of_ble_eq_true rfl⟩, ⟨Nat.le_of_ble_eq_true rfl, Nat.le_of_ble_eq_true rfl⟩⟩ hz_a0 hk_a0 (by decide) rfl rfl hl.1 rfl (Nat.le_of_ble_eq_true rfl) dX12_result_14) rfl rfl (fun x26 H locs M23 R24 J22 hS f20 g21 E25 => ?_)
  have eM23 := Fr.nil f20 rfl
  subst eM23
  have eR24 := Fr.nil g21 rfl
  subst eR24
  obtain ⟨h_x26, p27⟩ := E25
  refine lv_istore_n (lv' := [(2, .int x26), (1, .int x15), (0, .ref (base + a0))]) hx hb dX12_result_17 rfl hl (by decide) rfl (fun ls hl => ?_)
  refine lv_iload_n hx hb dX12_result_18 rfl (lv_at hl 1 rfl) ?_
  refine lv_iload_n hx hb dX12_result_19 rfl (lv_at hl 0 rfl) ?_
  refine lv_icmp_le (tgt := 27) hx hb dX12_result_20 (by decide) (fun c28 => ?_) (fun c28 => ?_)
  · have q29 : x15.toInt ≤ x26.toInt := ti_le c28
    refine lv_iload_n hx hb dX12_result_27 rfl (lv_at hl 1 rfl) ?_
    refine lv_iload_n hx hb dX12_result_28 rfl (lv_at hl 0 rfl) ?_
    refine lv_icmp_ge (tgt := 36) hx hb dX12_result_29 (by decide) (fun c30 => ?_) (fun c30 => ?_)
    · have q31 : x26.toInt ≤ x15.toInt := ti_le c30
      refine lv_iconst (v := 2) hx hb dX12_result_36 (by decide) ?_
      exact tw_endi hx hb hr hlocks hK hT hS hQ ((iv_mono (iv_c (c := 2) (n := 2) (by decide)) (by decide) (by decide))) dX12_result_37
    · have q32 : x15.toInt < x26.toInt := ti_nle c30
      have h33 : iv 0 99989 x15 := iv_ltL (y := x26) h_x15 h_x26 q32 (by decide)
      have h34 : iv 1 99990 x26 := iv_gtL (y := x15) h_x26 h_x15 q32 (by decide)
      refine lv_iconst (v := 0) hx hb dX12_result_32 (by decide) ?_
      refine lv_goto (tgt := 37) hx hb dX12_result_33 (by decide) ?_
      exact tw_endi hx hb hr hlocks hK hT hS hQ ((iv_mono (iv_c (c := 0) (n := 0) (by decide)) (by decide) (by decide))) dX12_result_37
  · have q35 : x26.toInt < x15.toInt := ti_nle c28
    have h36 : iv 1 99990 x15 := iv_gtL (y := x26) h_x15 h_x26 q35 (by decide)
    have h37 : iv 0 99989 x26 := iv_ltL (y := x15) h_x26 h_x15 q35 (by decide)
    refine lv_iconst (v := 1) hx hb dX12_result_23 (by decide) ?_
    refine lv_goto (tgt := 37) hx hb dX12_result_24 (by decide) ?_
    exact tw_endi hx hb hr hlocks hK hT hS hQ ((iv_mono (iv_c (c := 1) (n := 1) (by decide)) (by decide) (by decide))) dX12_result_37
