def Lt_X12_isPointHere : WL := [(12, 8, 9), (12, 13, 16), (14, 0, 2000000)]
def LRt_X12_isPointHere : WL := []
set_option maxRecDepth 100000 in
set_option maxHeartbeats 4000000 in
theorem t_X12_isPointHere (l : Launch) (D : va_G) (cy : Nat → ClassId) (tx : (Nat → Nat) × (Nat → Nat)) (base Z : Nat) (K N : Nat → Nat) (Ma : MT) (Ra : RT) (Ja : JT) (hTy : Ty Z K N Ma Ra) (a0 : Nat) (hz_a0 : a0 < Z) (hk_a0 : K a0 = 12) (a1 : Int32) (h_a1 : iv 0 400 a1) (tb : Nat) (k_tb : Ra a0 0 = some tb) (nx : Int32) (k_nx : Ma a0 13 = nx) (h_nx : iv 0 400 nx) (tp : Int32) (k_tp : Ma a0 1 = tp) (h_tp : iv 0 400 tp) (hnt : nx.toInt ≤ tp.toInt) (pr : Int32) (k_pr : Ma a0 8 = pr) (h_pr : iv 0 12 pr) : Met l yX12_isPointHere [Cond.code yX12_isPointHere cX12_isPointHere 5 (some .boolean)] (md_rm 3 0 0) (va_Pc [.ref (base + a0), .int a1] (md_U D cy tx base Z K N Ma Ra Ja)) (mQi D cy tx base (fun r u => TP Z K N Lt_X12_isPointHere LRt_X12_isPointHere Ma Ra u ∧ (iv 0 1 r ∧ (∃ x0 : Int32, u.2.2.2.1 a0 13 = x0 ∧ iv 0 400 x0 ∧ (nx.toInt ≤ x0.toInt ∧ x0.toInt ≤ tp.toInt)) ∧ (r = 0 → ¬ (u.2.2.2.1 a0 14).toInt = 0)))) 0 0 (fun q => base ≤ q) := by
  refine tw_ofW (L := Lt_X12_isPointHere) (LR := LRt_X12_isPointHere) (by decide) (Nat.le_of_ble_eq_true rfl) hTy ?_
  intro p e s m args below meth c Q ls hx hb hr hlocks hown hml hW hK hT hS hQ hl
  have hl : lv_has ls 5 [(0, .ref (base + a0)), (1, .int a1)] := hl
  obtain ⟨hz_tb, hk_tb, hn_tb⟩ := hTy.refn hz_a0 hk_a0 (show rtR 12 0 = (13, 400, 0) from rfl) k_tb
  have hn_tb := hn_tb (by decide)
  refine lv_aload_n hx hb dX12_isPointHere_0 rfl (lv_at hl 0 rfl) ?_
  refine tw_getk hx hb hW hown hK hS f_X12_254_11 hz_a0 hk_a0 (v := pr) k_pr dX12_isPointHere_1 ?_
  refine lv_bipush (v := 12) hx hb dX12_isPointHere_4 (by decide) ?_
  refine lv_icmp_ne (tgt := 16) hx hb dX12_isPointHere_6 (by decide) (fun c1 => ?_) (fun c1 => ?_)
  · have q2 : ¬ pr.toInt = 12 := ti_ne c1
    have h3 : iv 0 11 pr := ⟨by have := (h_pr).1; have := ((iv_c (c := 12) (n := 12) (by decide))).1; have := ((iv_c (c := 12) (n := 12) (by decide))).2; omega, by have := (h_pr).2; have := ((iv_c (c := 12) (n := 12) (by decide))).1; have := ((iv_c (c := 12) (n := 12) (by decide))).2; omega⟩
    refine lv_aload_n hx hb dX12_isPointHere_16 rfl (lv_at hl 0 rfl) ?_
    have q4 : nx.toInt ≤ tp.toInt := by
      have := (h_a1).1; have := (h_a1).2; have := (h_nx).1; have := (h_nx).2; have := (h3).1; have := (h3).2; have := (h_tp).1; have := (h_tp).2; omega
    refine tw_gov hS (md_runV (As := []) (rest := []) hx hb hml hown hW hK hT hS.1 (t_X12_passWord l D cy tx base Z K N Ma Ra Ja hS.2.1 a0 hz_a0 hk_a0 tb k_tb nx k_nx (iv_mono h_nx (by decide) (by decide)) tp k_tp (iv_mono h_tp (by decide) (by decide)) q4) s_X12_142 ⟨rfl, rfl, ⟨Nat.le_of_ble_eq_true rfl, Nat.le_of_ble_eq_true rfl⟩, ⟨Nat.le_of_ble_eq_true rfl, Nat.le_of_ble_eq_true rfl⟩⟩ hz_a0 hk_a0 (by decide) rfl rfl hl.1 rfl (Nat.le_of_ble_eq_true rfl) dX12_isPointHere_17) rfl rfl (fun H locs M8 R9 J7 hS f5 g6 E10 => ?_)
    have eR9 := Fr.nil g6 rfl
    subst eR9
    have p11 := E10
    clear E10
    obtain ⟨x14, k12, h13, q15, z17⟩ := p11
    have k12 : M8 a0 13 = x14 := k12
    refine lv_iconst (v := 0) hx hb dX12_isPointHere_20 (by decide) ?_
    refine lv_istore_n (lv' := [(2, .int 0), (0, .ref (base + a0)), (1, .int a1)]) hx hb dX12_isPointHere_21 rfl hl (by decide) rfl (fun ls hl => ?_)
    have W22_19 : ∀ (n_19 : Nat) (x18 : Int32) (x24 : Int32) (x26 : Int32) (M19 : MT) (R20 : RT) (J21 : JT) (H : Heap) (locs : List Loc) (ls : Array Slot) (h_x18 : iv 0 10 x18) (h_x24 : iv 0 400 x24) (k25 : M19 a0 13 = x24) (h_x26 : iv 0 11 x26) (k27 : M19 a0 8 = x26) (w0_19 : nx.toInt ≤ x24.toInt ∧ x24.toInt ≤ tp.toInt) (hm_19 : 10 - x18.toInt < (n_19 : Int)) (hS : SB D cy base Z K N Lt_X12_isPointHere LRt_X12_isPointHere Ma Ra M19 R20 J21 s H locs) (hl : lv_has ls 5 [(2, .int x18), (0, .ref (base + a0)), (1, .int a1)]), W p l e (md_rm 3 0 0) s m args below meth c H locs 0 0 Q (F0 m 22 ls []) := by
      intro n_19
      induction n_19 with
      | zero =>
        intro x18 x24 x26 M19 R20 J21 H locs ls h_x18 h_x24 k25 h_x26 k27 w0_19 hm_19 hS hl
        exfalso
        have := (h_a1).1; have := (h_a1).2; have := (h_nx).1; have := (h_nx).2; have := (h3).1; have := (h3).2; have := (h_tp).1; have := (h_tp).2; have := (h_x18).1; have := (h_x18).2; omega
      | succ n_19 ih_19 =>
        intro x18 x24 x26 M19 R20 J21 H locs ls h_x18 h_x24 k25 h_x26 k27 w0_19 hm_19 hS hl
        have f22 := hS.2.2.1
        have g23 := hS.2.2.2
        refine lv_iload_n hx hb dX12_isPointHere_22 rfl (lv_at hl 0 rfl) ?_
        refine lv_aload_n hx hb dX12_isPointHere_23 rfl (lv_at hl 1 rfl) ?_
        refine tw_geti hx hb hW hown hK hS f_X12_251_11 hz_a0 hk_a0 (lo := 0) (hi := 10) rfl dX12_isPointHere_24 (fun x30 k29 h28 => ?_)
        refine lv_icmp_ge (tgt := 141) hx hb dX12_isPointHere_27 (by decide) (fun c31 => ?_) (fun c31 => ?_)
        · have q32 : x30.toInt ≤ x18.toInt := ti_le c31
          refine lv_aload_n hx hb dX12_isPointHere_141 rfl (lv_at hl 1 rfl) ?_
          refine lv_dup hx hb dX12_isPointHere_142 rfl ?_
          refine tw_getk hx hb hW hown hK hS f_X12_254_11 hz_a0 hk_a0 (v := x26) k27 dX12_isPointHere_143 ?_
          refine lv_iconst (v := 1) hx hb dX12_isPointHere_146 (by decide) ?_
          refine tw_iadd (lo := 1) (hi := 12) hx hb h_x26 (iv_c (c := 1) (n := 1) (by decide)) ⟨by decide, by decide⟩ ⟨by decide, by decide⟩ dX12_isPointHere_147 (fun x35 e34 h33 => ?_)
          have e34 : x35.toInt = x26.toInt + 1 := e34
          refine tw_puti hx hb hW hown hK hS f_X12_254_11 hz_a0 hk_a0 rfl rfl (lo := 0) (hi := 12) rfl (iv_mono h33 (by decide) (by decide)) rfl dX12_isPointHere_148 (fun H locs M38 hS k36 f37 => ?_)
          refine lv_iconst (v := 1) hx hb dX12_isPointHere_151 (by decide) ?_
          have k39 : M38 a0 13 = x24 := (Fr.kp (k := 13) f37 hk_a0 rfl).trans k25
          have q40 : nx.toInt ≤ x24.toInt ∧ x24.toInt ≤ tp.toInt := by
            have := (h_a1).1; have := (h_a1).2; have := (h_nx).1; have := (h_nx).2; have := (h3).1; have := (h3).2; have := (h_tp).1; have := (h_tp).2; have := (h13).1; have := (h13).2; have := (h_x24).1; have := (h_x24).2; omega
          exact tw_endz hx hb hr hlocks hK hT hS hQ rfl (⟨(iv_mono (iv_c (c := 1) (n := 1) (by decide)) (by decide) (by decide)), ⟨x24, k39, h_x24, q40⟩, (fun h => absurd h (by decide))⟩) dX12_isPointHere_152
        · have q41 : x18.toInt < x30.toInt := ti_nle c31
          have h42 : iv 0 9 x18 := iv_ltL (y := x30) h_x18 h28 q41 (by decide)
          have h43 : iv 1 10 x30 := iv_gtL (y := x18) h28 h_x18 q41 (by decide)
          refine lv_aload_n hx hb dX12_isPointHere_30 rfl (lv_at hl 1 rfl) ?_
          have k44 : R20 a0 0 = some tb := (Fr.kp (k := 0) g23 hk_a0 rfl).trans k_tb
          have k45 : M19 a0 1 = tp := (Fr.kp (k := 1) f22 hk_a0 rfl).trans k_tp
          have q46 : x24.toInt ≤ tp.toInt := by
            have := (h_a1).1; have := (h_a1).2; have := (h_nx).1; have := (h_nx).2; have := (h3).1; have := (h3).2; have := (h_tp).1; have := (h_tp).2; have := (h13).1; have := (h13).2; have := (h_x24).1; have := (h_x24).2; omega
          refine tw_goi hS (md_runV (As := []) (rest := []) hx hb hml hown hW hK hT hS.1 (t_X12_see l D cy tx base Z K N M19 R20 J21 hS.2.1 a0 hz_a0 hk_a0 tb k44 x24 k25 (iv_mono h_x24 (by decide) (by decide)) tp k45 (iv_mono h_tp (by decide) (by decide)) q46) s_X12_130 ⟨rfl, rfl, ⟨Nat.le_of_ble_eq_true rfl, Nat.le_of_ble_eq_true rfl⟩, ⟨Nat.le_of_ble_eq_true rfl, Nat.le_of_ble_eq_true rfl⟩⟩ hz_a0 hk_a0 (by decide) rfl rfl hl.1 rfl (Nat.le_of_ble_eq_true rfl) dX12_isPointHere_31) rfl rfl (fun x53 H locs M50 R51 J49 hS f47 g48 E52 => ?_)
          have eR51 := Fr.nil g48 rfl
          subst eR51
          obtain ⟨h_x53, p54⟩ := E52
          obtain ⟨x57, k55, h56, q58, z59, z60⟩ := p54
          have k55 : M50 a0 13 = x57 := k55
          have z60 : ∀ j : Nat, j = x57.toNatClampNeg → x53.toInt = -1 ∨ ¬ (M50 tb j).toInt = 32 := z60
          refine lv_istore_n (lv' := [(3, .int x53), (2, .int x18), (0, .ref (base + a0)), (1, .int a1)]) hx hb dX12_isPointHere_34 rfl hl (by decide) rfl (fun ls hl => ?_)
          refine lv_iload_n hx hb dX12_isPointHere_35 rfl (lv_at hl 0 rfl) ?_
          refine lv_bipush (v := 43) hx hb dX12_isPointHere_36 (by decide) ?_
          refine lv_icmp_eq (tgt := 47) hx hb dX12_isPointHere_38 (by decide) (fun c61 => ?_) (fun c61 => ?_)
          · have q62 : x53.toInt = 43 := ti_eq c61
            have h63 : iv 43 43 x53 := ⟨by have := (h_x53).1; have := ((iv_c (c := 43) (n := 43) (by decide))).1; omega, by have := (h_x53).2; have := ((iv_c (c := 43) (n := 43) (by decide))).2; omega⟩
            refine lv_iconst (v := 1) hx hb dX12_isPointHere_47 (by decide) ?_
            refine lv_goto (tgt := 52) hx hb dX12_isPointHere_48 (by decide) ?_
            refine lv_istore (lv' := [(4, .int 1), (3, .int x53), (2, .int x18), (0, .ref (base + a0)), (1, .int a1)]) hx hb dX12_isPointHere_52 hl (by decide) rfl (fun ls hl => ?_)
            refine lv_iload hx hb dX12_isPointHere_54 (lv_at hl 0 rfl) ?_
            refine lv_if_eq (tgt := 69) hx hb dX12_isPointHere_56 (by decide) (fun h => absurd h (by decide)) (fun _ => ?_)
            refine lv_aload_n hx hb dX12_isPointHere_59 rfl (lv_at hl 3 rfl) ?_
            refine lv_dup hx hb dX12_isPointHere_60 rfl ?_
            refine tw_getk hx hb hW hown hK hS f_X12_127_11 hz_a0 hk_a0 (v := x57) k55 dX12_isPointHere_61 ?_
            refine lv_iconst (v := 1) hx hb dX12_isPointHere_64 (by decide) ?_
            refine tw_iadd (lo := 1) (hi := 401) hx hb h56 (iv_c (c := 1) (n := 1) (by decide)) ⟨by decide, by decide⟩ ⟨by decide, by decide⟩ dX12_isPointHere_65 (fun x66 e65 h64 => ?_)
            have e65 : x66.toInt = x57.toInt + 1 := e65
            have h69 : iv 0 400 x66 := by
              have := (h_a1).1; have := (h_a1).2; have := (h_nx).1; have := (h_nx).2; have := (h3).1; have := (h3).2; have := (h_tp).1; have := (h_tp).2; have := (h13).1; have := (h13).2; have := (h_x24).1; have := (h_x24).2; have := (h63).1; have := (h63).2; have := (h56).1; have := (h56).2; have := (h64).1; have := (h64).2; exact ⟨by omega, by omega⟩
            refine tw_puti hx hb hW hown hK hS f_X12_127_11 hz_a0 hk_a0 rfl rfl (lo := 0) (hi := 400) rfl h69 rfl dX12_isPointHere_66 (fun H locs M70 hS k67 f68 => ?_)
            refine lv_iload hx hb dX12_isPointHere_69 (lv_at hl 0 rfl) ?_
            refine lv_if_eq (tgt := 91) hx hb dX12_isPointHere_71 (by decide) (fun h => absurd h (by decide)) (fun _ => ?_)
            refine lv_aload_n hx hb dX12_isPointHere_74 rfl (lv_at hl 3 rfl) ?_
            refine tw_goi hS (md_runV (As := []) (rest := []) hx hb hml hown hW hK hT hS.1 (t_X12_isDigitHere l D cy tx base Z K N M70 R20 J49 hS.2.1 a0 hz_a0 hk_a0) s_X12_257 ⟨rfl, rfl, ⟨Nat.le_of_ble_eq_true rfl, Nat.le_of_ble_eq_true rfl⟩, ⟨Nat.le_of_ble_eq_true rfl, Nat.le_of_ble_eq_true rfl⟩⟩ hz_a0 hk_a0 (by decide) rfl rfl hl.1 rfl (Nat.le_of_ble_eq_true rfl) dX12_isPointHere_75) rfl rfl (fun x77 H locs M74 R75 J73 hS f71 g72 E76 => ?_)
            have eM74 := Fr.nil f71 rfl
            subst eM74
            have eR75 := Fr.nil g72 rfl
            subst eR75
            have h_x77 := E76
            clear E76
            refine lv_if_ne (tgt := 91) hx hb dX12_isPointHere_78 (by decide) (fun c78 => ?_) (fun c78 => ?_)
            · have q79 : ¬ x77.toInt = 0 := ti_ne c78
              have h80 : iv 1 1 x77 := ⟨by have := (h_x77).1; have := ((iv_c (c := 0) (n := 0) (by decide))).1; have := ((iv_c (c := 0) (n := 0) (by decide))).2; omega, by have := (h_x77).2; have := ((iv_c (c := 0) (n := 0) (by decide))).1; have := ((iv_c (c := 0) (n := 0) (by decide))).2; omega⟩
              refine lv_aload_n hx hb dX12_isPointHere_91 rfl (lv_at hl 3 rfl) ?_
              refine lv_iconst (v := 0) hx hb dX12_isPointHere_92 (by decide) ?_
              refine lv_bipush (v := 99) hx hb dX12_isPointHere_93 (by decide) ?_
              have k81 : R20 a0 0 = some tb := (Fr.kp (k := 0) g23 hk_a0 rfl).trans k_tb
              have k82 : M70 a0 1 = tp := ((Fr.kp (k := 1) f68 hk_a0 rfl).trans ((Fr.kp (k := 1) f47 hk_a0 rfl).trans (Fr.kp (k := 1) f22 hk_a0 rfl))).trans k_tp
              have q83 : x66.toInt ≤ tp.toInt := by
                have := (h_a1).1; have := (h_a1).2; have := (h_nx).1; have := (h_nx).2; have := (h3).1; have := (h3).2; have := (h_tp).1; have := (h_tp).2; have := (h13).1; have := (h13).2; have := (h_x24).1; have := (h_x24).2; have := (h63).1; have := (h63).2; have := (h56).1; have := (h56).2; have := (h69).1; have := (h69).2; omega
              obtain ⟨x86, k84⟩ : ∃ x, M70 a0 15 = x := ⟨_, rfl⟩
              have h85 : iv (-2147483648) 2147483647 x86 := by rw [← k84]; exact hS.2.1.int hz_a0 hk_a0 (show rgI 12 15 = ((-2147483648), 2147483647) from rfl)
              refine tw_goi hS (md_runV (As := [.int 0, .int 99]) (rest := []) hx hb hml hown hW hK hT hS.1 (t_X12_numberHere l D cy tx base Z K N M70 R20 J73 hS.2.1 a0 hz_a0 hk_a0 0 (iv_mono (iv_c (c := 0) (n := 0) (by decide)) (by decide) (by decide)) 99 (iv_mono (iv_c (c := 99) (n := 99) (by decide)) (by decide) (by decide)) tb k81 x66 k67 (iv_mono h69 (by decide) (by decide)) tp k82 (iv_mono h_tp (by decide) (by decide)) q83 x86 k84 (iv_mono h85 (by decide) (by decide))) s_X12_200 ⟨rfl, rfl, ⟨Nat.le_of_ble_eq_true rfl, Nat.le_of_ble_eq_true rfl⟩, ⟨Nat.le_of_ble_eq_true rfl, Nat.le_of_ble_eq_true rfl⟩⟩ hz_a0 hk_a0 (by decide) rfl rfl hl.1 rfl (Nat.le_of_ble_eq_true rfl) dX12_isPointHere_95) rfl rfl (fun x93 H locs M90 R91 J89 hS f87 g88 E92 => ?_)
              have eR91 := Fr.nil g88 rfl
              subst eR91
              obtain ⟨h_x93, p94, p95, p96⟩ := E92
              obtain ⟨x99, k97, h98, q100⟩ := p94
              have k97 : M90 a0 13 = x99 := k97
              obtain ⟨x104, k105, h103, q106⟩ := p95
              have k105 : M90 a0 15 = x104 := k105
              have q107 : (0 : Int32).toInt = 0 := (by decide)
              have q108 : (99 : Int32).toInt = 99 := (by decide)
              have z109 : x93 = 0 → ¬ (M90 a0 14).toInt = 0 := p96
              refine lv_if_ne (tgt := 103) hx hb dX12_isPointHere_98 (by decide) (fun c110 => ?_) (fun c110 => ?_)
              · have q111 : ¬ x93.toInt = 0 := ti_ne c110
                have h112 : iv 1 1 x93 := ⟨by have := (h_x93).1; have := ((iv_c (c := 0) (n := 0) (by decide))).1; have := ((iv_c (c := 0) (n := 0) (by decide))).2; omega, by have := (h_x93).2; have := ((iv_c (c := 0) (n := 0) (by decide))).1; have := ((iv_c (c := 0) (n := 0) (by decide))).2; omega⟩
                refine lv_aload_n hx hb dX12_isPointHere_103 rfl (lv_at hl 3 rfl) ?_
                refine tw_getr hx hb hW hown hK hS f_X12_26_11 hz_a0 hk_a0 (t := 14) (n := 120) rfl dX12_isPointHere_104 (fun b113 k114 hz_b113 hk_b113 hn_b113 => ?_)
                have hn_b113 := hn_b113 (by decide)
                refine lv_bipush (v := 10) hx hb dX12_isPointHere_107 (by decide) ?_
                refine lv_aload_n hx hb dX12_isPointHere_109 rfl (lv_at hl 3 rfl) ?_
                have k115 : M90 a0 8 = x26 := ((Fr.kp (k := 8) f87 hk_a0 rfl).trans ((Fr.kp (k := 8) f68 hk_a0 rfl).trans (Fr.kp (k := 8) f47 hk_a0 rfl))).trans k27
                refine tw_getk hx hb hW hown hK hS f_X12_254_11 hz_a0 hk_a0 (v := x26) k115 dX12_isPointHere_110 ?_
                refine tw_icmul (k := 10) (lo := 0) (hi := 110) hx hb (by decide) h_x26 (by decide) ⟨by decide, by decide⟩ ⟨by decide, by decide⟩ dX12_isPointHere_113 (fun x118 e117 h116 => ?_)
                refine lv_iload_n hx hb dX12_isPointHere_114 rfl (lv_at hl 2 rfl) ?_
                refine tw_iadd (lo := 0) (hi := 119) hx hb h116 h42 ⟨by decide, by decide⟩ ⟨by decide, by decide⟩ dX12_isPointHere_115 (fun x121 e120 h119 => ?_)
                refine lv_iload_n hx hb dX12_isPointHere_116 rfl (lv_at hl 1 rfl) ?_
                refine lv_bipush (v := 45) hx hb dX12_isPointHere_117 (by decide) ?_
                refine lv_icmp_ne (tgt := 130) hx hb dX12_isPointHere_119 (by decide) (fun c122 => ?_) (fun c122 => False.elim (by have q : x53.toInt = 45 := ti_eq c122; have := (h63).1; have := (h63).2; omega))
                have q123 : ¬ x53.toInt = 45 := ti_ne c122
                refine lv_aload_n hx hb dX12_isPointHere_130 rfl (lv_at hl 3 rfl) ?_
                refine tw_getk hx hb hW hown hK hS f_X12_152_11 hz_a0 hk_a0 (v := x104) k105 dX12_isPointHere_131 ?_
                refine tw_iast hx hb hK hS hz_b113 hk_b113 (Or.inl rfl) hn_b113 h119 ⟨by decide, by decide⟩ h103 (rg_s14 ⟨by decide, by decide⟩) (jl := 0) (jh := 1999999) ⟨by decide, by decide⟩ rfl dX12_isPointHere_134 (fun H locs M126 hS k124 f125 => ?_)
                refine tw_iinc (lv' := fun x129 => [(2, .int x129), (4, .int 1), (3, .int x53), (0, .ref (base + a0)), (1, .int a1)]) (lo := 1) (hi := 10) hx hb dX12_isPointHere_135 hl (k := 2) rfl h42 (by decide) ⟨by decide, by decide⟩ ⟨by decide, by decide⟩ (by decide) (fun _ => rfl) (fun x129 ls e128 h127 hl => ?_)
                refine lv_goto (tgt := 22) hx hb dX12_isPointHere_138 (by decide) ?_
                have k130 : M126 a0 13 = x99 := (Fr.kp (k := 13) f125 hk_a0 rfl).trans k97
                have k131 : M126 a0 8 = x26 := (Fr.kp (k := 8) f125 hk_a0 rfl).trans k115
                have w132 : nx.toInt ≤ x99.toInt ∧ x99.toInt ≤ tp.toInt := by
                  have := (h_a1).1; have := (h_a1).2; have := (h_nx).1; have := (h_nx).2; have := (h3).1; have := (h3).2; have := (h_tp).1; have := (h_tp).2; have := (h13).1; have := (h13).2; have := (h_x24).1; have := (h_x24).2; have := (h63).1; have := (h63).2; have := (h56).1; have := (h56).2; have := (h69).1; have := (h69).2; have := (h112).1; have := (h112).2; have := (h98).1; have := (h98).2; omega
                have hm133 : 10 - x129.toInt < (n_19 : Int) := by
                  have := (h_a1).1; have := (h_a1).2; have := (h_nx).1; have := (h_nx).2; have := (h3).1; have := (h3).2; have := (h_tp).1; have := (h_tp).2; have := (h119).1; have := (h119).2; have := (h127).1; have := (h127).2; have := (h42).1; have := (h42).2; omega
                exact ih_19 x129 x99 x26 M126 R20 J89 H locs _ (iv_mono h127 (by decide) (by decide)) h98 k130 h_x26 k131 w132 hm133 hS (lv_sub hl [0, 3, 4] rfl)
              · have q134 : x93.toInt = 0 := ti_eq c110
                have z135 := z109 c110
                have h136 : iv 0 0 x93 := ⟨by have := (h_x93).1; have := ((iv_c (c := 0) (n := 0) (by decide))).1; omega, by have := (h_x93).2; have := ((iv_c (c := 0) (n := 0) (by decide))).2; omega⟩
                refine lv_iconst (v := 0) hx hb dX12_isPointHere_101 (by decide) ?_
                have q137 : nx.toInt ≤ x99.toInt ∧ x99.toInt ≤ tp.toInt := by
                  have := (h_a1).1; have := (h_a1).2; have := (h_nx).1; have := (h_nx).2; have := (h3).1; have := (h3).2; have := (h_tp).1; have := (h_tp).2; have := (h13).1; have := (h13).2; have := (h_x24).1; have := (h_x24).2; have := (h63).1; have := (h63).2; have := (h56).1; have := (h56).2; have := (h69).1; have := (h69).2; have := (h136).1; have := (h136).2; have := (h98).1; have := (h98).2; omega
                exact tw_endz hx hb hr hlocks hK hT hS hQ rfl (⟨(iv_mono (iv_c (c := 0) (n := 0) (by decide)) (by decide) (by decide)), ⟨x99, k97, h98, q137⟩, (fun _ => (show ¬ (M90 a0 14).toInt = 0 from z135))⟩) dX12_isPointHere_102
            · have q138 : x77.toInt = 0 := ti_eq c78
              have h139 : iv 0 0 x77 := ⟨by have := (h_x77).1; have := ((iv_c (c := 0) (n := 0) (by decide))).1; omega, by have := (h_x77).2; have := ((iv_c (c := 0) (n := 0) (by decide))).2; omega⟩
              refine lv_aload_n hx hb dX12_isPointHere_81 rfl (lv_at hl 3 rfl) ?_
              refine lv_iconst (v := 0) hx hb dX12_isPointHere_82 (by decide) ?_
              refine lv_aload_n hx hb dX12_isPointHere_83 rfl (lv_at hl 3 rfl) ?_
              refine tw_getk hx hb hW hown hK hS f_X12_127_11 hz_a0 hk_a0 (v := x66) k67 dX12_isPointHere_84 ?_
              refine tw_goi hS (md_runV (As := [.int 0, .int x66]) (rest := []) hx hb hml hown hW hK hT hS.1 (t_X12_fails l D cy tx base Z K N M70 R20 J73 hS.2.1 a0 hz_a0 hk_a0 0 (iv_mono (iv_c (c := 0) (n := 0) (by decide)) (by decide) (by decide)) x66 h69) s_X12_148 ⟨rfl, rfl, ⟨Nat.le_of_ble_eq_true rfl, Nat.le_of_ble_eq_true rfl⟩, ⟨Nat.le_of_ble_eq_true rfl, Nat.le_of_ble_eq_true rfl⟩⟩ hz_a0 hk_a0 (by decide) rfl rfl hl.1 rfl (Nat.le_of_ble_eq_true rfl) dX12_isPointHere_87) rfl rfl (fun x146 H locs M143 R144 J142 hS f140 g141 E145 => ?_)
              have eR144 := Fr.nil g141 rfl
              subst eR144
              obtain ⟨h_x146, p147⟩ := E145
              have z148 : x146 = 0 → ¬ (M143 a0 14).toInt = 0 := p147
              have z149 := z148 (iv0 h_x146)
              have k150 : M143 a0 13 = x66 := (Fr.kp (k := 13) f140 hk_a0 rfl).trans k67
              have q151 : nx.toInt ≤ x66.toInt ∧ x66.toInt ≤ tp.toInt := by
                have := (h_a1).1; have := (h_a1).2; have := (h_nx).1; have := (h_nx).2; have := (h3).1; have := (h3).2; have := (h_tp).1; have := (h_tp).2; have := (h13).1; have := (h13).2; have := (h_x24).1; have := (h_x24).2; have := (h63).1; have := (h63).2; have := (h56).1; have := (h56).2; have := (h69).1; have := (h69).2; omega
              exact tw_endz hx hb hr hlocks hK hT hS hQ (nar_b (iv_mono h_x146 (by decide) (by decide))) (⟨(iv_mono h_x146 (by decide) (by decide)), ⟨x66, k150, h69, q151⟩, (fun _ => (show ¬ (M143 a0 14).toInt = 0 from z149))⟩) dX12_isPointHere_90
          · have q152 : ¬ x53.toInt = 43 := ti_ne c61
            refine lv_iload_n hx hb dX12_isPointHere_41 rfl (lv_at hl 0 rfl) ?_
            refine lv_bipush (v := 45) hx hb dX12_isPointHere_42 (by decide) ?_
            refine lv_icmp_ne (tgt := 51) hx hb dX12_isPointHere_44 (by decide) (fun c153 => ?_) (fun c153 => ?_)
            · have q154 : ¬ x53.toInt = 45 := ti_ne c153
              refine lv_iconst (v := 0) hx hb dX12_isPointHere_51 (by decide) ?_
              refine lv_istore (lv' := [(4, .int 0), (3, .int x53), (2, .int x18), (0, .ref (base + a0)), (1, .int a1)]) hx hb dX12_isPointHere_52 hl (by decide) rfl (fun ls hl => ?_)
              refine lv_iload hx hb dX12_isPointHere_54 (lv_at hl 0 rfl) ?_
              refine lv_if_eq (tgt := 69) hx hb dX12_isPointHere_56 (by decide) (fun _ => ?_) (fun h => absurd h (by decide))
              refine lv_iload hx hb dX12_isPointHere_69 (lv_at hl 0 rfl) ?_
              refine lv_if_eq (tgt := 91) hx hb dX12_isPointHere_71 (by decide) (fun _ => ?_) (fun h => absurd h (by decide))
              refine lv_aload_n hx hb dX12_isPointHere_91 rfl (lv_at hl 3 rfl) ?_
              refine lv_iconst (v := 0) hx hb dX12_isPointHere_92 (by decide) ?_
              refine lv_bipush (v := 99) hx hb dX12_isPointHere_93 (by decide) ?_
              have k155 : R20 a0 0 = some tb := (Fr.kp (k := 0) g23 hk_a0 rfl).trans k_tb
              have k156 : M50 a0 1 = tp := ((Fr.kp (k := 1) f47 hk_a0 rfl).trans (Fr.kp (k := 1) f22 hk_a0 rfl)).trans k_tp
              have q157 : x57.toInt ≤ tp.toInt := by
                have := (h_a1).1; have := (h_a1).2; have := (h_nx).1; have := (h_nx).2; have := (h3).1; have := (h3).2; have := (h_tp).1; have := (h_tp).2; have := (h13).1; have := (h13).2; have := (h_x24).1; have := (h_x24).2; have := (h_x53).1; have := (h_x53).2; have := (h56).1; have := (h56).2; omega
              obtain ⟨x160, k158⟩ : ∃ x, M50 a0 15 = x := ⟨_, rfl⟩
              have h159 : iv (-2147483648) 2147483647 x160 := by rw [← k158]; exact hS.2.1.int hz_a0 hk_a0 (show rgI 12 15 = ((-2147483648), 2147483647) from rfl)
              refine tw_goi hS (md_runV (As := [.int 0, .int 99]) (rest := []) hx hb hml hown hW hK hT hS.1 (t_X12_numberHere l D cy tx base Z K N M50 R20 J49 hS.2.1 a0 hz_a0 hk_a0 0 (iv_mono (iv_c (c := 0) (n := 0) (by decide)) (by decide) (by decide)) 99 (iv_mono (iv_c (c := 99) (n := 99) (by decide)) (by decide) (by decide)) tb k155 x57 k55 (iv_mono h56 (by decide) (by decide)) tp k156 (iv_mono h_tp (by decide) (by decide)) q157 x160 k158 (iv_mono h159 (by decide) (by decide))) s_X12_200 ⟨rfl, rfl, ⟨Nat.le_of_ble_eq_true rfl, Nat.le_of_ble_eq_true rfl⟩, ⟨Nat.le_of_ble_eq_true rfl, Nat.le_of_ble_eq_true rfl⟩⟩ hz_a0 hk_a0 (by decide) rfl rfl hl.1 rfl (Nat.le_of_ble_eq_true rfl) dX12_isPointHere_95) rfl rfl (fun x167 H locs M164 R165 J163 hS f161 g162 E166 => ?_)
              have eR165 := Fr.nil g162 rfl
              subst eR165
              obtain ⟨h_x167, p168, p169, p170⟩ := E166
              obtain ⟨x173, k171, h172, q174⟩ := p168
              have k171 : M164 a0 13 = x173 := k171
              obtain ⟨x178, k179, h177, q180⟩ := p169
              have k179 : M164 a0 15 = x178 := k179
              have q181 : (0 : Int32).toInt = 0 := (by decide)
              have q182 : (99 : Int32).toInt = 99 := (by decide)
              have z183 : x167 = 0 → ¬ (M164 a0 14).toInt = 0 := p170
              refine lv_if_ne (tgt := 103) hx hb dX12_isPointHere_98 (by decide) (fun c184 => ?_) (fun c184 => ?_)
              · have q185 : ¬ x167.toInt = 0 := ti_ne c184
                have h186 : iv 1 1 x167 := ⟨by have := (h_x167).1; have := ((iv_c (c := 0) (n := 0) (by decide))).1; have := ((iv_c (c := 0) (n := 0) (by decide))).2; omega, by have := (h_x167).2; have := ((iv_c (c := 0) (n := 0) (by decide))).1; have := ((iv_c (c := 0) (n := 0) (by decide))).2; omega⟩
                refine lv_aload_n hx hb dX12_isPointHere_103 rfl (lv_at hl 3 rfl) ?_
                refine tw_getr hx hb hW hown hK hS f_X12_26_11 hz_a0 hk_a0 (t := 14) (n := 120) rfl dX12_isPointHere_104 (fun b187 k188 hz_b187 hk_b187 hn_b187 => ?_)
                have hn_b187 := hn_b187 (by decide)
                refine lv_bipush (v := 10) hx hb dX12_isPointHere_107 (by decide) ?_
                refine lv_aload_n hx hb dX12_isPointHere_109 rfl (lv_at hl 3 rfl) ?_
                have k189 : M164 a0 8 = x26 := ((Fr.kp (k := 8) f161 hk_a0 rfl).trans (Fr.kp (k := 8) f47 hk_a0 rfl)).trans k27
                refine tw_getk hx hb hW hown hK hS f_X12_254_11 hz_a0 hk_a0 (v := x26) k189 dX12_isPointHere_110 ?_
                refine tw_icmul (k := 10) (lo := 0) (hi := 110) hx hb (by decide) h_x26 (by decide) ⟨by decide, by decide⟩ ⟨by decide, by decide⟩ dX12_isPointHere_113 (fun x192 e191 h190 => ?_)
                refine lv_iload_n hx hb dX12_isPointHere_114 rfl (lv_at hl 2 rfl) ?_
                refine tw_iadd (lo := 0) (hi := 119) hx hb h190 h42 ⟨by decide, by decide⟩ ⟨by decide, by decide⟩ dX12_isPointHere_115 (fun x195 e194 h193 => ?_)
                refine lv_iload_n hx hb dX12_isPointHere_116 rfl (lv_at hl 1 rfl) ?_
                refine lv_bipush (v := 45) hx hb dX12_isPointHere_117 (by decide) ?_
                refine lv_icmp_ne (tgt := 130) hx hb dX12_isPointHere_119 (by decide) (fun c196 => ?_) (fun c196 => ?_)
                · have q197 : ¬ x53.toInt = 45 := ti_ne c196
                  refine lv_aload_n hx hb dX12_isPointHere_130 rfl (lv_at hl 3 rfl) ?_
                  refine tw_getk hx hb hW hown hK hS f_X12_152_11 hz_a0 hk_a0 (v := x178) k179 dX12_isPointHere_131 ?_
                  refine tw_iast hx hb hK hS hz_b187 hk_b187 (Or.inl rfl) hn_b187 h193 ⟨by decide, by decide⟩ h177 (rg_s14 ⟨by decide, by decide⟩) (jl := 0) (jh := 1999999) ⟨by decide, by decide⟩ rfl dX12_isPointHere_134 (fun H locs M200 hS k198 f199 => ?_)
                  refine tw_iinc (lv' := fun x203 => [(2, .int x203), (4, .int 0), (3, .int x53), (0, .ref (base + a0)), (1, .int a1)]) (lo := 1) (hi := 10) hx hb dX12_isPointHere_135 hl (k := 2) rfl h42 (by decide) ⟨by decide, by decide⟩ ⟨by decide, by decide⟩ (by decide) (fun _ => rfl) (fun x203 ls e202 h201 hl => ?_)
                  refine lv_goto (tgt := 22) hx hb dX12_isPointHere_138 (by decide) ?_
                  have k204 : M200 a0 13 = x173 := (Fr.kp (k := 13) f199 hk_a0 rfl).trans k171
                  have k205 : M200 a0 8 = x26 := (Fr.kp (k := 8) f199 hk_a0 rfl).trans k189
                  have w206 : nx.toInt ≤ x173.toInt ∧ x173.toInt ≤ tp.toInt := by
                    have := (h_a1).1; have := (h_a1).2; have := (h_nx).1; have := (h_nx).2; have := (h3).1; have := (h3).2; have := (h_tp).1; have := (h_tp).2; have := (h13).1; have := (h13).2; have := (h186).1; have := (h186).2; have := (h172).1; have := (h172).2; have := (h_x24).1; have := (h_x24).2; have := (h_x53).1; have := (h_x53).2; have := (h56).1; have := (h56).2; omega
                  have hm207 : 10 - x203.toInt < (n_19 : Int) := by
                    have := (h_a1).1; have := (h_a1).2; have := (h_nx).1; have := (h_nx).2; have := (h3).1; have := (h3).2; have := (h_tp).1; have := (h_tp).2; have := (h42).1; have := (h42).2; have := (h193).1; have := (h193).2; have := (h201).1; have := (h201).2; omega
                  exact ih_19 x203 x173 x26 M200 R20 J163 H locs _ (iv_mono h201 (by decide) (by decide)) h172 k204 h_x26 k205 w206 hm207 hS (lv_sub hl [0, 3, 4] rfl)
                · have q208 : x53.toInt = 45 := ti_eq c196
                  have h209 : iv 45 45 x53 := ⟨by have := (h_x53).1; have := ((iv_c (c := 45) (n := 45) (by decide))).1; omega, by have := (h_x53).2; have := ((iv_c (c := 45) (n := 45) (by decide))).2; omega⟩
                  refine lv_aload_n hx hb dX12_isPointHere_122 rfl (lv_at hl 3 rfl) ?_
                  refine tw_getk hx hb hW hown hK hS f_X12_152_11 hz_a0 hk_a0 (v := x178) k179 dX12_isPointHere_123 ?_
                  refine lv_ineg hx hb dX12_isPointHere_126 ?_
                  refine tw_top (fun x211 => ?_)
                  have h210 := iv_any x211
                  refine lv_goto (tgt := 134) hx hb dX12_isPointHere_127 (by decide) ?_
                  refine tw_iast hx hb hK hS hz_b187 hk_b187 (Or.inl rfl) hn_b187 h193 ⟨by decide, by decide⟩ h210 (rg_s14 ⟨by decide, by decide⟩) (jl := 0) (jh := 1999999) ⟨by decide, by decide⟩ rfl dX12_isPointHere_134 (fun H locs M214 hS k212 f213 => ?_)
                  refine tw_iinc (lv' := fun x217 => [(2, .int x217), (4, .int 0), (3, .int x53), (0, .ref (base + a0)), (1, .int a1)]) (lo := 1) (hi := 10) hx hb dX12_isPointHere_135 hl (k := 2) rfl h42 (by decide) ⟨by decide, by decide⟩ ⟨by decide, by decide⟩ (by decide) (fun _ => rfl) (fun x217 ls e216 h215 hl => ?_)
                  refine lv_goto (tgt := 22) hx hb dX12_isPointHere_138 (by decide) ?_
                  have k218 : M214 a0 13 = x173 := (Fr.kp (k := 13) f213 hk_a0 rfl).trans k171
                  have k219 : M214 a0 8 = x26 := (Fr.kp (k := 8) f213 hk_a0 rfl).trans k189
                  have w220 : nx.toInt ≤ x173.toInt ∧ x173.toInt ≤ tp.toInt := by
                    have := (h_a1).1; have := (h_a1).2; have := (h_nx).1; have := (h_nx).2; have := (h3).1; have := (h3).2; have := (h_tp).1; have := (h_tp).2; have := (h13).1; have := (h13).2; have := (h186).1; have := (h186).2; have := (h172).1; have := (h172).2; have := (h_x24).1; have := (h_x24).2; have := (h209).1; have := (h209).2; have := (h56).1; have := (h56).2; omega
                  have hm221 : 10 - x217.toInt < (n_19 : Int) := by
                    have := (h_a1).1; have := (h_a1).2; have := (h_nx).1; have := (h_nx).2; have := (h3).1; have := (h3).2; have := (h_tp).1; have := (h_tp).2; have := (h42).1; have := (h42).2; have := (h193).1; have := (h193).2; have := (h215).1; have := (h215).2; omega
                  exact ih_19 x217 x173 x26 M214 R20 J163 H locs _ (iv_mono h215 (by decide) (by decide)) h172 k218 h_x26 k219 w220 hm221 hS (lv_sub hl [0, 3, 4] rfl)
              · have q222 : x167.toInt = 0 := ti_eq c184
                have z223 := z183 c184
                have h224 : iv 0 0 x167 := ⟨by have := (h_x167).1; have := ((iv_c (c := 0) (n := 0) (by decide))).1; omega, by have := (h_x167).2; have := ((iv_c (c := 0) (n := 0) (by decide))).2; omega⟩
                refine lv_iconst (v := 0) hx hb dX12_isPointHere_101 (by decide) ?_
                have q225 : nx.toInt ≤ x173.toInt ∧ x173.toInt ≤ tp.toInt := by
                  have := (h_a1).1; have := (h_a1).2; have := (h_nx).1; have := (h_nx).2; have := (h3).1; have := (h3).2; have := (h_tp).1; have := (h_tp).2; have := (h13).1; have := (h13).2; have := (h224).1; have := (h224).2; have := (h172).1; have := (h172).2; have := (h_x24).1; have := (h_x24).2; have := (h_x53).1; have := (h_x53).2; have := (h56).1; have := (h56).2; omega
                exact tw_endz hx hb hr hlocks hK hT hS hQ rfl (⟨(iv_mono (iv_c (c := 0) (n := 0) (by decide)) (by decide) (by decide)), ⟨x173, k171, h172, q225⟩, (fun _ => (show ¬ (M164 a0 14).toInt = 0 from z223))⟩) dX12_isPointHere_102
            · have q226 : x53.toInt = 45 := ti_eq c153
              have h227 : iv 45 45 x53 := ⟨by have := (h_x53).1; have := ((iv_c (c := 45) (n := 45) (by decide))).1; omega, by have := (h_x53).2; have := ((iv_c (c := 45) (n := 45) (by decide))).2; omega⟩
              refine lv_iconst (v := 1) hx hb dX12_isPointHere_47 (by decide) ?_
              refine lv_goto (tgt := 52) hx hb dX12_isPointHere_48 (by decide) ?_
              refine lv_istore (lv' := [(4, .int 1), (3, .int x53), (2, .int x18), (0, .ref (base + a0)), (1, .int a1)]) hx hb dX12_isPointHere_52 hl (by decide) rfl (fun ls hl => ?_)
              refine lv_iload hx hb dX12_isPointHere_54 (lv_at hl 0 rfl) ?_
              refine lv_if_eq (tgt := 69) hx hb dX12_isPointHere_56 (by decide) (fun h => absurd h (by decide)) (fun _ => ?_)
              refine lv_aload_n hx hb dX12_isPointHere_59 rfl (lv_at hl 3 rfl) ?_
              refine lv_dup hx hb dX12_isPointHere_60 rfl ?_
              refine tw_getk hx hb hW hown hK hS f_X12_127_11 hz_a0 hk_a0 (v := x57) k55 dX12_isPointHere_61 ?_
              refine lv_iconst (v := 1) hx hb dX12_isPointHere_64 (by decide) ?_
              refine tw_iadd (lo := 1) (hi := 401) hx hb h56 (iv_c (c := 1) (n := 1) (by decide)) ⟨by decide, by decide⟩ ⟨by decide, by decide⟩ dX12_isPointHere_65 (fun x230 e229 h228 => ?_)
              have e229 : x230.toInt = x57.toInt + 1 := e229
              have h233 : iv 0 400 x230 := by
                have := (h_a1).1; have := (h_a1).2; have := (h_nx).1; have := (h_nx).2; have := (h3).1; have := (h3).2; have := (h_tp).1; have := (h_tp).2; have := (h13).1; have := (h13).2; have := (h228).1; have := (h228).2; have := (h_x24).1; have := (h_x24).2; have := (h227).1; have := (h227).2; have := (h56).1; have := (h56).2; exact ⟨by omega, by omega⟩
              refine tw_puti hx hb hW hown hK hS f_X12_127_11 hz_a0 hk_a0 rfl rfl (lo := 0) (hi := 400) rfl h233 rfl dX12_isPointHere_66 (fun H locs M234 hS k231 f232 => ?_)
              refine lv_iload hx hb dX12_isPointHere_69 (lv_at hl 0 rfl) ?_
              refine lv_if_eq (tgt := 91) hx hb dX12_isPointHere_71 (by decide) (fun h => absurd h (by decide)) (fun _ => ?_)
              refine lv_aload_n hx hb dX12_isPointHere_74 rfl (lv_at hl 3 rfl) ?_
              refine tw_goi hS (md_runV (As := []) (rest := []) hx hb hml hown hW hK hT hS.1 (t_X12_isDigitHere l D cy tx base Z K N M234 R20 J49 hS.2.1 a0 hz_a0 hk_a0) s_X12_257 ⟨rfl, rfl, ⟨Nat.le_of_ble_eq_true rfl, Nat.le_of_ble_eq_true rfl⟩, ⟨Nat.le_of_ble_eq_true rfl, Nat.le_of_ble_eq_true rfl⟩⟩ hz_a0 hk_a0 (by decide) rfl rfl hl.1 rfl (Nat.le_of_ble_eq_true rfl) dX12_isPointHere_75) rfl rfl (fun x241 H locs M238 R239 J237 hS f235 g236 E240 => ?_)
              have eM238 := Fr.nil f235 rfl
              subst eM238
              have eR239 := Fr.nil g236 rfl
              subst eR239
              have h_x241 := E240
              clear E240
              refine lv_if_ne (tgt := 91) hx hb dX12_isPointHere_78 (by decide) (fun c242 => ?_) (fun c242 => ?_)
              · have q243 : ¬ x241.toInt = 0 := ti_ne c242
                have h244 : iv 1 1 x241 := ⟨by have := (h_x241).1; have := ((iv_c (c := 0) (n := 0) (by decide))).1; have := ((iv_c (c := 0) (n := 0) (by decide))).2; omega, by have := (h_x241).2; have := ((iv_c (c := 0) (n := 0) (by decide))).1; have := ((iv_c (c := 0) (n := 0) (by decide))).2; omega⟩
                refine lv_aload_n hx hb dX12_isPointHere_91 rfl (lv_at hl 3 rfl) ?_
                refine lv_iconst (v := 0) hx hb dX12_isPointHere_92 (by decide) ?_
                refine lv_bipush (v := 99) hx hb dX12_isPointHere_93 (by decide) ?_
                have k245 : R20 a0 0 = some tb := (Fr.kp (k := 0) g23 hk_a0 rfl).trans k_tb
                have k246 : M234 a0 1 = tp := ((Fr.kp (k := 1) f232 hk_a0 rfl).trans ((Fr.kp (k := 1) f47 hk_a0 rfl).trans (Fr.kp (k := 1) f22 hk_a0 rfl))).trans k_tp
                have q247 : x230.toInt ≤ tp.toInt := by
                  have := (h_a1).1; have := (h_a1).2; have := (h_nx).1; have := (h_nx).2; have := (h3).1; have := (h3).2; have := (h_tp).1; have := (h_tp).2; have := (h13).1; have := (h13).2; have := (h233).1; have := (h233).2; have := (h_x24).1; have := (h_x24).2; have := (h227).1; have := (h227).2; have := (h56).1; have := (h56).2; omega
                obtain ⟨x250, k248⟩ : ∃ x, M234 a0 15 = x := ⟨_, rfl⟩
                have h249 : iv (-2147483648) 2147483647 x250 := by rw [← k248]; exact hS.2.1.int hz_a0 hk_a0 (show rgI 12 15 = ((-2147483648), 2147483647) from rfl)
                refine tw_goi hS (md_runV (As := [.int 0, .int 99]) (rest := []) hx hb hml hown hW hK hT hS.1 (t_X12_numberHere l D cy tx base Z K N M234 R20 J237 hS.2.1 a0 hz_a0 hk_a0 0 (iv_mono (iv_c (c := 0) (n := 0) (by decide)) (by decide) (by decide)) 99 (iv_mono (iv_c (c := 99) (n := 99) (by decide)) (by decide) (by decide)) tb k245 x230 k231 (iv_mono h233 (by decide) (by decide)) tp k246 (iv_mono h_tp (by decide) (by decide)) q247 x250 k248 (iv_mono h249 (by decide) (by decide))) s_X12_200 ⟨rfl, rfl, ⟨Nat.le_of_ble_eq_true rfl, Nat.le_of_ble_eq_true rfl⟩, ⟨Nat.le_of_ble_eq_true rfl, Nat.le_of_ble_eq_true rfl⟩⟩ hz_a0 hk_a0 (by decide) rfl rfl hl.1 rfl (Nat.le_of_ble_eq_true rfl) dX12_isPointHere_95) rfl rfl (fun x257 H locs M254 R255 J253 hS f251 g252 E256 => ?_)
                have eR255 := Fr.nil g252 rfl
                subst eR255
                obtain ⟨h_x257, p258, p259, p260⟩ := E256
                obtain ⟨x263, k261, h262, q264⟩ := p258
                have k261 : M254 a0 13 = x263 := k261
                obtain ⟨x268, k269, h267, q270⟩ := p259
                have k269 : M254 a0 15 = x268 := k269
                have q271 : (0 : Int32).toInt = 0 := (by decide)
                have q272 : (99 : Int32).toInt = 99 := (by decide)
                have z273 : x257 = 0 → ¬ (M254 a0 14).toInt = 0 := p260
                refine lv_if_ne (tgt := 103) hx hb dX12_isPointHere_98 (by decide) (fun c274 => ?_) (fun c274 => ?_)
                · have q275 : ¬ x257.toInt = 0 := ti_ne c274
                  have h276 : iv 1 1 x257 := ⟨by have := (h_x257).1; have := ((iv_c (c := 0) (n := 0) (by decide))).1; have := ((iv_c (c := 0) (n := 0) (by decide))).2; omega, by have := (h_x257).2; have := ((iv_c (c := 0) (n := 0) (by decide))).1; have := ((iv_c (c := 0) (n := 0) (by decide))).2; omega⟩
                  refine lv_aload_n hx hb dX12_isPointHere_103 rfl (lv_at hl 3 rfl) ?_
                  refine tw_getr hx hb hW hown hK hS f_X12_26_11 hz_a0 hk_a0 (t := 14) (n := 120) rfl dX12_isPointHere_104 (fun b277 k278 hz_b277 hk_b277 hn_b277 => ?_)
                  have hn_b277 := hn_b277 (by decide)
                  refine lv_bipush (v := 10) hx hb dX12_isPointHere_107 (by decide) ?_
                  refine lv_aload_n hx hb dX12_isPointHere_109 rfl (lv_at hl 3 rfl) ?_
                  have k279 : M254 a0 8 = x26 := ((Fr.kp (k := 8) f251 hk_a0 rfl).trans ((Fr.kp (k := 8) f232 hk_a0 rfl).trans (Fr.kp (k := 8) f47 hk_a0 rfl))).trans k27
                  refine tw_getk hx hb hW hown hK hS f_X12_254_11 hz_a0 hk_a0 (v := x26) k279 dX12_isPointHere_110 ?_
                  refine tw_icmul (k := 10) (lo := 0) (hi := 110) hx hb (by decide) h_x26 (by decide) ⟨by decide, by decide⟩ ⟨by decide, by decide⟩ dX12_isPointHere_113 (fun x282 e281 h280 => ?_)
                  refine lv_iload_n hx hb dX12_isPointHere_114 rfl (lv_at hl 2 rfl) ?_
                  refine tw_iadd (lo := 0) (hi := 119) hx hb h280 h42 ⟨by decide, by decide⟩ ⟨by decide, by decide⟩ dX12_isPointHere_115 (fun x285 e284 h283 => ?_)
                  refine lv_iload_n hx hb dX12_isPointHere_116 rfl (lv_at hl 1 rfl) ?_
                  refine lv_bipush (v := 45) hx hb dX12_isPointHere_117 (by decide) ?_
                  refine lv_icmp_ne (tgt := 130) hx hb dX12_isPointHere_119 (by decide) (fun c286 => False.elim (by have q : ¬ x53.toInt = 45 := ti_ne c286; have := (h227).1; have := (h227).2; omega)) (fun c286 => ?_)
                  have q287 : x53.toInt = 45 := ti_eq c286
                  refine lv_aload_n hx hb dX12_isPointHere_122 rfl (lv_at hl 3 rfl) ?_
                  refine tw_getk hx hb hW hown hK hS f_X12_152_11 hz_a0 hk_a0 (v := x268) k269 dX12_isPointHere_123 ?_
                  refine lv_ineg hx hb dX12_isPointHere_126 ?_
                  refine tw_top (fun x289 => ?_)
                  have h288 := iv_any x289
                  refine lv_goto (tgt := 134) hx hb dX12_isPointHere_127 (by decide) ?_
                  refine tw_iast hx hb hK hS hz_b277 hk_b277 (Or.inl rfl) hn_b277 h283 ⟨by decide, by decide⟩ h288 (rg_s14 ⟨by decide, by decide⟩) (jl := 0) (jh := 1999999) ⟨by decide, by decide⟩ rfl dX12_isPointHere_134 (fun H locs M292 hS k290 f291 => ?_)
                  refine tw_iinc (lv' := fun x295 => [(2, .int x295), (4, .int 1), (3, .int x53), (0, .ref (base + a0)), (1, .int a1)]) (lo := 1) (hi := 10) hx hb dX12_isPointHere_135 hl (k := 2) rfl h42 (by decide) ⟨by decide, by decide⟩ ⟨by decide, by decide⟩ (by decide) (fun _ => rfl) (fun x295 ls e294 h293 hl => ?_)
                  refine lv_goto (tgt := 22) hx hb dX12_isPointHere_138 (by decide) ?_
                  have k296 : M292 a0 13 = x263 := (Fr.kp (k := 13) f291 hk_a0 rfl).trans k261
                  have k297 : M292 a0 8 = x26 := (Fr.kp (k := 8) f291 hk_a0 rfl).trans k279
                  have w298 : nx.toInt ≤ x263.toInt ∧ x263.toInt ≤ tp.toInt := by
                    have := (h_a1).1; have := (h_a1).2; have := (h_nx).1; have := (h_nx).2; have := (h3).1; have := (h3).2; have := (h_tp).1; have := (h_tp).2; have := (h13).1; have := (h13).2; have := (h233).1; have := (h233).2; have := (h_x24).1; have := (h_x24).2; have := (h276).1; have := (h276).2; have := (h262).1; have := (h262).2; have := (h227).1; have := (h227).2; have := (h56).1; have := (h56).2; omega
                  have hm299 : 10 - x295.toInt < (n_19 : Int) := by
                    have := (h_a1).1; have := (h_a1).2; have := (h_nx).1; have := (h_nx).2; have := (h3).1; have := (h3).2; have := (h_tp).1; have := (h_tp).2; have := (h42).1; have := (h42).2; have := (h283).1; have := (h283).2; have := (h293).1; have := (h293).2; omega
                  exact ih_19 x295 x263 x26 M292 R20 J253 H locs _ (iv_mono h293 (by decide) (by decide)) h262 k296 h_x26 k297 w298 hm299 hS (lv_sub hl [0, 3, 4] rfl)
                · have q300 : x257.toInt = 0 := ti_eq c274
                  have z301 := z273 c274
                  have h302 : iv 0 0 x257 := ⟨by have := (h_x257).1; have := ((iv_c (c := 0) (n := 0) (by decide))).1; omega, by have := (h_x257).2; have := ((iv_c (c := 0) (n := 0) (by decide))).2; omega⟩
                  refine lv_iconst (v := 0) hx hb dX12_isPointHere_101 (by decide) ?_
                  have q303 : nx.toInt ≤ x263.toInt ∧ x263.toInt ≤ tp.toInt := by
                    have := (h_a1).1; have := (h_a1).2; have := (h_nx).1; have := (h_nx).2; have := (h3).1; have := (h3).2; have := (h_tp).1; have := (h_tp).2; have := (h13).1; have := (h13).2; have := (h233).1; have := (h233).2; have := (h_x24).1; have := (h_x24).2; have := (h302).1; have := (h302).2; have := (h262).1; have := (h262).2; have := (h227).1; have := (h227).2; have := (h56).1; have := (h56).2; omega
                  exact tw_endz hx hb hr hlocks hK hT hS hQ rfl (⟨(iv_mono (iv_c (c := 0) (n := 0) (by decide)) (by decide) (by decide)), ⟨x263, k261, h262, q303⟩, (fun _ => (show ¬ (M254 a0 14).toInt = 0 from z301))⟩) dX12_isPointHere_102
              · have q304 : x241.toInt = 0 := ti_eq c242
                have h305 : iv 0 0 x241 := ⟨by have := (h_x241).1; have := ((iv_c (c := 0) (n := 0) (by decide))).1; omega, by have := (h_x241).2; have := ((iv_c (c := 0) (n := 0) (by decide))).2; omega⟩
                refine lv_aload_n hx hb dX12_isPointHere_81 rfl (lv_at hl 3 rfl) ?_
                refine lv_iconst (v := 0) hx hb dX12_isPointHere_82 (by decide) ?_
                refine lv_aload_n hx hb dX12_isPointHere_83 rfl (lv_at hl 3 rfl) ?_
                refine tw_getk hx hb hW hown hK hS f_X12_127_11 hz_a0 hk_a0 (v := x230) k231 dX12_isPointHere_84 ?_
                refine tw_goi hS (md_runV (As := [.int 0, .int x230]) (rest := []) hx hb hml hown hW hK hT hS.1 (t_X12_fails l D cy tx base Z K N M234 R20 J237 hS.2.1 a0 hz_a0 hk_a0 0 (iv_mono (iv_c (c := 0) (n := 0) (by decide)) (by decide) (by decide)) x230 h233) s_X12_148 ⟨rfl, rfl, ⟨Nat.le_of_ble_eq_true rfl, Nat.le_of_ble_eq_true rfl⟩, ⟨Nat.le_of_ble_eq_true rfl, Nat.le_of_ble_eq_true rfl⟩⟩ hz_a0 hk_a0 (by decide) rfl rfl hl.1 rfl (Nat.le_of_ble_eq_true rfl) dX12_isPointHere_87) rfl rfl (fun x312 H locs M309 R310 J308 hS f306 g307 E311 => ?_)
                have eR310 := Fr.nil g307 rfl
                subst eR310
                obtain ⟨h_x312, p313⟩ := E311
                have z314 : x312 = 0 → ¬ (M309 a0 14).toInt = 0 := p313
                have z315 := z314 (iv0 h_x312)
                have k316 : M309 a0 13 = x230 := (Fr.kp (k := 13) f306 hk_a0 rfl).trans k231
                have q317 : nx.toInt ≤ x230.toInt ∧ x230.toInt ≤ tp.toInt := by
                  have := (h_a1).1; have := (h_a1).2; have := (h_nx).1; have := (h_nx).2; have := (h3).1; have := (h3).2; have := (h_tp).1; have := (h_tp).2; have := (h13).1; have := (h13).2; have := (h233).1; have := (h233).2; have := (h_x24).1; have := (h_x24).2; have := (h227).1; have := (h227).2; have := (h56).1; have := (h56).2; omega
                exact tw_endz hx hb hr hlocks hK hT hS hQ (nar_b (iv_mono h_x312 (by decide) (by decide))) (⟨(iv_mono h_x312 (by decide) (by decide)), ⟨x230, k316, h233, q317⟩, (fun _ => (show ¬ (M309 a0 14).toInt = 0 from z315))⟩) dX12_isPointHere_90
    have k318 : M8 a0 8 = pr := (Fr.kp (k := 8) f5 hk_a0 rfl).trans k_pr
    have w319 : nx.toInt ≤ x14.toInt ∧ x14.toInt ≤ tp.toInt := by
      have := (h_a1).1; have := (h_a1).2; have := (h_nx).1; have := (h_nx).2; have := (h3).1; have := (h3).2; have := (h_tp).1; have := (h_tp).2; have := (h13).1; have := (h13).2; omega
    have hm320 : 10 - (0 : Int32).toInt < (((11 : Nat) : Int) : Int) := by
      have := (h_a1).1; have := (h_a1).2; have := (h_nx).1; have := (h_nx).2; have := (h3).1; have := (h3).2; have := (h_tp).1; have := (h_tp).2; have : (0 : Int32).toInt = 0 := (by decide); omega
    exact W22_19 11 0 x14 pr M8 Ra J7 H locs _ (iv_mono (iv_c (c := 0) (n := 0) (by decide)) (by decide) (by decide)) h13 k12 h3 k318 w319 hm320 hS hl
  · have q321 : pr.toInt = 12 := ti_eq c1
    have h322 : iv 12 12 pr := ⟨by have := (h_pr).1; have := ((iv_c (c := 12) (n := 12) (by decide))).1; omega, by have := (h_pr).2; have := ((iv_c (c := 12) (n := 12) (by decide))).2; omega⟩
    refine lv_aload_n hx hb dX12_isPointHere_9 rfl (lv_at hl 0 rfl) ?_
    refine lv_iconst (v := 4) hx hb dX12_isPointHere_10 (by decide) ?_
    refine lv_iload_n hx hb dX12_isPointHere_11 rfl (lv_at hl 1 rfl) ?_
    refine tw_goi hS (md_runV (As := [.int 4, .int a1]) (rest := []) hx hb hml hown hW hK hT hS.1 (t_X12_fails l D cy tx base Z K N Ma Ra Ja hS.2.1 a0 hz_a0 hk_a0 4 (iv_mono (iv_c (c := 4) (n := 4) (by decide)) (by decide) (by decide)) a1 h_a1) s_X12_148 ⟨rfl, rfl, ⟨Nat.le_of_ble_eq_true rfl, Nat.le_of_ble_eq_true rfl⟩, ⟨Nat.le_of_ble_eq_true rfl, Nat.le_of_ble_eq_true rfl⟩⟩ hz_a0 hk_a0 (by decide) rfl rfl hl.1 rfl (Nat.le_of_ble_eq_true rfl) dX12_isPointHere_12) rfl rfl (fun x329 H locs M326 R327 J325 hS f323 g324 E328 => ?_)
    have eR327 := Fr.nil g324 rfl
    subst eR327
    obtain ⟨h_x329, p330⟩ := E328
    have z331 : x329 = 0 → ¬ (M326 a0 14).toInt = 0 := p330
    have z332 := z331 (iv0 h_x329)
    have k333 : M326 a0 13 = nx := (Fr.kp (k := 13) f323 hk_a0 rfl).trans k_nx
    have q334 : nx.toInt ≤ nx.toInt ∧ nx.toInt ≤ tp.toInt := by
      have := (h_a1).1; have := (h_a1).2; have := (h_nx).1; have := (h_nx).2; have := (h322).1; have := (h322).2; have := (h_tp).1; have := (h_tp).2; omega
    exact tw_endz hx hb hr hlocks hK hT hS hQ (nar_b (iv_mono h_x329 (by decide) (by decide))) (⟨(iv_mono h_x329 (by decide) (by decide)), ⟨nx, k333, h_nx, q334⟩, (fun _ => (show ¬ (M326 a0 14).toInt = 0 from z332))⟩) dX12_isPointHere_15
def Lt_X12_isWord : WL := [(12, 13, 14)]
def LRt_X12_isWord : WL := []
set_option maxRecDepth 100000 in
set_option maxHeartbeats 4000000 in
theorem t_X12_isWord (l : Launch) (D : va_G) (cy : Nat → ClassId) (tx : (Nat → Nat) × (Nat → Nat)) (base Z : Nat) (K N : Nat → Nat) (Ma : MT) (Ra : RT) (Ja : JT) (hTy : Ty Z K N Ma Ra) (a0 : Nat) (hz_a0 : a0 < Z) (hk_a0 : K a0 = 12) (a1 : Int64) (tb : Nat) (k_tb : Ra a0 0 = some tb) (nx : Int32) (k_nx : Ma a0 13 = nx) (h_nx : iv 0 400 nx) (tp : Int32) (k_tp : Ma a0 1 = tp) (h_tp : iv 0 400 tp) (hnt : nx.toInt ≤ tp.toInt) : Met l yX12_isWord [Cond.code yX12_isWord cX12_isWord 6 (some .boolean)] (md_rm 2 0 0) (va_Pc [.ref (base + a0), .long a1] (md_U D cy tx base Z K N Ma Ra Ja)) (mQi D cy tx base (fun r u => TP Z K N Lt_X12_isWord LRt_X12_isWord Ma Ra u ∧ (iv 0 1 r ∧ (∃ x0 : Int32, u.2.2.2.1 a0 13 = x0 ∧ iv 0 400 x0 ∧ (nx.toInt ≤ x0.toInt ∧ x0.toInt ≤ tp.toInt) ∧ (∀ j : Nat, j = nx.toNatClampNeg → nx.toInt < tp.toInt ∧ ¬ (Ma tb j).toInt = 32 → x0.toInt = nx.toInt) ∧ (¬ r = 0 → chF 97 122 Ma tb x0 tp))))) 0 0 (fun q => base ≤ q) := by
  refine tw_ofW (L := Lt_X12_isWord) (LR := LRt_X12_isWord) (by decide) (Nat.le_of_ble_eq_true rfl) hTy ?_
  intro p e s m args below meth c Q ls hx hb hr hlocks hown hml hW hK hT hS hQ hl
  have hl : lv_has ls 6 [(0, .ref (base + a0)), (1, .long a1)] := hl
  obtain ⟨hz_tb, hk_tb, hn_tb⟩ := hTy.refn hz_a0 hk_a0 (show rtR 12 0 = (13, 400, 0) from rfl) k_tb
  have hn_tb := hn_tb (by decide)
  refine lv_aload_n hx hb dX12_isWord_0 rfl (lv_at hl 0 rfl) ?_
  have q1 : nx.toInt ≤ tp.toInt := by
    have := (h_nx).1; have := (h_nx).2; have := (h_tp).1; have := (h_tp).2; omega
  refine tw_goi hS (md_runV (As := []) (rest := []) hx hb hml hown hW hK hT hS.1 (t_X12_see l D cy tx base Z K N Ma Ra Ja hS.2.1 a0 hz_a0 hk_a0 tb k_tb nx k_nx (iv_mono h_nx (by decide) (by decide)) tp k_tp (iv_mono h_tp (by decide) (by decide)) q1) s_X12_130 ⟨rfl, rfl, ⟨Nat.le_of_ble_eq_true rfl, Nat.le_of_ble_eq_true rfl⟩, ⟨Nat.le_of_ble_eq_true rfl, Nat.le_of_ble_eq_true rfl⟩⟩ hz_a0 hk_a0 (by decide) rfl rfl hl.1 rfl (Nat.le_of_ble_eq_true rfl) dX12_isWord_1) rfl rfl (fun x8 H locs M5 R6 J4 hS f2 g3 E7 => ?_)
  have eR6 := Fr.nil g3 rfl
  subst eR6
  obtain ⟨h_x8, p9⟩ := E7
  obtain ⟨x12, k10, h11, q13, z14, z15⟩ := p9
  have k10 : M5 a0 13 = x12 := k10
  have z15 : ∀ j : Nat, j = x12.toNatClampNeg → x8.toInt = -1 ∨ ¬ (M5 tb j).toInt = 32 := z15
  refine lv_pop hx hb dX12_isWord_4 rfl ?_
  refine lv_lconst (v := 0) hx hb dX12_isWord_5 (by decide) ?_
  refine lv_lstore_n (lv' := [(3, .long 0), (0, .ref (base + a0)), (1, .long a1)]) hx hb dX12_isWord_6 rfl hl (by decide) rfl (fun ls hl => ?_)
  refine lv_iconst (v := 0) hx hb dX12_isWord_7 (by decide) ?_
  refine lv_istore (lv' := [(5, .int 0), (3, .long 0), (0, .ref (base + a0)), (1, .long a1)]) hx hb dX12_isWord_8 hl (by decide) rfl (fun ls hl => ?_)
  have W10_18 : ∀ (n_18 : Nat) (x16 : Int64) (x17 : Int32) (x23 : Int32) (M18 : MT) (R19 : RT) (J20 : JT) (H : Heap) (locs : List Loc) (ls : Array Slot) (h_x17 : iv 0 400 x17) (h_x23 : iv 0 400 x23) (k24 : M18 a0 13 = x23) (w0_18 : nx.toInt ≤ x23.toInt ∧ x23.toInt + x17.toInt ≤ tp.toInt) (w1_18 : x17.toInt = 0 ∨ chF 97 122 Ma tb x23 tp) (w2_18 : (∀ j : Nat, j = nx.toNatClampNeg → nx.toInt < tp.toInt ∧ ¬ (Ma tb j).toInt = 32 → x23.toInt = nx.toInt)) (hm_18 : 400 - x17.toInt < (n_18 : Int)) (hS : SB D cy base Z K N Lt_X12_isWord LRt_X12_isWord Ma Ra M18 R19 J20 s H locs) (hl : lv_has ls 6 [(3, .long x16), (5, .int x17), (0, .ref (base + a0)), (1, .long a1)]), W p l e (md_rm 2 0 0) s m args below meth c H locs 0 0 Q (F0 m 10 ls []) := by
    intro n_18
    induction n_18 with
    | zero =>
      intro x16 x17 x23 M18 R19 J20 H locs ls h_x17 h_x23 k24 w0_18 w1_18 w2_18 hm_18 hS hl
      exfalso
      have := (h_nx).1; have := (h_nx).2; have := (h_tp).1; have := (h_tp).2; have := (h11).1; have := (h11).2; have := (h_x17).1; have := (h_x17).2; have := (h_x23).1; have := (h_x23).2; omega
    | succ n_18 ih_18 =>
      intro x16 x17 x23 M18 R19 J20 H locs ls h_x17 h_x23 k24 w0_18 w1_18 w2_18 hm_18 hS hl
      have f21 := hS.2.2.1
      have g22 := hS.2.2.2
      refine lv_aload_n hx hb dX12_isWord_10 rfl (lv_at hl 2 rfl) ?_
      refine lv_aload_n hx hb dX12_isWord_11 rfl (lv_at hl 2 rfl) ?_
      refine tw_getk hx hb hW hown hK hS f_X12_127_11 hz_a0 hk_a0 (v := x23) k24 dX12_isWord_12 ?_
      refine lv_iload hx hb dX12_isWord_15 (lv_at hl 1 rfl) ?_
      refine tw_iadd (lo := 0) (hi := 800) hx hb h_x23 h_x17 ⟨by decide, by decide⟩ ⟨by decide, by decide⟩ dX12_isWord_17 (fun x27 e26 h25 => ?_)
      have h28 : iv 0 400 x27 := by
        have := (h_nx).1; have := (h_nx).2; have := (h_tp).1; have := (h_tp).2; have := (h11).1; have := (h11).2; have := (h_x17).1; have := (h_x17).2; have := (h_x23).1; have := (h_x23).2; have := (h25).1; have := (h25).2; exact ⟨by omega, by omega⟩
      have k29 : R19 a0 0 = some tb := (Fr.kp (k := 0) g22 hk_a0 rfl).trans k_tb
      have k30 : M18 a0 1 = tp := (Fr.kp (k := 1) f21 hk_a0 rfl).trans k_tp
      refine tw_goi hS (md_runV (As := [.int x27]) (rest := []) hx hb hml hown hW hK hT hS.1 (t_X12_isLetter l D cy tx base Z K N M18 R19 J20 hS.2.1 a0 hz_a0 hk_a0 x27 h28 tb k29 tp k30 (iv_mono h_tp (by decide) (by decide))) s_X12_134 ⟨rfl, rfl, ⟨Nat.le_of_ble_eq_true rfl, Nat.le_of_ble_eq_true rfl⟩, ⟨Nat.le_of_ble_eq_true rfl, Nat.le_of_ble_eq_true rfl⟩⟩ hz_a0 hk_a0 (by decide) rfl rfl hl.1 rfl (Nat.le_of_ble_eq_true rfl) dX12_isWord_18) rfl rfl (fun x37 H locs M34 R35 J33 hS f31 g32 E36 => ?_)
      have eM34 := Fr.nil f31 rfl
      subst eM34
      have eR35 := Fr.nil g32 rfl
      subst eR35
      obtain ⟨h_x37, p38⟩ := E36
      have z39 : ¬ x37 = 0 → chF 97 122 Ma tb x27 tp := fun h => chF.rf (p38.1 h) hS.2.2.1 hk_tb rfl
      have z40 : x37 = 0 → ¬ chF 97 122 Ma tb x27 tp := fun h q => p38.2 h (chF.fr q hS.2.2.1 hk_tb rfl)
      refine lv_if_eq (tgt := 56) hx hb dX12_isWord_21 (by decide) (fun c41 => ?_) (fun c41 => ?_)
      · have q42 : x37.toInt = 0 := ti_eq c41
        have z43 := z40 c41
        have h44 : iv 0 0 x37 := ⟨by have := (h_x37).1; have := ((iv_c (c := 0) (n := 0) (by decide))).1; omega, by have := (h_x37).2; have := ((iv_c (c := 0) (n := 0) (by decide))).2; omega⟩
        refine lv_iload hx hb dX12_isWord_56 (lv_at hl 1 rfl) ?_
        refine lv_if_le (tgt := 78) hx hb dX12_isWord_58 (by decide) (fun c45 => ?_) (fun c45 => ?_)
        · have q46 : x17.toInt ≤ 0 := ti_le c45
          have h47 : iv 0 0 x17 := iv_leL (y := 0) h_x17 (iv_c (c := 0) (n := 0) (by decide)) q46 (by decide)
          refine lv_iconst (v := 0) hx hb dX12_isWord_78 (by decide) ?_
          have q48 : nx.toInt ≤ x23.toInt ∧ x23.toInt ≤ tp.toInt := by
            have := (h_nx).1; have := (h_nx).2; have := (h_tp).1; have := (h_tp).2; have := (h11).1; have := (h11).2; have := (h47).1; have := (h47).2; have := (h_x23).1; have := (h_x23).2; have := (h25).1; have := (h25).2; omega
          exact tw_endz hx hb hr hlocks hK hT hS hQ rfl (⟨(iv_mono (iv_c (c := 0) (n := 0) (by decide)) (by decide) (by decide)), ⟨x23, k24, h_x23, q48, w2_18, (fun h => absurd rfl h)⟩⟩) dX12_isWord_79
        · have q49 : 0 < x17.toInt := ti_nle c45
          have h50 : iv 1 400 x17 := iv_gtL (y := 0) h_x17 (iv_c (c := 0) (n := 0) (by decide)) q49 (by decide)
          refine lv_iload hx hb dX12_isWord_61 (lv_at hl 1 rfl) ?_
          refine lv_bipush (v := 8) hx hb dX12_isWord_63 (by decide) ?_
          refine lv_icmp_ge (tgt := 78) hx hb dX12_isWord_65 (by decide) (fun c51 => ?_) (fun c51 => ?_)
          · have q52 : 8 ≤ x17.toInt := ti_le c51
            have h53 : iv 8 400 x17 := iv_geL (y := 8) h50 (iv_c (c := 8) (n := 8) (by decide)) q52 (by decide)
            refine lv_iconst (v := 0) hx hb dX12_isWord_78 (by decide) ?_
            have q54 : nx.toInt ≤ x23.toInt ∧ x23.toInt ≤ tp.toInt := by
              have := (h_nx).1; have := (h_nx).2; have := (h_tp).1; have := (h_tp).2; have := (h11).1; have := (h11).2; have := (h53).1; have := (h53).2; have := (h_x23).1; have := (h_x23).2; have := (h25).1; have := (h25).2; omega
            exact tw_endz hx hb hr hlocks hK hT hS hQ rfl (⟨(iv_mono (iv_c (c := 0) (n := 0) (by decide)) (by decide) (by decide)), ⟨x23, k24, h_x23, q54, w2_18, (fun h => absurd rfl h)⟩⟩) dX12_isWord_79
          · have q55 : x17.toInt < 8 := ti_nle c51
            have h56 : iv 1 7 x17 := iv_ltL (y := 8) h50 (iv_c (c := 8) (n := 8) (by decide)) q55 (by decide)
            refine lv_lload_n hx hb dX12_isWord_68 rfl (lv_at hl 0 rfl) ?_
            refine lv_lload_n hx hb dX12_isWord_69 rfl (lv_at hl 3 rfl) ?_
            refine W.lcmp hx hb dX12_isWord_70 ?_
            refine lv_topi (fun x59 e58 => ?_)
            have h57 := iv_any x59
            refine lv_if_ne (tgt := 78) hx hb dX12_isWord_71 (by decide) (fun c60 => ?_) (fun c60 => ?_)
            · have q61 : ¬ x59.toInt = 0 := ti_ne c60
              have n62 := md_lne e58 c60
              refine lv_iconst (v := 0) hx hb dX12_isWord_78 (by decide) ?_
              have q63 : nx.toInt ≤ x23.toInt ∧ x23.toInt ≤ tp.toInt := by
                have := (h_nx).1; have := (h_nx).2; have := (h_tp).1; have := (h_tp).2; have := (h11).1; have := (h11).2; have := (h56).1; have := (h56).2; have := (h_x23).1; have := (h_x23).2; have := (h25).1; have := (h25).2; omega
              exact tw_endz hx hb hr hlocks hK hT hS hQ rfl (⟨(iv_mono (iv_c (c := 0) (n := 0) (by decide)) (by decide) (by decide)), ⟨x23, k24, h_x23, q63, w2_18, (fun h => absurd rfl h)⟩⟩) dX12_isWord_79
            · have q64 : x59.toInt = 0 := ti_eq c60
              have h65 : iv 0 0 x59 := ⟨by have := (h57).1; have := ((iv_c (c := 0) (n := 0) (by decide))).1; omega, by have := (h57).2; have := ((iv_c (c := 0) (n := 0) (by decide))).2; omega⟩
              refine lv_iconst (v := 1) hx hb dX12_isWord_74 (by decide) ?_
              refine lv_goto (tgt := 79) hx hb dX12_isWord_75 (by decide) ?_
              have q66 : nx.toInt ≤ x23.toInt ∧ x23.toInt ≤ tp.toInt := by
                have := (h_nx).1; have := (h_nx).2; have := (h_tp).1; have := (h_tp).2; have := (h11).1; have := (h11).2; have := (h56).1; have := (h56).2; have := (h_x23).1; have := (h_x23).2; have := (h25).1; have := (h25).2; omega
              exact tw_endz hx hb hr hlocks hK hT hS hQ rfl (⟨(iv_mono (iv_c (c := 1) (n := 1) (by decide)) (by decide) (by decide)), ⟨x23, k24, h_x23, q66, w2_18, (fun _ => w1_18.resolve_left (by omega))⟩⟩) dX12_isWord_79
      · have q67 : ¬ x37.toInt = 0 := ti_ne c41
        have h68 : iv 1 1 x37 := ⟨by have := (h_x37).1; have := ((iv_c (c := 0) (n := 0) (by decide))).1; have := ((iv_c (c := 0) (n := 0) (by decide))).2; omega, by have := (h_x37).2; have := ((iv_c (c := 0) (n := 0) (by decide))).1; have := ((iv_c (c := 0) (n := 0) (by decide))).2; omega⟩
        have z69 := z39 c41
        have q70 := z69.1
        have h71 : iv 0 399 x27 := iv_ltL (y := tp) h25 h_tp q70 (by decide)
        refine lv_iload hx hb dX12_isWord_24 (lv_at hl 1 rfl) ?_
        refine lv_bipush (v := 8) hx hb dX12_isWord_26 (by decide) ?_
        refine lv_icmp_ge (tgt := 50) hx hb dX12_isWord_28 (by decide) (fun c72 => ?_) (fun c72 => ?_)
        · have q73 : 8 ≤ x17.toInt := ti_le c72
          have h74 : iv 8 400 x17 := iv_geL (y := 8) h_x17 (iv_c (c := 8) (n := 8) (by decide)) q73 (by decide)
          refine tw_iinc (lv' := fun x77 => [(5, .int x77), (3, .long x16), (0, .ref (base + a0)), (1, .long a1)]) (lo := 9) (hi := 401) hx hb dX12_isWord_50 hl (k := 1) rfl h74 (by decide) ⟨by decide, by decide⟩ ⟨by decide, by decide⟩ (by decide) (fun _ => rfl) (fun x77 ls e76 h75 hl => ?_)
          refine lv_goto (tgt := 10) hx hb dX12_isWord_53 (by decide) ?_
          have h78 : iv 0 400 x77 := by
            have := (h_nx).1; have := (h_nx).2; have := (h_tp).1; have := (h_tp).2; have := (h11).1; have := (h11).2; have := (h74).1; have := (h74).2; have := (h_x23).1; have := (h_x23).2; have := (h71).1; have := (h71).2; have := (h75).1; have := (h75).2; exact ⟨by omega, by omega⟩
          have w79 : nx.toInt ≤ x23.toInt ∧ x23.toInt + x77.toInt ≤ tp.toInt := by
            have := (h_nx).1; have := (h_nx).2; have := (h_tp).1; have := (h_tp).2; have := (h11).1; have := (h11).2; have := (h74).1; have := (h74).2; have := (h_x23).1; have := (h_x23).2; have := (h71).1; have := (h71).2; have := (h75).1; have := (h75).2; omega
          have w80 : x77.toInt = 0 ∨ chF 97 122 Ma tb x23 tp := by rcases w1_18 with h | h; (· exact Or.inr (z69.at (by omega))); (· exact Or.inr h)
          have w81 : (∀ j : Nat, j = nx.toNatClampNeg → nx.toInt < tp.toInt ∧ ¬ (Ma tb j).toInt = 32 → x23.toInt = nx.toInt) := w2_18
          have hm82 : 400 - x77.toInt < (n_18 : Int) := by
            have := (h_nx).1; have := (h_nx).2; have := (h_tp).1; have := (h_tp).2; have := (h11).1; have := (h11).2; have := (h74).1; have := (h74).2; have := (h_x23).1; have := (h_x23).2; have := (h71).1; have := (h71).2; have := (h75).1; have := (h75).2; omega
          exact ih_18 (x16) x77 x23 M18 R19 J33 H locs _ h78 h_x23 k24 w79 w80 w81 hm82 hS (lv_sub hl [1, 0, 2, 3] rfl)
        · have q83 : x17.toInt < 8 := ti_nle c72
          have h84 : iv 0 7 x17 := iv_ltL (y := 8) h_x17 (iv_c (c := 8) (n := 8) (by decide)) q83 (by decide)
          refine lv_lload_n hx hb dX12_isWord_31 rfl (lv_at hl 0 rfl) ?_
          refine lv_bipush (v := 8) hx hb dX12_isWord_32 (by decide) ?_
          refine lv_lshl hx hb dX12_isWord_34 rfl ?_
          refine tw_topl (fun x85 => ?_)
          refine lv_aload_n hx hb dX12_isWord_35 rfl (lv_at hl 2 rfl) ?_
          have k86 : R19 a0 0 = some tb := (Fr.kp (k := 0) g22 hk_a0 rfl).trans k_tb
          refine tw_getrk hx hb hW hown hK hS f_X12_7_11 hz_a0 hk_a0 (b := tb) k86 dX12_isWord_36 ?_
          refine lv_aload_n hx hb dX12_isWord_39 rfl (lv_at hl 2 rfl) ?_
          refine tw_getk hx hb hW hown hK hS f_X12_127_11 hz_a0 hk_a0 (v := x23) k24 dX12_isWord_40 ?_
          refine lv_iload hx hb dX12_isWord_43 (lv_at hl 1 rfl) ?_
          refine tw_iadd (lo := 0) (hi := 407) hx hb h_x23 h84 ⟨by decide, by decide⟩ ⟨by decide, by decide⟩ dX12_isWord_45 (fun x89 e88 h87 => ?_)
          have h90 : iv 0 399 x89 := by
            have := (h_nx).1; have := (h_nx).2; have := (h_tp).1; have := (h_tp).2; have := (h11).1; have := (h11).2; have := (h84).1; have := (h84).2; have := (h_x23).1; have := (h_x23).2; have := (h71).1; have := (h71).2; have := (h87).1; have := (h87).2; exact ⟨by omega, by omega⟩
          refine tw_bald hx hb hK hS hz_tb hk_tb hn_tb h90 ⟨by decide, by decide⟩ dX12_isWord_46 (fun x93 k92 => ?_)
          have h91 := iv_any x93
          refine lv_i2l hx hb dX12_isWord_47 rfl ?_
          refine lv_lor hx hb dX12_isWord_48 ?_
          refine tw_topl (fun x94 => ?_)
          refine lv_lstore_n (lv' := [(3, .long x94), (5, .int x17), (0, .ref (base + a0)), (1, .long a1)]) hx hb dX12_isWord_49 rfl hl (by decide) rfl (fun ls hl => ?_)
          refine tw_iinc (lv' := fun x97 => [(5, .int x97), (3, .long x94), (0, .ref (base + a0)), (1, .long a1)]) (lo := 1) (hi := 8) hx hb dX12_isWord_50 hl (k := 1) rfl h84 (by decide) ⟨by decide, by decide⟩ ⟨by decide, by decide⟩ (by decide) (fun _ => rfl) (fun x97 ls e96 h95 hl => ?_)
          refine lv_goto (tgt := 10) hx hb dX12_isWord_53 (by decide) ?_
          have w98 : nx.toInt ≤ x23.toInt ∧ x23.toInt + x97.toInt ≤ tp.toInt := by
            have := (h_nx).1; have := (h_nx).2; have := (h_tp).1; have := (h_tp).2; have := (h11).1; have := (h11).2; have := (h84).1; have := (h84).2; have := (h_x23).1; have := (h_x23).2; have := (h71).1; have := (h71).2; have := (h90).1; have := (h90).2; have := (h95).1; have := (h95).2; omega
          have w99 : x97.toInt = 0 ∨ chF 97 122 Ma tb x23 tp := by rcases w1_18 with h | h; (· exact Or.inr (z69.at (by omega))); (· exact Or.inr h)
          have w100 : (∀ j : Nat, j = nx.toNatClampNeg → nx.toInt < tp.toInt ∧ ¬ (Ma tb j).toInt = 32 → x23.toInt = nx.toInt) := w2_18
          have hm101 : 400 - x97.toInt < (n_18 : Int) := by
            have := (h_nx).1; have := (h_nx).2; have := (h_tp).1; have := (h_tp).2; have := (h11).1; have := (h11).2; have := (h84).1; have := (h84).2; have := (h_x23).1; have := (h_x23).2; have := (h71).1; have := (h71).2; have := (h90).1; have := (h90).2; have := (h95).1; have := (h95).2; omega
          exact ih_18 (x94) x97 x23 M18 R19 J33 H locs _ (iv_mono h95 (by decide) (by decide)) h_x23 k24 w98 w99 w100 hm101 hS (lv_sub hl [1, 0, 2, 3] rfl)
  have w102 : nx.toInt ≤ x12.toInt ∧ x12.toInt + (0 : Int32).toInt ≤ tp.toInt := by
    have := (h_nx).1; have := (h_nx).2; have := (h_tp).1; have := (h_tp).2; have := (h11).1; have := (h11).2; have := (h_x8).1; have := (h_x8).2; have : (0 : Int32).toInt = 0 := (by decide); omega
  have w103 : (0 : Int32).toInt = 0 ∨ chF 97 122 Ma tb x12 tp := Or.inl (by decide)
  have w104 : (∀ j : Nat, j = nx.toNatClampNeg → nx.toInt < tp.toInt ∧ ¬ (Ma tb j).toInt = 32 → x12.toInt = nx.toInt) := z14
  have hm105 : 400 - (0 : Int32).toInt < (((401 : Nat) : Int) : Int) := by
    have := (h_nx).1; have := (h_nx).2; have := (h_tp).1; have := (h_tp).2; have : (0 : Int32).toInt = 0 := (by decide); omega
  exact W10_18 401 (0) 0 x12 M5 Ra J4 H locs _ (iv_mono (iv_c (c := 0) (n := 0) (by decide)) (by decide) (by decide)) h11 k10 w102 w103 w104 hm105 hS (lv_sub hl [1, 0, 2, 3] rfl)
def Lt_X12_councilLineHere : WL := [(12, 7, 10), (12, 13, 16), (14, 0, 2000000), (35, 0, 2000000)]
def LRt_X12_councilLineHere : WL := []
set_option maxRecDepth 100000 in
set_option maxHeartbeats 4000000 in
theorem t_X12_councilLineHere (l : Launch) (D : va_G) (cy : Nat → ClassId) (tx : (Nat → Nat) × (Nat → Nat)) (base Z : Nat) (K N : Nat → Nat) (Ma : MT) (Ra : RT) (Ja : JT) (hTy : Ty Z K N Ma Ra) (a0 : Nat) (hz_a0 : a0 < Z) (hk_a0 : K a0 = 12) (a1 : Int32) (h_a1 : iv 0 400 a1) (tb : Nat) (k_tb : Ra a0 0 = some tb) (nx : Int32) (k_nx : Ma a0 13 = nx) (h_nx : iv 0 400 nx) (tp : Int32) (k_tp : Ma a0 1 = tp) (h_tp : iv 0 400 tp) (hnt : nx.toInt ≤ tp.toInt) : Met l yX12_councilLineHere [Cond.code yX12_councilLineHere cX12_councilLineHere 2 (some .boolean)] (md_rm 4 0 0) (va_Pc [.ref (base + a0), .int a1] (md_U D cy tx base Z K N Ma Ra Ja)) (mQi D cy tx base (fun r u => TP Z K N Lt_X12_councilLineHere LRt_X12_councilLineHere Ma Ra u ∧ (iv 0 1 r ∧ (∃ x0 : Int32, u.2.2.2.1 a0 13 = x0 ∧ iv 0 400 x0 ∧ (nx.toInt ≤ x0.toInt ∧ x0.toInt ≤ tp.toInt)) ∧ (r = 0 → ¬ (u.2.2.2.1 a0 14).toInt = 0)))) 0 0 (fun q => base ≤ q) := by
  refine tw_ofW (L := Lt_X12_councilLineHere) (LR := LRt_X12_councilLineHere) (by decide) (Nat.le_of_ble_eq_true rfl) hTy ?_
  intro p e s m args below meth c Q ls hx hb hr hlocks hown hml hW hK hT hS hQ hl
  have hl : lv_has ls 2 [(0, .ref (base + a0)), (1, .int a1)] := hl
  obtain ⟨hz_tb, hk_tb, hn_tb⟩ := hTy.refn hz_a0 hk_a0 (show rtR 12 0 = (13, 400, 0) from rfl) k_tb
  have hn_tb := hn_tb (by decide)
  refine lv_aload_n hx hb dX12_councilLineHere_0 rfl (lv_at hl 0 rfl) ?_
  refine lv_ldc2 hx hb hown (hW _ w_6_235 rfl) dX12_councilLineHere_1 ?_
  have q1 : nx.toInt ≤ tp.toInt := by
    have := (h_a1).1; have := (h_a1).2; have := (h_nx).1; have := (h_nx).2; have := (h_tp).1; have := (h_tp).2; omega
  refine tw_goi hS (md_runV (As := [.long 30792292938117747]) (rest := []) hx hb hml hown hW hK hT hS.1 (t_X12_isWord l D cy tx base Z K N Ma Ra Ja hS.2.1 a0 hz_a0 hk_a0 (30792292938117747) tb k_tb nx k_nx (iv_mono h_nx (by decide) (by decide)) tp k_tp (iv_mono h_tp (by decide) (by decide)) q1) s_X12_138 ⟨rfl, rfl, ⟨Nat.le_of_ble_eq_true rfl, Nat.le_of_ble_eq_true rfl⟩, ⟨Nat.le_of_ble_eq_true rfl, Nat.le_of_ble_eq_true rfl⟩⟩ hz_a0 hk_a0 (by decide) rfl rfl hl.1 rfl (Nat.le_of_ble_eq_true rfl) dX12_councilLineHere_4) rfl rfl (fun x8 H locs M5 R6 J4 hS f2 g3 E7 => ?_)
  have eR6 := Fr.nil g3 rfl
  subst eR6
  obtain ⟨h_x8, p9⟩ := E7
  obtain ⟨x12, k10, h11, q13, z14, z15⟩ := p9
  have k10 : M5 a0 13 = x12 := k10
  have z16 : ¬ x8 = 0 → chF 97 122 Ma tb x12 tp := fun h => chF.rf (chF.fr (z15 h) f2 hk_tb rfl) hS.2.2.1 hk_tb rfl
  refine lv_if_eq (tgt := 16) hx hb dX12_councilLineHere_7 (by decide) (fun c17 => ?_) (fun c17 => ?_)
  · have q18 : x8.toInt = 0 := ti_eq c17
    have h19 : iv 0 0 x8 := ⟨by have := (h_x8).1; have := ((iv_c (c := 0) (n := 0) (by decide))).1; omega, by have := (h_x8).2; have := ((iv_c (c := 0) (n := 0) (by decide))).2; omega⟩
    refine lv_aload_n hx hb dX12_councilLineHere_16 rfl (lv_at hl 0 rfl) ?_
    refine tw_geti hx hb hW hown hK hS f_X12_251_11 hz_a0 hk_a0 (lo := 0) (hi := 10) rfl dX12_councilLineHere_17 (fun x22 k21 h20 => ?_)
    refine lv_if_ne (tgt := 30) hx hb dX12_councilLineHere_20 (by decide) (fun c23 => ?_) (fun c23 => ?_)
    · have q24 : ¬ x22.toInt = 0 := ti_ne c23
      have h25 : iv 1 10 x22 := ⟨by have := (h20).1; have := ((iv_c (c := 0) (n := 0) (by decide))).1; have := ((iv_c (c := 0) (n := 0) (by decide))).2; omega, by have := (h20).2; have := ((iv_c (c := 0) (n := 0) (by decide))).1; have := ((iv_c (c := 0) (n := 0) (by decide))).2; omega⟩
      refine lv_aload_n hx hb dX12_councilLineHere_30 rfl (lv_at hl 0 rfl) ?_
      refine lv_ldc2 hx hb hown (hW _ w_7_4 rfl) dX12_councilLineHere_31 ?_
      have k26 : M5 a0 1 = tp := (Fr.kp (k := 1) f2 hk_a0 rfl).trans k_tp
      have q27 : x12.toInt ≤ tp.toInt := by
        have := (h_a1).1; have := (h_a1).2; have := (h_nx).1; have := (h_nx).2; have := (h_tp).1; have := (h_tp).2; have := (h11).1; have := (h11).2; have := (h19).1; have := (h19).2; omega
      refine tw_goi hS (md_runV (As := [.long 482905517684]) (rest := []) hx hb hml hown hW hK hT hS.1 (t_X12_isWord l D cy tx base Z K N M5 Ra J4 hS.2.1 a0 hz_a0 hk_a0 (482905517684) tb k_tb x12 k10 (iv_mono h11 (by decide) (by decide)) tp k26 (iv_mono h_tp (by decide) (by decide)) q27) s_X12_138 ⟨rfl, rfl, ⟨Nat.le_of_ble_eq_true rfl, Nat.le_of_ble_eq_true rfl⟩, ⟨Nat.le_of_ble_eq_true rfl, Nat.le_of_ble_eq_true rfl⟩⟩ hz_a0 hk_a0 (by decide) rfl rfl hl.1 rfl (Nat.le_of_ble_eq_true rfl) dX12_councilLineHere_34) rfl rfl (fun x34 H locs M31 R32 J30 hS f28 g29 E33 => ?_)
      have eR32 := Fr.nil g29 rfl
      subst eR32
      obtain ⟨h_x34, p35⟩ := E33
      obtain ⟨x38, k36, h37, q39, z40, z41⟩ := p35
      have k36 : M31 a0 13 = x38 := k36
      have z42 : ¬ x34 = 0 → chF 97 122 Ma tb x38 tp := fun h => chF.rf (chF.fr (z41 h) f28 hk_tb rfl) hS.2.2.1 hk_tb rfl
      refine lv_if_eq (tgt := 48) hx hb dX12_councilLineHere_37 (by decide) (fun c43 => ?_) (fun c43 => ?_)
      · have q44 : x34.toInt = 0 := ti_eq c43
        have h45 : iv 0 0 x34 := ⟨by have := (h_x34).1; have := ((iv_c (c := 0) (n := 0) (by decide))).1; omega, by have := (h_x34).2; have := ((iv_c (c := 0) (n := 0) (by decide))).2; omega⟩
        refine lv_aload_n hx hb dX12_councilLineHere_48 rfl (lv_at hl 0 rfl) ?_
        refine lv_ldc2 hx hb hown (hW _ w_7_5 rfl) dX12_councilLineHere_49 ?_
        have k46 : M31 a0 1 = tp := ((Fr.kp (k := 1) f28 hk_a0 rfl).trans (Fr.kp (k := 1) f2 hk_a0 rfl)).trans k_tp
        have q47 : x38.toInt ≤ tp.toInt := by
          have := (h_a1).1; have := (h_a1).2; have := (h_nx).1; have := (h_nx).2; have := (h_tp).1; have := (h_tp).2; have := (h11).1; have := (h11).2; have := (h45).1; have := (h45).2; have := (h37).1; have := (h37).2; have := (h19).1; have := (h19).2; omega
        refine tw_goi hS (md_runV (As := [.long 130220881569139]) (rest := []) hx hb hml hown hW hK hT hS.1 (t_X12_isWord l D cy tx base Z K N M31 Ra J30 hS.2.1 a0 hz_a0 hk_a0 (130220881569139) tb k_tb x38 k36 (iv_mono h37 (by decide) (by decide)) tp k46 (iv_mono h_tp (by decide) (by decide)) q47) s_X12_138 ⟨rfl, rfl, ⟨Nat.le_of_ble_eq_true rfl, Nat.le_of_ble_eq_true rfl⟩, ⟨Nat.le_of_ble_eq_true rfl, Nat.le_of_ble_eq_true rfl⟩⟩ hz_a0 hk_a0 (by decide) rfl rfl hl.1 rfl (Nat.le_of_ble_eq_true rfl) dX12_councilLineHere_52) rfl rfl (fun x54 H locs M51 R52 J50 hS f48 g49 E53 => ?_)
        have eR52 := Fr.nil g49 rfl
        subst eR52
        obtain ⟨h_x54, p55⟩ := E53
        obtain ⟨x58, k56, h57, q59, z60, z61⟩ := p55
        have k56 : M51 a0 13 = x58 := k56
        have z62 : ¬ x54 = 0 → chF 97 122 Ma tb x58 tp := fun h => chF.rf (chF.fr (z61 h) f48 hk_tb rfl) hS.2.2.1 hk_tb rfl
        refine lv_if_eq (tgt := 66) hx hb dX12_councilLineHere_55 (by decide) (fun c63 => ?_) (fun c63 => ?_)
        · have q64 : x54.toInt = 0 := ti_eq c63
          have h65 : iv 0 0 x54 := ⟨by have := (h_x54).1; have := ((iv_c (c := 0) (n := 0) (by decide))).1; omega, by have := (h_x54).2; have := ((iv_c (c := 0) (n := 0) (by decide))).2; omega⟩
          refine lv_aload_n hx hb dX12_councilLineHere_66 rfl (lv_at hl 0 rfl) ?_
          have k66 : M51 a0 1 = tp := ((Fr.kp (k := 1) f48 hk_a0 rfl).trans ((Fr.kp (k := 1) f28 hk_a0 rfl).trans (Fr.kp (k := 1) f2 hk_a0 rfl))).trans k_tp
          have q67 : x58.toInt ≤ tp.toInt := by
            have := (h_a1).1; have := (h_a1).2; have := (h_nx).1; have := (h_nx).2; have := (h_tp).1; have := (h_tp).2; have := (h11).1; have := (h11).2; have := (h45).1; have := (h45).2; have := (h37).1; have := (h37).2; have := (h65).1; have := (h65).2; have := (h57).1; have := (h57).2; have := (h19).1; have := (h19).2; omega
          refine tw_goi hS (md_runV (As := []) (rest := []) hx hb hml hown hW hK hT hS.1 (t_X12_isBentHere l D cy tx base Z K N M51 Ra J50 hS.2.1 a0 hz_a0 hk_a0 tb k_tb x58 k56 (iv_mono h57 (by decide) (by decide)) tp k66 (iv_mono h_tp (by decide) (by decide)) q67) s_X12_275 ⟨rfl, rfl, ⟨Nat.le_of_ble_eq_true rfl, Nat.le_of_ble_eq_true rfl⟩, ⟨Nat.le_of_ble_eq_true rfl, Nat.le_of_ble_eq_true rfl⟩⟩ hz_a0 hk_a0 (by decide) rfl rfl hl.1 rfl (Nat.le_of_ble_eq_true rfl) dX12_councilLineHere_67) rfl rfl (fun x74 H locs M71 R72 J70 hS f68 g69 E73 => ?_)
          have eR72 := Fr.nil g69 rfl
          subst eR72
          obtain ⟨h_x74, p75, p76⟩ := E73
          obtain ⟨x79, k77, h78, q80⟩ := p75
          have k77 : M71 a0 13 = x79 := k77
          have z83 : x74 = 0 → ¬ (M71 a0 14).toInt = 0 := p76
          have q84 : nx.toInt ≤ x79.toInt ∧ x79.toInt ≤ tp.toInt := by
            have := (h_a1).1; have := (h_a1).2; have := (h_nx).1; have := (h_nx).2; have := (h_tp).1; have := (h_tp).2; have := (h11).1; have := (h11).2; have := (h45).1; have := (h45).2; have := (h37).1; have := (h37).2; have := (h65).1; have := (h65).2; have := (h57).1; have := (h57).2; have := (h_x74).1; have := (h_x74).2; have := (h78).1; have := (h78).2; have := (h19).1; have := (h19).2; omega
          exact tw_endz hx hb hr hlocks hK hT hS hQ (nar_b h_x74) (⟨h_x74, ⟨x79, k77, h78, q84⟩, z83⟩) dX12_councilLineHere_70
        · have q85 : ¬ x54.toInt = 0 := ti_ne c63
          have h86 : iv 1 1 x54 := ⟨by have := (h_x54).1; have := ((iv_c (c := 0) (n := 0) (by decide))).1; have := ((iv_c (c := 0) (n := 0) (by decide))).2; omega, by have := (h_x54).2; have := ((iv_c (c := 0) (n := 0) (by decide))).1; have := ((iv_c (c := 0) (n := 0) (by decide))).2; omega⟩
          have z87 := z62 c63
          have q88 := z87.1
          refine lv_aload_n hx hb dX12_councilLineHere_58 rfl (lv_at hl 0 rfl) ?_
          refine lv_iload_n hx hb dX12_councilLineHere_59 rfl (lv_at hl 1 rfl) ?_
          have k89 : M51 a0 1 = tp := ((Fr.kp (k := 1) f48 hk_a0 rfl).trans ((Fr.kp (k := 1) f28 hk_a0 rfl).trans (Fr.kp (k := 1) f2 hk_a0 rfl))).trans k_tp
          have q90 : x58.toInt ≤ tp.toInt := by
            have := (h_a1).1; have := (h_a1).2; have := (h_nx).1; have := (h_nx).2; have := (h_tp).1; have := (h_tp).2; have := (h11).1; have := (h11).2; have := (h45).1; have := (h45).2; have := (h37).1; have := (h37).2; have := (h86).1; have := (h86).2; have := (h57).1; have := (h57).2; have := (h19).1; have := (h19).2; omega
          refine tw_goi hS (md_runV (As := [.int a1]) (rest := []) hx hb hml hown hW hK hT hS.1 (t_X12_areVoicesHere l D cy tx base Z K N M51 Ra J50 hS.2.1 a0 hz_a0 hk_a0 a1 h_a1 tb k_tb x58 k56 (iv_mono h57 (by decide) (by decide)) tp k89 (iv_mono h_tp (by decide) (by decide)) q90) s_X12_272 ⟨rfl, rfl, ⟨Nat.le_of_ble_eq_true rfl, Nat.le_of_ble_eq_true rfl⟩, ⟨Nat.le_of_ble_eq_true rfl, Nat.le_of_ble_eq_true rfl⟩⟩ hz_a0 hk_a0 (by decide) rfl rfl hl.1 rfl (Nat.le_of_ble_eq_true rfl) dX12_councilLineHere_60) rfl rfl (fun x97 H locs M94 R95 J93 hS f91 g92 E96 => ?_)
          have eR95 := Fr.nil g92 rfl
          subst eR95
          obtain ⟨h_x97, p98, p99⟩ := E96
          obtain ⟨x102, k100, h101, q103⟩ := p98
          have k100 : M94 a0 13 = x102 := k100
          have z106 : x97 = 0 → ¬ (M94 a0 14).toInt = 0 := p99
          refine lv_goto (tgt := 70) hx hb dX12_councilLineHere_63 (by decide) ?_
          have q107 : nx.toInt ≤ x102.toInt ∧ x102.toInt ≤ tp.toInt := by
            have := (h_a1).1; have := (h_a1).2; have := (h_nx).1; have := (h_nx).2; have := (h_tp).1; have := (h_tp).2; have := (h101).1; have := (h101).2; have := (h11).1; have := (h11).2; have := (h45).1; have := (h45).2; have := (h37).1; have := (h37).2; have := (h86).1; have := (h86).2; have := (h57).1; have := (h57).2; have := (h19).1; have := (h19).2; have := (h_x97).1; have := (h_x97).2; omega
          exact tw_endz hx hb hr hlocks hK hT hS hQ (nar_b h_x97) (⟨h_x97, ⟨x102, k100, h101, q107⟩, z106⟩) dX12_councilLineHere_70
      · have q108 : ¬ x34.toInt = 0 := ti_ne c43
        have h109 : iv 1 1 x34 := ⟨by have := (h_x34).1; have := ((iv_c (c := 0) (n := 0) (by decide))).1; have := ((iv_c (c := 0) (n := 0) (by decide))).2; omega, by have := (h_x34).2; have := ((iv_c (c := 0) (n := 0) (by decide))).1; have := ((iv_c (c := 0) (n := 0) (by decide))).2; omega⟩
        have z110 := z42 c43
        have q111 := z110.1
        refine lv_aload_n hx hb dX12_councilLineHere_40 rfl (lv_at hl 0 rfl) ?_
        refine lv_iload_n hx hb dX12_councilLineHere_41 rfl (lv_at hl 1 rfl) ?_
        have k112 : M31 a0 1 = tp := ((Fr.kp (k := 1) f28 hk_a0 rfl).trans (Fr.kp (k := 1) f2 hk_a0 rfl)).trans k_tp
        have q113 : x38.toInt ≤ tp.toInt := by
          have := (h_a1).1; have := (h_a1).2; have := (h_nx).1; have := (h_nx).2; have := (h_tp).1; have := (h_tp).2; have := (h11).1; have := (h11).2; have := (h109).1; have := (h109).2; have := (h37).1; have := (h37).2; have := (h19).1; have := (h19).2; omega
        obtain ⟨x116, k114⟩ : ∃ x, M31 a0 8 = x := ⟨_, rfl⟩
        have h115 : iv 0 12 x116 := by rw [← k114]; exact hS.2.1.int hz_a0 hk_a0 (show rgI 12 8 = (0, 12) from rfl)
        refine tw_goi hS (md_runV (As := [.int a1]) (rest := []) hx hb hml hown hW hK hT hS.1 (t_X12_isPointHere l D cy tx base Z K N M31 Ra J30 hS.2.1 a0 hz_a0 hk_a0 a1 h_a1 tb k_tb x38 k36 (iv_mono h37 (by decide) (by decide)) tp k112 (iv_mono h_tp (by decide) (by decide)) q113 x116 k114 (iv_mono h115 (by decide) (by decide))) s_X12_269 ⟨rfl, rfl, ⟨Nat.le_of_ble_eq_true rfl, Nat.le_of_ble_eq_true rfl⟩, ⟨Nat.le_of_ble_eq_true rfl, Nat.le_of_ble_eq_true rfl⟩⟩ hz_a0 hk_a0 (by decide) rfl rfl hl.1 rfl (Nat.le_of_ble_eq_true rfl) dX12_councilLineHere_42) rfl rfl (fun x123 H locs M120 R121 J119 hS f117 g118 E122 => ?_)
        have eR121 := Fr.nil g118 rfl
        subst eR121
        obtain ⟨h_x123, p124, p125⟩ := E122
        obtain ⟨x128, k126, h127, q129⟩ := p124
        have k126 : M120 a0 13 = x128 := k126
        have z132 : x123 = 0 → ¬ (M120 a0 14).toInt = 0 := p125
        refine lv_goto (tgt := 70) hx hb dX12_councilLineHere_45 (by decide) ?_
        have q133 : nx.toInt ≤ x128.toInt ∧ x128.toInt ≤ tp.toInt := by
          have := (h_a1).1; have := (h_a1).2; have := (h_nx).1; have := (h_nx).2; have := (h_tp).1; have := (h_tp).2; have := (h11).1; have := (h11).2; have := (h_x123).1; have := (h_x123).2; have := (h127).1; have := (h127).2; have := (h109).1; have := (h109).2; have := (h37).1; have := (h37).2; have := (h19).1; have := (h19).2; omega
        exact tw_endz hx hb hr hlocks hK hT hS hQ (nar_b h_x123) (⟨h_x123, ⟨x128, k126, h127, q133⟩, z132⟩) dX12_councilLineHere_70
    · have q134 : x22.toInt = 0 := ti_eq c23
      have h135 : iv 0 0 x22 := ⟨by have := (h20).1; have := ((iv_c (c := 0) (n := 0) (by decide))).1; omega, by have := (h20).2; have := ((iv_c (c := 0) (n := 0) (by decide))).2; omega⟩
      refine lv_aload_n hx hb dX12_councilLineHere_23 rfl (lv_at hl 0 rfl) ?_
      refine lv_iconst (v := 4) hx hb dX12_councilLineHere_24 (by decide) ?_
      refine lv_iload_n hx hb dX12_councilLineHere_25 rfl (lv_at hl 1 rfl) ?_
      refine tw_goi hS (md_runV (As := [.int 4, .int a1]) (rest := []) hx hb hml hown hW hK hT hS.1 (t_X12_fails l D cy tx base Z K N M5 Ra J4 hS.2.1 a0 hz_a0 hk_a0 4 (iv_mono (iv_c (c := 4) (n := 4) (by decide)) (by decide) (by decide)) a1 h_a1) s_X12_148 ⟨rfl, rfl, ⟨Nat.le_of_ble_eq_true rfl, Nat.le_of_ble_eq_true rfl⟩, ⟨Nat.le_of_ble_eq_true rfl, Nat.le_of_ble_eq_true rfl⟩⟩ hz_a0 hk_a0 (by decide) rfl rfl hl.1 rfl (Nat.le_of_ble_eq_true rfl) dX12_councilLineHere_26) rfl rfl (fun x142 H locs M139 R140 J138 hS f136 g137 E141 => ?_)
      have eR140 := Fr.nil g137 rfl
      subst eR140
      obtain ⟨h_x142, p143⟩ := E141
      have z144 : x142 = 0 → ¬ (M139 a0 14).toInt = 0 := p143
      have z145 := z144 (iv0 h_x142)
      have k146 : M139 a0 13 = x12 := (Fr.kp (k := 13) f136 hk_a0 rfl).trans k10
      have q147 : nx.toInt ≤ x12.toInt ∧ x12.toInt ≤ tp.toInt := by
        have := (h_a1).1; have := (h_a1).2; have := (h_nx).1; have := (h_nx).2; have := (h_tp).1; have := (h_tp).2; have := (h11).1; have := (h11).2; have := (h19).1; have := (h19).2; omega
      exact tw_endz hx hb hr hlocks hK hT hS hQ (nar_b (iv_mono h_x142 (by decide) (by decide))) (⟨(iv_mono h_x142 (by decide) (by decide)), ⟨x12, k146, h11, q147⟩, (fun _ => (show ¬ (M139 a0 14).toInt = 0 from z145))⟩) dX12_councilLineHere_29
  · have q148 : ¬ x8.toInt = 0 := ti_ne c17
    have h149 : iv 1 1 x8 := ⟨by have := (h_x8).1; have := ((iv_c (c := 0) (n := 0) (by decide))).1; have := ((iv_c (c := 0) (n := 0) (by decide))).2; omega, by have := (h_x8).2; have := ((iv_c (c := 0) (n := 0) (by decide))).1; have := ((iv_c (c := 0) (n := 0) (by decide))).2; omega⟩
    have z150 := z16 c17
    have q151 := z150.1
    refine lv_aload_n hx hb dX12_councilLineHere_10 rfl (lv_at hl 0 rfl) ?_
    refine lv_iload_n hx hb dX12_councilLineHere_11 rfl (lv_at hl 1 rfl) ?_
    have k152 : M5 a0 1 = tp := (Fr.kp (k := 1) f2 hk_a0 rfl).trans k_tp
    have q153 : x12.toInt ≤ tp.toInt := by
      have := (h_a1).1; have := (h_a1).2; have := (h_nx).1; have := (h_nx).2; have := (h_tp).1; have := (h_tp).2; have := (h11).1; have := (h11).2; have := (h149).1; have := (h149).2; omega
    refine tw_goi hS (md_runV (As := [.int a1]) (rest := []) hx hb hml hown hW hK hT hS.1 (t_X12_areMembersHere l D cy tx base Z K N M5 Ra J4 hS.2.1 a0 hz_a0 hk_a0 a1 h_a1 tb k_tb x12 k10 (iv_mono h11 (by decide) (by decide)) tp k152 (iv_mono h_tp (by decide) (by decide)) q153) s_X12_266 ⟨rfl, rfl, ⟨Nat.le_of_ble_eq_true rfl, Nat.le_of_ble_eq_true rfl⟩, ⟨Nat.le_of_ble_eq_true rfl, Nat.le_of_ble_eq_true rfl⟩⟩ hz_a0 hk_a0 (by decide) rfl rfl hl.1 rfl (Nat.le_of_ble_eq_true rfl) dX12_councilLineHere_12) rfl rfl (fun x160 H locs M157 R158 J156 hS f154 g155 E159 => ?_)
    have eR158 := Fr.nil g155 rfl
    subst eR158
    obtain ⟨h_x160, p161, p162⟩ := E159
    obtain ⟨x165, k163, h164, q166⟩ := p161
    have k163 : M157 a0 13 = x165 := k163
    have z169 : x160 = 0 → ¬ (M157 a0 14).toInt = 0 := p162
    have q170 : nx.toInt ≤ x165.toInt ∧ x165.toInt ≤ tp.toInt := by
      have := (h_a1).1; have := (h_a1).2; have := (h_nx).1; have := (h_nx).2; have := (h_tp).1; have := (h_tp).2; have := (h11).1; have := (h11).2; have := (h_x160).1; have := (h_x160).2; have := (h164).1; have := (h164).2; have := (h149).1; have := (h149).2; omega
    exact tw_endz hx hb hr hlocks hK hT hS hQ (nar_b h_x160) (⟨h_x160, ⟨x165, k163, h164, q170⟩, z169⟩) dX12_councilLineHere_15
def Lt_X12_takesWord : WL := [(12, 13, 14)]
def LRt_X12_takesWord : WL := []
set_option maxRecDepth 100000 in
set_option maxHeartbeats 4000000 in
theorem t_X12_takesWord (l : Launch) (D : va_G) (cy : Nat → ClassId) (tx : (Nat → Nat) × (Nat → Nat)) (base Z : Nat) (K N : Nat → Nat) (Ma : MT) (Ra : RT) (Ja : JT) (hTy : Ty Z K N Ma Ra) (a0 : Nat) (hz_a0 : a0 < Z) (hk_a0 : K a0 = 12) (a1 : Int64) (tb : Nat) (k_tb : Ra a0 0 = some tb) (nx : Int32) (k_nx : Ma a0 13 = nx) (h_nx : iv 0 400 nx) (tp : Int32) (k_tp : Ma a0 1 = tp) (h_tp : iv 0 400 tp) (hnt : nx.toInt ≤ tp.toInt) : Met l yX12_takesWord [Cond.code yX12_takesWord cX12_takesWord 3 (some .boolean)] (md_rm 3 0 0) (va_Pc [.ref (base + a0), .long a1] (md_U D cy tx base Z K N Ma Ra Ja)) (mQi D cy tx base (fun r u => TP Z K N Lt_X12_takesWord LRt_X12_takesWord Ma Ra u ∧ (iv 0 1 r ∧ (∃ x0 : Int32, u.2.2.2.1 a0 13 = x0 ∧ iv 0 400 x0 ∧ (nx.toInt ≤ x0.toInt ∧ x0.toInt ≤ tp.toInt))))) 0 0 (fun q => base ≤ q) := by
  refine tw_ofW (L := Lt_X12_takesWord) (LR := LRt_X12_takesWord) (by decide) (Nat.le_of_ble_eq_true rfl) hTy ?_
  intro p e s m args below meth c Q ls hx hb hr hlocks hown hml hW hK hT hS hQ hl
  have hl : lv_has ls 3 [(0, .ref (base + a0)), (1, .long a1)] := hl
  obtain ⟨hz_tb, hk_tb, hn_tb⟩ := hTy.refn hz_a0 hk_a0 (show rtR 12 0 = (13, 400, 0) from rfl) k_tb
  have hn_tb := hn_tb (by decide)
  refine lv_aload_n hx hb dX12_takesWord_0 rfl (lv_at hl 0 rfl) ?_
  refine lv_lload_n hx hb dX12_takesWord_1 rfl (lv_at hl 1 rfl) ?_
  have q1 : nx.toInt ≤ tp.toInt := by
    have := (h_nx).1; have := (h_nx).2; have := (h_tp).1; have := (h_tp).2; omega
  refine tw_goi hS (md_runV (As := [.long a1]) (rest := []) hx hb hml hown hW hK hT hS.1 (t_X12_isWord l D cy tx base Z K N Ma Ra Ja hS.2.1 a0 hz_a0 hk_a0 (a1) tb k_tb nx k_nx (iv_mono h_nx (by decide) (by decide)) tp k_tp (iv_mono h_tp (by decide) (by decide)) q1) s_X12_138 ⟨rfl, rfl, ⟨Nat.le_of_ble_eq_true rfl, Nat.le_of_ble_eq_true rfl⟩, ⟨Nat.le_of_ble_eq_true rfl, Nat.le_of_ble_eq_true rfl⟩⟩ hz_a0 hk_a0 (by decide) rfl rfl hl.1 rfl (Nat.le_of_ble_eq_true rfl) dX12_takesWord_2) rfl rfl (fun x8 H locs M5 R6 J4 hS f2 g3 E7 => ?_)
  have eR6 := Fr.nil g3 rfl
  subst eR6
  obtain ⟨h_x8, p9⟩ := E7
  obtain ⟨x12, k10, h11, q13, z14, z15⟩ := p9
  have k10 : M5 a0 13 = x12 := k10
  have z16 : ¬ x8 = 0 → chF 97 122 Ma tb x12 tp := fun h => chF.rf (chF.fr (z15 h) f2 hk_tb rfl) hS.2.2.1 hk_tb rfl
  refine lv_if_ne (tgt := 10) hx hb dX12_takesWord_5 (by decide) (fun c17 => ?_) (fun c17 => ?_)
  · have q18 : ¬ x8.toInt = 0 := ti_ne c17
    have h19 : iv 1 1 x8 := ⟨by have := (h_x8).1; have := ((iv_c (c := 0) (n := 0) (by decide))).1; have := ((iv_c (c := 0) (n := 0) (by decide))).2; omega, by have := (h_x8).2; have := ((iv_c (c := 0) (n := 0) (by decide))).1; have := ((iv_c (c := 0) (n := 0) (by decide))).2; omega⟩
    have z20 := z16 c17
    have q21 := z20.1
    refine lv_aload_n hx hb dX12_takesWord_10 rfl (lv_at hl 0 rfl) ?_
    have k22 : M5 a0 1 = tp := (Fr.kp (k := 1) f2 hk_a0 rfl).trans k_tp
    have q23 : x12.toInt ≤ tp.toInt := by
      have := (h_nx).1; have := (h_nx).2; have := (h_tp).1; have := (h_tp).2; have := (h11).1; have := (h11).2; have := (h19).1; have := (h19).2; omega
    refine tw_gov hS (md_runV (As := []) (rest := []) hx hb hml hown hW hK hT hS.1 (t_X12_passWord l D cy tx base Z K N M5 Ra J4 hS.2.1 a0 hz_a0 hk_a0 tb k_tb x12 k10 (iv_mono h11 (by decide) (by decide)) tp k22 (iv_mono h_tp (by decide) (by decide)) q23) s_X12_142 ⟨rfl, rfl, ⟨Nat.le_of_ble_eq_true rfl, Nat.le_of_ble_eq_true rfl⟩, ⟨Nat.le_of_ble_eq_true rfl, Nat.le_of_ble_eq_true rfl⟩⟩ hz_a0 hk_a0 (by decide) rfl rfl hl.1 rfl (Nat.le_of_ble_eq_true rfl) dX12_takesWord_11) rfl rfl (fun H locs M27 R28 J26 hS f24 g25 E29 => ?_)
    have eR28 := Fr.nil g25 rfl
    subst eR28
    have p30 := E29
    clear E29
    obtain ⟨x33, k31, h32, q34, z36⟩ := p30
    have k31 : M27 a0 13 = x33 := k31
    have q37 := z36 (chF.rf (chF.fr z20 hS.2.2.1 hk_tb rfl) f24 hk_tb rfl)
    refine lv_iconst (v := 1) hx hb dX12_takesWord_14 (by decide) ?_
    have q38 : nx.toInt ≤ x33.toInt ∧ x33.toInt ≤ tp.toInt := by
      have := (h_nx).1; have := (h_nx).2; have := (h_tp).1; have := (h_tp).2; have := (h11).1; have := (h11).2; have := (h32).1; have := (h32).2; have := (h19).1; have := (h19).2; omega
    exact tw_endz hx hb hr hlocks hK hT hS hQ rfl (⟨(iv_mono (iv_c (c := 1) (n := 1) (by decide)) (by decide) (by decide)), ⟨x33, k31, h32, q38⟩⟩) dX12_takesWord_15
  · have q39 : x8.toInt = 0 := ti_eq c17
    have h40 : iv 0 0 x8 := ⟨by have := (h_x8).1; have := ((iv_c (c := 0) (n := 0) (by decide))).1; omega, by have := (h_x8).2; have := ((iv_c (c := 0) (n := 0) (by decide))).2; omega⟩
    refine lv_iconst (v := 0) hx hb dX12_takesWord_8 (by decide) ?_
    have q41 : nx.toInt ≤ x12.toInt ∧ x12.toInt ≤ tp.toInt := by
      have := (h_nx).1; have := (h_nx).2; have := (h_tp).1; have := (h_tp).2; have := (h11).1; have := (h11).2; have := (h40).1; have := (h40).2; omega
    exact tw_endz hx hb hr hlocks hK hT hS hQ rfl (⟨(iv_mono (iv_c (c := 0) (n := 0) (by decide)) (by decide) (by decide)), ⟨x12, k10, h11, q41⟩⟩) dX12_takesWord_9
def Lt_X12_isInside : WL := []
def LRt_X12_isInside : WL := []
set_option maxRecDepth 100000 in
set_option maxHeartbeats 4000000 in
theorem t_X12_isInside (l : Launch) (D : va_G) (cy : Nat → ClassId) (tx : (Nat → Nat) × (Nat → Nat)) (base Z : Nat) (K N : Nat → Nat) (Ma : MT) (Ra : RT) (Ja : JT) (hTy : Ty Z K N Ma Ra) (a0 : Nat) (hz_a0 : a0 < Z) (hk_a0 : K a0 = 12) (op : Nat) (k_op : Ra a0 20 = some op) (on : Int32) (k_on : Ma a0 21 = on) (h_on : iv 0 400 on) : Met l yX12_isInside [Cond.code yX12_isInside cX12_isInside 2 (some .boolean)] (md_rm 1 0 0) (va_Pc [.ref (base + a0)] (md_U D cy tx base Z K N Ma Ra Ja)) (mQi D cy tx base (fun r u => TP Z K N Lt_X12_isInside LRt_X12_isInside Ma Ra u ∧ (iv 0 1 r ∧ ((r = 0 → ∀ j, j < on.toNatClampNeg → ¬ Ma op j = 91) ∧ (¬ r = 0 → ∃ j, j < on.toNatClampNeg ∧ Ma op j = 91))))) 0 0 (fun q => base ≤ q) := by
  refine tw_ofW (L := Lt_X12_isInside) (LR := LRt_X12_isInside) (by decide) (Nat.le_of_ble_eq_true rfl) hTy ?_
  intro p e s m args below meth c Q ls hx hb hr hlocks hown hml hW hK hT hS hQ hl
  have hl : lv_has ls 2 [(0, .ref (base + a0))] := hl
  obtain ⟨hz_op, hk_op, hn_op⟩ := hTy.refn hz_a0 hk_a0 (show rtR 12 20 = (14, 400, 0) from rfl) k_op
  have hn_op := hn_op (by decide)
  refine lv_iconst (v := 0) hx hb dX12_isInside_0 (by decide) ?_
  refine lv_istore_n (lv' := [(1, .int 0), (0, .ref (base + a0))]) hx hb dX12_isInside_1 rfl hl (by decide) rfl (fun ls hl => ?_)
  have W2_2 : ∀ (n_2 : Nat) (x1 : Int32) (M2 : MT) (R3 : RT) (J4 : JT) (H : Heap) (locs : List Loc) (ls : Array Slot) (h_x1 : iv 0 400 x1) (w0_2 : ∀ j, j < x1.toNatClampNeg → ¬ Ma op j = 91) (hm_2 : 400 - x1.toInt < (n_2 : Int)) (hS : SB D cy base Z K N Lt_X12_isInside LRt_X12_isInside Ma Ra M2 R3 J4 s H locs) (hl : lv_has ls 2 [(1, .int x1), (0, .ref (base + a0))]), W p l e (md_rm 1 0 0) s m args below meth c H locs 0 0 Q (F0 m 2 ls []) := by
    intro n_2
    induction n_2 with
    | zero =>
      intro x1 M2 R3 J4 H locs ls h_x1 w0_2 hm_2 hS hl
      exfalso
      have := (h_on).1; have := (h_on).2; have := (h_x1).1; have := (h_x1).2; omega
    | succ n_2 ih_2 =>
      intro x1 M2 R3 J4 H locs ls h_x1 w0_2 hm_2 hS hl
      have f5 := hS.2.2.1
      have g6 := hS.2.2.2
      refine lv_iload_n hx hb dX12_isInside_2 rfl (lv_at hl 0 rfl) ?_
      refine lv_aload_n hx hb dX12_isInside_3 rfl (lv_at hl 1 rfl) ?_
      have k7 : M2 a0 21 = on := (Fr.kp (k := 21) f5 hk_a0 rfl).trans k_on
      refine tw_getk hx hb hW hown hK hS f_X12_188_11 hz_a0 hk_a0 (v := on) k7 dX12_isInside_4 ?_
      refine lv_icmp_ge (tgt := 29) hx hb dX12_isInside_7 (by decide) (fun c8 => ?_) (fun c8 => ?_)
      · have q9 : on.toInt ≤ x1.toInt := ti_le c8
        refine lv_iconst (v := 0) hx hb dX12_isInside_29 (by decide) ?_
        have zi9 := ti_cl (x := x1) (by have := (h_x1).1; omega); have zn9 := ti_cl (x := on) (by have := h_on.1; omega)
        exact tw_endz hx hb hr hlocks hK hT hS hQ rfl (⟨(iv_mono (iv_c (c := 0) (n := 0) (by decide)) (by decide) (by decide)), ⟨fun _ j hj => w0_2 j (by omega), fun h => absurd rfl h⟩⟩) dX12_isInside_30
      · have q10 : x1.toInt < on.toInt := ti_nle c8
        have h11 : iv 0 399 x1 := iv_ltL (y := on) h_x1 h_on q10 (by decide)
        have h12 : iv 1 400 on := iv_gtL (y := x1) h_on h_x1 q10 (by decide)
        refine lv_aload_n hx hb dX12_isInside_10 rfl (lv_at hl 1 rfl) ?_
        have k13 : R3 a0 20 = some op := (Fr.kp (k := 20) g6 hk_a0 rfl).trans k_op
        refine tw_getrk hx hb hW hown hK hS f_X12_35_11 hz_a0 hk_a0 (b := op) k13 dX12_isInside_11 ?_
        refine lv_iload_n hx hb dX12_isInside_14 rfl (lv_at hl 0 rfl) ?_
        refine tw_iald hx hb hK hS hz_op hk_op (Or.inl rfl) hn_op (lo := (-2147483648)) (hi := 2147483647) h11 ⟨by decide, by decide⟩ rg_u14 dX12_isInside_15 (fun x16 k15 h14 => ?_)
        refine lv_bipush (v := 91) hx hb dX12_isInside_16 (by decide) ?_
        refine lv_icmp_ne (tgt := 23) hx hb dX12_isInside_18 (by decide) (fun c17 => ?_) (fun c17 => ?_)
        · have q18 : ¬ x16.toInt = 91 := ti_ne c17
          refine tw_iinc (lv' := fun x21 => [(1, .int x21), (0, .ref (base + a0))]) (lo := 1) (hi := 400) hx hb dX12_isInside_23 hl (k := 0) rfl h11 (by decide) ⟨by decide, by decide⟩ ⟨by decide, by decide⟩ (by decide) (fun _ => rfl) (fun x21 ls e20 h19 hl => ?_)
          refine lv_goto (tgt := 2) hx hb dX12_isInside_26 (by decide) ?_
          have zi22 := ti_cl (x := x21) (by have := (h19).1; omega); have zj22 := ti_cl (x := x1) (by have := (h11).1; omega)
          have w22 : ∀ j, j < x21.toNatClampNeg → ¬ Ma op j = 91 := fun j hj => by by_cases e : j = x1.toNatClampNeg; (· rw [e, (Fr.kpa f5 hk_op rfl _).symm.trans k15]; exact c17); (· exact w0_2 j (by omega))
          have hm23 : 400 - x21.toInt < (n_2 : Int) := by
            have := (h12).1; have := (h12).2; have := (h11).1; have := (h11).2; have := (h19).1; have := (h19).2; omega
          exact ih_2 x21 M2 R3 J4 H locs _ (iv_mono h19 (by decide) (by decide)) w22 hm23 hS hl
        · have q24 : x16.toInt = 91 := ti_eq c17
          have h25 : iv 91 91 x16 := ⟨by have := (h14).1; have := ((iv_c (c := 91) (n := 91) (by decide))).1; omega, by have := (h14).2; have := ((iv_c (c := 91) (n := 91) (by decide))).2; omega⟩
          refine lv_iconst (v := 1) hx hb dX12_isInside_21 (by decide) ?_
          have zi25 := ti_cl (x := x1) (by have := (h11).1; omega); have zn25 := ti_cl (x := on) (by have := h_on.1; omega)
          exact tw_endz hx hb hr hlocks hK hT hS hQ rfl (⟨(iv_mono (iv_c (c := 1) (n := 1) (by decide)) (by decide) (by decide)), ⟨fun h => absurd h (by decide), fun _ => ⟨x1.toNatClampNeg, by omega, ((Fr.kpa f5 hk_op rfl _).symm.trans k15).trans c17⟩⟩⟩) dX12_isInside_22
  have w26 : ∀ j, j < (0 : Int32).toNatClampNeg → ¬ Ma op j = 91 := fun j hj => absurd hj (by have : (0 : Int32).toNatClampNeg = 0 := (by decide); omega)
  have hm27 : 400 - (0 : Int32).toInt < (((401 : Nat) : Int) : Int) := by
    have := (h_on).1; have := (h_on).2; have : (0 : Int32).toInt = 0 := (by decide); omega
  exact W2_2 401 0 Ma Ra Ja s.heap [] _ (iv_mono (iv_c (c := 0) (n := 0) (by decide)) (by decide) (by decide)) w26 hm27 hS hl
def Lt_X12_puts : WL := [(25, 0, 2000000), (26, 0, 2000000)]
def LRt_X12_puts : WL := []
set_option maxRecDepth 100000 in
set_option maxHeartbeats 4000000 in
theorem t_X12_puts (l : Launch) (D : va_G) (cy : Nat → ClassId) (tx : (Nat → Nat) × (Nat → Nat)) (base Z : Nat) (K N : Nat → Nat) (Ma : MT) (Ra : RT) (Ja : JT) (hTy : Ty Z K N Ma Ra) (a0 : Nat) (hz_a0 : a0 < Z) (hk_a0 : K a0 = 12) (a1 : Int32) (h_a1 : iv 0 13 a1) (a2 : Int32) (h_a2 : iv 0 99999 a2) (sg : Nat) (k_sg : Ra a0 3 = some sg) (lg : Nat) (k_lg : Ra a0 4 = some lg) (tq : Int32) (k_tq : Ma a0 16 = tq) (h_tq : iv 0 5 tq) (le : Int32) (k_le : Ma lg tq.toNatClampNeg = le) (h_le : iv 0 399 le) : Met l yX12_puts [Cond.code yX12_puts cX12_puts 3 none] (md_rm 1 0 0) (va_Pc [.ref (base + a0), .int a1, .int a2] (md_U D cy tx base Z K N Ma Ra Ja)) (mQv D cy tx base (fun u => TP Z K N Lt_X12_puts LRt_X12_puts Ma Ra u ∧ ((∃ cd x1 : Int32, cd.toInt = a1.toInt + 16 * a2.toInt ∧ u.2.2.2.1 sg (400 * tq.toNatClampNeg + le.toNatClampNeg) = cd ∧ (∀ j, j ≠ 400 * tq.toNatClampNeg + le.toNatClampNeg → u.2.2.2.1 sg j = Ma sg j) ∧ u.2.2.2.1 lg tq.toNatClampNeg = x1 ∧ iv 1 400 x1 ∧ x1.toInt = le.toInt + 1)))) 0 0 (fun q => base ≤ q) := by
  refine tw_ofW (L := Lt_X12_puts) (LR := LRt_X12_puts) (by decide) (Nat.le_of_ble_eq_true rfl) hTy ?_
  intro p e s m args below meth c Q ls hx hb hr hlocks hown hml hW hK hT hS hQ hl
  have hl : lv_has ls 3 [(0, .ref (base + a0)), (1, .int a1), (2, .int a2)] := hl
  obtain ⟨hz_sg, hk_sg, hn_sg⟩ := hTy.refn hz_a0 hk_a0 (show rtR 12 3 = (25, 2400, 0) from rfl) k_sg
  have hn_sg := hn_sg (by decide)
  obtain ⟨hz_lg, hk_lg, hn_lg⟩ := hTy.refn hz_a0 hk_a0 (show rtR 12 4 = (26, 7, 0) from rfl) k_lg
  have hn_lg := hn_lg (by decide)
  refine lv_aload_n hx hb dX12_puts_0 rfl (lv_at hl 0 rfl) ?_
  refine tw_getrk hx hb hW hown hK hS f_X12_13_11 hz_a0 hk_a0 (b := sg) k_sg dX12_puts_1 ?_
  refine lv_sipush (v := 400) hx hb dX12_puts_4 (by decide) ?_
  refine lv_aload_n hx hb dX12_puts_7 rfl (lv_at hl 0 rfl) ?_
  refine tw_getk hx hb hW hown hK hS f_X12_179_11 hz_a0 hk_a0 (v := tq) k_tq dX12_puts_8 ?_
  refine tw_icmul (k := 400) (lo := 0) (hi := 2000) hx hb (by decide) h_tq (by decide) ⟨by decide, by decide⟩ ⟨by decide, by decide⟩ dX12_puts_11 (fun x3 e2 h1 => ?_)
  refine lv_aload_n hx hb dX12_puts_12 rfl (lv_at hl 0 rfl) ?_
  refine tw_getrk hx hb hW hown hK hS f_X12_17_11 hz_a0 hk_a0 (b := lg) k_lg dX12_puts_13 ?_
  refine lv_aload_n hx hb dX12_puts_16 rfl (lv_at hl 0 rfl) ?_
  refine tw_getk hx hb hW hown hK hS f_X12_179_11 hz_a0 hk_a0 (v := tq) k_tq dX12_puts_17 ?_
  refine tw_ialk hx hb hK hS hz_lg hk_lg (Or.inr (by decide)) hn_lg h_tq ⟨by decide, by decide⟩ (v := le) k_le dX12_puts_20 ?_
  refine tw_iadd (lo := 0) (hi := 2399) hx hb h1 h_le ⟨by decide, by decide⟩ ⟨by decide, by decide⟩ dX12_puts_21 (fun x6 e5 h4 => ?_)
  refine lv_iload_n hx hb dX12_puts_22 rfl (lv_at hl 1 rfl) ?_
  refine lv_bipush (v := 16) hx hb dX12_puts_23 (by decide) ?_
  refine lv_iload_n hx hb dX12_puts_25 rfl (lv_at hl 2 rfl) ?_
  refine tw_icmul (k := 16) (lo := 0) (hi := 1599984) hx hb (by decide) h_a2 (by decide) ⟨by decide, by decide⟩ ⟨by decide, by decide⟩ dX12_puts_26 (fun x9 e8 h7 => ?_)
  refine tw_iadd (lo := 0) (hi := 1599997) hx hb h_a1 h7 ⟨by decide, by decide⟩ ⟨by decide, by decide⟩ dX12_puts_27 (fun x12 e11 h10 => ?_)
  refine tw_iasx hx hb hK hS hz_sg hk_sg (Or.inr (by decide)) hn_sg h4 ⟨by decide, by decide⟩ (iv_any _) (jl := 0) (jh := 1999999) ⟨by decide, by decide⟩ rfl dX12_puts_28 (fun H locs M16 hS k13 f14 e15 => ?_)
  refine lv_aload_n hx hb dX12_puts_29 rfl (lv_at hl 0 rfl) ?_
  refine tw_getrk hx hb hW hown hK hS f_X12_17_11 hz_a0 hk_a0 (b := lg) k_lg dX12_puts_30 ?_
  refine lv_aload_n hx hb dX12_puts_33 rfl (lv_at hl 0 rfl) ?_
  have k17 : M16 a0 16 = tq := (Fr.kp (k := 16) f14 hk_a0 rfl).trans k_tq
  refine tw_getk hx hb hW hown hK hS f_X12_179_11 hz_a0 hk_a0 (v := tq) k17 dX12_puts_34 ?_
  refine lv_dup2_11 hx hb dX12_puts_37 rfl rfl ?_
  have k18 : M16 lg tq.toNatClampNeg = le := (Fr.kpa f14 hk_lg rfl tq.toNatClampNeg).trans k_le
  refine tw_ialk hx hb hK hS hz_lg hk_lg (Or.inr (by decide)) hn_lg h_tq ⟨by decide, by decide⟩ (v := le) k18 dX12_puts_38 ?_
  refine lv_iconst (v := 1) hx hb dX12_puts_39 (by decide) ?_
  refine tw_iadd (lo := 1) (hi := 400) hx hb h_le (iv_c (c := 1) (n := 1) (by decide)) ⟨by decide, by decide⟩ ⟨by decide, by decide⟩ dX12_puts_40 (fun x21 e20 h19 => ?_)
  have e20 : x21.toInt = le.toInt + 1 := e20
  refine tw_iast hx hb hK hS hz_lg hk_lg (Or.inr (by decide)) hn_lg h_tq ⟨by decide, by decide⟩ h19 (rg_s26 ⟨by decide, by decide⟩) (jl := 0) (jh := 1999999) ⟨by decide, by decide⟩ rfl dX12_puts_41 (fun H locs M24 hS k22 f23 => ?_)
  have zt24 := ti_cl (x := tq) (by have := h_tq.1; omega); have zn24 := ti_cl (x := le) (by have := h_le.1; omega); have zy24 := ti_cl (x := x6) (by have := (h4).1; omega)
  have zi24 : x6.toNatClampNeg = 400 * tq.toNatClampNeg + le.toNatClampNeg := by omega
  exact tw_endv hx hb hr hlocks hK hT hS hQ (⟨x12, x21, by omega, (show M24 sg (400 * tq.toNatClampNeg + le.toNatClampNeg) = x12 from by rw [← zi24, Fr.kpa f23 hk_sg rfl, e15]; exact u2_same), fun j hj => (show M24 sg j = Ma sg j from by rw [Fr.kpa f23 hk_sg rfl, e15]; exact u2_nk (fun e => hj (e.trans zi24))), k22, h19, by omega⟩) dX12_puts_42
def Lt_X12_strength : WL := []
def LRt_X12_strength : WL := []
set_option maxRecDepth 100000 in
set_option maxHeartbeats 4000000 in
theorem t_X12_strength (l : Launch) (D : va_G) (cy : Nat → ClassId) (tx : (Nat → Nat) × (Nat → Nat)) (base Z : Nat) (K N : Nat → Nat) (Ma : MT) (Ra : RT) (Ja : JT) (hTy : Ty Z K N Ma Ra) (a0 : Int32) (h_a0 : iv (-2147483648) 2147483647 a0) : Met l yX12_strength [Cond.code yX12_strength cX12_strength 1 (some .int)] (md_rm 1 0 0) (va_Pc [.int a0] (md_U D cy tx base Z K N Ma Ra Ja)) (mQi D cy tx base (fun r u => TP Z K N Lt_X12_strength LRt_X12_strength Ma Ra u ∧ (iv 0 3 r ∧ ((r.toInt = 0 ∧ ¬ a0.toInt = 11 ∧ ¬ a0.toInt = 12 ∧ ¬ a0.toInt = 13) ∨ (a0.toInt = 13 ∧ r.toInt = 1) ∨ (a0.toInt = 12 ∧ r.toInt = 2) ∨ (a0.toInt = 11 ∧ r.toInt = 3))))) 0 0 (fun q => base ≤ q) := by
  refine tw_ofW (L := Lt_X12_strength) (LR := LRt_X12_strength) (by decide) (Nat.le_of_ble_eq_true rfl) hTy ?_
  intro p e s m args below meth c Q ls hx hb hr hlocks hown hml hW hK hT hS hQ hl
  have hl : lv_has ls 1 [(0, .int a0)] := hl
  refine lv_iload_n hx hb dX12_strength_0 rfl (lv_at hl 0 rfl) ?_
  refine lv_bipush (v := 13) hx hb dX12_strength_1 (by decide) ?_
  refine lv_icmp_ne (tgt := 10) hx hb dX12_strength_3 (by decide) (fun c1 => ?_) (fun c1 => ?_)
  · have q2 : ¬ a0.toInt = 13 := ti_ne c1
    refine lv_iload_n hx hb dX12_strength_10 rfl (lv_at hl 0 rfl) ?_
    refine lv_bipush (v := 12) hx hb dX12_strength_11 (by decide) ?_
    refine lv_icmp_ne (tgt := 20) hx hb dX12_strength_13 (by decide) (fun c3 => ?_) (fun c3 => ?_)
    · have q4 : ¬ a0.toInt = 12 := ti_ne c3
      refine lv_iload_n hx hb dX12_strength_20 rfl (lv_at hl 0 rfl) ?_
      refine lv_bipush (v := 11) hx hb dX12_strength_21 (by decide) ?_
      refine lv_icmp_ne (tgt := 30) hx hb dX12_strength_23 (by decide) (fun c5 => ?_) (fun c5 => ?_)
      · have q6 : ¬ a0.toInt = 11 := ti_ne c5
        refine lv_iconst (v := 0) hx hb dX12_strength_30 (by decide) ?_
        have q7 : ((0 : Int32).toInt = 0 ∧ ¬ a0.toInt = 11 ∧ ¬ a0.toInt = 12 ∧ ¬ a0.toInt = 13) ∨ (a0.toInt = 13 ∧ (0 : Int32).toInt = 1) ∨ (a0.toInt = 12 ∧ (0 : Int32).toInt = 2) ∨ (a0.toInt = 11 ∧ (0 : Int32).toInt = 3) := by
          have := (h_a0).1; have := (h_a0).2; have : (0 : Int32).toInt = 0 := (by decide); omega
        exact tw_endi hx hb hr hlocks hK hT hS hQ (⟨(iv_mono (iv_c (c := 0) (n := 0) (by decide)) (by decide) (by decide)), q7⟩) dX12_strength_31
      · have q8 : a0.toInt = 11 := ti_eq c5
        have h9 : iv 11 11 a0 := ⟨by have := (h_a0).1; have := ((iv_c (c := 11) (n := 11) (by decide))).1; omega, by have := (h_a0).2; have := ((iv_c (c := 11) (n := 11) (by decide))).2; omega⟩
        refine lv_iconst (v := 3) hx hb dX12_strength_26 (by decide) ?_
        refine lv_goto (tgt := 31) hx hb dX12_strength_27 (by decide) ?_
        have q10 : ((3 : Int32).toInt = 0 ∧ ¬ a0.toInt = 11 ∧ ¬ a0.toInt = 12 ∧ ¬ a0.toInt = 13) ∨ (a0.toInt = 13 ∧ (3 : Int32).toInt = 1) ∨ (a0.toInt = 12 ∧ (3 : Int32).toInt = 2) ∨ (a0.toInt = 11 ∧ (3 : Int32).toInt = 3) := by
          have := (h9).1; have := (h9).2; have : (3 : Int32).toInt = 3 := (by decide); omega
        exact tw_endi hx hb hr hlocks hK hT hS hQ (⟨(iv_mono (iv_c (c := 3) (n := 3) (by decide)) (by decide) (by decide)), q10⟩) dX12_strength_31
    · have q11 : a0.toInt = 12 := ti_eq c3
      have h12 : iv 12 12 a0 := ⟨by have := (h_a0).1; have := ((iv_c (c := 12) (n := 12) (by decide))).1; omega, by have := (h_a0).2; have := ((iv_c (c := 12) (n := 12) (by decide))).2; omega⟩
      refine lv_iconst (v := 2) hx hb dX12_strength_16 (by decide) ?_
      refine lv_goto (tgt := 31) hx hb dX12_strength_17 (by decide) ?_
      have q13 : ((2 : Int32).toInt = 0 ∧ ¬ a0.toInt = 11 ∧ ¬ a0.toInt = 12 ∧ ¬ a0.toInt = 13) ∨ (a0.toInt = 13 ∧ (2 : Int32).toInt = 1) ∨ (a0.toInt = 12 ∧ (2 : Int32).toInt = 2) ∨ (a0.toInt = 11 ∧ (2 : Int32).toInt = 3) := by
        have := (h12).1; have := (h12).2; have : (2 : Int32).toInt = 2 := (by decide); omega
      exact tw_endi hx hb hr hlocks hK hT hS hQ (⟨(iv_mono (iv_c (c := 2) (n := 2) (by decide)) (by decide) (by decide)), q13⟩) dX12_strength_31
  · have q14 : a0.toInt = 13 := ti_eq c1
    have h15 : iv 13 13 a0 := ⟨by have := (h_a0).1; have := ((iv_c (c := 13) (n := 13) (by decide))).1; omega, by have := (h_a0).2; have := ((iv_c (c := 13) (n := 13) (by decide))).2; omega⟩
    refine lv_iconst (v := 1) hx hb dX12_strength_6 (by decide) ?_
    refine lv_goto (tgt := 31) hx hb dX12_strength_7 (by decide) ?_
    have q16 : ((1 : Int32).toInt = 0 ∧ ¬ a0.toInt = 11 ∧ ¬ a0.toInt = 12 ∧ ¬ a0.toInt = 13) ∨ (a0.toInt = 13 ∧ (1 : Int32).toInt = 1) ∨ (a0.toInt = 12 ∧ (1 : Int32).toInt = 2) ∨ (a0.toInt = 11 ∧ (1 : Int32).toInt = 3) := by
      have := (h15).1; have := (h15).2; have : (1 : Int32).toInt = 1 := (by decide); omega
    exact tw_endi hx hb hr hlocks hK hT hS hQ (⟨(iv_mono (iv_c (c := 1) (n := 1) (by decide)) (by decide) (by decide)), q16⟩) dX12_strength_31
def Lt_X12_settles : WL := [(12, 18, 19), (12, 21, 22), (25, 0, 2000000), (26, 0, 2000000)]
def LRt_X12_settles : WL := []
set_option maxRecDepth 100000 in
set_option maxHeartbeats 4000000 in
theorem t_X12_settles (l : Launch) (D : va_G) (cy : Nat → ClassId) (tx : (Nat → Nat) × (Nat → Nat)) (base Z : Nat) (K N : Nat → Nat) (Ma : MT) (Ra : RT) (Ja : JT) (hTy : Ty Z K N Ma Ra) (a0 : Nat) (hz_a0 : a0 < Z) (hk_a0 : K a0 = 12) (a1 : Int32) (h_a1 : iv 1 3 a1) (nx : Int32) (k_nx : Ma a0 13 = nx) (h_nx : iv 0 400 nx) (lg : Nat) (k_lg : Ra a0 4 = some lg) (sg : Nat) (k_sg : Ra a0 3 = some sg) (tq : Int32) (k_tq : Ma a0 16 = tq) (h_tq : iv 0 5 tq) (le : Int32) (k_le : Ma lg tq.toNatClampNeg = le) (h_le : iv 0 400 le) (md : Int32) (k_md : Ma a0 17 = md) (h_md : iv 0 60 md) (op : Nat) (k_op : Ra a0 20 = some op) (on : Int32) (k_on : Ma a0 21 = on) (h_on : iv 0 400 on) (sb : Nat) (sh : Nat) (hseg : SEG Ma sg tq.toNatClampNeg sb le.toNatClampNeg sh) (hsb : (sb : Int) ≤ le.toInt) (hsh : (sh : Int) ≤ md.toInt) (hbud : le.toInt + on.toInt ≤ nx.toInt) (hopk : opK Ma op on.toNatClampNeg) (hnb : nbo Ma op on.toNatClampNeg + 1 = sh) : Met l yX12_settles [Cond.code yX12_settles cX12_settles 2 none] (md_rm 2 0 0) (va_Pc [.ref (base + a0), .int a1] (md_U D cy tx base Z K N Ma Ra Ja)) (mQv D cy tx base (fun u => TP Z K N Lt_X12_settles LRt_X12_settles Ma Ra u ∧ ((∃ x0 x1 : Int32, u.2.2.2.1 a0 21 = x0 ∧ u.2.2.2.1 lg tq.toNatClampNeg = x1 ∧ iv 0 400 x0 ∧ iv 0 400 x1 ∧ (x0.toInt ≤ on.toInt ∧ x1.toInt + x0.toInt = le.toInt + on.toInt ∧ le.toInt ≤ x1.toInt) ∧ SEG u.2.2.2.1 sg tq.toNatClampNeg sb x1.toNatClampNeg (nbo Ma op x0.toNatClampNeg + 1) ∧ (∀ j, j < 400 * tq.toNatClampNeg + le.toNatClampNeg → u.2.2.2.1 sg j = Ma sg j) ∧ (∀ j, x0.toNatClampNeg ≤ j → j < on.toNatClampNeg → ¬ Ma op j = 91) ∧ (x0.toInt = 0 ∨ ¬ a1.toInt = 1 ∨ (∃ k, k + 1 = x0.toNatClampNeg ∧ Ma op k = 91)))))) 0 0 (fun q => base ≤ q) := by
  refine tw_ofW (L := Lt_X12_settles) (LR := LRt_X12_settles) (by decide) (Nat.le_of_ble_eq_true rfl) hTy ?_
  intro p e s m args below meth c Q ls hx hb hr hlocks hown hml hW hK hT hS hQ hl
  have hl : lv_has ls 2 [(0, .ref (base + a0)), (1, .int a1)] := hl
  obtain ⟨hz_lg, hk_lg, hn_lg⟩ := hTy.refn hz_a0 hk_a0 (show rtR 12 4 = (26, 7, 0) from rfl) k_lg
  have hn_lg := hn_lg (by decide)
  obtain ⟨hz_sg, hk_sg, hn_sg⟩ := hTy.refn hz_a0 hk_a0 (show rtR 12 3 = (25, 2400, 0) from rfl) k_sg
  have hn_sg := hn_sg (by decide)
  obtain ⟨hz_op, hk_op, hn_op⟩ := hTy.refn hz_a0 hk_a0 (show rtR 12 20 = (14, 400, 0) from rfl) k_op
  have hn_op := hn_op (by decide)
  have W0_1 : ∀ (n_1 : Nat) (x6 : Int32) (x8 : Int32) (M1 : MT) (R2 : RT) (J3 : JT) (H : Heap) (locs : List Loc) (ls : Array Slot) (h_x6 : iv 0 400 x6) (k7 : M1 a0 21 = x6) (h_x8 : iv 0 400 x8) (k9 : M1 lg tq.toNatClampNeg = x8) (w0_1 : x6.toInt ≤ on.toInt ∧ x8.toInt + x6.toInt = le.toInt + on.toInt ∧ le.toInt ≤ x8.toInt) (w1_1 : SEG M1 sg tq.toNatClampNeg sb x8.toNatClampNeg (nbo Ma op x6.toNatClampNeg + 1)) (w2_1 : ∀ j, j < 400 * tq.toNatClampNeg + le.toNatClampNeg → M1 sg j = Ma sg j) (w3_1 : ∀ j, x6.toNatClampNeg ≤ j → j < on.toNatClampNeg → ¬ Ma op j = 91) (hm_1 : x6.toInt < (n_1 : Int)) (hS : SB D cy base Z K N Lt_X12_settles LRt_X12_settles Ma Ra M1 R2 J3 s H locs) (hl : lv_has ls 2 [(0, .ref (base + a0)), (1, .int a1)]), W p l e (md_rm 2 0 0) s m args below meth c H locs 0 0 Q (F0 m 0 ls []) := by
    intro n_1
    induction n_1 with
    | zero =>
      intro x6 x8 M1 R2 J3 H locs ls h_x6 k7 h_x8 k9 w0_1 w1_1 w2_1 w3_1 hm_1 hS hl
      exfalso
      have := (h_a1).1; have := (h_a1).2; have := (h_le).1; have := (h_le).2; have := (h_md).1; have := (h_md).2; have := (h_nx).1; have := (h_nx).2; have := (h_on).1; have := (h_on).2; have := (h_tq).1; have := (h_tq).2; have := (h_x6).1; have := (h_x6).2; have := (h_x8).1; have := (h_x8).2; omega
    | succ n_1 ih_1 =>
      intro x6 x8 M1 R2 J3 H locs ls h_x6 k7 h_x8 k9 w0_1 w1_1 w2_1 w3_1 hm_1 hS hl
      have f4 := hS.2.2.1
      have g5 := hS.2.2.2
      refine lv_aload_n hx hb dX12_settles_0 rfl (lv_at hl 0 rfl) ?_
      refine tw_getk hx hb hW hown hK hS f_X12_188_11 hz_a0 hk_a0 (v := x6) k7 dX12_settles_1 ?_
      refine lv_if_le (tgt := 76) hx hb dX12_settles_4 (by decide) (fun c10 => ?_) (fun c10 => ?_)
      · have q11 : x6.toInt ≤ 0 := ti_le c10
        have h12 : iv 0 0 x6 := iv_leL (y := 0) h_x6 (iv_c (c := 0) (n := 0) (by decide)) q11 (by decide)
        have q13 : x6.toInt ≤ on.toInt ∧ x8.toInt + x6.toInt = le.toInt + on.toInt ∧ le.toInt ≤ x8.toInt := by
          have := (h_a1).1; have := (h_a1).2; have := (h_le).1; have := (h_le).2; have := (h_md).1; have := (h_md).2; have := (h_nx).1; have := (h_nx).2; have := (h_on).1; have := (h_on).2; have := (h_tq).1; have := (h_tq).2; have := (h12).1; have := (h12).2; have := (h_x8).1; have := (h_x8).2; omega
        exact tw_endv hx hb hr hlocks hK hT hS hQ (⟨x6, x8, k7, k9, (iv_mono h12 (by decide) (by decide)), h_x8, q13, w1_1, w2_1, w3_1, Or.inl (by have := (h12).1; have := (h12).2; omega)⟩) dX12_settles_76
      · have q14 : 0 < x6.toInt := ti_nle c10
        have h15 : iv 1 400 x6 := iv_gtL (y := 0) h_x6 (iv_c (c := 0) (n := 0) (by decide)) q14 (by decide)
        refine lv_aload_n hx hb dX12_settles_7 rfl (lv_at hl 0 rfl) ?_
        have k16 : R2 a0 20 = some op := (Fr.kp (k := 20) g5 hk_a0 rfl).trans k_op
        refine tw_getrk hx hb hW hown hK hS f_X12_35_11 hz_a0 hk_a0 (b := op) k16 dX12_settles_8 ?_
        refine lv_aload_n hx hb dX12_settles_11 rfl (lv_at hl 0 rfl) ?_
        refine tw_getk hx hb hW hown hK hS f_X12_188_11 hz_a0 hk_a0 (v := x6) k7 dX12_settles_12 ?_
        refine lv_iconst (v := 1) hx hb dX12_settles_15 (by decide) ?_
        refine tw_isub (lo := 0) (hi := 399) hx hb h15 (iv_c (c := 1) (n := 1) (by decide)) ⟨by decide, by decide⟩ ⟨by decide, by decide⟩ dX12_settles_16 (fun x19 e18 h17 => ?_)
        have e18 : x19.toInt = x6.toInt - 1 := e18
        refine tw_iald hx hb hK hS hz_op hk_op (Or.inl rfl) hn_op (lo := (-2147483648)) (hi := 2147483647) h17 ⟨by decide, by decide⟩ rg_u14 dX12_settles_17 (fun x22 k21 h20 => ?_)
        refine tw_goi hS (md_runS (As := [.int x22]) (rest := []) hx hb hml hown hW hK hT hS.1 (t_X12_strength l D cy tx base Z K N M1 R2 J3 hS.2.1 x22 h20) s_X12_191 ⟨rfl, rfl, ⟨Nat.le_of_ble_eq_true rfl, Nat.le_of_ble_eq_true rfl⟩, ⟨Nat.le_of_ble_eq_true rfl, Nat.le_of_ble_eq_true rfl⟩⟩ rfl hl.1 rfl (Nat.le_of_ble_eq_true rfl) dX12_settles_18) rfl rfl (fun x29 H locs M26 R27 J25 hS f23 g24 E28 => ?_)
        have eM26 := Fr.nil f23 rfl
        subst eM26
        have eR27 := Fr.nil g24 rfl
        subst eR27
        obtain ⟨h_x29, p30⟩ := E28
        refine lv_iload_n hx hb dX12_settles_21 rfl (lv_at hl 1 rfl) ?_
        refine lv_icmp_lt (tgt := 76) hx hb dX12_settles_22 (by decide) (fun c31 => ?_) (fun c31 => ?_)
        · have q32 : x29.toInt < a1.toInt := ti_lt c31
          have h33 : iv 0 2 x29 := iv_ltL (y := a1) h_x29 h_a1 q32 (by decide)
          have q34 : x6.toInt ≤ on.toInt ∧ x8.toInt + x6.toInt = le.toInt + on.toInt ∧ le.toInt ≤ x8.toInt := by
            have := (h_a1).1; have := (h_a1).2; have := (h_le).1; have := (h_le).2; have := (h_md).1; have := (h_md).2; have := (h_nx).1; have := (h_nx).2; have := (h_on).1; have := (h_on).2; have := (h_tq).1; have := (h_tq).2; have := (h17).1; have := (h17).2; have := (h15).1; have := (h15).2; have := (h_x8).1; have := (h_x8).2; omega
          have zy34 := ti_cl (x := x19) (by have := (h17).1; omega); have zx34 := ti_cl (x := x6) (by have := (h15).1; omega); have zq34 := ti_cl (x := on) (by have := h_on.1; omega)
          have zm34 : Ma op x19.toNatClampNeg = x22 := (Fr.kpa hS.2.2.1 hk_op rfl _).symm.trans k21
          have zo34 := hopk x19.toNatClampNeg (by omega)
          rw [zm34] at zo34
          exact tw_endv hx hb hr hlocks hK hT hS hQ (⟨x6, x8, k7, k9, (iv_mono h15 (by decide) (by decide)), h_x8, q34, w1_1, w2_1, w3_1, Or.inr (by by_cases e : a1.toInt = 1; (· exact Or.inr ⟨x19.toNatClampNeg, by omega, by rw [zm34]; rcases zo34 with h | h | h | h <;> first | exact h | (exfalso; have h5 := ti_eq h; have : (11 : Int32).toInt = 11 := (by decide); have : (12 : Int32).toInt = 12 := (by decide); have : (13 : Int32).toInt = 13 := (by decide); omega)⟩); (· exact Or.inl e))⟩) dX12_settles_76
        · have q35 : a1.toInt ≤ x29.toInt := ti_nlt c31
          have h36 : iv 1 3 x29 := iv_geL (y := a1) h_x29 h_a1 q35 (by decide)
          refine lv_aload_n hx hb dX12_settles_25 rfl (lv_at hl 0 rfl) ?_
          refine lv_dup hx hb dX12_settles_26 rfl ?_
          refine tw_getk hx hb hW hown hK hS f_X12_188_11 hz_a0 hk_a0 (v := x6) k7 dX12_settles_27 ?_
          refine lv_iconst (v := 1) hx hb dX12_settles_30 (by decide) ?_
          refine tw_isub (lo := 0) (hi := 399) hx hb h15 (iv_c (c := 1) (n := 1) (by decide)) ⟨by decide, by decide⟩ ⟨by decide, by decide⟩ dX12_settles_31 (fun x39 e38 h37 => ?_)
          have e38 : x39.toInt = x6.toInt - 1 := e38
          refine tw_puti hx hb hW hown hK hS f_X12_188_11 hz_a0 hk_a0 rfl rfl (lo := 0) (hi := 400) rfl (iv_mono h37 (by decide) (by decide)) rfl dX12_settles_32 (fun H locs M42 hS k40 f41 => ?_)
          refine lv_aload_n hx hb dX12_settles_35 rfl (lv_at hl 0 rfl) ?_
          refine lv_aload_n hx hb dX12_settles_36 rfl (lv_at hl 0 rfl) ?_
          have k43 : R2 a0 20 = some op := (Fr.kp (k := 20) g5 hk_a0 rfl).trans k_op
          refine tw_getrk hx hb hW hown hK hS f_X12_35_11 hz_a0 hk_a0 (b := op) k43 dX12_settles_37 ?_
          refine lv_aload_n hx hb dX12_settles_40 rfl (lv_at hl 0 rfl) ?_
          refine tw_getk hx hb hW hown hK hS f_X12_188_11 hz_a0 hk_a0 (v := x39) k40 dX12_settles_41 ?_
          refine tw_iald hx hb hK hS hz_op hk_op (Or.inl rfl) hn_op (lo := (-2147483648)) (hi := 2147483647) h37 ⟨by decide, by decide⟩ rg_u14 dX12_settles_44 (fun x46 k45 h44 => ?_)
          refine lv_iconst (v := 0) hx hb dX12_settles_45 (by decide) ?_
          have k47 : M42 op x19.toNatClampNeg = x22 := (Fr.kpa f41 hk_op rfl x19.toNatClampNeg).trans k21
          have zx46 := ti_cl (x := x39) (by have := (h37).1; omega); have zy46 := ti_cl (x := x19) (by have := (h17).1; omega); have zt46 := ti_cl (x := x6) (by have := (h15).1; omega)
          have ze46 : x46 = x22 := by rw [← k45, ← k47, show x39.toNatClampNeg = x19.toNatClampNeg by omega]
          have h48 : iv 11 13 x46 := by rw [ze46]; exact ⟨by have := h_a1.1; omega, by have := h_a1.1; omega⟩
          have k49 : Ma op x39.toNatClampNeg = x46 := (Fr.kpa hS.2.2.1 hk_op rfl _).symm.trans k45
          have k50 : R2 a0 3 = some sg := (Fr.kp (k := 3) g5 hk_a0 rfl).trans k_sg
          have k51 : R2 a0 4 = some lg := (Fr.kp (k := 4) g5 hk_a0 rfl).trans k_lg
          have k52 : M42 a0 16 = tq := ((Fr.kp (k := 16) f41 hk_a0 rfl).trans (Fr.kp (k := 16) f4 hk_a0 rfl)).trans k_tq
          have k53 : M42 lg tq.toNatClampNeg = x8 := (Fr.kpa f41 hk_lg rfl tq.toNatClampNeg).trans k9
          have h54 : iv 0 399 x8 := by
            have := (h_a1).1; have := (h_a1).2; have := (h_le).1; have := (h_le).2; have := (h_md).1; have := (h_md).2; have := (h_nx).1; have := (h_nx).2; have := (h_on).1; have := (h_on).2; have := (h_tq).1; have := (h_tq).2; have := (h17).1; have := (h17).2; have := (h37).1; have := (h37).2; have := (h15).1; have := (h15).2; have := (h_x8).1; have := (h_x8).2; exact ⟨by omega, by omega⟩
          refine tw_gov hS (md_runV (As := [.int x46, .int 0]) (rest := []) hx hb hml hown hW hK hT hS.1 (t_X12_puts l D cy tx base Z K N M42 R2 J25 hS.2.1 a0 hz_a0 hk_a0 x46 (iv_mono h48 (by decide) (by decide)) 0 (iv_mono (iv_c (c := 0) (n := 0) (by decide)) (by decide) (by decide)) sg k50 lg k51 tq k52 (iv_mono h_tq (by decide) (by decide)) x8 k53 h54) s_X12_195 ⟨rfl, rfl, ⟨Nat.le_of_ble_eq_true rfl, Nat.le_of_ble_eq_true rfl⟩, ⟨Nat.le_of_ble_eq_true rfl, Nat.le_of_ble_eq_true rfl⟩⟩ hz_a0 hk_a0 (by decide) rfl rfl hl.1 rfl (Nat.le_of_ble_eq_true rfl) dX12_settles_46) rfl rfl (fun H locs M58 R59 J57 hS f55 g56 E60 => ?_)
          have eR59 := Fr.nil g56 rfl
          subst eR59
          have p61 := E60
          clear E60
          obtain ⟨x62, x64, zc61, zd61, zo61, k65, h63, zl61⟩ := p61
          have k65 : M58 lg tq.toNatClampNeg = x64 := k65
          have zp61 : (0 : Int32).toInt = 0 := (by decide)
          have za61 := ti_cl (x := tq) (by have := h_tq.1; omega); have zn61 := ti_cl (x := x8) (by have := (h_x8).1; omega); have zm61 := ti_cl (x := x64) (by have := (h63).1; omega); have zx61 := ti_cl (x := x39) (by have := (h37).1; omega); have zt61 := ti_cl (x := x6) (by have := (h15).1; omega); have zw61 := ti_cl (x := le) (by have := h_le.1; omega)
          have zs61 := set_step (M := Ma) (op := op) (x := x39.toNatClampNeg) (t := x6.toNatClampNeg) (cd := x62) (by omega) k49 (by have := (h48).1; have := (h48).2; omega) (by omega)
          have z66 : SEG M58 sg tq.toNatClampNeg sb x64.toNatClampNeg (nbo Ma op x39.toNatClampNeg + 1) := SEG.cast (SEG.ext (SEG.to w1_1 (fun j _ _ => Fr.kpa f41 hk_sg rfl j)) (by omega) zd61 zo61 zs61) (by omega) rfl
          have z67 : ∀ j, j < 400 * tq.toNatClampNeg + le.toNatClampNeg → M58 sg j = Ma sg j := fun j hj => (zo61 j (by omega)).trans ((fun j hj => (Fr.kpa f41 hk_sg rfl j).trans (w2_1 j hj)) j hj)
          refine lv_aload_n hx hb dX12_settles_49 rfl (lv_at hl 0 rfl) ?_
          have k68 : R2 a0 20 = some op := (Fr.kp (k := 20) g5 hk_a0 rfl).trans k_op
          refine tw_getrk hx hb hW hown hK hS f_X12_35_11 hz_a0 hk_a0 (b := op) k68 dX12_settles_50 ?_
          refine lv_aload_n hx hb dX12_settles_53 rfl (lv_at hl 0 rfl) ?_
          have k69 : M58 a0 21 = x39 := (Fr.kp (k := 21) f55 hk_a0 rfl).trans k40
          refine tw_getk hx hb hW hown hK hS f_X12_188_11 hz_a0 hk_a0 (v := x39) k69 dX12_settles_54 ?_
          have k70 : M58 op x39.toNatClampNeg = x46 := (Fr.kpa f55 hk_op rfl x39.toNatClampNeg).trans k45
          refine tw_ialk hx hb hK hS hz_op hk_op (Or.inl rfl) hn_op h37 ⟨by decide, by decide⟩ (v := x46) k70 dX12_settles_57 ?_
          refine lv_bipush (v := 11) hx hb dX12_settles_58 (by decide) ?_
          refine lv_icmp_ne (tgt := 0) hx hb dX12_settles_60 (by decide) (fun c71 => ?_) (fun c71 => ?_)
          · have q72 : ¬ x46.toInt = 11 := ti_ne c71
            have h73 : iv 12 13 x46 := ⟨by have := (h48).1; have := ((iv_c (c := 11) (n := 11) (by decide))).1; have := ((iv_c (c := 11) (n := 11) (by decide))).2; omega, by have := (h48).2; have := ((iv_c (c := 11) (n := 11) (by decide))).1; have := ((iv_c (c := 11) (n := 11) (by decide))).2; omega⟩
            have w74 : x39.toInt ≤ on.toInt ∧ x64.toInt + x39.toInt = le.toInt + on.toInt ∧ le.toInt ≤ x64.toInt := by
              have := (h_a1).1; have := (h_a1).2; have := (h_le).1; have := (h_le).2; have := (h_md).1; have := (h_md).2; have := (h_nx).1; have := (h_nx).2; have := (h_on).1; have := (h_on).2; have := (h_tq).1; have := (h_tq).2; have := (h17).1; have := (h17).2; have := (h37).1; have := (h37).2; have := (h15).1; have := (h15).2; have := (h63).1; have := (h63).2; have := (h_x8).1; have := (h_x8).2; omega
            have w75 : SEG M58 sg tq.toNatClampNeg sb x64.toNatClampNeg (nbo Ma op x39.toNatClampNeg + 1) := z66
            have w76 : ∀ j, j < 400 * tq.toNatClampNeg + le.toNatClampNeg → M58 sg j = Ma sg j := z67
            have w77 : ∀ j, x39.toNatClampNeg ≤ j → j < on.toNatClampNeg → ¬ Ma op j = 91 := fun j h1 h2 => by by_cases e : j = x39.toNatClampNeg; (· rw [e, k49]; exact fun q => absurd (ti_eq q) (by have : (91 : Int32).toInt = 91 := (by decide); have := (h73).2; omega)); (· exact w3_1 j (by omega) h2)
            have hm78 : x39.toInt < (n_1 : Int) := by
              have := (h_a1).1; have := (h_a1).2; have := (h_le).1; have := (h_le).2; have := (h_md).1; have := (h_md).2; have := (h_nx).1; have := (h_nx).2; have := (h_on).1; have := (h_on).2; have := (h_tq).1; have := (h_tq).2; have := (h17).1; have := (h17).2; have := (h37).1; have := (h37).2; have := (h15).1; have := (h15).2; have := (h63).1; have := (h63).2; have := (h_x8).1; have := (h_x8).2; omega
            exact ih_1 x39 x64 M58 R2 J57 H locs _ (iv_mono h37 (by decide) (by decide)) k69 (iv_mono h63 (by decide) (by decide)) k65 w74 w75 w76 w77 hm78 hS hl
          · have q79 : x46.toInt = 11 := ti_eq c71
            have h80 : iv 11 11 x46 := ⟨by have := (h48).1; have := ((iv_c (c := 11) (n := 11) (by decide))).1; omega, by have := (h48).2; have := ((iv_c (c := 11) (n := 11) (by decide))).2; omega⟩
            refine lv_aload_n hx hb dX12_settles_63 rfl (lv_at hl 0 rfl) ?_
            refine lv_dup hx hb dX12_settles_64 rfl ?_
            refine tw_geti hx hb hW hown hK hS f_X12_185_11 hz_a0 hk_a0 (lo := (-2147483648)) (hi := 2147483647) rfl dX12_settles_65 (fun x83 k82 h81 => ?_)
            refine lv_iconst (v := 1) hx hb dX12_settles_68 (by decide) ?_
            refine lv_isub hx hb dX12_settles_69 ?_
            refine tw_top (fun x85 => ?_)
            have h84 := iv_any x85
            refine tw_puti hx hb hW hown hK hS f_X12_185_11 hz_a0 hk_a0 rfl rfl (lo := (-2147483648)) (hi := 2147483647) rfl h84 rfl dX12_settles_70 (fun H locs M88 hS k86 f87 => ?_)
            refine lv_goto (tgt := 0) hx hb dX12_settles_73 (by decide) ?_
            have k89 : M88 a0 21 = x39 := (Fr.kp (k := 21) f87 hk_a0 rfl).trans k69
            have k90 : M88 lg tq.toNatClampNeg = x64 := (Fr.kpa f87 hk_lg rfl tq.toNatClampNeg).trans k65
            have w91 : x39.toInt ≤ on.toInt ∧ x64.toInt + x39.toInt = le.toInt + on.toInt ∧ le.toInt ≤ x64.toInt := by
              have := (h_a1).1; have := (h_a1).2; have := (h_le).1; have := (h_le).2; have := (h_md).1; have := (h_md).2; have := (h_nx).1; have := (h_nx).2; have := (h_on).1; have := (h_on).2; have := (h_tq).1; have := (h_tq).2; have := (h17).1; have := (h17).2; have := (h37).1; have := (h37).2; have := (h15).1; have := (h15).2; have := (h63).1; have := (h63).2; have := (h_x8).1; have := (h_x8).2; omega
            have w92 : SEG M88 sg tq.toNatClampNeg sb x64.toNatClampNeg (nbo Ma op x39.toNatClampNeg + 1) := (SEG.to z66 (fun j _ _ => Fr.kpa f87 hk_sg rfl j))
            have w93 : ∀ j, j < 400 * tq.toNatClampNeg + le.toNatClampNeg → M88 sg j = Ma sg j := (fun j hj => (Fr.kpa f87 hk_sg rfl j).trans (z67 j hj))
            have w94 : ∀ j, x39.toNatClampNeg ≤ j → j < on.toNatClampNeg → ¬ Ma op j = 91 := fun j h1 h2 => by by_cases e : j = x39.toNatClampNeg; (· rw [e, k49]; exact fun q => absurd (ti_eq q) (by have : (91 : Int32).toInt = 91 := (by decide); have := (h80).2; omega)); (· exact w3_1 j (by omega) h2)
            have hm95 : x39.toInt < (n_1 : Int) := by
              have := (h_a1).1; have := (h_a1).2; have := (h_le).1; have := (h_le).2; have := (h_md).1; have := (h_md).2; have := (h_nx).1; have := (h_nx).2; have := (h_on).1; have := (h_on).2; have := (h_tq).1; have := (h_tq).2; have := (h17).1; have := (h17).2; have := (h37).1; have := (h37).2; have := (h15).1; have := (h15).2; have := (h63).1; have := (h63).2; have := (h_x8).1; have := (h_x8).2; omega
            exact ih_1 x39 x64 M88 R2 J57 H locs _ (iv_mono h37 (by decide) (by decide)) k89 (iv_mono h63 (by decide) (by decide)) k90 w91 w92 w93 w94 hm95 hS hl
  have w96 : on.toInt ≤ on.toInt ∧ le.toInt + on.toInt = le.toInt + on.toInt ∧ le.toInt ≤ le.toInt := by
    have := (h_a1).1; have := (h_a1).2; have := (h_le).1; have := (h_le).2; have := (h_md).1; have := (h_md).2; have := (h_nx).1; have := (h_nx).2; have := (h_on).1; have := (h_on).2; have := (h_tq).1; have := (h_tq).2; omega
  have w97 : SEG Ma sg tq.toNatClampNeg sb le.toNatClampNeg (nbo Ma op on.toNatClampNeg + 1) := SEG.cast hseg rfl hnb.symm
  have w98 : ∀ j, j < 400 * tq.toNatClampNeg + le.toNatClampNeg → Ma sg j = Ma sg j := (fun j _ => rfl)
  have w99 : ∀ j, on.toNatClampNeg ≤ j → j < on.toNatClampNeg → ¬ Ma op j = 91 := fun j h1 h2 => absurd h2 (by omega)
  have hm100 : on.toInt < (((401 : Nat) : Int) : Int) := by
    have := (h_a1).1; have := (h_a1).2; have := (h_le).1; have := (h_le).2; have := (h_md).1; have := (h_md).2; have := (h_nx).1; have := (h_nx).2; have := (h_on).1; have := (h_on).2; have := (h_tq).1; have := (h_tq).2; omega
  exact W0_1 401 on le Ma Ra Ja s.heap [] _ h_on k_on h_le k_le w96 w97 w98 w99 hm100 hS hl
