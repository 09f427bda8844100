def Lt_X12_comesTo : WL := [(12, 23, 24), (12, 28, 29), (12, 31, 33), (14, 0, 2000000), (36, 0, 2000000), (41, 0, 2000000)]
def LRt_X12_comesTo : WL := []
set_option maxRecDepth 100000 in
set_option maxHeartbeats 4000000 in
theorem t_X12_comesTo (l : Launch) (D : va_G) (cy : Nat → ClassId) (tx : (Nat → Nat) × (Nat → Nat)) (base Z : Nat) (K N : Nat → Nat) (Ma : MT) (Ra : RT) (Ja : JT) (hTy : Ty Z K N Ma Ra) (a0 : Nat) (hz_a0 : a0 < Z) (hk_a0 : K a0 = 12) (a1 : Int32) (h_a1 : iv 0 3 a1) (co_a0 : Codes Ma Ra a0) (fg : Nat) (k_fg : Ra a0 38 = some fg) : Met l yX12_comesTo [Cond.code yX12_comesTo cX12_comesTo 3 none] (md_rm 5 0 0) (va_Pc [.ref (base + a0), .int a1] (md_U D cy tx base Z K N Ma Ra Ja)) (mQv D cy tx base (fun u => TP Z K N Lt_X12_comesTo LRt_X12_comesTo Ma Ra u ∧ (((∀ k, k ≠ a1.toNatClampNeg → u.2.2.2.1 fg k = Ma fg k) ∧ (u.2.2.2.1 fg a1.toNatClampNeg).toInt = -1)))) 0 0 (fun q => base ≤ q) := by
  refine tw_ofW (L := Lt_X12_comesTo) (LR := LRt_X12_comesTo) (by decide) (Nat.le_of_ble_eq_true rfl) hTy ?_
  intro p e s m args below meth c Q ls hx hb hr hlocks hown hml hW hK hT hS hQ hl
  have hl : lv_has ls 3 [(0, .ref (base + a0)), (1, .int a1)] := hl
  obtain ⟨hz_fg, hk_fg, hn_fg⟩ := hTy.refn hz_a0 hk_a0 (show rtR 12 38 = (41, 5, 0) from rfl) k_fg
  have hn_fg := hn_fg (by decide)
  refine lv_iconst (v := 0) hx hb dX12_comesTo_0 (by decide) ?_
  refine lv_istore_n (lv' := [(2, .int 0), (0, .ref (base + a0)), (1, .int a1)]) hx hb dX12_comesTo_1 rfl hl (by decide) rfl (fun ls hl => ?_)
  have W2_2 : ∀ (n_2 : Nat) (x1 : Int32) (M2 : MT) (R3 : RT) (J4 : JT) (H : Heap) (locs : List Loc) (ls : Array Slot) (h_x1 : iv 0 10 x1) (w0_2 : ∀ j, M2 fg j = Ma fg j) (hm_2 : 10 - x1.toInt < (n_2 : Int)) (hS : SB D cy base Z K N Lt_X12_comesTo LRt_X12_comesTo Ma Ra M2 R3 J4 s H locs) (hl : lv_has ls 3 [(2, .int x1), (0, .ref (base + a0)), (1, .int a1)]), W p l e (md_rm 5 0 0) s m args below meth c H locs 0 0 Q (F0 m 2 ls []) := by
    intro n_2
    induction n_2 with
    | zero =>
      intro x1 M2 R3 J4 H locs ls h_x1 w0_2 hm_2 hS hl
      exfalso
      have := (h_a1).1; have := (h_a1).2; have := (h_x1).1; have := (h_x1).2; omega
    | succ n_2 ih_2 =>
      intro x1 M2 R3 J4 H locs ls h_x1 w0_2 hm_2 hS hl
      have f5 := hS.2.2.1
      have g6 := hS.2.2.2
      refine lv_iload_n hx hb dX12_comesTo_2 rfl (lv_at hl 0 rfl) ?_
      refine lv_bipush (v := 10) hx hb dX12_comesTo_3 (by decide) ?_
      refine lv_icmp_ge (tgt := 31) hx hb dX12_comesTo_5 (by decide) (fun c7 => ?_) (fun c7 => ?_)
      · have q8 : 10 ≤ x1.toInt := ti_le c7
        have h9 : iv 10 10 x1 := iv_geL (y := 10) h_x1 (iv_c (c := 10) (n := 10) (by decide)) q8 (by decide)
        refine lv_aload_n hx hb dX12_comesTo_31 rfl (lv_at hl 1 rfl) ?_
        refine lv_aload_n hx hb dX12_comesTo_32 rfl (lv_at hl 1 rfl) ?_
        refine tw_getr hx hb hW hown hK hS f_X12_45_11 hz_a0 hk_a0 (t := 23) (n := 226) rfl dX12_comesTo_33 (fun b10 k11 hz_b10 hk_b10 hn_b10 => ?_)
        have hn_b10 := hn_b10 (by decide)
        refine lv_iconst (v := 3) hx hb dX12_comesTo_36 (by decide) ?_
        refine tw_iald hx hb hK hS hz_b10 hk_b10 (Or.inr (by decide)) hn_b10 (lo := (-2147483648)) (hi := 2147483647) (iv_c (c := 3) (n := 3) (by decide)) ⟨by decide, by decide⟩ (rg_c (k0 := 3) rfl rfl rfl) dX12_comesTo_37 (fun x14 k13 h12 => ?_)
        refine lv_iload_n hx hb dX12_comesTo_38 rfl (lv_at hl 2 rfl) ?_
        refine lv_iadd hx hb dX12_comesTo_39 ?_
        refine tw_top (fun x16 => ?_)
        have h15 := iv_any x16
        refine tw_puti hx hb hW hown hK hS f_X12_348_11 hz_a0 hk_a0 rfl rfl (lo := (-2147483648)) (hi := 2147483647) rfl h15 rfl dX12_comesTo_40 (fun H locs M19 hS k17 f18 => ?_)
        refine lv_aload_n hx hb dX12_comesTo_43 rfl (lv_at hl 1 rfl) ?_
        refine lv_aload_n hx hb dX12_comesTo_44 rfl (lv_at hl 1 rfl) ?_
        refine tw_getr hx hb hW hown hK hS f_X12_54_11 hz_a0 hk_a0 (t := 31) (n := 8) rfl dX12_comesTo_45 (fun b20 k21 hz_b20 hk_b20 hn_b20 => ?_)
        have hn_b20 := hn_b20 (by decide)
        refine lv_iload_n hx hb dX12_comesTo_48 rfl (lv_at hl 2 rfl) ?_
        refine tw_iald hx hb hK hS hz_b20 hk_b20 (Or.inr (by decide)) hn_b20 (lo := 0) (hi := 11) h_a1 ⟨by decide, by decide⟩ rg_u31 dX12_comesTo_49 (fun x24 k23 h22 => ?_)
        refine lv_iload_n hx hb dX12_comesTo_50 rfl (lv_at hl 2 rfl) ?_
        refine tw_gov hS (md_runV (As := [.int x24, .int a1]) (rest := []) hx hb hml hown hW hK hT hS.1 (t_X12_asks l D cy tx base Z K N M19 R3 J4 hS.2.1 a0 hz_a0 hk_a0 x24 h22 a1 (iv_mono h_a1 (by decide) (by decide)) (Codes.fr co_a0 hTy hz_a0 hk_a0 hS.2.2.1 hS.2.2.2 rfl)) s_X12_396 ⟨rfl, rfl, ⟨Nat.le_of_ble_eq_true rfl, Nat.le_of_ble_eq_true rfl⟩, ⟨Nat.le_of_ble_eq_true rfl, Nat.le_of_ble_eq_true rfl⟩⟩ hz_a0 hk_a0 (by decide) rfl rfl hl.1 rfl (Nat.le_of_ble_eq_true rfl) dX12_comesTo_51) rfl rfl (fun H locs M28 R29 J27 hS f25 g26 E30 => ?_)
        have eR29 := Fr.nil g26 rfl
        subst eR29
        refine lv_aload_n hx hb dX12_comesTo_54 rfl (lv_at hl 1 rfl) ?_
        refine tw_getr hx hb hW hown hK hS f_X12_72_11 hz_a0 hk_a0 (t := 14) (n := 5) rfl dX12_comesTo_55 (fun b31 k32 hz_b31 hk_b31 hn_b31 => ?_)
        have hn_b31 := hn_b31 (by decide)
        refine lv_iload_n hx hb dX12_comesTo_58 rfl (lv_at hl 2 rfl) ?_
        refine lv_aload_n hx hb dX12_comesTo_59 rfl (lv_at hl 1 rfl) ?_
        refine tw_geti hx hb hW hown hK hS f_X12_364_11 hz_a0 hk_a0 (lo := (-2147483648)) (hi := 2147483647) rfl dX12_comesTo_60 (fun x35 k34 h33 => ?_)
        refine tw_iast hx hb hK hS hz_b31 hk_b31 (Or.inl rfl) hn_b31 h_a1 ⟨by decide, by decide⟩ h33 (rg_s14 ⟨by decide, by decide⟩) (jl := 0) (jh := 1999999) ⟨by decide, by decide⟩ rfl dX12_comesTo_63 (fun H locs M38 hS k36 f37 => ?_)
        refine lv_aload_n hx hb dX12_comesTo_64 rfl (lv_at hl 1 rfl) ?_
        refine tw_getr hx hb hW hown hK hS f_X12_75_11 hz_a0 hk_a0 (t := 14) (n := 5) rfl dX12_comesTo_65 (fun b39 k40 hz_b39 hk_b39 hn_b39 => ?_)
        have hn_b39 := hn_b39 (by decide)
        refine lv_iload_n hx hb dX12_comesTo_68 rfl (lv_at hl 2 rfl) ?_
        refine lv_aload_n hx hb dX12_comesTo_69 rfl (lv_at hl 1 rfl) ?_
        refine tw_geti hx hb hW hown hK hS f_X12_367_11 hz_a0 hk_a0 (lo := (-2147483648)) (hi := 2147483647) rfl dX12_comesTo_70 (fun x43 k42 h41 => ?_)
        refine tw_iast hx hb hK hS hz_b39 hk_b39 (Or.inl rfl) hn_b39 h_a1 ⟨by decide, by decide⟩ h41 (rg_s14 ⟨by decide, by decide⟩) (jl := 0) (jh := 1999999) ⟨by decide, by decide⟩ rfl dX12_comesTo_73 (fun H locs M46 hS k44 f45 => ?_)
        refine lv_aload_n hx hb dX12_comesTo_74 rfl (lv_at hl 1 rfl) ?_
        have k47 : R3 a0 38 = some fg := (Fr.kp (k := 38) g6 hk_a0 rfl).trans k_fg
        refine tw_getrk hx hb hW hown hK hS f_X12_66_11 hz_a0 hk_a0 (b := fg) k47 dX12_comesTo_75 ?_
        refine lv_iload_n hx hb dX12_comesTo_78 rfl (lv_at hl 2 rfl) ?_
        refine lv_iconst (v := (-1)) hx hb dX12_comesTo_79 (by decide) ?_
        refine tw_iasx hx hb hK hS hz_fg hk_fg (Or.inr (by decide)) hn_fg h_a1 ⟨by decide, by decide⟩ (show okI 41 _ (-1) from ⟨show (-1 : Int) ≤ Int32.toInt (-1) by decide, show Int32.toInt (-1) ≤ (27 : Int) by decide⟩) (jl := 0) (jh := 1999999) ⟨by decide, by decide⟩ rfl dX12_comesTo_80 (fun H locs M51 hS k48 f49 e50 => ?_)
        exact tw_endv hx hb hr hlocks hK hT hS hQ (⟨fun k hk => (show M51 fg k = Ma fg k from by rw [e50, u2_nk hk]; exact (fun j => ((Fr.kpa f45 hk_fg rfl j).trans ((Fr.kpa f37 hk_fg rfl j).trans ((Fr.kpa f25 hk_fg rfl j).trans ((Fr.kpa f18 hk_fg rfl j).trans (w0_2 j)))))) k), (show (M51 fg a1.toNatClampNeg).toInt = -1 from by rw [e50, u2_same]; decide)⟩) dX12_comesTo_81
      · have q52 : x1.toInt < 10 := ti_nle c7
        have h53 : iv 0 9 x1 := iv_ltL (y := 10) h_x1 (iv_c (c := 10) (n := 10) (by decide)) q52 (by decide)
        refine lv_aload_n hx hb dX12_comesTo_8 rfl (lv_at hl 1 rfl) ?_
        refine tw_getr hx hb hW hown hK hS f_X12_63_11 hz_a0 hk_a0 (t := 36) (n := 60) rfl dX12_comesTo_9 (fun b54 k55 hz_b54 hk_b54 hn_b54 => ?_)
        have hn_b54 := hn_b54 (by decide)
        refine lv_bipush (v := 10) hx hb dX12_comesTo_12 (by decide) ?_
        refine lv_iload_n hx hb dX12_comesTo_14 rfl (lv_at hl 2 rfl) ?_
        refine tw_icmul (k := 10) (lo := 0) (hi := 30) hx hb (by decide) h_a1 (by decide) ⟨by decide, by decide⟩ ⟨by decide, by decide⟩ dX12_comesTo_15 (fun x58 e57 h56 => ?_)
        refine lv_iload_n hx hb dX12_comesTo_16 rfl (lv_at hl 0 rfl) ?_
        refine tw_iadd (lo := 0) (hi := 39) hx hb h56 h53 ⟨by decide, by decide⟩ ⟨by decide, by decide⟩ dX12_comesTo_17 (fun x61 e60 h59 => ?_)
        refine lv_aload_n hx hb dX12_comesTo_18 rfl (lv_at hl 1 rfl) ?_
        refine tw_getr hx hb hW hown hK hS f_X12_51_11 hz_a0 hk_a0 (t := 30) (n := 10) rfl dX12_comesTo_19 (fun b62 k63 hz_b62 hk_b62 hn_b62 => ?_)
        have hn_b62 := hn_b62 (by decide)
        refine lv_iload_n hx hb dX12_comesTo_22 rfl (lv_at hl 0 rfl) ?_
        refine tw_iald hx hb hK hS hz_b62 hk_b62 (Or.inr (by decide)) hn_b62 (lo := 0) (hi := 9999) h53 ⟨by decide, by decide⟩ rg_u30 dX12_comesTo_23 (fun x66 k65 h64 => ?_)
        refine tw_iast hx hb hK hS hz_b54 hk_b54 (Or.inr (by decide)) hn_b54 h59 ⟨by decide, by decide⟩ h64 (rg_s36 ⟨by decide, by decide⟩) (jl := 0) (jh := 1999999) ⟨by decide, by decide⟩ rfl dX12_comesTo_24 (fun H locs M69 hS k67 f68 => ?_)
        refine tw_iinc (lv' := fun x72 => [(2, .int x72), (0, .ref (base + a0)), (1, .int a1)]) (lo := 1) (hi := 10) hx hb dX12_comesTo_25 hl (k := 0) rfl h53 (by decide) ⟨by decide, by decide⟩ ⟨by decide, by decide⟩ (by decide) (fun _ => rfl) (fun x72 ls e71 h70 hl => ?_)
        refine lv_goto (tgt := 2) hx hb dX12_comesTo_28 (by decide) ?_
        have w73 : ∀ j, M69 fg j = Ma fg j := (fun j => ((Fr.kpa f68 hk_fg rfl j).trans (w0_2 j)))
        have hm74 : 10 - x72.toInt < (n_2 : Int) := by
          have := (h_a1).1; have := (h_a1).2; have := (h53).1; have := (h53).2; have := (h59).1; have := (h59).2; have := (h70).1; have := (h70).2; omega
        exact ih_2 x72 M69 R3 J4 H locs _ (iv_mono h70 (by decide) (by decide)) w73 hm74 hS hl
  have w75 : ∀ j, Ma fg j = Ma fg j := (fun j => rfl)
  have hm76 : 10 - (0 : Int32).toInt < (((11 : Nat) : Int) : Int) := by
    have := (h_a1).1; have := (h_a1).2; have : (0 : Int32).toInt = 0 := (by decide); omega
  exact W2_2 11 0 Ma Ra Ja s.heap [] _ (iv_mono (iv_c (c := 0) (n := 0) (by decide)) (by decide) (by decide)) w75 hm76 hS hl
def Lt_X12_readsAll : WL := [(12, 1, 2), (12, 7, 10), (12, 13, 16), (12, 17, 20), (12, 21, 22), (14, 0, 2000000), (25, 0, 2000000), (26, 0, 2000000), (27, 0, 2000000), (28, 0, 2000000), (35, 0, 2000000)]
def LRt_X12_readsAll : WL := []
set_option maxRecDepth 100000 in
set_option maxHeartbeats 4000000 in
theorem t_X12_readsAll (l : Launch) (D : va_G) (cy : Nat → ClassId) (tx : (Nat → Nat) × (Nat → Nat)) (base Z : Nat) (K N : Nat → Nat) (Ma : MT) (Ra : RT) (Ja : JT) (hTy : Ty Z K N Ma Ra) (a0 : Nat) (hz_a0 : a0 < Z) (hk_a0 : K a0 = 12) (tb : Nat) (k_tb : Ra a0 0 = some tb) (tp : Int32) (k_tp : Ma a0 1 = tp) (h_tp : iv 0 400 tp) (lg : Nat) (k_lg : Ra a0 4 = some lg) (sg : Nat) (k_sg : Ra a0 3 = some sg) (tq : Int32) (k_tq : Ma a0 16 = tq) (h_tq : iv 0 6 tq) (op : Nat) (k_op : Ra a0 20 = some op) (cs : Nat) (k_cs : Ra a0 6 = some cs) (cl : Nat) (k_cl : Ra a0 5 = some cl) (cn : Int32) (k_cn : Ma cs tq.toNatClampNeg = cn) (h_cn : iv 0 12 cn) (h0 : tq.toInt = 6 ∨ cn.toInt = 0) : Met l yX12_readsAll [Cond.code yX12_readsAll cX12_readsAll 2 (some .boolean)] (md_rm 12 0 0) (va_Pc [.ref (base + a0)] (md_U D cy tx base Z K N Ma Ra Ja)) (mQi D cy tx base (fun r u => TP Z K N Lt_X12_readsAll LRt_X12_readsAll Ma Ra u ∧ (iv 0 1 r ∧ ((∀ j, j < 400 * tq.toNatClampNeg → u.2.2.2.1 sg j = Ma sg j) ∧ (∀ j, j < 36 * tq.toNatClampNeg → u.2.2.2.1 cl j = Ma cl j) ∧ (∀ j, j ≠ tq.toNatClampNeg → u.2.2.2.1 cs j = Ma cs j) ∧ (r = 0 ∨ tq.toInt = 6 ∨ (∃ x2 x4 : Int32, u.2.2.2.1 lg tq.toNatClampNeg = x2 ∧ u.2.2.2.1 cs tq.toNatClampNeg = x4 ∧ x2.toInt ≤ 400 ∧ CI u.2.2.2.1 sg cl tq.toNatClampNeg x4.toNatClampNeg x2.toInt)))))) 0 0 (fun q => base ≤ q) := by
  refine tw_ofW (L := Lt_X12_readsAll) (LR := LRt_X12_readsAll) (by decide) (Nat.le_of_ble_eq_true rfl) hTy ?_
  intro p e s m args below meth c Q ls hx hb hr hlocks hown hml hW hK hT hS hQ hl
  have hl : lv_has ls 2 [(0, .ref (base + a0))] := hl
  obtain ⟨hz_tb, hk_tb, hn_tb⟩ := hTy.refn hz_a0 hk_a0 (show rtR 12 0 = (13, 400, 0) from rfl) k_tb
  have hn_tb := hn_tb (by decide)
  obtain ⟨hz_lg, hk_lg, hn_lg⟩ := hTy.refn hz_a0 hk_a0 (show rtR 12 4 = (26, 7, 0) from rfl) k_lg
  have hn_lg := hn_lg (by decide)
  obtain ⟨hz_sg, hk_sg, hn_sg⟩ := hTy.refn hz_a0 hk_a0 (show rtR 12 3 = (25, 2400, 0) from rfl) k_sg
  have hn_sg := hn_sg (by decide)
  obtain ⟨hz_op, hk_op, hn_op⟩ := hTy.refn hz_a0 hk_a0 (show rtR 12 20 = (14, 400, 0) from rfl) k_op
  have hn_op := hn_op (by decide)
  obtain ⟨hz_cs, hk_cs, hn_cs⟩ := hTy.refn hz_a0 hk_a0 (show rtR 12 6 = (28, 6, 0) from rfl) k_cs
  have hn_cs := hn_cs (by decide)
  obtain ⟨hz_cl, hk_cl, hn_cl⟩ := hTy.refn hz_a0 hk_a0 (show rtR 12 5 = (27, 216, 0) from rfl) k_cl
  have hn_cl := hn_cl (by decide)
  refine lv_aload_n hx hb dX12_readsAll_0 rfl (lv_at hl 0 rfl) ?_
  refine tw_getrk hx hb hW hown hK hS f_X12_17_11 hz_a0 hk_a0 (b := lg) k_lg dX12_readsAll_1 ?_
  refine lv_aload_n hx hb dX12_readsAll_4 rfl (lv_at hl 0 rfl) ?_
  refine tw_getk hx hb hW hown hK hS f_X12_179_11 hz_a0 hk_a0 (v := tq) k_tq dX12_readsAll_5 ?_
  refine lv_iconst (v := 0) hx hb dX12_readsAll_8 (by decide) ?_
  refine tw_iast hx hb hK hS hz_lg hk_lg (Or.inr (by decide)) hn_lg h_tq ⟨by decide, by decide⟩ (iv_c (c := 0) (n := 0) (by decide)) (rg_s26 ⟨by decide, by decide⟩) (jl := 0) (jh := 1999999) ⟨by decide, by decide⟩ rfl dX12_readsAll_9 (fun H locs M3 hS k1 f2 => ?_)
  refine lv_aload_n hx hb dX12_readsAll_10 rfl (lv_at hl 0 rfl) ?_
  refine lv_iconst (v := 0) hx hb dX12_readsAll_11 (by decide) ?_
  refine tw_puti hx hb hW hown hK hS f_X12_286_11 hz_a0 hk_a0 rfl rfl (lo := 0) (hi := 16) rfl (iv_mono (iv_c (c := 0) (n := 0) (by decide)) (by decide) (by decide)) rfl dX12_readsAll_12 (fun H locs M6 hS k4 f5 => ?_)
  refine lv_aload_n hx hb dX12_readsAll_15 rfl (lv_at hl 0 rfl) ?_
  refine lv_iconst (v := 0) hx hb dX12_readsAll_16 (by decide) ?_
  refine tw_puti hx hb hW hown hK hS f_X12_127_11 hz_a0 hk_a0 rfl rfl (lo := 0) (hi := 400) rfl (iv_mono (iv_c (c := 0) (n := 0) (by decide)) (by decide) (by decide)) rfl dX12_readsAll_17 (fun H locs M9 hS k7 f8 => ?_)
  refine lv_aload_n hx hb dX12_readsAll_20 rfl (lv_at hl 0 rfl) ?_
  refine lv_iconst (v := 0) hx hb dX12_readsAll_21 (by decide) ?_
  refine tw_puti hx hb hW hown hK hS f_X12_124_11 hz_a0 hk_a0 rfl rfl (lo := (-2147483648)) (hi := 2147483647) rfl (iv_mono (iv_c (c := 0) (n := 0) (by decide)) (by decide) (by decide)) rfl dX12_readsAll_22 (fun H locs M12 hS k10 f11 => ?_)
  refine lv_aload_n hx hb dX12_readsAll_25 rfl (lv_at hl 0 rfl) ?_
  refine lv_iconst (v := 0) hx hb dX12_readsAll_26 (by decide) ?_
  refine tw_puti hx hb hW hown hK hS f_X12_182_11 hz_a0 hk_a0 rfl rfl (lo := 0) (hi := 60) rfl (iv_mono (iv_c (c := 0) (n := 0) (by decide)) (by decide) (by decide)) rfl dX12_readsAll_27 (fun H locs M15 hS k13 f14 => ?_)
  refine lv_aload_n hx hb dX12_readsAll_30 rfl (lv_at hl 0 rfl) ?_
  have k16 : M15 a0 13 = 0 := ((Fr.kp (k := 13) f14 hk_a0 rfl).trans (Fr.kp (k := 13) f11 hk_a0 rfl)).trans k7
  have k17 : M15 a0 1 = tp := ((Fr.kp (k := 1) f14 hk_a0 rfl).trans ((Fr.kp (k := 1) f11 hk_a0 rfl).trans ((Fr.kp (k := 1) f8 hk_a0 rfl).trans ((Fr.kp (k := 1) f5 hk_a0 rfl).trans (Fr.kp (k := 1) f2 hk_a0 rfl))))).trans k_tp
  have q18 : (0 : Int32).toInt ≤ tp.toInt := by
    have := (h_cn).1; have := (h_cn).2; have := (h_tp).1; have := (h_tp).2; have := (h_tq).1; have := (h_tq).2; have : (0 : Int32).toInt = 0 := (by decide); omega
  have k19 : M15 a0 16 = tq := ((Fr.kp (k := 16) f14 hk_a0 rfl).trans ((Fr.kp (k := 16) f11 hk_a0 rfl).trans ((Fr.kp (k := 16) f8 hk_a0 rfl).trans ((Fr.kp (k := 16) f5 hk_a0 rfl).trans (Fr.kp (k := 16) f2 hk_a0 rfl))))).trans k_tq
  have k20 : M15 lg tq.toNatClampNeg = 0 := ((Fr.kpa f14 hk_lg rfl tq.toNatClampNeg).trans ((Fr.kpa f11 hk_lg rfl tq.toNatClampNeg).trans ((Fr.kpa f8 hk_lg rfl tq.toNatClampNeg).trans (Fr.kpa f5 hk_lg rfl tq.toNatClampNeg)))).trans k1
  have k21 : M15 cs tq.toNatClampNeg = cn := ((Fr.kpa f14 hk_cs rfl tq.toNatClampNeg).trans ((Fr.kpa f11 hk_cs rfl tq.toNatClampNeg).trans ((Fr.kpa f8 hk_cs rfl tq.toNatClampNeg).trans ((Fr.kpa f5 hk_cs rfl tq.toNatClampNeg).trans (Fr.kpa f2 hk_cs rfl tq.toNatClampNeg))))).trans k_cn
  have k22 : M15 a0 19 = 0 := ((Fr.kp (k := 19) f14 hk_a0 rfl).trans ((Fr.kp (k := 19) f11 hk_a0 rfl).trans (Fr.kp (k := 19) f8 hk_a0 rfl))).trans k4
  have q23 : tq.toInt = 6 ∨ ((0 : Int32).toInt ≤ (0 : Int32).toInt ∧ cn.toInt ≤ (0 : Int32).toInt ∧ (0 : Int32).toInt ≤ 12) := by
    have := (h_cn).1; have := (h_cn).2; have := (h_tp).1; have := (h_tp).2; have := (h_tq).1; have := (h_tq).2; have : (0 : Int32).toInt = 0 := (by decide); omega
  have zc23 := ti_cl (x := cn) (by have := h_cn.1; omega)
  refine tw_goi hS (md_runV (As := []) (rest := []) hx hb hml hown hW hK hT hS.1 (t_X12_clauseHere l D cy tx base Z K N M15 Ra Ja hS.2.1 a0 hz_a0 hk_a0 tb k_tb 0 k16 (iv_mono (iv_c (c := 0) (n := 0) (by decide)) (by decide) (by decide)) tp k17 (iv_mono h_tp (by decide) (by decide)) q18 lg k_lg sg k_sg tq k19 (iv_mono h_tq (by decide) (by decide)) 0 k20 (iv_mono (iv_c (c := 0) (n := 0) (by decide)) (by decide) (by decide)) 0 k13 (iv_mono (iv_c (c := 0) (n := 0) (by decide)) (by decide) (by decide)) op k_op cs k_cs cl k_cl cn k21 (iv_mono h_cn (by decide) (by decide)) 0 k22 (iv_mono (iv_c (c := 0) (n := 0) (by decide)) (by decide) (by decide)) q23 (by rcases h0 with q | q; (· exact Or.inl q); (· right; rw [show cn.toNatClampNeg = 0 by omega]; exact CI.none))) s_X12_295 ⟨rfl, rfl, ⟨Nat.le_of_ble_eq_true rfl, Nat.le_of_ble_eq_true rfl⟩, ⟨Nat.le_of_ble_eq_true rfl, Nat.le_of_ble_eq_true rfl⟩⟩ hz_a0 hk_a0 (by decide) rfl rfl hl.1 rfl (Nat.le_of_ble_eq_true rfl) dX12_readsAll_31) rfl rfl (fun x30 H locs M27 R28 J26 hS f24 g25 E29 => ?_)
  have eR28 := Fr.nil g25 rfl
  subst eR28
  obtain ⟨h_x30, p31, p32⟩ := E29
  obtain ⟨⟨x34, k35, h33, zu32, zv32⟩, zf32, zg32, zh32, zc32⟩ := p31
  have k35 : M27 a0 13 = x34 := k35
  have z36 : ∀ j, j < 400 * tq.toNatClampNeg → M27 sg j = Ma sg j := fun j hj => (zf32 j hj).trans ((fun j hj => (Fr.kpa f14 hk_sg rfl j).trans ((fun j hj => (Fr.kpa f11 hk_sg rfl j).trans ((fun j hj => (Fr.kpa f8 hk_sg rfl j).trans ((fun j hj => (Fr.kpa f5 hk_sg rfl j).trans ((fun j hj => (Fr.kpa f2 hk_sg rfl j).trans ((fun j _ => rfl) j hj)) j hj)) j hj)) j hj)) j hj)) j hj)
  have z37 : ∀ j, j < 36 * tq.toNatClampNeg → M27 cl j = Ma cl j := fun j hj => (zg32 j hj).trans ((fun j hj => (Fr.kpa f14 hk_cl rfl j).trans ((fun j hj => (Fr.kpa f11 hk_cl rfl j).trans ((fun j hj => (Fr.kpa f8 hk_cl rfl j).trans ((fun j hj => (Fr.kpa f5 hk_cl rfl j).trans ((fun j hj => (Fr.kpa f2 hk_cl rfl j).trans ((fun j _ => rfl) j hj)) j hj)) j hj)) j hj)) j hj)) j hj)
  have z38 : ∀ j, j ≠ tq.toNatClampNeg → M27 cs j = Ma cs j := fun j hj => (zh32 j hj).trans ((fun j hj => (Fr.kpa f14 hk_cs rfl j).trans ((fun j hj => (Fr.kpa f11 hk_cs rfl j).trans ((fun j hj => (Fr.kpa f8 hk_cs rfl j).trans ((fun j hj => (Fr.kpa f5 hk_cs rfl j).trans ((fun j hj => (Fr.kpa f2 hk_cs rfl j).trans ((fun j _ => rfl) j hj)) j hj)) j hj)) j hj)) j hj)) j hj)
  have z39 : x30 = 0 → ¬ (M27 a0 14).toInt = 0 := p32
  refine lv_istore_n (lv' := [(1, .int x30), (0, .ref (base + a0))]) hx hb dX12_readsAll_34 rfl hl (by decide) rfl (fun ls hl => ?_)
  have W35_41 : ∀ (n_41 : Nat) (x40 : Int32) (x46 : Int32) (x48 : Int32) (x50 : Int32) (x52 : Int32) (x54 : Int32) (x56 : Int32) (M41 : MT) (R42 : RT) (J43 : JT) (H : Heap) (locs : List Loc) (ls : Array Slot) (h_x40 : iv 0 1 x40) (h_x46 : iv 0 400 x46) (k47 : M41 a0 13 = x46) (h_x48 : iv 0 16 x48) (k49 : M41 a0 19 = x48) (h_x50 : iv 0 400 x50) (k51 : M41 lg tq.toNatClampNeg = x50) (h_x52 : iv 0 12 x52) (k53 : M41 cs tq.toNatClampNeg = x52) (h_x54 : iv 0 400 x54) (k55 : M41 a0 1 = x54) (h_x56 : iv (-2147483648) 2147483647 x56) (k57 : M41 a0 14 = x56) (w0_41 : x46.toInt ≤ x54.toInt ∧ x54.toInt = tp.toInt) (w1_41 : x40.toInt = 0 ∨ tq.toInt = 6 ∨ (x50.toInt ≤ x46.toInt ∧ x52.toInt ≤ x48.toInt ∧ x48.toInt ≤ 12)) (w2_41 : x40.toInt = 0 ∨ tq.toInt = 6 ∨ CI M41 sg cl tq.toNatClampNeg x52.toNatClampNeg x50.toInt) (w3_41 : ∀ j, j < 400 * tq.toNatClampNeg → M41 sg j = Ma sg j) (w4_41 : ∀ j, j < 36 * tq.toNatClampNeg → M41 cl j = Ma cl j) (w5_41 : ∀ j, j ≠ tq.toNatClampNeg → M41 cs j = Ma cs j) (w6_41 : ¬ x40.toInt = 0 ∨ ¬ x56.toInt = 0) (hm_41 : 400 - x46.toInt < (n_41 : Int)) (hS : SB D cy base Z K N Lt_X12_readsAll LRt_X12_readsAll Ma Ra M41 R42 J43 s H locs) (hl : lv_has ls 2 [(1, .int x40), (0, .ref (base + a0))]), W p l e (md_rm 12 0 0) s m args below meth c H locs 0 0 Q (F0 m 35 ls []) := by
    intro n_41
    induction n_41 with
    | zero =>
      intro x40 x46 x48 x50 x52 x54 x56 M41 R42 J43 H locs ls h_x40 h_x46 k47 h_x48 k49 h_x50 k51 h_x52 k53 h_x54 k55 h_x56 k57 w0_41 w1_41 w2_41 w3_41 w4_41 w5_41 w6_41 hm_41 hS hl
      exfalso
      have := (h_cn).1; have := (h_cn).2; have := (h_tp).1; have := (h_tp).2; have := (h_tq).1; have := (h_tq).2; have := (h33).1; have := (h33).2; have := (h_x40).1; have := (h_x40).2; have := (h_x46).1; have := (h_x46).2; have := (h_x48).1; have := (h_x48).2; have := (h_x50).1; have := (h_x50).2; have := (h_x52).1; have := (h_x52).2; have := (h_x54).1; have := (h_x54).2; have := (h_x56).1; have := (h_x56).2; omega
    | succ n_41 ih_41 =>
      intro x40 x46 x48 x50 x52 x54 x56 M41 R42 J43 H locs ls h_x40 h_x46 k47 h_x48 k49 h_x50 k51 h_x52 k53 h_x54 k55 h_x56 k57 w0_41 w1_41 w2_41 w3_41 w4_41 w5_41 w6_41 hm_41 hS hl
      have f44 := hS.2.2.1
      have g45 := hS.2.2.2
      refine lv_iload_n hx hb dX12_readsAll_35 rfl (lv_at hl 0 rfl) ?_
      refine lv_if_eq (tgt := 66) hx hb dX12_readsAll_36 (by decide) (fun c58 => ?_) (fun c58 => ?_)
      · have q59 : x40.toInt = 0 := ti_eq c58
        have h60 : iv 0 0 x40 := ⟨by have := (h_x40).1; have := ((iv_c (c := 0) (n := 0) (by decide))).1; omega, by have := (h_x40).2; have := ((iv_c (c := 0) (n := 0) (by decide))).2; omega⟩
        refine lv_iload_n hx hb dX12_readsAll_66 rfl (lv_at hl 0 rfl) ?_
        refine lv_if_eq (tgt := 88) hx hb dX12_readsAll_67 (by decide) (fun c61 => ?_) (fun c61 => False.elim (by have q : ¬ x40.toInt = 0 := ti_ne c61; have := (h60).1; have := (h60).2; omega))
        have q62 : x40.toInt = 0 := ti_eq c61
        refine lv_aload_n hx hb dX12_readsAll_88 rfl (lv_at hl 1 rfl) ?_
        refine lv_iconst (v := 0) hx hb dX12_readsAll_89 (by decide) ?_
        refine tw_puti hx hb hW hown hK hS f_X12_116_11 hz_a0 hk_a0 rfl rfl (lo := 0) (hi := 400) rfl (iv_mono (iv_c (c := 0) (n := 0) (by decide)) (by decide) (by decide)) rfl dX12_readsAll_90 (fun H locs M65 hS k63 f64 => ?_)
        refine lv_aload_n hx hb dX12_readsAll_93 rfl (lv_at hl 1 rfl) ?_
        have k66 : M65 a0 14 = x56 := (Fr.kp (k := 14) f64 hk_a0 rfl).trans k57
        refine tw_getk hx hb hW hown hK hS f_X12_124_11 hz_a0 hk_a0 (v := x56) k66 dX12_readsAll_94 ?_
        refine lv_if_ne (tgt := 104) hx hb dX12_readsAll_97 (by decide) (fun c67 => ?_) (fun c67 => ?_)
        · have q68 : ¬ x56.toInt = 0 := ti_ne c67
          refine lv_iconst (v := 0) hx hb dX12_readsAll_104 (by decide) ?_
          exact tw_endz hx hb hr hlocks hK hT hS hQ rfl (⟨(iv_mono (iv_c (c := 0) (n := 0) (by decide)) (by decide) (by decide)), ⟨(fun j hj => (Fr.kpa f64 hk_sg rfl j).trans (w3_41 j hj)), (fun j hj => (Fr.kpa f64 hk_cl rfl j).trans (w4_41 j hj)), (fun j hj => (Fr.kpa f64 hk_cs rfl j).trans (w5_41 j hj)), Or.inl rfl⟩⟩) dX12_readsAll_105
        · have q69 : x56.toInt = 0 := ti_eq c67
          have h70 : iv 0 0 x56 := ⟨by have := (h_x56).1; have := ((iv_c (c := 0) (n := 0) (by decide))).1; omega, by have := (h_x56).2; have := ((iv_c (c := 0) (n := 0) (by decide))).2; omega⟩
          refine lv_iconst (v := 1) hx hb dX12_readsAll_100 (by decide) ?_
          refine lv_goto (tgt := 105) hx hb dX12_readsAll_101 (by decide) ?_
          have k71 : M65 lg tq.toNatClampNeg = x50 := (Fr.kpa f64 hk_lg rfl tq.toNatClampNeg).trans k51
          have k72 : M65 cs tq.toNatClampNeg = x52 := (Fr.kpa f64 hk_cs rfl tq.toNatClampNeg).trans k53
          exact tw_endz hx hb hr hlocks hK hT hS hQ rfl (⟨(iv_mono (iv_c (c := 1) (n := 1) (by decide)) (by decide) (by decide)), ⟨(fun j hj => (Fr.kpa f64 hk_sg rfl j).trans (w3_41 j hj)), (fun j hj => (Fr.kpa f64 hk_cl rfl j).trans (w4_41 j hj)), (fun j hj => (Fr.kpa f64 hk_cs rfl j).trans (w5_41 j hj)), Or.inr (by rcases w2_41 with q | q | q; (· exfalso; omega); (· exact Or.inl q); (· exact Or.inr ⟨x50, x52, k71, k72, by have := (h_x50).2; omega, CI.to q (fun j _ => (Fr.kpa f64 hk_cl rfl j)) (fun j _ => (Fr.kpa f64 hk_sg rfl j)) (Int.le_refl _)⟩))⟩⟩) dX12_readsAll_105
      · have q73 : ¬ x40.toInt = 0 := ti_ne c58
        have h74 : iv 1 1 x40 := ⟨by have := (h_x40).1; have := ((iv_c (c := 0) (n := 0) (by decide))).1; have := ((iv_c (c := 0) (n := 0) (by decide))).2; omega, by have := (h_x40).2; have := ((iv_c (c := 0) (n := 0) (by decide))).1; have := ((iv_c (c := 0) (n := 0) (by decide))).2; omega⟩
        refine lv_aload_n hx hb dX12_readsAll_39 rfl (lv_at hl 1 rfl) ?_
        have k75 : R42 a0 0 = some tb := (Fr.kp (k := 0) g45 hk_a0 rfl).trans k_tb
        have q76 : x46.toInt ≤ x54.toInt := by
          have := (h_cn).1; have := (h_cn).2; have := (h_tp).1; have := (h_tp).2; have := (h_tq).1; have := (h_tq).2; have := (h33).1; have := (h33).2; have := (h74).1; have := (h74).2; have := (h_x46).1; have := (h_x46).2; have := (h_x48).1; have := (h_x48).2; have := (h_x50).1; have := (h_x50).2; have := (h_x52).1; have := (h_x52).2; have := (h_x54).1; have := (h_x54).2; have := (h_x56).1; have := (h_x56).2; omega
        refine tw_goi hS (md_runV (As := []) (rest := []) hx hb hml hown hW hK hT hS.1 (t_X12_see l D cy tx base Z K N M41 R42 J43 hS.2.1 a0 hz_a0 hk_a0 tb k75 x46 k47 (iv_mono h_x46 (by decide) (by decide)) x54 k55 (iv_mono h_x54 (by decide) (by decide)) q76) s_X12_130 ⟨rfl, rfl, ⟨Nat.le_of_ble_eq_true rfl, Nat.le_of_ble_eq_true rfl⟩, ⟨Nat.le_of_ble_eq_true rfl, Nat.le_of_ble_eq_true rfl⟩⟩ hz_a0 hk_a0 (by decide) rfl rfl hl.1 rfl (Nat.le_of_ble_eq_true rfl) dX12_readsAll_40) rfl rfl (fun x83 H locs M80 R81 J79 hS f77 g78 E82 => ?_)
        have eR81 := Fr.nil g78 rfl
        subst eR81
        obtain ⟨h_x83, p84⟩ := E82
        obtain ⟨x87, k85, h86, q88, z89, z90⟩ := p84
        have k85 : M80 a0 13 = x87 := k85
        have z90 : ∀ j : Nat, j = x87.toNatClampNeg → x83.toInt = -1 ∨ ¬ (M80 tb j).toInt = 32 := z90
        refine lv_bipush (v := 59) hx hb dX12_readsAll_43 (by decide) ?_
        refine lv_icmp_ne (tgt := 66) hx hb dX12_readsAll_45 (by decide) (fun c91 => ?_) (fun c91 => ?_)
        · have q92 : ¬ x83.toInt = 59 := ti_ne c91
          refine lv_iload_n hx hb dX12_readsAll_66 rfl (lv_at hl 0 rfl) ?_
          refine lv_if_eq (tgt := 88) hx hb dX12_readsAll_67 (by decide) (fun c93 => False.elim (by have q : x40.toInt = 0 := ti_eq c93; have := (h74).1; have := (h74).2; omega)) (fun c93 => ?_)
          have q94 : ¬ x40.toInt = 0 := ti_ne c93
          refine lv_aload_n hx hb dX12_readsAll_70 rfl (lv_at hl 1 rfl) ?_
          have k95 : R42 a0 0 = some tb := (Fr.kp (k := 0) g45 hk_a0 rfl).trans k_tb
          have k96 : M80 a0 1 = x54 := (Fr.kp (k := 1) f77 hk_a0 rfl).trans k55
          have q97 : x87.toInt ≤ x54.toInt := by
            have := (h_cn).1; have := (h_cn).2; have := (h_tp).1; have := (h_tp).2; have := (h_tq).1; have := (h_tq).2; have := (h33).1; have := (h33).2; have := (h74).1; have := (h74).2; have := (h_x46).1; have := (h_x46).2; have := (h_x48).1; have := (h_x48).2; have := (h_x50).1; have := (h_x50).2; have := (h_x52).1; have := (h_x52).2; have := (h_x54).1; have := (h_x54).2; have := (h_x56).1; have := (h_x56).2; have := (h_x83).1; have := (h_x83).2; have := (h86).1; have := (h86).2; omega
          refine tw_goi hS (md_runV (As := []) (rest := []) hx hb hml hown hW hK hT hS.1 (t_X12_see l D cy tx base Z K N M80 R42 J79 hS.2.1 a0 hz_a0 hk_a0 tb k95 x87 k85 (iv_mono h86 (by decide) (by decide)) x54 k96 (iv_mono h_x54 (by decide) (by decide)) q97) s_X12_130 ⟨rfl, rfl, ⟨Nat.le_of_ble_eq_true rfl, Nat.le_of_ble_eq_true rfl⟩, ⟨Nat.le_of_ble_eq_true rfl, Nat.le_of_ble_eq_true rfl⟩⟩ hz_a0 hk_a0 (by decide) rfl rfl hl.1 rfl (Nat.le_of_ble_eq_true rfl) dX12_readsAll_71) rfl rfl (fun x104 H locs M101 R102 J100 hS f98 g99 E103 => ?_)
          have eR102 := Fr.nil g99 rfl
          subst eR102
          obtain ⟨h_x104, p105⟩ := E103
          obtain ⟨x108, k106, h107, q109, z110, z111⟩ := p105
          have k106 : M101 a0 13 = x108 := k106
          have z111 : ∀ j : Nat, j = x108.toNatClampNeg → x104.toInt = -1 ∨ ¬ (M101 tb j).toInt = 32 := z111
          refine lv_iconst (v := (-1)) hx hb dX12_readsAll_74 (by decide) ?_
          refine lv_icmp_eq (tgt := 88) hx hb dX12_readsAll_75 (by decide) (fun c112 => ?_) (fun c112 => ?_)
          · have q113 : x104.toInt = (-1) := ti_eq c112
            have h114 : iv (-1) (-1) x104 := ⟨by have := (h_x104).1; have := ((iv_c (c := (-1)) (n := (-1)) (by decide))).1; omega, by have := (h_x104).2; have := ((iv_c (c := (-1)) (n := (-1)) (by decide))).2; omega⟩
            refine lv_aload_n hx hb dX12_readsAll_88 rfl (lv_at hl 1 rfl) ?_
            refine lv_iconst (v := 0) hx hb dX12_readsAll_89 (by decide) ?_
            refine tw_puti hx hb hW hown hK hS f_X12_116_11 hz_a0 hk_a0 rfl rfl (lo := 0) (hi := 400) rfl (iv_mono (iv_c (c := 0) (n := 0) (by decide)) (by decide) (by decide)) rfl dX12_readsAll_90 (fun H locs M117 hS k115 f116 => ?_)
            refine lv_aload_n hx hb dX12_readsAll_93 rfl (lv_at hl 1 rfl) ?_
            have k118 : M117 a0 14 = x56 := ((Fr.kp (k := 14) f116 hk_a0 rfl).trans ((Fr.kp (k := 14) f98 hk_a0 rfl).trans (Fr.kp (k := 14) f77 hk_a0 rfl))).trans k57
            refine tw_getk hx hb hW hown hK hS f_X12_124_11 hz_a0 hk_a0 (v := x56) k118 dX12_readsAll_94 ?_
            refine lv_if_ne (tgt := 104) hx hb dX12_readsAll_97 (by decide) (fun c119 => ?_) (fun c119 => ?_)
            · have q120 : ¬ x56.toInt = 0 := ti_ne c119
              refine lv_iconst (v := 0) hx hb dX12_readsAll_104 (by decide) ?_
              exact tw_endz hx hb hr hlocks hK hT hS hQ rfl (⟨(iv_mono (iv_c (c := 0) (n := 0) (by decide)) (by decide) (by decide)), ⟨(fun j hj => (Fr.kpa f116 hk_sg rfl j).trans ((fun j hj => (Fr.kpa f98 hk_sg rfl j).trans ((fun j hj => (Fr.kpa f77 hk_sg rfl j).trans (w3_41 j hj)) j hj)) j hj)), (fun j hj => (Fr.kpa f116 hk_cl rfl j).trans ((fun j hj => (Fr.kpa f98 hk_cl rfl j).trans ((fun j hj => (Fr.kpa f77 hk_cl rfl j).trans (w4_41 j hj)) j hj)) j hj)), (fun j hj => (Fr.kpa f116 hk_cs rfl j).trans ((fun j hj => (Fr.kpa f98 hk_cs rfl j).trans ((fun j hj => (Fr.kpa f77 hk_cs rfl j).trans (w5_41 j hj)) j hj)) j hj)), Or.inl rfl⟩⟩) dX12_readsAll_105
            · have q121 : x56.toInt = 0 := ti_eq c119
              have h122 : iv 0 0 x56 := ⟨by have := (h_x56).1; have := ((iv_c (c := 0) (n := 0) (by decide))).1; omega, by have := (h_x56).2; have := ((iv_c (c := 0) (n := 0) (by decide))).2; omega⟩
              refine lv_iconst (v := 1) hx hb dX12_readsAll_100 (by decide) ?_
              refine lv_goto (tgt := 105) hx hb dX12_readsAll_101 (by decide) ?_
              have k123 : M117 lg tq.toNatClampNeg = x50 := ((Fr.kpa f116 hk_lg rfl tq.toNatClampNeg).trans ((Fr.kpa f98 hk_lg rfl tq.toNatClampNeg).trans (Fr.kpa f77 hk_lg rfl tq.toNatClampNeg))).trans k51
              have k124 : M117 cs tq.toNatClampNeg = x52 := ((Fr.kpa f116 hk_cs rfl tq.toNatClampNeg).trans ((Fr.kpa f98 hk_cs rfl tq.toNatClampNeg).trans (Fr.kpa f77 hk_cs rfl tq.toNatClampNeg))).trans k53
              exact tw_endz hx hb hr hlocks hK hT hS hQ rfl (⟨(iv_mono (iv_c (c := 1) (n := 1) (by decide)) (by decide) (by decide)), ⟨(fun j hj => (Fr.kpa f116 hk_sg rfl j).trans ((fun j hj => (Fr.kpa f98 hk_sg rfl j).trans ((fun j hj => (Fr.kpa f77 hk_sg rfl j).trans (w3_41 j hj)) j hj)) j hj)), (fun j hj => (Fr.kpa f116 hk_cl rfl j).trans ((fun j hj => (Fr.kpa f98 hk_cl rfl j).trans ((fun j hj => (Fr.kpa f77 hk_cl rfl j).trans (w4_41 j hj)) j hj)) j hj)), (fun j hj => (Fr.kpa f116 hk_cs rfl j).trans ((fun j hj => (Fr.kpa f98 hk_cs rfl j).trans ((fun j hj => (Fr.kpa f77 hk_cs rfl j).trans (w5_41 j hj)) j hj)) j hj)), Or.inr (by rcases w2_41 with q | q | q; (· exfalso; omega); (· exact Or.inl q); (· exact Or.inr ⟨x50, x52, k123, k124, by have := (h_x50).2; omega, CI.to q (fun j _ => ((Fr.kpa f116 hk_cl rfl j).trans ((Fr.kpa f98 hk_cl rfl j).trans (Fr.kpa f77 hk_cl rfl j)))) (fun j _ => ((Fr.kpa f116 hk_sg rfl j).trans ((Fr.kpa f98 hk_sg rfl j).trans (Fr.kpa f77 hk_sg rfl j)))) (Int.le_refl _)⟩))⟩⟩) dX12_readsAll_105
          · have q125 : ¬ x104.toInt = (-1) := ti_ne c112
            have h126 : iv 0 255 x104 := ⟨by have := (h_x104).1; have := ((iv_c (c := (-1)) (n := (-1)) (by decide))).1; have := ((iv_c (c := (-1)) (n := (-1)) (by decide))).2; omega, by have := (h_x104).2; have := ((iv_c (c := (-1)) (n := (-1)) (by decide))).1; have := ((iv_c (c := (-1)) (n := (-1)) (by decide))).2; omega⟩
            refine lv_aload_n hx hb dX12_readsAll_78 rfl (lv_at hl 1 rfl) ?_
            refine lv_iconst (v := 0) hx hb dX12_readsAll_79 (by decide) ?_
            refine lv_aload_n hx hb dX12_readsAll_80 rfl (lv_at hl 1 rfl) ?_
            refine tw_getk hx hb hW hown hK hS f_X12_127_11 hz_a0 hk_a0 (v := x108) k106 dX12_readsAll_81 ?_
            refine tw_goi hS (md_runV (As := [.int 0, .int x108]) (rest := []) hx hb hml hown hW hK hT hS.1 (t_X12_fails l D cy tx base Z K N M101 R42 J100 hS.2.1 a0 hz_a0 hk_a0 0 (iv_mono (iv_c (c := 0) (n := 0) (by decide)) (by decide) (by decide)) x108 h107) s_X12_148 ⟨rfl, rfl, ⟨Nat.le_of_ble_eq_true rfl, Nat.le_of_ble_eq_true rfl⟩, ⟨Nat.le_of_ble_eq_true rfl, Nat.le_of_ble_eq_true rfl⟩⟩ hz_a0 hk_a0 (by decide) rfl rfl hl.1 rfl (Nat.le_of_ble_eq_true rfl) dX12_readsAll_84) rfl rfl (fun x133 H locs M130 R131 J129 hS f127 g128 E132 => ?_)
            have eR131 := Fr.nil g128 rfl
            subst eR131
            obtain ⟨h_x133, p134⟩ := E132
            have z135 : x133 = 0 → ¬ (M130 a0 14).toInt = 0 := p134
            have z136 := z135 (iv0 h_x133)
            refine lv_pop hx hb dX12_readsAll_87 rfl ?_
            refine lv_aload_n hx hb dX12_readsAll_88 rfl (lv_at hl 1 rfl) ?_
            refine lv_iconst (v := 0) hx hb dX12_readsAll_89 (by decide) ?_
            refine tw_puti hx hb hW hown hK hS f_X12_116_11 hz_a0 hk_a0 rfl rfl (lo := 0) (hi := 400) rfl (iv_mono (iv_c (c := 0) (n := 0) (by decide)) (by decide) (by decide)) rfl dX12_readsAll_90 (fun H locs M139 hS k137 f138 => ?_)
            refine lv_aload_n hx hb dX12_readsAll_93 rfl (lv_at hl 1 rfl) ?_
            refine tw_geti hx hb hW hown hK hS f_X12_124_11 hz_a0 hk_a0 (lo := (-2147483648)) (hi := 2147483647) rfl dX12_readsAll_94 (fun x142 k141 h140 => ?_)
            refine lv_if_ne (tgt := 104) hx hb dX12_readsAll_97 (by decide) (fun c143 => ?_) (fun c143 => ?_)
            · have q144 : ¬ x142.toInt = 0 := ti_ne c143
              refine lv_iconst (v := 0) hx hb dX12_readsAll_104 (by decide) ?_
              exact tw_endz hx hb hr hlocks hK hT hS hQ rfl (⟨(iv_mono (iv_c (c := 0) (n := 0) (by decide)) (by decide) (by decide)), ⟨(fun j hj => (Fr.kpa f138 hk_sg rfl j).trans ((fun j hj => (Fr.kpa f127 hk_sg rfl j).trans ((fun j hj => (Fr.kpa f98 hk_sg rfl j).trans ((fun j hj => (Fr.kpa f77 hk_sg rfl j).trans (w3_41 j hj)) j hj)) j hj)) j hj)), (fun j hj => (Fr.kpa f138 hk_cl rfl j).trans ((fun j hj => (Fr.kpa f127 hk_cl rfl j).trans ((fun j hj => (Fr.kpa f98 hk_cl rfl j).trans ((fun j hj => (Fr.kpa f77 hk_cl rfl j).trans (w4_41 j hj)) j hj)) j hj)) j hj)), (fun j hj => (Fr.kpa f138 hk_cs rfl j).trans ((fun j hj => (Fr.kpa f127 hk_cs rfl j).trans ((fun j hj => (Fr.kpa f98 hk_cs rfl j).trans ((fun j hj => (Fr.kpa f77 hk_cs rfl j).trans (w5_41 j hj)) j hj)) j hj)) j hj)), Or.inl rfl⟩⟩) dX12_readsAll_105
            · have q145 : x142.toInt = 0 := ti_eq c143
              have h146 : iv 0 0 x142 := ⟨by have := (h140).1; have := ((iv_c (c := 0) (n := 0) (by decide))).1; omega, by have := (h140).2; have := ((iv_c (c := 0) (n := 0) (by decide))).2; omega⟩
              refine lv_iconst (v := 1) hx hb dX12_readsAll_100 (by decide) ?_
              refine lv_goto (tgt := 105) hx hb dX12_readsAll_101 (by decide) ?_
              have k147 : M139 lg tq.toNatClampNeg = x50 := ((Fr.kpa f138 hk_lg rfl tq.toNatClampNeg).trans ((Fr.kpa f127 hk_lg rfl tq.toNatClampNeg).trans ((Fr.kpa f98 hk_lg rfl tq.toNatClampNeg).trans (Fr.kpa f77 hk_lg rfl tq.toNatClampNeg)))).trans k51
              have k148 : M139 cs tq.toNatClampNeg = x52 := ((Fr.kpa f138 hk_cs rfl tq.toNatClampNeg).trans ((Fr.kpa f127 hk_cs rfl tq.toNatClampNeg).trans ((Fr.kpa f98 hk_cs rfl tq.toNatClampNeg).trans (Fr.kpa f77 hk_cs rfl tq.toNatClampNeg)))).trans k53
              exact tw_endz hx hb hr hlocks hK hT hS hQ rfl (⟨(iv_mono (iv_c (c := 1) (n := 1) (by decide)) (by decide) (by decide)), ⟨(fun j hj => (Fr.kpa f138 hk_sg rfl j).trans ((fun j hj => (Fr.kpa f127 hk_sg rfl j).trans ((fun j hj => (Fr.kpa f98 hk_sg rfl j).trans ((fun j hj => (Fr.kpa f77 hk_sg rfl j).trans (w3_41 j hj)) j hj)) j hj)) j hj)), (fun j hj => (Fr.kpa f138 hk_cl rfl j).trans ((fun j hj => (Fr.kpa f127 hk_cl rfl j).trans ((fun j hj => (Fr.kpa f98 hk_cl rfl j).trans ((fun j hj => (Fr.kpa f77 hk_cl rfl j).trans (w4_41 j hj)) j hj)) j hj)) j hj)), (fun j hj => (Fr.kpa f138 hk_cs rfl j).trans ((fun j hj => (Fr.kpa f127 hk_cs rfl j).trans ((fun j hj => (Fr.kpa f98 hk_cs rfl j).trans ((fun j hj => (Fr.kpa f77 hk_cs rfl j).trans (w5_41 j hj)) j hj)) j hj)) j hj)), Or.inr (by rcases w2_41 with q | q | q; (· exfalso; omega); (· exact Or.inl q); (· exact Or.inr ⟨x50, x52, k147, k148, by have := (h_x50).2; omega, CI.to q (fun j _ => ((Fr.kpa f138 hk_cl rfl j).trans ((Fr.kpa f127 hk_cl rfl j).trans ((Fr.kpa f98 hk_cl rfl j).trans (Fr.kpa f77 hk_cl rfl j))))) (fun j _ => ((Fr.kpa f138 hk_sg rfl j).trans ((Fr.kpa f127 hk_sg rfl j).trans ((Fr.kpa f98 hk_sg rfl j).trans (Fr.kpa f77 hk_sg rfl j))))) (Int.le_refl _)⟩))⟩⟩) dX12_readsAll_105
        · have q149 : x83.toInt = 59 := ti_eq c91
          have h150 : iv 59 59 x83 := ⟨by have := (h_x83).1; have := ((iv_c (c := 59) (n := 59) (by decide))).1; omega, by have := (h_x83).2; have := ((iv_c (c := 59) (n := 59) (by decide))).2; omega⟩
          refine lv_aload_n hx hb dX12_readsAll_48 rfl (lv_at hl 1 rfl) ?_
          refine lv_dup hx hb dX12_readsAll_49 rfl ?_
          refine tw_getk hx hb hW hown hK hS f_X12_127_11 hz_a0 hk_a0 (v := x87) k85 dX12_readsAll_50 ?_
          refine lv_iconst (v := 1) hx hb dX12_readsAll_53 (by decide) ?_
          refine tw_iadd (lo := 1) (hi := 401) hx hb h86 (iv_c (c := 1) (n := 1) (by decide)) ⟨by decide, by decide⟩ ⟨by decide, by decide⟩ dX12_readsAll_54 (fun x153 e152 h151 => ?_)
          have e152 : x153.toInt = x87.toInt + 1 := e152
          have h156 : iv 0 400 x153 := by
            have := (h_cn).1; have := (h_cn).2; have := (h_tp).1; have := (h_tp).2; have := (h_tq).1; have := (h_tq).2; have := (h151).1; have := (h151).2; have := (h33).1; have := (h33).2; have := (h74).1; have := (h74).2; have := (h_x46).1; have := (h_x46).2; have := (h_x48).1; have := (h_x48).2; have := (h_x50).1; have := (h_x50).2; have := (h_x52).1; have := (h_x52).2; have := (h_x54).1; have := (h_x54).2; have := (h_x56).1; have := (h_x56).2; have := (h150).1; have := (h150).2; have := (h86).1; have := (h86).2; exact ⟨by omega, by omega⟩
          refine tw_puti hx hb hW hown hK hS f_X12_127_11 hz_a0 hk_a0 rfl rfl (lo := 0) (hi := 400) rfl h156 rfl dX12_readsAll_55 (fun H locs M157 hS k154 f155 => ?_)
          refine lv_aload_n hx hb dX12_readsAll_58 rfl (lv_at hl 1 rfl) ?_
          have k158 : R42 a0 0 = some tb := (Fr.kp (k := 0) g45 hk_a0 rfl).trans k_tb
          have k159 : M157 a0 1 = x54 := ((Fr.kp (k := 1) f155 hk_a0 rfl).trans (Fr.kp (k := 1) f77 hk_a0 rfl)).trans k55
          have q160 : x153.toInt ≤ x54.toInt := by
            have := (h_cn).1; have := (h_cn).2; have := (h_tp).1; have := (h_tp).2; have := (h_tq).1; have := (h_tq).2; have := (h156).1; have := (h156).2; have := (h33).1; have := (h33).2; have := (h74).1; have := (h74).2; have := (h_x46).1; have := (h_x46).2; have := (h_x48).1; have := (h_x48).2; have := (h_x50).1; have := (h_x50).2; have := (h_x52).1; have := (h_x52).2; have := (h_x54).1; have := (h_x54).2; have := (h_x56).1; have := (h_x56).2; have := (h150).1; have := (h150).2; have := (h86).1; have := (h86).2; omega
          have k161 : R42 a0 4 = some lg := (Fr.kp (k := 4) g45 hk_a0 rfl).trans k_lg
          have k162 : R42 a0 3 = some sg := (Fr.kp (k := 3) g45 hk_a0 rfl).trans k_sg
          have k163 : M157 a0 16 = tq := ((Fr.kp (k := 16) f155 hk_a0 rfl).trans ((Fr.kp (k := 16) f77 hk_a0 rfl).trans (Fr.kp (k := 16) f44 hk_a0 rfl))).trans k_tq
          have k164 : M157 lg tq.toNatClampNeg = x50 := ((Fr.kpa f155 hk_lg rfl tq.toNatClampNeg).trans (Fr.kpa f77 hk_lg rfl tq.toNatClampNeg)).trans k51
          obtain ⟨x167, k165⟩ : ∃ x, M157 a0 17 = x := ⟨_, rfl⟩
          have h166 : iv 0 60 x167 := by rw [← k165]; exact hS.2.1.int hz_a0 hk_a0 (show rgI 12 17 = (0, 60) from rfl)
          have k168 : R42 a0 20 = some op := (Fr.kp (k := 20) g45 hk_a0 rfl).trans k_op
          have k169 : R42 a0 6 = some cs := (Fr.kp (k := 6) g45 hk_a0 rfl).trans k_cs
          have k170 : R42 a0 5 = some cl := (Fr.kp (k := 5) g45 hk_a0 rfl).trans k_cl
          have k171 : M157 cs tq.toNatClampNeg = x52 := ((Fr.kpa f155 hk_cs rfl tq.toNatClampNeg).trans (Fr.kpa f77 hk_cs rfl tq.toNatClampNeg)).trans k53
          have k172 : M157 a0 19 = x48 := ((Fr.kp (k := 19) f155 hk_a0 rfl).trans (Fr.kp (k := 19) f77 hk_a0 rfl)).trans k49
          have q173 : tq.toInt = 6 ∨ (x50.toInt ≤ x153.toInt ∧ x52.toInt ≤ x48.toInt ∧ x48.toInt ≤ 12) := by
            have := (h_cn).1; have := (h_cn).2; have := (h_tp).1; have := (h_tp).2; have := (h_tq).1; have := (h_tq).2; have := (h156).1; have := (h156).2; have := (h33).1; have := (h33).2; have := (h74).1; have := (h74).2; have := (h_x46).1; have := (h_x46).2; have := (h_x48).1; have := (h_x48).2; have := (h_x50).1; have := (h_x50).2; have := (h_x52).1; have := (h_x52).2; have := (h_x54).1; have := (h_x54).2; have := (h_x56).1; have := (h_x56).2; have := (h150).1; have := (h150).2; have := (h86).1; have := (h86).2; omega
          refine tw_goi hS (md_runV (As := []) (rest := []) hx hb hml hown hW hK hT hS.1 (t_X12_clauseHere l D cy tx base Z K N M157 R42 J79 hS.2.1 a0 hz_a0 hk_a0 tb k158 x153 k154 (iv_mono h156 (by decide) (by decide)) x54 k159 (iv_mono h_x54 (by decide) (by decide)) q160 lg k161 sg k162 tq k163 (iv_mono h_tq (by decide) (by decide)) x50 k164 (iv_mono h_x50 (by decide) (by decide)) x167 k165 (iv_mono h166 (by decide) (by decide)) op k168 cs k169 cl k170 x52 k171 (iv_mono h_x52 (by decide) (by decide)) x48 k172 (iv_mono h_x48 (by decide) (by decide)) q173 (by rcases w2_41 with q | q | q; (· exact absurd q (by omega)); (· exact Or.inl q); (· exact Or.inr (CI.to q (fun j _ => ((Fr.kpa f155 hk_cl rfl j).trans (Fr.kpa f77 hk_cl rfl j))) (fun j _ => ((Fr.kpa f155 hk_sg rfl j).trans (Fr.kpa f77 hk_sg rfl j))) (Int.le_refl _))))) s_X12_295 ⟨rfl, rfl, ⟨Nat.le_of_ble_eq_true rfl, Nat.le_of_ble_eq_true rfl⟩, ⟨Nat.le_of_ble_eq_true rfl, Nat.le_of_ble_eq_true rfl⟩⟩ hz_a0 hk_a0 (by decide) rfl rfl hl.1 rfl (Nat.le_of_ble_eq_true rfl) dX12_readsAll_59) rfl rfl (fun x180 H locs M177 R178 J176 hS f174 g175 E179 => ?_)
          have eR178 := Fr.nil g175 rfl
          subst eR178
          obtain ⟨h_x180, p181, p182⟩ := E179
          obtain ⟨⟨x184, k185, h183, zu182, zv182⟩, zf182, zg182, zh182, zc182⟩ := p181
          have k185 : M177 a0 13 = x184 := k185
          have z186 : ∀ j, j < 400 * tq.toNatClampNeg → M177 sg j = Ma sg j := fun j hj => (zf182 j hj).trans ((fun j hj => (Fr.kpa f155 hk_sg rfl j).trans ((fun j hj => (Fr.kpa f77 hk_sg rfl j).trans (w3_41 j hj)) j hj)) j hj)
          have z187 : ∀ j, j < 36 * tq.toNatClampNeg → M177 cl j = Ma cl j := fun j hj => (zg182 j hj).trans ((fun j hj => (Fr.kpa f155 hk_cl rfl j).trans ((fun j hj => (Fr.kpa f77 hk_cl rfl j).trans (w4_41 j hj)) j hj)) j hj)
          have z188 : ∀ j, j ≠ tq.toNatClampNeg → M177 cs j = Ma cs j := fun j hj => (zh182 j hj).trans ((fun j hj => (Fr.kpa f155 hk_cs rfl j).trans ((fun j hj => (Fr.kpa f77 hk_cs rfl j).trans (w5_41 j hj)) j hj)) j hj)
          have z189 : x180 = 0 → ¬ (M177 a0 14).toInt = 0 := p182
          refine lv_istore_n (lv' := [(1, .int x180), (0, .ref (base + a0))]) hx hb dX12_readsAll_62 rfl hl (by decide) rfl (fun ls hl => ?_)
          refine lv_goto (tgt := 35) hx hb dX12_readsAll_63 (by decide) ?_
          obtain ⟨x192, k190⟩ : ∃ x, M177 a0 19 = x := ⟨_, rfl⟩
          have h191 : iv 0 16 x192 := by rw [← k190]; exact hS.2.1.int hz_a0 hk_a0 (show rgI 12 19 = (0, 16) from rfl)
          obtain ⟨x195, k193⟩ : ∃ x, M177 lg tq.toNatClampNeg = x := ⟨_, rfl⟩
          have h194 : iv 0 400 x195 := by rw [← k193]; exact hS.2.1.int hz_lg hk_lg (show rgI 26 tq.toNatClampNeg = (0, 400) from rfl)
          obtain ⟨x198, k196⟩ : ∃ x, M177 cs tq.toNatClampNeg = x := ⟨_, rfl⟩
          have h197 : iv 0 12 x198 := by rw [← k196]; exact hS.2.1.int hz_cs hk_cs (show rgI 28 tq.toNatClampNeg = (0, 12) from rfl)
          have k199 : M177 a0 1 = x54 := (Fr.kp (k := 1) f174 hk_a0 rfl).trans k159
          obtain ⟨x202, k200⟩ : ∃ x, M177 a0 14 = x := ⟨_, rfl⟩
          have h201 : iv (-2147483648) 2147483647 x202 := by rw [← k200]; exact hS.2.1.int hz_a0 hk_a0 (show rgI 12 14 = ((-2147483648), 2147483647) from rfl)
          have w203 : x184.toInt ≤ x54.toInt ∧ x54.toInt = tp.toInt := by
            have := (h_cn).1; have := (h_cn).2; have := (h_tp).1; have := (h_tp).2; have := (h_tq).1; have := (h_tq).2; have := (h156).1; have := (h156).2; have := (h183).1; have := (h183).2; have := (h33).1; have := (h33).2; have := (h74).1; have := (h74).2; have := (h_x46).1; have := (h_x46).2; have := (h_x48).1; have := (h_x48).2; have := (h_x50).1; have := (h_x50).2; have := (h_x52).1; have := (h_x52).2; have := (h_x54).1; have := (h_x54).2; have := (h_x56).1; have := (h_x56).2; have := (h150).1; have := (h150).2; have := (h86).1; have := (h86).2; exact ⟨by omega, by omega⟩
          have w204 : x180.toInt = 0 ∨ tq.toInt = 6 ∨ (x195.toInt ≤ x184.toInt ∧ x198.toInt ≤ x192.toInt ∧ x192.toInt ≤ 12) := by rcases zc182 with q | q | ⟨y0, y2, y4, y5, f0, f2, f4, f5, -, -, -, g1, g2, g3, g4⟩; (· exact Or.inl (by rw [q]; decide)); (· exact Or.inr (Or.inl q)); (· rw [show y2 = x195 from f2.symm.trans k193, show y0 = x184 from f0.symm.trans k185] at g1; rw [show y4 = x198 from f4.symm.trans k196, show y5 = x192 from f5.symm.trans k190] at g2; rw [show y5 = x192 from f5.symm.trans k190] at g3; exact Or.inr (Or.inr ⟨g1, g2, g3⟩))
          have w205 : x180.toInt = 0 ∨ tq.toInt = 6 ∨ CI M177 sg cl tq.toNatClampNeg x198.toNatClampNeg x195.toInt := by rcases zc182 with q | q | ⟨y0, y2, y4, y5, f0, f2, f4, f5, -, -, -, g1, g2, g3, g4⟩; (· exact Or.inl (by rw [q]; decide)); (· exact Or.inr (Or.inl q)); (· rw [show y2 = x195 from f2.symm.trans k193, show y4 = x198 from f4.symm.trans k196] at g4; exact Or.inr (Or.inr g4))
          have w206 : ∀ j, j < 400 * tq.toNatClampNeg → M177 sg j = Ma sg j := z186
          have w207 : ∀ j, j < 36 * tq.toNatClampNeg → M177 cl j = Ma cl j := z187
          have w208 : ∀ j, j ≠ tq.toNatClampNeg → M177 cs j = Ma cs j := z188
          have w209 : ¬ x180.toInt = 0 ∨ ¬ x202.toInt = 0 := by by_cases q : x180 = 0; (· have := z189 q; rw [k200] at this; exact Or.inr this); (· exact Or.inl (ti_ne q))
          have hm210 : 400 - x184.toInt < (n_41 : Int) := by
            have := (h_cn).1; have := (h_cn).2; have := (h_tp).1; have := (h_tp).2; have := (h_tq).1; have := (h_tq).2; have := (h156).1; have := (h156).2; have := (h183).1; have := (h183).2; have := (h33).1; have := (h33).2; have := (h74).1; have := (h74).2; have := (h_x46).1; have := (h_x46).2; have := (h_x48).1; have := (h_x48).2; have := (h_x50).1; have := (h_x50).2; have := (h_x52).1; have := (h_x52).2; have := (h_x54).1; have := (h_x54).2; have := (h_x56).1; have := (h_x56).2; have := (h150).1; have := (h150).2; have := (h86).1; have := (h86).2; omega
          exact ih_41 x180 x184 x192 x195 x198 x54 x202 M177 R42 J176 H locs _ h_x180 h183 k185 h191 k190 h194 k193 h197 k196 h_x54 k199 h201 k200 w203 w204 w205 w206 w207 w208 w209 hm210 hS hl
  obtain ⟨x213, k211⟩ : ∃ x, M27 a0 19 = x := ⟨_, rfl⟩
  have h212 : iv 0 16 x213 := by rw [← k211]; exact hS.2.1.int hz_a0 hk_a0 (show rgI 12 19 = (0, 16) from rfl)
  obtain ⟨x216, k214⟩ : ∃ x, M27 lg tq.toNatClampNeg = x := ⟨_, rfl⟩
  have h215 : iv 0 400 x216 := by rw [← k214]; exact hS.2.1.int hz_lg hk_lg (show rgI 26 tq.toNatClampNeg = (0, 400) from rfl)
  obtain ⟨x219, k217⟩ : ∃ x, M27 cs tq.toNatClampNeg = x := ⟨_, rfl⟩
  have h218 : iv 0 12 x219 := by rw [← k217]; exact hS.2.1.int hz_cs hk_cs (show rgI 28 tq.toNatClampNeg = (0, 12) from rfl)
  have k220 : M27 a0 1 = tp := ((Fr.kp (k := 1) f24 hk_a0 rfl).trans ((Fr.kp (k := 1) f14 hk_a0 rfl).trans ((Fr.kp (k := 1) f11 hk_a0 rfl).trans ((Fr.kp (k := 1) f8 hk_a0 rfl).trans ((Fr.kp (k := 1) f5 hk_a0 rfl).trans (Fr.kp (k := 1) f2 hk_a0 rfl)))))).trans k_tp
  obtain ⟨x223, k221⟩ : ∃ x, M27 a0 14 = x := ⟨_, rfl⟩
  have h222 : iv (-2147483648) 2147483647 x223 := by rw [← k221]; exact hS.2.1.int hz_a0 hk_a0 (show rgI 12 14 = ((-2147483648), 2147483647) from rfl)
  have w224 : x34.toInt ≤ tp.toInt ∧ tp.toInt = tp.toInt := by
    have := (h_cn).1; have := (h_cn).2; have := (h_tp).1; have := (h_tp).2; have := (h_tq).1; have := (h_tq).2; have := (h33).1; have := (h33).2; exact ⟨by omega, by omega⟩
  have w225 : x30.toInt = 0 ∨ tq.toInt = 6 ∨ (x216.toInt ≤ x34.toInt ∧ x219.toInt ≤ x213.toInt ∧ x213.toInt ≤ 12) := by rcases zc32 with q | q | ⟨y0, y2, y4, y5, f0, f2, f4, f5, -, -, -, g1, g2, g3, g4⟩; (· exact Or.inl (by rw [q]; decide)); (· exact Or.inr (Or.inl q)); (· rw [show y2 = x216 from f2.symm.trans k214, show y0 = x34 from f0.symm.trans k35] at g1; rw [show y4 = x219 from f4.symm.trans k217, show y5 = x213 from f5.symm.trans k211] at g2; rw [show y5 = x213 from f5.symm.trans k211] at g3; exact Or.inr (Or.inr ⟨g1, g2, g3⟩))
  have w226 : x30.toInt = 0 ∨ tq.toInt = 6 ∨ CI M27 sg cl tq.toNatClampNeg x219.toNatClampNeg x216.toInt := by rcases zc32 with q | q | ⟨y0, y2, y4, y5, f0, f2, f4, f5, -, -, -, g1, g2, g3, g4⟩; (· exact Or.inl (by rw [q]; decide)); (· exact Or.inr (Or.inl q)); (· rw [show y2 = x216 from f2.symm.trans k214, show y4 = x219 from f4.symm.trans k217] at g4; exact Or.inr (Or.inr g4))
  have w227 : ∀ j, j < 400 * tq.toNatClampNeg → M27 sg j = Ma sg j := z36
  have w228 : ∀ j, j < 36 * tq.toNatClampNeg → M27 cl j = Ma cl j := z37
  have w229 : ∀ j, j ≠ tq.toNatClampNeg → M27 cs j = Ma cs j := z38
  have w230 : ¬ x30.toInt = 0 ∨ ¬ x223.toInt = 0 := by by_cases q : x30 = 0; (· have := z39 q; rw [k221] at this; exact Or.inr this); (· exact Or.inl (ti_ne q))
  have hm231 : 400 - x34.toInt < (((401 : Nat) : Int) : Int) := by
    have := (h_cn).1; have := (h_cn).2; have := (h_tp).1; have := (h_tp).2; have := (h_tq).1; have := (h_tq).2; have := (h33).1; have := (h33).2; omega
  exact W35_41 401 x30 x34 x213 x216 x219 tp x223 M27 Ra J26 H locs _ h_x30 h33 k35 h212 k211 h215 k214 h218 k217 h_tp k220 h222 k221 w224 w225 w226 w227 w228 w229 w230 hm231 hS hl
def Lt_X12_council : WL := [(12, 1, 2), (12, 7, 10), (12, 13, 20), (12, 21, 22), (14, 0, 2000000), (23, 0, 226), (25, 0, 2000000), (26, 0, 2000000), (27, 0, 2000000), (28, 0, 2000000), (35, 0, 2000000)]
def LRt_X12_council : WL := []
set_option maxRecDepth 100000 in
set_option maxHeartbeats 4000000 in
theorem t_X12_council (l : Launch) (D : va_G) (cy : Nat → ClassId) (tx : (Nat → Nat) × (Nat → Nat)) (base Z : Nat) (K N : Nat → Nat) (Ma : MT) (Ra : RT) (Ja : JT) (hTy : Ty Z K N Ma Ra) (a0 : Nat) (hz_a0 : a0 < Z) (hk_a0 : K a0 = 12) (co_a0 : Codes Ma Ra a0) (sg : Nat) (k_sg : Ra a0 3 = some sg) (cl : Nat) (k_cl : Ra a0 5 = some cl) (cs : Nat) (k_cs : Ra a0 6 = some cs) (sd : Nat) (k_sd : Ra a0 25 = some sd) (e6 : Int32) (k_e6 : Ma sd (6 : Int32).toNatClampNeg = e6) (h_e6 : iv 0 2147483647 e6) : Met l yX12_council [Cond.code yX12_council cX12_council 3 (some .int)] (md_rm 13 0 0) (va_Pc [.ref (base + a0)] (md_U D cy tx base Z K N Ma Ra Ja)) (mQi D cy tx base (fun r u => TP Z K N Lt_X12_council LRt_X12_council Ma Ra u ∧ (iv (-2147483648) 2147483647 r ∧ Codes u.2.2.2.1 u.2.2.2.2.1 a0 ∧ u.2.2.2.1 sd (6 : Int32).toNatClampNeg = e6))) 0 0 (fun q => base ≤ q) := by
  refine tw_ofW (L := Lt_X12_council) (LR := LRt_X12_council) (by decide) (Nat.le_of_ble_eq_true rfl) hTy ?_
  intro p e s m args below meth c Q ls hx hb hr hlocks hown hml hW hK hT hS hQ hl
  have hl : lv_has ls 3 [(0, .ref (base + a0))] := hl
  obtain ⟨hz_sg, hk_sg, hn_sg⟩ := hTy.refn hz_a0 hk_a0 (show rtR 12 3 = (25, 2400, 0) from rfl) k_sg
  have hn_sg := hn_sg (by decide)
  obtain ⟨hz_cl, hk_cl, hn_cl⟩ := hTy.refn hz_a0 hk_a0 (show rtR 12 5 = (27, 216, 0) from rfl) k_cl
  have hn_cl := hn_cl (by decide)
  obtain ⟨hz_cs, hk_cs, hn_cs⟩ := hTy.refn hz_a0 hk_a0 (show rtR 12 6 = (28, 6, 0) from rfl) k_cs
  have hn_cs := hn_cs (by decide)
  obtain ⟨hz_sd, hk_sd, hn_sd⟩ := hTy.refn hz_a0 hk_a0 (show rtR 12 25 = (23, 226, 0) from rfl) k_sd
  have hn_sd := hn_sd (by decide)
  refine lv_aload_n hx hb dX12_council_0 rfl (lv_at hl 0 rfl) ?_
  refine lv_bipush (v := 6) hx hb dX12_council_1 (by decide) ?_
  refine tw_puti hx hb hW hown hK hS f_X12_179_11 hz_a0 hk_a0 rfl rfl (lo := 0) (hi := 6) rfl (iv_mono (iv_c (c := 6) (n := 6) (by decide)) (by decide) (by decide)) rfl dX12_council_3 (fun H locs M3 hS k1 f2 => ?_)
  refine lv_aload_n hx hb dX12_council_6 rfl (lv_at hl 0 rfl) ?_
  refine lv_iconst (v := 0) hx hb dX12_council_7 (by decide) ?_
  refine tw_puti hx hb hW hown hK hS f_X12_251_11 hz_a0 hk_a0 rfl rfl (lo := 0) (hi := 10) rfl (iv_mono (iv_c (c := 0) (n := 0) (by decide)) (by decide) (by decide)) rfl dX12_council_8 (fun H locs M6 hS k4 f5 => ?_)
  refine lv_aload_n hx hb dX12_council_11 rfl (lv_at hl 0 rfl) ?_
  refine lv_iconst (v := 0) hx hb dX12_council_12 (by decide) ?_
  refine tw_puti hx hb hW hown hK hS f_X12_254_11 hz_a0 hk_a0 rfl rfl (lo := 0) (hi := 12) rfl (iv_mono (iv_c (c := 0) (n := 0) (by decide)) (by decide) (by decide)) rfl dX12_council_13 (fun H locs M9 hS k7 f8 => ?_)
  refine lv_aload_n hx hb dX12_council_16 rfl (lv_at hl 0 rfl) ?_
  refine lv_iconst (v := 0) hx hb dX12_council_17 (by decide) ?_
  refine tw_puti hx hb hW hown hK hS f_X12_260_11 hz_a0 hk_a0 rfl rfl (lo := (-2147483648)) (hi := 2147483647) rfl (iv_mono (iv_c (c := 0) (n := 0) (by decide)) (by decide) (by decide)) rfl dX12_council_18 (fun H locs M12 hS k10 f11 => ?_)
  refine lv_iconst (v := 0) hx hb dX12_council_21 (by decide) ?_
  refine lv_istore_n (lv' := [(1, .int 0), (0, .ref (base + a0))]) hx hb dX12_council_22 rfl hl (by decide) rfl (fun ls hl => ?_)
  have W23_14 : ∀ (n_14 : Nat) (x13 : Int32) (x19 : Int32) (x21 : Int32) (M14 : MT) (R15 : RT) (J16 : JT) (H : Heap) (locs : List Loc) (ls : Array Slot) (h_x13 : iv 0 10 x13) (h_x19 : iv 6 6 x19) (k20 : M14 a0 16 = x19) (h_x21 : iv 0 2147483647 x21) (k22 : M14 sd (6 : Int32).toNatClampNeg = x21) (w0_14 : ∀ j, M14 sg j = Ma sg j) (w1_14 : ∀ j, M14 cl j = Ma cl j) (w2_14 : ∀ j, M14 cs j = Ma cs j) (w3_14 : M14 a0 2 = Ma a0 2) (w4_14 : x21.toInt = e6.toInt) (hm_14 : 10 - x13.toInt < (n_14 : Int)) (hS : SB D cy base Z K N Lt_X12_council LRt_X12_council Ma Ra M14 R15 J16 s H locs) (hl : lv_has ls 3 [(1, .int x13), (0, .ref (base + a0))]), W p l e (md_rm 13 0 0) s m args below meth c H locs 0 0 Q (F0 m 23 ls []) := by
    intro n_14
    induction n_14 with
    | zero =>
      intro x13 x19 x21 M14 R15 J16 H locs ls h_x13 h_x19 k20 h_x21 k22 w0_14 w1_14 w2_14 w3_14 w4_14 hm_14 hS hl
      exfalso
      have := (h_e6).1; have := (h_e6).2; have := (h_x13).1; have := (h_x13).2; omega
    | succ n_14 ih_14 =>
      intro x13 x19 x21 M14 R15 J16 H locs ls h_x13 h_x19 k20 h_x21 k22 w0_14 w1_14 w2_14 w3_14 w4_14 hm_14 hS hl
      have f17 := hS.2.2.1
      have g18 := hS.2.2.2
      refine lv_iload_n hx hb dX12_council_23 rfl (lv_at hl 0 rfl) ?_
      refine lv_bipush (v := 10) hx hb dX12_council_24 (by decide) ?_
      refine lv_icmp_ge (tgt := 49) hx hb dX12_council_26 (by decide) (fun c23 => ?_) (fun c23 => ?_)
      · have q24 : 10 ≤ x13.toInt := ti_le c23
        have h25 : iv 10 10 x13 := iv_geL (y := 10) h_x13 (iv_c (c := 10) (n := 10) (by decide)) q24 (by decide)
        refine lv_aload_n hx hb dX12_council_49 rfl (lv_at hl 1 rfl) ?_
        obtain ⟨x28, k26⟩ : ∃ x, M14 a0 2 = x := ⟨_, rfl⟩
        have h27 : iv 0 6 x28 := by rw [← k26]; exact hS.2.1.int hz_a0 hk_a0 (show rgI 12 2 = (0, 6) from rfl)
        obtain ⟨b29, k30, hz_b29, hk_b29, hn_b29⟩ := hS.2.1.ref hz_a0 hk_a0 (show rtR 12 0 = (13, 400, 0) from rfl)
        have hn_b29 := hn_b29 (by decide)
        obtain ⟨x33, k31⟩ : ∃ x, M14 a0 1 = x := ⟨_, rfl⟩
        have h32 : iv 0 400 x33 := by rw [← k31]; exact hS.2.1.int hz_a0 hk_a0 (show rgI 12 1 = (0, 400) from rfl)
        obtain ⟨b34, k35, hz_b34, hk_b34, hn_b34⟩ := hS.2.1.ref hz_a0 hk_a0 (show rtR 12 4 = (26, 7, 0) from rfl)
        have hn_b34 := hn_b34 (by decide)
        have k36 : R15 a0 3 = some sg := (Fr.kp (k := 3) g18 hk_a0 rfl).trans k_sg
        obtain ⟨b37, k38, hz_b37, hk_b37, hn_b37⟩ := hS.2.1.ref hz_a0 hk_a0 (show rtR 12 20 = (14, 400, 0) from rfl)
        have hn_b37 := hn_b37 (by decide)
        have k39 : R15 a0 6 = some cs := (Fr.kp (k := 6) g18 hk_a0 rfl).trans k_cs
        have k40 : R15 a0 5 = some cl := (Fr.kp (k := 5) g18 hk_a0 rfl).trans k_cl
        obtain ⟨x43, k41⟩ : ∃ x, M14 cs x19.toNatClampNeg = x := ⟨_, rfl⟩
        have h42 : iv 0 12 x43 := by rw [← k41]; exact hS.2.1.int hz_cs hk_cs (show rgI 28 x19.toNatClampNeg = (0, 12) from rfl)
        have q44 : x19.toInt = 6 ∨ x43.toInt = 0 := by
          have := (h_e6).1; have := (h_e6).2; have := (h_x19).1; have := (h_x19).2; have := (h42).1; have := (h42).2; omega
        refine tw_goi hS (md_runV (As := []) (rest := []) hx hb hml hown hW hK hT hS.1 (t_X12_readsAll l D cy tx base Z K N M14 R15 J16 hS.2.1 a0 hz_a0 hk_a0 b29 k30 x33 k31 (iv_mono h32 (by decide) (by decide)) b34 k35 sg k36 x19 k20 (iv_mono h_x19 (by decide) (by decide)) b37 k38 cs k39 cl k40 x43 k41 (iv_mono h42 (by decide) (by decide)) q44) s_X12_301 ⟨rfl, rfl, ⟨Nat.le_of_ble_eq_true rfl, Nat.le_of_ble_eq_true rfl⟩, ⟨Nat.le_of_ble_eq_true rfl, Nat.le_of_ble_eq_true rfl⟩⟩ hz_a0 hk_a0 (by decide) rfl rfl hl.1 rfl (Nat.le_of_ble_eq_true rfl) dX12_council_50) rfl rfl (fun x51 H locs M48 R49 J47 hS f45 g46 E50 => ?_)
        have eR49 := Fr.nil g46 rfl
        subst eR49
        obtain ⟨h_x51, p52⟩ := E50
        obtain ⟨zf52, zg52, zh52, zc52⟩ := p52
        have zt52 := ti_cl (x := x19) (by have := (h_x19).1; omega)
        have k54 : M48 a0 2 = x28 := (Fr.kp (k := 2) f45 hk_a0 rfl).trans k26
        have zb52 : ∀ t, (Ma cs t).toInt ≤ 12 := fun t => (hTy.int hz_cs hk_cs (k := t) (lo := 0) (hi := 12) rfl).2
        have k55 : R15 a0 3 = some sg := (Fr.kp (k := 3) g18 hk_a0 rfl).trans k_sg
        have k56 : R15 a0 5 = some cl := (Fr.kp (k := 5) g18 hk_a0 rfl).trans k_cl
        have k57 : R15 a0 6 = some cs := (Fr.kp (k := 6) g18 hk_a0 rfl).trans k_cs
        have z53 : Codes M48 R15 a0 := Codes.low (T := x19.toNatClampNeg) co_a0 k_sg k_cl k_cs k55 k56 k57 (by rw [← ((Fr.kp (k := 2) f45 hk_a0 rfl).trans w3_14), k54]; have := (h27).2; have := (h_x19).1; omega) (hS.2.2.1.kp hk_a0 rfl) zb52 (fun j hj => (zf52 j hj).trans ((fun j _ => (w0_14 j)) j hj)) (fun j hj => (zg52 j hj).trans ((fun j _ => (w1_14 j)) j hj)) (fun j hj => (zh52 j hj).trans ((fun j _ => (w2_14 j)) j hj))
        refine lv_if_ne (tgt := 64) hx hb dX12_council_53 (by decide) (fun c58 => ?_) (fun c58 => ?_)
        · have q59 : ¬ x51.toInt = 0 := ti_ne c58
          have h60 : iv 1 1 x51 := ⟨by have := (h_x51).1; have := ((iv_c (c := 0) (n := 0) (by decide))).1; have := ((iv_c (c := 0) (n := 0) (by decide))).2; omega, by have := (h_x51).2; have := ((iv_c (c := 0) (n := 0) (by decide))).1; have := ((iv_c (c := 0) (n := 0) (by decide))).2; omega⟩
          refine lv_aload_n hx hb dX12_council_64 rfl (lv_at hl 1 rfl) ?_
          have k61 : R15 a0 25 = some sd := (Fr.kp (k := 25) g18 hk_a0 rfl).trans k_sd
          refine tw_getrk hx hb hW hown hK hS f_X12_45_11 hz_a0 hk_a0 (b := sd) k61 dX12_council_65 ?_
          refine lv_bipush (v := 6) hx hb dX12_council_68 (by decide) ?_
          have k62 : M48 sd (6 : Int32).toNatClampNeg = x21 := (Fr.kp (k := (6 : Int32).toNatClampNeg) f45 hk_sd rfl).trans k22
          refine tw_ialk hx hb hK hS hz_sd hk_sd (Or.inr (by decide)) hn_sd (iv_c (c := 6) (n := 6) (by decide)) ⟨by decide, by decide⟩ (v := x21) k62 dX12_council_70 ?_
          refine lv_istore_n (lv' := [(1, .int x21), (0, .ref (base + a0))]) hx hb dX12_council_71 rfl hl (by decide) rfl (fun ls hl => ?_)
          refine lv_iconst (v := 0) hx hb dX12_council_72 (by decide) ?_
          refine lv_istore_n (lv' := [(2, .int 0), (1, .int x21), (0, .ref (base + a0))]) hx hb dX12_council_73 rfl hl (by decide) rfl (fun ls hl => ?_)
          have W74_64 : ∀ (n_64 : Nat) (x63 : Int32) (M64 : MT) (R65 : RT) (J66 : JT) (H : Heap) (locs : List Loc) (ls : Array Slot) (h_x63 : iv 0 226 x63) (w0_64 : Codes M64 R65 a0) (hm_64 : 226 - x63.toInt < (n_64 : Int)) (hS : SB D cy base Z K N Lt_X12_council LRt_X12_council Ma Ra M64 R65 J66 s H locs) (hl : lv_has ls 3 [(2, .int x63), (1, .int x21), (0, .ref (base + a0))]), W p l e (md_rm 13 0 0) s m args below meth c H locs 0 0 Q (F0 m 74 ls []) := by
            intro n_64
            induction n_64 with
            | zero =>
              intro x63 M64 R65 J66 H locs ls h_x63 w0_64 hm_64 hS hl
              exfalso
              have := (h_e6).1; have := (h_e6).2; have := (h_x63).1; have := (h_x63).2; omega
            | succ n_64 ih_64 =>
              intro x63 M64 R65 J66 H locs ls h_x63 w0_64 hm_64 hS hl
              have f67 := hS.2.2.1
              have g68 := hS.2.2.2
              refine lv_iload_n hx hb dX12_council_74 rfl (lv_at hl 0 rfl) ?_
              refine lv_sipush (v := 226) hx hb dX12_council_75 (by decide) ?_
              refine lv_icmp_ge (tgt := 94) hx hb dX12_council_78 (by decide) (fun c69 => ?_) (fun c69 => ?_)
              · have q70 : 226 ≤ x63.toInt := ti_le c69
                have h71 : iv 226 226 x63 := iv_geL (y := 226) h_x63 (iv_c (c := 226) (n := 226) (by decide)) q70 (by decide)
                refine lv_aload_n hx hb dX12_council_94 rfl (lv_at hl 2 rfl) ?_
                have k72 : R65 a0 25 = some sd := (Fr.kp (k := 25) g68 hk_a0 rfl).trans k_sd
                refine tw_getrk hx hb hW hown hK hS f_X12_45_11 hz_a0 hk_a0 (b := sd) k72 dX12_council_95 ?_
                refine lv_iconst (v := 0) hx hb dX12_council_98 (by decide) ?_
                refine lv_aload_n hx hb dX12_council_99 rfl (lv_at hl 2 rfl) ?_
                refine tw_geti hx hb hW hown hK hS f_X12_251_11 hz_a0 hk_a0 (lo := 0) (hi := 10) rfl dX12_council_100 (fun x75 k74 h73 => ?_)
                refine tw_iast hx hb hK hS hz_sd hk_sd (Or.inr (by decide)) hn_sd (iv_c (c := 0) (n := 0) (by decide)) ⟨by decide, by decide⟩ h73 (rg_cs (k0 := 0) rfl rfl rfl ⟨by decide, by decide⟩) (jl := 0) (jh := 0) ⟨by decide, by decide⟩ rfl dX12_council_103 (fun H locs M78 hS k76 f77 => ?_)
                refine lv_aload_n hx hb dX12_council_104 rfl (lv_at hl 2 rfl) ?_
                have k79 : R65 a0 25 = some sd := (Fr.kp (k := 25) g68 hk_a0 rfl).trans k_sd
                refine tw_getrk hx hb hW hown hK hS f_X12_45_11 hz_a0 hk_a0 (b := sd) k79 dX12_council_105 ?_
                refine lv_iconst (v := 1) hx hb dX12_council_108 (by decide) ?_
                refine lv_aload_n hx hb dX12_council_109 rfl (lv_at hl 2 rfl) ?_
                refine tw_geti hx hb hW hown hK hS f_X12_254_11 hz_a0 hk_a0 (lo := 0) (hi := 12) rfl dX12_council_110 (fun x82 k81 h80 => ?_)
                refine tw_iast hx hb hK hS hz_sd hk_sd (Or.inr (by decide)) hn_sd (iv_c (c := 1) (n := 1) (by decide)) ⟨by decide, by decide⟩ h80 (rg_cs (k0 := 1) rfl rfl rfl ⟨by decide, by decide⟩) (jl := 1) (jh := 1) ⟨by decide, by decide⟩ rfl dX12_council_113 (fun H locs M85 hS k83 f84 => ?_)
                refine lv_aload_n hx hb dX12_council_114 rfl (lv_at hl 2 rfl) ?_
                have k86 : R65 a0 25 = some sd := (Fr.kp (k := 25) g68 hk_a0 rfl).trans k_sd
                refine tw_getrk hx hb hW hown hK hS f_X12_45_11 hz_a0 hk_a0 (b := sd) k86 dX12_council_115 ?_
                refine lv_iconst (v := 2) hx hb dX12_council_118 (by decide) ?_
                refine lv_iconst (v := 1) hx hb dX12_council_119 (by decide) ?_
                refine lv_aload_n hx hb dX12_council_120 rfl (lv_at hl 2 rfl) ?_
                have k87 : M85 a0 7 = x75 := ((Fr.kp (k := 7) f84 hk_a0 rfl).trans (Fr.kp (k := 7) f77 hk_a0 rfl)).trans k74
                refine tw_getk hx hb hW hown hK hS f_X12_251_11 hz_a0 hk_a0 (v := x75) k87 dX12_council_121 ?_
                refine lv_ishl hx hb dX12_council_124 ?_
                refine tw_top (fun x89 => ?_)
                have h88 := iv_any x89
                refine lv_iconst (v := 1) hx hb dX12_council_125 (by decide) ?_
                refine lv_isub hx hb dX12_council_126 ?_
                refine tw_top (fun x91 => ?_)
                have h90 := iv_any x91
                refine tw_iast hx hb hK hS hz_sd hk_sd (Or.inr (by decide)) hn_sd (iv_c (c := 2) (n := 2) (by decide)) ⟨by decide, by decide⟩ h90 (rg_cs (k0 := 2) rfl rfl rfl ⟨by decide, by decide⟩) (jl := 2) (jh := 2) ⟨by decide, by decide⟩ rfl dX12_council_127 (fun H locs M94 hS k92 f93 => ?_)
                refine lv_aload_n hx hb dX12_council_128 rfl (lv_at hl 2 rfl) ?_
                have k95 : R65 a0 25 = some sd := (Fr.kp (k := 25) g68 hk_a0 rfl).trans k_sd
                refine tw_getrk hx hb hW hown hK hS f_X12_45_11 hz_a0 hk_a0 (b := sd) k95 dX12_council_129 ?_
                refine lv_bipush (v := 6) hx hb dX12_council_132 (by decide) ?_
                refine lv_iload_n hx hb dX12_council_134 rfl (lv_at hl 1 rfl) ?_
                refine tw_iast hx hb hK hS hz_sd hk_sd (Or.inr (by decide)) hn_sd (iv_c (c := 6) (n := 6) (by decide)) ⟨by decide, by decide⟩ h_x21 (rg_cs (k0 := 6) rfl rfl rfl ⟨by decide, by decide⟩) (jl := 6) (jh := 6) ⟨by decide, by decide⟩ rfl dX12_council_135 (fun H locs M98 hS k96 f97 => ?_)
                refine lv_aload_n hx hb dX12_council_136 rfl (lv_at hl 2 rfl) ?_
                have k99 : R65 a0 25 = some sd := (Fr.kp (k := 25) g68 hk_a0 rfl).trans k_sd
                refine tw_getrk hx hb hW hown hK hS f_X12_45_11 hz_a0 hk_a0 (b := sd) k99 dX12_council_137 ?_
                refine lv_bipush (v := 8) hx hb dX12_council_140 (by decide) ?_
                refine lv_sipush (v := 9999) hx hb dX12_council_142 (by decide) ?_
                refine tw_iast hx hb hK hS hz_sd hk_sd (Or.inr (by decide)) hn_sd (iv_c (c := 8) (n := 8) (by decide)) ⟨by decide, by decide⟩ (iv_c (c := 9999) (n := 9999) (by decide)) (rg_cs (k0 := 8) rfl rfl rfl ⟨by decide, by decide⟩) (jl := 8) (jh := 8) ⟨by decide, by decide⟩ rfl dX12_council_145 (fun H locs M102 hS k100 f101 => ?_)
                refine lv_iconst (v := 0) hx hb dX12_council_146 (by decide) ?_
                refine lv_istore_n (lv' := [(2, .int 0), (1, .int x21), (0, .ref (base + a0))]) hx hb dX12_council_147 rfl hl (by decide) rfl (fun ls hl => ?_)
                have W148_104 : ∀ (n_104 : Nat) (x103 : Int32) (x109 : Int32) (M104 : MT) (R105 : RT) (J106 : JT) (H : Heap) (locs : List Loc) (ls : Array Slot) (h_x103 : iv 0 10 x103) (h_x109 : iv 0 2147483647 x109) (k110 : M104 sd (6 : Int32).toNatClampNeg = x109) (w0_104 : Codes M104 R105 a0) (w1_104 : x109.toInt = e6.toInt) (hm_104 : 10 - x103.toInt < (n_104 : Int)) (hS : SB D cy base Z K N Lt_X12_council LRt_X12_council Ma Ra M104 R105 J106 s H locs) (hl : lv_has ls 3 [(2, .int x103), (1, .int x21), (0, .ref (base + a0))]), W p l e (md_rm 13 0 0) s m args below meth c H locs 0 0 Q (F0 m 148 ls []) := by
                  intro n_104
                  induction n_104 with
                  | zero =>
                    intro x103 x109 M104 R105 J106 H locs ls h_x103 h_x109 k110 w0_104 w1_104 hm_104 hS hl
                    exfalso
                    have := (h_e6).1; have := (h_e6).2; have := (h_x103).1; have := (h_x103).2; omega
                  | succ n_104 ih_104 =>
                    intro x103 x109 M104 R105 J106 H locs ls h_x103 h_x109 k110 w0_104 w1_104 hm_104 hS hl
                    have f107 := hS.2.2.1
                    have g108 := hS.2.2.2
                    refine lv_iload_n hx hb dX12_council_148 rfl (lv_at hl 0 rfl) ?_
                    refine lv_aload_n hx hb dX12_council_149 rfl (lv_at hl 2 rfl) ?_
                    refine tw_geti hx hb hW hown hK hS f_X12_251_11 hz_a0 hk_a0 (lo := 0) (hi := 10) rfl dX12_council_150 (fun x113 k112 h111 => ?_)
                    refine lv_icmp_ge (tgt := 192) hx hb dX12_council_153 (by decide) (fun c114 => ?_) (fun c114 => ?_)
                    · have q115 : x113.toInt ≤ x103.toInt := ti_le c114
                      refine lv_iconst (v := 0) hx hb dX12_council_192 (by decide) ?_
                      refine lv_istore_n (lv' := [(2, .int 0), (1, .int x21), (0, .ref (base + a0))]) hx hb dX12_council_193 rfl hl (by decide) rfl (fun ls hl => ?_)
                      have W194_117 : ∀ (n_117 : Nat) (x116 : Int32) (x122 : Int32) (M117 : MT) (R118 : RT) (J119 : JT) (H : Heap) (locs : List Loc) (ls : Array Slot) (h_x116 : iv 0 120 x116) (h_x122 : iv 0 2147483647 x122) (k123 : M117 sd (6 : Int32).toNatClampNeg = x122) (w0_117 : Codes M117 R118 a0) (w1_117 : x122.toInt = e6.toInt) (hm_117 : 120 - x116.toInt < (n_117 : Int)) (hS : SB D cy base Z K N Lt_X12_council LRt_X12_council Ma Ra M117 R118 J119 s H locs) (hl : lv_has ls 3 [(2, .int x116), (1, .int x21), (0, .ref (base + a0))]), W p l e (md_rm 13 0 0) s m args below meth c H locs 0 0 Q (F0 m 194 ls []) := by
                        intro n_117
                        induction n_117 with
                        | zero =>
                          intro x116 x122 M117 R118 J119 H locs ls h_x116 h_x122 k123 w0_117 w1_117 hm_117 hS hl
                          exfalso
                          have := (h_e6).1; have := (h_e6).2; have := (h_x116).1; have := (h_x116).2; omega
                        | succ n_117 ih_117 =>
                          intro x116 x122 M117 R118 J119 H locs ls h_x116 h_x122 k123 w0_117 w1_117 hm_117 hS hl
                          have f120 := hS.2.2.1
                          have g121 := hS.2.2.2
                          refine lv_iload_n hx hb dX12_council_194 rfl (lv_at hl 0 rfl) ?_
                          refine lv_bipush (v := 10) hx hb dX12_council_195 (by decide) ?_
                          refine lv_aload_n hx hb dX12_council_197 rfl (lv_at hl 2 rfl) ?_
                          refine tw_geti hx hb hW hown hK hS f_X12_254_11 hz_a0 hk_a0 (lo := 0) (hi := 12) rfl dX12_council_198 (fun x126 k125 h124 => ?_)
                          refine tw_icmul (k := 10) (lo := 0) (hi := 120) hx hb (by decide) h124 (by decide) ⟨by decide, by decide⟩ ⟨by decide, by decide⟩ dX12_council_201 (fun x129 e128 h127 => ?_)
                          refine lv_icmp_ge (tgt := 226) hx hb dX12_council_202 (by decide) (fun c130 => ?_) (fun c130 => ?_)
                          · have q131 : x129.toInt ≤ x116.toInt := ti_le c130
                            refine lv_aload_n hx hb dX12_council_226 rfl (lv_at hl 2 rfl) ?_
                            refine tw_geti hx hb hW hown hK hS f_X12_251_11 hz_a0 hk_a0 (lo := 0) (hi := 10) rfl dX12_council_227 (fun x134 k133 h132 => ?_)
                            have k135 : R118 a0 3 = some sg := (Fr.kp (k := 3) g121 hk_a0 rfl).trans k_sg
                            have k136 : R118 a0 5 = some cl := (Fr.kp (k := 5) g121 hk_a0 rfl).trans k_cl
                            have k137 : R118 a0 6 = some cs := (Fr.kp (k := 6) g121 hk_a0 rfl).trans k_cs
                            exact tw_endi hx hb hr hlocks hK hT hS hQ (⟨(iv_mono h132 (by decide) (by decide)), w0_117, (k123.trans (Int32.toInt_inj.mp (by omega)))⟩) dX12_council_230
                          · have q138 : x116.toInt < x129.toInt := ti_nle c130
                            have h139 : iv 0 119 x116 := iv_ltL (y := x129) h_x116 h127 q138 (by decide)
                            have h140 : iv 1 120 x129 := iv_gtL (y := x116) h127 h_x116 q138 (by decide)
                            refine lv_aload_n hx hb dX12_council_205 rfl (lv_at hl 2 rfl) ?_
                            have k141 : R118 a0 25 = some sd := (Fr.kp (k := 25) g121 hk_a0 rfl).trans k_sd
                            refine tw_getrk hx hb hW hown hK hS f_X12_45_11 hz_a0 hk_a0 (b := sd) k141 dX12_council_206 ?_
                            refine lv_bipush (v := 50) hx hb dX12_council_209 (by decide) ?_
                            refine lv_iload_n hx hb dX12_council_211 rfl (lv_at hl 0 rfl) ?_
                            refine tw_iadd (lo := 50) (hi := 169) hx hb (iv_c (c := 50) (n := 50) (by decide)) h139 ⟨by decide, by decide⟩ ⟨by decide, by decide⟩ dX12_council_212 (fun x144 e143 h142 => ?_)
                            have e143 : x144.toInt = 50 + x116.toInt := e143
                            refine lv_aload_n hx hb dX12_council_213 rfl (lv_at hl 2 rfl) ?_
                            refine tw_getr hx hb hW hown hK hS f_X12_26_11 hz_a0 hk_a0 (t := 14) (n := 120) rfl dX12_council_214 (fun b145 k146 hz_b145 hk_b145 hn_b145 => ?_)
                            have hn_b145 := hn_b145 (by decide)
                            refine lv_iload_n hx hb dX12_council_217 rfl (lv_at hl 0 rfl) ?_
                            refine tw_iald hx hb hK hS hz_b145 hk_b145 (Or.inl rfl) hn_b145 (lo := (-2147483648)) (hi := 2147483647) h139 ⟨by decide, by decide⟩ rg_u14 dX12_council_218 (fun x149 k148 h147 => ?_)
                            refine tw_iast hx hb hK hS hz_sd hk_sd (Or.inr (by decide)) hn_sd h142 ⟨by decide, by decide⟩ h147 (rg_sas (Or.inl ⟨by decide, by decide⟩) ⟨by decide, by decide⟩) (jl := 50) (jh := 169) ⟨by decide, by decide⟩ rfl dX12_council_219 (fun H locs M152 hS k150 f151 => ?_)
                            refine tw_iinc (lv' := fun x155 => [(2, .int x155), (1, .int x21), (0, .ref (base + a0))]) (lo := 1) (hi := 120) hx hb dX12_council_220 hl (k := 0) rfl h139 (by decide) ⟨by decide, by decide⟩ ⟨by decide, by decide⟩ (by decide) (fun _ => rfl) (fun x155 ls e154 h153 hl => ?_)
                            refine lv_goto (tgt := 194) hx hb dX12_council_223 (by decide) ?_
                            have k156 : M152 sd (6 : Int32).toNatClampNeg = x122 := (Fr.kp (k := (6 : Int32).toNatClampNeg) f151 hk_sd rfl).trans k123
                            have k158 : R118 a0 3 = some sg := (Fr.kp (k := 3) g121 hk_a0 rfl).trans k_sg
                            have k159 : R118 a0 5 = some cl := (Fr.kp (k := 5) g121 hk_a0 rfl).trans k_cl
                            have k160 : R118 a0 6 = some cs := (Fr.kp (k := 6) g121 hk_a0 rfl).trans k_cs
                            have w157 : Codes M152 R118 a0 := (Codes.fr2 w0_117 k158 k159 k160 hk_sg hk_cl hk_cs hk_a0 f151 rfl)
                            have w161 : x122.toInt = e6.toInt := by
                              have := (h_e6).1; have := (h_e6).2; have := (h_x109).1; have := (h_x109).2; have := (h_x122).1; have := (h_x122).2; have := (h_x21).1; have := (h_x21).2; omega
                            have hm162 : 120 - x155.toInt < (n_117 : Int) := by
                              have := (h_e6).1; have := (h_e6).2; have := (h139).1; have := (h139).2; have := (h142).1; have := (h142).2; have := (h153).1; have := (h153).2; omega
                            exact ih_117 x155 x122 M152 R118 J119 H locs _ (iv_mono h153 (by decide) (by decide)) h_x122 k156 w157 w161 hm162 hS hl
                      have k164 : R105 a0 3 = some sg := (Fr.kp (k := 3) g108 hk_a0 rfl).trans k_sg
                      have k165 : R105 a0 5 = some cl := (Fr.kp (k := 5) g108 hk_a0 rfl).trans k_cl
                      have k166 : R105 a0 6 = some cs := (Fr.kp (k := 6) g108 hk_a0 rfl).trans k_cs
                      have w163 : Codes M104 R105 a0 := w0_104
                      have w167 : x109.toInt = e6.toInt := by
                        have := (h_e6).1; have := (h_e6).2; have := (h_x109).1; have := (h_x109).2; have := (h_x21).1; have := (h_x21).2; omega
                      have hm168 : 120 - (0 : Int32).toInt < (((121 : Nat) : Int) : Int) := by
                        have := (h_e6).1; have := (h_e6).2; have : (0 : Int32).toInt = 0 := (by decide); omega
                      exact W194_117 121 0 x109 M104 R105 J106 H locs _ (iv_mono (iv_c (c := 0) (n := 0) (by decide)) (by decide) (by decide)) h_x109 k110 w163 w167 hm168 hS hl
                    · have q169 : x103.toInt < x113.toInt := ti_nle c114
                      have h170 : iv 0 9 x103 := iv_ltL (y := x113) h_x103 h111 q169 (by decide)
                      have h171 : iv 1 10 x113 := iv_gtL (y := x103) h111 h_x103 q169 (by decide)
                      refine lv_aload_n hx hb dX12_council_156 rfl (lv_at hl 2 rfl) ?_
                      have k172 : R105 a0 25 = some sd := (Fr.kp (k := 25) g108 hk_a0 rfl).trans k_sd
                      refine tw_getrk hx hb hW hown hK hS f_X12_45_11 hz_a0 hk_a0 (b := sd) k172 dX12_council_157 ?_
                      refine lv_bipush (v := 10) hx hb dX12_council_160 (by decide) ?_
                      refine lv_iload_n hx hb dX12_council_162 rfl (lv_at hl 0 rfl) ?_
                      refine tw_iadd (lo := 10) (hi := 19) hx hb (iv_c (c := 10) (n := 10) (by decide)) h170 ⟨by decide, by decide⟩ ⟨by decide, by decide⟩ dX12_council_163 (fun x175 e174 h173 => ?_)
                      have e174 : x175.toInt = 10 + x103.toInt := e174
                      refine lv_aload_n hx hb dX12_council_164 rfl (lv_at hl 2 rfl) ?_
                      refine tw_getr hx hb hW hown hK hS f_X12_29_11 hz_a0 hk_a0 (t := 35) (n := 10) rfl dX12_council_165 (fun b176 k177 hz_b176 hk_b176 hn_b176 => ?_)
                      have hn_b176 := hn_b176 (by decide)
                      refine lv_iload_n hx hb dX12_council_168 rfl (lv_at hl 0 rfl) ?_
                      refine tw_iald hx hb hK hS hz_b176 hk_b176 (Or.inr (by decide)) hn_b176 (lo := 0) (hi := 999) h170 ⟨by decide, by decide⟩ rg_u35 dX12_council_169 (fun x180 k179 h178 => ?_)
                      refine tw_iast hx hb hK hS hz_sd hk_sd (Or.inr (by decide)) hn_sd h173 ⟨by decide, by decide⟩ h178 (rg_svs ⟨by decide, by decide⟩ ⟨by decide, by decide⟩) (jl := 10) (jh := 19) ⟨by decide, by decide⟩ rfl dX12_council_170 (fun H locs M183 hS k181 f182 => ?_)
                      refine lv_aload_n hx hb dX12_council_171 rfl (lv_at hl 2 rfl) ?_
                      have k184 : R105 a0 25 = some sd := (Fr.kp (k := 25) g108 hk_a0 rfl).trans k_sd
                      refine tw_getrk hx hb hW hown hK hS f_X12_45_11 hz_a0 hk_a0 (b := sd) k184 dX12_council_172 ?_
                      refine lv_bipush (v := 20) hx hb dX12_council_175 (by decide) ?_
                      refine lv_iload_n hx hb dX12_council_177 rfl (lv_at hl 0 rfl) ?_
                      refine tw_iadd (lo := 20) (hi := 29) hx hb (iv_c (c := 20) (n := 20) (by decide)) h170 ⟨by decide, by decide⟩ ⟨by decide, by decide⟩ dX12_council_178 (fun x187 e186 h185 => ?_)
                      have e186 : x187.toInt = 20 + x103.toInt := e186
                      refine lv_aload_n hx hb dX12_council_179 rfl (lv_at hl 2 rfl) ?_
                      refine tw_getr hx hb hW hown hK hS f_X12_32_11 hz_a0 hk_a0 (t := 14) (n := 10) rfl dX12_council_180 (fun b188 k189 hz_b188 hk_b188 hn_b188 => ?_)
                      have hn_b188 := hn_b188 (by decide)
                      refine lv_iload_n hx hb dX12_council_183 rfl (lv_at hl 0 rfl) ?_
                      refine tw_iald hx hb hK hS hz_b188 hk_b188 (Or.inl rfl) hn_b188 (lo := (-2147483648)) (hi := 2147483647) h170 ⟨by decide, by decide⟩ rg_u14 dX12_council_184 (fun x192 k191 h190 => ?_)
                      refine tw_iast hx hb hK hS hz_sd hk_sd (Or.inr (by decide)) hn_sd h185 ⟨by decide, by decide⟩ h190 (rg_sas (Or.inl ⟨by decide, by decide⟩) ⟨by decide, by decide⟩) (jl := 20) (jh := 29) ⟨by decide, by decide⟩ rfl dX12_council_185 (fun H locs M195 hS k193 f194 => ?_)
                      refine tw_iinc (lv' := fun x198 => [(2, .int x198), (1, .int x21), (0, .ref (base + a0))]) (lo := 1) (hi := 10) hx hb dX12_council_186 hl (k := 0) rfl h170 (by decide) ⟨by decide, by decide⟩ ⟨by decide, by decide⟩ (by decide) (fun _ => rfl) (fun x198 ls e197 h196 hl => ?_)
                      refine lv_goto (tgt := 148) hx hb dX12_council_189 (by decide) ?_
                      have k199 : M195 sd (6 : Int32).toNatClampNeg = x109 := ((Fr.kp (k := (6 : Int32).toNatClampNeg) f194 hk_sd rfl).trans (Fr.kp (k := (6 : Int32).toNatClampNeg) f182 hk_sd rfl)).trans k110
                      have k201 : R105 a0 3 = some sg := (Fr.kp (k := 3) g108 hk_a0 rfl).trans k_sg
                      have k202 : R105 a0 5 = some cl := (Fr.kp (k := 5) g108 hk_a0 rfl).trans k_cl
                      have k203 : R105 a0 6 = some cs := (Fr.kp (k := 6) g108 hk_a0 rfl).trans k_cs
                      have w200 : Codes M195 R105 a0 := (Codes.fr2 (Codes.fr2 w0_104 k201 k202 k203 hk_sg hk_cl hk_cs hk_a0 f182 rfl) k201 k202 k203 hk_sg hk_cl hk_cs hk_a0 f194 rfl)
                      have w204 : x109.toInt = e6.toInt := by
                        have := (h_e6).1; have := (h_e6).2; have := (h_x109).1; have := (h_x109).2; have := (h_x21).1; have := (h_x21).2; omega
                      have hm205 : 10 - x198.toInt < (n_104 : Int) := by
                        have := (h_e6).1; have := (h_e6).2; have := (h170).1; have := (h170).2; have := (h173).1; have := (h173).2; have := (h185).1; have := (h185).2; have := (h196).1; have := (h196).2; omega
                      exact ih_104 x198 x109 M195 R105 J106 H locs _ (iv_mono h196 (by decide) (by decide)) h_x109 k199 w200 w204 hm205 hS hl
                have k206 : M102 sd (6 : Int32).toNatClampNeg = x21 := (Fr.kp (k := (6 : Int32).toNatClampNeg) f101 hk_sd rfl).trans k96
                have k208 : R65 a0 3 = some sg := (Fr.kp (k := 3) g68 hk_a0 rfl).trans k_sg
                have k209 : R65 a0 5 = some cl := (Fr.kp (k := 5) g68 hk_a0 rfl).trans k_cl
                have k210 : R65 a0 6 = some cs := (Fr.kp (k := 6) g68 hk_a0 rfl).trans k_cs
                have w207 : Codes M102 R65 a0 := (Codes.fr2 (Codes.fr2 (Codes.fr2 (Codes.fr2 (Codes.fr2 w0_64 k208 k209 k210 hk_sg hk_cl hk_cs hk_a0 f77 rfl) k208 k209 k210 hk_sg hk_cl hk_cs hk_a0 f84 rfl) k208 k209 k210 hk_sg hk_cl hk_cs hk_a0 f93 rfl) k208 k209 k210 hk_sg hk_cl hk_cs hk_a0 f97 rfl) k208 k209 k210 hk_sg hk_cl hk_cs hk_a0 f101 rfl)
                have w211 : x21.toInt = e6.toInt := by
                  have := (h_e6).1; have := (h_e6).2; have := (h_x21).1; have := (h_x21).2; omega
                have hm212 : 10 - (0 : Int32).toInt < (((11 : Nat) : Int) : Int) := by
                  have := (h_e6).1; have := (h_e6).2; have : (0 : Int32).toInt = 0 := (by decide); omega
                exact W148_104 11 0 x21 M102 R65 J66 H locs _ (iv_mono (iv_c (c := 0) (n := 0) (by decide)) (by decide) (by decide)) h_x21 k206 w207 w211 hm212 hS hl
              · have q213 : x63.toInt < 226 := ti_nle c69
                have h214 : iv 0 225 x63 := iv_ltL (y := 226) h_x63 (iv_c (c := 226) (n := 226) (by decide)) q213 (by decide)
                refine lv_aload_n hx hb dX12_council_81 rfl (lv_at hl 2 rfl) ?_
                have k215 : R65 a0 25 = some sd := (Fr.kp (k := 25) g68 hk_a0 rfl).trans k_sd
                refine tw_getrk hx hb hW hown hK hS f_X12_45_11 hz_a0 hk_a0 (b := sd) k215 dX12_council_82 ?_
                refine lv_iload_n hx hb dX12_council_85 rfl (lv_at hl 0 rfl) ?_
                refine lv_iconst (v := 0) hx hb dX12_council_86 (by decide) ?_
                refine tw_iast hx hb hK hS hz_sd hk_sd (Or.inr (by decide)) hn_sd h214 ⟨by decide, by decide⟩ (iv_c (c := 0) (n := 0) (by decide)) (rg_0 ⟨rfl, rfl⟩) (jl := 0) (jh := 225) ⟨by decide, by decide⟩ rfl dX12_council_87 (fun H locs M218 hS k216 f217 => ?_)
                refine tw_iinc (lv' := fun x221 => [(2, .int x221), (1, .int x21), (0, .ref (base + a0))]) (lo := 1) (hi := 226) hx hb dX12_council_88 hl (k := 0) rfl h214 (by decide) ⟨by decide, by decide⟩ ⟨by decide, by decide⟩ (by decide) (fun _ => rfl) (fun x221 ls e220 h219 hl => ?_)
                refine lv_goto (tgt := 74) hx hb dX12_council_91 (by decide) ?_
                have k223 : R65 a0 3 = some sg := (Fr.kp (k := 3) g68 hk_a0 rfl).trans k_sg
                have k224 : R65 a0 5 = some cl := (Fr.kp (k := 5) g68 hk_a0 rfl).trans k_cl
                have k225 : R65 a0 6 = some cs := (Fr.kp (k := 6) g68 hk_a0 rfl).trans k_cs
                have w222 : Codes M218 R65 a0 := (Codes.fr2 w0_64 k223 k224 k225 hk_sg hk_cl hk_cs hk_a0 f217 rfl)
                have hm226 : 226 - x221.toInt < (n_64 : Int) := by
                  have := (h_e6).1; have := (h_e6).2; have := (h219).1; have := (h219).2; have := (h214).1; have := (h214).2; omega
                exact ih_64 x221 M218 R65 J66 H locs _ (iv_mono h219 (by decide) (by decide)) w222 hm226 hS hl
          have k228 : R15 a0 3 = some sg := (Fr.kp (k := 3) g18 hk_a0 rfl).trans k_sg
          have k229 : R15 a0 5 = some cl := (Fr.kp (k := 5) g18 hk_a0 rfl).trans k_cl
          have k230 : R15 a0 6 = some cs := (Fr.kp (k := 6) g18 hk_a0 rfl).trans k_cs
          have w227 : Codes M48 R15 a0 := z53
          have hm231 : 226 - (0 : Int32).toInt < (((227 : Nat) : Int) : Int) := by
            have := (h_e6).1; have := (h_e6).2; have : (0 : Int32).toInt = 0 := (by decide); omega
          exact W74_64 227 0 M48 R15 J47 H locs _ (iv_mono (iv_c (c := 0) (n := 0) (by decide)) (by decide) (by decide)) w227 hm231 hS hl
        · have q232 : x51.toInt = 0 := ti_eq c58
          have h233 : iv 0 0 x51 := ⟨by have := (h_x51).1; have := ((iv_c (c := 0) (n := 0) (by decide))).1; omega, by have := (h_x51).2; have := ((iv_c (c := 0) (n := 0) (by decide))).2; omega⟩
          refine lv_bipush (v := (-2)) hx hb dX12_council_56 (by decide) ?_
          refine lv_aload_n hx hb dX12_council_58 rfl (lv_at hl 1 rfl) ?_
          refine tw_geti hx hb hW hown hK hS f_X12_124_11 hz_a0 hk_a0 (lo := (-2147483648)) (hi := 2147483647) rfl dX12_council_59 (fun x236 k235 h234 => ?_)
          refine lv_isub hx hb dX12_council_62 ?_
          refine tw_top (fun x238 => ?_)
          have h237 := iv_any x238
          have k239 : R15 a0 3 = some sg := (Fr.kp (k := 3) g18 hk_a0 rfl).trans k_sg
          have k240 : R15 a0 5 = some cl := (Fr.kp (k := 5) g18 hk_a0 rfl).trans k_cl
          have k241 : R15 a0 6 = some cs := (Fr.kp (k := 6) g18 hk_a0 rfl).trans k_cs
          have k242 : M48 sd (6 : Int32).toNatClampNeg = x21 := (Fr.kp (k := (6 : Int32).toNatClampNeg) f45 hk_sd rfl).trans k22
          exact tw_endi hx hb hr hlocks hK hT hS hQ (⟨h237, z53, (k242.trans (Int32.toInt_inj.mp (by omega)))⟩) dX12_council_63
      · have q243 : x13.toInt < 10 := ti_nle c23
        have h244 : iv 0 9 x13 := iv_ltL (y := 10) h_x13 (iv_c (c := 10) (n := 10) (by decide)) q243 (by decide)
        refine lv_aload_n hx hb dX12_council_29 rfl (lv_at hl 1 rfl) ?_
        refine tw_getr hx hb hW hown hK hS f_X12_29_11 hz_a0 hk_a0 (t := 35) (n := 10) rfl dX12_council_30 (fun b245 k246 hz_b245 hk_b245 hn_b245 => ?_)
        have hn_b245 := hn_b245 (by decide)
        refine lv_iload_n hx hb dX12_council_33 rfl (lv_at hl 0 rfl) ?_
        refine lv_iconst (v := 1) hx hb dX12_council_34 (by decide) ?_
        refine tw_iast hx hb hK hS hz_b245 hk_b245 (Or.inr (by decide)) hn_b245 h244 ⟨by decide, by decide⟩ (iv_c (c := 1) (n := 1) (by decide)) (rg_s35 ⟨by decide, by decide⟩) (jl := 0) (jh := 1999999) ⟨by decide, by decide⟩ rfl dX12_council_35 (fun H locs M249 hS k247 f248 => ?_)
        refine lv_aload_n hx hb dX12_council_36 rfl (lv_at hl 1 rfl) ?_
        refine tw_getr hx hb hW hown hK hS f_X12_32_11 hz_a0 hk_a0 (t := 14) (n := 10) rfl dX12_council_37 (fun b250 k251 hz_b250 hk_b250 hn_b250 => ?_)
        have hn_b250 := hn_b250 (by decide)
        refine lv_iload_n hx hb dX12_council_40 rfl (lv_at hl 0 rfl) ?_
        refine lv_iconst (v := (-1)) hx hb dX12_council_41 (by decide) ?_
        refine tw_iast hx hb hK hS hz_b250 hk_b250 (Or.inl rfl) hn_b250 h244 ⟨by decide, by decide⟩ (iv_c (c := (-1)) (n := (-1)) (by decide)) (rg_s14 ⟨by decide, by decide⟩) (jl := 0) (jh := 1999999) ⟨by decide, by decide⟩ rfl dX12_council_42 (fun H locs M254 hS k252 f253 => ?_)
        refine tw_iinc (lv' := fun x257 => [(1, .int x257), (0, .ref (base + a0))]) (lo := 1) (hi := 10) hx hb dX12_council_43 hl (k := 0) rfl h244 (by decide) ⟨by decide, by decide⟩ ⟨by decide, by decide⟩ (by decide) (fun _ => rfl) (fun x257 ls e256 h255 hl => ?_)
        refine lv_goto (tgt := 23) hx hb dX12_council_46 (by decide) ?_
        have k258 : M254 a0 16 = x19 := ((Fr.kp (k := 16) f253 hk_a0 rfl).trans (Fr.kp (k := 16) f248 hk_a0 rfl)).trans k20
        have k259 : M254 sd (6 : Int32).toNatClampNeg = x21 := ((Fr.kp (k := (6 : Int32).toNatClampNeg) f253 hk_sd rfl).trans (Fr.kp (k := (6 : Int32).toNatClampNeg) f248 hk_sd rfl)).trans k22
        have w260 : ∀ j, M254 sg j = Ma sg j := (fun j => ((Fr.kpa f253 hk_sg rfl j).trans ((Fr.kpa f248 hk_sg rfl j).trans (w0_14 j))))
        have w261 : ∀ j, M254 cl j = Ma cl j := (fun j => ((Fr.kpa f253 hk_cl rfl j).trans ((Fr.kpa f248 hk_cl rfl j).trans (w1_14 j))))
        have w262 : ∀ j, M254 cs j = Ma cs j := (fun j => ((Fr.kpa f253 hk_cs rfl j).trans ((Fr.kpa f248 hk_cs rfl j).trans (w2_14 j))))
        have w263 : M254 a0 2 = Ma a0 2 := ((Fr.kp (k := 2) f253 hk_a0 rfl).trans ((Fr.kp (k := 2) f248 hk_a0 rfl).trans w3_14))
        have w264 : x21.toInt = e6.toInt := by
          have := (h_e6).1; have := (h_e6).2; have := (h_x21).1; have := (h_x21).2; omega
        have hm265 : 10 - x257.toInt < (n_14 : Int) := by
          have := (h_e6).1; have := (h_e6).2; have := (h244).1; have := (h244).2; have := (h255).1; have := (h255).2; omega
        exact ih_14 x257 x19 x21 M254 R15 J16 H locs _ (iv_mono h255 (by decide) (by decide)) h_x19 k258 h_x21 k259 w260 w261 w262 w263 w264 hm265 hS hl
  have k266 : M12 a0 16 = 6 := ((Fr.kp (k := 16) f11 hk_a0 rfl).trans ((Fr.kp (k := 16) f8 hk_a0 rfl).trans (Fr.kp (k := 16) f5 hk_a0 rfl))).trans k1
  have k267 : M12 sd (6 : Int32).toNatClampNeg = e6 := ((Fr.kp (k := (6 : Int32).toNatClampNeg) f11 hk_sd rfl).trans ((Fr.kp (k := (6 : Int32).toNatClampNeg) f8 hk_sd rfl).trans ((Fr.kp (k := (6 : Int32).toNatClampNeg) f5 hk_sd rfl).trans (Fr.kp (k := (6 : Int32).toNatClampNeg) f2 hk_sd rfl)))).trans k_e6
  have w268 : ∀ j, M12 sg j = Ma sg j := (fun j => ((Fr.kpa f11 hk_sg rfl j).trans ((Fr.kpa f8 hk_sg rfl j).trans ((Fr.kpa f5 hk_sg rfl j).trans (Fr.kpa f2 hk_sg rfl j)))))
  have w269 : ∀ j, M12 cl j = Ma cl j := (fun j => ((Fr.kpa f11 hk_cl rfl j).trans ((Fr.kpa f8 hk_cl rfl j).trans ((Fr.kpa f5 hk_cl rfl j).trans (Fr.kpa f2 hk_cl rfl j)))))
  have w270 : ∀ j, M12 cs j = Ma cs j := (fun j => ((Fr.kpa f11 hk_cs rfl j).trans ((Fr.kpa f8 hk_cs rfl j).trans ((Fr.kpa f5 hk_cs rfl j).trans (Fr.kpa f2 hk_cs rfl j)))))
  have w271 : M12 a0 2 = Ma a0 2 := ((Fr.kp (k := 2) f11 hk_a0 rfl).trans ((Fr.kp (k := 2) f8 hk_a0 rfl).trans ((Fr.kp (k := 2) f5 hk_a0 rfl).trans (Fr.kp (k := 2) f2 hk_a0 rfl))))
  have w272 : e6.toInt = e6.toInt := by
    have := (h_e6).1; have := (h_e6).2; omega
  have hm273 : 10 - (0 : Int32).toInt < (((11 : Nat) : Int) : Int) := by
    have := (h_e6).1; have := (h_e6).2; have : (0 : Int32).toInt = 0 := (by decide); omega
  exact W23_14 11 0 6 e6 M12 Ra Ja H locs _ (iv_mono (iv_c (c := 0) (n := 0) (by decide)) (by decide) (by decide)) (iv_c (c := 6) (n := 6) (by decide)) k266 h_e6 k267 w268 w269 w270 w271 w272 hm273 hS hl
def Lt_X12_count : WL := []
def LRt_X12_count : WL := []
set_option maxRecDepth 100000 in
set_option maxHeartbeats 4000000 in
theorem t_X12_count (l : Launch) (D : va_G) (cy : Nat → ClassId) (tx : (Nat → Nat) × (Nat → Nat)) (base Z : Nat) (K N : Nat → Nat) (Ma : MT) (Ra : RT) (Ja : JT) (hTy : Ty Z K N Ma Ra) (a0 : Nat) (hz_a0 : a0 < Z) (hk_a0 : K a0 = 12) (a1 : Int32) (h_a1 : iv (-2147483648) 2147483647 a1) : Met l yX12_count [Cond.code yX12_count cX12_count 4 (some .int)] (md_rm 2 0 0) (va_Pc [.ref (base + a0), .int a1] (md_U D cy tx base Z K N Ma Ra Ja)) (mQi D cy tx base (fun r u => TP Z K N Lt_X12_count LRt_X12_count Ma Ra u ∧ (iv (-2147483648) 2147483647 r))) 0 0 (fun q => base ≤ q) := by
  refine tw_ofW (L := Lt_X12_count) (LR := LRt_X12_count) (by decide) (Nat.le_of_ble_eq_true rfl) hTy ?_
  intro p e s m args below meth c Q ls hx hb hr hlocks hown hml hW hK hT hS hQ hl
  have hl : lv_has ls 4 [(0, .ref (base + a0)), (1, .int a1)] := hl
  refine lv_iconst (v := 0) hx hb dX12_count_0 (by decide) ?_
  refine lv_istore_n (lv' := [(2, .int 0), (0, .ref (base + a0)), (1, .int a1)]) hx hb dX12_count_1 rfl hl (by decide) rfl (fun ls hl => ?_)
  refine lv_iload_n hx hb dX12_count_2 rfl (lv_at hl 2 rfl) ?_
  by_cases c1 : a1 = 0
  · subst c1
    refine lv_tableIn (off := 61) (tgt := 64) hx hb dX12_count_3 (by decide) (by decide) rfl (by decide) ?_
    refine lv_aload_n hx hb dX12_count_64 rfl (lv_at hl 1 rfl) ?_
    refine tw_getr hx hb hW hown hK hS f_X12_45_11 hz_a0 hk_a0 (t := 23) (n := 226) rfl dX12_count_65 (fun b2 k3 hz_b2 hk_b2 hn_b2 => ?_)
    have hn_b2 := hn_b2 (by decide)
    refine lv_iload_n hx hb dX12_count_68 rfl (lv_at hl 2 rfl) ?_
    refine tw_iald hx hb hK hS hz_b2 hk_b2 (Or.inr (by decide)) hn_b2 (lo := 0) (hi := 10) (iv_c (c := 0) (n := 0) (by decide)) ⟨by decide, by decide⟩ (rg_c (k0 := 0) rfl rfl rfl) dX12_count_69 (fun x6 k5 h4 => ?_)
    exact tw_endi hx hb hr hlocks hK hT hS hQ ((iv_mono h4 (by decide) (by decide))) dX12_count_70
  have q7 : ¬ a1.toInt = 0 := ti_ne c1
  by_cases c8 : a1 = 1
  · subst c8
    refine lv_tableIn (off := 61) (tgt := 64) hx hb dX12_count_3 (by decide) (by decide) rfl (by decide) ?_
    refine lv_aload_n hx hb dX12_count_64 rfl (lv_at hl 1 rfl) ?_
    refine tw_getr hx hb hW hown hK hS f_X12_45_11 hz_a0 hk_a0 (t := 23) (n := 226) rfl dX12_count_65 (fun b9 k10 hz_b9 hk_b9 hn_b9 => ?_)
    have hn_b9 := hn_b9 (by decide)
    refine lv_iload_n hx hb dX12_count_68 rfl (lv_at hl 2 rfl) ?_
    refine tw_iald hx hb hK hS hz_b9 hk_b9 (Or.inr (by decide)) hn_b9 (lo := 0) (hi := 12) (iv_c (c := 1) (n := 1) (by decide)) ⟨by decide, by decide⟩ (rg_c (k0 := 1) rfl rfl rfl) dX12_count_69 (fun x13 k12 h11 => ?_)
    exact tw_endi hx hb hr hlocks hK hT hS hQ ((iv_mono h11 (by decide) (by decide))) dX12_count_70
  have q14 : ¬ a1.toInt = 1 := ti_ne c8
  by_cases c15 : a1 = 2
  · subst c15
    refine lv_tableIn (off := 68) (tgt := 71) hx hb dX12_count_3 (by decide) (by decide) rfl (by decide) ?_
    refine lv_aload_n hx hb dX12_count_71 rfl (lv_at hl 1 rfl) ?_
    refine tw_geti hx hb hW hown hK hS f_X12_298_11 hz_a0 hk_a0 (lo := 0) (hi := 6) rfl dX12_count_72 (fun x18 k17 h16 => ?_)
    exact tw_endi hx hb hr hlocks hK hT hS hQ ((iv_mono h16 (by decide) (by decide))) dX12_count_75
  have q19 : ¬ a1.toInt = 2 := ti_ne c15
  by_cases c20 : a1 = 3
  · subst c20
    refine lv_tableIn (off := 73) (tgt := 76) hx hb dX12_count_3 (by decide) (by decide) rfl (by decide) ?_
    refine lv_aload_n hx hb dX12_count_76 rfl (lv_at hl 1 rfl) ?_
    refine tw_getr hx hb hW hown hK hS f_X12_45_11 hz_a0 hk_a0 (t := 23) (n := 226) rfl dX12_count_77 (fun b21 k22 hz_b21 hk_b21 hn_b21 => ?_)
    have hn_b21 := hn_b21 (by decide)
    refine lv_iconst (v := 2) hx hb dX12_count_80 (by decide) ?_
    refine tw_iald hx hb hK hS hz_b21 hk_b21 (Or.inr (by decide)) hn_b21 (lo := (-2147483648)) (hi := 2147483647) (iv_c (c := 2) (n := 2) (by decide)) ⟨by decide, by decide⟩ (rg_c (k0 := 2) rfl rfl rfl) dX12_count_81 (fun x25 k24 h23 => ?_)
    refine tw_goi hS (md_runS (As := [.int x25]) (rest := []) hx hb hml hown hW hK hT hS.1 (t_X12_bits l D cy tx base Z K N Ma Ra Ja hS.2.1 x25 h23) s_X12_341 ⟨rfl, rfl, ⟨Nat.le_of_ble_eq_true rfl, Nat.le_of_ble_eq_true rfl⟩, ⟨Nat.le_of_ble_eq_true rfl, Nat.le_of_ble_eq_true rfl⟩⟩ rfl hl.1 rfl (Nat.le_of_ble_eq_true rfl) dX12_count_82) rfl rfl (fun x32 H locs M29 R30 J28 hS f26 g27 E31 => ?_)
    have eM29 := Fr.nil f26 rfl
    subst eM29
    have eR30 := Fr.nil g27 rfl
    subst eR30
    obtain ⟨h_x32, p33⟩ := E31
    exact tw_endi hx hb hr hlocks hK hT hS hQ (h_x32) dX12_count_85
  have q34 : ¬ a1.toInt = 3 := ti_ne c20
  by_cases c35 : a1 = 4
  · subst c35
    refine lv_tableIn (off := 83) (tgt := 86) hx hb dX12_count_3 (by decide) (by decide) rfl (by decide) ?_
    refine lv_iconst (v := 0) hx hb dX12_count_86 (by decide) ?_
    refine lv_istore_n (lv' := [(3, .int 0), (2, .int 0), (0, .ref (base + a0)), (1, .int 4)]) hx hb dX12_count_87 rfl hl (by decide) rfl (fun ls hl => ?_)
    have W88_38 : ∀ (n_38 : Nat) (x36 : Int32) (x37 : Int32) (M38 : MT) (R39 : RT) (J40 : JT) (H : Heap) (locs : List Loc) (ls : Array Slot) (h_x36 : iv (-2147483648) 2147483647 x36) (h_x37 : iv 0 10 x37) (hm_38 : 10 - x37.toInt < (n_38 : Int)) (hS : SB D cy base Z K N Lt_X12_count LRt_X12_count Ma Ra M38 R39 J40 s H locs) (hl : lv_has ls 4 [(2, .int x36), (3, .int x37), (0, .ref (base + a0)), (1, .int 4)]), W p l e (md_rm 2 0 0) s m args below meth c H locs 0 0 Q (F0 m 88 ls []) := by
      intro n_38
      induction n_38 with
      | zero =>
        intro x36 x37 M38 R39 J40 H locs ls h_x36 h_x37 hm_38 hS hl
        exfalso
        have := (h_x37).1; have := (h_x37).2; omega
      | succ n_38 ih_38 =>
        intro x36 x37 M38 R39 J40 H locs ls h_x36 h_x37 hm_38 hS hl
        have f41 := hS.2.2.1
        have g42 := hS.2.2.2
        refine lv_iload_n hx hb dX12_count_88 rfl (lv_at hl 1 rfl) ?_
        refine lv_aload_n hx hb dX12_count_89 rfl (lv_at hl 2 rfl) ?_
        refine tw_getr hx hb hW hown hK hS f_X12_45_11 hz_a0 hk_a0 (t := 23) (n := 226) rfl dX12_count_90 (fun b43 k44 hz_b43 hk_b43 hn_b43 => ?_)
        have hn_b43 := hn_b43 (by decide)
        refine lv_iconst (v := 0) hx hb dX12_count_93 (by decide) ?_
        refine tw_iald hx hb hK hS hz_b43 hk_b43 (Or.inr (by decide)) hn_b43 (lo := 0) (hi := 10) (iv_c (c := 0) (n := 0) (by decide)) ⟨by decide, by decide⟩ (rg_c (k0 := 0) rfl rfl rfl) dX12_count_94 (fun x47 k46 h45 => ?_)
        refine lv_icmp_ge (tgt := 133) hx hb dX12_count_95 (by decide) (fun c48 => ?_) (fun c48 => ?_)
        · have q49 : x47.toInt ≤ x37.toInt := ti_le c48
          refine lv_iload_n hx hb dX12_count_133 rfl (lv_at hl 0 rfl) ?_
          exact tw_endi hx hb hr hlocks hK hT hS hQ (h_x36) dX12_count_134
        · have q50 : x37.toInt < x47.toInt := ti_nle c48
          have h51 : iv 0 9 x37 := iv_ltL (y := x47) h_x37 h45 q50 (by decide)
          have h52 : iv 1 10 x47 := iv_gtL (y := x37) h45 h_x37 q50 (by decide)
          refine lv_iload_n hx hb dX12_count_98 rfl (lv_at hl 0 rfl) ?_
          refine lv_aload_n hx hb dX12_count_99 rfl (lv_at hl 2 rfl) ?_
          refine tw_getrk hx hb hW hown hK hS f_X12_45_11 hz_a0 hk_a0 (b := b43) k44 dX12_count_100 ?_
          refine lv_iconst (v := 2) hx hb dX12_count_103 (by decide) ?_
          refine tw_iald hx hb hK hS hz_b43 hk_b43 (Or.inr (by decide)) hn_b43 (lo := (-2147483648)) (hi := 2147483647) (iv_c (c := 2) (n := 2) (by decide)) ⟨by decide, by decide⟩ (rg_c (k0 := 2) rfl rfl rfl) dX12_count_104 (fun x55 k54 h53 => ?_)
          refine lv_iload_n hx hb dX12_count_105 rfl (lv_at hl 1 rfl) ?_
          refine tw_goi hS (md_runS (As := [.int x55, .int x37]) (rest := [.int x36]) hx hb hml hown hW hK hT hS.1 (t_X12_isOf l D cy tx base Z K N M38 R39 J40 hS.2.1 x55 h53 x37 h51) s_X12_322 ⟨rfl, rfl, ⟨Nat.le_of_ble_eq_true rfl, Nat.le_of_ble_eq_true rfl⟩, ⟨Nat.le_of_ble_eq_true rfl, Nat.le_of_ble_eq_true rfl⟩⟩ rfl hl.1 rfl (Nat.le_of_ble_eq_true rfl) dX12_count_106) rfl rfl (fun x62 H locs M59 R60 J58 hS f56 g57 E61 => ?_)
          have eM59 := Fr.nil f56 rfl
          subst eM59
          have eR60 := Fr.nil g57 rfl
          subst eR60
          have h_x62 := E61
          clear E61
          refine lv_if_eq (tgt := 124) hx hb dX12_count_109 (by decide) (fun c63 => ?_) (fun c63 => ?_)
          · have q64 : x62.toInt = 0 := ti_eq c63
            have h65 : iv 0 0 x62 := ⟨by have := (h_x62).1; have := ((iv_c (c := 0) (n := 0) (by decide))).1; omega, by have := (h_x62).2; have := ((iv_c (c := 0) (n := 0) (by decide))).2; omega⟩
            refine lv_iconst (v := 0) hx hb dX12_count_124 (by decide) ?_
            refine tw_iadd (lo := (-2147483648)) (hi := 2147483647) hx hb h_x36 (iv_c (c := 0) (n := 0) (by decide)) ⟨by decide, by decide⟩ ⟨by decide, by decide⟩ dX12_count_125 (fun x68 e67 h66 => ?_)
            have e67 : x68.toInt = x36.toInt + 0 := e67
            refine lv_istore_n (lv' := [(2, .int x68), (3, .int x37), (0, .ref (base + a0)), (1, .int 4)]) hx hb dX12_count_126 rfl hl (by decide) rfl (fun ls hl => ?_)
            refine tw_iinc (lv' := fun x71 => [(3, .int x71), (2, .int x68), (0, .ref (base + a0)), (1, .int 4)]) (lo := 1) (hi := 10) hx hb dX12_count_127 hl (k := 1) rfl h51 (by decide) ⟨by decide, by decide⟩ ⟨by decide, by decide⟩ (by decide) (fun _ => rfl) (fun x71 ls e70 h69 hl => ?_)
            refine lv_goto (tgt := 88) hx hb dX12_count_130 (by decide) ?_
            have hm72 : 10 - x71.toInt < (n_38 : Int) := by
              have := (h51).1; have := (h51).2; have := (h69).1; have := (h69).2; omega
            exact ih_38 x68 x71 M38 R39 J58 H locs _ h66 (iv_mono h69 (by decide) (by decide)) hm72 hS (lv_sub hl [1, 0, 2, 3] rfl)
          · have q73 : ¬ x62.toInt = 0 := ti_ne c63
            have h74 : iv 1 1 x62 := ⟨by have := (h_x62).1; have := ((iv_c (c := 0) (n := 0) (by decide))).1; have := ((iv_c (c := 0) (n := 0) (by decide))).2; omega, by have := (h_x62).2; have := ((iv_c (c := 0) (n := 0) (by decide))).1; have := ((iv_c (c := 0) (n := 0) (by decide))).2; omega⟩
            refine lv_aload_n hx hb dX12_count_112 rfl (lv_at hl 2 rfl) ?_
            refine tw_getrk hx hb hW hown hK hS f_X12_45_11 hz_a0 hk_a0 (b := b43) k44 dX12_count_113 ?_
            refine lv_bipush (v := 10) hx hb dX12_count_116 (by decide) ?_
            refine lv_iload_n hx hb dX12_count_118 rfl (lv_at hl 1 rfl) ?_
            refine tw_iadd (lo := 10) (hi := 19) hx hb (iv_c (c := 10) (n := 10) (by decide)) h51 ⟨by decide, by decide⟩ ⟨by decide, by decide⟩ dX12_count_119 (fun x77 e76 h75 => ?_)
            have e76 : x77.toInt = 10 + x37.toInt := e76
            refine tw_iald hx hb hK hS hz_b43 hk_b43 (Or.inr (by decide)) hn_b43 (lo := 0) (hi := 9999) h75 ⟨by decide, by decide⟩ (rg_sv ⟨by decide, by decide⟩) dX12_count_120 (fun x80 k79 h78 => ?_)
            refine lv_goto (tgt := 125) hx hb dX12_count_121 (by decide) ?_
            refine lv_iadd hx hb dX12_count_125 ?_
            refine tw_top (fun x82 => ?_)
            have h81 := iv_any x82
            refine lv_istore_n (lv' := [(2, .int x82), (3, .int x37), (0, .ref (base + a0)), (1, .int 4)]) hx hb dX12_count_126 rfl hl (by decide) rfl (fun ls hl => ?_)
            refine tw_iinc (lv' := fun x85 => [(3, .int x85), (2, .int x82), (0, .ref (base + a0)), (1, .int 4)]) (lo := 1) (hi := 10) hx hb dX12_count_127 hl (k := 1) rfl h51 (by decide) ⟨by decide, by decide⟩ ⟨by decide, by decide⟩ (by decide) (fun _ => rfl) (fun x85 ls e84 h83 hl => ?_)
            refine lv_goto (tgt := 88) hx hb dX12_count_130 (by decide) ?_
            have hm86 : 10 - x85.toInt < (n_38 : Int) := by
              have := (h51).1; have := (h51).2; have := (h75).1; have := (h75).2; have := (h83).1; have := (h83).2; omega
            exact ih_38 x82 x85 M38 R39 J58 H locs _ h81 (iv_mono h83 (by decide) (by decide)) hm86 hS (lv_sub hl [1, 0, 2, 3] rfl)
    have hm87 : 10 - (0 : Int32).toInt < (((11 : Nat) : Int) : Int) := by
      have : (0 : Int32).toInt = 0 := (by decide); omega
    exact W88_38 11 0 0 Ma Ra Ja s.heap [] _ (iv_mono (iv_c (c := 0) (n := 0) (by decide)) (by decide) (by decide)) (iv_mono (iv_c (c := 0) (n := 0) (by decide)) (by decide) (by decide)) hm87 hS (lv_sub hl [1, 0, 2, 3] rfl)
  have q88 : ¬ a1.toInt = 4 := ti_ne c35
  by_cases c89 : a1 = 5
  · subst c89
    refine lv_tableIn (off := 132) (tgt := 135) hx hb dX12_count_3 (by decide) (by decide) rfl (by decide) ?_
    refine lv_aload_n hx hb dX12_count_135 rfl (lv_at hl 1 rfl) ?_
    refine tw_getr hx hb hW hown hK hS f_X12_45_11 hz_a0 hk_a0 (t := 23) (n := 226) rfl dX12_count_136 (fun b90 k91 hz_b90 hk_b90 hn_b90 => ?_)
    have hn_b90 := hn_b90 (by decide)
    refine lv_iconst (v := 3) hx hb dX12_count_139 (by decide) ?_
    refine tw_iald hx hb hK hS hz_b90 hk_b90 (Or.inr (by decide)) hn_b90 (lo := (-2147483648)) (hi := 2147483647) (iv_c (c := 3) (n := 3) (by decide)) ⟨by decide, by decide⟩ (rg_c (k0 := 3) rfl rfl rfl) dX12_count_140 (fun x94 k93 h92 => ?_)
    exact tw_endi hx hb hr hlocks hK hT hS hQ (h92) dX12_count_141
  have q95 : ¬ a1.toInt = 5 := ti_ne c89
  by_cases c96 : a1 = 6
  · subst c96
    refine lv_tableIn (off := 139) (tgt := 142) hx hb dX12_count_3 (by decide) (by decide) rfl (by decide) ?_
    refine lv_aload_n hx hb dX12_count_142 rfl (lv_at hl 1 rfl) ?_
    refine tw_getr hx hb hW hown hK hS f_X12_45_11 hz_a0 hk_a0 (t := 23) (n := 226) rfl dX12_count_143 (fun b97 k98 hz_b97 hk_b97 hn_b97 => ?_)
    have hn_b97 := hn_b97 (by decide)
    refine lv_iconst (v := 4) hx hb dX12_count_146 (by decide) ?_
    refine tw_iald hx hb hK hS hz_b97 hk_b97 (Or.inr (by decide)) hn_b97 (lo := 0) (hi := 8) (iv_c (c := 4) (n := 4) (by decide)) ⟨by decide, by decide⟩ (rg_c (k0 := 4) rfl rfl rfl) dX12_count_147 (fun x101 k100 h99 => ?_)
    exact tw_endi hx hb hr hlocks hK hT hS hQ ((iv_mono h99 (by decide) (by decide))) dX12_count_148
  have q102 : ¬ a1.toInt = 6 := ti_ne c96
  by_cases c103 : a1 = 7
  · subst c103
    refine lv_tableIn (off := 146) (tgt := 149) hx hb dX12_count_3 (by decide) (by decide) rfl (by decide) ?_
    refine lv_aload_n hx hb dX12_count_149 rfl (lv_at hl 1 rfl) ?_
    refine tw_getr hx hb hW hown hK hS f_X12_45_11 hz_a0 hk_a0 (t := 23) (n := 226) rfl dX12_count_150 (fun b104 k105 hz_b104 hk_b104 hn_b104 => ?_)
    have hn_b104 := hn_b104 (by decide)
    refine lv_iconst (v := 5) hx hb dX12_count_153 (by decide) ?_
    refine tw_iald hx hb hK hS hz_b104 hk_b104 (Or.inr (by decide)) hn_b104 (lo := 0) (hi := 12) (iv_c (c := 5) (n := 5) (by decide)) ⟨by decide, by decide⟩ (rg_c (k0 := 5) rfl rfl rfl) dX12_count_154 (fun x108 k107 h106 => ?_)
    exact tw_endi hx hb hr hlocks hK hT hS hQ ((iv_mono h106 (by decide) (by decide))) dX12_count_155
  have q109 : ¬ a1.toInt = 7 := ti_ne c103
  by_cases c110 : a1 = 8
  · subst c110
    refine lv_tableIn (off := 153) (tgt := 156) hx hb dX12_count_3 (by decide) (by decide) rfl (by decide) ?_
    refine lv_aload_n hx hb dX12_count_156 rfl (lv_at hl 1 rfl) ?_
    refine tw_getr hx hb hW hown hK hS f_X12_45_11 hz_a0 hk_a0 (t := 23) (n := 226) rfl dX12_count_157 (fun b111 k112 hz_b111 hk_b111 hn_b111 => ?_)
    have hn_b111 := hn_b111 (by decide)
    refine lv_bipush (v := 6) hx hb dX12_count_160 (by decide) ?_
    refine tw_iald hx hb hK hS hz_b111 hk_b111 (Or.inr (by decide)) hn_b111 (lo := 0) (hi := 2147483647) (iv_c (c := 6) (n := 6) (by decide)) ⟨by decide, by decide⟩ (rg_c (k0 := 6) rfl rfl rfl) dX12_count_162 (fun x115 k114 h113 => ?_)
    exact tw_endi hx hb hr hlocks hK hT hS hQ ((iv_mono h113 (by decide) (by decide))) dX12_count_163
  have q116 : ¬ a1.toInt = 8 := ti_ne c110
  by_cases c117 : a1 = 9
  · subst c117
    refine lv_tableIn (off := 161) (tgt := 164) hx hb dX12_count_3 (by decide) (by decide) rfl (by decide) ?_
    refine lv_aload_n hx hb dX12_count_164 rfl (lv_at hl 1 rfl) ?_
    refine tw_geti hx hb hW hown hK hS f_X12_116_11 hz_a0 hk_a0 (lo := 0) (hi := 400) rfl dX12_count_165 (fun x120 k119 h118 => ?_)
    exact tw_endi hx hb hr hlocks hK hT hS hQ ((iv_mono h118 (by decide) (by decide))) dX12_count_168
  have q121 : ¬ a1.toInt = 9 := ti_ne c117
  by_cases c122 : a1 = 10
  · subst c122
    refine lv_tableIn (off := 166) (tgt := 169) hx hb dX12_count_3 (by decide) (by decide) rfl (by decide) ?_
    refine lv_aload_n hx hb dX12_count_169 rfl (lv_at hl 1 rfl) ?_
    refine tw_getr hx hb hW hown hK hS f_X12_45_11 hz_a0 hk_a0 (t := 23) (n := 226) rfl dX12_count_170 (fun b123 k124 hz_b123 hk_b123 hn_b123 => ?_)
    have hn_b123 := hn_b123 (by decide)
    refine lv_iload_n hx hb dX12_count_173 rfl (lv_at hl 2 rfl) ?_
    refine lv_iconst (v := 3) hx hb dX12_count_174 (by decide) ?_
    refine lv_isub hx hb dX12_count_175 ?_
    refine md_top (y := 7) (by decide) ?_
    refine tw_iald hx hb hK hS hz_b123 hk_b123 (Or.inr (by decide)) hn_b123 (lo := (-2147483648)) (hi := 2147483647) (iv_c (c := 7) (n := 7) (by decide)) ⟨by decide, by decide⟩ (rg_c (k0 := 7) rfl rfl rfl) dX12_count_176 (fun x127 k126 h125 => ?_)
    exact tw_endi hx hb hr hlocks hK hT hS hQ (h125) dX12_count_177
  have q128 : ¬ a1.toInt = 10 := ti_ne c122
  by_cases c129 : a1 = 11
  · subst c129
    refine lv_tableIn (off := 166) (tgt := 169) hx hb dX12_count_3 (by decide) (by decide) rfl (by decide) ?_
    refine lv_aload_n hx hb dX12_count_169 rfl (lv_at hl 1 rfl) ?_
    refine tw_getr hx hb hW hown hK hS f_X12_45_11 hz_a0 hk_a0 (t := 23) (n := 226) rfl dX12_count_170 (fun b130 k131 hz_b130 hk_b130 hn_b130 => ?_)
    have hn_b130 := hn_b130 (by decide)
    refine lv_iload_n hx hb dX12_count_173 rfl (lv_at hl 2 rfl) ?_
    refine lv_iconst (v := 3) hx hb dX12_count_174 (by decide) ?_
    refine lv_isub hx hb dX12_count_175 ?_
    refine md_top (y := 8) (by decide) ?_
    refine tw_iald hx hb hK hS hz_b130 hk_b130 (Or.inr (by decide)) hn_b130 (lo := 0) (hi := 9999) (iv_c (c := 8) (n := 8) (by decide)) ⟨by decide, by decide⟩ (rg_c (k0 := 8) rfl rfl rfl) dX12_count_176 (fun x134 k133 h132 => ?_)
    exact tw_endi hx hb hr hlocks hK hT hS hQ ((iv_mono h132 (by decide) (by decide))) dX12_count_177
  have q135 : ¬ a1.toInt = 11 := ti_ne c129
  refine lv_tableOut (tgt := 178) hx hb dX12_count_3 (by have := (h_a1).1; have := (h_a1).2; omega) (by decide) ?_
  refine lv_iconst (v := (-1)) hx hb dX12_count_178 (by decide) ?_
  exact tw_endi hx hb hr hlocks hK hT hS hQ ((iv_mono (iv_c (c := (-1)) (n := (-1)) (by decide)) (by decide) (by decide))) dX12_count_179
def Lt_X12_figures : WL := []
def LRt_X12_figures : WL := []
set_option maxRecDepth 100000 in
set_option maxHeartbeats 4000000 in
theorem t_X12_figures (l : Launch) (D : va_G) (cy : Nat → ClassId) (tx : (Nat → Nat) × (Nat → Nat)) (base Z : Nat) (K N : Nat → Nat) (Ma : MT) (Ra : RT) (Ja : JT) (hTy : Ty Z K N Ma Ra) (a0 : Nat) (hz_a0 : a0 < Z) (hk_a0 : K a0 = 12) (a1 : Int32) (h_a1 : iv (-2147483648) 2147483647 a1) : Met l yX12_figures [Cond.code yX12_figures cX12_figures 2 (some .int)] (md_rm 2 0 0) (va_Pc [.ref (base + a0), .int a1] (md_U D cy tx base Z K N Ma Ra Ja)) (mQi D cy tx base (fun r u => TP Z K N Lt_X12_figures LRt_X12_figures Ma Ra u ∧ (iv 3 27 r ∧ r.toInt = figG a1))) 0 0 (fun q => base ≤ q) := by
  refine tw_ofW (L := Lt_X12_figures) (LR := LRt_X12_figures) (by decide) (Nat.le_of_ble_eq_true rfl) hTy ?_
  intro p e s m args below meth c Q ls hx hb hr hlocks hown hml hW hK hT hS hQ hl
  have hl : lv_has ls 2 [(0, .ref (base + a0)), (1, .int a1)] := hl
  refine lv_iload_n hx hb dX12_figures_0 rfl (lv_at hl 1 rfl) ?_
  refine tw_goi hS (md_runS (As := [.int a1]) (rest := []) hx hb hml hown hW hK hT hS.1 (t_X12_bits l D cy tx base Z K N Ma Ra Ja hS.2.1 a1 h_a1) s_X12_341 ⟨rfl, rfl, ⟨Nat.le_of_ble_eq_true rfl, Nat.le_of_ble_eq_true rfl⟩, ⟨Nat.le_of_ble_eq_true rfl, Nat.le_of_ble_eq_true rfl⟩⟩ rfl hl.1 rfl (Nat.le_of_ble_eq_true rfl) dX12_figures_1) rfl rfl (fun x7 H locs M4 R5 J3 hS f1 g2 E6 => ?_)
  have eM4 := Fr.nil f1 rfl
  subst eM4
  have eR5 := Fr.nil g2 rfl
  subst eR5
  obtain ⟨h_x7, p8⟩ := E6
  refine lv_iconst (v := 1) hx hb dX12_figures_4 (by decide) ?_
  refine lv_icmp_ne (tgt := 12) hx hb dX12_figures_5 (by decide) (fun c9 => ?_) (fun c9 => ?_)
  · have q10 : ¬ x7.toInt = 1 := ti_ne c9
    refine lv_iload_n hx hb dX12_figures_12 rfl (lv_at hl 1 rfl) ?_
    refine tw_goi hS (md_runS (As := [.int a1]) (rest := []) hx hb hml hown hW hK hT hS.1 (t_X12_bits l D cy tx base Z K N Ma Ra J3 hS.2.1 a1 h_a1) s_X12_341 ⟨rfl, rfl, ⟨Nat.le_of_ble_eq_true rfl, Nat.le_of_ble_eq_true rfl⟩, ⟨Nat.le_of_ble_eq_true rfl, Nat.le_of_ble_eq_true rfl⟩⟩ rfl hl.1 rfl (Nat.le_of_ble_eq_true rfl) dX12_figures_13) rfl rfl (fun x17 H locs M14 R15 J13 hS f11 g12 E16 => ?_)
    have eM14 := Fr.nil f11 rfl
    subst eM14
    have eR15 := Fr.nil g12 rfl
    subst eR15
    obtain ⟨h_x17, p18⟩ := E16
    refine lv_iconst (v := 2) hx hb dX12_figures_16 (by decide) ?_
    refine lv_icmp_ne (tgt := 25) hx hb dX12_figures_17 (by decide) (fun c19 => ?_) (fun c19 => ?_)
    · have q20 : ¬ x17.toInt = 2 := ti_ne c19
      refine lv_bipush (v := 27) hx hb dX12_figures_25 (by decide) ?_
      exact tw_endi hx hb hr hlocks hK hT hS hQ (⟨(iv_mono (iv_c (c := 27) (n := 27) (by decide)) (by decide) (by decide)), (by unfold figG; rw [if_neg (fun q => c9 (p8.trans q)), if_neg (fun q => c19 (p18.trans q))]; decide)⟩) dX12_figures_27
    · have q21 : x17.toInt = 2 := ti_eq c19
      have h22 : iv 2 2 x17 := ⟨by have := (h_x17).1; have := ((iv_c (c := 2) (n := 2) (by decide))).1; omega, by have := (h_x17).2; have := ((iv_c (c := 2) (n := 2) (by decide))).2; omega⟩
      refine lv_bipush (v := 9) hx hb dX12_figures_20 (by decide) ?_
      refine lv_goto (tgt := 27) hx hb dX12_figures_22 (by decide) ?_
      exact tw_endi hx hb hr hlocks hK hT hS hQ (⟨(iv_mono (iv_c (c := 9) (n := 9) (by decide)) (by decide) (by decide)), (by unfold figG; rw [if_neg (fun q => c9 (p8.trans q)), if_pos (p18.symm.trans c19)]; decide)⟩) dX12_figures_27
  · have q23 : x7.toInt = 1 := ti_eq c9
    have h24 : iv 1 1 x7 := ⟨by have := (h_x7).1; have := ((iv_c (c := 1) (n := 1) (by decide))).1; omega, by have := (h_x7).2; have := ((iv_c (c := 1) (n := 1) (by decide))).2; omega⟩
    refine lv_iconst (v := 3) hx hb dX12_figures_8 (by decide) ?_
    refine lv_goto (tgt := 27) hx hb dX12_figures_9 (by decide) ?_
    exact tw_endi hx hb hr hlocks hK hT hS hQ (⟨(iv_mono (iv_c (c := 3) (n := 3) (by decide)) (by decide) (by decide)), (by unfold figG; rw [if_pos (p8.symm.trans c9)]; decide)⟩) dX12_figures_27
def Lt_X12_image : WL := [(14, 0, 2000000), (16, 0, 2000000), (24, 0, 2000000)]
def LRt_X12_image : WL := []
set_option maxRecDepth 100000 in
set_option maxHeartbeats 4000000 in
theorem t_X12_image (l : Launch) (D : va_G) (cy : Nat → ClassId) (tx : (Nat → Nat) × (Nat → Nat)) (base Z : Nat) (K N : Nat → Nat) (Ma : MT) (Ra : RT) (Ja : JT) (hTy : Ty Z K N Ma Ra) (a0 : Nat) (hz_a0 : a0 < Z) (hk_a0 : K a0 = 12) (a1 : Int32) (h_a1 : iv (-2147483648) 2147483647 a1) (sd : Nat) (k_sd : Ra a0 25 = some sd) (im : Nat) (k_im : Ra a0 53 = some im) (mk : Nat) (k_mk : Ra a0 54 = some mk) : Met l yX12_image [Cond.code yX12_image cX12_image 3 (some .int)] (md_rm 2 0 0) (va_Pc [.ref (base + a0), .int a1] (md_U D cy tx base Z K N Ma Ra Ja)) (mQi D cy tx base (fun r u => TP Z K N Lt_X12_image LRt_X12_image Ma Ra u ∧ (iv (-2147483648) 2147483647 r ∧ ((u.2.2.2.1 im (226 * a1.toNatClampNeg + 6) = Ma sd 6 ∧ (∀ n, n < 4 → n ≠ a1.toNatClampNeg → u.2.2.2.1 im (226 * n + 6) = Ma im (226 * n + 6)) ∧ u.2.2.2.1 mk a1.toNatClampNeg = 1 ∧ (∀ n, n ≠ a1.toNatClampNeg → u.2.2.2.1 mk n = Ma mk n) ∧ 0 ≤ a1.toInt ∧ a1.toInt ≤ 3) ∨ ((a1.toInt < 0 ∨ 3 < a1.toInt) ∧ (∀ n, u.2.2.2.1 im n = Ma im n) ∧ (∀ n, u.2.2.2.1 mk n = Ma mk n)))))) 0 0 (fun q => base ≤ q) := by
  refine tw_ofW (L := Lt_X12_image) (LR := LRt_X12_image) (by decide) (Nat.le_of_ble_eq_true rfl) hTy ?_
  intro p e s m args below meth c Q ls hx hb hr hlocks hown hml hW hK hT hS hQ hl
  have hl : lv_has ls 3 [(0, .ref (base + a0)), (1, .int a1)] := hl
  obtain ⟨hz_sd, hk_sd, hn_sd⟩ := hTy.refn hz_a0 hk_a0 (show rtR 12 25 = (23, 226, 0) from rfl) k_sd
  have hn_sd := hn_sd (by decide)
  obtain ⟨hz_im, hk_im, hn_im⟩ := hTy.refn hz_a0 hk_a0 (show rtR 12 53 = (24, 904, 0) from rfl) k_im
  have hn_im := hn_im (by decide)
  obtain ⟨hz_mk, hk_mk, hn_mk⟩ := hTy.refn hz_a0 hk_a0 (show rtR 12 54 = (16, 4, 0) from rfl) k_mk
  have hn_mk := hn_mk (by decide)
  refine lv_iload_n hx hb dX12_image_0 rfl (lv_at hl 1 rfl) ?_
  refine lv_i2l hx hb dX12_image_1 rfl ?_
  refine lv_lconst (v := 0) hx hb dX12_image_2 (by decide) ?_
  refine lv_ldc2 hx hb hown (hW _ w_8_59 rfl) dX12_image_3 ?_
  refine tw_goi hS (md_runS (As := [.long a1.toInt64, .long 0, .long 3]) (rest := []) hx hb hml hown hW hK hT hS.1 (t_X12_in l D cy tx base Z K N Ma Ra Ja hS.2.1 (a1.toInt64) (0) (3)) s_X12_155 ⟨rfl, rfl, ⟨Nat.le_of_ble_eq_true rfl, Nat.le_of_ble_eq_true rfl⟩, ⟨Nat.le_of_ble_eq_true rfl, Nat.le_of_ble_eq_true rfl⟩⟩ rfl hl.1 rfl (Nat.le_of_ble_eq_true rfl) dX12_image_6) rfl rfl (fun x7 H locs M4 R5 J3 hS f1 g2 E6 => ?_)
  have eM4 := Fr.nil f1 rfl
  subst eM4
  have eR5 := Fr.nil g2 rfl
  subst eR5
  obtain ⟨h_x7, p8⟩ := E6
  have p9 := p8.1
  refine lv_if_ne (tgt := 18) hx hb dX12_image_9 (by decide) (fun c10 => ?_) (fun c10 => ?_)
  · have q11 : ¬ x7.toInt = 0 := ti_ne c10
    have h12 : iv 1 1 x7 := ⟨by have := (h_x7).1; have := ((iv_c (c := 0) (n := 0) (by decide))).1; have := ((iv_c (c := 0) (n := 0) (by decide))).2; omega, by have := (h_x7).2; have := ((iv_c (c := 0) (n := 0) (by decide))).1; have := ((iv_c (c := 0) (n := 0) (by decide))).2; omega⟩
    have h13 : iv 0 3 a1 := in2iv (p9 c10) ((jv_c (x := 0) (n := 0) (by decide))).1 ((jv_c (x := 3) (n := 3) (by decide))).2
    refine lv_aload_n hx hb dX12_image_18 rfl (lv_at hl 0 rfl) ?_
    refine tw_getrk hx hb hW hown hK hS f_X12_112_11 hz_a0 hk_a0 (b := mk) k_mk dX12_image_19 ?_
    refine lv_iload_n hx hb dX12_image_22 rfl (lv_at hl 1 rfl) ?_
    refine lv_iconst (v := 1) hx hb dX12_image_23 (by decide) ?_
    refine tw_zast hx hb hK hS hz_mk hk_mk hn_mk h13 ⟨by decide, by decide⟩ (jl := 0) (jh := 1999999) ⟨by decide, by decide⟩ rfl dX12_image_24 (fun H locs M15 hS k16 f14 k17 => ?_)
    refine lv_iconst (v := 0) hx hb dX12_image_25 (by decide) ?_
    refine lv_istore_n (lv' := [(2, .int 0), (0, .ref (base + a0)), (1, .int a1)]) hx hb dX12_image_26 rfl hl (by decide) rfl (fun ls hl => ?_)
    have W27_19 : ∀ (n_19 : Nat) (x18 : Int32) (M19 : MT) (R20 : RT) (J21 : JT) (H : Heap) (locs : List Loc) (ls : Array Slot) (h_x18 : iv 0 226 x18) (w0_19 : ∀ n, n < 4 → n ≠ a1.toNatClampNeg → M19 im (226 * n + 6) = Ma im (226 * n + 6)) (w1_19 : x18.toInt ≤ 6 ∨ M19 im (226 * a1.toNatClampNeg + 6) = Ma sd 6) (w2_19 : M19 mk a1.toNatClampNeg = 1) (w3_19 : ∀ n, n ≠ a1.toNatClampNeg → M19 mk n = Ma mk n) (hm_19 : 226 - x18.toInt < (n_19 : Int)) (hS : SB D cy base Z K N Lt_X12_image LRt_X12_image Ma Ra M19 R20 J21 s H locs) (hl : lv_has ls 3 [(2, .int x18), (0, .ref (base + a0)), (1, .int a1)]), W p l e (md_rm 2 0 0) s m args below meth c H locs 0 0 Q (F0 m 27 ls []) := by
      intro n_19
      induction n_19 with
      | zero =>
        intro x18 M19 R20 J21 H locs ls h_x18 w0_19 w1_19 w2_19 w3_19 hm_19 hS hl
        exfalso
        have := (h13).1; have := (h13).2; have := (h_x18).1; have := (h_x18).2; omega
      | succ n_19 ih_19 =>
        intro x18 M19 R20 J21 H locs ls h_x18 w0_19 w1_19 w2_19 w3_19 hm_19 hS hl
        have f22 := hS.2.2.1
        have g23 := hS.2.2.2
        refine lv_iload_n hx hb dX12_image_27 rfl (lv_at hl 0 rfl) ?_
        refine lv_sipush (v := 226) hx hb dX12_image_28 (by decide) ?_
        refine lv_icmp_ge (tgt := 58) hx hb dX12_image_31 (by decide) (fun c24 => ?_) (fun c24 => ?_)
        · have q25 : 226 ≤ x18.toInt := ti_le c24
          have h26 : iv 226 226 x18 := iv_geL (y := 226) h_x18 (iv_c (c := 226) (n := 226) (by decide)) q25 (by decide)
          refine lv_aload_n hx hb dX12_image_58 rfl (lv_at hl 1 rfl) ?_
          have k27 : R20 a0 25 = some sd := (Fr.kp (k := 25) g23 hk_a0 rfl).trans k_sd
          refine tw_getrk hx hb hW hown hK hS f_X12_45_11 hz_a0 hk_a0 (b := sd) k27 dX12_image_59 ?_
          refine lv_iconst (v := 3) hx hb dX12_image_62 (by decide) ?_
          refine tw_iald hx hb hK hS hz_sd hk_sd (Or.inr (by decide)) hn_sd (lo := (-2147483648)) (hi := 2147483647) (iv_c (c := 3) (n := 3) (by decide)) ⟨by decide, by decide⟩ (rg_c (k0 := 3) rfl rfl rfl) dX12_image_63 (fun x30 k29 h28 => ?_)
          exact tw_endi hx hb hr hlocks hK hT hS hQ (⟨h28, Or.inl ⟨w1_19.resolve_left (by omega), w0_19, w2_19, w3_19, (h13).1, (h13).2⟩⟩) dX12_image_64
        · have q31 : x18.toInt < 226 := ti_nle c24
          have h32 : iv 0 225 x18 := iv_ltL (y := 226) h_x18 (iv_c (c := 226) (n := 226) (by decide)) q31 (by decide)
          refine lv_aload_n hx hb dX12_image_34 rfl (lv_at hl 1 rfl) ?_
          have k33 : R20 a0 53 = some im := (Fr.kp (k := 53) g23 hk_a0 rfl).trans k_im
          refine tw_getrk hx hb hW hown hK hS f_X12_109_11 hz_a0 hk_a0 (b := im) k33 dX12_image_35 ?_
          refine lv_sipush (v := 226) hx hb dX12_image_38 (by decide) ?_
          refine lv_iload_n hx hb dX12_image_41 rfl (lv_at hl 2 rfl) ?_
          refine tw_icmul (k := 226) (lo := 0) (hi := 678) hx hb (by decide) h13 (by decide) ⟨by decide, by decide⟩ ⟨by decide, by decide⟩ dX12_image_42 (fun x36 e35 h34 => ?_)
          refine lv_iload_n hx hb dX12_image_43 rfl (lv_at hl 0 rfl) ?_
          refine tw_iadd (lo := 0) (hi := 903) hx hb h34 h32 ⟨by decide, by decide⟩ ⟨by decide, by decide⟩ dX12_image_44 (fun x39 e38 h37 => ?_)
          refine lv_aload_n hx hb dX12_image_45 rfl (lv_at hl 1 rfl) ?_
          have k40 : R20 a0 25 = some sd := (Fr.kp (k := 25) g23 hk_a0 rfl).trans k_sd
          refine tw_getrk hx hb hW hown hK hS f_X12_45_11 hz_a0 hk_a0 (b := sd) k40 dX12_image_46 ?_
          refine lv_iload_n hx hb dX12_image_49 rfl (lv_at hl 0 rfl) ?_
          refine tw_iald hx hb hK hS hz_sd hk_sd (Or.inr (by decide)) hn_sd (lo := (-2147483648)) (hi := 2147483647) h32 ⟨by decide, by decide⟩ rg_full dX12_image_50 (fun x43 k42 h41 => ?_)
          have zi47 := ti_cl (x := x39) (by have := (h37).1; omega); have zl47 := ti_cl (x := x18) (by have := (h32).1; omega); have zk47 := ti_cl (x := a1) (by have := (h13).1; omega)
          have zq47 := hS.2.1.1 sd hz_sd x18.toNatClampNeg
          rw [hk_sd, k42] at zq47
          refine tw_iasx hx hb hK hS hz_im hk_im (Or.inr (by decide)) hn_im h37 ⟨by decide, by decide⟩ (okI_img zq47 (by omega)) (jl := 0) (jh := 1999999) ⟨by decide, by decide⟩ rfl dX12_image_51 (fun H locs M47 hS k44 f45 e46 => ?_)
          refine tw_iinc (lv' := fun x50 => [(2, .int x50), (0, .ref (base + a0)), (1, .int a1)]) (lo := 1) (hi := 226) hx hb dX12_image_52 hl (k := 0) rfl h32 (by decide) ⟨by decide, by decide⟩ ⟨by decide, by decide⟩ (by decide) (fun _ => rfl) (fun x50 ls e49 h48 hl => ?_)
          refine lv_goto (tgt := 27) hx hb dX12_image_55 (by decide) ?_
          have zi51 := ti_cl (x := x39) (by have := (h37).1; omega); have zl51 := ti_cl (x := x18) (by have := (h32).1; omega); have zk51 := ti_cl (x := a1) (by have := (h13).1; omega)
          have w51 : ∀ n, n < 4 → n ≠ a1.toNatClampNeg → M47 im (226 * n + 6) = Ma im (226 * n + 6) := fun n h4 hn => by rw [e46, u2_nk (by have := (h32).2; omega)]; exact w0_19 n h4 hn
          have zi52 := ti_cl (x := x39) (by have := (h37).1; omega); have zl52 := ti_cl (x := x18) (by have := (h32).1; omega); have zk52 := ti_cl (x := a1) (by have := (h13).1; omega)
          have w52 : x50.toInt ≤ 6 ∨ M47 im (226 * a1.toNatClampNeg + 6) = Ma sd 6 := by by_cases q : x18.toInt = 6; (· exact Or.inr (by rw [show 226 * a1.toNatClampNeg + 6 = x39.toNatClampNeg by omega, e46, u2_same, ← k42, show x18.toNatClampNeg = 6 by omega]; exact Fr.kpa f22 hk_sd rfl 6)); (· exact (w1_19).elim (fun h => Or.inl (by omega)) (fun h => Or.inr (by rw [e46, u2_nk (by omega)]; exact h)))
          have w53 : M47 mk a1.toNatClampNeg = 1 := (Fr.kpa f45 hk_mk rfl _).trans w2_19
          have w54 : ∀ n, n ≠ a1.toNatClampNeg → M47 mk n = Ma mk n := fun n hn => (Fr.kpa f45 hk_mk rfl n).trans (w3_19 n hn)
          have hm55 : 226 - x50.toInt < (n_19 : Int) := by
            have := (h13).1; have := (h13).2; have := (h32).1; have := (h32).2; have := (h34).1; have := (h34).2; have := (h37).1; have := (h37).2; have := (h48).1; have := (h48).2; omega
          exact ih_19 x50 M47 R20 J21 H locs _ (iv_mono h48 (by decide) (by decide)) w51 w52 w53 w54 hm55 hS hl
    have w56 : ∀ n, n < 4 → n ≠ a1.toNatClampNeg → M15 im (226 * n + 6) = Ma im (226 * n + 6) := fun n _ _ => (Fr.kpa f14 hk_im rfl _)
    have w57 : (0 : Int32).toInt ≤ 6 ∨ M15 im (226 * a1.toNatClampNeg + 6) = Ma sd 6 := Or.inl (by decide)
    have w58 : M15 mk a1.toNatClampNeg = 1 := by rw [k17]; exact u2_same
    have w59 : ∀ n, n ≠ a1.toNatClampNeg → M15 mk n = Ma mk n := fun n hn => by rw [k17]; exact u2_nk hn
    have hm60 : 226 - (0 : Int32).toInt < (((227 : Nat) : Int) : Int) := by
      have := (h13).1; have := (h13).2; have : (0 : Int32).toInt = 0 := (by decide); omega
    exact W27_19 227 0 M15 Ra J3 H locs _ (iv_mono (iv_c (c := 0) (n := 0) (by decide)) (by decide) (by decide)) w56 w57 w58 w59 hm60 hS hl
  · have q61 : x7.toInt = 0 := ti_eq c10
    have q62 := p8.2 c10
    have q62 : a1.toInt < 0 ∨ 3 < a1.toInt := by rw [Int32.toInt_toInt64] at q62; exact q62
    have h63 : iv 0 0 x7 := ⟨by have := (h_x7).1; have := ((iv_c (c := 0) (n := 0) (by decide))).1; omega, by have := (h_x7).2; have := ((iv_c (c := 0) (n := 0) (by decide))).2; omega⟩
    refine lv_aload_n hx hb dX12_image_12 rfl (lv_at hl 0 rfl) ?_
    refine lv_iconst (v := 0) hx hb dX12_image_13 (by decide) ?_
    refine tw_goi hS (md_runV (As := [.int 0]) (rest := []) hx hb hml hown hW hK hT hS.1 (t_X12_refuses l D cy tx base Z K N Ma Ra J3 hS.2.1 a0 hz_a0 hk_a0 0 (iv_mono (iv_c (c := 0) (n := 0) (by decide)) (by decide) (by decide))) s_X12_338 ⟨rfl, rfl, ⟨Nat.le_of_ble_eq_true rfl, Nat.le_of_ble_eq_true rfl⟩, ⟨Nat.le_of_ble_eq_true rfl, Nat.le_of_ble_eq_true rfl⟩⟩ hz_a0 hk_a0 (by decide) rfl rfl hl.1 rfl (Nat.le_of_ble_eq_true rfl) dX12_image_14) rfl rfl (fun x70 H locs M67 R68 J66 hS f64 g65 E69 => ?_)
    have eR68 := Fr.nil g65 rfl
    subst eR68
    have h_x70 := E69
    clear E69
    exact tw_endi hx hb hr hlocks hK hT hS hQ (⟨(iv_mono h_x70 (by decide) (by decide)), Or.inr ⟨by omega, (fun n => (Fr.kpa f64 hk_im rfl _)), (fun n => (Fr.kpa f64 hk_mk rfl _))⟩⟩) dX12_image_17
