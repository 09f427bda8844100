def Lt_X12_readsAll : WL := [(12, 1, 2), (12, 7, 10), (12, 13, 16), (12, 17, 20), (12, 21, 22), (14, 0, 2000000), (25, 0, 2000000), (26, 0, 2000000), (27, 0, 2000000), (28, 0, 2000000), (35, 0, 2000000)]
def LRt_X12_readsAll : WL := []
set_option maxRecDepth 100000 in
set_option maxHeartbeats 4000000 in
theorem t_X12_readsAll (l : Launch) (D : va_G) (cy : Nat → ClassId) (tx : (Nat → Nat) × (Nat → Nat)) (base Z : Nat) (K N : Nat → Nat) (Ma : MT) (Ra : RT) (Ja : JT) (hTy : Ty Z K N Ma Ra) (a0 : Nat) (hz_a0 : a0 < Z) (hk_a0 : K a0 = 12) (tb : Nat) (k_tb : Ra a0 0 = some tb) (tp : Int32) (k_tp : Ma a0 1 = tp) (h_tp : iv 0 400 tp) (lg : Nat) (k_lg : Ra a0 4 = some lg) (sg : Nat) (k_sg : Ra a0 3 = some sg) (tq : Int32) (k_tq : Ma a0 16 = tq) (h_tq : iv 0 6 tq) (op : Nat) (k_op : Ra a0 20 = some op) (cs : Nat) (k_cs : Ra a0 6 = some cs) (cl : Nat) (k_cl : Ra a0 5 = some cl) (cn : Int32) (k_cn : Ma cs tq.toNatClampNeg = cn) (h_cn : iv 0 12 cn) (h0 : tq.toInt = 6 ∨ cn.toInt = 0) : Met l yX12_readsAll [Cond.code yX12_readsAll cX12_readsAll 2 (some .boolean)] (md_rm 12 0 0) (va_Pc [.ref (base + a0)] (md_U D cy tx base Z K N Ma Ra Ja)) (mQi D cy tx base (fun r u => TP Z K N Lt_X12_readsAll LRt_X12_readsAll Ma Ra u ∧ (iv 0 1 r ∧ ((∀ j, j < 400 * tq.toNatClampNeg → u.2.2.2.1 sg j = Ma sg j) ∧ (∀ j, j < 36 * tq.toNatClampNeg → u.2.2.2.1 cl j = Ma cl j) ∧ (∀ j, j ≠ tq.toNatClampNeg → u.2.2.2.1 cs j = Ma cs j) ∧ (r = 0 ∨ tq.toInt = 6 ∨ (∃ x2 x4 : Int32, u.2.2.2.1 lg tq.toNatClampNeg = x2 ∧ u.2.2.2.1 cs tq.toNatClampNeg = x4 ∧ x2.toInt ≤ 400 ∧ CI u.2.2.2.1 sg cl tq.toNatClampNeg x4.toNatClampNeg x2.toInt)))))) 0 0 (fun q => base ≤ q) := by
  refine tw_ofW (L := Lt_X12_readsAll) (LR := LRt_X12_readsAll) (by decide) (Nat.le_of_ble_eq_true rfl) hTy ?_
  intro p e s m args below meth c Q ls hx hb hr hlocks hown hml hW hK hT hS hQ hl
  have hl : lv_has ls 2 [(0, .ref (base + a0))] := hl
  obtain ⟨hz_tb, hk_tb, hn_tb⟩ := hTy.refn hz_a0 hk_a0 (show rtR 12 0 = (13, 400, 0) from rfl) k_tb
  have hn_tb := hn_tb (by decide)
  obtain ⟨hz_lg, hk_lg, hn_lg⟩ := hTy.refn hz_a0 hk_a0 (show rtR 12 4 = (26, 7, 0) from rfl) k_lg
  have hn_lg := hn_lg (by decide)
  obtain ⟨hz_sg, hk_sg, hn_sg⟩ := hTy.refn hz_a0 hk_a0 (show rtR 12 3 = (25, 2400, 0) from rfl) k_sg
  have hn_sg := hn_sg (by decide)
  obtain ⟨hz_op, hk_op, hn_op⟩ := hTy.refn hz_a0 hk_a0 (show rtR 12 20 = (14, 400, 0) from rfl) k_op
  have hn_op := hn_op (by decide)
  obtain ⟨hz_cs, hk_cs, hn_cs⟩ := hTy.refn hz_a0 hk_a0 (show rtR 12 6 = (28, 6, 0) from rfl) k_cs
  have hn_cs := hn_cs (by decide)
  obtain ⟨hz_cl, hk_cl, hn_cl⟩ := hTy.refn hz_a0 hk_a0 (show rtR 12 5 = (27, 216, 0) from rfl) k_cl
  have hn_cl := hn_cl (by decide)
  refine lv_aload_n hx hb dX12_readsAll_0 rfl (lv_at hl 0 rfl) ?_
  refine tw_getrk hx hb hW hown hK hS f_X12_17_11 hz_a0 hk_a0 (b := lg) k_lg dX12_readsAll_1 ?_
  refine lv_aload_n hx hb dX12_readsAll_4 rfl (lv_at hl 0 rfl) ?_
  refine tw_getk hx hb hW hown hK hS f_X12_179_11 hz_a0 hk_a0 (v := tq) k_tq dX12_readsAll_5 ?_
  refine lv_iconst (v := 0) hx hb dX12_readsAll_8 (by decide) ?_
  refine tw_iast hx hb hK hS hz_lg hk_lg (Or.inr (by decide)) hn_lg h_tq ⟨by decide, by decide⟩ (iv_c (c := 0) (n := 0) (by decide)) (rg_s26 ⟨by decide, by decide⟩) (jl := 0) (jh := 1999999) ⟨by decide, by decide⟩ rfl dX12_readsAll_9 (fun H locs M3 hS k1 f2 => ?_)
  refine lv_aload_n hx hb dX12_readsAll_10 rfl (lv_at hl 0 rfl) ?_
  refine lv_iconst (v := 0) hx hb dX12_readsAll_11 (by decide) ?_
  refine tw_puti hx hb hW hown hK hS f_X12_286_11 hz_a0 hk_a0 rfl rfl (lo := 0) (hi := 16) rfl (iv_mono (iv_c (c := 0) (n := 0) (by decide)) (by decide) (by decide)) rfl dX12_readsAll_12 (fun H locs M6 hS k4 f5 => ?_)
  refine lv_aload_n hx hb dX12_readsAll_15 rfl (lv_at hl 0 rfl) ?_
  refine lv_iconst (v := 0) hx hb dX12_readsAll_16 (by decide) ?_
  refine tw_puti hx hb hW hown hK hS f_X12_127_11 hz_a0 hk_a0 rfl rfl (lo := 0) (hi := 400) rfl (iv_mono (iv_c (c := 0) (n := 0) (by decide)) (by decide) (by decide)) rfl dX12_readsAll_17 (fun H locs M9 hS k7 f8 => ?_)
  refine lv_aload_n hx hb dX12_readsAll_20 rfl (lv_at hl 0 rfl) ?_
  refine lv_iconst (v := 0) hx hb dX12_readsAll_21 (by decide) ?_
  refine tw_puti hx hb hW hown hK hS f_X12_124_11 hz_a0 hk_a0 rfl rfl (lo := (-2147483648)) (hi := 2147483647) rfl (iv_mono (iv_c (c := 0) (n := 0) (by decide)) (by decide) (by decide)) rfl dX12_readsAll_22 (fun H locs M12 hS k10 f11 => ?_)
  refine lv_aload_n hx hb dX12_readsAll_25 rfl (lv_at hl 0 rfl) ?_
  refine lv_iconst (v := 0) hx hb dX12_readsAll_26 (by decide) ?_
  refine tw_puti hx hb hW hown hK hS f_X12_182_11 hz_a0 hk_a0 rfl rfl (lo := 0) (hi := 60) rfl (iv_mono (iv_c (c := 0) (n := 0) (by decide)) (by decide) (by decide)) rfl dX12_readsAll_27 (fun H locs M15 hS k13 f14 => ?_)
  refine lv_aload_n hx hb dX12_readsAll_30 rfl (lv_at hl 0 rfl) ?_
  have k16 : M15 a0 13 = 0 := ((Fr.kp (k := 13) f14 hk_a0 rfl).trans (Fr.kp (k := 13) f11 hk_a0 rfl)).trans k7
  have k17 : M15 a0 1 = tp := ((Fr.kp (k := 1) f14 hk_a0 rfl).trans ((Fr.kp (k := 1) f11 hk_a0 rfl).trans ((Fr.kp (k := 1) f8 hk_a0 rfl).trans ((Fr.kp (k := 1) f5 hk_a0 rfl).trans (Fr.kp (k := 1) f2 hk_a0 rfl))))).trans k_tp
  have q18 : (0 : Int32).toInt ≤ tp.toInt := by
    have := (h_cn).1; have := (h_cn).2; have := (h_tp).1; have := (h_tp).2; have := (h_tq).1; have := (h_tq).2; have : (0 : Int32).toInt = 0 := (by decide); omega
  have k19 : M15 a0 16 = tq := ((Fr.kp (k := 16) f14 hk_a0 rfl).trans ((Fr.kp (k := 16) f11 hk_a0 rfl).trans ((Fr.kp (k := 16) f8 hk_a0 rfl).trans ((Fr.kp (k := 16) f5 hk_a0 rfl).trans (Fr.kp (k := 16) f2 hk_a0 rfl))))).trans k_tq
  have k20 : M15 lg tq.toNatClampNeg = 0 := ((Fr.kpa f14 hk_lg rfl tq.toNatClampNeg).trans ((Fr.kpa f11 hk_lg rfl tq.toNatClampNeg).trans ((Fr.kpa f8 hk_lg rfl tq.toNatClampNeg).trans (Fr.kpa f5 hk_lg rfl tq.toNatClampNeg)))).trans k1
  have k21 : M15 cs tq.toNatClampNeg = cn := ((Fr.kpa f14 hk_cs rfl tq.toNatClampNeg).trans ((Fr.kpa f11 hk_cs rfl tq.toNatClampNeg).trans ((Fr.kpa f8 hk_cs rfl tq.toNatClampNeg).trans ((Fr.kpa f5 hk_cs rfl tq.toNatClampNeg).trans (Fr.kpa f2 hk_cs rfl tq.toNatClampNeg))))).trans k_cn
  have k22 : M15 a0 19 = 0 := ((Fr.kp (k := 19) f14 hk_a0 rfl).trans ((Fr.kp (k := 19) f11 hk_a0 rfl).trans (Fr.kp (k := 19) f8 hk_a0 rfl))).trans k4
  have q23 : tq.toInt = 6 ∨ ((0 : Int32).toInt ≤ (0 : Int32).toInt ∧ cn.toInt ≤ (0 : Int32).toInt ∧ (0 : Int32).toInt ≤ 12) := by
    have := (h_cn).1; have := (h_cn).2; have := (h_tp).1; have := (h_tp).2; have := (h_tq).1; have := (h_tq).2; have : (0 : Int32).toInt = 0 := (by decide); omega
  have zc23 := ti_cl (x := cn) (by have := h_cn.1; omega)
  refine tw_goi hS (md_runV (As := []) (rest := []) hx hb hml hown hW hK hT hS.1 (t_X12_clauseHere l D cy tx base Z K N M15 Ra Ja hS.2.1 a0 hz_a0 hk_a0 tb k_tb 0 k16 (iv_mono (iv_c (c := 0) (n := 0) (by decide)) (by decide) (by decide)) tp k17 (iv_mono h_tp (by decide) (by decide)) q18 lg k_lg sg k_sg tq k19 (iv_mono h_tq (by decide) (by decide)) 0 k20 (iv_mono (iv_c (c := 0) (n := 0) (by decide)) (by decide) (by decide)) 0 k13 (iv_mono (iv_c (c := 0) (n := 0) (by decide)) (by decide) (by decide)) op k_op cs k_cs cl k_cl cn k21 (iv_mono h_cn (by decide) (by decide)) 0 k22 (iv_mono (iv_c (c := 0) (n := 0) (by decide)) (by decide) (by decide)) q23 (by rcases h0 with q | q; (· exact Or.inl q); (· right; rw [show cn.toNatClampNeg = 0 by omega]; exact CI.none))) s_X12_295 ⟨rfl, rfl, ⟨Nat.le_of_ble_eq_true rfl, Nat.le_of_ble_eq_true rfl⟩, ⟨Nat.le_of_ble_eq_true rfl, Nat.le_of_ble_eq_true rfl⟩⟩ hz_a0 hk_a0 (by decide) rfl rfl hl.1 rfl (Nat.le_of_ble_eq_true rfl) dX12_readsAll_31) rfl rfl (fun x30 H locs M27 R28 J26 hS f24 g25 E29 => ?_)
  have eR28 := Fr.nil g25 rfl
  subst eR28
  obtain ⟨h_x30, p31, p32⟩ := E29
  obtain ⟨⟨x34, k35, h33, zu32, zv32⟩, zf32, zg32, zh32, zc32⟩ := p31
  have k35 : M27 a0 13 = x34 := k35
  have z36 : ∀ j, j < 400 * tq.toNatClampNeg → M27 sg j = Ma sg j := fun j hj => (zf32 j hj).trans ((fun j hj => (Fr.kpa f14 hk_sg rfl j).trans ((fun j hj => (Fr.kpa f11 hk_sg rfl j).trans ((fun j hj => (Fr.kpa f8 hk_sg rfl j).trans ((fun j hj => (Fr.kpa f5 hk_sg rfl j).trans ((fun j hj => (Fr.kpa f2 hk_sg rfl j).trans ((fun j _ => rfl) j hj)) j hj)) j hj)) j hj)) j hj)) j hj)
  have z37 : ∀ j, j < 36 * tq.toNatClampNeg → M27 cl j = Ma cl j := fun j hj => (zg32 j hj).trans ((fun j hj => (Fr.kpa f14 hk_cl rfl j).trans ((fun j hj => (Fr.kpa f11 hk_cl rfl j).trans ((fun j hj => (Fr.kpa f8 hk_cl rfl j).trans ((fun j hj => (Fr.kpa f5 hk_cl rfl j).trans ((fun j hj => (Fr.kpa f2 hk_cl rfl j).trans ((fun j _ => rfl) j hj)) j hj)) j hj)) j hj)) j hj)) j hj)
  have z38 : ∀ j, j ≠ tq.toNatClampNeg → M27 cs j = Ma cs j := fun j hj => (zh32 j hj).trans ((fun j hj => (Fr.kpa f14 hk_cs rfl j).trans ((fun j hj => (Fr.kpa f11 hk_cs rfl j).trans ((fun j hj => (Fr.kpa f8 hk_cs rfl j).trans ((fun j hj => (Fr.kpa f5 hk_cs rfl j).trans ((fun j hj => (Fr.kpa f2 hk_cs rfl j).trans ((fun j _ => rfl) j hj)) j hj)) j hj)) j hj)) j hj)) j hj)
  have z39 : x30 = 0 → ¬ (M27 a0 14).toInt = 0 := p32
  refine lv_istore_n (lv' := [(1, .int x30), (0, .ref (base + a0))]) hx hb dX12_readsAll_34 rfl hl (by decide) rfl (fun ls hl => ?_)
  have W35_41 : ∀ (n_41 : Nat) (x40 : Int32) (x46 : Int32) (x48 : Int32) (x50 : Int32) (x52 : Int32) (x54 : Int32) (x56 : Int32) (M41 : MT) (R42 : RT) (J43 : JT) (H : Heap) (locs : List Loc) (ls : Array Slot) (h_x40 : iv 0 1 x40) (h_x46 : iv 0 400 x46) (k47 : M41 a0 13 = x46) (h_x48 : iv 0 16 x48) (k49 : M41 a0 19 = x48) (h_x50 : iv 0 400 x50) (k51 : M41 lg tq.toNatClampNeg = x50) (h_x52 : iv 0 12 x52) (k53 : M41 cs tq.toNatClampNeg = x52) (h_x54 : iv 0 400 x54) (k55 : M41 a0 1 = x54) (h_x56 : iv (-2147483648) 2147483647 x56) (k57 : M41 a0 14 = x56) (w0_41 : x46.toInt ≤ x54.toInt ∧ x54.toInt = tp.toInt) (w1_41 : x40.toInt = 0 ∨ tq.toInt = 6 ∨ (x50.toInt ≤ x46.toInt ∧ x52.toInt ≤ x48.toInt ∧ x48.toInt ≤ 12)) (w2_41 : x40.toInt = 0 ∨ tq.toInt = 6 ∨ CI M41 sg cl tq.toNatClampNeg x52.toNatClampNeg x50.toInt) (w3_41 : ∀ j, j < 400 * tq.toNatClampNeg → M41 sg j = Ma sg j) (w4_41 : ∀ j, j < 36 * tq.toNatClampNeg → M41 cl j = Ma cl j) (w5_41 : ∀ j, j ≠ tq.toNatClampNeg → M41 cs j = Ma cs j) (w6_41 : ¬ x40.toInt = 0 ∨ ¬ x56.toInt = 0) (hm_41 : 400 - x46.toInt < (n_41 : Int)) (hS : SB D cy base Z K N Lt_X12_readsAll LRt_X12_readsAll Ma Ra M41 R42 J43 s H locs) (hl : lv_has ls 2 [(1, .int x40), (0, .ref (base + a0))]), W p l e (md_rm 12 0 0) s m args below meth c H locs 0 0 Q (F0 m 35 ls []) := by
    intro n_41
    induction n_41 with
    | zero =>
      intro x40 x46 x48 x50 x52 x54 x56 M41 R42 J43 H locs ls h_x40 h_x46 k47 h_x48 k49 h_x50 k51 h_x52 k53 h_x54 k55 h_x56 k57 w0_41 w1_41 w2_41 w3_41 w4_41 w5_41 w6_41 hm_41 hS hl
      exfalso
      have := (h_cn).1; have := (h_cn).2; have := (h_tp).1; have := (h_tp).2; have := (h_tq).1; have := (h_tq).2; have := (h33).1; have := (h33).2; have := (h_x40).1; have := (h_x40).2; have := (h_x46).1; have := (h_x46).2; have := (h_x48).1; have := (h_x48).2; have := (h_x50).1; have := (h_x50).2; have := (h_x52).1; have := (h_x52).2; have := (h_x54).1; have := (h_x54).2; have := (h_x56).1; have := (h_x56).2; omega
    | succ n_41 ih_41 =>
      intro x40 x46 x48 x50 x52 x54 x56 M41 R42 J43 H locs ls h_x40 h_x46 k47 h_x48 k49 h_x50 k51 h_x52 k53 h_x54 k55 h_x56 k57 w0_41 w1_41 w2_41 w3_41 w4_41 w5_41 w6_41 hm_41 hS hl
      have f44 := hS.2.2.1
      have g45 := hS.2.2.2
      refine lv_iload_n hx hb dX12_readsAll_35 rfl (lv_at hl 0 rfl) ?_
      refine lv_if_eq (tgt := 66) hx hb dX12_readsAll_36 (by decide) (fun c58 => ?_) (fun c58 => ?_)
      · have q59 : x40.toInt = 0 := ti_eq c58
        have h60 : iv 0 0 x40 := ⟨by have := (h_x40).1; have := ((iv_c (c := 0) (n := 0) (by decide))).1; omega, by have := (h_x40).2; have := ((iv_c (c := 0) (n := 0) (by decide))).2; omega⟩
        refine lv_iload_n hx hb dX12_readsAll_66 rfl (lv_at hl 0 rfl) ?_
        refine lv_if_eq (tgt := 88) hx hb dX12_readsAll_67 (by decide) (fun c61 => ?_) (fun c61 => False.elim (by have q : ¬ x40.toInt = 0 := ti_ne c61; have := (h60).1; have := (h60).2; omega))
        have q62 : x40.toInt = 0 := ti_eq c61
        refine lv_aload_n hx hb dX12_readsAll_88 rfl (lv_at hl 1 rfl) ?_
        refine lv_iconst (v := 0) hx hb dX12_readsAll_89 (by decide) ?_
        refine tw_puti hx hb hW hown hK hS f_X12_116_11 hz_a0 hk_a0 rfl rfl (lo := 0) (hi := 400) rfl (iv_mono (iv_c (c := 0) (n := 0) (by decide)) (by decide) (by decide)) rfl dX12_readsAll_90 (fun H locs M65 hS k63 f64 => ?_)
        refine lv_aload_n hx hb dX12_readsAll_93 rfl (lv_at hl 1 rfl) ?_
        have k66 : M65 a0 14 = x56 := (Fr.kp (k := 14) f64 hk_a0 rfl).trans k57
        refine tw_getk hx hb hW hown hK hS f_X12_124_11 hz_a0 hk_a0 (v := x56) k66 dX12_readsAll_94 ?_
        refine lv_if_ne (tgt := 104) hx hb dX12_readsAll_97 (by decide) (fun c67 => ?_) (fun c67 => ?_)
        · have q68 : ¬ x56.toInt = 0 := ti_ne c67
          refine lv_iconst (v := 0) hx hb dX12_readsAll_104 (by decide) ?_
          exact tw_endz hx hb hr hlocks hK hT hS hQ rfl (⟨(iv_mono (iv_c (c := 0) (n := 0) (by decide)) (by decide) (by decide)), ⟨(fun j hj => (Fr.kpa f64 hk_sg rfl j).trans (w3_41 j hj)), (fun j hj => (Fr.kpa f64 hk_cl rfl j).trans (w4_41 j hj)), (fun j hj => (Fr.kpa f64 hk_cs rfl j).trans (w5_41 j hj)), Or.inl rfl⟩⟩) dX12_readsAll_105
        · have q69 : x56.toInt = 0 := ti_eq c67
          have h70 : iv 0 0 x56 := ⟨by have := (h_x56).1; have := ((iv_c (c := 0) (n := 0) (by decide))).1; omega, by have := (h_x56).2; have := ((iv_c (c := 0) (n := 0) (by decide))).2; omega⟩
          refine lv_iconst (v := 1) hx hb dX12_readsAll_100 (by decide) ?_
          refine lv_goto (tgt := 105) hx hb dX12_readsAll_101 (by decide) ?_
          have k71 : M65 lg tq.toNatClampNeg = x50 := (Fr.kpa f64 hk_lg rfl tq.toNatClampNeg).trans k51
          have k72 : M65 cs tq.toNatClampNeg = x52 := (Fr.kpa f64 hk_cs rfl tq.toNatClampNeg).trans k53
          exact tw_endz hx hb hr hlocks hK hT hS hQ rfl (⟨(iv_mono (iv_c (c := 1) (n := 1) (by decide)) (by decide) (by decide)), ⟨(fun j hj => (Fr.kpa f64 hk_sg rfl j).trans (w3_41 j hj)), (fun j hj => (Fr.kpa f64 hk_cl rfl j).trans (w4_41 j hj)), (fun j hj => (Fr.kpa f64 hk_cs rfl j).trans (w5_41 j hj)), Or.inr (by rcases w2_41 with q | q | q; (· exfalso; omega); (· exact Or.inl q); (· exact Or.inr ⟨x50, x52, k71, k72, by have := (h_x50).2; omega, CI.to q (fun j _ => (Fr.kpa f64 hk_cl rfl j)) (fun j _ => (Fr.kpa f64 hk_sg rfl j)) (Int.le_refl _)⟩))⟩⟩) dX12_readsAll_105
      · have q73 : ¬ x40.toInt = 0 := ti_ne c58
        have h74 : iv 1 1 x40 := ⟨by have := (h_x40).1; have := ((iv_c (c := 0) (n := 0) (by decide))).1; have := ((iv_c (c := 0) (n := 0) (by decide))).2; omega, by have := (h_x40).2; have := ((iv_c (c := 0) (n := 0) (by decide))).1; have := ((iv_c (c := 0) (n := 0) (by decide))).2; omega⟩
        refine lv_aload_n hx hb dX12_readsAll_39 rfl (lv_at hl 1 rfl) ?_
        have k75 : R42 a0 0 = some tb := (Fr.kp (k := 0) g45 hk_a0 rfl).trans k_tb
        have q76 : x46.toInt ≤ x54.toInt := by
          have := (h_cn).1; have := (h_cn).2; have := (h_tp).1; have := (h_tp).2; have := (h_tq).1; have := (h_tq).2; have := (h33).1; have := (h33).2; have := (h74).1; have := (h74).2; have := (h_x46).1; have := (h_x46).2; have := (h_x48).1; have := (h_x48).2; have := (h_x50).1; have := (h_x50).2; have := (h_x52).1; have := (h_x52).2; have := (h_x54).1; have := (h_x54).2; have := (h_x56).1; have := (h_x56).2; omega
        refine tw_goi hS (md_runV (As := []) (rest := []) hx hb hml hown hW hK hT hS.1 (t_X12_see l D cy tx base Z K N M41 R42 J43 hS.2.1 a0 hz_a0 hk_a0 tb k75 x46 k47 (iv_mono h_x46 (by decide) (by decide)) x54 k55 (iv_mono h_x54 (by decide) (by decide)) q76) s_X12_130 ⟨rfl, rfl, ⟨Nat.le_of_ble_eq_true rfl, Nat.le_of_ble_eq_true rfl⟩, ⟨Nat.le_of_ble_eq_true rfl, Nat.le_of_ble_eq_true rfl⟩⟩ hz_a0 hk_a0 (by decide) rfl rfl hl.1 rfl (Nat.le_of_ble_eq_true rfl) dX12_readsAll_40) rfl rfl (fun x83 H locs M80 R81 J79 hS f77 g78 E82 => ?_)
        have eR81 := Fr.nil g78 rfl
        subst eR81
        obtain ⟨h_x83, p84⟩ := E82
        obtain ⟨x87, k85, h86, q88, z89⟩ := p84
        have k85 : M80 a0 13 = x87 := k85
        refine lv_bipush (v := 59) hx hb dX12_readsAll_43 (by decide) ?_
        refine lv_icmp_ne (tgt := 66) hx hb dX12_readsAll_45 (by decide) (fun c91 => ?_) (fun c91 => ?_)
        · have q92 : ¬ x83.toInt = 59 := ti_ne c91
          refine lv_iload_n hx hb dX12_readsAll_66 rfl (lv_at hl 0 rfl) ?_
          refine lv_if_eq (tgt := 88) hx hb dX12_readsAll_67 (by decide) (fun c93 => False.elim (by have q : x40.toInt = 0 := ti_eq c93; have := (h74).1; have := (h74).2; omega)) (fun c93 => ?_)
          have q94 : ¬ x40.toInt = 0 := ti_ne c93
          refine lv_aload_n hx hb dX12_readsAll_70 rfl (lv_at hl 1 rfl) ?_
          have k95 : R42 a0 0 = some tb := (Fr.kp (k := 0) g45 hk_a0 rfl).trans k_tb
          have k96 : M80 a0 1 = x54 := (Fr.kp (k := 1) f77 hk_a0 rfl).trans k55
          have q97 : x87.toInt ≤ x54.toInt := by
            have := (h_cn).1; have := (h_cn).2; have := (h_tp).1; have := (h_tp).2; have := (h_tq).1; have := (h_tq).2; have := (h33).1; have := (h33).2; have := (h74).1; have := (h74).2; have := (h_x46).1; have := (h_x46).2; have := (h_x48).1; have := (h_x48).2; have := (h_x50).1; have := (h_x50).2; have := (h_x52).1; have := (h_x52).2; have := (h_x54).1; have := (h_x54).2; have := (h_x56).1; have := (h_x56).2; have := (h_x83).1; have := (h_x83).2; have := (h86).1; have := (h86).2; omega
          refine tw_goi hS (md_runV (As := []) (rest := []) hx hb hml hown hW hK hT hS.1 (t_X12_see l D cy tx base Z K N M80 R42 J79 hS.2.1 a0 hz_a0 hk_a0 tb k95 x87 k85 (iv_mono h86 (by decide) (by decide)) x54 k96 (iv_mono h_x54 (by decide) (by decide)) q97) s_X12_130 ⟨rfl, rfl, ⟨Nat.le_of_ble_eq_true rfl, Nat.le_of_ble_eq_true rfl⟩, ⟨Nat.le_of_ble_eq_true rfl, Nat.le_of_ble_eq_true rfl⟩⟩ hz_a0 hk_a0 (by decide) rfl rfl hl.1 rfl (Nat.le_of_ble_eq_true rfl) dX12_readsAll_71) rfl rfl (fun x104 H locs M101 R102 J100 hS f98 g99 E103 => ?_)
          have eR102 := Fr.nil g99 rfl
          subst eR102
          obtain ⟨h_x104, p105⟩ := E103
          obtain ⟨x108, k106, h107, q109, z110⟩ := p105
          have k106 : M101 a0 13 = x108 := k106
          refine lv_iconst (v := (-1)) hx hb dX12_readsAll_74 (by decide) ?_
          refine lv_icmp_eq (tgt := 88) hx hb dX12_readsAll_75 (by decide) (fun c112 => ?_) (fun c112 => ?_)
          · have q113 : x104.toInt = (-1) := ti_eq c112
            have h114 : iv (-1) (-1) x104 := ⟨by have := (h_x104).1; have := ((iv_c (c := (-1)) (n := (-1)) (by decide))).1; omega, by have := (h_x104).2; have := ((iv_c (c := (-1)) (n := (-1)) (by decide))).2; omega⟩
            refine lv_aload_n hx hb dX12_readsAll_88 rfl (lv_at hl 1 rfl) ?_
            refine lv_iconst (v := 0) hx hb dX12_readsAll_89 (by decide) ?_
            refine tw_puti hx hb hW hown hK hS f_X12_116_11 hz_a0 hk_a0 rfl rfl (lo := 0) (hi := 400) rfl (iv_mono (iv_c (c := 0) (n := 0) (by decide)) (by decide) (by decide)) rfl dX12_readsAll_90 (fun H locs M117 hS k115 f116 => ?_)
            refine lv_aload_n hx hb dX12_readsAll_93 rfl (lv_at hl 1 rfl) ?_
            have k118 : M117 a0 14 = x56 := ((Fr.kp (k := 14) f116 hk_a0 rfl).trans ((Fr.kp (k := 14) f98 hk_a0 rfl).trans (Fr.kp (k := 14) f77 hk_a0 rfl))).trans k57
            refine tw_getk hx hb hW hown hK hS f_X12_124_11 hz_a0 hk_a0 (v := x56) k118 dX12_readsAll_94 ?_
            refine lv_if_ne (tgt := 104) hx hb dX12_readsAll_97 (by decide) (fun c119 => ?_) (fun c119 => ?_)
            · have q120 : ¬ x56.toInt = 0 := ti_ne c119
              refine lv_iconst (v := 0) hx hb dX12_readsAll_104 (by decide) ?_
              exact tw_endz hx hb hr hlocks hK hT hS hQ rfl (⟨(iv_mono (iv_c (c := 0) (n := 0) (by decide)) (by decide) (by decide)), ⟨(fun j hj => (Fr.kpa f116 hk_sg rfl j).trans ((fun j hj => (Fr.kpa f98 hk_sg rfl j).trans ((fun j hj => (Fr.kpa f77 hk_sg rfl j).trans (w3_41 j hj)) j hj)) j hj)), (fun j hj => (Fr.kpa f116 hk_cl rfl j).trans ((fun j hj => (Fr.kpa f98 hk_cl rfl j).trans ((fun j hj => (Fr.kpa f77 hk_cl rfl j).trans (w4_41 j hj)) j hj)) j hj)), (fun j hj => (Fr.kpa f116 hk_cs rfl j).trans ((fun j hj => (Fr.kpa f98 hk_cs rfl j).trans ((fun j hj => (Fr.kpa f77 hk_cs rfl j).trans (w5_41 j hj)) j hj)) j hj)), Or.inl rfl⟩⟩) dX12_readsAll_105
            · have q121 : x56.toInt = 0 := ti_eq c119
              have h122 : iv 0 0 x56 := ⟨by have := (h_x56).1; have := ((iv_c (c := 0) (n := 0) (by decide))).1; omega, by have := (h_x56).2; have := ((iv_c (c := 0) (n := 0) (by decide))).2; omega⟩
              refine lv_iconst (v := 1) hx hb dX12_readsAll_100 (by decide) ?_
              refine lv_goto (tgt := 105) hx hb dX12_readsAll_101 (by decide) ?_
              have k123 : M117 lg tq.toNatClampNeg = x50 := ((Fr.kpa f116 hk_lg rfl tq.toNatClampNeg).trans ((Fr.kpa f98 hk_lg rfl tq.toNatClampNeg).trans (Fr.kpa f77 hk_lg rfl tq.toNatClampNeg))).trans k51
              have k124 : M117 cs tq.toNatClampNeg = x52 := ((Fr.kpa f116 hk_cs rfl tq.toNatClampNeg).trans ((Fr.kpa f98 hk_cs rfl tq.toNatClampNeg).trans (Fr.kpa f77 hk_cs rfl tq.toNatClampNeg))).trans k53
              exact tw_endz hx hb hr hlocks hK hT hS hQ rfl (⟨(iv_mono (iv_c (c := 1) (n := 1) (by decide)) (by decide) (by decide)), ⟨(fun j hj => (Fr.kpa f116 hk_sg rfl j).trans ((fun j hj => (Fr.kpa f98 hk_sg rfl j).trans ((fun j hj => (Fr.kpa f77 hk_sg rfl j).trans (w3_41 j hj)) j hj)) j hj)), (fun j hj => (Fr.kpa f116 hk_cl rfl j).trans ((fun j hj => (Fr.kpa f98 hk_cl rfl j).trans ((fun j hj => (Fr.kpa f77 hk_cl rfl j).trans (w4_41 j hj)) j hj)) j hj)), (fun j hj => (Fr.kpa f116 hk_cs rfl j).trans ((fun j hj => (Fr.kpa f98 hk_cs rfl j).trans ((fun j hj => (Fr.kpa f77 hk_cs rfl j).trans (w5_41 j hj)) j hj)) j hj)), Or.inr (by rcases w2_41 with q | q | q; (· exfalso; omega); (· exact Or.inl q); (· exact Or.inr ⟨x50, x52, k123, k124, by have := (h_x50).2; omega, CI.to q (fun j _ => ((Fr.kpa f116 hk_cl rfl j).trans ((Fr.kpa f98 hk_cl rfl j).trans (Fr.kpa f77 hk_cl rfl j)))) (fun j _ => ((Fr.kpa f116 hk_sg rfl j).trans ((Fr.kpa f98 hk_sg rfl j).trans (Fr.kpa f77 hk_sg rfl j)))) (Int.le_refl _)⟩))⟩⟩) dX12_readsAll_105
          · have q125 : ¬ x104.toInt = (-1) := ti_ne c112
            have h126 : iv 0 255 x104 := ⟨by have := (h_x104).1; have := ((iv_c (c := (-1)) (n := (-1)) (by decide))).1; have := ((iv_c (c := (-1)) (n := (-1)) (by decide))).2; omega, by have := (h_x104).2; have := ((iv_c (c := (-1)) (n := (-1)) (by decide))).1; have := ((iv_c (c := (-1)) (n := (-1)) (by decide))).2; omega⟩
            refine lv_aload_n hx hb dX12_readsAll_78 rfl (lv_at hl 1 rfl) ?_
            refine lv_iconst (v := 0) hx hb dX12_readsAll_79 (by decide) ?_
            refine lv_aload_n hx hb dX12_readsAll_80 rfl (lv_at hl 1 rfl) ?_
            refine tw_getk hx hb hW hown hK hS f_X12_127_11 hz_a0 hk_a0 (v := x108) k106 dX12_readsAll_81 ?_
            refine tw_goi hS (md_runV (As := [.int 0, .int x108]) (rest := []) hx hb hml hown hW hK hT hS.1 (t_X12_fails l D cy tx base Z K N M101 R42 J100 hS.2.1 a0 hz_a0 hk_a0 0 (iv_mono (iv_c (c := 0) (n := 0) (by decide)) (by decide) (by decide)) x108 h107) s_X12_148 ⟨rfl, rfl, ⟨Nat.le_of_ble_eq_true rfl, Nat.le_of_ble_eq_true rfl⟩, ⟨Nat.le_of_ble_eq_true rfl, Nat.le_of_ble_eq_true rfl⟩⟩ hz_a0 hk_a0 (by decide) rfl rfl hl.1 rfl (Nat.le_of_ble_eq_true rfl) dX12_readsAll_84) rfl rfl (fun x133 H locs M130 R131 J129 hS f127 g128 E132 => ?_)
            have eR131 := Fr.nil g128 rfl
            subst eR131
            obtain ⟨h_x133, p134⟩ := E132
            have z135 : x133 = 0 → ¬ (M130 a0 14).toInt = 0 := p134
            have z136 := z135 (iv0 h_x133)
            refine lv_pop hx hb dX12_readsAll_87 rfl ?_
            refine lv_aload_n hx hb dX12_readsAll_88 rfl (lv_at hl 1 rfl) ?_
            refine lv_iconst (v := 0) hx hb dX12_readsAll_89 (by decide) ?_
            refine tw_puti hx hb hW hown hK hS f_X12_116_11 hz_a0 hk_a0 rfl rfl (lo := 0) (hi := 400) rfl (iv_mono (iv_c (c := 0) (n := 0) (by decide)) (by decide) (by decide)) rfl dX12_readsAll_90 (fun H locs M139 hS k137 f138 => ?_)
            refine lv_aload_n hx hb dX12_readsAll_93 rfl (lv_at hl 1 rfl) ?_
            refine tw_geti hx hb hW hown hK hS f_X12_124_11 hz_a0 hk_a0 (lo := (-2147483648)) (hi := 2147483647) rfl dX12_readsAll_94 (fun x142 k141 h140 => ?_)
            refine lv_if_ne (tgt := 104) hx hb dX12_readsAll_97 (by decide) (fun c143 => ?_) (fun c143 => ?_)
            · have q144 : ¬ x142.toInt = 0 := ti_ne c143
              refine lv_iconst (v := 0) hx hb dX12_readsAll_104 (by decide) ?_
              exact tw_endz hx hb hr hlocks hK hT hS hQ rfl (⟨(iv_mono (iv_c (c := 0) (n := 0) (by decide)) (by decide) (by decide)), ⟨(fun j hj => (Fr.kpa f138 hk_sg rfl j).trans ((fun j hj => (Fr.kpa f127 hk_sg rfl j).trans ((fun j hj => (Fr.kpa f98 hk_sg rfl j).trans ((fun j hj => (Fr.kpa f77 hk_sg rfl j).trans (w3_41 j hj)) j hj)) j hj)) j hj)), (fun j hj => (Fr.kpa f138 hk_cl rfl j).trans ((fun j hj => (Fr.kpa f127 hk_cl rfl j).trans ((fun j hj => (Fr.kpa f98 hk_cl rfl j).trans ((fun j hj => (Fr.kpa f77 hk_cl rfl j).trans (w4_41 j hj)) j hj)) j hj)) j hj)), (fun j hj => (Fr.kpa f138 hk_cs rfl j).trans ((fun j hj => (Fr.kpa f127 hk_cs rfl j).trans ((fun j hj => (Fr.kpa f98 hk_cs rfl j).trans ((fun j hj => (Fr.kpa f77 hk_cs rfl j).trans (w5_41 j hj)) j hj)) j hj)) j hj)), Or.inl rfl⟩⟩) dX12_readsAll_105
            · have q145 : x142.toInt = 0 := ti_eq c143
              have h146 : iv 0 0 x142 := ⟨by have := (h140).1; have := ((iv_c (c := 0) (n := 0) (by decide))).1; omega, by have := (h140).2; have := ((iv_c (c := 0) (n := 0) (by decide))).2; omega⟩
              refine lv_iconst (v := 1) hx hb dX12_readsAll_100 (by decide) ?_
              refine lv_goto (tgt := 105) hx hb dX12_readsAll_101 (by decide) ?_
              have k147 : M139 lg tq.toNatClampNeg = x50 := ((Fr.kpa f138 hk_lg rfl tq.toNatClampNeg).trans ((Fr.kpa f127 hk_lg rfl tq.toNatClampNeg).trans ((Fr.kpa f98 hk_lg rfl tq.toNatClampNeg).trans (Fr.kpa f77 hk_lg rfl tq.toNatClampNeg)))).trans k51
              have k148 : M139 cs tq.toNatClampNeg = x52 := ((Fr.kpa f138 hk_cs rfl tq.toNatClampNeg).trans ((Fr.kpa f127 hk_cs rfl tq.toNatClampNeg).trans ((Fr.kpa f98 hk_cs rfl tq.toNatClampNeg).trans (Fr.kpa f77 hk_cs rfl tq.toNatClampNeg)))).trans k53
              exact tw_endz hx hb hr hlocks hK hT hS hQ rfl (⟨(iv_mono (iv_c (c := 1) (n := 1) (by decide)) (by decide) (by decide)), ⟨(fun j hj => (Fr.kpa f138 hk_sg rfl j).trans ((fun j hj => (Fr.kpa f127 hk_sg rfl j).trans ((fun j hj => (Fr.kpa f98 hk_sg rfl j).trans ((fun j hj => (Fr.kpa f77 hk_sg rfl j).trans (w3_41 j hj)) j hj)) j hj)) j hj)), (fun j hj => (Fr.kpa f138 hk_cl rfl j).trans ((fun j hj => (Fr.kpa f127 hk_cl rfl j).trans ((fun j hj => (Fr.kpa f98 hk_cl rfl j).trans ((fun j hj => (Fr.kpa f77 hk_cl rfl j).trans (w4_41 j hj)) j hj)) j hj)) j hj)), (fun j hj => (Fr.kpa f138 hk_cs rfl j).trans ((fun j hj => (Fr.kpa f127 hk_cs rfl j).trans ((fun j hj => (Fr.kpa f98 hk_cs rfl j).trans ((fun j hj => (Fr.kpa f77 hk_cs rfl j).trans (w5_41 j hj)) j hj)) j hj)) j hj)), Or.inr (by rcases w2_41 with q | q | q; (· exfalso; omega); (· exact Or.inl q); (· exact Or.inr ⟨x50, x52, k147, k148, by have := (h_x50).2; omega, CI.to q (fun j _ => ((Fr.kpa f138 hk_cl rfl j).trans ((Fr.kpa f127 hk_cl rfl j).trans ((Fr.kpa f98 hk_cl rfl j).trans (Fr.kpa f77 hk_cl rfl j))))) (fun j _ => ((Fr.kpa f138 hk_sg rfl j).trans ((Fr.kpa f127 hk_sg rfl j).trans ((Fr.kpa f98 hk_sg rfl j).trans (Fr.kpa f77 hk_sg rfl j))))) (Int.le_refl _)⟩))⟩⟩) dX12_readsAll_105
        · have q149 : x83.toInt = 59 := ti_eq c91
          have h150 : iv 59 59 x83 := ⟨by have := (h_x83).1; have := ((iv_c (c := 59) (n := 59) (by decide))).1; omega, by have := (h_x83).2; have := ((iv_c (c := 59) (n := 59) (by decide))).2; omega⟩
          refine lv_aload_n hx hb dX12_readsAll_48 rfl (lv_at hl 1 rfl) ?_
          refine lv_dup hx hb dX12_readsAll_49 rfl ?_
          refine tw_getk hx hb hW hown hK hS f_X12_127_11 hz_a0 hk_a0 (v := x87) k85 dX12_readsAll_50 ?_
          refine lv_iconst (v := 1) hx hb dX12_readsAll_53 (by decide) ?_
          refine tw_iadd (lo := 1) (hi := 401) hx hb h86 (iv_c (c := 1) (n := 1) (by decide)) ⟨by decide, by decide⟩ ⟨by decide, by decide⟩ dX12_readsAll_54 (fun x153 e152 h151 => ?_)
          have e152 : x153.toInt = x87.toInt + 1 := e152
          have h156 : iv 0 400 x153 := by
            have := (h_cn).1; have := (h_cn).2; have := (h_tp).1; have := (h_tp).2; have := (h_tq).1; have := (h_tq).2; have := (h151).1; have := (h151).2; have := (h33).1; have := (h33).2; have := (h74).1; have := (h74).2; have := (h_x46).1; have := (h_x46).2; have := (h_x48).1; have := (h_x48).2; have := (h_x50).1; have := (h_x50).2; have := (h_x52).1; have := (h_x52).2; have := (h_x54).1; have := (h_x54).2; have := (h_x56).1; have := (h_x56).2; have := (h150).1; have := (h150).2; have := (h86).1; have := (h86).2; exact ⟨by omega, by omega⟩
          refine tw_puti hx hb hW hown hK hS f_X12_127_11 hz_a0 hk_a0 rfl rfl (lo := 0) (hi := 400) rfl h156 rfl dX12_readsAll_55 (fun H locs M157 hS k154 f155 => ?_)
          refine lv_aload_n hx hb dX12_readsAll_58 rfl (lv_at hl 1 rfl) ?_
          have k158 : R42 a0 0 = some tb := (Fr.kp (k := 0) g45 hk_a0 rfl).trans k_tb
          have k159 : M157 a0 1 = x54 := ((Fr.kp (k := 1) f155 hk_a0 rfl).trans (Fr.kp (k := 1) f77 hk_a0 rfl)).trans k55
          have q160 : x153.toInt ≤ x54.toInt := by
            have := (h_cn).1; have := (h_cn).2; have := (h_tp).1; have := (h_tp).2; have := (h_tq).1; have := (h_tq).2; have := (h156).1; have := (h156).2; have := (h33).1; have := (h33).2; have := (h74).1; have := (h74).2; have := (h_x46).1; have := (h_x46).2; have := (h_x48).1; have := (h_x48).2; have := (h_x50).1; have := (h_x50).2; have := (h_x52).1; have := (h_x52).2; have := (h_x54).1; have := (h_x54).2; have := (h_x56).1; have := (h_x56).2; have := (h150).1; have := (h150).2; have := (h86).1; have := (h86).2; omega
          have k161 : R42 a0 4 = some lg := (Fr.kp (k := 4) g45 hk_a0 rfl).trans k_lg
          have k162 : R42 a0 3 = some sg := (Fr.kp (k := 3) g45 hk_a0 rfl).trans k_sg
          have k163 : M157 a0 16 = tq := ((Fr.kp (k := 16) f155 hk_a0 rfl).trans ((Fr.kp (k := 16) f77 hk_a0 rfl).trans (Fr.kp (k := 16) f44 hk_a0 rfl))).trans k_tq
          have k164 : M157 lg tq.toNatClampNeg = x50 := ((Fr.kpa f155 hk_lg rfl tq.toNatClampNeg).trans (Fr.kpa f77 hk_lg rfl tq.toNatClampNeg)).trans k51
          obtain ⟨x167, k165⟩ : ∃ x, M157 a0 17 = x := ⟨_, rfl⟩
          have h166 : iv 0 60 x167 := by rw [← k165]; exact hS.2.1.int hz_a0 hk_a0 (show rgI 12 17 = (0, 60) from rfl)
          have k168 : R42 a0 20 = some op := (Fr.kp (k := 20) g45 hk_a0 rfl).trans k_op
          have k169 : R42 a0 6 = some cs := (Fr.kp (k := 6) g45 hk_a0 rfl).trans k_cs
          have k170 : R42 a0 5 = some cl := (Fr.kp (k := 5) g45 hk_a0 rfl).trans k_cl
          have k171 : M157 cs tq.toNatClampNeg = x52 := ((Fr.kpa f155 hk_cs rfl tq.toNatClampNeg).trans (Fr.kpa f77 hk_cs rfl tq.toNatClampNeg)).trans k53
          have k172 : M157 a0 19 = x48 := ((Fr.kp (k := 19) f155 hk_a0 rfl).trans (Fr.kp (k := 19) f77 hk_a0 rfl)).trans k49
          have q173 : tq.toInt = 6 ∨ (x50.toInt ≤ x153.toInt ∧ x52.toInt ≤ x48.toInt ∧ x48.toInt ≤ 12) := by
            have := (h_cn).1; have := (h_cn).2; have := (h_tp).1; have := (h_tp).2; have := (h_tq).1; have := (h_tq).2; have := (h156).1; have := (h156).2; have := (h33).1; have := (h33).2; have := (h74).1; have := (h74).2; have := (h_x46).1; have := (h_x46).2; have := (h_x48).1; have := (h_x48).2; have := (h_x50).1; have := (h_x50).2; have := (h_x52).1; have := (h_x52).2; have := (h_x54).1; have := (h_x54).2; have := (h_x56).1; have := (h_x56).2; have := (h150).1; have := (h150).2; have := (h86).1; have := (h86).2; omega
          refine tw_goi hS (md_runV (As := []) (rest := []) hx hb hml hown hW hK hT hS.1 (t_X12_clauseHere l D cy tx base Z K N M157 R42 J79 hS.2.1 a0 hz_a0 hk_a0 tb k158 x153 k154 (iv_mono h156 (by decide) (by decide)) x54 k159 (iv_mono h_x54 (by decide) (by decide)) q160 lg k161 sg k162 tq k163 (iv_mono h_tq (by decide) (by decide)) x50 k164 (iv_mono h_x50 (by decide) (by decide)) x167 k165 (iv_mono h166 (by decide) (by decide)) op k168 cs k169 cl k170 x52 k171 (iv_mono h_x52 (by decide) (by decide)) x48 k172 (iv_mono h_x48 (by decide) (by decide)) q173 (by rcases w2_41 with q | q | q; (· exact absurd q (by omega)); (· exact Or.inl q); (· exact Or.inr (CI.to q (fun j _ => ((Fr.kpa f155 hk_cl rfl j).trans (Fr.kpa f77 hk_cl rfl j))) (fun j _ => ((Fr.kpa f155 hk_sg rfl j).trans (Fr.kpa f77 hk_sg rfl j))) (Int.le_refl _))))) s_X12_295 ⟨rfl, rfl, ⟨Nat.le_of_ble_eq_true rfl, Nat.le_of_ble_eq_true rfl⟩, ⟨Nat.le_of_ble_eq_true rfl, Nat.le_of_ble_eq_true rfl⟩⟩ hz_a0 hk_a0 (by decide) rfl rfl hl.1 rfl (Nat.le_of_ble_eq_true rfl) dX12_readsAll_59) rfl rfl (fun x180 H locs M177 R178 J176 hS f174 g175 E179 => ?_)
          have eR178 := Fr.nil g175 rfl
          subst eR178
          obtain ⟨h_x180, p181, p182⟩ := E179
          obtain ⟨⟨x184, k185, h183, zu182, zv182⟩, zf182, zg182, zh182, zc182⟩ := p181
          have k185 : M177 a0 13 = x184 := k185
          have z186 : ∀ j, j < 400 * tq.toNatClampNeg → M177 sg j = Ma sg j := fun j hj => (zf182 j hj).trans ((fun j hj => (Fr.kpa f155 hk_sg rfl j).trans ((fun j hj => (Fr.kpa f77 hk_sg rfl j).trans (w3_41 j hj)) j hj)) j hj)
          have z187 : ∀ j, j < 36 * tq.toNatClampNeg → M177 cl j = Ma cl j := fun j hj => (zg182 j hj).trans ((fun j hj => (Fr.kpa f155 hk_cl rfl j).trans ((fun j hj => (Fr.kpa f77 hk_cl rfl j).trans (w4_41 j hj)) j hj)) j hj)
          have z188 : ∀ j, j ≠ tq.toNatClampNeg → M177 cs j = Ma cs j := fun j hj => (zh182 j hj).trans ((fun j hj => (Fr.kpa f155 hk_cs rfl j).trans ((fun j hj => (Fr.kpa f77 hk_cs rfl j).trans (w5_41 j hj)) j hj)) j hj)
          have z189 : x180 = 0 → ¬ (M177 a0 14).toInt = 0 := p182
          refine lv_istore_n (lv' := [(1, .int x180), (0, .ref (base + a0))]) hx hb dX12_readsAll_62 rfl hl (by decide) rfl (fun ls hl => ?_)
          refine lv_goto (tgt := 35) hx hb dX12_readsAll_63 (by decide) ?_
          obtain ⟨x192, k190⟩ : ∃ x, M177 a0 19 = x := ⟨_, rfl⟩
          have h191 : iv 0 16 x192 := by rw [← k190]; exact hS.2.1.int hz_a0 hk_a0 (show rgI 12 19 = (0, 16) from rfl)
          obtain ⟨x195, k193⟩ : ∃ x, M177 lg tq.toNatClampNeg = x := ⟨_, rfl⟩
          have h194 : iv 0 400 x195 := by rw [← k193]; exact hS.2.1.int hz_lg hk_lg (show rgI 26 tq.toNatClampNeg = (0, 400) from rfl)
          obtain ⟨x198, k196⟩ : ∃ x, M177 cs tq.toNatClampNeg = x := ⟨_, rfl⟩
          have h197 : iv 0 12 x198 := by rw [← k196]; exact hS.2.1.int hz_cs hk_cs (show rgI 28 tq.toNatClampNeg = (0, 12) from rfl)
          have k199 : M177 a0 1 = x54 := (Fr.kp (k := 1) f174 hk_a0 rfl).trans k159
          obtain ⟨x202, k200⟩ : ∃ x, M177 a0 14 = x := ⟨_, rfl⟩
          have h201 : iv (-2147483648) 2147483647 x202 := by rw [← k200]; exact hS.2.1.int hz_a0 hk_a0 (show rgI 12 14 = ((-2147483648), 2147483647) from rfl)
          have w203 : x184.toInt ≤ x54.toInt ∧ x54.toInt = tp.toInt := by
            have := (h_cn).1; have := (h_cn).2; have := (h_tp).1; have := (h_tp).2; have := (h_tq).1; have := (h_tq).2; have := (h156).1; have := (h156).2; have := (h183).1; have := (h183).2; have := (h33).1; have := (h33).2; have := (h74).1; have := (h74).2; have := (h_x46).1; have := (h_x46).2; have := (h_x48).1; have := (h_x48).2; have := (h_x50).1; have := (h_x50).2; have := (h_x52).1; have := (h_x52).2; have := (h_x54).1; have := (h_x54).2; have := (h_x56).1; have := (h_x56).2; have := (h150).1; have := (h150).2; have := (h86).1; have := (h86).2; omega
          have w204 : x180.toInt = 0 ∨ tq.toInt = 6 ∨ (x195.toInt ≤ x184.toInt ∧ x198.toInt ≤ x192.toInt ∧ x192.toInt ≤ 12) := by rcases zc182 with q | q | ⟨y0, y2, y4, y5, f0, f2, f4, f5, -, -, -, g1, g2, g3, g4⟩; (· exact Or.inl (by rw [q]; decide)); (· exact Or.inr (Or.inl q)); (· rw [show y2 = x195 from f2.symm.trans k193, show y0 = x184 from f0.symm.trans k185] at g1; rw [show y4 = x198 from f4.symm.trans k196, show y5 = x192 from f5.symm.trans k190] at g2; rw [show y5 = x192 from f5.symm.trans k190] at g3; exact Or.inr (Or.inr ⟨g1, g2, g3⟩))
          have w205 : x180.toInt = 0 ∨ tq.toInt = 6 ∨ CI M177 sg cl tq.toNatClampNeg x198.toNatClampNeg x195.toInt := by rcases zc182 with q | q | ⟨y0, y2, y4, y5, f0, f2, f4, f5, -, -, -, g1, g2, g3, g4⟩; (· exact Or.inl (by rw [q]; decide)); (· exact Or.inr (Or.inl q)); (· rw [show y2 = x195 from f2.symm.trans k193, show y4 = x198 from f4.symm.trans k196] at g4; exact Or.inr (Or.inr g4))
          have w206 : ∀ j, j < 400 * tq.toNatClampNeg → M177 sg j = Ma sg j := z186
          have w207 : ∀ j, j < 36 * tq.toNatClampNeg → M177 cl j = Ma cl j := z187
          have w208 : ∀ j, j ≠ tq.toNatClampNeg → M177 cs j = Ma cs j := z188
          have w209 : ¬ x180.toInt = 0 ∨ ¬ x202.toInt = 0 := by by_cases q : x180 = 0; (· have := z189 q; rw [k200] at this; exact Or.inr this); (· exact Or.inl (ti_ne q))
          have hm210 : 400 - x184.toInt < (n_41 : Int) := by
            have := (h_cn).1; have := (h_cn).2; have := (h_tp).1; have := (h_tp).2; have := (h_tq).1; have := (h_tq).2; have := (h156).1; have := (h156).2; have := (h183).1; have := (h183).2; have := (h33).1; have := (h33).2; have := (h74).1; have := (h74).2; have := (h_x46).1; have := (h_x46).2; have := (h_x48).1; have := (h_x48).2; have := (h_x50).1; have := (h_x50).2; have := (h_x52).1; have := (h_x52).2; have := (h_x54).1; have := (h_x54).2; have := (h_x56).1; have := (h_x56).2; have := (h150).1; have := (h150).2; have := (h86).1; have := (h86).2; omega
          exact ih_41 x180 x184 x192 x195 x198 x54 x202 M177 R42 J176 H locs _ h_x180 h183 k185 h191 k190 h194 k193 h197 k196 h_x54 k199 h201 k200 w203 w204 w205 w206 w207 w208 w209 hm210 hS hl
  obtain ⟨x213, k211⟩ : ∃ x, M27 a0 19 = x := ⟨_, rfl⟩
  have h212 : iv 0 16 x213 := by rw [← k211]; exact hS.2.1.int hz_a0 hk_a0 (show rgI 12 19 = (0, 16) from rfl)
  obtain ⟨x216, k214⟩ : ∃ x, M27 lg tq.toNatClampNeg = x := ⟨_, rfl⟩
  have h215 : iv 0 400 x216 := by rw [← k214]; exact hS.2.1.int hz_lg hk_lg (show rgI 26 tq.toNatClampNeg = (0, 400) from rfl)
  obtain ⟨x219, k217⟩ : ∃ x, M27 cs tq.toNatClampNeg = x := ⟨_, rfl⟩
  have h218 : iv 0 12 x219 := by rw [← k217]; exact hS.2.1.int hz_cs hk_cs (show rgI 28 tq.toNatClampNeg = (0, 12) from rfl)
  have k220 : M27 a0 1 = tp := ((Fr.kp (k := 1) f24 hk_a0 rfl).trans ((Fr.kp (k := 1) f14 hk_a0 rfl).trans ((Fr.kp (k := 1) f11 hk_a0 rfl).trans ((Fr.kp (k := 1) f8 hk_a0 rfl).trans ((Fr.kp (k := 1) f5 hk_a0 rfl).trans (Fr.kp (k := 1) f2 hk_a0 rfl)))))).trans k_tp
  obtain ⟨x223, k221⟩ : ∃ x, M27 a0 14 = x := ⟨_, rfl⟩
  have h222 : iv (-2147483648) 2147483647 x223 := by rw [← k221]; exact hS.2.1.int hz_a0 hk_a0 (show rgI 12 14 = ((-2147483648), 2147483647) from rfl)
  have w224 : x34.toInt ≤ tp.toInt ∧ tp.toInt = tp.toInt := by
    have := (h_cn).1; have := (h_cn).2; have := (h_tp).1; have := (h_tp).2; have := (h_tq).1; have := (h_tq).2; have := (h33).1; have := (h33).2; omega
  have w225 : x30.toInt = 0 ∨ tq.toInt = 6 ∨ (x216.toInt ≤ x34.toInt ∧ x219.toInt ≤ x213.toInt ∧ x213.toInt ≤ 12) := by rcases zc32 with q | q | ⟨y0, y2, y4, y5, f0, f2, f4, f5, -, -, -, g1, g2, g3, g4⟩; (· exact Or.inl (by rw [q]; decide)); (· exact Or.inr (Or.inl q)); (· rw [show y2 = x216 from f2.symm.trans k214, show y0 = x34 from f0.symm.trans k35] at g1; rw [show y4 = x219 from f4.symm.trans k217, show y5 = x213 from f5.symm.trans k211] at g2; rw [show y5 = x213 from f5.symm.trans k211] at g3; exact Or.inr (Or.inr ⟨g1, g2, g3⟩))
  have w226 : x30.toInt = 0 ∨ tq.toInt = 6 ∨ CI M27 sg cl tq.toNatClampNeg x219.toNatClampNeg x216.toInt := by rcases zc32 with q | q | ⟨y0, y2, y4, y5, f0, f2, f4, f5, -, -, -, g1, g2, g3, g4⟩; (· exact Or.inl (by rw [q]; decide)); (· exact Or.inr (Or.inl q)); (· rw [show y2 = x216 from f2.symm.trans k214, show y4 = x219 from f4.symm.trans k217] at g4; exact Or.inr (Or.inr g4))
  have w227 : ∀ j, j < 400 * tq.toNatClampNeg → M27 sg j = Ma sg j := z36
  have w228 : ∀ j, j < 36 * tq.toNatClampNeg → M27 cl j = Ma cl j := z37
  have w229 : ∀ j, j ≠ tq.toNatClampNeg → M27 cs j = Ma cs j := z38
  have w230 : ¬ x30.toInt = 0 ∨ ¬ x223.toInt = 0 := by by_cases q : x30 = 0; (· have := z39 q; rw [k221] at this; exact Or.inr this); (· exact Or.inl (ti_ne q))
  have hm231 : 400 - x34.toInt < (((401 : Nat) : Int) : Int) := by
    have := (h_cn).1; have := (h_cn).2; have := (h_tp).1; have := (h_tp).2; have := (h_tq).1; have := (h_tq).2; have := (h33).1; have := (h33).2; omega
  exact W35_41 401 x30 x34 x213 x216 x219 tp x223 M27 Ra J26 H locs _ h_x30 h33 k35 h212 k211 h215 k214 h218 k217 h_tp k220 h222 k221 w224 w225 w226 w227 w228 w229 w230 hm231 hS hl
def Lt_X12_rule : WL := [(12, 1, 3), (12, 7, 10), (12, 13, 20), (12, 21, 22), (14, 0, 2000000), (25, 0, 2000000), (26, 0, 2000000), (27, 0, 2000000), (28, 0, 2000000), (35, 0, 2000000)]
def LRt_X12_rule : WL := []
set_option maxRecDepth 100000 in
set_option maxHeartbeats 4000000 in
theorem t_X12_rule (l : Launch) (D : va_G) (cy : Nat → ClassId) (tx : (Nat → Nat) × (Nat → Nat)) (base Z : Nat) (K N : Nat → Nat) (Ma : MT) (Ra : RT) (Ja : JT) (hTy : Ty Z K N Ma Ra) (a0 : Nat) (hz_a0 : a0 < Z) (hk_a0 : K a0 = 12) (co_a0 : Codes Ma Ra a0) (sg : Nat) (k_sg : Ra a0 3 = some sg) (cl : Nat) (k_cl : Ra a0 5 = some cl) (cs : Nat) (k_cs : Ra a0 6 = some cs) : Met l yX12_rule [Cond.code yX12_rule cX12_rule 1 (some .int)] (md_rm 13 0 0) (va_Pc [.ref (base + a0)] (md_U D cy tx base Z K N Ma Ra Ja)) (mQi D cy tx base (fun r u => TP Z K N Lt_X12_rule LRt_X12_rule Ma Ra u ∧ (iv (-2147483648) 2147483647 r ∧ Codes u.2.2.2.1 u.2.2.2.2.1 a0))) 0 0 (fun q => base ≤ q) := by
  refine tw_ofW (L := Lt_X12_rule) (LR := LRt_X12_rule) (by decide) (Nat.le_of_ble_eq_true rfl) hTy ?_
  intro p e s m args below meth c Q ls hx hb hr hlocks hown hml hW hK hT hS hQ hl
  have hl : lv_has ls 1 [(0, .ref (base + a0))] := hl
  obtain ⟨hz_sg, hk_sg, hn_sg⟩ := hTy.refn hz_a0 hk_a0 (show rtR 12 3 = (25, 2400, 0) from rfl) k_sg
  have hn_sg := hn_sg (by decide)
  obtain ⟨hz_cl, hk_cl, hn_cl⟩ := hTy.refn hz_a0 hk_a0 (show rtR 12 5 = (27, 216, 0) from rfl) k_cl
  have hn_cl := hn_cl (by decide)
  obtain ⟨hz_cs, hk_cs, hn_cs⟩ := hTy.refn hz_a0 hk_a0 (show rtR 12 6 = (28, 6, 0) from rfl) k_cs
  have hn_cs := hn_cs (by decide)
  refine lv_aload_n hx hb dX12_rule_0 rfl (lv_at hl 0 rfl) ?_
  refine tw_geti hx hb hW hown hK hS f_X12_298_11 hz_a0 hk_a0 (lo := 0) (hi := 6) rfl dX12_rule_1 (fun x3 k2 h1 => ?_)
  refine lv_bipush (v := 6) hx hb dX12_rule_4 (by decide) ?_
  refine lv_icmp_ne (tgt := 11) hx hb dX12_rule_6 (by decide) (fun c4 => ?_) (fun c4 => ?_)
  · have q5 : ¬ x3.toInt = 6 := ti_ne c4
    have h6 : iv 0 5 x3 := ⟨by have := (h1).1; have := ((iv_c (c := 6) (n := 6) (by decide))).1; have := ((iv_c (c := 6) (n := 6) (by decide))).2; omega, by have := (h1).2; have := ((iv_c (c := 6) (n := 6) (by decide))).1; have := ((iv_c (c := 6) (n := 6) (by decide))).2; omega⟩
    refine lv_aload_n hx hb dX12_rule_11 rfl (lv_at hl 0 rfl) ?_
    refine lv_aload_n hx hb dX12_rule_12 rfl (lv_at hl 0 rfl) ?_
    refine tw_getk hx hb hW hown hK hS f_X12_298_11 hz_a0 hk_a0 (v := x3) k2 dX12_rule_13 ?_
    refine tw_puti hx hb hW hown hK hS f_X12_179_11 hz_a0 hk_a0 rfl rfl (lo := 0) (hi := 6) rfl (iv_mono h6 (by decide) (by decide)) rfl dX12_rule_16 (fun H locs M9 hS k7 f8 => ?_)
    refine lv_aload_n hx hb dX12_rule_19 rfl (lv_at hl 0 rfl) ?_
    refine tw_getrk hx hb hW hown hK hS f_X12_23_11 hz_a0 hk_a0 (b := cs) k_cs dX12_rule_20 ?_
    refine lv_aload_n hx hb dX12_rule_23 rfl (lv_at hl 0 rfl) ?_
    refine tw_getk hx hb hW hown hK hS f_X12_179_11 hz_a0 hk_a0 (v := x3) k7 dX12_rule_24 ?_
    refine lv_iconst (v := 0) hx hb dX12_rule_27 (by decide) ?_
    refine tw_iasx hx hb hK hS hz_cs hk_cs (Or.inr (by decide)) hn_cs h6 ⟨by decide, by decide⟩ (okI_0 28 _) (jl := 0) (jh := 1999999) ⟨by decide, by decide⟩ rfl dX12_rule_28 (fun H locs M13 hS k10 f11 e12 => ?_)
    have z14 : ∀ j, j ≠ x3.toNatClampNeg → M13 cs j = Ma cs j := fun j hj => by rw [e12, u2_nk hj]; exact (Fr.kpa f8 hk_cs rfl j)
    refine lv_aload_n hx hb dX12_rule_29 rfl (lv_at hl 0 rfl) ?_
    obtain ⟨b15, k16, hz_b15, hk_b15, hn_b15⟩ := hS.2.1.ref hz_a0 hk_a0 (show rtR 12 0 = (13, 400, 0) from rfl)
    have hn_b15 := hn_b15 (by decide)
    obtain ⟨x19, k17⟩ : ∃ x, M13 a0 1 = x := ⟨_, rfl⟩
    have h18 : iv 0 400 x19 := by rw [← k17]; exact hS.2.1.int hz_a0 hk_a0 (show rgI 12 1 = (0, 400) from rfl)
    obtain ⟨b20, k21, hz_b20, hk_b20, hn_b20⟩ := hS.2.1.ref hz_a0 hk_a0 (show rtR 12 4 = (26, 7, 0) from rfl)
    have hn_b20 := hn_b20 (by decide)
    have k22 : M13 a0 16 = x3 := (Fr.kp (k := 16) f11 hk_a0 rfl).trans k7
    obtain ⟨b23, k24, hz_b23, hk_b23, hn_b23⟩ := hS.2.1.ref hz_a0 hk_a0 (show rtR 12 20 = (14, 400, 0) from rfl)
    have hn_b23 := hn_b23 (by decide)
    have q25 : x3.toInt = 6 ∨ (0 : Int32).toInt = 0 := by
      have := (h6).1; have := (h6).2; have : (0 : Int32).toInt = 0 := (by decide); omega
    refine tw_goi hS (md_runV (As := []) (rest := []) hx hb hml hown hW hK hT hS.1 (t_X12_readsAll l D cy tx base Z K N M13 Ra Ja hS.2.1 a0 hz_a0 hk_a0 b15 k16 x19 k17 (iv_mono h18 (by decide) (by decide)) b20 k21 sg k_sg x3 k22 (iv_mono h6 (by decide) (by decide)) b23 k24 cs k_cs cl k_cl 0 k10 (iv_mono (iv_c (c := 0) (n := 0) (by decide)) (by decide) (by decide)) q25) s_X12_301 ⟨rfl, rfl, ⟨Nat.le_of_ble_eq_true rfl, Nat.le_of_ble_eq_true rfl⟩, ⟨Nat.le_of_ble_eq_true rfl, Nat.le_of_ble_eq_true rfl⟩⟩ hz_a0 hk_a0 (by decide) rfl rfl hl.1 rfl (Nat.le_of_ble_eq_true rfl) dX12_rule_30) rfl rfl (fun x32 H locs M29 R30 J28 hS f26 g27 E31 => ?_)
    have eR30 := Fr.nil g27 rfl
    subst eR30
    obtain ⟨h_x32, p33⟩ := E31
    obtain ⟨zf33, zg33, zh33, zc33⟩ := p33
    have zt33 := ti_cl (x := x3) (by have := (h6).1; omega)
    have k35 : M29 a0 2 = x3 := ((Fr.kp (k := 2) f26 hk_a0 rfl).trans ((Fr.kp (k := 2) f11 hk_a0 rfl).trans (Fr.kp (k := 2) f8 hk_a0 rfl))).trans k2
    have zb33 : ∀ t, (Ma cs t).toInt ≤ 12 := fun t => (hTy.int hz_cs hk_cs (k := t) (lo := 0) (hi := 12) rfl).2
    have z34 : Codes M29 Ra a0 := Codes.low (T := x3.toNatClampNeg) co_a0 k_sg k_cl k_cs k_sg k_cl k_cs (by rw [← ((Fr.kp (k := 2) f26 hk_a0 rfl).trans ((Fr.kp (k := 2) f11 hk_a0 rfl).trans (Fr.kp (k := 2) f8 hk_a0 rfl))), k35]; have := (h6).2; omega) (((Fr.kp (k := 2) f26 hk_a0 rfl).trans ((Fr.kp (k := 2) f11 hk_a0 rfl).trans (Fr.kp (k := 2) f8 hk_a0 rfl)))) zb33 (fun j hj => (zf33 j hj).trans ((fun j _ => ((Fr.kpa f11 hk_sg rfl j).trans (Fr.kpa f8 hk_sg rfl j))) j hj)) (fun j hj => (zg33 j hj).trans ((fun j _ => ((Fr.kpa f11 hk_cl rfl j).trans (Fr.kpa f8 hk_cl rfl j))) j hj)) (fun j hj => (zh33 j hj).trans (z14 j hj))
    have k36 : M29 a0 2 = x3 := ((Fr.kp (k := 2) f26 hk_a0 rfl).trans ((Fr.kp (k := 2) f11 hk_a0 rfl).trans (Fr.kp (k := 2) f8 hk_a0 rfl))).trans k2
    refine lv_if_ne (tgt := 44) hx hb dX12_rule_33 (by decide) (fun c37 => ?_) (fun c37 => ?_)
    · have q38 : ¬ x32.toInt = 0 := ti_ne c37
      have h39 : iv 1 1 x32 := ⟨by have := (h_x32).1; have := ((iv_c (c := 0) (n := 0) (by decide))).1; have := ((iv_c (c := 0) (n := 0) (by decide))).2; omega, by have := (h_x32).2; have := ((iv_c (c := 0) (n := 0) (by decide))).1; have := ((iv_c (c := 0) (n := 0) (by decide))).2; omega⟩
      refine lv_aload_n hx hb dX12_rule_44 rfl (lv_at hl 0 rfl) ?_
      refine lv_dup hx hb dX12_rule_45 rfl ?_
      have k40 : M29 a0 2 = x3 := ((Fr.kp (k := 2) f26 hk_a0 rfl).trans ((Fr.kp (k := 2) f11 hk_a0 rfl).trans (Fr.kp (k := 2) f8 hk_a0 rfl))).trans k2
      refine tw_getk hx hb hW hown hK hS f_X12_298_11 hz_a0 hk_a0 (v := x3) k40 dX12_rule_46 ?_
      refine lv_iconst (v := 1) hx hb dX12_rule_49 (by decide) ?_
      refine tw_iadd (lo := 1) (hi := 6) hx hb h6 (iv_c (c := 1) (n := 1) (by decide)) ⟨by decide, by decide⟩ ⟨by decide, by decide⟩ dX12_rule_50 (fun x43 e42 h41 => ?_)
      have e42 : x43.toInt = x3.toInt + 1 := e42
      refine tw_puti hx hb hW hown hK hS f_X12_298_11 hz_a0 hk_a0 rfl rfl (lo := 0) (hi := 6) rfl (iv_mono h41 (by decide) (by decide)) rfl dX12_rule_51 (fun H locs M46 hS k44 f45 => ?_)
      obtain ⟨y233, y433, u233, u433, u533, u633⟩ := (zc33.resolve_left c37).resolve_left (by have := (h6).2; omega)
      have zy33 : (M29 cs x3.toNatClampNeg).toInt ≤ ((y433.toNatClampNeg : Nat) : Int) := by rw [u433]; show _ ≤ ((y433.toInt.toNat : Nat) : Int); omega
      have z47 : Codes M46 Ra a0 := Codes.add (T := x3.toNatClampNeg) z34 k_sg k_cl k_cs k_sg k_cl k_cs (by rw [k36]; omega) (by rw [k44]; omega) (fun j => Fr.kpa f45 hk_sg rfl j) (fun j => Fr.kpa f45 hk_cl rfl j) (fun j => Fr.kpa f45 hk_cs rfl j) zy33 u533 u633
      refine lv_aload_n hx hb dX12_rule_54 rfl (lv_at hl 0 rfl) ?_
      refine tw_getk hx hb hW hown hK hS f_X12_298_11 hz_a0 hk_a0 (v := x43) k44 dX12_rule_55 ?_
      refine lv_iconst (v := 1) hx hb dX12_rule_58 (by decide) ?_
      refine tw_isub (lo := 0) (hi := 5) hx hb h41 (iv_c (c := 1) (n := 1) (by decide)) ⟨by decide, by decide⟩ ⟨by decide, by decide⟩ dX12_rule_59 (fun x50 e49 h48 => ?_)
      have e49 : x50.toInt = x43.toInt - 1 := e49
      exact tw_endi hx hb hr hlocks hK hT hS hQ (⟨(iv_mono h48 (by decide) (by decide)), z47⟩) dX12_rule_60
    · have q51 : x32.toInt = 0 := ti_eq c37
      have h52 : iv 0 0 x32 := ⟨by have := (h_x32).1; have := ((iv_c (c := 0) (n := 0) (by decide))).1; omega, by have := (h_x32).2; have := ((iv_c (c := 0) (n := 0) (by decide))).2; omega⟩
      refine lv_bipush (v := (-2)) hx hb dX12_rule_36 (by decide) ?_
      refine lv_aload_n hx hb dX12_rule_38 rfl (lv_at hl 0 rfl) ?_
      refine tw_geti hx hb hW hown hK hS f_X12_124_11 hz_a0 hk_a0 (lo := (-2147483648)) (hi := 2147483647) rfl dX12_rule_39 (fun x55 k54 h53 => ?_)
      refine lv_isub hx hb dX12_rule_42 ?_
      refine tw_top (fun x57 => ?_)
      have h56 := iv_any x57
      exact tw_endi hx hb hr hlocks hK hT hS hQ (⟨h56, z34⟩) dX12_rule_43
  · have q58 : x3.toInt = 6 := ti_eq c4
    have h59 : iv 6 6 x3 := ⟨by have := (h1).1; have := ((iv_c (c := 6) (n := 6) (by decide))).1; omega, by have := (h1).2; have := ((iv_c (c := 6) (n := 6) (by decide))).2; omega⟩
    refine lv_iconst (v := (-1)) hx hb dX12_rule_9 (by decide) ?_
    exact tw_endi hx hb hr hlocks hK hT hS hQ (⟨(iv_mono (iv_c (c := (-1)) (n := (-1)) (by decide)) (by decide) (by decide)), co_a0⟩) dX12_rule_10
