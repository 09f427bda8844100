def Lt_X12_closes : WL := [(12, 13, 14), (12, 18, 19), (12, 21, 22), (25, 0, 2000000), (26, 0, 2000000)]
def LRt_X12_closes : WL := []
set_option maxRecDepth 100000 in
set_option maxHeartbeats 4000000 in
theorem t_X12_closes (l : Launch) (D : va_G) (cy : Nat → ClassId) (tx : (Nat → Nat) × (Nat → Nat)) (base Z : Nat) (K N : Nat → Nat) (Ma : MT) (Ra : RT) (Ja : JT) (hTy : Ty Z K N Ma Ra) (a0 : Nat) (hz_a0 : a0 < Z) (hk_a0 : K a0 = 12) (tb : Nat) (k_tb : Ra a0 0 = some tb) (nx : Int32) (k_nx : Ma a0 13 = nx) (h_nx : iv 0 400 nx) (tp : Int32) (k_tp : Ma a0 1 = tp) (h_tp : iv 0 400 tp) (hnt : nx.toInt ≤ tp.toInt) (lg : Nat) (k_lg : Ra a0 4 = some lg) (sg : Nat) (k_sg : Ra a0 3 = some sg) (tq : Int32) (k_tq : Ma a0 16 = tq) (h_tq : iv 0 5 tq) (le : Int32) (k_le : Ma lg tq.toNatClampNeg = le) (h_le : iv 0 400 le) (md : Int32) (k_md : Ma a0 17 = md) (h_md : iv 0 60 md) (op : Nat) (k_op : Ra a0 20 = some op) (on : Int32) (k_on : Ma a0 21 = on) (h_on : iv 0 400 on) (sb : Nat) (sh : Nat) (hseg : SEG Ma sg tq.toNatClampNeg sb le.toNatClampNeg sh) (hsb : (sb : Int) ≤ le.toInt) (hsh : (sh : Int) ≤ md.toInt) (hbud : le.toInt + on.toInt ≤ nx.toInt) (hopk : opK Ma op on.toNatClampNeg) (hnb : nbo Ma op on.toNatClampNeg + 1 = sh) : Met l yX12_closes [Cond.code yX12_closes cX12_closes 1 none] (md_rm 3 0 0) (va_Pc [.ref (base + a0)] (md_U D cy tx base Z K N Ma Ra Ja)) (mQv D cy tx base (fun u => TP Z K N Lt_X12_closes LRt_X12_closes Ma Ra u ∧ ((∃ x0 x1 x2 : Int32, u.2.2.2.1 a0 13 = x0 ∧ u.2.2.2.1 a0 21 = x1 ∧ u.2.2.2.1 lg tq.toNatClampNeg = x2 ∧ iv 0 400 x0 ∧ iv 0 400 x1 ∧ iv 0 400 x2 ∧ (nx.toInt ≤ x0.toInt ∧ x0.toInt ≤ tp.toInt ∧ x1.toInt ≤ on.toInt ∧ x2.toInt + x1.toInt ≤ x0.toInt ∧ le.toInt ≤ x2.toInt) ∧ SEG u.2.2.2.1 sg tq.toNatClampNeg sb x2.toNatClampNeg (nbo Ma op x1.toNatClampNeg + 1) ∧ (∀ j, j < 400 * tq.toNatClampNeg + le.toNatClampNeg → u.2.2.2.1 sg j = Ma sg j))))) 0 0 (fun q => base ≤ q) := by
  refine tw_ofW (L := Lt_X12_closes) (LR := LRt_X12_closes) (by decide) (Nat.le_of_ble_eq_true rfl) hTy ?_
  intro p e s m args below meth c Q ls hx hb hr hlocks hown hml hW hK hT hS hQ hl
  have hl : lv_has ls 1 [(0, .ref (base + a0))] := hl
  obtain ⟨hz_tb, hk_tb, hn_tb⟩ := hTy.refn hz_a0 hk_a0 (show rtR 12 0 = (13, 400, 0) from rfl) k_tb
  have hn_tb := hn_tb (by decide)
  obtain ⟨hz_lg, hk_lg, hn_lg⟩ := hTy.refn hz_a0 hk_a0 (show rtR 12 4 = (26, 7, 0) from rfl) k_lg
  have hn_lg := hn_lg (by decide)
  obtain ⟨hz_sg, hk_sg, hn_sg⟩ := hTy.refn hz_a0 hk_a0 (show rtR 12 3 = (25, 2400, 0) from rfl) k_sg
  have hn_sg := hn_sg (by decide)
  obtain ⟨hz_op, hk_op, hn_op⟩ := hTy.refn hz_a0 hk_a0 (show rtR 12 20 = (14, 400, 0) from rfl) k_op
  have hn_op := hn_op (by decide)
  refine lv_aload_n hx hb dX12_closes_0 rfl (lv_at hl 0 rfl) ?_
  refine lv_iconst (v := 3) hx hb dX12_closes_1 (by decide) ?_
  have q1 : ((sb : Nat) : Int) ≤ le.toInt := by
    have := (h_le).1; have := (h_le).2; have := (h_md).1; have := (h_md).2; have := (h_nx).1; have := (h_nx).2; have := (h_on).1; have := (h_on).2; have := (h_tp).1; have := (h_tp).2; have := (h_tq).1; have := (h_tq).2; omega
  have q2 : ((sh : Nat) : Int) ≤ md.toInt := by
    have := (h_le).1; have := (h_le).2; have := (h_md).1; have := (h_md).2; have := (h_nx).1; have := (h_nx).2; have := (h_on).1; have := (h_on).2; have := (h_tp).1; have := (h_tp).2; have := (h_tq).1; have := (h_tq).2; omega
  have q3 : le.toInt + on.toInt ≤ nx.toInt := by
    have := (h_le).1; have := (h_le).2; have := (h_md).1; have := (h_md).2; have := (h_nx).1; have := (h_nx).2; have := (h_on).1; have := (h_on).2; have := (h_tp).1; have := (h_tp).2; have := (h_tq).1; have := (h_tq).2; omega
  have zb3 := ti_cl (x := on) (by have := (h_on).1; omega); have zq3 := ti_cl (x := on) (by have := h_on.1; omega)
  refine tw_gov hS (md_runV (As := [.int 3]) (rest := []) hx hb hml hown hW hK hT hS.1 (t_X12_settles l D cy tx base Z K N Ma Ra Ja hS.2.1 a0 hz_a0 hk_a0 3 (iv_mono (iv_c (c := 3) (n := 3) (by decide)) (by decide) (by decide)) nx k_nx (iv_mono h_nx (by decide) (by decide)) lg k_lg sg k_sg tq k_tq (iv_mono h_tq (by decide) (by decide)) le k_le (iv_mono h_le (by decide) (by decide)) md k_md (iv_mono h_md (by decide) (by decide)) op k_op on k_on (iv_mono h_on (by decide) (by decide)) (sb) (sh) hseg q1 q2 q3 hopk hnb) s_X12_227 ⟨rfl, rfl, ⟨Nat.le_of_ble_eq_true rfl, Nat.le_of_ble_eq_true rfl⟩, ⟨Nat.le_of_ble_eq_true rfl, Nat.le_of_ble_eq_true rfl⟩⟩ hz_a0 hk_a0 (by decide) rfl rfl hl.1 rfl (Nat.le_of_ble_eq_true rfl) dX12_closes_2) rfl rfl (fun H locs M7 R8 J6 hS f4 g5 E9 => ?_)
  have eR8 := Fr.nil g5 rfl
  subst eR8
  have p10 := E9
  clear E9
  obtain ⟨x13, x14, k15, k16, h11, h12, zr10, zg10, zf10, zz10, zl10⟩ := p10
  have k15 : M7 a0 21 = x13 := k15
  have k16 : M7 lg tq.toNatClampNeg = x14 := k16
  have zw10 := ti_cl (x := le) (by have := h_le.1; omega); have zy10 := ti_cl (x := le) (by have := (h_le).1; omega)
  have z17 : ∀ j, j < 400 * tq.toNatClampNeg + le.toNatClampNeg → M7 sg j = Ma sg j := fun j hj => (zf10 j (by omega)).trans ((fun j _ => rfl) j hj)
  have z18 : SEG M7 sg tq.toNatClampNeg sb x14.toNatClampNeg (nbo Ma op x13.toNatClampNeg + 1) := SEG.cast zg10 rfl (by rw [nbo_to _ (fun j _ => (Fr.kpa f4 hk_op rfl j).symm.trans (Fr.kpa hS.2.2.1 hk_op rfl j))])
  have zh10 := ti_cl (x := x13) (by have := (h11).1; omega); have zi10 := ti_cl (x := on) (by have := h_on.1; omega)
  have zk10 := nbo_mono (M := Ma) (op := op) on.toNatClampNeg x13.toNatClampNeg (by omega)
  have W5_19 : ∀ (n_19 : Nat) (x24 : Int32) (x26 : Int32) (x28 : Int32) (M19 : MT) (R20 : RT) (J21 : JT) (H : Heap) (locs : List Loc) (ls : Array Slot) (h_x24 : iv 0 400 x24) (k25 : M19 a0 13 = x24) (h_x26 : iv 0 400 x26) (k27 : M19 a0 21 = x26) (h_x28 : iv 0 400 x28) (k29 : M19 lg tq.toNatClampNeg = x28) (w0_19 : nx.toInt ≤ x24.toInt ∧ x24.toInt ≤ tp.toInt ∧ x26.toInt ≤ on.toInt ∧ x28.toInt + x26.toInt ≤ x24.toInt ∧ le.toInt ≤ x28.toInt) (w1_19 : SEG M19 sg tq.toNatClampNeg sb x28.toNatClampNeg (nbo Ma op x26.toNatClampNeg + 1)) (w2_19 : ∀ j, j < 400 * tq.toNatClampNeg + le.toNatClampNeg → M19 sg j = Ma sg j) (hm_19 : 400 - x24.toInt < (n_19 : Int)) (hS : SB D cy base Z K N Lt_X12_closes LRt_X12_closes Ma Ra M19 R20 J21 s H locs) (hl : lv_has ls 1 [(0, .ref (base + a0))]), W p l e (md_rm 3 0 0) s m args below meth c H locs 0 0 Q (F0 m 5 ls []) := by
    intro n_19
    induction n_19 with
    | zero =>
      intro x24 x26 x28 M19 R20 J21 H locs ls h_x24 k25 h_x26 k27 h_x28 k29 w0_19 w1_19 w2_19 hm_19 hS hl
      exfalso
      have := (h_le).1; have := (h_le).2; have := (h_md).1; have := (h_md).2; have := (h_nx).1; have := (h_nx).2; have := (h_on).1; have := (h_on).2; have := (h_tp).1; have := (h_tp).2; have := (h_tq).1; have := (h_tq).2; have := (h11).1; have := (h11).2; have := (h12).1; have := (h12).2; have := (h_x24).1; have := (h_x24).2; have := (h_x26).1; have := (h_x26).2; have := (h_x28).1; have := (h_x28).2; omega
    | succ n_19 ih_19 =>
      intro x24 x26 x28 M19 R20 J21 H locs ls h_x24 k25 h_x26 k27 h_x28 k29 w0_19 w1_19 w2_19 hm_19 hS hl
      have f22 := hS.2.2.1
      have g23 := hS.2.2.2
      refine lv_aload_n hx hb dX12_closes_5 rfl (lv_at hl 0 rfl) ?_
      have zh29 := ti_cl (x := x26) (by have := (h_x26).1; omega); have zi29 := ti_cl (x := on) (by have := h_on.1; omega)
      have zk29 := nbo_mono (M := Ma) (op := op) on.toNatClampNeg x26.toNatClampNeg (by omega)
      have k30 : R20 a0 0 = some tb := (Fr.kp (k := 0) g23 hk_a0 rfl).trans k_tb
      have k31 : M19 a0 1 = tp := (Fr.kp (k := 1) f22 hk_a0 rfl).trans k_tp
      have q32 : x24.toInt ≤ tp.toInt := by
        have := (h_le).1; have := (h_le).2; have := (h_md).1; have := (h_md).2; have := (h_nx).1; have := (h_nx).2; have := (h_on).1; have := (h_on).2; have := (h_tp).1; have := (h_tp).2; have := (h_tq).1; have := (h_tq).2; have := (h11).1; have := (h11).2; have := (h12).1; have := (h12).2; have := (h_x24).1; have := (h_x24).2; have := (h_x26).1; have := (h_x26).2; have := (h_x28).1; have := (h_x28).2; omega
      refine tw_goi hS (md_runV (As := []) (rest := []) hx hb hml hown hW hK hT hS.1 (t_X12_see l D cy tx base Z K N M19 R20 J21 hS.2.1 a0 hz_a0 hk_a0 tb k30 x24 k25 (iv_mono h_x24 (by decide) (by decide)) tp k31 (iv_mono h_tp (by decide) (by decide)) q32) s_X12_130 ⟨rfl, rfl, ⟨Nat.le_of_ble_eq_true rfl, Nat.le_of_ble_eq_true rfl⟩, ⟨Nat.le_of_ble_eq_true rfl, Nat.le_of_ble_eq_true rfl⟩⟩ hz_a0 hk_a0 (by decide) rfl rfl hl.1 rfl (Nat.le_of_ble_eq_true rfl) dX12_closes_6) rfl rfl (fun x39 H locs M36 R37 J35 hS f33 g34 E38 => ?_)
      have eR37 := Fr.nil g34 rfl
      subst eR37
      obtain ⟨h_x39, p40⟩ := E38
      obtain ⟨x43, k41, h42, q44, z45, z46⟩ := p40
      have k41 : M36 a0 13 = x43 := k41
      have z46 : ∀ j : Nat, j = x43.toNatClampNeg → x39.toInt = -1 ∨ ¬ (M36 tb j).toInt = 32 := z46
      refine lv_bipush (v := 93) hx hb dX12_closes_9 (by decide) ?_
      refine lv_icmp_ne (tgt := 64) hx hb dX12_closes_11 (by decide) (fun c47 => ?_) (fun c47 => ?_)
      · have q48 : ¬ x39.toInt = 93 := ti_ne c47
        have k49 : M36 a0 21 = x26 := (Fr.kp (k := 21) f33 hk_a0 rfl).trans k27
        have k50 : M36 lg tq.toNatClampNeg = x28 := (Fr.kpa f33 hk_lg rfl tq.toNatClampNeg).trans k29
        have q51 : nx.toInt ≤ x43.toInt ∧ x43.toInt ≤ tp.toInt ∧ x26.toInt ≤ on.toInt ∧ x28.toInt + x26.toInt ≤ x43.toInt ∧ le.toInt ≤ x28.toInt := by
          have := (h_le).1; have := (h_le).2; have := (h_md).1; have := (h_md).2; have := (h_nx).1; have := (h_nx).2; have := (h_on).1; have := (h_on).2; have := (h_tp).1; have := (h_tp).2; have := (h_tq).1; have := (h_tq).2; have := (h11).1; have := (h11).2; have := (h12).1; have := (h12).2; have := (h_x24).1; have := (h_x24).2; have := (h_x26).1; have := (h_x26).2; have := (h_x28).1; have := (h_x28).2; have := (h_x39).1; have := (h_x39).2; have := (h42).1; have := (h42).2; exact ⟨by omega, by omega, by omega, by omega, by omega⟩
        exact tw_endv hx hb hr hlocks hK hT hS hQ (⟨x43, x26, x28, k41, k49, k50, h42, h_x26, h_x28, q51, (SEG.to w1_19 (fun j _ _ => Fr.kpa f33 hk_sg rfl j)), (fun j hj => (Fr.kpa f33 hk_sg rfl j).trans (w2_19 j hj))⟩) dX12_closes_64
      · have q52 : x39.toInt = 93 := ti_eq c47
        have h53 : iv 93 93 x39 := ⟨by have := (h_x39).1; have := ((iv_c (c := 93) (n := 93) (by decide))).1; omega, by have := (h_x39).2; have := ((iv_c (c := 93) (n := 93) (by decide))).2; omega⟩
        refine lv_aload_n hx hb dX12_closes_14 rfl (lv_at hl 0 rfl) ?_
        have k54 : R20 a0 20 = some op := (Fr.kp (k := 20) g23 hk_a0 rfl).trans k_op
        have k55 : M36 a0 21 = x26 := (Fr.kp (k := 21) f33 hk_a0 rfl).trans k27
        refine tw_goi hS (md_runV (As := []) (rest := []) hx hb hml hown hW hK hT hS.1 (t_X12_isInside l D cy tx base Z K N M36 R20 J35 hS.2.1 a0 hz_a0 hk_a0 op k54 x26 k55 (iv_mono h_x26 (by decide) (by decide))) s_X12_230 ⟨rfl, rfl, ⟨Nat.le_of_ble_eq_true rfl, Nat.le_of_ble_eq_true rfl⟩, ⟨Nat.le_of_ble_eq_true rfl, Nat.le_of_ble_eq_true rfl⟩⟩ hz_a0 hk_a0 (by decide) rfl rfl hl.1 rfl (Nat.le_of_ble_eq_true rfl) dX12_closes_15) rfl rfl (fun x62 H locs M59 R60 J58 hS f56 g57 E61 => ?_)
        have eM59 := Fr.nil f56 rfl
        subst eM59
        have eR60 := Fr.nil g57 rfl
        subst eR60
        obtain ⟨h_x62, p63⟩ := E61
        refine lv_if_eq (tgt := 64) hx hb dX12_closes_18 (by decide) (fun c64 => ?_) (fun c64 => ?_)
        · have q65 : x62.toInt = 0 := ti_eq c64
          have z66 := p63.1 c64
          have h67 : iv 0 0 x62 := ⟨by have := (h_x62).1; have := ((iv_c (c := 0) (n := 0) (by decide))).1; omega, by have := (h_x62).2; have := ((iv_c (c := 0) (n := 0) (by decide))).2; omega⟩
          have k68 : M36 lg tq.toNatClampNeg = x28 := (Fr.kpa f33 hk_lg rfl tq.toNatClampNeg).trans k29
          have q69 : nx.toInt ≤ x43.toInt ∧ x43.toInt ≤ tp.toInt ∧ x26.toInt ≤ on.toInt ∧ x28.toInt + x26.toInt ≤ x43.toInt ∧ le.toInt ≤ x28.toInt := by
            have := (h_le).1; have := (h_le).2; have := (h_md).1; have := (h_md).2; have := (h_nx).1; have := (h_nx).2; have := (h_on).1; have := (h_on).2; have := (h_tp).1; have := (h_tp).2; have := (h_tq).1; have := (h_tq).2; have := (h11).1; have := (h11).2; have := (h12).1; have := (h12).2; have := (h_x24).1; have := (h_x24).2; have := (h_x26).1; have := (h_x26).2; have := (h_x28).1; have := (h_x28).2; have := (h53).1; have := (h53).2; have := (h42).1; have := (h42).2; exact ⟨by omega, by omega, by omega, by omega, by omega⟩
          exact tw_endv hx hb hr hlocks hK hT hS hQ (⟨x43, x26, x28, k41, k55, k68, h42, h_x26, h_x28, q69, (SEG.to w1_19 (fun j _ _ => Fr.kpa f33 hk_sg rfl j)), (fun j hj => (Fr.kpa f33 hk_sg rfl j).trans (w2_19 j hj))⟩) dX12_closes_64
        · have q70 : ¬ x62.toInt = 0 := ti_ne c64
          have h71 : iv 1 1 x62 := ⟨by have := (h_x62).1; have := ((iv_c (c := 0) (n := 0) (by decide))).1; have := ((iv_c (c := 0) (n := 0) (by decide))).2; omega, by have := (h_x62).2; have := ((iv_c (c := 0) (n := 0) (by decide))).1; have := ((iv_c (c := 0) (n := 0) (by decide))).2; omega⟩
          have z72 := p63.2 c64
          refine lv_aload_n hx hb dX12_closes_21 rfl (lv_at hl 0 rfl) ?_
          refine lv_iconst (v := 1) hx hb dX12_closes_22 (by decide) ?_
          have k73 : R20 a0 4 = some lg := (Fr.kp (k := 4) g23 hk_a0 rfl).trans k_lg
          have k74 : R20 a0 3 = some sg := (Fr.kp (k := 3) g23 hk_a0 rfl).trans k_sg
          have k75 : M36 a0 16 = tq := ((Fr.kp (k := 16) f33 hk_a0 rfl).trans (Fr.kp (k := 16) f22 hk_a0 rfl)).trans k_tq
          have k76 : M36 lg tq.toNatClampNeg = x28 := (Fr.kpa f33 hk_lg rfl tq.toNatClampNeg).trans k29
          have k77 : M36 a0 17 = md := ((Fr.kp (k := 17) f33 hk_a0 rfl).trans (Fr.kp (k := 17) f22 hk_a0 rfl)).trans k_md
          have k78 : R20 a0 20 = some op := (Fr.kp (k := 20) g23 hk_a0 rfl).trans k_op
          have q79 : ((sb : Nat) : Int) ≤ x28.toInt := by
            have := (h_le).1; have := (h_le).2; have := (h_md).1; have := (h_md).2; have := (h_nx).1; have := (h_nx).2; have := (h_on).1; have := (h_on).2; have := (h_tp).1; have := (h_tp).2; have := (h_tq).1; have := (h_tq).2; have := (h11).1; have := (h11).2; have := (h12).1; have := (h12).2; have := (h_x24).1; have := (h_x24).2; have := (h_x26).1; have := (h_x26).2; have := (h_x28).1; have := (h_x28).2; have := (h42).1; have := (h42).2; omega
          have q80 : ((nbo Ma op x26.toNatClampNeg + 1 : Nat) : Int) ≤ md.toInt := by
            have := (h_le).1; have := (h_le).2; have := (h_md).1; have := (h_md).2; have := (h_nx).1; have := (h_nx).2; have := (h_on).1; have := (h_on).2; have := (h_tp).1; have := (h_tp).2; have := (h_tq).1; have := (h_tq).2; have := (h11).1; have := (h11).2; have := (h12).1; have := (h12).2; have := (h_x24).1; have := (h_x24).2; have := (h_x26).1; have := (h_x26).2; have := (h_x28).1; have := (h_x28).2; have := (h42).1; have := (h42).2; omega
          have q81 : x28.toInt + x26.toInt ≤ x43.toInt := by
            have := (h_le).1; have := (h_le).2; have := (h_md).1; have := (h_md).2; have := (h_nx).1; have := (h_nx).2; have := (h_on).1; have := (h_on).2; have := (h_tp).1; have := (h_tp).2; have := (h_tq).1; have := (h_tq).2; have := (h11).1; have := (h11).2; have := (h12).1; have := (h12).2; have := (h_x24).1; have := (h_x24).2; have := (h_x26).1; have := (h_x26).2; have := (h_x28).1; have := (h_x28).2; have := (h53).1; have := (h53).2; have := (h42).1; have := (h42).2; omega
          have zb81 := ti_cl (x := x26) (by have := (h_x26).1; omega); have zq81 := ti_cl (x := on) (by have := h_on.1; omega)
          refine tw_gov hS (md_runV (As := [.int 1]) (rest := []) hx hb hml hown hW hK hT hS.1 (t_X12_settles l D cy tx base Z K N M36 R20 J58 hS.2.1 a0 hz_a0 hk_a0 1 (iv_mono (iv_c (c := 1) (n := 1) (by decide)) (by decide) (by decide)) x43 k41 (iv_mono h42 (by decide) (by decide)) lg k73 sg k74 tq k75 (iv_mono h_tq (by decide) (by decide)) x28 k76 (iv_mono h_x28 (by decide) (by decide)) md k77 (iv_mono h_md (by decide) (by decide)) op k78 x26 k55 (iv_mono h_x26 (by decide) (by decide)) (sb) (nbo Ma op x26.toNatClampNeg + 1) (SEG.to w1_19 (fun j _ _ => Fr.kpa f33 hk_sg rfl j)) q79 q80 q81 (opK.to (opK.less hopk (show x26.toNatClampNeg ≤ on.toNatClampNeg by omega)) (fun j _ => Fr.kpa hS.2.2.1 hk_op rfl j)) (by rw [nbo_to _ (fun j _ => Fr.kpa hS.2.2.1 hk_op rfl j)])) s_X12_227 ⟨rfl, rfl, ⟨Nat.le_of_ble_eq_true rfl, Nat.le_of_ble_eq_true rfl⟩, ⟨Nat.le_of_ble_eq_true rfl, Nat.le_of_ble_eq_true rfl⟩⟩ hz_a0 hk_a0 (by decide) rfl rfl hl.1 rfl (Nat.le_of_ble_eq_true rfl) dX12_closes_23) rfl rfl (fun H locs M85 R86 J84 hS f82 g83 E87 => ?_)
          have eR86 := Fr.nil g83 rfl
          subst eR86
          have p88 := E87
          clear E87
          obtain ⟨x91, x92, k93, k94, h89, h90, zr88, zg88, zf88, zz88, zl88⟩ := p88
          have k93 : M85 a0 21 = x91 := k93
          have k94 : M85 lg tq.toNatClampNeg = x92 := k94
          have zw88 := ti_cl (x := le) (by have := h_le.1; omega); have zy88 := ti_cl (x := x28) (by have := (h_x28).1; omega)
          have z95 : ∀ j, j < 400 * tq.toNatClampNeg + le.toNatClampNeg → M85 sg j = Ma sg j := fun j hj => (zf88 j (by omega)).trans ((fun j hj => (Fr.kpa f33 hk_sg rfl j).trans (w2_19 j hj)) j hj)
          have z96 : SEG M85 sg tq.toNatClampNeg sb x92.toNatClampNeg (nbo Ma op x91.toNatClampNeg + 1) := SEG.cast zg88 rfl (by rw [nbo_to _ (fun j _ => (Fr.kpa f82 hk_op rfl j).symm.trans (Fr.kpa hS.2.2.1 hk_op rfl j))])
          have zh88 := ti_cl (x := x91) (by have := (h89).1; omega); have zi88 := ti_cl (x := on) (by have := h_on.1; omega)
          have zk88 := nbo_mono (M := Ma) (op := op) on.toNatClampNeg x91.toNatClampNeg (by omega)
          have zb88 := ti_cl (x := x91) (by have := (h89).1; omega); have zc88 := ti_cl (x := x26) (by have := (h_x26).1; omega)
          obtain ⟨j88, zj88, zK88⟩ := z72
          have zn88 : j88 < x91.toNatClampNeg := Nat.not_le.mp (fun q => zz88 j88 q zj88 zK88)
          have h97 : iv 1 400 x91 := ⟨by omega, (h89).2⟩
          obtain ⟨k88, zu88, zv88⟩ := (zl88.resolve_left (by omega)).resolve_left (fun q => q (by decide))
          have zv88 : Ma op k88 = 91 := ((Fr.kpa f82 hk_op rfl _).symm.trans (Fr.kpa hS.2.2.1 hk_op rfl _)).symm.trans zv88
          refine lv_aload_n hx hb dX12_closes_26 rfl (lv_at hl 0 rfl) ?_
          refine lv_dup hx hb dX12_closes_27 rfl ?_
          refine tw_getk hx hb hW hown hK hS f_X12_188_11 hz_a0 hk_a0 (v := x91) k93 dX12_closes_28 ?_
          refine lv_iconst (v := 1) hx hb dX12_closes_31 (by decide) ?_
          refine tw_isub (lo := 0) (hi := 399) hx hb h97 (iv_c (c := 1) (n := 1) (by decide)) ⟨by decide, by decide⟩ ⟨by decide, by decide⟩ dX12_closes_32 (fun x100 e99 h98 => ?_)
          have e99 : x100.toInt = x91.toInt - 1 := e99
          refine tw_puti hx hb hW hown hK hS f_X12_188_11 hz_a0 hk_a0 rfl rfl (lo := 0) (hi := 400) rfl (iv_mono h98 (by decide) (by decide)) rfl dX12_closes_33 (fun H locs M103 hS k101 f102 => ?_)
          have zd88 := ti_cl (x := x100) (by have := (h98).1; omega)
          have ze88 := nbo_top (M := Ma) (op := op) (x := x100.toNatClampNeg) (t := x91.toNatClampNeg) (by omega) (by rw [show x100.toNatClampNeg = k88 by omega, zv88]; decide)
          have z104 : SEG M103 sg tq.toNatClampNeg sb x92.toNatClampNeg (nbo Ma op x100.toNatClampNeg + 1) := SEG.cast (SEG.to z96 (fun j _ _ => Fr.kpa f102 hk_sg rfl j)) rfl (by rw [ze88])
          refine lv_aload_n hx hb dX12_closes_36 rfl (lv_at hl 0 rfl) ?_
          refine lv_dup hx hb dX12_closes_37 rfl ?_
          refine tw_geti hx hb hW hown hK hS f_X12_185_11 hz_a0 hk_a0 (lo := (-2147483648)) (hi := 2147483647) rfl dX12_closes_38 (fun x107 k106 h105 => ?_)
          refine lv_iconst (v := 1) hx hb dX12_closes_41 (by decide) ?_
          refine lv_isub hx hb dX12_closes_42 ?_
          refine tw_top (fun x109 => ?_)
          have h108 := iv_any x109
          refine tw_puti hx hb hW hown hK hS f_X12_185_11 hz_a0 hk_a0 rfl rfl (lo := (-2147483648)) (hi := 2147483647) rfl h108 rfl dX12_closes_43 (fun H locs M112 hS k110 f111 => ?_)
          refine lv_aload_n hx hb dX12_closes_46 rfl (lv_at hl 0 rfl) ?_
          refine lv_dup hx hb dX12_closes_47 rfl ?_
          have k113 : M112 a0 13 = x43 := ((Fr.kp (k := 13) f111 hk_a0 rfl).trans ((Fr.kp (k := 13) f102 hk_a0 rfl).trans (Fr.kp (k := 13) f82 hk_a0 rfl))).trans k41
          refine tw_getk hx hb hW hown hK hS f_X12_127_11 hz_a0 hk_a0 (v := x43) k113 dX12_closes_48 ?_
          refine lv_iconst (v := 1) hx hb dX12_closes_51 (by decide) ?_
          refine tw_iadd (lo := 1) (hi := 401) hx hb h42 (iv_c (c := 1) (n := 1) (by decide)) ⟨by decide, by decide⟩ ⟨by decide, by decide⟩ dX12_closes_52 (fun x116 e115 h114 => ?_)
          have e115 : x116.toInt = x43.toInt + 1 := e115
          have h119 : iv 0 400 x116 := by
            have := (h_le).1; have := (h_le).2; have := (h_md).1; have := (h_md).2; have := (h_nx).1; have := (h_nx).2; have := (h_on).1; have := (h_on).2; have := (h_tp).1; have := (h_tp).2; have := (h_tq).1; have := (h_tq).2; have := (h114).1; have := (h114).2; have := (h11).1; have := (h11).2; have := (h12).1; have := (h12).2; have := (h_x24).1; have := (h_x24).2; have := (h_x26).1; have := (h_x26).2; have := (h_x28).1; have := (h_x28).2; have := (h53).1; have := (h53).2; have := (h42).1; have := (h42).2; have := (h97).1; have := (h97).2; have := (h90).1; have := (h90).2; exact ⟨by omega, by omega⟩
          refine tw_puti hx hb hW hown hK hS f_X12_127_11 hz_a0 hk_a0 rfl rfl (lo := 0) (hi := 400) rfl h119 rfl dX12_closes_53 (fun H locs M120 hS k117 f118 => ?_)
          refine lv_aload_n hx hb dX12_closes_56 rfl (lv_at hl 0 rfl) ?_
          refine lv_iconst (v := 3) hx hb dX12_closes_57 (by decide) ?_
          have k121 : R20 a0 4 = some lg := (Fr.kp (k := 4) g23 hk_a0 rfl).trans k_lg
          have k122 : R20 a0 3 = some sg := (Fr.kp (k := 3) g23 hk_a0 rfl).trans k_sg
          have k123 : M120 a0 16 = tq := ((Fr.kp (k := 16) f118 hk_a0 rfl).trans ((Fr.kp (k := 16) f111 hk_a0 rfl).trans ((Fr.kp (k := 16) f102 hk_a0 rfl).trans ((Fr.kp (k := 16) f82 hk_a0 rfl).trans ((Fr.kp (k := 16) f33 hk_a0 rfl).trans (Fr.kp (k := 16) f22 hk_a0 rfl)))))).trans k_tq
          have k124 : M120 lg tq.toNatClampNeg = x92 := ((Fr.kpa f118 hk_lg rfl tq.toNatClampNeg).trans ((Fr.kpa f111 hk_lg rfl tq.toNatClampNeg).trans (Fr.kpa f102 hk_lg rfl tq.toNatClampNeg))).trans k94
          have k125 : M120 a0 17 = md := ((Fr.kp (k := 17) f118 hk_a0 rfl).trans ((Fr.kp (k := 17) f111 hk_a0 rfl).trans ((Fr.kp (k := 17) f102 hk_a0 rfl).trans ((Fr.kp (k := 17) f82 hk_a0 rfl).trans ((Fr.kp (k := 17) f33 hk_a0 rfl).trans (Fr.kp (k := 17) f22 hk_a0 rfl)))))).trans k_md
          have k126 : R20 a0 20 = some op := (Fr.kp (k := 20) g23 hk_a0 rfl).trans k_op
          have k127 : M120 a0 21 = x100 := ((Fr.kp (k := 21) f118 hk_a0 rfl).trans (Fr.kp (k := 21) f111 hk_a0 rfl)).trans k101
          have q128 : ((sb : Nat) : Int) ≤ x92.toInt := by
            clear zb88 zc88 zj88 zK88 zn88 zu88; have := (h_le).1; have := (h_le).2; have := (h_md).1; have := (h_md).2; have := (h_nx).1; have := (h_nx).2; have := (h_on).1; have := (h_on).2; have := (h_tp).1; have := (h_tp).2; have := (h_tq).1; have := (h_tq).2; have := (h98).1; have := (h98).2; have := (h11).1; have := (h11).2; have := (h12).1; have := (h12).2; have := (h_x24).1; have := (h_x24).2; have := (h_x26).1; have := (h_x26).2; have := (h_x28).1; have := (h_x28).2; have := (h42).1; have := (h42).2; have := (h97).1; have := (h97).2; have := (h90).1; have := (h90).2; omega
          have q129 : ((nbo Ma op x100.toNatClampNeg + 1 : Nat) : Int) ≤ md.toInt := by
            clear zb88 zc88 zj88 zK88 zn88 zu88; have := (h_le).1; have := (h_le).2; have := (h_md).1; have := (h_md).2; have := (h_nx).1; have := (h_nx).2; have := (h_on).1; have := (h_on).2; have := (h_tp).1; have := (h_tp).2; have := (h_tq).1; have := (h_tq).2; have := (h98).1; have := (h98).2; have := (h11).1; have := (h11).2; have := (h12).1; have := (h12).2; have := (h_x24).1; have := (h_x24).2; have := (h_x26).1; have := (h_x26).2; have := (h_x28).1; have := (h_x28).2; have := (h42).1; have := (h42).2; have := (h97).1; have := (h97).2; have := (h90).1; have := (h90).2; omega
          have q130 : x92.toInt + x100.toInt ≤ x116.toInt := by
            clear zb88 zc88 zj88 zK88 zn88 zu88; have := (h_le).1; have := (h_le).2; have := (h_md).1; have := (h_md).2; have := (h_nx).1; have := (h_nx).2; have := (h_on).1; have := (h_on).2; have := (h_tp).1; have := (h_tp).2; have := (h_tq).1; have := (h_tq).2; have := (h98).1; have := (h98).2; have := (h119).1; have := (h119).2; have := (h11).1; have := (h11).2; have := (h12).1; have := (h12).2; have := (h_x24).1; have := (h_x24).2; have := (h_x26).1; have := (h_x26).2; have := (h_x28).1; have := (h_x28).2; have := (h53).1; have := (h53).2; have := (h42).1; have := (h42).2; have := (h97).1; have := (h97).2; have := (h90).1; have := (h90).2; omega
          have zb130 := ti_cl (x := x100) (by have := (h98).1; omega); have zq130 := ti_cl (x := on) (by have := h_on.1; omega)
          refine tw_gov hS (md_runV (As := [.int 3]) (rest := []) hx hb hml hown hW hK hT hS.1 (t_X12_settles l D cy tx base Z K N M120 R20 J84 hS.2.1 a0 hz_a0 hk_a0 3 (iv_mono (iv_c (c := 3) (n := 3) (by decide)) (by decide) (by decide)) x116 k117 (iv_mono h119 (by decide) (by decide)) lg k121 sg k122 tq k123 (iv_mono h_tq (by decide) (by decide)) x92 k124 (iv_mono h90 (by decide) (by decide)) md k125 (iv_mono h_md (by decide) (by decide)) op k126 x100 k127 (iv_mono h98 (by decide) (by decide)) (sb) (nbo Ma op x100.toNatClampNeg + 1) (SEG.to (SEG.to z104 (fun j _ _ => Fr.kpa f111 hk_sg rfl j)) (fun j _ _ => Fr.kpa f118 hk_sg rfl j)) q128 q129 q130 (opK.to (opK.less hopk (show x100.toNatClampNeg ≤ on.toNatClampNeg by omega)) (fun j _ => Fr.kpa hS.2.2.1 hk_op rfl j)) (by rw [nbo_to _ (fun j _ => Fr.kpa hS.2.2.1 hk_op rfl j)])) s_X12_227 ⟨rfl, rfl, ⟨Nat.le_of_ble_eq_true rfl, Nat.le_of_ble_eq_true rfl⟩, ⟨Nat.le_of_ble_eq_true rfl, Nat.le_of_ble_eq_true rfl⟩⟩ hz_a0 hk_a0 (by decide) rfl rfl hl.1 rfl (Nat.le_of_ble_eq_true rfl) dX12_closes_58) rfl rfl (fun H locs M134 R135 J133 hS f131 g132 E136 => ?_)
          have eR135 := Fr.nil g132 rfl
          subst eR135
          have p137 := E136
          clear E136
          obtain ⟨x140, x141, k142, k143, h138, h139, zr137, zg137, zf137, zz137, zl137⟩ := p137
          have k142 : M134 a0 21 = x140 := k142
          have k143 : M134 lg tq.toNatClampNeg = x141 := k143
          have zw137 := ti_cl (x := le) (by have := h_le.1; omega); have zy137 := ti_cl (x := x92) (by have := (h90).1; omega)
          have z144 : ∀ j, j < 400 * tq.toNatClampNeg + le.toNatClampNeg → M134 sg j = Ma sg j := fun j hj => (zf137 j (by omega)).trans ((fun j hj => (Fr.kpa f118 hk_sg rfl j).trans ((fun j hj => (Fr.kpa f111 hk_sg rfl j).trans ((fun j hj => (Fr.kpa f102 hk_sg rfl j).trans (z95 j hj)) j hj)) j hj)) j hj)
          have z145 : SEG M134 sg tq.toNatClampNeg sb x141.toNatClampNeg (nbo Ma op x140.toNatClampNeg + 1) := SEG.cast zg137 rfl (by rw [nbo_to _ (fun j _ => (Fr.kpa f131 hk_op rfl j).symm.trans (Fr.kpa hS.2.2.1 hk_op rfl j))])
          have zh137 := ti_cl (x := x140) (by have := (h138).1; omega); have zi137 := ti_cl (x := on) (by have := h_on.1; omega)
          have zk137 := nbo_mono (M := Ma) (op := op) on.toNatClampNeg x140.toNatClampNeg (by omega)
          refine lv_goto (tgt := 5) hx hb dX12_closes_61 (by decide) ?_
          have k146 : M134 a0 13 = x116 := (Fr.kp (k := 13) f131 hk_a0 rfl).trans k117
          have w147 : nx.toInt ≤ x116.toInt ∧ x116.toInt ≤ tp.toInt ∧ x140.toInt ≤ on.toInt ∧ x141.toInt + x140.toInt ≤ x116.toInt ∧ le.toInt ≤ x141.toInt := by
            clear zb88 zc88 zj88 zK88 zn88 zu88 zh137 zi137 zk137 hz_a0 hk_a0 hz_tb hk_tb hn_tb hz_lg hk_lg hn_lg hz_sg hk_sg hn_sg hz_op hk_op hn_op zh10 zi10 zk10 zw10 zy10 zr10 zl10 zl137 zl88 p63; have := (h_le).1; have := (h_le).2; have := (h_md).1; have := (h_md).2; have := (h_nx).1; have := (h_nx).2; have := (h_on).1; have := (h_on).2; have := (h_tp).1; have := (h_tp).2; have := (h_tq).1; have := (h_tq).2; have := (h98).1; have := (h98).2; have := (h119).1; have := (h119).2; have := (h11).1; have := (h11).2; have := (h12).1; have := (h12).2; have := (h138).1; have := (h138).2; have := (h139).1; have := (h139).2; have := (h_x24).1; have := (h_x24).2; have := (h_x26).1; have := (h_x26).2; have := (h_x28).1; have := (h_x28).2; have := (h53).1; have := (h53).2; have := (h42).1; have := (h42).2; have := (h97).1; have := (h97).2; have := (h90).1; have := (h90).2; exact ⟨by omega, by omega, by omega, by omega, by omega⟩
          have w148 : SEG M134 sg tq.toNatClampNeg sb x141.toNatClampNeg (nbo Ma op x140.toNatClampNeg + 1) := z145
          have w149 : ∀ j, j < 400 * tq.toNatClampNeg + le.toNatClampNeg → M134 sg j = Ma sg j := z144
          have hm150 : 400 - x116.toInt < (n_19 : Int) := by
            clear zb88 zc88 zj88 zK88 zn88 zu88 zh137 zi137 zk137 hz_a0 hk_a0 hz_tb hk_tb hn_tb hz_lg hk_lg hn_lg hz_sg hk_sg hn_sg hz_op hk_op hn_op zh10 zi10 zk10 zw10 zy10 zr10 zl10 zl137 zl88 p63; have := (h_le).1; have := (h_le).2; have := (h_md).1; have := (h_md).2; have := (h_nx).1; have := (h_nx).2; have := (h_on).1; have := (h_on).2; have := (h_tp).1; have := (h_tp).2; have := (h_tq).1; have := (h_tq).2; have := (h119).1; have := (h119).2; have := (h11).1; have := (h11).2; have := (h12).1; have := (h12).2; have := (h_x24).1; have := (h_x24).2; have := (h_x26).1; have := (h_x26).2; have := (h_x28).1; have := (h_x28).2; have := (h53).1; have := (h53).2; have := (h42).1; have := (h42).2; have := (h97).1; have := (h97).2; have := (h90).1; have := (h90).2; omega
          exact ih_19 x116 x140 x141 M134 R20 J133 H locs _ h119 k146 h138 k142 h139 k143 w147 w148 w149 hm150 hS hl
  have k151 : M7 a0 13 = nx := (Fr.kp (k := 13) f4 hk_a0 rfl).trans k_nx
  have w152 : nx.toInt ≤ nx.toInt ∧ nx.toInt ≤ tp.toInt ∧ x13.toInt ≤ on.toInt ∧ x14.toInt + x13.toInt ≤ nx.toInt ∧ le.toInt ≤ x14.toInt := by
    have := (h_le).1; have := (h_le).2; have := (h_md).1; have := (h_md).2; have := (h_nx).1; have := (h_nx).2; have := (h_on).1; have := (h_on).2; have := (h_tp).1; have := (h_tp).2; have := (h_tq).1; have := (h_tq).2; have := (h11).1; have := (h11).2; have := (h12).1; have := (h12).2; exact ⟨by omega, by omega, by omega, by omega, by omega⟩
  have w153 : SEG M7 sg tq.toNatClampNeg sb x14.toNatClampNeg (nbo Ma op x13.toNatClampNeg + 1) := z18
  have w154 : ∀ j, j < 400 * tq.toNatClampNeg + le.toNatClampNeg → M7 sg j = Ma sg j := z17
  have hm155 : 400 - nx.toInt < (((401 : Nat) : Int) : Int) := by
    have := (h_le).1; have := (h_le).2; have := (h_md).1; have := (h_md).2; have := (h_nx).1; have := (h_nx).2; have := (h_on).1; have := (h_on).2; have := (h_tp).1; have := (h_tp).2; have := (h_tq).1; have := (h_tq).2; omega
  exact W5_19 401 nx x13 x14 M7 Ra J6 H locs _ h_nx k151 h11 k15 h12 k16 w152 w153 w154 hm155 hS hl
def Lt_X12_makes : WL := [(12, 14, 15), (12, 17, 18)]
def LRt_X12_makes : WL := []
set_option maxRecDepth 100000 in
set_option maxHeartbeats 4000000 in
theorem t_X12_makes (l : Launch) (D : va_G) (cy : Nat → ClassId) (tx : (Nat → Nat) × (Nat → Nat)) (base Z : Nat) (K N : Nat → Nat) (Ma : MT) (Ra : RT) (Ja : JT) (hTy : Ty Z K N Ma Ra) (a0 : Nat) (hz_a0 : a0 < Z) (hk_a0 : K a0 = 12) (a1 : Int32) (h_a1 : iv 0 400 a1) (md : Int32) (k_md : Ma a0 17 = md) (h_md : iv 0 60 md) : Met l yX12_makes [Cond.code yX12_makes cX12_makes 2 (some .boolean)] (md_rm 2 0 0) (va_Pc [.ref (base + a0), .int a1] (md_U D cy tx base Z K N Ma Ra Ja)) (mQi D cy tx base (fun r u => TP Z K N Lt_X12_makes LRt_X12_makes Ma Ra u ∧ (iv 0 1 r ∧ (∃ x0 : Int32, u.2.2.2.1 a0 17 = x0 ∧ iv 0 60 x0 ∧ (r.toInt = 0 ∨ x0.toInt = md.toInt + 1)) ∧ (r = 0 → ¬ (u.2.2.2.1 a0 14).toInt = 0)))) 0 0 (fun q => base ≤ q) := by
  refine tw_ofW (L := Lt_X12_makes) (LR := LRt_X12_makes) (by decide) (Nat.le_of_ble_eq_true rfl) hTy ?_
  intro p e s m args below meth c Q ls hx hb hr hlocks hown hml hW hK hT hS hQ hl
  have hl : lv_has ls 2 [(0, .ref (base + a0)), (1, .int a1)] := hl
  refine lv_aload_n hx hb dX12_makes_0 rfl (lv_at hl 0 rfl) ?_
  refine tw_getk hx hb hW hown hK hS f_X12_182_11 hz_a0 hk_a0 (v := md) k_md dX12_makes_1 ?_
  refine lv_bipush (v := 60) hx hb dX12_makes_4 (by decide) ?_
  refine lv_icmp_ne (tgt := 16) hx hb dX12_makes_6 (by decide) (fun c1 => ?_) (fun c1 => ?_)
  · have q2 : ¬ md.toInt = 60 := ti_ne c1
    have h3 : iv 0 59 md := ⟨by have := (h_md).1; have := ((iv_c (c := 60) (n := 60) (by decide))).1; have := ((iv_c (c := 60) (n := 60) (by decide))).2; omega, by have := (h_md).2; have := ((iv_c (c := 60) (n := 60) (by decide))).1; have := ((iv_c (c := 60) (n := 60) (by decide))).2; omega⟩
    refine lv_aload_n hx hb dX12_makes_16 rfl (lv_at hl 0 rfl) ?_
    refine lv_dup hx hb dX12_makes_17 rfl ?_
    refine tw_getk hx hb hW hown hK hS f_X12_182_11 hz_a0 hk_a0 (v := md) k_md dX12_makes_18 ?_
    refine lv_iconst (v := 1) hx hb dX12_makes_21 (by decide) ?_
    refine tw_iadd (lo := 1) (hi := 60) hx hb h3 (iv_c (c := 1) (n := 1) (by decide)) ⟨by decide, by decide⟩ ⟨by decide, by decide⟩ dX12_makes_22 (fun x6 e5 h4 => ?_)
    have e5 : x6.toInt = md.toInt + 1 := e5
    refine tw_puti hx hb hW hown hK hS f_X12_182_11 hz_a0 hk_a0 rfl rfl (lo := 0) (hi := 60) rfl (iv_mono h4 (by decide) (by decide)) rfl dX12_makes_23 (fun H locs M9 hS k7 f8 => ?_)
    refine lv_iconst (v := 1) hx hb dX12_makes_26 (by decide) ?_
    have q10 : (1 : Int32).toInt = 0 ∨ x6.toInt = md.toInt + 1 := by
      have := (h_a1).1; have := (h_a1).2; have := (h3).1; have := (h3).2; have := (h4).1; have := (h4).2; have : (1 : Int32).toInt = 1 := (by decide); omega
    exact tw_endz hx hb hr hlocks hK hT hS hQ rfl (⟨(iv_mono (iv_c (c := 1) (n := 1) (by decide)) (by decide) (by decide)), ⟨x6, k7, (iv_mono h4 (by decide) (by decide)), q10⟩, (fun h => absurd h (by decide))⟩) dX12_makes_27
  · have q11 : md.toInt = 60 := ti_eq c1
    have h12 : iv 60 60 md := ⟨by have := (h_md).1; have := ((iv_c (c := 60) (n := 60) (by decide))).1; omega, by have := (h_md).2; have := ((iv_c (c := 60) (n := 60) (by decide))).2; omega⟩
    refine lv_aload_n hx hb dX12_makes_9 rfl (lv_at hl 0 rfl) ?_
    refine lv_iconst (v := 3) hx hb dX12_makes_10 (by decide) ?_
    refine lv_iload_n hx hb dX12_makes_11 rfl (lv_at hl 1 rfl) ?_
    refine tw_goi hS (md_runV (As := [.int 3, .int a1]) (rest := []) hx hb hml hown hW hK hT hS.1 (t_X12_fails l D cy tx base Z K N Ma Ra Ja hS.2.1 a0 hz_a0 hk_a0 3 (iv_mono (iv_c (c := 3) (n := 3) (by decide)) (by decide) (by decide)) a1 h_a1) s_X12_148 ⟨rfl, rfl, ⟨Nat.le_of_ble_eq_true rfl, Nat.le_of_ble_eq_true rfl⟩, ⟨Nat.le_of_ble_eq_true rfl, Nat.le_of_ble_eq_true rfl⟩⟩ hz_a0 hk_a0 (by decide) rfl rfl hl.1 rfl (Nat.le_of_ble_eq_true rfl) dX12_makes_12) rfl rfl (fun x19 H locs M16 R17 J15 hS f13 g14 E18 => ?_)
    have eR17 := Fr.nil g14 rfl
    subst eR17
    obtain ⟨h_x19, p20⟩ := E18
    have z21 : x19 = 0 → ¬ (M16 a0 14).toInt = 0 := p20
    have z22 := z21 (iv0 h_x19)
    have k23 : M16 a0 17 = md := (Fr.kp (k := 17) f13 hk_a0 rfl).trans k_md
    have q24 : x19.toInt = 0 ∨ md.toInt = md.toInt + 1 := by
      have := (h_a1).1; have := (h_a1).2; have := (h12).1; have := (h12).2; have := (h_x19).1; have := (h_x19).2; omega
    exact tw_endz hx hb hr hlocks hK hT hS hQ (nar_b (iv_mono h_x19 (by decide) (by decide))) (⟨(iv_mono h_x19 (by decide) (by decide)), ⟨md, k23, (iv_mono h12 (by decide) (by decide)), q24⟩, (fun _ => (show ¬ (M16 a0 14).toInt = 0 from z22))⟩) dX12_makes_15
def Lt_X12_wordHere : WL := [(12, 13, 14)]
def LRt_X12_wordHere : WL := []
set_option maxRecDepth 100000 in
set_option maxHeartbeats 4000000 in
theorem t_X12_wordHere (l : Launch) (D : va_G) (cy : Nat → ClassId) (tx : (Nat → Nat) × (Nat → Nat)) (base Z : Nat) (K N : Nat → Nat) (Ma : MT) (Ra : RT) (Ja : JT) (hTy : Ty Z K N Ma Ra) (a0 : Nat) (hz_a0 : a0 < Z) (hk_a0 : K a0 = 12) (tb : Nat) (k_tb : Ra a0 0 = some tb) (nx : Int32) (k_nx : Ma a0 13 = nx) (h_nx : iv 0 400 nx) (tp : Int32) (k_tp : Ma a0 1 = tp) (h_tp : iv 0 400 tp) (hnt : nx.toInt ≤ tp.toInt) : Met l yX12_wordHere [Cond.code yX12_wordHere cX12_wordHere 1 (some .int)] (md_rm 3 0 0) (va_Pc [.ref (base + a0)] (md_U D cy tx base Z K N Ma Ra Ja)) (mQi D cy tx base (fun r u => TP Z K N Lt_X12_wordHere LRt_X12_wordHere Ma Ra u ∧ (iv (-1) 9 r ∧ (∃ x0 : Int32, u.2.2.2.1 a0 13 = x0 ∧ iv 0 400 x0 ∧ (nx.toInt ≤ x0.toInt ∧ x0.toInt ≤ tp.toInt) ∧ (r.toInt < 0 ∨ chF 97 122 Ma tb x0 tp))))) 0 0 (fun q => base ≤ q) := by
  refine tw_ofW (L := Lt_X12_wordHere) (LR := LRt_X12_wordHere) (by decide) (Nat.le_of_ble_eq_true rfl) hTy ?_
  intro p e s m args below meth c Q ls hx hb hr hlocks hown hml hW hK hT hS hQ hl
  have hl : lv_has ls 1 [(0, .ref (base + a0))] := hl
  obtain ⟨hz_tb, hk_tb, hn_tb⟩ := hTy.refn hz_a0 hk_a0 (show rtR 12 0 = (13, 400, 0) from rfl) k_tb
  have hn_tb := hn_tb (by decide)
  refine lv_aload_n hx hb dX12_wordHere_0 rfl (lv_at hl 0 rfl) ?_
  refine lv_ldc2 hx hb hown (hW _ w_7_104 rfl) dX12_wordHere_1 ?_
  have q1 : nx.toInt ≤ tp.toInt := by
    have := (h_nx).1; have := (h_nx).2; have := (h_tp).1; have := (h_tp).2; omega
  refine tw_goi hS (md_runV (As := [.long 120282394289522]) (rest := []) hx hb hml hown hW hK hT hS.1 (t_X12_isWord l D cy tx base Z K N Ma Ra Ja hS.2.1 a0 hz_a0 hk_a0 (120282394289522) tb k_tb nx k_nx (iv_mono h_nx (by decide) (by decide)) tp k_tp (iv_mono h_tp (by decide) (by decide)) q1) s_X12_138 ⟨rfl, rfl, ⟨Nat.le_of_ble_eq_true rfl, Nat.le_of_ble_eq_true rfl⟩, ⟨Nat.le_of_ble_eq_true rfl, Nat.le_of_ble_eq_true rfl⟩⟩ hz_a0 hk_a0 (by decide) rfl rfl hl.1 rfl (Nat.le_of_ble_eq_true rfl) dX12_wordHere_4) rfl rfl (fun x8 H locs M5 R6 J4 hS f2 g3 E7 => ?_)
  have eR6 := Fr.nil g3 rfl
  subst eR6
  obtain ⟨h_x8, p9⟩ := E7
  obtain ⟨x12, k10, h11, q13, z14, z15⟩ := p9
  have k10 : M5 a0 13 = x12 := k10
  have z16 : ¬ x8 = 0 → chF 97 122 Ma tb x12 tp := fun h => chF.rf (chF.fr (z15 h) f2 hk_tb rfl) hS.2.2.1 hk_tb rfl
  refine lv_if_eq (tgt := 12) hx hb dX12_wordHere_7 (by decide) (fun c17 => ?_) (fun c17 => ?_)
  · have q18 : x8.toInt = 0 := ti_eq c17
    have h19 : iv 0 0 x8 := ⟨by have := (h_x8).1; have := ((iv_c (c := 0) (n := 0) (by decide))).1; omega, by have := (h_x8).2; have := ((iv_c (c := 0) (n := 0) (by decide))).2; omega⟩
    refine lv_aload_n hx hb dX12_wordHere_12 rfl (lv_at hl 0 rfl) ?_
    refine lv_ldc2 hx hb hown (hW _ w_7_4 rfl) dX12_wordHere_13 ?_
    have k20 : M5 a0 1 = tp := (Fr.kp (k := 1) f2 hk_a0 rfl).trans k_tp
    have q21 : x12.toInt ≤ tp.toInt := by
      have := (h_nx).1; have := (h_nx).2; have := (h_tp).1; have := (h_tp).2; have := (h11).1; have := (h11).2; have := (h19).1; have := (h19).2; omega
    refine tw_goi hS (md_runV (As := [.long 482905517684]) (rest := []) hx hb hml hown hW hK hT hS.1 (t_X12_isWord l D cy tx base Z K N M5 Ra J4 hS.2.1 a0 hz_a0 hk_a0 (482905517684) tb k_tb x12 k10 (iv_mono h11 (by decide) (by decide)) tp k20 (iv_mono h_tp (by decide) (by decide)) q21) s_X12_138 ⟨rfl, rfl, ⟨Nat.le_of_ble_eq_true rfl, Nat.le_of_ble_eq_true rfl⟩, ⟨Nat.le_of_ble_eq_true rfl, Nat.le_of_ble_eq_true rfl⟩⟩ hz_a0 hk_a0 (by decide) rfl rfl hl.1 rfl (Nat.le_of_ble_eq_true rfl) dX12_wordHere_16) rfl rfl (fun x28 H locs M25 R26 J24 hS f22 g23 E27 => ?_)
    have eR26 := Fr.nil g23 rfl
    subst eR26
    obtain ⟨h_x28, p29⟩ := E27
    obtain ⟨x32, k30, h31, q33, z34, z35⟩ := p29
    have k30 : M25 a0 13 = x32 := k30
    have z36 : ¬ x28 = 0 → chF 97 122 Ma tb x32 tp := fun h => chF.rf (chF.fr (z35 h) f22 hk_tb rfl) hS.2.2.1 hk_tb rfl
    refine lv_if_eq (tgt := 24) hx hb dX12_wordHere_19 (by decide) (fun c37 => ?_) (fun c37 => ?_)
    · have q38 : x28.toInt = 0 := ti_eq c37
      have h39 : iv 0 0 x28 := ⟨by have := (h_x28).1; have := ((iv_c (c := 0) (n := 0) (by decide))).1; omega, by have := (h_x28).2; have := ((iv_c (c := 0) (n := 0) (by decide))).2; omega⟩
      refine lv_aload_n hx hb dX12_wordHere_24 rfl (lv_at hl 0 rfl) ?_
      refine lv_ldc2 hx hb hown (hW _ w_7_105 rfl) dX12_wordHere_25 ?_
      have k40 : M25 a0 1 = tp := ((Fr.kp (k := 1) f22 hk_a0 rfl).trans (Fr.kp (k := 1) f2 hk_a0 rfl)).trans k_tp
      have q41 : x32.toInt ≤ tp.toInt := by
        have := (h_nx).1; have := (h_nx).2; have := (h_tp).1; have := (h_tp).2; have := (h11).1; have := (h11).2; have := (h39).1; have := (h39).2; have := (h31).1; have := (h31).2; have := (h19).1; have := (h19).2; omega
      refine tw_goi hS (md_runV (As := [.long 512970880104]) (rest := []) hx hb hml hown hW hK hT hS.1 (t_X12_isWord l D cy tx base Z K N M25 Ra J24 hS.2.1 a0 hz_a0 hk_a0 (512970880104) tb k_tb x32 k30 (iv_mono h31 (by decide) (by decide)) tp k40 (iv_mono h_tp (by decide) (by decide)) q41) s_X12_138 ⟨rfl, rfl, ⟨Nat.le_of_ble_eq_true rfl, Nat.le_of_ble_eq_true rfl⟩, ⟨Nat.le_of_ble_eq_true rfl, Nat.le_of_ble_eq_true rfl⟩⟩ hz_a0 hk_a0 (by decide) rfl rfl hl.1 rfl (Nat.le_of_ble_eq_true rfl) dX12_wordHere_28) rfl rfl (fun x48 H locs M45 R46 J44 hS f42 g43 E47 => ?_)
      have eR46 := Fr.nil g43 rfl
      subst eR46
      obtain ⟨h_x48, p49⟩ := E47
      obtain ⟨x52, k50, h51, q53, z54, z55⟩ := p49
      have k50 : M45 a0 13 = x52 := k50
      have z56 : ¬ x48 = 0 → chF 97 122 Ma tb x52 tp := fun h => chF.rf (chF.fr (z55 h) f42 hk_tb rfl) hS.2.2.1 hk_tb rfl
      refine lv_if_eq (tgt := 36) hx hb dX12_wordHere_31 (by decide) (fun c57 => ?_) (fun c57 => ?_)
      · have q58 : x48.toInt = 0 := ti_eq c57
        have h59 : iv 0 0 x48 := ⟨by have := (h_x48).1; have := ((iv_c (c := 0) (n := 0) (by decide))).1; omega, by have := (h_x48).2; have := ((iv_c (c := 0) (n := 0) (by decide))).2; omega⟩
        refine lv_aload_n hx hb dX12_wordHere_36 rfl (lv_at hl 0 rfl) ?_
        refine lv_ldc2 hx hb hown (hW _ w_7_5 rfl) dX12_wordHere_37 ?_
        have k60 : M45 a0 1 = tp := ((Fr.kp (k := 1) f42 hk_a0 rfl).trans ((Fr.kp (k := 1) f22 hk_a0 rfl).trans (Fr.kp (k := 1) f2 hk_a0 rfl))).trans k_tp
        have q61 : x52.toInt ≤ tp.toInt := by
          have := (h_nx).1; have := (h_nx).2; have := (h_tp).1; have := (h_tp).2; have := (h11).1; have := (h11).2; have := (h39).1; have := (h39).2; have := (h31).1; have := (h31).2; have := (h59).1; have := (h59).2; have := (h51).1; have := (h51).2; have := (h19).1; have := (h19).2; omega
        refine tw_goi hS (md_runV (As := [.long 130220881569139]) (rest := []) hx hb hml hown hW hK hT hS.1 (t_X12_isWord l D cy tx base Z K N M45 Ra J44 hS.2.1 a0 hz_a0 hk_a0 (130220881569139) tb k_tb x52 k50 (iv_mono h51 (by decide) (by decide)) tp k60 (iv_mono h_tp (by decide) (by decide)) q61) s_X12_138 ⟨rfl, rfl, ⟨Nat.le_of_ble_eq_true rfl, Nat.le_of_ble_eq_true rfl⟩, ⟨Nat.le_of_ble_eq_true rfl, Nat.le_of_ble_eq_true rfl⟩⟩ hz_a0 hk_a0 (by decide) rfl rfl hl.1 rfl (Nat.le_of_ble_eq_true rfl) dX12_wordHere_40) rfl rfl (fun x68 H locs M65 R66 J64 hS f62 g63 E67 => ?_)
        have eR66 := Fr.nil g63 rfl
        subst eR66
        obtain ⟨h_x68, p69⟩ := E67
        obtain ⟨x72, k70, h71, q73, z74, z75⟩ := p69
        have k70 : M65 a0 13 = x72 := k70
        have z76 : ¬ x68 = 0 → chF 97 122 Ma tb x72 tp := fun h => chF.rf (chF.fr (z75 h) f62 hk_tb rfl) hS.2.2.1 hk_tb rfl
        refine lv_if_eq (tgt := 48) hx hb dX12_wordHere_43 (by decide) (fun c77 => ?_) (fun c77 => ?_)
        · have q78 : x68.toInt = 0 := ti_eq c77
          have h79 : iv 0 0 x68 := ⟨by have := (h_x68).1; have := ((iv_c (c := 0) (n := 0) (by decide))).1; omega, by have := (h_x68).2; have := ((iv_c (c := 0) (n := 0) (by decide))).2; omega⟩
          refine lv_aload_n hx hb dX12_wordHere_48 rfl (lv_at hl 0 rfl) ?_
          refine lv_ldc2 hx hb hown (hW _ w_7_106 rfl) dX12_wordHere_49 ?_
          have k80 : M65 a0 1 = tp := ((Fr.kp (k := 1) f62 hk_a0 rfl).trans ((Fr.kp (k := 1) f42 hk_a0 rfl).trans ((Fr.kp (k := 1) f22 hk_a0 rfl).trans (Fr.kp (k := 1) f2 hk_a0 rfl)))).trans k_tp
          have q81 : x72.toInt ≤ tp.toInt := by
            have := (h_nx).1; have := (h_nx).2; have := (h_tp).1; have := (h_tp).2; have := (h11).1; have := (h11).2; have := (h39).1; have := (h39).2; have := (h31).1; have := (h31).2; have := (h59).1; have := (h59).2; have := (h51).1; have := (h51).2; have := (h79).1; have := (h79).2; have := (h71).1; have := (h71).2; have := (h19).1; have := (h19).2; omega
          refine tw_goi hS (md_runV (As := [.long 7566701]) (rest := []) hx hb hml hown hW hK hT hS.1 (t_X12_isWord l D cy tx base Z K N M65 Ra J64 hS.2.1 a0 hz_a0 hk_a0 (7566701) tb k_tb x72 k70 (iv_mono h71 (by decide) (by decide)) tp k80 (iv_mono h_tp (by decide) (by decide)) q81) s_X12_138 ⟨rfl, rfl, ⟨Nat.le_of_ble_eq_true rfl, Nat.le_of_ble_eq_true rfl⟩, ⟨Nat.le_of_ble_eq_true rfl, Nat.le_of_ble_eq_true rfl⟩⟩ hz_a0 hk_a0 (by decide) rfl rfl hl.1 rfl (Nat.le_of_ble_eq_true rfl) dX12_wordHere_52) rfl rfl (fun x88 H locs M85 R86 J84 hS f82 g83 E87 => ?_)
          have eR86 := Fr.nil g83 rfl
          subst eR86
          obtain ⟨h_x88, p89⟩ := E87
          obtain ⟨x92, k90, h91, q93, z94, z95⟩ := p89
          have k90 : M85 a0 13 = x92 := k90
          have z96 : ¬ x88 = 0 → chF 97 122 Ma tb x92 tp := fun h => chF.rf (chF.fr (z95 h) f82 hk_tb rfl) hS.2.2.1 hk_tb rfl
          refine lv_if_eq (tgt := 60) hx hb dX12_wordHere_55 (by decide) (fun c97 => ?_) (fun c97 => ?_)
          · have q98 : x88.toInt = 0 := ti_eq c97
            have h99 : iv 0 0 x88 := ⟨by have := (h_x88).1; have := ((iv_c (c := 0) (n := 0) (by decide))).1; omega, by have := (h_x88).2; have := ((iv_c (c := 0) (n := 0) (by decide))).2; omega⟩
            refine lv_aload_n hx hb dX12_wordHere_60 rfl (lv_at hl 0 rfl) ?_
            refine lv_ldc2 hx hb hown (hW _ w_7_107 rfl) dX12_wordHere_61 ?_
            have k100 : M85 a0 1 = tp := ((Fr.kp (k := 1) f82 hk_a0 rfl).trans ((Fr.kp (k := 1) f62 hk_a0 rfl).trans ((Fr.kp (k := 1) f42 hk_a0 rfl).trans ((Fr.kp (k := 1) f22 hk_a0 rfl).trans (Fr.kp (k := 1) f2 hk_a0 rfl))))).trans k_tp
            have q101 : x92.toInt ≤ tp.toInt := by
              have := (h_nx).1; have := (h_nx).2; have := (h_tp).1; have := (h_tp).2; have := (h11).1; have := (h11).2; have := (h39).1; have := (h39).2; have := (h31).1; have := (h31).2; have := (h59).1; have := (h59).2; have := (h51).1; have := (h51).2; have := (h79).1; have := (h79).2; have := (h71).1; have := (h71).2; have := (h19).1; have := (h19).2; have := (h99).1; have := (h99).2; have := (h91).1; have := (h91).2; omega
            refine tw_goi hS (md_runV (As := [.long 6713202]) (rest := []) hx hb hml hown hW hK hT hS.1 (t_X12_isWord l D cy tx base Z K N M85 Ra J84 hS.2.1 a0 hz_a0 hk_a0 (6713202) tb k_tb x92 k90 (iv_mono h91 (by decide) (by decide)) tp k100 (iv_mono h_tp (by decide) (by decide)) q101) s_X12_138 ⟨rfl, rfl, ⟨Nat.le_of_ble_eq_true rfl, Nat.le_of_ble_eq_true rfl⟩, ⟨Nat.le_of_ble_eq_true rfl, Nat.le_of_ble_eq_true rfl⟩⟩ hz_a0 hk_a0 (by decide) rfl rfl hl.1 rfl (Nat.le_of_ble_eq_true rfl) dX12_wordHere_64) rfl rfl (fun x108 H locs M105 R106 J104 hS f102 g103 E107 => ?_)
            have eR106 := Fr.nil g103 rfl
            subst eR106
            obtain ⟨h_x108, p109⟩ := E107
            obtain ⟨x112, k110, h111, q113, z114, z115⟩ := p109
            have k110 : M105 a0 13 = x112 := k110
            have z116 : ¬ x108 = 0 → chF 97 122 Ma tb x112 tp := fun h => chF.rf (chF.fr (z115 h) f102 hk_tb rfl) hS.2.2.1 hk_tb rfl
            refine lv_if_eq (tgt := 72) hx hb dX12_wordHere_67 (by decide) (fun c117 => ?_) (fun c117 => ?_)
            · have q118 : x108.toInt = 0 := ti_eq c117
              have h119 : iv 0 0 x108 := ⟨by have := (h_x108).1; have := ((iv_c (c := 0) (n := 0) (by decide))).1; omega, by have := (h_x108).2; have := ((iv_c (c := 0) (n := 0) (by decide))).2; omega⟩
              refine lv_aload_n hx hb dX12_wordHere_72 rfl (lv_at hl 0 rfl) ?_
              refine lv_ldc2 hx hb hown (hW _ w_7_108 rfl) dX12_wordHere_73 ?_
              have k120 : M105 a0 1 = tp := ((Fr.kp (k := 1) f102 hk_a0 rfl).trans ((Fr.kp (k := 1) f82 hk_a0 rfl).trans ((Fr.kp (k := 1) f62 hk_a0 rfl).trans ((Fr.kp (k := 1) f42 hk_a0 rfl).trans ((Fr.kp (k := 1) f22 hk_a0 rfl).trans (Fr.kp (k := 1) f2 hk_a0 rfl)))))).trans k_tp
              have q121 : x112.toInt ≤ tp.toInt := by
                have := (h_nx).1; have := (h_nx).2; have := (h_tp).1; have := (h_tp).2; have := (h119).1; have := (h119).2; have := (h111).1; have := (h111).2; have := (h11).1; have := (h11).2; have := (h39).1; have := (h39).2; have := (h31).1; have := (h31).2; have := (h59).1; have := (h59).2; have := (h51).1; have := (h51).2; have := (h79).1; have := (h79).2; have := (h71).1; have := (h71).2; have := (h19).1; have := (h19).2; have := (h99).1; have := (h99).2; have := (h91).1; have := (h91).2; omega
              refine tw_goi hS (md_runV (As := [.long 27416740819268468]) (rest := []) hx hb hml hown hW hK hT hS.1 (t_X12_isWord l D cy tx base Z K N M105 Ra J104 hS.2.1 a0 hz_a0 hk_a0 (27416740819268468) tb k_tb x112 k110 (iv_mono h111 (by decide) (by decide)) tp k120 (iv_mono h_tp (by decide) (by decide)) q121) s_X12_138 ⟨rfl, rfl, ⟨Nat.le_of_ble_eq_true rfl, Nat.le_of_ble_eq_true rfl⟩, ⟨Nat.le_of_ble_eq_true rfl, Nat.le_of_ble_eq_true rfl⟩⟩ hz_a0 hk_a0 (by decide) rfl rfl hl.1 rfl (Nat.le_of_ble_eq_true rfl) dX12_wordHere_76) rfl rfl (fun x128 H locs M125 R126 J124 hS f122 g123 E127 => ?_)
              have eR126 := Fr.nil g123 rfl
              subst eR126
              obtain ⟨h_x128, p129⟩ := E127
              obtain ⟨x132, k130, h131, q133, z134, z135⟩ := p129
              have k130 : M125 a0 13 = x132 := k130
              have z136 : ¬ x128 = 0 → chF 97 122 Ma tb x132 tp := fun h => chF.rf (chF.fr (z135 h) f122 hk_tb rfl) hS.2.2.1 hk_tb rfl
              refine lv_if_eq (tgt := 85) hx hb dX12_wordHere_79 (by decide) (fun c137 => ?_) (fun c137 => ?_)
              · have q138 : x128.toInt = 0 := ti_eq c137
                have h139 : iv 0 0 x128 := ⟨by have := (h_x128).1; have := ((iv_c (c := 0) (n := 0) (by decide))).1; omega, by have := (h_x128).2; have := ((iv_c (c := 0) (n := 0) (by decide))).2; omega⟩
                refine lv_aload_n hx hb dX12_wordHere_85 rfl (lv_at hl 0 rfl) ?_
                refine lv_ldc2 hx hb hown (hW _ w_7_109 rfl) dX12_wordHere_86 ?_
                have k140 : M125 a0 1 = tp := ((Fr.kp (k := 1) f122 hk_a0 rfl).trans ((Fr.kp (k := 1) f102 hk_a0 rfl).trans ((Fr.kp (k := 1) f82 hk_a0 rfl).trans ((Fr.kp (k := 1) f62 hk_a0 rfl).trans ((Fr.kp (k := 1) f42 hk_a0 rfl).trans ((Fr.kp (k := 1) f22 hk_a0 rfl).trans (Fr.kp (k := 1) f2 hk_a0 rfl))))))).trans k_tp
                have q141 : x132.toInt ≤ tp.toInt := by
                  have := (h_nx).1; have := (h_nx).2; have := (h_tp).1; have := (h_tp).2; have := (h119).1; have := (h119).2; have := (h111).1; have := (h111).2; have := (h11).1; have := (h11).2; have := (h139).1; have := (h139).2; have := (h131).1; have := (h131).2; have := (h39).1; have := (h39).2; have := (h31).1; have := (h31).2; have := (h59).1; have := (h59).2; have := (h51).1; have := (h51).2; have := (h79).1; have := (h79).2; have := (h71).1; have := (h71).2; have := (h19).1; have := (h19).2; have := (h99).1; have := (h99).2; have := (h91).1; have := (h91).2; omega
                refine tw_goi hS (md_runV (As := [.long 1836020596]) (rest := []) hx hb hml hown hW hK hT hS.1 (t_X12_isWord l D cy tx base Z K N M125 Ra J124 hS.2.1 a0 hz_a0 hk_a0 (1836020596) tb k_tb x132 k130 (iv_mono h131 (by decide) (by decide)) tp k140 (iv_mono h_tp (by decide) (by decide)) q141) s_X12_138 ⟨rfl, rfl, ⟨Nat.le_of_ble_eq_true rfl, Nat.le_of_ble_eq_true rfl⟩, ⟨Nat.le_of_ble_eq_true rfl, Nat.le_of_ble_eq_true rfl⟩⟩ hz_a0 hk_a0 (by decide) rfl rfl hl.1 rfl (Nat.le_of_ble_eq_true rfl) dX12_wordHere_89) rfl rfl (fun x148 H locs M145 R146 J144 hS f142 g143 E147 => ?_)
                have eR146 := Fr.nil g143 rfl
                subst eR146
                obtain ⟨h_x148, p149⟩ := E147
                obtain ⟨x152, k150, h151, q153, z154, z155⟩ := p149
                have k150 : M145 a0 13 = x152 := k150
                have z156 : ¬ x148 = 0 → chF 97 122 Ma tb x152 tp := fun h => chF.rf (chF.fr (z155 h) f142 hk_tb rfl) hS.2.2.1 hk_tb rfl
                refine lv_if_eq (tgt := 98) hx hb dX12_wordHere_92 (by decide) (fun c157 => ?_) (fun c157 => ?_)
                · have q158 : x148.toInt = 0 := ti_eq c157
                  have h159 : iv 0 0 x148 := ⟨by have := (h_x148).1; have := ((iv_c (c := 0) (n := 0) (by decide))).1; omega, by have := (h_x148).2; have := ((iv_c (c := 0) (n := 0) (by decide))).2; omega⟩
                  refine lv_aload_n hx hb dX12_wordHere_98 rfl (lv_at hl 0 rfl) ?_
                  refine lv_ldc2 hx hb hown (hW _ w_7_110 rfl) dX12_wordHere_99 ?_
                  have k160 : M145 a0 1 = tp := ((Fr.kp (k := 1) f142 hk_a0 rfl).trans ((Fr.kp (k := 1) f122 hk_a0 rfl).trans ((Fr.kp (k := 1) f102 hk_a0 rfl).trans ((Fr.kp (k := 1) f82 hk_a0 rfl).trans ((Fr.kp (k := 1) f62 hk_a0 rfl).trans ((Fr.kp (k := 1) f42 hk_a0 rfl).trans ((Fr.kp (k := 1) f22 hk_a0 rfl).trans (Fr.kp (k := 1) f2 hk_a0 rfl)))))))).trans k_tp
                  have q161 : x152.toInt ≤ tp.toInt := by
                    have := (h_nx).1; have := (h_nx).2; have := (h_tp).1; have := (h_tp).2; have := (h119).1; have := (h119).2; have := (h111).1; have := (h111).2; have := (h11).1; have := (h11).2; have := (h139).1; have := (h139).2; have := (h131).1; have := (h131).2; have := (h159).1; have := (h159).2; have := (h151).1; have := (h151).2; have := (h39).1; have := (h39).2; have := (h31).1; have := (h31).2; have := (h59).1; have := (h59).2; have := (h51).1; have := (h51).2; have := (h79).1; have := (h79).2; have := (h71).1; have := (h71).2; have := (h19).1; have := (h19).2; have := (h99).1; have := (h99).2; have := (h91).1; have := (h91).2; omega
                  refine tw_goi hS (md_runV (As := [.long 1818584692]) (rest := []) hx hb hml hown hW hK hT hS.1 (t_X12_isWord l D cy tx base Z K N M145 Ra J144 hS.2.1 a0 hz_a0 hk_a0 (1818584692) tb k_tb x152 k150 (iv_mono h151 (by decide) (by decide)) tp k160 (iv_mono h_tp (by decide) (by decide)) q161) s_X12_138 ⟨rfl, rfl, ⟨Nat.le_of_ble_eq_true rfl, Nat.le_of_ble_eq_true rfl⟩, ⟨Nat.le_of_ble_eq_true rfl, Nat.le_of_ble_eq_true rfl⟩⟩ hz_a0 hk_a0 (by decide) rfl rfl hl.1 rfl (Nat.le_of_ble_eq_true rfl) dX12_wordHere_102) rfl rfl (fun x168 H locs M165 R166 J164 hS f162 g163 E167 => ?_)
                  have eR166 := Fr.nil g163 rfl
                  subst eR166
                  obtain ⟨h_x168, p169⟩ := E167
                  obtain ⟨x172, k170, h171, q173, z174, z175⟩ := p169
                  have k170 : M165 a0 13 = x172 := k170
                  have z176 : ¬ x168 = 0 → chF 97 122 Ma tb x172 tp := fun h => chF.rf (chF.fr (z175 h) f162 hk_tb rfl) hS.2.2.1 hk_tb rfl
                  refine lv_if_eq (tgt := 113) hx hb dX12_wordHere_105 (by decide) (fun c177 => ?_) (fun c177 => ?_)
                  · have q178 : x168.toInt = 0 := ti_eq c177
                    have h179 : iv 0 0 x168 := ⟨by have := (h_x168).1; have := ((iv_c (c := 0) (n := 0) (by decide))).1; omega, by have := (h_x168).2; have := ((iv_c (c := 0) (n := 0) (by decide))).2; omega⟩
                    refine lv_aload_n hx hb dX12_wordHere_113 rfl (lv_at hl 0 rfl) ?_
                    refine lv_ldc2 hx hb hown (hW _ w_7_111 rfl) dX12_wordHere_114 ?_
                    have k180 : M165 a0 1 = tp := ((Fr.kp (k := 1) f162 hk_a0 rfl).trans ((Fr.kp (k := 1) f142 hk_a0 rfl).trans ((Fr.kp (k := 1) f122 hk_a0 rfl).trans ((Fr.kp (k := 1) f102 hk_a0 rfl).trans ((Fr.kp (k := 1) f82 hk_a0 rfl).trans ((Fr.kp (k := 1) f62 hk_a0 rfl).trans ((Fr.kp (k := 1) f42 hk_a0 rfl).trans ((Fr.kp (k := 1) f22 hk_a0 rfl).trans (Fr.kp (k := 1) f2 hk_a0 rfl))))))))).trans k_tp
                    have q181 : x172.toInt ≤ tp.toInt := by
                      have := (h_nx).1; have := (h_nx).2; have := (h_tp).1; have := (h_tp).2; have := (h119).1; have := (h119).2; have := (h111).1; have := (h111).2; have := (h11).1; have := (h11).2; have := (h139).1; have := (h139).2; have := (h131).1; have := (h131).2; have := (h159).1; have := (h159).2; have := (h151).1; have := (h151).2; have := (h179).1; have := (h179).2; have := (h171).1; have := (h171).2; have := (h39).1; have := (h39).2; have := (h31).1; have := (h31).2; have := (h59).1; have := (h59).2; have := (h51).1; have := (h51).2; have := (h79).1; have := (h79).2; have := (h71).1; have := (h71).2; have := (h19).1; have := (h19).2; have := (h99).1; have := (h99).2; have := (h91).1; have := (h91).2; omega
                    refine tw_goi hS (md_runV (As := [.long 1953854062]) (rest := []) hx hb hml hown hW hK hT hS.1 (t_X12_isWord l D cy tx base Z K N M165 Ra J164 hS.2.1 a0 hz_a0 hk_a0 (1953854062) tb k_tb x172 k170 (iv_mono h171 (by decide) (by decide)) tp k180 (iv_mono h_tp (by decide) (by decide)) q181) s_X12_138 ⟨rfl, rfl, ⟨Nat.le_of_ble_eq_true rfl, Nat.le_of_ble_eq_true rfl⟩, ⟨Nat.le_of_ble_eq_true rfl, Nat.le_of_ble_eq_true rfl⟩⟩ hz_a0 hk_a0 (by decide) rfl rfl hl.1 rfl (Nat.le_of_ble_eq_true rfl) dX12_wordHere_117) rfl rfl (fun x188 H locs M185 R186 J184 hS f182 g183 E187 => ?_)
                    have eR186 := Fr.nil g183 rfl
                    subst eR186
                    obtain ⟨h_x188, p189⟩ := E187
                    obtain ⟨x192, k190, h191, q193, z194, z195⟩ := p189
                    have k190 : M185 a0 13 = x192 := k190
                    have z196 : ¬ x188 = 0 → chF 97 122 Ma tb x192 tp := fun h => chF.rf (chF.fr (z195 h) f182 hk_tb rfl) hS.2.2.1 hk_tb rfl
                    refine lv_if_eq (tgt := 128) hx hb dX12_wordHere_120 (by decide) (fun c197 => ?_) (fun c197 => ?_)
                    · have q198 : x188.toInt = 0 := ti_eq c197
                      have h199 : iv 0 0 x188 := ⟨by have := (h_x188).1; have := ((iv_c (c := 0) (n := 0) (by decide))).1; omega, by have := (h_x188).2; have := ((iv_c (c := 0) (n := 0) (by decide))).2; omega⟩
                      refine lv_iconst (v := (-1)) hx hb dX12_wordHere_128 (by decide) ?_
                      have q200 : nx.toInt ≤ x192.toInt ∧ x192.toInt ≤ tp.toInt := by
                        have := (h_nx).1; have := (h_nx).2; have := (h_tp).1; have := (h_tp).2; have := (h119).1; have := (h119).2; have := (h111).1; have := (h111).2; have := (h11).1; have := (h11).2; have := (h139).1; have := (h139).2; have := (h131).1; have := (h131).2; have := (h159).1; have := (h159).2; have := (h151).1; have := (h151).2; have := (h179).1; have := (h179).2; have := (h171).1; have := (h171).2; have := (h199).1; have := (h199).2; have := (h191).1; have := (h191).2; have := (h39).1; have := (h39).2; have := (h31).1; have := (h31).2; have := (h59).1; have := (h59).2; have := (h51).1; have := (h51).2; have := (h79).1; have := (h79).2; have := (h71).1; have := (h71).2; have := (h19).1; have := (h19).2; have := (h99).1; have := (h99).2; have := (h91).1; have := (h91).2; exact ⟨by omega, by omega⟩
                      exact tw_endi hx hb hr hlocks hK hT hS hQ (⟨(iv_mono (iv_c (c := (-1)) (n := (-1)) (by decide)) (by decide) (by decide)), ⟨x192, k190, h191, q200, Or.inl (by decide)⟩⟩) dX12_wordHere_129
                    · have q201 : ¬ x188.toInt = 0 := ti_ne c197
                      have h202 : iv 1 1 x188 := ⟨by have := (h_x188).1; have := ((iv_c (c := 0) (n := 0) (by decide))).1; have := ((iv_c (c := 0) (n := 0) (by decide))).2; omega, by have := (h_x188).2; have := ((iv_c (c := 0) (n := 0) (by decide))).1; have := ((iv_c (c := 0) (n := 0) (by decide))).2; omega⟩
                      have z203 := z196 c197
                      have q204 := z203.1
                      refine lv_bipush (v := 9) hx hb dX12_wordHere_123 (by decide) ?_
                      refine lv_goto (tgt := 129) hx hb dX12_wordHere_125 (by decide) ?_
                      have q205 : nx.toInt ≤ x192.toInt ∧ x192.toInt ≤ tp.toInt := by
                        have := (h_nx).1; have := (h_nx).2; have := (h_tp).1; have := (h_tp).2; have := (h119).1; have := (h119).2; have := (h111).1; have := (h111).2; have := (h11).1; have := (h11).2; have := (h139).1; have := (h139).2; have := (h131).1; have := (h131).2; have := (h159).1; have := (h159).2; have := (h151).1; have := (h151).2; have := (h179).1; have := (h179).2; have := (h171).1; have := (h171).2; have := (h202).1; have := (h202).2; have := (h191).1; have := (h191).2; have := (h39).1; have := (h39).2; have := (h31).1; have := (h31).2; have := (h59).1; have := (h59).2; have := (h51).1; have := (h51).2; have := (h79).1; have := (h79).2; have := (h71).1; have := (h71).2; have := (h19).1; have := (h19).2; have := (h99).1; have := (h99).2; have := (h91).1; have := (h91).2; exact ⟨by omega, by omega⟩
                      exact tw_endi hx hb hr hlocks hK hT hS hQ (⟨(iv_mono (iv_c (c := 9) (n := 9) (by decide)) (by decide) (by decide)), ⟨x192, k190, h191, q205, Or.inr z203⟩⟩) dX12_wordHere_129
                  · have q206 : ¬ x168.toInt = 0 := ti_ne c177
                    have h207 : iv 1 1 x168 := ⟨by have := (h_x168).1; have := ((iv_c (c := 0) (n := 0) (by decide))).1; have := ((iv_c (c := 0) (n := 0) (by decide))).2; omega, by have := (h_x168).2; have := ((iv_c (c := 0) (n := 0) (by decide))).1; have := ((iv_c (c := 0) (n := 0) (by decide))).2; omega⟩
                    have z208 := z176 c177
                    have q209 := z208.1
                    refine lv_bipush (v := 8) hx hb dX12_wordHere_108 (by decide) ?_
                    refine lv_goto (tgt := 129) hx hb dX12_wordHere_110 (by decide) ?_
                    have q210 : nx.toInt ≤ x172.toInt ∧ x172.toInt ≤ tp.toInt := by
                      have := (h_nx).1; have := (h_nx).2; have := (h_tp).1; have := (h_tp).2; have := (h119).1; have := (h119).2; have := (h111).1; have := (h111).2; have := (h11).1; have := (h11).2; have := (h139).1; have := (h139).2; have := (h131).1; have := (h131).2; have := (h159).1; have := (h159).2; have := (h151).1; have := (h151).2; have := (h207).1; have := (h207).2; have := (h171).1; have := (h171).2; have := (h39).1; have := (h39).2; have := (h31).1; have := (h31).2; have := (h59).1; have := (h59).2; have := (h51).1; have := (h51).2; have := (h79).1; have := (h79).2; have := (h71).1; have := (h71).2; have := (h19).1; have := (h19).2; have := (h99).1; have := (h99).2; have := (h91).1; have := (h91).2; exact ⟨by omega, by omega⟩
                    exact tw_endi hx hb hr hlocks hK hT hS hQ (⟨(iv_mono (iv_c (c := 8) (n := 8) (by decide)) (by decide) (by decide)), ⟨x172, k170, h171, q210, Or.inr z208⟩⟩) dX12_wordHere_129
                · have q211 : ¬ x148.toInt = 0 := ti_ne c157
                  have h212 : iv 1 1 x148 := ⟨by have := (h_x148).1; have := ((iv_c (c := 0) (n := 0) (by decide))).1; have := ((iv_c (c := 0) (n := 0) (by decide))).2; omega, by have := (h_x148).2; have := ((iv_c (c := 0) (n := 0) (by decide))).1; have := ((iv_c (c := 0) (n := 0) (by decide))).2; omega⟩
                  have z213 := z156 c157
                  have q214 := z213.1
                  refine lv_bipush (v := 7) hx hb dX12_wordHere_95 (by decide) ?_
                  have q215 : nx.toInt ≤ x152.toInt ∧ x152.toInt ≤ tp.toInt := by
                    have := (h_nx).1; have := (h_nx).2; have := (h_tp).1; have := (h_tp).2; have := (h119).1; have := (h119).2; have := (h111).1; have := (h111).2; have := (h11).1; have := (h11).2; have := (h139).1; have := (h139).2; have := (h131).1; have := (h131).2; have := (h212).1; have := (h212).2; have := (h151).1; have := (h151).2; have := (h39).1; have := (h39).2; have := (h31).1; have := (h31).2; have := (h59).1; have := (h59).2; have := (h51).1; have := (h51).2; have := (h79).1; have := (h79).2; have := (h71).1; have := (h71).2; have := (h19).1; have := (h19).2; have := (h99).1; have := (h99).2; have := (h91).1; have := (h91).2; exact ⟨by omega, by omega⟩
                  exact tw_endi hx hb hr hlocks hK hT hS hQ (⟨(iv_mono (iv_c (c := 7) (n := 7) (by decide)) (by decide) (by decide)), ⟨x152, k150, h151, q215, Or.inr z213⟩⟩) dX12_wordHere_97
              · have q216 : ¬ x128.toInt = 0 := ti_ne c137
                have h217 : iv 1 1 x128 := ⟨by have := (h_x128).1; have := ((iv_c (c := 0) (n := 0) (by decide))).1; have := ((iv_c (c := 0) (n := 0) (by decide))).2; omega, by have := (h_x128).2; have := ((iv_c (c := 0) (n := 0) (by decide))).1; have := ((iv_c (c := 0) (n := 0) (by decide))).2; omega⟩
                have z218 := z136 c137
                have q219 := z218.1
                refine lv_bipush (v := 6) hx hb dX12_wordHere_82 (by decide) ?_
                have q220 : nx.toInt ≤ x132.toInt ∧ x132.toInt ≤ tp.toInt := by
                  have := (h_nx).1; have := (h_nx).2; have := (h_tp).1; have := (h_tp).2; have := (h119).1; have := (h119).2; have := (h111).1; have := (h111).2; have := (h11).1; have := (h11).2; have := (h217).1; have := (h217).2; have := (h131).1; have := (h131).2; have := (h39).1; have := (h39).2; have := (h31).1; have := (h31).2; have := (h59).1; have := (h59).2; have := (h51).1; have := (h51).2; have := (h79).1; have := (h79).2; have := (h71).1; have := (h71).2; have := (h19).1; have := (h19).2; have := (h99).1; have := (h99).2; have := (h91).1; have := (h91).2; exact ⟨by omega, by omega⟩
                exact tw_endi hx hb hr hlocks hK hT hS hQ (⟨(iv_mono (iv_c (c := 6) (n := 6) (by decide)) (by decide) (by decide)), ⟨x132, k130, h131, q220, Or.inr z218⟩⟩) dX12_wordHere_84
            · have q221 : ¬ x108.toInt = 0 := ti_ne c117
              have h222 : iv 1 1 x108 := ⟨by have := (h_x108).1; have := ((iv_c (c := 0) (n := 0) (by decide))).1; have := ((iv_c (c := 0) (n := 0) (by decide))).2; omega, by have := (h_x108).2; have := ((iv_c (c := 0) (n := 0) (by decide))).1; have := ((iv_c (c := 0) (n := 0) (by decide))).2; omega⟩
              have z223 := z116 c117
              have q224 := z223.1
              refine lv_iconst (v := 5) hx hb dX12_wordHere_70 (by decide) ?_
              have q225 : nx.toInt ≤ x112.toInt ∧ x112.toInt ≤ tp.toInt := by
                have := (h_nx).1; have := (h_nx).2; have := (h_tp).1; have := (h_tp).2; have := (h222).1; have := (h222).2; have := (h111).1; have := (h111).2; have := (h11).1; have := (h11).2; have := (h39).1; have := (h39).2; have := (h31).1; have := (h31).2; have := (h59).1; have := (h59).2; have := (h51).1; have := (h51).2; have := (h79).1; have := (h79).2; have := (h71).1; have := (h71).2; have := (h19).1; have := (h19).2; have := (h99).1; have := (h99).2; have := (h91).1; have := (h91).2; exact ⟨by omega, by omega⟩
              exact tw_endi hx hb hr hlocks hK hT hS hQ (⟨(iv_mono (iv_c (c := 5) (n := 5) (by decide)) (by decide) (by decide)), ⟨x112, k110, h111, q225, Or.inr z223⟩⟩) dX12_wordHere_71
          · have q226 : ¬ x88.toInt = 0 := ti_ne c97
            have h227 : iv 1 1 x88 := ⟨by have := (h_x88).1; have := ((iv_c (c := 0) (n := 0) (by decide))).1; have := ((iv_c (c := 0) (n := 0) (by decide))).2; omega, by have := (h_x88).2; have := ((iv_c (c := 0) (n := 0) (by decide))).1; have := ((iv_c (c := 0) (n := 0) (by decide))).2; omega⟩
            have z228 := z96 c97
            have q229 := z228.1
            refine lv_iconst (v := 4) hx hb dX12_wordHere_58 (by decide) ?_
            have q230 : nx.toInt ≤ x92.toInt ∧ x92.toInt ≤ tp.toInt := by
              have := (h_nx).1; have := (h_nx).2; have := (h_tp).1; have := (h_tp).2; have := (h11).1; have := (h11).2; have := (h39).1; have := (h39).2; have := (h31).1; have := (h31).2; have := (h59).1; have := (h59).2; have := (h51).1; have := (h51).2; have := (h79).1; have := (h79).2; have := (h71).1; have := (h71).2; have := (h19).1; have := (h19).2; have := (h227).1; have := (h227).2; have := (h91).1; have := (h91).2; exact ⟨by omega, by omega⟩
            exact tw_endi hx hb hr hlocks hK hT hS hQ (⟨(iv_mono (iv_c (c := 4) (n := 4) (by decide)) (by decide) (by decide)), ⟨x92, k90, h91, q230, Or.inr z228⟩⟩) dX12_wordHere_59
        · have q231 : ¬ x68.toInt = 0 := ti_ne c77
          have h232 : iv 1 1 x68 := ⟨by have := (h_x68).1; have := ((iv_c (c := 0) (n := 0) (by decide))).1; have := ((iv_c (c := 0) (n := 0) (by decide))).2; omega, by have := (h_x68).2; have := ((iv_c (c := 0) (n := 0) (by decide))).1; have := ((iv_c (c := 0) (n := 0) (by decide))).2; omega⟩
          have z233 := z76 c77
          have q234 := z233.1
          refine lv_iconst (v := 3) hx hb dX12_wordHere_46 (by decide) ?_
          have q235 : nx.toInt ≤ x72.toInt ∧ x72.toInt ≤ tp.toInt := by
            have := (h_nx).1; have := (h_nx).2; have := (h_tp).1; have := (h_tp).2; have := (h11).1; have := (h11).2; have := (h39).1; have := (h39).2; have := (h31).1; have := (h31).2; have := (h59).1; have := (h59).2; have := (h51).1; have := (h51).2; have := (h232).1; have := (h232).2; have := (h71).1; have := (h71).2; have := (h19).1; have := (h19).2; exact ⟨by omega, by omega⟩
          exact tw_endi hx hb hr hlocks hK hT hS hQ (⟨(iv_mono (iv_c (c := 3) (n := 3) (by decide)) (by decide) (by decide)), ⟨x72, k70, h71, q235, Or.inr z233⟩⟩) dX12_wordHere_47
      · have q236 : ¬ x48.toInt = 0 := ti_ne c57
        have h237 : iv 1 1 x48 := ⟨by have := (h_x48).1; have := ((iv_c (c := 0) (n := 0) (by decide))).1; have := ((iv_c (c := 0) (n := 0) (by decide))).2; omega, by have := (h_x48).2; have := ((iv_c (c := 0) (n := 0) (by decide))).1; have := ((iv_c (c := 0) (n := 0) (by decide))).2; omega⟩
        have z238 := z56 c57
        have q239 := z238.1
        refine lv_iconst (v := 2) hx hb dX12_wordHere_34 (by decide) ?_
        have q240 : nx.toInt ≤ x52.toInt ∧ x52.toInt ≤ tp.toInt := by
          have := (h_nx).1; have := (h_nx).2; have := (h_tp).1; have := (h_tp).2; have := (h11).1; have := (h11).2; have := (h39).1; have := (h39).2; have := (h31).1; have := (h31).2; have := (h237).1; have := (h237).2; have := (h51).1; have := (h51).2; have := (h19).1; have := (h19).2; exact ⟨by omega, by omega⟩
        exact tw_endi hx hb hr hlocks hK hT hS hQ (⟨(iv_mono (iv_c (c := 2) (n := 2) (by decide)) (by decide) (by decide)), ⟨x52, k50, h51, q240, Or.inr z238⟩⟩) dX12_wordHere_35
    · have q241 : ¬ x28.toInt = 0 := ti_ne c37
      have h242 : iv 1 1 x28 := ⟨by have := (h_x28).1; have := ((iv_c (c := 0) (n := 0) (by decide))).1; have := ((iv_c (c := 0) (n := 0) (by decide))).2; omega, by have := (h_x28).2; have := ((iv_c (c := 0) (n := 0) (by decide))).1; have := ((iv_c (c := 0) (n := 0) (by decide))).2; omega⟩
      have z243 := z36 c37
      have q244 := z243.1
      refine lv_iconst (v := 1) hx hb dX12_wordHere_22 (by decide) ?_
      have q245 : nx.toInt ≤ x32.toInt ∧ x32.toInt ≤ tp.toInt := by
        have := (h_nx).1; have := (h_nx).2; have := (h_tp).1; have := (h_tp).2; have := (h11).1; have := (h11).2; have := (h242).1; have := (h242).2; have := (h31).1; have := (h31).2; have := (h19).1; have := (h19).2; exact ⟨by omega, by omega⟩
      exact tw_endi hx hb hr hlocks hK hT hS hQ (⟨(iv_mono (iv_c (c := 1) (n := 1) (by decide)) (by decide) (by decide)), ⟨x32, k30, h31, q245, Or.inr z243⟩⟩) dX12_wordHere_23
  · have q246 : ¬ x8.toInt = 0 := ti_ne c17
    have h247 : iv 1 1 x8 := ⟨by have := (h_x8).1; have := ((iv_c (c := 0) (n := 0) (by decide))).1; have := ((iv_c (c := 0) (n := 0) (by decide))).2; omega, by have := (h_x8).2; have := ((iv_c (c := 0) (n := 0) (by decide))).1; have := ((iv_c (c := 0) (n := 0) (by decide))).2; omega⟩
    have z248 := z16 c17
    have q249 := z248.1
    refine lv_iconst (v := 0) hx hb dX12_wordHere_10 (by decide) ?_
    have q250 : nx.toInt ≤ x12.toInt ∧ x12.toInt ≤ tp.toInt := by
      have := (h_nx).1; have := (h_nx).2; have := (h_tp).1; have := (h_tp).2; have := (h11).1; have := (h11).2; have := (h247).1; have := (h247).2; exact ⟨by omega, by omega⟩
    exact tw_endi hx hb hr hlocks hK hT hS hQ (⟨(iv_mono (iv_c (c := 0) (n := 0) (by decide)) (by decide) (by decide)), ⟨x12, k10, h11, q250, Or.inr z248⟩⟩) dX12_wordHere_11
def Lt_X12_value : WL := [(12, 13, 16), (12, 17, 18), (25, 0, 2000000), (26, 0, 2000000)]
def LRt_X12_value : WL := []
set_option maxRecDepth 100000 in
set_option maxHeartbeats 4000000 in
theorem t_X12_value (l : Launch) (D : va_G) (cy : Nat → ClassId) (tx : (Nat → Nat) × (Nat → Nat)) (base Z : Nat) (K N : Nat → Nat) (Ma : MT) (Ra : RT) (Ja : JT) (hTy : Ty Z K N Ma Ra) (a0 : Nat) (hz_a0 : a0 < Z) (hk_a0 : K a0 = 12) (tb : Nat) (k_tb : Ra a0 0 = some tb) (nx : Int32) (k_nx : Ma a0 13 = nx) (h_nx : iv 0 400 nx) (tp : Int32) (k_tp : Ma a0 1 = tp) (h_tp : iv 0 400 tp) (hnt : nx.toInt ≤ tp.toInt) (lg : Nat) (k_lg : Ra a0 4 = some lg) (sg : Nat) (k_sg : Ra a0 3 = some sg) (tq : Int32) (k_tq : Ma a0 16 = tq) (h_tq : iv 0 5 tq) (le : Int32) (k_le : Ma lg tq.toNatClampNeg = le) (h_le : iv 0 400 le) (md : Int32) (k_md : Ma a0 17 = md) (h_md : iv 0 60 md) (sb : Nat) (sh : Nat) (hseg : SEG Ma sg tq.toNatClampNeg sb le.toNatClampNeg sh) (hsb : (sb : Int) ≤ le.toInt) (hsh : (sh : Int) ≤ md.toInt) (hle : le.toInt ≤ nx.toInt) : Met l yX12_value [Cond.code yX12_value cX12_value 3 (some .boolean)] (md_rm 4 0 0) (va_Pc [.ref (base + a0)] (md_U D cy tx base Z K N Ma Ra Ja)) (mQi D cy tx base (fun r u => TP Z K N Lt_X12_value LRt_X12_value Ma Ra u ∧ (iv 0 1 r ∧ ((∀ j, j < 400 * tq.toNatClampNeg + le.toNatClampNeg → u.2.2.2.1 sg j = Ma sg j) ∧ (∃ x0 : Int32, u.2.2.2.1 a0 13 = x0 ∧ iv 0 400 x0 ∧ nx.toInt ≤ x0.toInt ∧ x0.toInt ≤ tp.toInt) ∧ (¬ r = 0 → ∃ x0 x1 x2 : Int32, u.2.2.2.1 a0 13 = x0 ∧ u.2.2.2.1 lg tq.toNatClampNeg = x1 ∧ u.2.2.2.1 a0 17 = x2 ∧ iv 0 400 x1 ∧ le.toInt ≤ x1.toInt ∧ x1.toInt - le.toInt ≤ x0.toInt - nx.toInt ∧ ((sh + 1 : Nat) : Int) ≤ x2.toInt ∧ SEG u.2.2.2.1 sg tq.toNatClampNeg sb x1.toNatClampNeg (sh + 1))) ∧ (r = 0 → ¬ (u.2.2.2.1 a0 14).toInt = 0)))) 0 0 (fun q => base ≤ q) := by
  refine tw_ofW (L := Lt_X12_value) (LR := LRt_X12_value) (by decide) (Nat.le_of_ble_eq_true rfl) hTy ?_
  intro p e s m args below meth c Q ls hx hb hr hlocks hown hml hW hK hT hS hQ hl
  have hl : lv_has ls 3 [(0, .ref (base + a0))] := hl
  obtain ⟨hz_tb, hk_tb, hn_tb⟩ := hTy.refn hz_a0 hk_a0 (show rtR 12 0 = (13, 400, 0) from rfl) k_tb
  have hn_tb := hn_tb (by decide)
  obtain ⟨hz_lg, hk_lg, hn_lg⟩ := hTy.refn hz_a0 hk_a0 (show rtR 12 4 = (26, 7, 0) from rfl) k_lg
  have hn_lg := hn_lg (by decide)
  obtain ⟨hz_sg, hk_sg, hn_sg⟩ := hTy.refn hz_a0 hk_a0 (show rtR 12 3 = (25, 2400, 0) from rfl) k_sg
  have hn_sg := hn_sg (by decide)
  refine lv_aload_n hx hb dX12_value_0 rfl (lv_at hl 0 rfl) ?_
  have q1 : nx.toInt ≤ tp.toInt := by
    have := (h_le).1; have := (h_le).2; have := (h_md).1; have := (h_md).2; have := (h_nx).1; have := (h_nx).2; have := (h_tp).1; have := (h_tp).2; have := (h_tq).1; have := (h_tq).2; omega
  refine tw_goi hS (md_runV (As := []) (rest := []) hx hb hml hown hW hK hT hS.1 (t_X12_see l D cy tx base Z K N Ma Ra Ja hS.2.1 a0 hz_a0 hk_a0 tb k_tb nx k_nx (iv_mono h_nx (by decide) (by decide)) tp k_tp (iv_mono h_tp (by decide) (by decide)) q1) s_X12_130 ⟨rfl, rfl, ⟨Nat.le_of_ble_eq_true rfl, Nat.le_of_ble_eq_true rfl⟩, ⟨Nat.le_of_ble_eq_true rfl, Nat.le_of_ble_eq_true rfl⟩⟩ hz_a0 hk_a0 (by decide) rfl rfl hl.1 rfl (Nat.le_of_ble_eq_true rfl) dX12_value_1) rfl rfl (fun x8 H locs M5 R6 J4 hS f2 g3 E7 => ?_)
  have eR6 := Fr.nil g3 rfl
  subst eR6
  obtain ⟨h_x8, p9⟩ := E7
  obtain ⟨x12, k10, h11, q13, z14, z15⟩ := p9
  have k10 : M5 a0 13 = x12 := k10
  have z15 : ∀ j : Nat, j = x12.toNatClampNeg → x8.toInt = -1 ∨ ¬ (M5 tb j).toInt = 32 := z15
  refine lv_pop hx hb dX12_value_4 rfl ?_
  refine lv_aload_n hx hb dX12_value_5 rfl (lv_at hl 0 rfl) ?_
  refine tw_getk hx hb hW hown hK hS f_X12_127_11 hz_a0 hk_a0 (v := x12) k10 dX12_value_6 ?_
  refine lv_istore_n (lv' := [(1, .int x12), (0, .ref (base + a0))]) hx hb dX12_value_9 rfl hl (by decide) rfl (fun ls hl => ?_)
  refine lv_aload_n hx hb dX12_value_10 rfl (lv_at hl 1 rfl) ?_
  refine lv_aload_n hx hb dX12_value_11 rfl (lv_at hl 1 rfl) ?_
  refine tw_getk hx hb hW hown hK hS f_X12_127_11 hz_a0 hk_a0 (v := x12) k10 dX12_value_12 ?_
  have k16 : M5 a0 1 = tp := (Fr.kp (k := 1) f2 hk_a0 rfl).trans k_tp
  refine tw_goi hS (md_runV (As := [.int x12]) (rest := []) hx hb hml hown hW hK hT hS.1 (t_X12_isDigit l D cy tx base Z K N M5 Ra J4 hS.2.1 a0 hz_a0 hk_a0 x12 h11 tb k_tb tp k16 (iv_mono h_tp (by decide) (by decide))) s_X12_145 ⟨rfl, rfl, ⟨Nat.le_of_ble_eq_true rfl, Nat.le_of_ble_eq_true rfl⟩, ⟨Nat.le_of_ble_eq_true rfl, Nat.le_of_ble_eq_true rfl⟩⟩ hz_a0 hk_a0 (by decide) rfl rfl hl.1 rfl (Nat.le_of_ble_eq_true rfl) dX12_value_15) rfl rfl (fun x23 H locs M20 R21 J19 hS f17 g18 E22 => ?_)
  have eM20 := Fr.nil f17 rfl
  subst eM20
  have eR21 := Fr.nil g18 rfl
  subst eR21
  obtain ⟨h_x23, p24⟩ := E22
  have z25 : ¬ x23 = 0 → chF 48 57 Ma tb x12 tp := fun h => chF.rf (p24.1 h) hS.2.2.1 hk_tb rfl
  have z26 : x23 = 0 → ¬ chF 48 57 Ma tb x12 tp := fun h q => p24.2 h (chF.fr q hS.2.2.1 hk_tb rfl)
  refine lv_if_eq (tgt := 52) hx hb dX12_value_18 (by decide) (fun c27 => ?_) (fun c27 => ?_)
  · have q28 : x23.toInt = 0 := ti_eq c27
    have z29 := z26 c27
    have h30 : iv 0 0 x23 := ⟨by have := (h_x23).1; have := ((iv_c (c := 0) (n := 0) (by decide))).1; omega, by have := (h_x23).2; have := ((iv_c (c := 0) (n := 0) (by decide))).2; omega⟩
    refine lv_aload_n hx hb dX12_value_52 rfl (lv_at hl 1 rfl) ?_
    have k31 : M5 a0 1 = tp := (Fr.kp (k := 1) f2 hk_a0 rfl).trans k_tp
    have q32 : x12.toInt ≤ tp.toInt := by
      have := (h_le).1; have := (h_le).2; have := (h_md).1; have := (h_md).2; have := (h_nx).1; have := (h_nx).2; have := (h_tp).1; have := (h_tp).2; have := (h_tq).1; have := (h_tq).2; have := (h11).1; have := (h11).2; have := (h_x8).1; have := (h_x8).2; omega
    refine tw_goi hS (md_runV (As := []) (rest := []) hx hb hml hown hW hK hT hS.1 (t_X12_wordHere l D cy tx base Z K N M5 Ra J19 hS.2.1 a0 hz_a0 hk_a0 tb k_tb x12 k10 (iv_mono h11 (by decide) (by decide)) tp k31 (iv_mono h_tp (by decide) (by decide)) q32) s_X12_206 ⟨rfl, rfl, ⟨Nat.le_of_ble_eq_true rfl, Nat.le_of_ble_eq_true rfl⟩, ⟨Nat.le_of_ble_eq_true rfl, Nat.le_of_ble_eq_true rfl⟩⟩ hz_a0 hk_a0 (by decide) rfl rfl hl.1 rfl (Nat.le_of_ble_eq_true rfl) dX12_value_53) rfl rfl (fun x39 H locs M36 R37 J35 hS f33 g34 E38 => ?_)
    have eR37 := Fr.nil g34 rfl
    subst eR37
    obtain ⟨h_x39, p40⟩ := E38
    obtain ⟨x43, k41, h42, q44, z46⟩ := p40
    have k41 : M36 a0 13 = x43 := k41
    have z47 : x39.toInt < 0 ∨ chF 97 122 Ma tb x43 tp := z46.imp id (fun q => chF.rf (chF.fr q f33 hk_tb rfl) hS.2.2.1 hk_tb rfl)
    refine lv_istore_n (lv' := [(2, .int x39), (1, .int x12), (0, .ref (base + a0))]) hx hb dX12_value_56 rfl hl (by decide) rfl (fun ls hl => ?_)
    refine lv_iload_n hx hb dX12_value_57 rfl (lv_at hl 0 rfl) ?_
    refine lv_if_ge (tgt := 68) hx hb dX12_value_58 (by decide) (fun c48 => ?_) (fun c48 => ?_)
    · have q49 : 0 ≤ x39.toInt := ti_le c48
      have h50 : iv 0 9 x39 := iv_geL (y := 0) h_x39 (iv_c (c := 0) (n := 0) (by decide)) q49 (by decide)
      have z51 := z47.resolve_left (by omega)
      have q52 := z51.1
      refine lv_aload_n hx hb dX12_value_68 rfl (lv_at hl 2 rfl) ?_
      refine lv_iload_n hx hb dX12_value_69 rfl (lv_at hl 1 rfl) ?_
      have k53 : M36 a0 17 = md := ((Fr.kp (k := 17) f33 hk_a0 rfl).trans (Fr.kp (k := 17) f2 hk_a0 rfl)).trans k_md
      refine tw_goi hS (md_runV (As := [.int x12]) (rest := []) hx hb hml hown hW hK hT hS.1 (t_X12_makes l D cy tx base Z K N M36 Ra J35 hS.2.1 a0 hz_a0 hk_a0 x12 h11 md k53 (iv_mono h_md (by decide) (by decide))) s_X12_203 ⟨rfl, rfl, ⟨Nat.le_of_ble_eq_true rfl, Nat.le_of_ble_eq_true rfl⟩, ⟨Nat.le_of_ble_eq_true rfl, Nat.le_of_ble_eq_true rfl⟩⟩ hz_a0 hk_a0 (by decide) rfl rfl hl.1 rfl (Nat.le_of_ble_eq_true rfl) dX12_value_70) rfl rfl (fun x60 H locs M57 R58 J56 hS f54 g55 E59 => ?_)
      have eR58 := Fr.nil g55 rfl
      subst eR58
      obtain ⟨h_x60, p61, p62⟩ := E59
      obtain ⟨x64, k65, h63, q66⟩ := p61
      have k65 : M57 a0 17 = x64 := k65
      have z67 : x60 = 0 → ¬ (M57 a0 14).toInt = 0 := p62
      refine lv_if_ne (tgt := 78) hx hb dX12_value_73 (by decide) (fun c68 => ?_) (fun c68 => ?_)
      · have q69 : ¬ x60.toInt = 0 := ti_ne c68
        have h70 : iv 1 1 x60 := ⟨by have := (h_x60).1; have := ((iv_c (c := 0) (n := 0) (by decide))).1; have := ((iv_c (c := 0) (n := 0) (by decide))).2; omega, by have := (h_x60).2; have := ((iv_c (c := 0) (n := 0) (by decide))).1; have := ((iv_c (c := 0) (n := 0) (by decide))).2; omega⟩
        refine lv_aload_n hx hb dX12_value_78 rfl (lv_at hl 2 rfl) ?_
        have k71 : M57 a0 13 = x43 := (Fr.kp (k := 13) f54 hk_a0 rfl).trans k41
        have k72 : M57 a0 1 = tp := ((Fr.kp (k := 1) f54 hk_a0 rfl).trans ((Fr.kp (k := 1) f33 hk_a0 rfl).trans (Fr.kp (k := 1) f2 hk_a0 rfl))).trans k_tp
        have q73 : x43.toInt ≤ tp.toInt := by
          have := (h_le).1; have := (h_le).2; have := (h_md).1; have := (h_md).2; have := (h_nx).1; have := (h_nx).2; have := (h_tp).1; have := (h_tp).2; have := (h_tq).1; have := (h_tq).2; have := (h11).1; have := (h11).2; have := (h50).1; have := (h50).2; have := (h42).1; have := (h42).2; have := (h_x8).1; have := (h_x8).2; omega
        refine tw_gov hS (md_runV (As := []) (rest := []) hx hb hml hown hW hK hT hS.1 (t_X12_passWord l D cy tx base Z K N M57 Ra J56 hS.2.1 a0 hz_a0 hk_a0 tb k_tb x43 k71 (iv_mono h42 (by decide) (by decide)) tp k72 (iv_mono h_tp (by decide) (by decide)) q73) s_X12_142 ⟨rfl, rfl, ⟨Nat.le_of_ble_eq_true rfl, Nat.le_of_ble_eq_true rfl⟩, ⟨Nat.le_of_ble_eq_true rfl, Nat.le_of_ble_eq_true rfl⟩⟩ hz_a0 hk_a0 (by decide) rfl rfl hl.1 rfl (Nat.le_of_ble_eq_true rfl) dX12_value_79) rfl rfl (fun H locs M77 R78 J76 hS f74 g75 E79 => ?_)
        have eR78 := Fr.nil g75 rfl
        subst eR78
        have p80 := E79
        clear E79
        obtain ⟨x83, k81, h82, q84, z86⟩ := p80
        have k81 : M77 a0 13 = x83 := k81
        have q87 := z86 (chF.rf (chF.fr z51 hS.2.2.1 hk_tb rfl) f74 hk_tb rfl)
        refine lv_aload_n hx hb dX12_value_82 rfl (lv_at hl 2 rfl) ?_
        refine lv_iconst (v := 1) hx hb dX12_value_83 (by decide) ?_
        refine lv_iload_n hx hb dX12_value_84 rfl (lv_at hl 0 rfl) ?_
        have k88 : M77 a0 16 = tq := ((Fr.kp (k := 16) f74 hk_a0 rfl).trans ((Fr.kp (k := 16) f54 hk_a0 rfl).trans ((Fr.kp (k := 16) f33 hk_a0 rfl).trans (Fr.kp (k := 16) f2 hk_a0 rfl)))).trans k_tq
        have k89 : M77 lg tq.toNatClampNeg = le := ((Fr.kpa f74 hk_lg rfl tq.toNatClampNeg).trans ((Fr.kpa f54 hk_lg rfl tq.toNatClampNeg).trans ((Fr.kpa f33 hk_lg rfl tq.toNatClampNeg).trans (Fr.kpa f2 hk_lg rfl tq.toNatClampNeg)))).trans k_le
        have h90 : iv 0 399 le := by
          have := (h_le).1; have := (h_le).2; have := (h_md).1; have := (h_md).2; have := (h_nx).1; have := (h_nx).2; have := (h_tp).1; have := (h_tp).2; have := (h_tq).1; have := (h_tq).2; exact ⟨by omega, by omega⟩
        refine tw_gov hS (md_runV (As := [.int 1, .int x39]) (rest := []) hx hb hml hown hW hK hT hS.1 (t_X12_puts l D cy tx base Z K N M77 Ra J76 hS.2.1 a0 hz_a0 hk_a0 1 (iv_mono (iv_c (c := 1) (n := 1) (by decide)) (by decide) (by decide)) x39 (iv_mono h50 (by decide) (by decide)) sg k_sg lg k_lg tq k88 (iv_mono h_tq (by decide) (by decide)) le k89 h90) s_X12_195 ⟨rfl, rfl, ⟨Nat.le_of_ble_eq_true rfl, Nat.le_of_ble_eq_true rfl⟩, ⟨Nat.le_of_ble_eq_true rfl, Nat.le_of_ble_eq_true rfl⟩⟩ hz_a0 hk_a0 (by decide) rfl rfl hl.1 rfl (Nat.le_of_ble_eq_true rfl) dX12_value_85) rfl rfl (fun H locs M94 R95 J93 hS f91 g92 E96 => ?_)
        have eR95 := Fr.nil g92 rfl
        subst eR95
        have p97 := E96
        clear E96
        obtain ⟨x98, x100, zc97, zd97, zo97, k101, h99, zl97⟩ := p97
        have k101 : M94 lg tq.toNatClampNeg = x100 := k101
        have zt97 := ti_cl (x := tq) (by have := h_tq.1; omega); have zn97 := ti_cl (x := le) (by have := (h_le).1; omega); have zm97 := ti_cl (x := x100) (by have := (h99).1; omega)
        have q102 : (1 : Int32).toInt = 1 := (by decide)
        have k103 : M94 a0 17 = x64 := ((Fr.kp (k := 17) f91 hk_a0 rfl).trans (Fr.kp (k := 17) f74 hk_a0 rfl)).trans k65
        have zs97 := stp_word (h := sh) (show x98.toInt = 1 + 16 * x39.toInt by omega) (by have := ((iv_c (c := 1) (n := 1) (by decide))).1; have := ((iv_c (c := 1) (n := 1) (by decide))).2; have := (h50).1; have := (h50).2; omega) (by have := (h63).2; omega)
        have z104 : SEG M94 sg tq.toNatClampNeg sb x100.toNatClampNeg (sh + 1) := SEG.cast (SEG.ext (SEG.to (SEG.to (SEG.to (SEG.to hseg (fun j _ _ => Fr.kpa f2 hk_sg rfl j)) (fun j _ _ => Fr.kpa f33 hk_sg rfl j)) (fun j _ _ => Fr.kpa f54 hk_sg rfl j)) (fun j _ _ => Fr.kpa f74 hk_sg rfl j)) (by omega) zd97 zo97 zs97) (by omega) (by omega)
        have zw97 := ti_cl (x := le) (by have := h_le.1; omega)
        have z105 : ∀ j, j < 400 * tq.toNatClampNeg + le.toNatClampNeg → M94 sg j = Ma sg j := fun j hj => (zo97 j (by omega)).trans ((fun j hj => (Fr.kpa f74 hk_sg rfl j).trans ((fun j hj => (Fr.kpa f54 hk_sg rfl j).trans ((fun j hj => (Fr.kpa f33 hk_sg rfl j).trans ((fun j hj => (Fr.kpa f2 hk_sg rfl j).trans ((fun j _ => rfl) j hj)) j hj)) j hj)) j hj)) j hj)
        refine lv_iconst (v := 1) hx hb dX12_value_88 (by decide) ?_
        have k106 : M94 a0 13 = x83 := (Fr.kp (k := 13) f91 hk_a0 rfl).trans k81
        have q107 : nx.toInt ≤ x83.toInt ∧ x83.toInt ≤ tp.toInt := by
          have := (h_le).1; have := (h_le).2; have := (h_md).1; have := (h_md).2; have := (h_nx).1; have := (h_nx).2; have := (h_tp).1; have := (h_tp).2; have := (h_tq).1; have := (h_tq).2; have := (h11).1; have := (h11).2; have := (h50).1; have := (h50).2; have := (h42).1; have := (h42).2; have := (h_x8).1; have := (h_x8).2; have := (h82).1; have := (h82).2; exact ⟨by omega, by omega⟩
        have q108 : le.toInt ≤ x100.toInt ∧ x100.toInt - le.toInt ≤ x83.toInt - nx.toInt ∧ ((sh + 1 : Nat) : Int) ≤ x64.toInt := by
          have := (h_le).1; have := (h_le).2; have := (h_md).1; have := (h_md).2; have := (h_nx).1; have := (h_nx).2; have := (h_tp).1; have := (h_tp).2; have := (h_tq).1; have := (h_tq).2; have := (h99).1; have := (h99).2; have := (h11).1; have := (h11).2; have := (h50).1; have := (h50).2; have := (h42).1; have := (h42).2; have := (h63).1; have := (h63).2; have := (h_x8).1; have := (h_x8).2; have := (h82).1; have := (h82).2; exact ⟨by omega, by omega, by omega⟩
        exact tw_endz hx hb hr hlocks hK hT hS hQ rfl (⟨(iv_mono (iv_c (c := 1) (n := 1) (by decide)) (by decide) (by decide)), ⟨z105, ⟨x83, k106, h82, q107.1, q107.2⟩, fun _ => ⟨x83, x100, x64, k106, k101, k103, (iv_mono h99 (by decide) (by decide)), q108.1, q108.2.1, q108.2.2, z104⟩⟩, (fun h => absurd h (by decide))⟩) dX12_value_89
      · have q109 : x60.toInt = 0 := ti_eq c68
        have z110 := z67 c68
        have h111 : iv 0 0 x60 := ⟨by have := (h_x60).1; have := ((iv_c (c := 0) (n := 0) (by decide))).1; omega, by have := (h_x60).2; have := ((iv_c (c := 0) (n := 0) (by decide))).2; omega⟩
        refine lv_iconst (v := 0) hx hb dX12_value_76 (by decide) ?_
        have k112 : M57 a0 13 = x43 := (Fr.kp (k := 13) f54 hk_a0 rfl).trans k41
        have q113 : nx.toInt ≤ x43.toInt ∧ x43.toInt ≤ tp.toInt := by
          have := (h_le).1; have := (h_le).2; have := (h_md).1; have := (h_md).2; have := (h_nx).1; have := (h_nx).2; have := (h_tp).1; have := (h_tp).2; have := (h_tq).1; have := (h_tq).2; have := (h11).1; have := (h11).2; have := (h50).1; have := (h50).2; have := (h42).1; have := (h42).2; have := (h_x8).1; have := (h_x8).2; exact ⟨by omega, by omega⟩
        exact tw_endz hx hb hr hlocks hK hT hS hQ rfl (⟨(iv_mono (iv_c (c := 0) (n := 0) (by decide)) (by decide) (by decide)), ⟨(fun j hj => (Fr.kpa f54 hk_sg rfl j).trans ((fun j hj => (Fr.kpa f33 hk_sg rfl j).trans ((fun j hj => (Fr.kpa f2 hk_sg rfl j).trans ((fun j _ => rfl) j hj)) j hj)) j hj)), ⟨x43, k112, h42, q113.1, q113.2⟩, (fun h => absurd rfl h)⟩, (fun _ => (show ¬ (M57 a0 14).toInt = 0 from z110))⟩) dX12_value_77
    · have q114 : x39.toInt < 0 := ti_nle c48
      have h115 : iv (-1) (-1) x39 := iv_ltL (y := 0) h_x39 (iv_c (c := 0) (n := 0) (by decide)) q114 (by decide)
      refine lv_aload_n hx hb dX12_value_61 rfl (lv_at hl 2 rfl) ?_
      refine lv_iconst (v := 0) hx hb dX12_value_62 (by decide) ?_
      refine lv_iload_n hx hb dX12_value_63 rfl (lv_at hl 1 rfl) ?_
      refine tw_goi hS (md_runV (As := [.int 0, .int x12]) (rest := []) hx hb hml hown hW hK hT hS.1 (t_X12_fails l D cy tx base Z K N M36 Ra J35 hS.2.1 a0 hz_a0 hk_a0 0 (iv_mono (iv_c (c := 0) (n := 0) (by decide)) (by decide) (by decide)) x12 h11) s_X12_148 ⟨rfl, rfl, ⟨Nat.le_of_ble_eq_true rfl, Nat.le_of_ble_eq_true rfl⟩, ⟨Nat.le_of_ble_eq_true rfl, Nat.le_of_ble_eq_true rfl⟩⟩ hz_a0 hk_a0 (by decide) rfl rfl hl.1 rfl (Nat.le_of_ble_eq_true rfl) dX12_value_64) rfl rfl (fun x122 H locs M119 R120 J118 hS f116 g117 E121 => ?_)
      have eR120 := Fr.nil g117 rfl
      subst eR120
      obtain ⟨h_x122, p123⟩ := E121
      have z124 : x122 = 0 → ¬ (M119 a0 14).toInt = 0 := p123
      have z125 := z124 (iv0 h_x122)
      have k126 : M119 a0 13 = x43 := (Fr.kp (k := 13) f116 hk_a0 rfl).trans k41
      have q127 : nx.toInt ≤ x43.toInt ∧ x43.toInt ≤ tp.toInt := by
        have := (h_le).1; have := (h_le).2; have := (h_md).1; have := (h_md).2; have := (h_nx).1; have := (h_nx).2; have := (h_tp).1; have := (h_tp).2; have := (h_tq).1; have := (h_tq).2; have := (h11).1; have := (h11).2; have := (h115).1; have := (h115).2; have := (h42).1; have := (h42).2; have := (h_x8).1; have := (h_x8).2; exact ⟨by omega, by omega⟩
      exact tw_endz hx hb hr hlocks hK hT hS hQ (nar_b (iv_mono h_x122 (by decide) (by decide))) (⟨(iv_mono h_x122 (by decide) (by decide)), ⟨(fun j hj => (Fr.kpa f116 hk_sg rfl j).trans ((fun j hj => (Fr.kpa f33 hk_sg rfl j).trans ((fun j hj => (Fr.kpa f2 hk_sg rfl j).trans ((fun j _ => rfl) j hj)) j hj)) j hj)), ⟨x43, k126, h42, q127.1, q127.2⟩, (fun h => absurd (iv0 h_x122) h)⟩, (fun _ => (show ¬ (M119 a0 14).toInt = 0 from z125))⟩) dX12_value_67
  · have q128 : ¬ x23.toInt = 0 := ti_ne c27
    have h129 : iv 1 1 x23 := ⟨by have := (h_x23).1; have := ((iv_c (c := 0) (n := 0) (by decide))).1; have := ((iv_c (c := 0) (n := 0) (by decide))).2; omega, by have := (h_x23).2; have := ((iv_c (c := 0) (n := 0) (by decide))).1; have := ((iv_c (c := 0) (n := 0) (by decide))).2; omega⟩
    have z130 := z25 c27
    have q131 := z130.1
    have h132 : iv 0 399 x12 := iv_ltL (y := tp) h11 h_tp q131 (by decide)
    refine lv_aload_n hx hb dX12_value_21 rfl (lv_at hl 1 rfl) ?_
    refine lv_iconst (v := 0) hx hb dX12_value_22 (by decide) ?_
    refine lv_ldc hx hb hown (hW _ w_7_91 rfl) dX12_value_23 ?_
    have k133 : M5 a0 1 = tp := (Fr.kp (k := 1) f2 hk_a0 rfl).trans k_tp
    have q134 : x12.toInt ≤ tp.toInt := by
      have := (h_le).1; have := (h_le).2; have := (h_md).1; have := (h_md).2; have := (h_nx).1; have := (h_nx).2; have := (h_tp).1; have := (h_tp).2; have := (h_tq).1; have := (h_tq).2; have := (h132).1; have := (h132).2; have := (h_x8).1; have := (h_x8).2; omega
    obtain ⟨x137, k135⟩ : ∃ x, M5 a0 15 = x := ⟨_, rfl⟩
    have h136 : iv (-2147483648) 2147483647 x137 := by rw [← k135]; exact hS.2.1.int hz_a0 hk_a0 (show rgI 12 15 = ((-2147483648), 2147483647) from rfl)
    refine tw_goi hS (md_runV (As := [.int 0, .int 99999]) (rest := []) hx hb hml hown hW hK hT hS.1 (t_X12_numberHere l D cy tx base Z K N M5 Ra J19 hS.2.1 a0 hz_a0 hk_a0 0 (iv_mono (iv_c (c := 0) (n := 0) (by decide)) (by decide) (by decide)) 99999 (iv_mono (iv_c (c := 99999) (n := 99999) (by decide)) (by decide) (by decide)) tb k_tb x12 k10 (iv_mono h132 (by decide) (by decide)) tp k133 (iv_mono h_tp (by decide) (by decide)) q134 x137 k135 (iv_mono h136 (by decide) (by decide))) s_X12_200 ⟨rfl, rfl, ⟨Nat.le_of_ble_eq_true rfl, Nat.le_of_ble_eq_true rfl⟩, ⟨Nat.le_of_ble_eq_true rfl, Nat.le_of_ble_eq_true rfl⟩⟩ hz_a0 hk_a0 (by decide) rfl rfl hl.1 rfl (Nat.le_of_ble_eq_true rfl) dX12_value_25) rfl rfl (fun x144 H locs M141 R142 J140 hS f138 g139 E143 => ?_)
    have eR142 := Fr.nil g139 rfl
    subst eR142
    obtain ⟨h_x144, p145, p146, p147⟩ := E143
    obtain ⟨x150, k148, h149, q151⟩ := p145
    have k148 : M141 a0 13 = x150 := k148
    obtain ⟨x155, k156, h154, q157⟩ := p146
    have k156 : M141 a0 15 = x155 := k156
    have q158 : (0 : Int32).toInt = 0 := (by decide)
    have q159 : (99999 : Int32).toInt = 99999 := (by decide)
    have z160 : x144 = 0 → ¬ (M141 a0 14).toInt = 0 := p147
    refine lv_if_eq (tgt := 39) hx hb dX12_value_28 (by decide) (fun c161 => ?_) (fun c161 => ?_)
    · have q162 : x144.toInt = 0 := ti_eq c161
      have z163 := z160 c161
      have h164 : iv 0 0 x144 := ⟨by have := (h_x144).1; have := ((iv_c (c := 0) (n := 0) (by decide))).1; omega, by have := (h_x144).2; have := ((iv_c (c := 0) (n := 0) (by decide))).2; omega⟩
      refine lv_iconst (v := 0) hx hb dX12_value_39 (by decide) ?_
      have q165 : nx.toInt ≤ x150.toInt ∧ x150.toInt ≤ tp.toInt := by
        have := (h_le).1; have := (h_le).2; have := (h_md).1; have := (h_md).2; have := (h_nx).1; have := (h_nx).2; have := (h_tp).1; have := (h_tp).2; have := (h_tq).1; have := (h_tq).2; have := (h132).1; have := (h132).2; have := (h164).1; have := (h164).2; have := (h149).1; have := (h149).2; have := (h_x8).1; have := (h_x8).2; exact ⟨by omega, by omega⟩
      exact tw_endz hx hb hr hlocks hK hT hS hQ rfl (⟨(iv_mono (iv_c (c := 0) (n := 0) (by decide)) (by decide) (by decide)), ⟨(fun j hj => (Fr.kpa f138 hk_sg rfl j).trans ((fun j hj => (Fr.kpa f2 hk_sg rfl j).trans ((fun j _ => rfl) j hj)) j hj)), ⟨x150, k148, h149, q165.1, q165.2⟩, (fun h => absurd rfl h)⟩, (fun _ => (show ¬ (M141 a0 14).toInt = 0 from z163))⟩) dX12_value_40
    · have q166 : ¬ x144.toInt = 0 := ti_ne c161
      have h167 : iv 1 1 x144 := ⟨by have := (h_x144).1; have := ((iv_c (c := 0) (n := 0) (by decide))).1; have := ((iv_c (c := 0) (n := 0) (by decide))).2; omega, by have := (h_x144).2; have := ((iv_c (c := 0) (n := 0) (by decide))).1; have := ((iv_c (c := 0) (n := 0) (by decide))).2; omega⟩
      refine lv_aload_n hx hb dX12_value_31 rfl (lv_at hl 1 rfl) ?_
      refine lv_iload_n hx hb dX12_value_32 rfl (lv_at hl 0 rfl) ?_
      have k168 : M141 a0 17 = md := ((Fr.kp (k := 17) f138 hk_a0 rfl).trans (Fr.kp (k := 17) f2 hk_a0 rfl)).trans k_md
      refine tw_goi hS (md_runV (As := [.int x12]) (rest := []) hx hb hml hown hW hK hT hS.1 (t_X12_makes l D cy tx base Z K N M141 Ra J140 hS.2.1 a0 hz_a0 hk_a0 x12 (iv_mono h132 (by decide) (by decide)) md k168 (iv_mono h_md (by decide) (by decide))) s_X12_203 ⟨rfl, rfl, ⟨Nat.le_of_ble_eq_true rfl, Nat.le_of_ble_eq_true rfl⟩, ⟨Nat.le_of_ble_eq_true rfl, Nat.le_of_ble_eq_true rfl⟩⟩ hz_a0 hk_a0 (by decide) rfl rfl hl.1 rfl (Nat.le_of_ble_eq_true rfl) dX12_value_33) rfl rfl (fun x175 H locs M172 R173 J171 hS f169 g170 E174 => ?_)
      have eR173 := Fr.nil g170 rfl
      subst eR173
      obtain ⟨h_x175, p176, p177⟩ := E174
      obtain ⟨x179, k180, h178, q181⟩ := p176
      have k180 : M172 a0 17 = x179 := k180
      have z182 : x175 = 0 → ¬ (M172 a0 14).toInt = 0 := p177
      refine lv_if_ne (tgt := 41) hx hb dX12_value_36 (by decide) (fun c183 => ?_) (fun c183 => ?_)
      · have q184 : ¬ x175.toInt = 0 := ti_ne c183
        have h185 : iv 1 1 x175 := ⟨by have := (h_x175).1; have := ((iv_c (c := 0) (n := 0) (by decide))).1; have := ((iv_c (c := 0) (n := 0) (by decide))).2; omega, by have := (h_x175).2; have := ((iv_c (c := 0) (n := 0) (by decide))).1; have := ((iv_c (c := 0) (n := 0) (by decide))).2; omega⟩
        refine lv_aload_n hx hb dX12_value_41 rfl (lv_at hl 1 rfl) ?_
        refine lv_iconst (v := 0) hx hb dX12_value_42 (by decide) ?_
        refine lv_aload_n hx hb dX12_value_43 rfl (lv_at hl 1 rfl) ?_
        have k186 : M172 a0 15 = x155 := (Fr.kp (k := 15) f169 hk_a0 rfl).trans k156
        refine tw_getk hx hb hW hown hK hS f_X12_152_11 hz_a0 hk_a0 (v := x155) k186 dX12_value_44 ?_
        have h187 : iv 0 99999 x155 := by
          have := (h_le).1; have := (h_le).2; have := (h_md).1; have := (h_md).2; have := (h_nx).1; have := (h_nx).2; have := (h_tp).1; have := (h_tp).2; have := (h_tq).1; have := (h_tq).2; have := (h154).1; have := (h154).2; exact ⟨by omega, by omega⟩
        have k188 : M172 a0 16 = tq := ((Fr.kp (k := 16) f169 hk_a0 rfl).trans ((Fr.kp (k := 16) f138 hk_a0 rfl).trans (Fr.kp (k := 16) f2 hk_a0 rfl))).trans k_tq
        have k189 : M172 lg tq.toNatClampNeg = le := ((Fr.kpa f169 hk_lg rfl tq.toNatClampNeg).trans ((Fr.kpa f138 hk_lg rfl tq.toNatClampNeg).trans (Fr.kpa f2 hk_lg rfl tq.toNatClampNeg))).trans k_le
        have h190 : iv 0 399 le := by
          have := (h_le).1; have := (h_le).2; have := (h_md).1; have := (h_md).2; have := (h_nx).1; have := (h_nx).2; have := (h_tp).1; have := (h_tp).2; have := (h_tq).1; have := (h_tq).2; exact ⟨by omega, by omega⟩
        refine tw_gov hS (md_runV (As := [.int 0, .int x155]) (rest := []) hx hb hml hown hW hK hT hS.1 (t_X12_puts l D cy tx base Z K N M172 Ra J171 hS.2.1 a0 hz_a0 hk_a0 0 (iv_mono (iv_c (c := 0) (n := 0) (by decide)) (by decide) (by decide)) x155 h187 sg k_sg lg k_lg tq k188 (iv_mono h_tq (by decide) (by decide)) le k189 h190) s_X12_195 ⟨rfl, rfl, ⟨Nat.le_of_ble_eq_true rfl, Nat.le_of_ble_eq_true rfl⟩, ⟨Nat.le_of_ble_eq_true rfl, Nat.le_of_ble_eq_true rfl⟩⟩ hz_a0 hk_a0 (by decide) rfl rfl hl.1 rfl (Nat.le_of_ble_eq_true rfl) dX12_value_47) rfl rfl (fun H locs M194 R195 J193 hS f191 g192 E196 => ?_)
        have eR195 := Fr.nil g192 rfl
        subst eR195
        have p197 := E196
        clear E196
        obtain ⟨x198, x200, zc197, zd197, zo197, k201, h199, zl197⟩ := p197
        have k201 : M194 lg tq.toNatClampNeg = x200 := k201
        have zt197 := ti_cl (x := tq) (by have := h_tq.1; omega); have zn197 := ti_cl (x := le) (by have := (h_le).1; omega); have zm197 := ti_cl (x := x200) (by have := (h199).1; omega)
        have q202 : (0 : Int32).toInt = 0 := (by decide)
        have k203 : M194 a0 17 = x179 := (Fr.kp (k := 17) f191 hk_a0 rfl).trans k180
        have zs197 := stp_num (h := sh) (show x198.toInt = 0 + 16 * x155.toInt by omega) (by have := ((iv_c (c := 0) (n := 0) (by decide))).1; have := ((iv_c (c := 0) (n := 0) (by decide))).2; have := (h154).1; have := (h154).2; omega) (by have := (h178).2; omega)
        have z204 : SEG M194 sg tq.toNatClampNeg sb x200.toNatClampNeg (sh + 1) := SEG.cast (SEG.ext (SEG.to (SEG.to (SEG.to hseg (fun j _ _ => Fr.kpa f2 hk_sg rfl j)) (fun j _ _ => Fr.kpa f138 hk_sg rfl j)) (fun j _ _ => Fr.kpa f169 hk_sg rfl j)) (by omega) zd197 zo197 zs197) (by omega) (by omega)
        have zw197 := ti_cl (x := le) (by have := h_le.1; omega)
        have z205 : ∀ j, j < 400 * tq.toNatClampNeg + le.toNatClampNeg → M194 sg j = Ma sg j := fun j hj => (zo197 j (by omega)).trans ((fun j hj => (Fr.kpa f169 hk_sg rfl j).trans ((fun j hj => (Fr.kpa f138 hk_sg rfl j).trans ((fun j hj => (Fr.kpa f2 hk_sg rfl j).trans ((fun j _ => rfl) j hj)) j hj)) j hj)) j hj)
        refine lv_iconst (v := 1) hx hb dX12_value_50 (by decide) ?_
        have k206 : M194 a0 13 = x150 := ((Fr.kp (k := 13) f191 hk_a0 rfl).trans (Fr.kp (k := 13) f169 hk_a0 rfl)).trans k148
        have q207 : nx.toInt ≤ x150.toInt ∧ x150.toInt ≤ tp.toInt := by
          have := (h_le).1; have := (h_le).2; have := (h_md).1; have := (h_md).2; have := (h_nx).1; have := (h_nx).2; have := (h_tp).1; have := (h_tp).2; have := (h_tq).1; have := (h_tq).2; have := (h132).1; have := (h132).2; have := (h167).1; have := (h167).2; have := (h149).1; have := (h149).2; have := (h_x8).1; have := (h_x8).2; exact ⟨by omega, by omega⟩
        have q208 : le.toInt ≤ x200.toInt ∧ x200.toInt - le.toInt ≤ x150.toInt - nx.toInt ∧ ((sh + 1 : Nat) : Int) ≤ x179.toInt := by
          have := (h_le).1; have := (h_le).2; have := (h_md).1; have := (h_md).2; have := (h_nx).1; have := (h_nx).2; have := (h_tp).1; have := (h_tp).2; have := (h_tq).1; have := (h_tq).2; have := (h132).1; have := (h132).2; have := (h167).1; have := (h167).2; have := (h149).1; have := (h149).2; have := (h178).1; have := (h178).2; have := (h199).1; have := (h199).2; have := (h_x8).1; have := (h_x8).2; exact ⟨by omega, by omega, by omega⟩
        exact tw_endz hx hb hr hlocks hK hT hS hQ rfl (⟨(iv_mono (iv_c (c := 1) (n := 1) (by decide)) (by decide) (by decide)), ⟨z205, ⟨x150, k206, h149, q207.1, q207.2⟩, fun _ => ⟨x150, x200, x179, k206, k201, k203, (iv_mono h199 (by decide) (by decide)), q208.1, q208.2.1, q208.2.2, z204⟩⟩, (fun h => absurd h (by decide))⟩) dX12_value_51
      · have q209 : x175.toInt = 0 := ti_eq c183
        have z210 := z182 c183
        have h211 : iv 0 0 x175 := ⟨by have := (h_x175).1; have := ((iv_c (c := 0) (n := 0) (by decide))).1; omega, by have := (h_x175).2; have := ((iv_c (c := 0) (n := 0) (by decide))).2; omega⟩
        refine lv_iconst (v := 0) hx hb dX12_value_39 (by decide) ?_
        have k212 : M172 a0 13 = x150 := (Fr.kp (k := 13) f169 hk_a0 rfl).trans k148
        have q213 : nx.toInt ≤ x150.toInt ∧ x150.toInt ≤ tp.toInt := by
          have := (h_le).1; have := (h_le).2; have := (h_md).1; have := (h_md).2; have := (h_nx).1; have := (h_nx).2; have := (h_tp).1; have := (h_tp).2; have := (h_tq).1; have := (h_tq).2; have := (h132).1; have := (h132).2; have := (h167).1; have := (h167).2; have := (h149).1; have := (h149).2; have := (h_x8).1; have := (h_x8).2; exact ⟨by omega, by omega⟩
        exact tw_endz hx hb hr hlocks hK hT hS hQ rfl (⟨(iv_mono (iv_c (c := 0) (n := 0) (by decide)) (by decide) (by decide)), ⟨(fun j hj => (Fr.kpa f169 hk_sg rfl j).trans ((fun j hj => (Fr.kpa f138 hk_sg rfl j).trans ((fun j hj => (Fr.kpa f2 hk_sg rfl j).trans ((fun j _ => rfl) j hj)) j hj)) j hj)), ⟨x150, k212, h149, q213.1, q213.2⟩, (fun h => absurd rfl h)⟩, (fun _ => (show ¬ (M172 a0 14).toInt = 0 from z210))⟩) dX12_value_40
