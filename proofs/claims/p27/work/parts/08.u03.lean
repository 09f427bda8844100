def Lt_X12_term : WL := [(12, 13, 16), (12, 17, 18), (25, 0, 2000000), (26, 0, 2000000)]
def LRt_X12_term : WL := []
set_option maxRecDepth 100000 in
set_option maxHeartbeats 4000000 in
theorem t_X12_term (l : Launch) (D : va_G) (cy : Nat → ClassId) (tx : (Nat → Nat) × (Nat → Nat)) (base Z : Nat) (K N : Nat → Nat) (Ma : MT) (Ra : RT) (Ja : JT) (hTy : Ty Z K N Ma Ra) (a0 : Nat) (hz_a0 : a0 < Z) (hk_a0 : K a0 = 12) (tb : Nat) (k_tb : Ra a0 0 = some tb) (nx : Int32) (k_nx : Ma a0 13 = nx) (h_nx : iv 0 400 nx) (tp : Int32) (k_tp : Ma a0 1 = tp) (h_tp : iv 0 400 tp) (hnt : nx.toInt ≤ tp.toInt) (lg : Nat) (k_lg : Ra a0 4 = some lg) (sg : Nat) (k_sg : Ra a0 3 = some sg) (tq : Int32) (k_tq : Ma a0 16 = tq) (h_tq : iv 0 5 tq) (le : Int32) (k_le : Ma lg tq.toNatClampNeg = le) (h_le : iv 0 400 le) (md : Int32) (k_md : Ma a0 17 = md) (h_md : iv 0 60 md) (sb : Nat) (sh : Nat) (hseg : SEG Ma sg tq.toNatClampNeg sb le.toNatClampNeg sh) (hsb : (sb : Int) ≤ le.toInt) (hsh : (sh : Int) ≤ md.toInt) (hle : le.toInt ≤ nx.toInt) : Met l yX12_term [Cond.code yX12_term cX12_term 2 (some .boolean)] (md_rm 5 0 0) (va_Pc [.ref (base + a0)] (md_U D cy tx base Z K N Ma Ra Ja)) (mQi D cy tx base (fun r u => TP Z K N Lt_X12_term LRt_X12_term Ma Ra u ∧ (iv 0 1 r ∧ ((∀ j, j < 400 * tq.toNatClampNeg + le.toNatClampNeg → u.2.2.2.1 sg j = Ma sg j) ∧ (∃ x0 : Int32, u.2.2.2.1 a0 13 = x0 ∧ iv 0 400 x0 ∧ nx.toInt ≤ x0.toInt ∧ x0.toInt ≤ tp.toInt) ∧ (¬ r = 0 → ∃ x0 x1 x2 : Int32, u.2.2.2.1 a0 13 = x0 ∧ u.2.2.2.1 lg tq.toNatClampNeg = x1 ∧ u.2.2.2.1 a0 17 = x2 ∧ iv 0 400 x1 ∧ le.toInt ≤ x1.toInt ∧ x1.toInt - le.toInt ≤ x0.toInt - nx.toInt ∧ ((sh + 1 : Nat) : Int) ≤ x2.toInt ∧ SEG u.2.2.2.1 sg tq.toNatClampNeg sb x1.toNatClampNeg (sh + 1))) ∧ (r = 0 → ¬ (u.2.2.2.1 a0 14).toInt = 0)))) 0 0 (fun q => base ≤ q) := by
  refine tw_ofW (L := Lt_X12_term) (LR := LRt_X12_term) (by decide) (Nat.le_of_ble_eq_true rfl) hTy ?_
  intro p e s m args below meth c Q ls hx hb hr hlocks hown hml hW hK hT hS hQ hl
  have hl : lv_has ls 2 [(0, .ref (base + a0))] := hl
  obtain ⟨hz_tb, hk_tb, hn_tb⟩ := hTy.refn hz_a0 hk_a0 (show rtR 12 0 = (13, 400, 0) from rfl) k_tb
  have hn_tb := hn_tb (by decide)
  obtain ⟨hz_lg, hk_lg, hn_lg⟩ := hTy.refn hz_a0 hk_a0 (show rtR 12 4 = (26, 7, 0) from rfl) k_lg
  have hn_lg := hn_lg (by decide)
  obtain ⟨hz_sg, hk_sg, hn_sg⟩ := hTy.refn hz_a0 hk_a0 (show rtR 12 3 = (25, 2400, 0) from rfl) k_sg
  have hn_sg := hn_sg (by decide)
  refine lv_aload_n hx hb dX12_term_0 rfl (lv_at hl 0 rfl) ?_
  have q1 : nx.toInt ≤ tp.toInt := by
    have := (h_le).1; have := (h_le).2; have := (h_md).1; have := (h_md).2; have := (h_nx).1; have := (h_nx).2; have := (h_tp).1; have := (h_tp).2; have := (h_tq).1; have := (h_tq).2; omega
  have q2 : ((sb : Nat) : Int) ≤ le.toInt := by
    have := (h_le).1; have := (h_le).2; have := (h_md).1; have := (h_md).2; have := (h_nx).1; have := (h_nx).2; have := (h_tp).1; have := (h_tp).2; have := (h_tq).1; have := (h_tq).2; omega
  have q3 : ((sh : Nat) : Int) ≤ md.toInt := by
    have := (h_le).1; have := (h_le).2; have := (h_md).1; have := (h_md).2; have := (h_nx).1; have := (h_nx).2; have := (h_tp).1; have := (h_tp).2; have := (h_tq).1; have := (h_tq).2; omega
  have q4 : le.toInt ≤ nx.toInt := by
    have := (h_le).1; have := (h_le).2; have := (h_md).1; have := (h_md).2; have := (h_nx).1; have := (h_nx).2; have := (h_tp).1; have := (h_tp).2; have := (h_tq).1; have := (h_tq).2; omega
  refine tw_goi hS (md_runV (As := []) (rest := []) hx hb hml hown hW hK hT hS.1 (t_X12_value l D cy tx base Z K N Ma Ra Ja hS.2.1 a0 hz_a0 hk_a0 tb k_tb nx k_nx (iv_mono h_nx (by decide) (by decide)) tp k_tp (iv_mono h_tp (by decide) (by decide)) q1 lg k_lg sg k_sg tq k_tq (iv_mono h_tq (by decide) (by decide)) le k_le (iv_mono h_le (by decide) (by decide)) md k_md (iv_mono h_md (by decide) (by decide)) (sb) (sh) hseg q2 q3 q4) s_X12_209 ⟨rfl, rfl, ⟨Nat.le_of_ble_eq_true rfl, Nat.le_of_ble_eq_true rfl⟩, ⟨Nat.le_of_ble_eq_true rfl, Nat.le_of_ble_eq_true rfl⟩⟩ hz_a0 hk_a0 (by decide) rfl rfl hl.1 rfl (Nat.le_of_ble_eq_true rfl) dX12_term_1) rfl rfl (fun x11 H locs M8 R9 J7 hS f5 g6 E10 => ?_)
  have eR9 := Fr.nil g6 rfl
  subst eR9
  obtain ⟨h_x11, p12, p13⟩ := E10
  obtain ⟨zf13, ⟨x15, k16, h14, zu13, zv13⟩, zc13⟩ := p12
  have k16 : M8 a0 13 = x15 := k16
  have zw13 := ti_cl (x := le) (by have := h_le.1; omega); have zy13 := ti_cl (x := le) (by have := (h_le).1; omega)
  have z17 : ∀ j, j < 400 * tq.toNatClampNeg + le.toNatClampNeg → M8 sg j = Ma sg j := fun j hj => (zf13 j (by omega)).trans ((fun j _ => rfl) j hj)
  have z18 : x11 = 0 → ¬ (M8 a0 14).toInt = 0 := p13
  refine lv_if_ne (tgt := 9) hx hb dX12_term_4 (by decide) (fun c19 => ?_) (fun c19 => ?_)
  · have q20 : ¬ x11.toInt = 0 := ti_ne c19
    have h21 : iv 1 1 x11 := ⟨by have := (h_x11).1; have := ((iv_c (c := 0) (n := 0) (by decide))).1; have := ((iv_c (c := 0) (n := 0) (by decide))).2; omega, by have := (h_x11).2; have := ((iv_c (c := 0) (n := 0) (by decide))).1; have := ((iv_c (c := 0) (n := 0) (by decide))).2; omega⟩
    obtain ⟨x28, x24, x25, k29, k26, k27, h22, za21, zb21, zd21, z30⟩ := zc13 c19
    have ze21 : x28 = x15 := k29.symm.trans k16
    rw [ze21] at zb21
    have k26 : M8 lg tq.toNatClampNeg = x24 := k26
    have k27 : M8 a0 17 = x25 := k27
    have h23 : iv 0 60 x25 := by rw [← k27]; exact hS.2.1.int hz_a0 hk_a0 (show rgI 12 17 = (0, 60) from rfl)
    have W9_31 : ∀ (n_31 : Nat) (x36 : Int32) (x38 : Int32) (x40 : Int32) (M31 : MT) (R32 : RT) (J33 : JT) (H : Heap) (locs : List Loc) (ls : Array Slot) (h_x36 : iv 0 400 x36) (k37 : M31 a0 13 = x36) (h_x38 : iv 0 60 x38) (k39 : M31 a0 17 = x38) (h_x40 : iv 0 400 x40) (k41 : M31 lg tq.toNatClampNeg = x40) (w0_31 : nx.toInt ≤ x36.toInt ∧ x36.toInt ≤ tp.toInt) (w1_31 : le.toInt ≤ x40.toInt ∧ x40.toInt - le.toInt ≤ x36.toInt - nx.toInt ∧ ((sh + 1 : Nat) : Int) ≤ x38.toInt) (w2_31 : SEG M31 sg tq.toNatClampNeg sb x40.toNatClampNeg (sh + 1)) (w3_31 : ∀ j, j < 400 * tq.toNatClampNeg + le.toNatClampNeg → M31 sg j = Ma sg j) (hm_31 : 400 - x36.toInt < (n_31 : Int)) (hS : SB D cy base Z K N Lt_X12_term LRt_X12_term Ma Ra M31 R32 J33 s H locs) (hl : lv_has ls 2 [(0, .ref (base + a0))]), W p l e (md_rm 5 0 0) s m args below meth c H locs 0 0 Q (F0 m 9 ls []) := by
      intro n_31
      induction n_31 with
      | zero =>
        intro x36 x38 x40 M31 R32 J33 H locs ls h_x36 k37 h_x38 k39 h_x40 k41 w0_31 w1_31 w2_31 w3_31 hm_31 hS hl
        exfalso
        have := (h_le).1; have := (h_le).2; have := (h_md).1; have := (h_md).2; have := (h_nx).1; have := (h_nx).2; have := (h_tp).1; have := (h_tp).2; have := (h_tq).1; have := (h_tq).2; have := (h14).1; have := (h14).2; have := (h22).1; have := (h22).2; have := (h_x36).1; have := (h_x36).2; have := (h_x38).1; have := (h_x38).2; have := (h_x40).1; have := (h_x40).2; omega
      | succ n_31 ih_31 =>
        intro x36 x38 x40 M31 R32 J33 H locs ls h_x36 k37 h_x38 k39 h_x40 k41 w0_31 w1_31 w2_31 w3_31 hm_31 hS hl
        have f34 := hS.2.2.1
        have g35 := hS.2.2.2
        refine lv_aload_n hx hb dX12_term_9 rfl (lv_at hl 0 rfl) ?_
        have k42 : R32 a0 0 = some tb := (Fr.kp (k := 0) g35 hk_a0 rfl).trans k_tb
        have k43 : M31 a0 1 = tp := (Fr.kp (k := 1) f34 hk_a0 rfl).trans k_tp
        have q44 : x36.toInt ≤ tp.toInt := by
          have := (h_le).1; have := (h_le).2; have := (h_md).1; have := (h_md).2; have := (h_nx).1; have := (h_nx).2; have := (h_tp).1; have := (h_tp).2; have := (h_tq).1; have := (h_tq).2; have := (h14).1; have := (h14).2; have := (h22).1; have := (h22).2; have := (h_x36).1; have := (h_x36).2; have := (h_x38).1; have := (h_x38).2; have := (h_x40).1; have := (h_x40).2; omega
        refine tw_goi hS (md_runV (As := []) (rest := []) hx hb hml hown hW hK hT hS.1 (t_X12_see l D cy tx base Z K N M31 R32 J33 hS.2.1 a0 hz_a0 hk_a0 tb k42 x36 k37 (iv_mono h_x36 (by decide) (by decide)) tp k43 (iv_mono h_tp (by decide) (by decide)) q44) s_X12_130 ⟨rfl, rfl, ⟨Nat.le_of_ble_eq_true rfl, Nat.le_of_ble_eq_true rfl⟩, ⟨Nat.le_of_ble_eq_true rfl, Nat.le_of_ble_eq_true rfl⟩⟩ hz_a0 hk_a0 (by decide) rfl rfl hl.1 rfl (Nat.le_of_ble_eq_true rfl) dX12_term_10) rfl rfl (fun x51 H locs M48 R49 J47 hS f45 g46 E50 => ?_)
        have eR49 := Fr.nil g46 rfl
        subst eR49
        obtain ⟨h_x51, p52⟩ := E50
        obtain ⟨x55, k53, h54, q56, z57, z58⟩ := p52
        have k53 : M48 a0 13 = x55 := k53
        have z58 : ∀ j : Nat, j = x55.toNatClampNeg → x51.toInt = -1 ∨ ¬ (M48 tb j).toInt = 32 := z58
        refine lv_bipush (v := 42) hx hb dX12_term_13 (by decide) ?_
        refine lv_icmp_eq (tgt := 27) hx hb dX12_term_15 (by decide) (fun c59 => ?_) (fun c59 => ?_)
        · have q60 : x51.toInt = 42 := ti_eq c59
          have h61 : iv 42 42 x51 := ⟨by have := (h_x51).1; have := ((iv_c (c := 42) (n := 42) (by decide))).1; omega, by have := (h_x51).2; have := ((iv_c (c := 42) (n := 42) (by decide))).2; omega⟩
          refine lv_aload_n hx hb dX12_term_27 rfl (lv_at hl 0 rfl) ?_
          have k62 : R32 a0 0 = some tb := (Fr.kp (k := 0) g35 hk_a0 rfl).trans k_tb
          refine tw_getrk hx hb hW hown hK hS f_X12_7_11 hz_a0 hk_a0 (b := tb) k62 dX12_term_28 ?_
          refine lv_aload_n hx hb dX12_term_31 rfl (lv_at hl 0 rfl) ?_
          refine tw_getk hx hb hW hown hK hS f_X12_127_11 hz_a0 hk_a0 (v := x55) k53 dX12_term_32 ?_
          have h63 : iv 0 399 x55 := by
            have := (h_le).1; have := (h_le).2; have := (h_md).1; have := (h_md).2; have := (h_nx).1; have := (h_nx).2; have := (h_tp).1; have := (h_tp).2; have := (h_tq).1; have := (h_tq).2; have := (h14).1; have := (h14).2; have := (h22).1; have := (h22).2; have := (h_x36).1; have := (h_x36).2; have := (h_x38).1; have := (h_x38).2; have := (h_x40).1; have := (h_x40).2; have := (h61).1; have := (h61).2; have := (h54).1; have := (h54).2; exact ⟨by omega, by omega⟩
          refine tw_bald hx hb hK hS hz_tb hk_tb hn_tb h63 ⟨by decide, by decide⟩ dX12_term_35 (fun x66 k65 => ?_)
          have h64 := iv_any x66
          refine lv_bipush (v := 42) hx hb dX12_term_36 (by decide) ?_
          refine lv_icmp_ne (tgt := 45) hx hb dX12_term_38 (by decide) (fun c67 => ?_) (fun c67 => ?_)
          · have q68 : ¬ x66.toInt = 42 := ti_ne c67
            refine lv_iconst (v := 5) hx hb dX12_term_45 (by decide) ?_
            refine lv_istore_n (lv' := [(1, .int 5), (0, .ref (base + a0))]) hx hb dX12_term_46 rfl hl (by decide) rfl (fun ls hl => ?_)
            refine lv_aload_n hx hb dX12_term_47 rfl (lv_at hl 1 rfl) ?_
            refine lv_dup hx hb dX12_term_48 rfl ?_
            refine tw_getk hx hb hW hown hK hS f_X12_127_11 hz_a0 hk_a0 (v := x55) k53 dX12_term_49 ?_
            refine lv_iconst (v := 1) hx hb dX12_term_52 (by decide) ?_
            refine tw_iadd (lo := 1) (hi := 400) hx hb h63 (iv_c (c := 1) (n := 1) (by decide)) ⟨by decide, by decide⟩ ⟨by decide, by decide⟩ dX12_term_53 (fun x71 e70 h69 => ?_)
            have e70 : x71.toInt = x55.toInt + 1 := e70
            refine tw_puti hx hb hW hown hK hS f_X12_127_11 hz_a0 hk_a0 rfl rfl (lo := 0) (hi := 400) rfl (iv_mono h69 (by decide) (by decide)) rfl dX12_term_54 (fun H locs M74 hS k72 f73 => ?_)
            refine lv_aload_n hx hb dX12_term_57 rfl (lv_at hl 1 rfl) ?_
            have k75 : R32 a0 0 = some tb := (Fr.kp (k := 0) g35 hk_a0 rfl).trans k_tb
            have k76 : M74 a0 1 = tp := ((Fr.kp (k := 1) f73 hk_a0 rfl).trans ((Fr.kp (k := 1) f45 hk_a0 rfl).trans (Fr.kp (k := 1) f34 hk_a0 rfl))).trans k_tp
            have q77 : x71.toInt ≤ tp.toInt := by
              have := (h_le).1; have := (h_le).2; have := (h_md).1; have := (h_md).2; have := (h_nx).1; have := (h_nx).2; have := (h_tp).1; have := (h_tp).2; have := (h_tq).1; have := (h_tq).2; have := (h14).1; have := (h14).2; have := (h22).1; have := (h22).2; have := (h_x36).1; have := (h_x36).2; have := (h_x38).1; have := (h_x38).2; have := (h_x40).1; have := (h_x40).2; have := (h61).1; have := (h61).2; have := (h63).1; have := (h63).2; have := (h69).1; have := (h69).2; omega
            have k78 : R32 a0 4 = some lg := (Fr.kp (k := 4) g35 hk_a0 rfl).trans k_lg
            have k79 : R32 a0 3 = some sg := (Fr.kp (k := 3) g35 hk_a0 rfl).trans k_sg
            have k80 : M74 a0 16 = tq := ((Fr.kp (k := 16) f73 hk_a0 rfl).trans ((Fr.kp (k := 16) f45 hk_a0 rfl).trans (Fr.kp (k := 16) f34 hk_a0 rfl))).trans k_tq
            have k81 : M74 lg tq.toNatClampNeg = x40 := ((Fr.kpa f73 hk_lg rfl tq.toNatClampNeg).trans (Fr.kpa f45 hk_lg rfl tq.toNatClampNeg)).trans k41
            have k82 : M74 a0 17 = x38 := ((Fr.kp (k := 17) f73 hk_a0 rfl).trans (Fr.kp (k := 17) f45 hk_a0 rfl)).trans k39
            have q83 : ((sb : Nat) : Int) ≤ x40.toInt := by
              have := (h_le).1; have := (h_le).2; have := (h_md).1; have := (h_md).2; have := (h_nx).1; have := (h_nx).2; have := (h_tp).1; have := (h_tp).2; have := (h_tq).1; have := (h_tq).2; have := (h14).1; have := (h14).2; have := (h22).1; have := (h22).2; have := (h_x36).1; have := (h_x36).2; have := (h_x38).1; have := (h_x38).2; have := (h_x40).1; have := (h_x40).2; have := (h63).1; have := (h63).2; omega
            have q84 : ((sh + 1 : Nat) : Int) ≤ x38.toInt := by
              have := (h_le).1; have := (h_le).2; have := (h_md).1; have := (h_md).2; have := (h_nx).1; have := (h_nx).2; have := (h_tp).1; have := (h_tp).2; have := (h_tq).1; have := (h_tq).2; have := (h14).1; have := (h14).2; have := (h22).1; have := (h22).2; have := (h_x36).1; have := (h_x36).2; have := (h_x38).1; have := (h_x38).2; have := (h_x40).1; have := (h_x40).2; have := (h63).1; have := (h63).2; omega
            have q85 : x40.toInt ≤ x71.toInt := by
              have := (h_le).1; have := (h_le).2; have := (h_md).1; have := (h_md).2; have := (h_nx).1; have := (h_nx).2; have := (h_tp).1; have := (h_tp).2; have := (h_tq).1; have := (h_tq).2; have := (h14).1; have := (h14).2; have := (h22).1; have := (h22).2; have := (h_x36).1; have := (h_x36).2; have := (h_x38).1; have := (h_x38).2; have := (h_x40).1; have := (h_x40).2; have := (h61).1; have := (h61).2; have := (h63).1; have := (h63).2; have := (h69).1; have := (h69).2; omega
            refine tw_goi hS (md_runV (As := []) (rest := []) hx hb hml hown hW hK hT hS.1 (t_X12_value l D cy tx base Z K N M74 R32 J47 hS.2.1 a0 hz_a0 hk_a0 tb k75 x71 k72 (iv_mono h69 (by decide) (by decide)) tp k76 (iv_mono h_tp (by decide) (by decide)) q77 lg k78 sg k79 tq k80 (iv_mono h_tq (by decide) (by decide)) x40 k81 (iv_mono h_x40 (by decide) (by decide)) x38 k82 (iv_mono h_x38 (by decide) (by decide)) (sb) (sh + 1) (SEG.to (SEG.to w2_31 (fun j _ _ => Fr.kpa f45 hk_sg rfl j)) (fun j _ _ => Fr.kpa f73 hk_sg rfl j)) q83 q84 q85) s_X12_209 ⟨rfl, rfl, ⟨Nat.le_of_ble_eq_true rfl, Nat.le_of_ble_eq_true rfl⟩, ⟨Nat.le_of_ble_eq_true rfl, Nat.le_of_ble_eq_true rfl⟩⟩ hz_a0 hk_a0 (by decide) rfl rfl hl.1 rfl (Nat.le_of_ble_eq_true rfl) dX12_term_58) rfl rfl (fun x92 H locs M89 R90 J88 hS f86 g87 E91 => ?_)
            have eR90 := Fr.nil g87 rfl
            subst eR90
            obtain ⟨h_x92, p93, p94⟩ := E91
            obtain ⟨zf94, ⟨x96, k97, h95, zu94, zv94⟩, zc94⟩ := p93
            have k97 : M89 a0 13 = x96 := k97
            have zw94 := ti_cl (x := le) (by have := h_le.1; omega); have zy94 := ti_cl (x := x40) (by have := (h_x40).1; omega)
            have z98 : ∀ j, j < 400 * tq.toNatClampNeg + le.toNatClampNeg → M89 sg j = Ma sg j := fun j hj => (zf94 j (by omega)).trans ((fun j hj => (Fr.kpa f73 hk_sg rfl j).trans ((fun j hj => (Fr.kpa f45 hk_sg rfl j).trans (w3_31 j hj)) j hj)) j hj)
            have z99 : x92 = 0 → ¬ (M89 a0 14).toInt = 0 := p94
            refine lv_if_ne (tgt := 66) hx hb dX12_term_61 (by decide) (fun c100 => ?_) (fun c100 => ?_)
            · have q101 : ¬ x92.toInt = 0 := ti_ne c100
              have h102 : iv 1 1 x92 := ⟨by have := (h_x92).1; have := ((iv_c (c := 0) (n := 0) (by decide))).1; have := ((iv_c (c := 0) (n := 0) (by decide))).2; omega, by have := (h_x92).2; have := ((iv_c (c := 0) (n := 0) (by decide))).1; have := ((iv_c (c := 0) (n := 0) (by decide))).2; omega⟩
              obtain ⟨x109, x105, x106, k110, k107, k108, h103, za102, zb102, zd102, z111⟩ := zc94 c100
              have ze102 : x109 = x96 := k110.symm.trans k97
              rw [ze102] at zb102
              have k107 : M89 lg tq.toNatClampNeg = x105 := k107
              have k108 : M89 a0 17 = x106 := k108
              have h104 : iv 0 60 x106 := by rw [← k108]; exact hS.2.1.int hz_a0 hk_a0 (show rgI 12 17 = (0, 60) from rfl)
              have z112 : SEG M89 sg tq.toNatClampNeg sb x105.toNatClampNeg (sh + 2) := SEG.cast z111 rfl (by omega)
              refine lv_aload_n hx hb dX12_term_66 rfl (lv_at hl 1 rfl) ?_
              refine lv_iload_n hx hb dX12_term_67 rfl (lv_at hl 0 rfl) ?_
              refine lv_iconst (v := 0) hx hb dX12_term_68 (by decide) ?_
              have k113 : R32 a0 3 = some sg := (Fr.kp (k := 3) g35 hk_a0 rfl).trans k_sg
              have k114 : R32 a0 4 = some lg := (Fr.kp (k := 4) g35 hk_a0 rfl).trans k_lg
              have k115 : M89 a0 16 = tq := ((Fr.kp (k := 16) f86 hk_a0 rfl).trans ((Fr.kp (k := 16) f73 hk_a0 rfl).trans ((Fr.kp (k := 16) f45 hk_a0 rfl).trans (Fr.kp (k := 16) f34 hk_a0 rfl)))).trans k_tq
              have h116 : iv 0 399 x105 := by
                have := (h_le).1; have := (h_le).2; have := (h_md).1; have := (h_md).2; have := (h_nx).1; have := (h_nx).2; have := (h_tp).1; have := (h_tp).2; have := (h_tq).1; have := (h_tq).2; have := (h103).1; have := (h103).2; have := (h14).1; have := (h14).2; have := (h22).1; have := (h22).2; have := (h_x36).1; have := (h_x36).2; have := (h_x38).1; have := (h_x38).2; have := (h_x40).1; have := (h_x40).2; have := (h61).1; have := (h61).2; have := (h63).1; have := (h63).2; have := (h69).1; have := (h69).2; have := (h95).1; have := (h95).2; exact ⟨by omega, by omega⟩
              refine tw_gov hS (md_runV (As := [.int 5, .int 0]) (rest := []) hx hb hml hown hW hK hT hS.1 (t_X12_puts l D cy tx base Z K N M89 R32 J88 hS.2.1 a0 hz_a0 hk_a0 5 (iv_mono (iv_c (c := 5) (n := 5) (by decide)) (by decide) (by decide)) 0 (iv_mono (iv_c (c := 0) (n := 0) (by decide)) (by decide) (by decide)) sg k113 lg k114 tq k115 (iv_mono h_tq (by decide) (by decide)) x105 k107 h116) s_X12_195 ⟨rfl, rfl, ⟨Nat.le_of_ble_eq_true rfl, Nat.le_of_ble_eq_true rfl⟩, ⟨Nat.le_of_ble_eq_true rfl, Nat.le_of_ble_eq_true rfl⟩⟩ hz_a0 hk_a0 (by decide) rfl rfl hl.1 rfl (Nat.le_of_ble_eq_true rfl) dX12_term_69) rfl rfl (fun H locs M120 R121 J119 hS f117 g118 E122 => ?_)
              have eR121 := Fr.nil g118 rfl
              subst eR121
              have p123 := E122
              clear E122
              obtain ⟨x124, x126, zc123, zd123, zo123, k127, h125, zl123⟩ := p123
              have k127 : M120 lg tq.toNatClampNeg = x126 := k127
              have zt123 := ti_cl (x := tq) (by have := h_tq.1; omega); have zn123 := ti_cl (x := x105) (by have := (h103).1; omega); have zm123 := ti_cl (x := x126) (by have := (h125).1; omega)
              have q128 : (5 : Int32).toInt = 5 := (by decide)
              have q129 : (0 : Int32).toInt = 0 := (by decide)
              have k130 : M120 a0 17 = x106 := (Fr.kp (k := 17) f117 hk_a0 rfl).trans k108
              have zs123 := stp_two (h := sh + 2) (show x124.toInt = (5 : Int32).toInt + 16 * 0 by omega) (by have := ((iv_c (c := 5) (n := 5) (by decide))).1; have := ((iv_c (c := 5) (n := 5) (by decide))).2; have := ((iv_c (c := 0) (n := 0) (by decide))).1; have := ((iv_c (c := 0) (n := 0) (by decide))).2; omega) (by omega)
              have z131 : SEG M120 sg tq.toNatClampNeg sb x126.toNatClampNeg (sh + 1) := SEG.cast (SEG.ext z112 (by omega) zd123 zo123 zs123) (by omega) (by omega)
              have zw123 := ti_cl (x := le) (by have := h_le.1; omega)
              have z132 : ∀ j, j < 400 * tq.toNatClampNeg + le.toNatClampNeg → M120 sg j = Ma sg j := fun j hj => (zo123 j (by omega)).trans (z98 j hj)
              refine lv_goto (tgt := 9) hx hb dX12_term_72 (by decide) ?_
              have k133 : M120 a0 13 = x96 := (Fr.kp (k := 13) f117 hk_a0 rfl).trans k97
              have w134 : nx.toInt ≤ x96.toInt ∧ x96.toInt ≤ tp.toInt := by
                have := (h_le).1; have := (h_le).2; have := (h_md).1; have := (h_md).2; have := (h_nx).1; have := (h_nx).2; have := (h_tp).1; have := (h_tp).2; have := (h_tq).1; have := (h_tq).2; have := (h103).1; have := (h103).2; have := (h125).1; have := (h125).2; have := (h14).1; have := (h14).2; have := (h22).1; have := (h22).2; have := (h_x36).1; have := (h_x36).2; have := (h_x38).1; have := (h_x38).2; have := (h_x40).1; have := (h_x40).2; have := (h61).1; have := (h61).2; have := (h63).1; have := (h63).2; have := (h69).1; have := (h69).2; have := (h95).1; have := (h95).2; exact ⟨by omega, by omega⟩
              have w135 : le.toInt ≤ x126.toInt ∧ x126.toInt - le.toInt ≤ x96.toInt - nx.toInt ∧ ((sh + 1 : Nat) : Int) ≤ x106.toInt := by
                have := (h_le).1; have := (h_le).2; have := (h_md).1; have := (h_md).2; have := (h_nx).1; have := (h_nx).2; have := (h_tp).1; have := (h_tp).2; have := (h_tq).1; have := (h_tq).2; have := (h103).1; have := (h103).2; have := (h104).1; have := (h104).2; have := (h125).1; have := (h125).2; have := (h14).1; have := (h14).2; have := (h22).1; have := (h22).2; have := (h_x36).1; have := (h_x36).2; have := (h_x38).1; have := (h_x38).2; have := (h_x40).1; have := (h_x40).2; have := (h61).1; have := (h61).2; have := (h63).1; have := (h63).2; have := (h69).1; have := (h69).2; have := (h95).1; have := (h95).2; exact ⟨by omega, by omega, by omega⟩
              have w136 : SEG M120 sg tq.toNatClampNeg sb x126.toNatClampNeg (sh + 1) := z131
              have w137 : ∀ j, j < 400 * tq.toNatClampNeg + le.toNatClampNeg → M120 sg j = Ma sg j := z132
              have hm138 : 400 - x96.toInt < (n_31 : Int) := by
                have := (h_le).1; have := (h_le).2; have := (h_md).1; have := (h_md).2; have := (h_nx).1; have := (h_nx).2; have := (h_tp).1; have := (h_tp).2; have := (h_tq).1; have := (h_tq).2; have := (h103).1; have := (h103).2; have := (h125).1; have := (h125).2; have := (h14).1; have := (h14).2; have := (h22).1; have := (h22).2; have := (h_x36).1; have := (h_x36).2; have := (h_x38).1; have := (h_x38).2; have := (h_x40).1; have := (h_x40).2; have := (h61).1; have := (h61).2; have := (h63).1; have := (h63).2; have := (h69).1; have := (h69).2; have := (h95).1; have := (h95).2; omega
              exact ih_31 x96 x106 x126 M120 R32 J119 H locs _ h95 k133 h104 k130 (iv_mono h125 (by decide) (by decide)) k127 w134 w135 w136 w137 hm138 hS (lv_sub hl [1] rfl)
            · have q139 : x92.toInt = 0 := ti_eq c100
              have z140 := z99 c100
              have h141 : iv 0 0 x92 := ⟨by have := (h_x92).1; have := ((iv_c (c := 0) (n := 0) (by decide))).1; omega, by have := (h_x92).2; have := ((iv_c (c := 0) (n := 0) (by decide))).2; omega⟩
              refine lv_iconst (v := 0) hx hb dX12_term_64 (by decide) ?_
              have q142 : nx.toInt ≤ x96.toInt ∧ x96.toInt ≤ tp.toInt := by
                have := (h_le).1; have := (h_le).2; have := (h_md).1; have := (h_md).2; have := (h_nx).1; have := (h_nx).2; have := (h_tp).1; have := (h_tp).2; have := (h_tq).1; have := (h_tq).2; have := (h14).1; have := (h14).2; have := (h22).1; have := (h22).2; have := (h_x36).1; have := (h_x36).2; have := (h_x38).1; have := (h_x38).2; have := (h_x40).1; have := (h_x40).2; have := (h61).1; have := (h61).2; have := (h63).1; have := (h63).2; have := (h69).1; have := (h69).2; have := (h95).1; have := (h95).2; exact ⟨by omega, by omega⟩
              exact tw_endz hx hb hr hlocks hK hT hS hQ rfl (⟨(iv_mono (iv_c (c := 0) (n := 0) (by decide)) (by decide) (by decide)), ⟨z98, ⟨x96, k97, h95, q142.1, q142.2⟩, (fun h => absurd rfl h)⟩, (fun _ => (show ¬ (M89 a0 14).toInt = 0 from z140))⟩) dX12_term_65
          · have q143 : x66.toInt = 42 := ti_eq c67
            have h144 : iv 42 42 x66 := ⟨by have := (h64).1; have := ((iv_c (c := 42) (n := 42) (by decide))).1; omega, by have := (h64).2; have := ((iv_c (c := 42) (n := 42) (by decide))).2; omega⟩
            refine lv_iconst (v := 4) hx hb dX12_term_41 (by decide) ?_
            refine lv_goto (tgt := 46) hx hb dX12_term_42 (by decide) ?_
            refine lv_istore_n (lv' := [(1, .int 4), (0, .ref (base + a0))]) hx hb dX12_term_46 rfl hl (by decide) rfl (fun ls hl => ?_)
            refine lv_aload_n hx hb dX12_term_47 rfl (lv_at hl 1 rfl) ?_
            refine lv_dup hx hb dX12_term_48 rfl ?_
            refine tw_getk hx hb hW hown hK hS f_X12_127_11 hz_a0 hk_a0 (v := x55) k53 dX12_term_49 ?_
            refine lv_iconst (v := 1) hx hb dX12_term_52 (by decide) ?_
            refine tw_iadd (lo := 1) (hi := 400) hx hb h63 (iv_c (c := 1) (n := 1) (by decide)) ⟨by decide, by decide⟩ ⟨by decide, by decide⟩ dX12_term_53 (fun x147 e146 h145 => ?_)
            have e146 : x147.toInt = x55.toInt + 1 := e146
            refine tw_puti hx hb hW hown hK hS f_X12_127_11 hz_a0 hk_a0 rfl rfl (lo := 0) (hi := 400) rfl (iv_mono h145 (by decide) (by decide)) rfl dX12_term_54 (fun H locs M150 hS k148 f149 => ?_)
            refine lv_aload_n hx hb dX12_term_57 rfl (lv_at hl 1 rfl) ?_
            have k151 : R32 a0 0 = some tb := (Fr.kp (k := 0) g35 hk_a0 rfl).trans k_tb
            have k152 : M150 a0 1 = tp := ((Fr.kp (k := 1) f149 hk_a0 rfl).trans ((Fr.kp (k := 1) f45 hk_a0 rfl).trans (Fr.kp (k := 1) f34 hk_a0 rfl))).trans k_tp
            have q153 : x147.toInt ≤ tp.toInt := by
              have := (h_le).1; have := (h_le).2; have := (h_md).1; have := (h_md).2; have := (h_nx).1; have := (h_nx).2; have := (h_tp).1; have := (h_tp).2; have := (h_tq).1; have := (h_tq).2; have := (h145).1; have := (h145).2; have := (h14).1; have := (h14).2; have := (h22).1; have := (h22).2; have := (h_x36).1; have := (h_x36).2; have := (h_x38).1; have := (h_x38).2; have := (h_x40).1; have := (h_x40).2; have := (h61).1; have := (h61).2; have := (h63).1; have := (h63).2; omega
            have k154 : R32 a0 4 = some lg := (Fr.kp (k := 4) g35 hk_a0 rfl).trans k_lg
            have k155 : R32 a0 3 = some sg := (Fr.kp (k := 3) g35 hk_a0 rfl).trans k_sg
            have k156 : M150 a0 16 = tq := ((Fr.kp (k := 16) f149 hk_a0 rfl).trans ((Fr.kp (k := 16) f45 hk_a0 rfl).trans (Fr.kp (k := 16) f34 hk_a0 rfl))).trans k_tq
            have k157 : M150 lg tq.toNatClampNeg = x40 := ((Fr.kpa f149 hk_lg rfl tq.toNatClampNeg).trans (Fr.kpa f45 hk_lg rfl tq.toNatClampNeg)).trans k41
            have k158 : M150 a0 17 = x38 := ((Fr.kp (k := 17) f149 hk_a0 rfl).trans (Fr.kp (k := 17) f45 hk_a0 rfl)).trans k39
            have q159 : ((sb : Nat) : Int) ≤ x40.toInt := by
              have := (h_le).1; have := (h_le).2; have := (h_md).1; have := (h_md).2; have := (h_nx).1; have := (h_nx).2; have := (h_tp).1; have := (h_tp).2; have := (h_tq).1; have := (h_tq).2; have := (h14).1; have := (h14).2; have := (h22).1; have := (h22).2; have := (h_x36).1; have := (h_x36).2; have := (h_x38).1; have := (h_x38).2; have := (h_x40).1; have := (h_x40).2; have := (h63).1; have := (h63).2; omega
            have q160 : ((sh + 1 : Nat) : Int) ≤ x38.toInt := by
              have := (h_le).1; have := (h_le).2; have := (h_md).1; have := (h_md).2; have := (h_nx).1; have := (h_nx).2; have := (h_tp).1; have := (h_tp).2; have := (h_tq).1; have := (h_tq).2; have := (h14).1; have := (h14).2; have := (h22).1; have := (h22).2; have := (h_x36).1; have := (h_x36).2; have := (h_x38).1; have := (h_x38).2; have := (h_x40).1; have := (h_x40).2; have := (h63).1; have := (h63).2; omega
            have q161 : x40.toInt ≤ x147.toInt := by
              have := (h_le).1; have := (h_le).2; have := (h_md).1; have := (h_md).2; have := (h_nx).1; have := (h_nx).2; have := (h_tp).1; have := (h_tp).2; have := (h_tq).1; have := (h_tq).2; have := (h145).1; have := (h145).2; have := (h14).1; have := (h14).2; have := (h22).1; have := (h22).2; have := (h_x36).1; have := (h_x36).2; have := (h_x38).1; have := (h_x38).2; have := (h_x40).1; have := (h_x40).2; have := (h61).1; have := (h61).2; have := (h63).1; have := (h63).2; omega
            refine tw_goi hS (md_runV (As := []) (rest := []) hx hb hml hown hW hK hT hS.1 (t_X12_value l D cy tx base Z K N M150 R32 J47 hS.2.1 a0 hz_a0 hk_a0 tb k151 x147 k148 (iv_mono h145 (by decide) (by decide)) tp k152 (iv_mono h_tp (by decide) (by decide)) q153 lg k154 sg k155 tq k156 (iv_mono h_tq (by decide) (by decide)) x40 k157 (iv_mono h_x40 (by decide) (by decide)) x38 k158 (iv_mono h_x38 (by decide) (by decide)) (sb) (sh + 1) (SEG.to (SEG.to w2_31 (fun j _ _ => Fr.kpa f45 hk_sg rfl j)) (fun j _ _ => Fr.kpa f149 hk_sg rfl j)) q159 q160 q161) s_X12_209 ⟨rfl, rfl, ⟨Nat.le_of_ble_eq_true rfl, Nat.le_of_ble_eq_true rfl⟩, ⟨Nat.le_of_ble_eq_true rfl, Nat.le_of_ble_eq_true rfl⟩⟩ hz_a0 hk_a0 (by decide) rfl rfl hl.1 rfl (Nat.le_of_ble_eq_true rfl) dX12_term_58) rfl rfl (fun x168 H locs M165 R166 J164 hS f162 g163 E167 => ?_)
            have eR166 := Fr.nil g163 rfl
            subst eR166
            obtain ⟨h_x168, p169, p170⟩ := E167
            obtain ⟨zf170, ⟨x172, k173, h171, zu170, zv170⟩, zc170⟩ := p169
            have k173 : M165 a0 13 = x172 := k173
            have zw170 := ti_cl (x := le) (by have := h_le.1; omega); have zy170 := ti_cl (x := x40) (by have := (h_x40).1; omega)
            have z174 : ∀ j, j < 400 * tq.toNatClampNeg + le.toNatClampNeg → M165 sg j = Ma sg j := fun j hj => (zf170 j (by omega)).trans ((fun j hj => (Fr.kpa f149 hk_sg rfl j).trans ((fun j hj => (Fr.kpa f45 hk_sg rfl j).trans (w3_31 j hj)) j hj)) j hj)
            have z175 : x168 = 0 → ¬ (M165 a0 14).toInt = 0 := p170
            refine lv_if_ne (tgt := 66) hx hb dX12_term_61 (by decide) (fun c176 => ?_) (fun c176 => ?_)
            · have q177 : ¬ x168.toInt = 0 := ti_ne c176
              have h178 : iv 1 1 x168 := ⟨by have := (h_x168).1; have := ((iv_c (c := 0) (n := 0) (by decide))).1; have := ((iv_c (c := 0) (n := 0) (by decide))).2; omega, by have := (h_x168).2; have := ((iv_c (c := 0) (n := 0) (by decide))).1; have := ((iv_c (c := 0) (n := 0) (by decide))).2; omega⟩
              obtain ⟨x185, x181, x182, k186, k183, k184, h179, za178, zb178, zd178, z187⟩ := zc170 c176
              have ze178 : x185 = x172 := k186.symm.trans k173
              rw [ze178] at zb178
              have k183 : M165 lg tq.toNatClampNeg = x181 := k183
              have k184 : M165 a0 17 = x182 := k184
              have h180 : iv 0 60 x182 := by rw [← k184]; exact hS.2.1.int hz_a0 hk_a0 (show rgI 12 17 = (0, 60) from rfl)
              have z188 : SEG M165 sg tq.toNatClampNeg sb x181.toNatClampNeg (sh + 2) := SEG.cast z187 rfl (by omega)
              refine lv_aload_n hx hb dX12_term_66 rfl (lv_at hl 1 rfl) ?_
              refine lv_iload_n hx hb dX12_term_67 rfl (lv_at hl 0 rfl) ?_
              refine lv_iconst (v := 0) hx hb dX12_term_68 (by decide) ?_
              have k189 : R32 a0 3 = some sg := (Fr.kp (k := 3) g35 hk_a0 rfl).trans k_sg
              have k190 : R32 a0 4 = some lg := (Fr.kp (k := 4) g35 hk_a0 rfl).trans k_lg
              have k191 : M165 a0 16 = tq := ((Fr.kp (k := 16) f162 hk_a0 rfl).trans ((Fr.kp (k := 16) f149 hk_a0 rfl).trans ((Fr.kp (k := 16) f45 hk_a0 rfl).trans (Fr.kp (k := 16) f34 hk_a0 rfl)))).trans k_tq
              have h192 : iv 0 399 x181 := by
                have := (h_le).1; have := (h_le).2; have := (h_md).1; have := (h_md).2; have := (h_nx).1; have := (h_nx).2; have := (h_tp).1; have := (h_tp).2; have := (h_tq).1; have := (h_tq).2; have := (h145).1; have := (h145).2; have := (h14).1; have := (h14).2; have := (h171).1; have := (h171).2; have := (h179).1; have := (h179).2; have := (h22).1; have := (h22).2; have := (h_x36).1; have := (h_x36).2; have := (h_x38).1; have := (h_x38).2; have := (h_x40).1; have := (h_x40).2; have := (h61).1; have := (h61).2; have := (h63).1; have := (h63).2; exact ⟨by omega, by omega⟩
              refine tw_gov hS (md_runV (As := [.int 4, .int 0]) (rest := []) hx hb hml hown hW hK hT hS.1 (t_X12_puts l D cy tx base Z K N M165 R32 J164 hS.2.1 a0 hz_a0 hk_a0 4 (iv_mono (iv_c (c := 4) (n := 4) (by decide)) (by decide) (by decide)) 0 (iv_mono (iv_c (c := 0) (n := 0) (by decide)) (by decide) (by decide)) sg k189 lg k190 tq k191 (iv_mono h_tq (by decide) (by decide)) x181 k183 h192) s_X12_195 ⟨rfl, rfl, ⟨Nat.le_of_ble_eq_true rfl, Nat.le_of_ble_eq_true rfl⟩, ⟨Nat.le_of_ble_eq_true rfl, Nat.le_of_ble_eq_true rfl⟩⟩ hz_a0 hk_a0 (by decide) rfl rfl hl.1 rfl (Nat.le_of_ble_eq_true rfl) dX12_term_69) rfl rfl (fun H locs M196 R197 J195 hS f193 g194 E198 => ?_)
              have eR197 := Fr.nil g194 rfl
              subst eR197
              have p199 := E198
              clear E198
              obtain ⟨x200, x202, zc199, zd199, zo199, k203, h201, zl199⟩ := p199
              have k203 : M196 lg tq.toNatClampNeg = x202 := k203
              have zt199 := ti_cl (x := tq) (by have := h_tq.1; omega); have zn199 := ti_cl (x := x181) (by have := (h179).1; omega); have zm199 := ti_cl (x := x202) (by have := (h201).1; omega)
              have q204 : (4 : Int32).toInt = 4 := (by decide)
              have q205 : (0 : Int32).toInt = 0 := (by decide)
              have k206 : M196 a0 17 = x182 := (Fr.kp (k := 17) f193 hk_a0 rfl).trans k184
              have zs199 := stp_two (h := sh + 2) (show x200.toInt = (4 : Int32).toInt + 16 * 0 by omega) (by have := ((iv_c (c := 4) (n := 4) (by decide))).1; have := ((iv_c (c := 4) (n := 4) (by decide))).2; have := ((iv_c (c := 0) (n := 0) (by decide))).1; have := ((iv_c (c := 0) (n := 0) (by decide))).2; omega) (by omega)
              have z207 : SEG M196 sg tq.toNatClampNeg sb x202.toNatClampNeg (sh + 1) := SEG.cast (SEG.ext z188 (by omega) zd199 zo199 zs199) (by omega) (by omega)
              have zw199 := ti_cl (x := le) (by have := h_le.1; omega)
              have z208 : ∀ j, j < 400 * tq.toNatClampNeg + le.toNatClampNeg → M196 sg j = Ma sg j := fun j hj => (zo199 j (by omega)).trans (z174 j hj)
              refine lv_goto (tgt := 9) hx hb dX12_term_72 (by decide) ?_
              have k209 : M196 a0 13 = x172 := (Fr.kp (k := 13) f193 hk_a0 rfl).trans k173
              have w210 : nx.toInt ≤ x172.toInt ∧ x172.toInt ≤ tp.toInt := by
                have := (h_le).1; have := (h_le).2; have := (h_md).1; have := (h_md).2; have := (h_nx).1; have := (h_nx).2; have := (h_tp).1; have := (h_tp).2; have := (h_tq).1; have := (h_tq).2; have := (h145).1; have := (h145).2; have := (h14).1; have := (h14).2; have := (h171).1; have := (h171).2; have := (h179).1; have := (h179).2; have := (h201).1; have := (h201).2; have := (h22).1; have := (h22).2; have := (h_x36).1; have := (h_x36).2; have := (h_x38).1; have := (h_x38).2; have := (h_x40).1; have := (h_x40).2; have := (h61).1; have := (h61).2; have := (h63).1; have := (h63).2; exact ⟨by omega, by omega⟩
              have w211 : le.toInt ≤ x202.toInt ∧ x202.toInt - le.toInt ≤ x172.toInt - nx.toInt ∧ ((sh + 1 : Nat) : Int) ≤ x182.toInt := by
                have := (h_le).1; have := (h_le).2; have := (h_md).1; have := (h_md).2; have := (h_nx).1; have := (h_nx).2; have := (h_tp).1; have := (h_tp).2; have := (h_tq).1; have := (h_tq).2; have := (h145).1; have := (h145).2; have := (h14).1; have := (h14).2; have := (h171).1; have := (h171).2; have := (h179).1; have := (h179).2; have := (h180).1; have := (h180).2; have := (h201).1; have := (h201).2; have := (h22).1; have := (h22).2; have := (h_x36).1; have := (h_x36).2; have := (h_x38).1; have := (h_x38).2; have := (h_x40).1; have := (h_x40).2; have := (h61).1; have := (h61).2; have := (h63).1; have := (h63).2; exact ⟨by omega, by omega, by omega⟩
              have w212 : SEG M196 sg tq.toNatClampNeg sb x202.toNatClampNeg (sh + 1) := z207
              have w213 : ∀ j, j < 400 * tq.toNatClampNeg + le.toNatClampNeg → M196 sg j = Ma sg j := z208
              have hm214 : 400 - x172.toInt < (n_31 : Int) := by
                have := (h_le).1; have := (h_le).2; have := (h_md).1; have := (h_md).2; have := (h_nx).1; have := (h_nx).2; have := (h_tp).1; have := (h_tp).2; have := (h_tq).1; have := (h_tq).2; have := (h145).1; have := (h145).2; have := (h14).1; have := (h14).2; have := (h171).1; have := (h171).2; have := (h179).1; have := (h179).2; have := (h201).1; have := (h201).2; have := (h22).1; have := (h22).2; have := (h_x36).1; have := (h_x36).2; have := (h_x38).1; have := (h_x38).2; have := (h_x40).1; have := (h_x40).2; have := (h61).1; have := (h61).2; have := (h63).1; have := (h63).2; omega
              exact ih_31 x172 x182 x202 M196 R32 J195 H locs _ h171 k209 h180 k206 (iv_mono h201 (by decide) (by decide)) k203 w210 w211 w212 w213 hm214 hS (lv_sub hl [1] rfl)
            · have q215 : x168.toInt = 0 := ti_eq c176
              have z216 := z175 c176
              have h217 : iv 0 0 x168 := ⟨by have := (h_x168).1; have := ((iv_c (c := 0) (n := 0) (by decide))).1; omega, by have := (h_x168).2; have := ((iv_c (c := 0) (n := 0) (by decide))).2; omega⟩
              refine lv_iconst (v := 0) hx hb dX12_term_64 (by decide) ?_
              have q218 : nx.toInt ≤ x172.toInt ∧ x172.toInt ≤ tp.toInt := by
                have := (h_le).1; have := (h_le).2; have := (h_md).1; have := (h_md).2; have := (h_nx).1; have := (h_nx).2; have := (h_tp).1; have := (h_tp).2; have := (h_tq).1; have := (h_tq).2; have := (h145).1; have := (h145).2; have := (h14).1; have := (h14).2; have := (h171).1; have := (h171).2; have := (h22).1; have := (h22).2; have := (h_x36).1; have := (h_x36).2; have := (h_x38).1; have := (h_x38).2; have := (h_x40).1; have := (h_x40).2; have := (h61).1; have := (h61).2; have := (h63).1; have := (h63).2; exact ⟨by omega, by omega⟩
              exact tw_endz hx hb hr hlocks hK hT hS hQ rfl (⟨(iv_mono (iv_c (c := 0) (n := 0) (by decide)) (by decide) (by decide)), ⟨z174, ⟨x172, k173, h171, q218.1, q218.2⟩, (fun h => absurd rfl h)⟩, (fun _ => (show ¬ (M165 a0 14).toInt = 0 from z216))⟩) dX12_term_65
        · have q219 : ¬ x51.toInt = 42 := ti_ne c59
          refine lv_aload_n hx hb dX12_term_18 rfl (lv_at hl 0 rfl) ?_
          have k220 : R32 a0 0 = some tb := (Fr.kp (k := 0) g35 hk_a0 rfl).trans k_tb
          have k221 : M48 a0 1 = tp := ((Fr.kp (k := 1) f45 hk_a0 rfl).trans (Fr.kp (k := 1) f34 hk_a0 rfl)).trans k_tp
          have q222 : x55.toInt ≤ tp.toInt := by
            have := (h_le).1; have := (h_le).2; have := (h_md).1; have := (h_md).2; have := (h_nx).1; have := (h_nx).2; have := (h_tp).1; have := (h_tp).2; have := (h_tq).1; have := (h_tq).2; have := (h14).1; have := (h14).2; have := (h22).1; have := (h22).2; have := (h_x36).1; have := (h_x36).2; have := (h_x38).1; have := (h_x38).2; have := (h_x40).1; have := (h_x40).2; have := (h_x51).1; have := (h_x51).2; have := (h54).1; have := (h54).2; omega
          refine tw_goi hS (md_runV (As := []) (rest := []) hx hb hml hown hW hK hT hS.1 (t_X12_see l D cy tx base Z K N M48 R32 J47 hS.2.1 a0 hz_a0 hk_a0 tb k220 x55 k53 (iv_mono h54 (by decide) (by decide)) tp k221 (iv_mono h_tp (by decide) (by decide)) q222) s_X12_130 ⟨rfl, rfl, ⟨Nat.le_of_ble_eq_true rfl, Nat.le_of_ble_eq_true rfl⟩, ⟨Nat.le_of_ble_eq_true rfl, Nat.le_of_ble_eq_true rfl⟩⟩ hz_a0 hk_a0 (by decide) rfl rfl hl.1 rfl (Nat.le_of_ble_eq_true rfl) dX12_term_19) rfl rfl (fun x229 H locs M226 R227 J225 hS f223 g224 E228 => ?_)
          have eR227 := Fr.nil g224 rfl
          subst eR227
          obtain ⟨h_x229, p230⟩ := E228
          obtain ⟨x233, k231, h232, q234, z235, z236⟩ := p230
          have k231 : M226 a0 13 = x233 := k231
          have z236 : ∀ j : Nat, j = x233.toNatClampNeg → x229.toInt = -1 ∨ ¬ (M226 tb j).toInt = 32 := z236
          refine lv_bipush (v := 47) hx hb dX12_term_22 (by decide) ?_
          refine lv_icmp_ne (tgt := 75) hx hb dX12_term_24 (by decide) (fun c237 => ?_) (fun c237 => ?_)
          · have q238 : ¬ x229.toInt = 47 := ti_ne c237
            refine lv_iconst (v := 1) hx hb dX12_term_75 (by decide) ?_
            have q239 : nx.toInt ≤ x233.toInt ∧ x233.toInt ≤ tp.toInt := by
              have := (h_le).1; have := (h_le).2; have := (h_md).1; have := (h_md).2; have := (h_nx).1; have := (h_nx).2; have := (h_tp).1; have := (h_tp).2; have := (h_tq).1; have := (h_tq).2; have := (h14).1; have := (h14).2; have := (h_x229).1; have := (h_x229).2; have := (h232).1; have := (h232).2; have := (h22).1; have := (h22).2; have := (h_x36).1; have := (h_x36).2; have := (h_x38).1; have := (h_x38).2; have := (h_x40).1; have := (h_x40).2; have := (h_x51).1; have := (h_x51).2; have := (h54).1; have := (h54).2; exact ⟨by omega, by omega⟩
            have k240 : M226 lg tq.toNatClampNeg = x40 := ((Fr.kpa f223 hk_lg rfl tq.toNatClampNeg).trans (Fr.kpa f45 hk_lg rfl tq.toNatClampNeg)).trans k41
            have k241 : M226 a0 17 = x38 := ((Fr.kp (k := 17) f223 hk_a0 rfl).trans (Fr.kp (k := 17) f45 hk_a0 rfl)).trans k39
            have q242 : le.toInt ≤ x40.toInt ∧ x40.toInt - le.toInt ≤ x233.toInt - nx.toInt ∧ ((sh + 1 : Nat) : Int) ≤ x38.toInt := by
              have := (h_le).1; have := (h_le).2; have := (h_md).1; have := (h_md).2; have := (h_nx).1; have := (h_nx).2; have := (h_tp).1; have := (h_tp).2; have := (h_tq).1; have := (h_tq).2; have := (h14).1; have := (h14).2; have := (h_x229).1; have := (h_x229).2; have := (h232).1; have := (h232).2; have := (h22).1; have := (h22).2; have := (h_x36).1; have := (h_x36).2; have := (h_x38).1; have := (h_x38).2; have := (h_x40).1; have := (h_x40).2; have := (h_x51).1; have := (h_x51).2; have := (h54).1; have := (h54).2; exact ⟨by omega, by omega, by omega⟩
            exact tw_endz hx hb hr hlocks hK hT hS hQ rfl (⟨(iv_mono (iv_c (c := 1) (n := 1) (by decide)) (by decide) (by decide)), ⟨(fun j hj => (Fr.kpa f223 hk_sg rfl j).trans ((fun j hj => (Fr.kpa f45 hk_sg rfl j).trans (w3_31 j hj)) j hj)), ⟨x233, k231, h232, q239.1, q239.2⟩, fun _ => ⟨x233, x40, x38, k231, k240, k241, h_x40, q242.1, q242.2.1, q242.2.2, (SEG.to (SEG.to w2_31 (fun j _ _ => Fr.kpa f45 hk_sg rfl j)) (fun j _ _ => Fr.kpa f223 hk_sg rfl j))⟩⟩, (fun h => absurd h (by decide))⟩) dX12_term_76
          · have q243 : x229.toInt = 47 := ti_eq c237
            have h244 : iv 47 47 x229 := ⟨by have := (h_x229).1; have := ((iv_c (c := 47) (n := 47) (by decide))).1; omega, by have := (h_x229).2; have := ((iv_c (c := 47) (n := 47) (by decide))).2; omega⟩
            refine lv_aload_n hx hb dX12_term_27 rfl (lv_at hl 0 rfl) ?_
            have k245 : R32 a0 0 = some tb := (Fr.kp (k := 0) g35 hk_a0 rfl).trans k_tb
            refine tw_getrk hx hb hW hown hK hS f_X12_7_11 hz_a0 hk_a0 (b := tb) k245 dX12_term_28 ?_
            refine lv_aload_n hx hb dX12_term_31 rfl (lv_at hl 0 rfl) ?_
            refine tw_getk hx hb hW hown hK hS f_X12_127_11 hz_a0 hk_a0 (v := x233) k231 dX12_term_32 ?_
            have h246 : iv 0 399 x233 := by
              have := (h_le).1; have := (h_le).2; have := (h_md).1; have := (h_md).2; have := (h_nx).1; have := (h_nx).2; have := (h_tp).1; have := (h_tp).2; have := (h_tq).1; have := (h_tq).2; have := (h14).1; have := (h14).2; have := (h244).1; have := (h244).2; have := (h232).1; have := (h232).2; have := (h22).1; have := (h22).2; have := (h_x36).1; have := (h_x36).2; have := (h_x38).1; have := (h_x38).2; have := (h_x40).1; have := (h_x40).2; have := (h_x51).1; have := (h_x51).2; have := (h54).1; have := (h54).2; exact ⟨by omega, by omega⟩
            refine tw_bald hx hb hK hS hz_tb hk_tb hn_tb h246 ⟨by decide, by decide⟩ dX12_term_35 (fun x249 k248 => ?_)
            have h247 := iv_any x249
            refine lv_bipush (v := 42) hx hb dX12_term_36 (by decide) ?_
            refine lv_icmp_ne (tgt := 45) hx hb dX12_term_38 (by decide) (fun c250 => ?_) (fun c250 => ?_)
            · have q251 : ¬ x249.toInt = 42 := ti_ne c250
              refine lv_iconst (v := 5) hx hb dX12_term_45 (by decide) ?_
              refine lv_istore_n (lv' := [(1, .int 5), (0, .ref (base + a0))]) hx hb dX12_term_46 rfl hl (by decide) rfl (fun ls hl => ?_)
              refine lv_aload_n hx hb dX12_term_47 rfl (lv_at hl 1 rfl) ?_
              refine lv_dup hx hb dX12_term_48 rfl ?_
              refine tw_getk hx hb hW hown hK hS f_X12_127_11 hz_a0 hk_a0 (v := x233) k231 dX12_term_49 ?_
              refine lv_iconst (v := 1) hx hb dX12_term_52 (by decide) ?_
              refine tw_iadd (lo := 1) (hi := 400) hx hb h246 (iv_c (c := 1) (n := 1) (by decide)) ⟨by decide, by decide⟩ ⟨by decide, by decide⟩ dX12_term_53 (fun x254 e253 h252 => ?_)
              have e253 : x254.toInt = x233.toInt + 1 := e253
              refine tw_puti hx hb hW hown hK hS f_X12_127_11 hz_a0 hk_a0 rfl rfl (lo := 0) (hi := 400) rfl (iv_mono h252 (by decide) (by decide)) rfl dX12_term_54 (fun H locs M257 hS k255 f256 => ?_)
              refine lv_aload_n hx hb dX12_term_57 rfl (lv_at hl 1 rfl) ?_
              have k258 : R32 a0 0 = some tb := (Fr.kp (k := 0) g35 hk_a0 rfl).trans k_tb
              have k259 : M257 a0 1 = tp := ((Fr.kp (k := 1) f256 hk_a0 rfl).trans ((Fr.kp (k := 1) f223 hk_a0 rfl).trans ((Fr.kp (k := 1) f45 hk_a0 rfl).trans (Fr.kp (k := 1) f34 hk_a0 rfl)))).trans k_tp
              have q260 : x254.toInt ≤ tp.toInt := by
                have := (h_le).1; have := (h_le).2; have := (h_md).1; have := (h_md).2; have := (h_nx).1; have := (h_nx).2; have := (h_tp).1; have := (h_tp).2; have := (h_tq).1; have := (h_tq).2; have := (h14).1; have := (h14).2; have := (h244).1; have := (h244).2; have := (h246).1; have := (h246).2; have := (h22).1; have := (h22).2; have := (h252).1; have := (h252).2; have := (h_x36).1; have := (h_x36).2; have := (h_x38).1; have := (h_x38).2; have := (h_x40).1; have := (h_x40).2; have := (h_x51).1; have := (h_x51).2; have := (h54).1; have := (h54).2; omega
              have k261 : R32 a0 4 = some lg := (Fr.kp (k := 4) g35 hk_a0 rfl).trans k_lg
              have k262 : R32 a0 3 = some sg := (Fr.kp (k := 3) g35 hk_a0 rfl).trans k_sg
              have k263 : M257 a0 16 = tq := ((Fr.kp (k := 16) f256 hk_a0 rfl).trans ((Fr.kp (k := 16) f223 hk_a0 rfl).trans ((Fr.kp (k := 16) f45 hk_a0 rfl).trans (Fr.kp (k := 16) f34 hk_a0 rfl)))).trans k_tq
              have k264 : M257 lg tq.toNatClampNeg = x40 := ((Fr.kpa f256 hk_lg rfl tq.toNatClampNeg).trans ((Fr.kpa f223 hk_lg rfl tq.toNatClampNeg).trans (Fr.kpa f45 hk_lg rfl tq.toNatClampNeg))).trans k41
              have k265 : M257 a0 17 = x38 := ((Fr.kp (k := 17) f256 hk_a0 rfl).trans ((Fr.kp (k := 17) f223 hk_a0 rfl).trans (Fr.kp (k := 17) f45 hk_a0 rfl))).trans k39
              have q266 : ((sb : Nat) : Int) ≤ x40.toInt := by
                have := (h_le).1; have := (h_le).2; have := (h_md).1; have := (h_md).2; have := (h_nx).1; have := (h_nx).2; have := (h_tp).1; have := (h_tp).2; have := (h_tq).1; have := (h_tq).2; have := (h14).1; have := (h14).2; have := (h246).1; have := (h246).2; have := (h22).1; have := (h22).2; have := (h_x36).1; have := (h_x36).2; have := (h_x38).1; have := (h_x38).2; have := (h_x40).1; have := (h_x40).2; have := (h54).1; have := (h54).2; omega
              have q267 : ((sh + 1 : Nat) : Int) ≤ x38.toInt := by
                have := (h_le).1; have := (h_le).2; have := (h_md).1; have := (h_md).2; have := (h_nx).1; have := (h_nx).2; have := (h_tp).1; have := (h_tp).2; have := (h_tq).1; have := (h_tq).2; have := (h14).1; have := (h14).2; have := (h246).1; have := (h246).2; have := (h22).1; have := (h22).2; have := (h_x36).1; have := (h_x36).2; have := (h_x38).1; have := (h_x38).2; have := (h_x40).1; have := (h_x40).2; have := (h54).1; have := (h54).2; omega
              have q268 : x40.toInt ≤ x254.toInt := by
                have := (h_le).1; have := (h_le).2; have := (h_md).1; have := (h_md).2; have := (h_nx).1; have := (h_nx).2; have := (h_tp).1; have := (h_tp).2; have := (h_tq).1; have := (h_tq).2; have := (h14).1; have := (h14).2; have := (h244).1; have := (h244).2; have := (h246).1; have := (h246).2; have := (h22).1; have := (h22).2; have := (h252).1; have := (h252).2; have := (h_x36).1; have := (h_x36).2; have := (h_x38).1; have := (h_x38).2; have := (h_x40).1; have := (h_x40).2; have := (h_x51).1; have := (h_x51).2; have := (h54).1; have := (h54).2; omega
              refine tw_goi hS (md_runV (As := []) (rest := []) hx hb hml hown hW hK hT hS.1 (t_X12_value l D cy tx base Z K N M257 R32 J225 hS.2.1 a0 hz_a0 hk_a0 tb k258 x254 k255 (iv_mono h252 (by decide) (by decide)) tp k259 (iv_mono h_tp (by decide) (by decide)) q260 lg k261 sg k262 tq k263 (iv_mono h_tq (by decide) (by decide)) x40 k264 (iv_mono h_x40 (by decide) (by decide)) x38 k265 (iv_mono h_x38 (by decide) (by decide)) (sb) (sh + 1) (SEG.to (SEG.to (SEG.to w2_31 (fun j _ _ => Fr.kpa f45 hk_sg rfl j)) (fun j _ _ => Fr.kpa f223 hk_sg rfl j)) (fun j _ _ => Fr.kpa f256 hk_sg rfl j)) q266 q267 q268) s_X12_209 ⟨rfl, rfl, ⟨Nat.le_of_ble_eq_true rfl, Nat.le_of_ble_eq_true rfl⟩, ⟨Nat.le_of_ble_eq_true rfl, Nat.le_of_ble_eq_true rfl⟩⟩ hz_a0 hk_a0 (by decide) rfl rfl hl.1 rfl (Nat.le_of_ble_eq_true rfl) dX12_term_58) rfl rfl (fun x275 H locs M272 R273 J271 hS f269 g270 E274 => ?_)
              have eR273 := Fr.nil g270 rfl
              subst eR273
              obtain ⟨h_x275, p276, p277⟩ := E274
              obtain ⟨zf277, ⟨x279, k280, h278, zu277, zv277⟩, zc277⟩ := p276
              have k280 : M272 a0 13 = x279 := k280
              have zw277 := ti_cl (x := le) (by have := h_le.1; omega); have zy277 := ti_cl (x := x40) (by have := (h_x40).1; omega)
              have z281 : ∀ j, j < 400 * tq.toNatClampNeg + le.toNatClampNeg → M272 sg j = Ma sg j := fun j hj => (zf277 j (by omega)).trans ((fun j hj => (Fr.kpa f256 hk_sg rfl j).trans ((fun j hj => (Fr.kpa f223 hk_sg rfl j).trans ((fun j hj => (Fr.kpa f45 hk_sg rfl j).trans (w3_31 j hj)) j hj)) j hj)) j hj)
              have z282 : x275 = 0 → ¬ (M272 a0 14).toInt = 0 := p277
              refine lv_if_ne (tgt := 66) hx hb dX12_term_61 (by decide) (fun c283 => ?_) (fun c283 => ?_)
              · have q284 : ¬ x275.toInt = 0 := ti_ne c283
                have h285 : iv 1 1 x275 := ⟨by have := (h_x275).1; have := ((iv_c (c := 0) (n := 0) (by decide))).1; have := ((iv_c (c := 0) (n := 0) (by decide))).2; omega, by have := (h_x275).2; have := ((iv_c (c := 0) (n := 0) (by decide))).1; have := ((iv_c (c := 0) (n := 0) (by decide))).2; omega⟩
                obtain ⟨x292, x288, x289, k293, k290, k291, h286, za285, zb285, zd285, z294⟩ := zc277 c283
                have ze285 : x292 = x279 := k293.symm.trans k280
                rw [ze285] at zb285
                have k290 : M272 lg tq.toNatClampNeg = x288 := k290
                have k291 : M272 a0 17 = x289 := k291
                have h287 : iv 0 60 x289 := by rw [← k291]; exact hS.2.1.int hz_a0 hk_a0 (show rgI 12 17 = (0, 60) from rfl)
                have z295 : SEG M272 sg tq.toNatClampNeg sb x288.toNatClampNeg (sh + 2) := SEG.cast z294 rfl (by omega)
                refine lv_aload_n hx hb dX12_term_66 rfl (lv_at hl 1 rfl) ?_
                refine lv_iload_n hx hb dX12_term_67 rfl (lv_at hl 0 rfl) ?_
                refine lv_iconst (v := 0) hx hb dX12_term_68 (by decide) ?_
                have k296 : R32 a0 3 = some sg := (Fr.kp (k := 3) g35 hk_a0 rfl).trans k_sg
                have k297 : R32 a0 4 = some lg := (Fr.kp (k := 4) g35 hk_a0 rfl).trans k_lg
                have k298 : M272 a0 16 = tq := ((Fr.kp (k := 16) f269 hk_a0 rfl).trans ((Fr.kp (k := 16) f256 hk_a0 rfl).trans ((Fr.kp (k := 16) f223 hk_a0 rfl).trans ((Fr.kp (k := 16) f45 hk_a0 rfl).trans (Fr.kp (k := 16) f34 hk_a0 rfl))))).trans k_tq
                have h299 : iv 0 399 x288 := by
                  have := (h_le).1; have := (h_le).2; have := (h_md).1; have := (h_md).2; have := (h_nx).1; have := (h_nx).2; have := (h_tp).1; have := (h_tp).2; have := (h_tq).1; have := (h_tq).2; have := (h14).1; have := (h14).2; have := (h244).1; have := (h244).2; have := (h246).1; have := (h246).2; have := (h22).1; have := (h22).2; have := (h252).1; have := (h252).2; have := (h278).1; have := (h278).2; have := (h286).1; have := (h286).2; have := (h_x36).1; have := (h_x36).2; have := (h_x38).1; have := (h_x38).2; have := (h_x40).1; have := (h_x40).2; have := (h_x51).1; have := (h_x51).2; have := (h54).1; have := (h54).2; exact ⟨by omega, by omega⟩
                refine tw_gov hS (md_runV (As := [.int 5, .int 0]) (rest := []) hx hb hml hown hW hK hT hS.1 (t_X12_puts l D cy tx base Z K N M272 R32 J271 hS.2.1 a0 hz_a0 hk_a0 5 (iv_mono (iv_c (c := 5) (n := 5) (by decide)) (by decide) (by decide)) 0 (iv_mono (iv_c (c := 0) (n := 0) (by decide)) (by decide) (by decide)) sg k296 lg k297 tq k298 (iv_mono h_tq (by decide) (by decide)) x288 k290 h299) s_X12_195 ⟨rfl, rfl, ⟨Nat.le_of_ble_eq_true rfl, Nat.le_of_ble_eq_true rfl⟩, ⟨Nat.le_of_ble_eq_true rfl, Nat.le_of_ble_eq_true rfl⟩⟩ hz_a0 hk_a0 (by decide) rfl rfl hl.1 rfl (Nat.le_of_ble_eq_true rfl) dX12_term_69) rfl rfl (fun H locs M303 R304 J302 hS f300 g301 E305 => ?_)
                have eR304 := Fr.nil g301 rfl
                subst eR304
                have p306 := E305
                clear E305
                obtain ⟨x307, x309, zc306, zd306, zo306, k310, h308, zl306⟩ := p306
                have k310 : M303 lg tq.toNatClampNeg = x309 := k310
                have zt306 := ti_cl (x := tq) (by have := h_tq.1; omega); have zn306 := ti_cl (x := x288) (by have := (h286).1; omega); have zm306 := ti_cl (x := x309) (by have := (h308).1; omega)
                have q311 : (5 : Int32).toInt = 5 := (by decide)
                have q312 : (0 : Int32).toInt = 0 := (by decide)
                have k313 : M303 a0 17 = x289 := (Fr.kp (k := 17) f300 hk_a0 rfl).trans k291
                have zs306 := stp_two (h := sh + 2) (show x307.toInt = (5 : Int32).toInt + 16 * 0 by omega) (by have := ((iv_c (c := 5) (n := 5) (by decide))).1; have := ((iv_c (c := 5) (n := 5) (by decide))).2; have := ((iv_c (c := 0) (n := 0) (by decide))).1; have := ((iv_c (c := 0) (n := 0) (by decide))).2; omega) (by omega)
                have z314 : SEG M303 sg tq.toNatClampNeg sb x309.toNatClampNeg (sh + 1) := SEG.cast (SEG.ext z295 (by omega) zd306 zo306 zs306) (by omega) (by omega)
                have zw306 := ti_cl (x := le) (by have := h_le.1; omega)
                have z315 : ∀ j, j < 400 * tq.toNatClampNeg + le.toNatClampNeg → M303 sg j = Ma sg j := fun j hj => (zo306 j (by omega)).trans (z281 j hj)
                refine lv_goto (tgt := 9) hx hb dX12_term_72 (by decide) ?_
                have k316 : M303 a0 13 = x279 := (Fr.kp (k := 13) f300 hk_a0 rfl).trans k280
                have w317 : nx.toInt ≤ x279.toInt ∧ x279.toInt ≤ tp.toInt := by
                  have := (h_le).1; have := (h_le).2; have := (h_md).1; have := (h_md).2; have := (h_nx).1; have := (h_nx).2; have := (h_tp).1; have := (h_tp).2; have := (h_tq).1; have := (h_tq).2; have := (h14).1; have := (h14).2; have := (h244).1; have := (h244).2; have := (h246).1; have := (h246).2; have := (h22).1; have := (h22).2; have := (h252).1; have := (h252).2; have := (h278).1; have := (h278).2; have := (h286).1; have := (h286).2; have := (h308).1; have := (h308).2; have := (h_x36).1; have := (h_x36).2; have := (h_x38).1; have := (h_x38).2; have := (h_x40).1; have := (h_x40).2; have := (h_x51).1; have := (h_x51).2; have := (h54).1; have := (h54).2; exact ⟨by omega, by omega⟩
                have w318 : le.toInt ≤ x309.toInt ∧ x309.toInt - le.toInt ≤ x279.toInt - nx.toInt ∧ ((sh + 1 : Nat) : Int) ≤ x289.toInt := by
                  have := (h_le).1; have := (h_le).2; have := (h_md).1; have := (h_md).2; have := (h_nx).1; have := (h_nx).2; have := (h_tp).1; have := (h_tp).2; have := (h_tq).1; have := (h_tq).2; have := (h14).1; have := (h14).2; have := (h244).1; have := (h244).2; have := (h246).1; have := (h246).2; have := (h22).1; have := (h22).2; have := (h252).1; have := (h252).2; have := (h278).1; have := (h278).2; have := (h286).1; have := (h286).2; have := (h287).1; have := (h287).2; have := (h308).1; have := (h308).2; have := (h_x36).1; have := (h_x36).2; have := (h_x38).1; have := (h_x38).2; have := (h_x40).1; have := (h_x40).2; have := (h_x51).1; have := (h_x51).2; have := (h54).1; have := (h54).2; exact ⟨by omega, by omega, by omega⟩
                have w319 : SEG M303 sg tq.toNatClampNeg sb x309.toNatClampNeg (sh + 1) := z314
                have w320 : ∀ j, j < 400 * tq.toNatClampNeg + le.toNatClampNeg → M303 sg j = Ma sg j := z315
                have hm321 : 400 - x279.toInt < (n_31 : Int) := by
                  have := (h_le).1; have := (h_le).2; have := (h_md).1; have := (h_md).2; have := (h_nx).1; have := (h_nx).2; have := (h_tp).1; have := (h_tp).2; have := (h_tq).1; have := (h_tq).2; have := (h14).1; have := (h14).2; have := (h244).1; have := (h244).2; have := (h246).1; have := (h246).2; have := (h22).1; have := (h22).2; have := (h252).1; have := (h252).2; have := (h278).1; have := (h278).2; have := (h286).1; have := (h286).2; have := (h308).1; have := (h308).2; have := (h_x36).1; have := (h_x36).2; have := (h_x38).1; have := (h_x38).2; have := (h_x40).1; have := (h_x40).2; have := (h_x51).1; have := (h_x51).2; have := (h54).1; have := (h54).2; omega
                exact ih_31 x279 x289 x309 M303 R32 J302 H locs _ h278 k316 h287 k313 (iv_mono h308 (by decide) (by decide)) k310 w317 w318 w319 w320 hm321 hS (lv_sub hl [1] rfl)
              · have q322 : x275.toInt = 0 := ti_eq c283
                have z323 := z282 c283
                have h324 : iv 0 0 x275 := ⟨by have := (h_x275).1; have := ((iv_c (c := 0) (n := 0) (by decide))).1; omega, by have := (h_x275).2; have := ((iv_c (c := 0) (n := 0) (by decide))).2; omega⟩
                refine lv_iconst (v := 0) hx hb dX12_term_64 (by decide) ?_
                have q325 : nx.toInt ≤ x279.toInt ∧ x279.toInt ≤ tp.toInt := by
                  have := (h_le).1; have := (h_le).2; have := (h_md).1; have := (h_md).2; have := (h_nx).1; have := (h_nx).2; have := (h_tp).1; have := (h_tp).2; have := (h_tq).1; have := (h_tq).2; have := (h14).1; have := (h14).2; have := (h244).1; have := (h244).2; have := (h246).1; have := (h246).2; have := (h22).1; have := (h22).2; have := (h252).1; have := (h252).2; have := (h278).1; have := (h278).2; have := (h_x36).1; have := (h_x36).2; have := (h_x38).1; have := (h_x38).2; have := (h_x40).1; have := (h_x40).2; have := (h_x51).1; have := (h_x51).2; have := (h54).1; have := (h54).2; exact ⟨by omega, by omega⟩
                exact tw_endz hx hb hr hlocks hK hT hS hQ rfl (⟨(iv_mono (iv_c (c := 0) (n := 0) (by decide)) (by decide) (by decide)), ⟨z281, ⟨x279, k280, h278, q325.1, q325.2⟩, (fun h => absurd rfl h)⟩, (fun _ => (show ¬ (M272 a0 14).toInt = 0 from z323))⟩) dX12_term_65
            · have q326 : x249.toInt = 42 := ti_eq c250
              have h327 : iv 42 42 x249 := ⟨by have := (h247).1; have := ((iv_c (c := 42) (n := 42) (by decide))).1; omega, by have := (h247).2; have := ((iv_c (c := 42) (n := 42) (by decide))).2; omega⟩
              refine lv_iconst (v := 4) hx hb dX12_term_41 (by decide) ?_
              refine lv_goto (tgt := 46) hx hb dX12_term_42 (by decide) ?_
              refine lv_istore_n (lv' := [(1, .int 4), (0, .ref (base + a0))]) hx hb dX12_term_46 rfl hl (by decide) rfl (fun ls hl => ?_)
              refine lv_aload_n hx hb dX12_term_47 rfl (lv_at hl 1 rfl) ?_
              refine lv_dup hx hb dX12_term_48 rfl ?_
              refine tw_getk hx hb hW hown hK hS f_X12_127_11 hz_a0 hk_a0 (v := x233) k231 dX12_term_49 ?_
              refine lv_iconst (v := 1) hx hb dX12_term_52 (by decide) ?_
              refine tw_iadd (lo := 1) (hi := 400) hx hb h246 (iv_c (c := 1) (n := 1) (by decide)) ⟨by decide, by decide⟩ ⟨by decide, by decide⟩ dX12_term_53 (fun x330 e329 h328 => ?_)
              have e329 : x330.toInt = x233.toInt + 1 := e329
              refine tw_puti hx hb hW hown hK hS f_X12_127_11 hz_a0 hk_a0 rfl rfl (lo := 0) (hi := 400) rfl (iv_mono h328 (by decide) (by decide)) rfl dX12_term_54 (fun H locs M333 hS k331 f332 => ?_)
              refine lv_aload_n hx hb dX12_term_57 rfl (lv_at hl 1 rfl) ?_
              have k334 : R32 a0 0 = some tb := (Fr.kp (k := 0) g35 hk_a0 rfl).trans k_tb
              have k335 : M333 a0 1 = tp := ((Fr.kp (k := 1) f332 hk_a0 rfl).trans ((Fr.kp (k := 1) f223 hk_a0 rfl).trans ((Fr.kp (k := 1) f45 hk_a0 rfl).trans (Fr.kp (k := 1) f34 hk_a0 rfl)))).trans k_tp
              have q336 : x330.toInt ≤ tp.toInt := by
                have := (h_le).1; have := (h_le).2; have := (h_md).1; have := (h_md).2; have := (h_nx).1; have := (h_nx).2; have := (h_tp).1; have := (h_tp).2; have := (h_tq).1; have := (h_tq).2; have := (h14).1; have := (h14).2; have := (h244).1; have := (h244).2; have := (h246).1; have := (h246).2; have := (h22).1; have := (h22).2; have := (h328).1; have := (h328).2; have := (h_x36).1; have := (h_x36).2; have := (h_x38).1; have := (h_x38).2; have := (h_x40).1; have := (h_x40).2; have := (h_x51).1; have := (h_x51).2; have := (h54).1; have := (h54).2; omega
              have k337 : R32 a0 4 = some lg := (Fr.kp (k := 4) g35 hk_a0 rfl).trans k_lg
              have k338 : R32 a0 3 = some sg := (Fr.kp (k := 3) g35 hk_a0 rfl).trans k_sg
              have k339 : M333 a0 16 = tq := ((Fr.kp (k := 16) f332 hk_a0 rfl).trans ((Fr.kp (k := 16) f223 hk_a0 rfl).trans ((Fr.kp (k := 16) f45 hk_a0 rfl).trans (Fr.kp (k := 16) f34 hk_a0 rfl)))).trans k_tq
              have k340 : M333 lg tq.toNatClampNeg = x40 := ((Fr.kpa f332 hk_lg rfl tq.toNatClampNeg).trans ((Fr.kpa f223 hk_lg rfl tq.toNatClampNeg).trans (Fr.kpa f45 hk_lg rfl tq.toNatClampNeg))).trans k41
              have k341 : M333 a0 17 = x38 := ((Fr.kp (k := 17) f332 hk_a0 rfl).trans ((Fr.kp (k := 17) f223 hk_a0 rfl).trans (Fr.kp (k := 17) f45 hk_a0 rfl))).trans k39
              have q342 : ((sb : Nat) : Int) ≤ x40.toInt := by
                have := (h_le).1; have := (h_le).2; have := (h_md).1; have := (h_md).2; have := (h_nx).1; have := (h_nx).2; have := (h_tp).1; have := (h_tp).2; have := (h_tq).1; have := (h_tq).2; have := (h14).1; have := (h14).2; have := (h246).1; have := (h246).2; have := (h22).1; have := (h22).2; have := (h_x36).1; have := (h_x36).2; have := (h_x38).1; have := (h_x38).2; have := (h_x40).1; have := (h_x40).2; have := (h54).1; have := (h54).2; omega
              have q343 : ((sh + 1 : Nat) : Int) ≤ x38.toInt := by
                have := (h_le).1; have := (h_le).2; have := (h_md).1; have := (h_md).2; have := (h_nx).1; have := (h_nx).2; have := (h_tp).1; have := (h_tp).2; have := (h_tq).1; have := (h_tq).2; have := (h14).1; have := (h14).2; have := (h246).1; have := (h246).2; have := (h22).1; have := (h22).2; have := (h_x36).1; have := (h_x36).2; have := (h_x38).1; have := (h_x38).2; have := (h_x40).1; have := (h_x40).2; have := (h54).1; have := (h54).2; omega
              have q344 : x40.toInt ≤ x330.toInt := by
                have := (h_le).1; have := (h_le).2; have := (h_md).1; have := (h_md).2; have := (h_nx).1; have := (h_nx).2; have := (h_tp).1; have := (h_tp).2; have := (h_tq).1; have := (h_tq).2; have := (h14).1; have := (h14).2; have := (h244).1; have := (h244).2; have := (h246).1; have := (h246).2; have := (h22).1; have := (h22).2; have := (h328).1; have := (h328).2; have := (h_x36).1; have := (h_x36).2; have := (h_x38).1; have := (h_x38).2; have := (h_x40).1; have := (h_x40).2; have := (h_x51).1; have := (h_x51).2; have := (h54).1; have := (h54).2; omega
              refine tw_goi hS (md_runV (As := []) (rest := []) hx hb hml hown hW hK hT hS.1 (t_X12_value l D cy tx base Z K N M333 R32 J225 hS.2.1 a0 hz_a0 hk_a0 tb k334 x330 k331 (iv_mono h328 (by decide) (by decide)) tp k335 (iv_mono h_tp (by decide) (by decide)) q336 lg k337 sg k338 tq k339 (iv_mono h_tq (by decide) (by decide)) x40 k340 (iv_mono h_x40 (by decide) (by decide)) x38 k341 (iv_mono h_x38 (by decide) (by decide)) (sb) (sh + 1) (SEG.to (SEG.to (SEG.to w2_31 (fun j _ _ => Fr.kpa f45 hk_sg rfl j)) (fun j _ _ => Fr.kpa f223 hk_sg rfl j)) (fun j _ _ => Fr.kpa f332 hk_sg rfl j)) q342 q343 q344) s_X12_209 ⟨rfl, rfl, ⟨Nat.le_of_ble_eq_true rfl, Nat.le_of_ble_eq_true rfl⟩, ⟨Nat.le_of_ble_eq_true rfl, Nat.le_of_ble_eq_true rfl⟩⟩ hz_a0 hk_a0 (by decide) rfl rfl hl.1 rfl (Nat.le_of_ble_eq_true rfl) dX12_term_58) rfl rfl (fun x351 H locs M348 R349 J347 hS f345 g346 E350 => ?_)
              have eR349 := Fr.nil g346 rfl
              subst eR349
              obtain ⟨h_x351, p352, p353⟩ := E350
              obtain ⟨zf353, ⟨x355, k356, h354, zu353, zv353⟩, zc353⟩ := p352
              have k356 : M348 a0 13 = x355 := k356
              have zw353 := ti_cl (x := le) (by have := h_le.1; omega); have zy353 := ti_cl (x := x40) (by have := (h_x40).1; omega)
              have z357 : ∀ j, j < 400 * tq.toNatClampNeg + le.toNatClampNeg → M348 sg j = Ma sg j := fun j hj => (zf353 j (by omega)).trans ((fun j hj => (Fr.kpa f332 hk_sg rfl j).trans ((fun j hj => (Fr.kpa f223 hk_sg rfl j).trans ((fun j hj => (Fr.kpa f45 hk_sg rfl j).trans (w3_31 j hj)) j hj)) j hj)) j hj)
              have z358 : x351 = 0 → ¬ (M348 a0 14).toInt = 0 := p353
              refine lv_if_ne (tgt := 66) hx hb dX12_term_61 (by decide) (fun c359 => ?_) (fun c359 => ?_)
              · have q360 : ¬ x351.toInt = 0 := ti_ne c359
                have h361 : iv 1 1 x351 := ⟨by have := (h_x351).1; have := ((iv_c (c := 0) (n := 0) (by decide))).1; have := ((iv_c (c := 0) (n := 0) (by decide))).2; omega, by have := (h_x351).2; have := ((iv_c (c := 0) (n := 0) (by decide))).1; have := ((iv_c (c := 0) (n := 0) (by decide))).2; omega⟩
                obtain ⟨x368, x364, x365, k369, k366, k367, h362, za361, zb361, zd361, z370⟩ := zc353 c359
                have ze361 : x368 = x355 := k369.symm.trans k356
                rw [ze361] at zb361
                have k366 : M348 lg tq.toNatClampNeg = x364 := k366
                have k367 : M348 a0 17 = x365 := k367
                have h363 : iv 0 60 x365 := by rw [← k367]; exact hS.2.1.int hz_a0 hk_a0 (show rgI 12 17 = (0, 60) from rfl)
                have z371 : SEG M348 sg tq.toNatClampNeg sb x364.toNatClampNeg (sh + 2) := SEG.cast z370 rfl (by omega)
                refine lv_aload_n hx hb dX12_term_66 rfl (lv_at hl 1 rfl) ?_
                refine lv_iload_n hx hb dX12_term_67 rfl (lv_at hl 0 rfl) ?_
                refine lv_iconst (v := 0) hx hb dX12_term_68 (by decide) ?_
                have k372 : R32 a0 3 = some sg := (Fr.kp (k := 3) g35 hk_a0 rfl).trans k_sg
                have k373 : R32 a0 4 = some lg := (Fr.kp (k := 4) g35 hk_a0 rfl).trans k_lg
                have k374 : M348 a0 16 = tq := ((Fr.kp (k := 16) f345 hk_a0 rfl).trans ((Fr.kp (k := 16) f332 hk_a0 rfl).trans ((Fr.kp (k := 16) f223 hk_a0 rfl).trans ((Fr.kp (k := 16) f45 hk_a0 rfl).trans (Fr.kp (k := 16) f34 hk_a0 rfl))))).trans k_tq
                have h375 : iv 0 399 x364 := by
                  have := (h_le).1; have := (h_le).2; have := (h_md).1; have := (h_md).2; have := (h_nx).1; have := (h_nx).2; have := (h_tp).1; have := (h_tp).2; have := (h_tq).1; have := (h_tq).2; have := (h14).1; have := (h14).2; have := (h244).1; have := (h244).2; have := (h246).1; have := (h246).2; have := (h22).1; have := (h22).2; have := (h328).1; have := (h328).2; have := (h354).1; have := (h354).2; have := (h_x36).1; have := (h_x36).2; have := (h362).1; have := (h362).2; have := (h_x38).1; have := (h_x38).2; have := (h_x40).1; have := (h_x40).2; have := (h_x51).1; have := (h_x51).2; have := (h54).1; have := (h54).2; exact ⟨by omega, by omega⟩
                refine tw_gov hS (md_runV (As := [.int 4, .int 0]) (rest := []) hx hb hml hown hW hK hT hS.1 (t_X12_puts l D cy tx base Z K N M348 R32 J347 hS.2.1 a0 hz_a0 hk_a0 4 (iv_mono (iv_c (c := 4) (n := 4) (by decide)) (by decide) (by decide)) 0 (iv_mono (iv_c (c := 0) (n := 0) (by decide)) (by decide) (by decide)) sg k372 lg k373 tq k374 (iv_mono h_tq (by decide) (by decide)) x364 k366 h375) s_X12_195 ⟨rfl, rfl, ⟨Nat.le_of_ble_eq_true rfl, Nat.le_of_ble_eq_true rfl⟩, ⟨Nat.le_of_ble_eq_true rfl, Nat.le_of_ble_eq_true rfl⟩⟩ hz_a0 hk_a0 (by decide) rfl rfl hl.1 rfl (Nat.le_of_ble_eq_true rfl) dX12_term_69) rfl rfl (fun H locs M379 R380 J378 hS f376 g377 E381 => ?_)
                have eR380 := Fr.nil g377 rfl
                subst eR380
                have p382 := E381
                clear E381
                obtain ⟨x383, x385, zc382, zd382, zo382, k386, h384, zl382⟩ := p382
                have k386 : M379 lg tq.toNatClampNeg = x385 := k386
                have zt382 := ti_cl (x := tq) (by have := h_tq.1; omega); have zn382 := ti_cl (x := x364) (by have := (h362).1; omega); have zm382 := ti_cl (x := x385) (by have := (h384).1; omega)
                have q387 : (4 : Int32).toInt = 4 := (by decide)
                have q388 : (0 : Int32).toInt = 0 := (by decide)
                have k389 : M379 a0 17 = x365 := (Fr.kp (k := 17) f376 hk_a0 rfl).trans k367
                have zs382 := stp_two (h := sh + 2) (show x383.toInt = (4 : Int32).toInt + 16 * 0 by omega) (by have := ((iv_c (c := 4) (n := 4) (by decide))).1; have := ((iv_c (c := 4) (n := 4) (by decide))).2; have := ((iv_c (c := 0) (n := 0) (by decide))).1; have := ((iv_c (c := 0) (n := 0) (by decide))).2; omega) (by omega)
                have z390 : SEG M379 sg tq.toNatClampNeg sb x385.toNatClampNeg (sh + 1) := SEG.cast (SEG.ext z371 (by omega) zd382 zo382 zs382) (by omega) (by omega)
                have zw382 := ti_cl (x := le) (by have := h_le.1; omega)
                have z391 : ∀ j, j < 400 * tq.toNatClampNeg + le.toNatClampNeg → M379 sg j = Ma sg j := fun j hj => (zo382 j (by omega)).trans (z357 j hj)
                refine lv_goto (tgt := 9) hx hb dX12_term_72 (by decide) ?_
                have k392 : M379 a0 13 = x355 := (Fr.kp (k := 13) f376 hk_a0 rfl).trans k356
                have w393 : nx.toInt ≤ x355.toInt ∧ x355.toInt ≤ tp.toInt := by
                  have := (h_le).1; have := (h_le).2; have := (h_md).1; have := (h_md).2; have := (h_nx).1; have := (h_nx).2; have := (h_tp).1; have := (h_tp).2; have := (h_tq).1; have := (h_tq).2; have := (h14).1; have := (h14).2; have := (h244).1; have := (h244).2; have := (h246).1; have := (h246).2; have := (h22).1; have := (h22).2; have := (h328).1; have := (h328).2; have := (h354).1; have := (h354).2; have := (h_x36).1; have := (h_x36).2; have := (h362).1; have := (h362).2; have := (h_x38).1; have := (h_x38).2; have := (h384).1; have := (h384).2; have := (h_x40).1; have := (h_x40).2; have := (h_x51).1; have := (h_x51).2; have := (h54).1; have := (h54).2; exact ⟨by omega, by omega⟩
                have w394 : le.toInt ≤ x385.toInt ∧ x385.toInt - le.toInt ≤ x355.toInt - nx.toInt ∧ ((sh + 1 : Nat) : Int) ≤ x365.toInt := by
                  have := (h_le).1; have := (h_le).2; have := (h_md).1; have := (h_md).2; have := (h_nx).1; have := (h_nx).2; have := (h_tp).1; have := (h_tp).2; have := (h_tq).1; have := (h_tq).2; have := (h14).1; have := (h14).2; have := (h244).1; have := (h244).2; have := (h246).1; have := (h246).2; have := (h22).1; have := (h22).2; have := (h328).1; have := (h328).2; have := (h354).1; have := (h354).2; have := (h_x36).1; have := (h_x36).2; have := (h362).1; have := (h362).2; have := (h363).1; have := (h363).2; have := (h_x38).1; have := (h_x38).2; have := (h384).1; have := (h384).2; have := (h_x40).1; have := (h_x40).2; have := (h_x51).1; have := (h_x51).2; have := (h54).1; have := (h54).2; exact ⟨by omega, by omega, by omega⟩
                have w395 : SEG M379 sg tq.toNatClampNeg sb x385.toNatClampNeg (sh + 1) := z390
                have w396 : ∀ j, j < 400 * tq.toNatClampNeg + le.toNatClampNeg → M379 sg j = Ma sg j := z391
                have hm397 : 400 - x355.toInt < (n_31 : Int) := by
                  have := (h_le).1; have := (h_le).2; have := (h_md).1; have := (h_md).2; have := (h_nx).1; have := (h_nx).2; have := (h_tp).1; have := (h_tp).2; have := (h_tq).1; have := (h_tq).2; have := (h14).1; have := (h14).2; have := (h244).1; have := (h244).2; have := (h246).1; have := (h246).2; have := (h22).1; have := (h22).2; have := (h328).1; have := (h328).2; have := (h354).1; have := (h354).2; have := (h_x36).1; have := (h_x36).2; have := (h362).1; have := (h362).2; have := (h_x38).1; have := (h_x38).2; have := (h384).1; have := (h384).2; have := (h_x40).1; have := (h_x40).2; have := (h_x51).1; have := (h_x51).2; have := (h54).1; have := (h54).2; omega
                exact ih_31 x355 x365 x385 M379 R32 J378 H locs _ h354 k392 h363 k389 (iv_mono h384 (by decide) (by decide)) k386 w393 w394 w395 w396 hm397 hS (lv_sub hl [1] rfl)
              · have q398 : x351.toInt = 0 := ti_eq c359
                have z399 := z358 c359
                have h400 : iv 0 0 x351 := ⟨by have := (h_x351).1; have := ((iv_c (c := 0) (n := 0) (by decide))).1; omega, by have := (h_x351).2; have := ((iv_c (c := 0) (n := 0) (by decide))).2; omega⟩
                refine lv_iconst (v := 0) hx hb dX12_term_64 (by decide) ?_
                have q401 : nx.toInt ≤ x355.toInt ∧ x355.toInt ≤ tp.toInt := by
                  have := (h_le).1; have := (h_le).2; have := (h_md).1; have := (h_md).2; have := (h_nx).1; have := (h_nx).2; have := (h_tp).1; have := (h_tp).2; have := (h_tq).1; have := (h_tq).2; have := (h14).1; have := (h14).2; have := (h244).1; have := (h244).2; have := (h246).1; have := (h246).2; have := (h22).1; have := (h22).2; have := (h328).1; have := (h328).2; have := (h354).1; have := (h354).2; have := (h_x36).1; have := (h_x36).2; have := (h_x38).1; have := (h_x38).2; have := (h_x40).1; have := (h_x40).2; have := (h_x51).1; have := (h_x51).2; have := (h54).1; have := (h54).2; exact ⟨by omega, by omega⟩
                exact tw_endz hx hb hr hlocks hK hT hS hQ rfl (⟨(iv_mono (iv_c (c := 0) (n := 0) (by decide)) (by decide) (by decide)), ⟨z357, ⟨x355, k356, h354, q401.1, q401.2⟩, (fun h => absurd rfl h)⟩, (fun _ => (show ¬ (M348 a0 14).toInt = 0 from z399))⟩) dX12_term_65
    have w402 : nx.toInt ≤ x15.toInt ∧ x15.toInt ≤ tp.toInt := by
      have := (h_le).1; have := (h_le).2; have := (h_md).1; have := (h_md).2; have := (h_nx).1; have := (h_nx).2; have := (h_tp).1; have := (h_tp).2; have := (h_tq).1; have := (h_tq).2; have := (h14).1; have := (h14).2; have := (h22).1; have := (h22).2; exact ⟨by omega, by omega⟩
    have w403 : le.toInt ≤ x24.toInt ∧ x24.toInt - le.toInt ≤ x15.toInt - nx.toInt ∧ ((sh + 1 : Nat) : Int) ≤ x25.toInt := by
      have := (h_le).1; have := (h_le).2; have := (h_md).1; have := (h_md).2; have := (h_nx).1; have := (h_nx).2; have := (h_tp).1; have := (h_tp).2; have := (h_tq).1; have := (h_tq).2; have := (h14).1; have := (h14).2; have := (h22).1; have := (h22).2; have := (h23).1; have := (h23).2; exact ⟨by omega, by omega, by omega⟩
    have w404 : SEG M8 sg tq.toNatClampNeg sb x24.toNatClampNeg (sh + 1) := z30
    have w405 : ∀ j, j < 400 * tq.toNatClampNeg + le.toNatClampNeg → M8 sg j = Ma sg j := z17
    have hm406 : 400 - x15.toInt < (((401 : Nat) : Int) : Int) := by
      have := (h_le).1; have := (h_le).2; have := (h_md).1; have := (h_md).2; have := (h_nx).1; have := (h_nx).2; have := (h_tp).1; have := (h_tp).2; have := (h_tq).1; have := (h_tq).2; have := (h14).1; have := (h14).2; have := (h22).1; have := (h22).2; omega
    exact W9_31 401 x15 x25 x24 M8 Ra J7 H locs _ h14 k16 h23 k27 h22 k26 w402 w403 w404 w405 hm406 hS hl
  · have q407 : x11.toInt = 0 := ti_eq c19
    have z408 := z18 c19
    have h409 : iv 0 0 x11 := ⟨by have := (h_x11).1; have := ((iv_c (c := 0) (n := 0) (by decide))).1; omega, by have := (h_x11).2; have := ((iv_c (c := 0) (n := 0) (by decide))).2; omega⟩
    refine lv_iconst (v := 0) hx hb dX12_term_7 (by decide) ?_
    have q410 : nx.toInt ≤ x15.toInt ∧ x15.toInt ≤ tp.toInt := by
      have := (h_le).1; have := (h_le).2; have := (h_md).1; have := (h_md).2; have := (h_nx).1; have := (h_nx).2; have := (h_tp).1; have := (h_tp).2; have := (h_tq).1; have := (h_tq).2; have := (h14).1; have := (h14).2; exact ⟨by omega, by omega⟩
    exact tw_endz hx hb hr hlocks hK hT hS hQ rfl (⟨(iv_mono (iv_c (c := 0) (n := 0) (by decide)) (by decide) (by decide)), ⟨z17, ⟨x15, k16, h14, q410.1, q410.2⟩, (fun h => absurd rfl h)⟩, (fun _ => (show ¬ (M8 a0 14).toInt = 0 from z408))⟩) dX12_term_8
