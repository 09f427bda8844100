def Lt_X12_compare : WL := [(12, 13, 16), (12, 17, 18), (25, 0, 2000000), (26, 0, 2000000)]
def LRt_X12_compare : WL := []
set_option maxRecDepth 100000 in
set_option maxHeartbeats 4000000 in
theorem t_X12_compare (l : Launch) (D : va_G) (cy : Nat → ClassId) (tx : (Nat → Nat) × (Nat → Nat)) (base Z : Nat) (K N : Nat → Nat) (Ma : MT) (Ra : RT) (Ja : JT) (hTy : Ty Z K N Ma Ra) (a0 : Nat) (hz_a0 : a0 < Z) (hk_a0 : K a0 = 12) (tb : Nat) (k_tb : Ra a0 0 = some tb) (nx : Int32) (k_nx : Ma a0 13 = nx) (h_nx : iv 0 400 nx) (tp : Int32) (k_tp : Ma a0 1 = tp) (h_tp : iv 0 400 tp) (hnt : nx.toInt ≤ tp.toInt) (lg : Nat) (k_lg : Ra a0 4 = some lg) (sg : Nat) (k_sg : Ra a0 3 = some sg) (tq : Int32) (k_tq : Ma a0 16 = tq) (h_tq : iv 0 5 tq) (le : Int32) (k_le : Ma lg tq.toNatClampNeg = le) (h_le : iv 0 400 le) (md : Int32) (k_md : Ma a0 17 = md) (h_md : iv 0 60 md) (sb : Nat) (sh : Nat) (hseg : SEG Ma sg tq.toNatClampNeg sb le.toNatClampNeg sh) (hsb : (sb : Int) ≤ le.toInt) (hsh : (sh : Int) ≤ md.toInt) (hle : le.toInt ≤ nx.toInt) : Met l yX12_compare [Cond.code yX12_compare cX12_compare 5 (some .boolean)] (md_rm 7 0 0) (va_Pc [.ref (base + a0)] (md_U D cy tx base Z K N Ma Ra Ja)) (mQi D cy tx base (fun r u => TP Z K N Lt_X12_compare LRt_X12_compare Ma Ra u ∧ (iv 0 1 r ∧ ((∀ j, j < 400 * tq.toNatClampNeg + le.toNatClampNeg → u.2.2.2.1 sg j = Ma sg j) ∧ (∃ x0 : Int32, u.2.2.2.1 a0 13 = x0 ∧ iv 0 400 x0 ∧ nx.toInt ≤ x0.toInt ∧ x0.toInt ≤ tp.toInt) ∧ (¬ r = 0 → ∃ x0 x1 x2 : Int32, u.2.2.2.1 a0 13 = x0 ∧ u.2.2.2.1 lg tq.toNatClampNeg = x1 ∧ u.2.2.2.1 a0 17 = x2 ∧ iv 0 400 x1 ∧ le.toInt ≤ x1.toInt ∧ x1.toInt - le.toInt ≤ x0.toInt - nx.toInt ∧ ((sh + 1 : Nat) : Int) ≤ x2.toInt ∧ SEG u.2.2.2.1 sg tq.toNatClampNeg sb x1.toNatClampNeg (sh + 1))) ∧ (r = 0 → ¬ (u.2.2.2.1 a0 14).toInt = 0)))) 0 0 (fun q => base ≤ q) := by
  refine tw_ofW (L := Lt_X12_compare) (LR := LRt_X12_compare) (by decide) (Nat.le_of_ble_eq_true rfl) hTy ?_
  intro p e s m args below meth c Q ls hx hb hr hlocks hown hml hW hK hT hS hQ hl
  have hl : lv_has ls 5 [(0, .ref (base + a0))] := hl
  obtain ⟨hz_tb, hk_tb, hn_tb⟩ := hTy.refn hz_a0 hk_a0 (show rtR 12 0 = (13, 400, 0) from rfl) k_tb
  have hn_tb := hn_tb (by decide)
  obtain ⟨hz_lg, hk_lg, hn_lg⟩ := hTy.refn hz_a0 hk_a0 (show rtR 12 4 = (26, 7, 0) from rfl) k_lg
  have hn_lg := hn_lg (by decide)
  obtain ⟨hz_sg, hk_sg, hn_sg⟩ := hTy.refn hz_a0 hk_a0 (show rtR 12 3 = (25, 2400, 0) from rfl) k_sg
  have hn_sg := hn_sg (by decide)
  refine lv_aload_n hx hb dX12_compare_0 rfl (lv_at hl 0 rfl) ?_
  have q1 : nx.toInt ≤ tp.toInt := by
    have := (h_le).1; have := (h_le).2; have := (h_md).1; have := (h_md).2; have := (h_nx).1; have := (h_nx).2; have := (h_tp).1; have := (h_tp).2; have := (h_tq).1; have := (h_tq).2; omega
  have q2 : ((sb : Nat) : Int) ≤ le.toInt := by
    have := (h_le).1; have := (h_le).2; have := (h_md).1; have := (h_md).2; have := (h_nx).1; have := (h_nx).2; have := (h_tp).1; have := (h_tp).2; have := (h_tq).1; have := (h_tq).2; omega
  have q3 : ((sh : Nat) : Int) ≤ md.toInt := by
    have := (h_le).1; have := (h_le).2; have := (h_md).1; have := (h_md).2; have := (h_nx).1; have := (h_nx).2; have := (h_tp).1; have := (h_tp).2; have := (h_tq).1; have := (h_tq).2; omega
  have q4 : le.toInt ≤ nx.toInt := by
    have := (h_le).1; have := (h_le).2; have := (h_md).1; have := (h_md).2; have := (h_nx).1; have := (h_nx).2; have := (h_tp).1; have := (h_tp).2; have := (h_tq).1; have := (h_tq).2; omega
  refine tw_goi hS (md_runV (As := []) (rest := []) hx hb hml hown hW hK hT hS.1 (t_X12_sum l D cy tx base Z K N Ma Ra Ja hS.2.1 a0 hz_a0 hk_a0 tb k_tb nx k_nx (iv_mono h_nx (by decide) (by decide)) tp k_tp (iv_mono h_tp (by decide) (by decide)) q1 lg k_lg sg k_sg tq k_tq (iv_mono h_tq (by decide) (by decide)) le k_le (iv_mono h_le (by decide) (by decide)) md k_md (iv_mono h_md (by decide) (by decide)) (sb) (sh) hseg q2 q3 q4) s_X12_216 ⟨rfl, rfl, ⟨Nat.le_of_ble_eq_true rfl, Nat.le_of_ble_eq_true rfl⟩, ⟨Nat.le_of_ble_eq_true rfl, Nat.le_of_ble_eq_true rfl⟩⟩ hz_a0 hk_a0 (by decide) rfl rfl hl.1 rfl (Nat.le_of_ble_eq_true rfl) dX12_compare_1) rfl rfl (fun x11 H locs M8 R9 J7 hS f5 g6 E10 => ?_)
  have eR9 := Fr.nil g6 rfl
  subst eR9
  obtain ⟨h_x11, p12, p13⟩ := E10
  obtain ⟨zf13, ⟨x15, k16, h14, zu13, zv13⟩, zc13⟩ := p12
  have k16 : M8 a0 13 = x15 := k16
  have zw13 := ti_cl (x := le) (by have := h_le.1; omega); have zy13 := ti_cl (x := le) (by have := (h_le).1; omega)
  have z17 : ∀ j, j < 400 * tq.toNatClampNeg + le.toNatClampNeg → M8 sg j = Ma sg j := fun j hj => (zf13 j (by omega)).trans ((fun j _ => rfl) j hj)
  have z18 : x11 = 0 → ¬ (M8 a0 14).toInt = 0 := p13
  refine lv_if_ne (tgt := 9) hx hb dX12_compare_4 (by decide) (fun c19 => ?_) (fun c19 => ?_)
  · have q20 : ¬ x11.toInt = 0 := ti_ne c19
    have h21 : iv 1 1 x11 := ⟨by have := (h_x11).1; have := ((iv_c (c := 0) (n := 0) (by decide))).1; have := ((iv_c (c := 0) (n := 0) (by decide))).2; omega, by have := (h_x11).2; have := ((iv_c (c := 0) (n := 0) (by decide))).1; have := ((iv_c (c := 0) (n := 0) (by decide))).2; omega⟩
    obtain ⟨x28, x24, x25, k29, k26, k27, h22, za21, zb21, zd21, z30⟩ := zc13 c19
    have ze21 : x28 = x15 := k29.symm.trans k16
    rw [ze21] at zb21
    have k26 : M8 lg tq.toNatClampNeg = x24 := k26
    have k27 : M8 a0 17 = x25 := k27
    have h23 : iv 0 60 x25 := by rw [← k27]; exact hS.2.1.int hz_a0 hk_a0 (show rgI 12 17 = (0, 60) from rfl)
    refine lv_aload_n hx hb dX12_compare_9 rfl (lv_at hl 0 rfl) ?_
    have k31 : M8 a0 1 = tp := (Fr.kp (k := 1) f5 hk_a0 rfl).trans k_tp
    have q32 : x15.toInt ≤ tp.toInt := by
      have := (h_le).1; have := (h_le).2; have := (h_md).1; have := (h_md).2; have := (h_nx).1; have := (h_nx).2; have := (h_tp).1; have := (h_tp).2; have := (h_tq).1; have := (h_tq).2; have := (h14).1; have := (h14).2; have := (h22).1; have := (h22).2; omega
    refine tw_goi hS (md_runV (As := []) (rest := []) hx hb hml hown hW hK hT hS.1 (t_X12_see l D cy tx base Z K N M8 Ra J7 hS.2.1 a0 hz_a0 hk_a0 tb k_tb x15 k16 (iv_mono h14 (by decide) (by decide)) tp k31 (iv_mono h_tp (by decide) (by decide)) q32) s_X12_130 ⟨rfl, rfl, ⟨Nat.le_of_ble_eq_true rfl, Nat.le_of_ble_eq_true rfl⟩, ⟨Nat.le_of_ble_eq_true rfl, Nat.le_of_ble_eq_true rfl⟩⟩ hz_a0 hk_a0 (by decide) rfl rfl hl.1 rfl (Nat.le_of_ble_eq_true rfl) dX12_compare_10) rfl rfl (fun x39 H locs M36 R37 J35 hS f33 g34 E38 => ?_)
    have eR37 := Fr.nil g34 rfl
    subst eR37
    obtain ⟨h_x39, p40⟩ := E38
    obtain ⟨x43, k41, h42, q44, z45, z46⟩ := p40
    have k41 : M36 a0 13 = x43 := k41
    have z46 : ∀ j : Nat, j = x43.toNatClampNeg → x39.toInt = -1 ∨ ¬ (M36 tb j).toInt = 32 := z46
    refine lv_istore_n (lv' := [(1, .int x39), (0, .ref (base + a0))]) hx hb dX12_compare_13 rfl hl (by decide) rfl (fun ls hl => ?_)
    refine lv_aload_n hx hb dX12_compare_14 rfl (lv_at hl 1 rfl) ?_
    refine tw_getk hx hb hW hown hK hS f_X12_127_11 hz_a0 hk_a0 (v := x43) k41 dX12_compare_15 ?_
    refine lv_istore_n (lv' := [(2, .int x43), (1, .int x39), (0, .ref (base + a0))]) hx hb dX12_compare_18 rfl hl (by decide) rfl (fun ls hl => ?_)
    refine lv_iload_n hx hb dX12_compare_19 rfl (lv_at hl 1 rfl) ?_
    refine lv_bipush (v := 60) hx hb dX12_compare_20 (by decide) ?_
    refine lv_icmp_eq (tgt := 44) hx hb dX12_compare_22 (by decide) (fun c47 => ?_) (fun c47 => ?_)
    · have q48 : x39.toInt = 60 := ti_eq c47
      have h49 : iv 60 60 x39 := ⟨by have := (h_x39).1; have := ((iv_c (c := 60) (n := 60) (by decide))).1; omega, by have := (h_x39).2; have := ((iv_c (c := 60) (n := 60) (by decide))).2; omega⟩
      refine lv_aload_n hx hb dX12_compare_44 rfl (lv_at hl 2 rfl) ?_
      refine lv_dup hx hb dX12_compare_45 rfl ?_
      refine tw_getk hx hb hW hown hK hS f_X12_127_11 hz_a0 hk_a0 (v := x43) k41 dX12_compare_46 ?_
      refine lv_iconst (v := 1) hx hb dX12_compare_49 (by decide) ?_
      refine tw_iadd (lo := 1) (hi := 401) hx hb h42 (iv_c (c := 1) (n := 1) (by decide)) ⟨by decide, by decide⟩ ⟨by decide, by decide⟩ dX12_compare_50 (fun x52 e51 h50 => ?_)
      have e51 : x52.toInt = x43.toInt + 1 := e51
      have h55 : iv 0 400 x52 := by
        have := (h_le).1; have := (h_le).2; have := (h_md).1; have := (h_md).2; have := (h_nx).1; have := (h_nx).2; have := (h_tp).1; have := (h_tp).2; have := (h_tq).1; have := (h_tq).2; have := (h14).1; have := (h14).2; have := (h22).1; have := (h22).2; have := (h49).1; have := (h49).2; have := (h42).1; have := (h42).2; have := (h50).1; have := (h50).2; exact ⟨by omega, by omega⟩
      refine tw_puti hx hb hW hown hK hS f_X12_127_11 hz_a0 hk_a0 rfl rfl (lo := 0) (hi := 400) rfl h55 rfl dX12_compare_51 (fun H locs M56 hS k53 f54 => ?_)
      refine lv_iload_n hx hb dX12_compare_54 rfl (lv_at hl 1 rfl) ?_
      refine lv_bipush (v := 61) hx hb dX12_compare_55 (by decide) ?_
      refine lv_icmp_eq (tgt := 89) hx hb dX12_compare_57 (by decide) (fun c57 => False.elim (by have q : x39.toInt = 61 := ti_eq c57; have := (h49).1; have := (h49).2; omega)) (fun c57 => ?_)
      have q58 : ¬ x39.toInt = 61 := ti_ne c57
      refine lv_aload_n hx hb dX12_compare_60 rfl (lv_at hl 2 rfl) ?_
      refine tw_getk hx hb hW hown hK hS f_X12_127_11 hz_a0 hk_a0 (v := x52) k53 dX12_compare_61 ?_
      refine lv_aload_n hx hb dX12_compare_64 rfl (lv_at hl 2 rfl) ?_
      have k59 : M56 a0 1 = tp := ((Fr.kp (k := 1) f54 hk_a0 rfl).trans ((Fr.kp (k := 1) f33 hk_a0 rfl).trans (Fr.kp (k := 1) f5 hk_a0 rfl))).trans k_tp
      refine tw_getk hx hb hW hown hK hS f_X12_116_11 hz_a0 hk_a0 (v := tp) k59 dX12_compare_65 ?_
      refine lv_icmp_ge (tgt := 89) hx hb dX12_compare_68 (by decide) (fun c60 => ?_) (fun c60 => ?_)
      · have q61 : tp.toInt ≤ x52.toInt := ti_le c60
        refine lv_iconst (v := 0) hx hb dX12_compare_89 (by decide) ?_
        refine lv_istore_n (lv' := [(3, .int 0), (2, .int x43), (1, .int x39), (0, .ref (base + a0))]) hx hb dX12_compare_90 rfl hl (by decide) rfl (fun ls hl => ?_)
        refine lv_iload_n hx hb dX12_compare_91 rfl (lv_at hl 0 rfl) ?_
        refine lv_if_eq (tgt := 105) hx hb dX12_compare_92 (by decide) (fun _ => ?_) (fun h => absurd h (by decide))
        refine lv_aload_n hx hb dX12_compare_105 rfl (lv_at hl 3 rfl) ?_
        refine lv_iload_n hx hb dX12_compare_106 rfl (lv_at hl 1 rfl) ?_
        have k62 : M56 a0 17 = x25 := ((Fr.kp (k := 17) f54 hk_a0 rfl).trans (Fr.kp (k := 17) f33 hk_a0 rfl)).trans k27
        refine tw_goi hS (md_runV (As := [.int x43]) (rest := []) hx hb hml hown hW hK hT hS.1 (t_X12_makes l D cy tx base Z K N M56 Ra J35 hS.2.1 a0 hz_a0 hk_a0 x43 h42 x25 k62 (iv_mono h23 (by decide) (by decide))) s_X12_203 ⟨rfl, rfl, ⟨Nat.le_of_ble_eq_true rfl, Nat.le_of_ble_eq_true rfl⟩, ⟨Nat.le_of_ble_eq_true rfl, Nat.le_of_ble_eq_true rfl⟩⟩ hz_a0 hk_a0 (by decide) rfl rfl hl.1 rfl (Nat.le_of_ble_eq_true rfl) dX12_compare_107) rfl rfl (fun x69 H locs M66 R67 J65 hS f63 g64 E68 => ?_)
        have eR67 := Fr.nil g64 rfl
        subst eR67
        obtain ⟨h_x69, p70, p71⟩ := E68
        obtain ⟨x73, k74, h72, q75⟩ := p70
        have k74 : M66 a0 17 = x73 := k74
        have z76 : x69 = 0 → ¬ (M66 a0 14).toInt = 0 := p71
        refine lv_if_ne (tgt := 115) hx hb dX12_compare_110 (by decide) (fun c77 => ?_) (fun c77 => ?_)
        · have q78 : ¬ x69.toInt = 0 := ti_ne c77
          have h79 : iv 1 1 x69 := ⟨by have := (h_x69).1; have := ((iv_c (c := 0) (n := 0) (by decide))).1; have := ((iv_c (c := 0) (n := 0) (by decide))).2; omega, by have := (h_x69).2; have := ((iv_c (c := 0) (n := 0) (by decide))).1; have := ((iv_c (c := 0) (n := 0) (by decide))).2; omega⟩
          refine lv_iload_n hx hb dX12_compare_115 rfl (lv_at hl 2 rfl) ?_
          refine lv_bipush (v := 60) hx hb dX12_compare_116 (by decide) ?_
          refine lv_icmp_ne (tgt := 133) hx hb dX12_compare_118 (by decide) (fun c80 => False.elim (by have q : ¬ x39.toInt = 60 := ti_ne c80; have := (h49).1; have := (h49).2; omega)) (fun c80 => ?_)
          have q81 : x39.toInt = 60 := ti_eq c80
          refine lv_iload_n hx hb dX12_compare_121 rfl (lv_at hl 0 rfl) ?_
          refine lv_if_eq (tgt := 129) hx hb dX12_compare_122 (by decide) (fun _ => ?_) (fun h => absurd h (by decide))
          refine lv_iconst (v := 0) hx hb dX12_compare_129 (by decide) ?_
          refine lv_goto (tgt := 152) hx hb dX12_compare_130 (by decide) ?_
          refine lv_istore (lv' := [(4, .int 0), (3, .int 0), (2, .int x43), (1, .int x39), (0, .ref (base + a0))]) hx hb dX12_compare_152 hl (by decide) rfl (fun ls hl => ?_)
          refine lv_aload_n hx hb dX12_compare_154 rfl (lv_at hl 4 rfl) ?_
          have k82 : M66 a0 13 = x52 := (Fr.kp (k := 13) f63 hk_a0 rfl).trans k53
          have k83 : M66 a0 1 = tp := ((Fr.kp (k := 1) f63 hk_a0 rfl).trans ((Fr.kp (k := 1) f54 hk_a0 rfl).trans ((Fr.kp (k := 1) f33 hk_a0 rfl).trans (Fr.kp (k := 1) f5 hk_a0 rfl)))).trans k_tp
          have q84 : x52.toInt ≤ tp.toInt := by
            have := (h_le).1; have := (h_le).2; have := (h_md).1; have := (h_md).2; have := (h_nx).1; have := (h_nx).2; have := (h_tp).1; have := (h_tp).2; have := (h_tq).1; have := (h_tq).2; have := (h14).1; have := (h14).2; have := (h22).1; have := (h22).2; have := (h49).1; have := (h49).2; have := (h42).1; have := (h42).2; have := (h55).1; have := (h55).2; omega
          have k85 : M66 a0 16 = tq := ((Fr.kp (k := 16) f63 hk_a0 rfl).trans ((Fr.kp (k := 16) f54 hk_a0 rfl).trans ((Fr.kp (k := 16) f33 hk_a0 rfl).trans (Fr.kp (k := 16) f5 hk_a0 rfl)))).trans k_tq
          have k86 : M66 lg tq.toNatClampNeg = x24 := ((Fr.kpa f63 hk_lg rfl tq.toNatClampNeg).trans ((Fr.kpa f54 hk_lg rfl tq.toNatClampNeg).trans (Fr.kpa f33 hk_lg rfl tq.toNatClampNeg))).trans k26
          have q87 : ((sb : Nat) : Int) ≤ x24.toInt := by
            have := (h_le).1; have := (h_le).2; have := (h_md).1; have := (h_md).2; have := (h_nx).1; have := (h_nx).2; have := (h_tp).1; have := (h_tp).2; have := (h_tq).1; have := (h_tq).2; have := (h14).1; have := (h14).2; have := (h22).1; have := (h22).2; have := (h42).1; have := (h42).2; omega
          have q88 : ((sh + 1 : Nat) : Int) ≤ x73.toInt := by
            have := (h_le).1; have := (h_le).2; have := (h_md).1; have := (h_md).2; have := (h_nx).1; have := (h_nx).2; have := (h_tp).1; have := (h_tp).2; have := (h_tq).1; have := (h_tq).2; have := (h23).1; have := (h23).2; have := (h72).1; have := (h72).2; omega
          have q89 : x24.toInt ≤ x52.toInt := by
            have := (h_le).1; have := (h_le).2; have := (h_md).1; have := (h_md).2; have := (h_nx).1; have := (h_nx).2; have := (h_tp).1; have := (h_tp).2; have := (h_tq).1; have := (h_tq).2; have := (h14).1; have := (h14).2; have := (h22).1; have := (h22).2; have := (h49).1; have := (h49).2; have := (h42).1; have := (h42).2; have := (h55).1; have := (h55).2; omega
          refine tw_goi hS (md_runV (As := []) (rest := []) hx hb hml hown hW hK hT hS.1 (t_X12_sum l D cy tx base Z K N M66 Ra J65 hS.2.1 a0 hz_a0 hk_a0 tb k_tb x52 k82 (iv_mono h55 (by decide) (by decide)) tp k83 (iv_mono h_tp (by decide) (by decide)) q84 lg k_lg sg k_sg tq k85 (iv_mono h_tq (by decide) (by decide)) x24 k86 (iv_mono h22 (by decide) (by decide)) x73 k74 (iv_mono h72 (by decide) (by decide)) (sb) (sh + 1) (SEG.to (SEG.to (SEG.to z30 (fun j _ _ => Fr.kpa f33 hk_sg rfl j)) (fun j _ _ => Fr.kpa f54 hk_sg rfl j)) (fun j _ _ => Fr.kpa f63 hk_sg rfl j)) q87 q88 q89) s_X12_216 ⟨rfl, rfl, ⟨Nat.le_of_ble_eq_true rfl, Nat.le_of_ble_eq_true rfl⟩, ⟨Nat.le_of_ble_eq_true rfl, Nat.le_of_ble_eq_true rfl⟩⟩ hz_a0 hk_a0 (by decide) rfl rfl hl.1 rfl (Nat.le_of_ble_eq_true rfl) dX12_compare_155) rfl rfl (fun x96 H locs M93 R94 J92 hS f90 g91 E95 => ?_)
          have eR94 := Fr.nil g91 rfl
          subst eR94
          obtain ⟨h_x96, p97, p98⟩ := E95
          obtain ⟨zf98, ⟨x100, k101, h99, zu98, zv98⟩, zc98⟩ := p97
          have k101 : M93 a0 13 = x100 := k101
          have zw98 := ti_cl (x := le) (by have := h_le.1; omega); have zy98 := ti_cl (x := x24) (by have := (h22).1; omega)
          have z102 : ∀ j, j < 400 * tq.toNatClampNeg + le.toNatClampNeg → M93 sg j = Ma sg j := fun j hj => (zf98 j (by omega)).trans ((fun j hj => (Fr.kpa f63 hk_sg rfl j).trans ((fun j hj => (Fr.kpa f54 hk_sg rfl j).trans ((fun j hj => (Fr.kpa f33 hk_sg rfl j).trans (z17 j hj)) j hj)) j hj)) j hj)
          have z103 : x96 = 0 → ¬ (M93 a0 14).toInt = 0 := p98
          refine lv_if_ne (tgt := 163) hx hb dX12_compare_158 (by decide) (fun c104 => ?_) (fun c104 => ?_)
          · have q105 : ¬ x96.toInt = 0 := ti_ne c104
            have h106 : iv 1 1 x96 := ⟨by have := (h_x96).1; have := ((iv_c (c := 0) (n := 0) (by decide))).1; have := ((iv_c (c := 0) (n := 0) (by decide))).2; omega, by have := (h_x96).2; have := ((iv_c (c := 0) (n := 0) (by decide))).1; have := ((iv_c (c := 0) (n := 0) (by decide))).2; omega⟩
            obtain ⟨x113, x109, x110, k114, k111, k112, h107, za106, zb106, zd106, z115⟩ := zc98 c104
            have ze106 : x113 = x100 := k114.symm.trans k101
            rw [ze106] at zb106
            have k111 : M93 lg tq.toNatClampNeg = x109 := k111
            have k112 : M93 a0 17 = x110 := k112
            have h108 : iv 0 60 x110 := by rw [← k112]; exact hS.2.1.int hz_a0 hk_a0 (show rgI 12 17 = (0, 60) from rfl)
            have z116 : SEG M93 sg tq.toNatClampNeg sb x109.toNatClampNeg (sh + 2) := SEG.cast z115 rfl (by omega)
            refine lv_aload_n hx hb dX12_compare_163 rfl (lv_at hl 4 rfl) ?_
            refine lv_bipush (v := 6) hx hb dX12_compare_164 (by decide) ?_
            refine lv_iload hx hb dX12_compare_166 (lv_at hl 0 rfl) ?_
            refine lv_iadd hx hb dX12_compare_168 ?_
            refine md_top (y := 6) (by decide) ?_
            refine lv_iconst (v := 0) hx hb dX12_compare_169 (by decide) ?_
            have k117 : M93 a0 16 = tq := ((Fr.kp (k := 16) f90 hk_a0 rfl).trans ((Fr.kp (k := 16) f63 hk_a0 rfl).trans ((Fr.kp (k := 16) f54 hk_a0 rfl).trans ((Fr.kp (k := 16) f33 hk_a0 rfl).trans (Fr.kp (k := 16) f5 hk_a0 rfl))))).trans k_tq
            have h118 : iv 0 399 x109 := by
              have := (h_le).1; have := (h_le).2; have := (h_md).1; have := (h_md).2; have := (h_nx).1; have := (h_nx).2; have := (h_tp).1; have := (h_tp).2; have := (h_tq).1; have := (h_tq).2; have := (h99).1; have := (h99).2; have := (h107).1; have := (h107).2; have := (h14).1; have := (h14).2; have := (h22).1; have := (h22).2; have := (h49).1; have := (h49).2; have := (h42).1; have := (h42).2; have := (h55).1; have := (h55).2; exact ⟨by omega, by omega⟩
            refine tw_gov hS (md_runV (As := [.int 6, .int 0]) (rest := []) hx hb hml hown hW hK hT hS.1 (t_X12_puts l D cy tx base Z K N M93 Ra J92 hS.2.1 a0 hz_a0 hk_a0 6 (iv_mono (iv_c (c := 6) (n := 6) (by decide)) (by decide) (by decide)) 0 (iv_mono (iv_c (c := 0) (n := 0) (by decide)) (by decide) (by decide)) sg k_sg lg k_lg tq k117 (iv_mono h_tq (by decide) (by decide)) x109 k111 h118) s_X12_195 ⟨rfl, rfl, ⟨Nat.le_of_ble_eq_true rfl, Nat.le_of_ble_eq_true rfl⟩, ⟨Nat.le_of_ble_eq_true rfl, Nat.le_of_ble_eq_true rfl⟩⟩ hz_a0 hk_a0 (by decide) rfl rfl hl.1 rfl (Nat.le_of_ble_eq_true rfl) dX12_compare_170) rfl rfl (fun H locs M122 R123 J121 hS f119 g120 E124 => ?_)
            have eR123 := Fr.nil g120 rfl
            subst eR123
            have p125 := E124
            clear E124
            obtain ⟨x126, x128, zc125, zd125, zo125, k129, h127, zl125⟩ := p125
            have k129 : M122 lg tq.toNatClampNeg = x128 := k129
            have zt125 := ti_cl (x := tq) (by have := h_tq.1; omega); have zn125 := ti_cl (x := x109) (by have := (h107).1; omega); have zm125 := ti_cl (x := x128) (by have := (h127).1; omega)
            have q130 : (6 : Int32).toInt = 6 := (by decide)
            have q131 : (0 : Int32).toInt = 0 := (by decide)
            have k132 : M122 a0 17 = x110 := (Fr.kp (k := 17) f119 hk_a0 rfl).trans k112
            have zs125 := stp_two (h := sh + 2) (show x126.toInt = (6 : Int32).toInt + 16 * 0 by omega) (by have := ((iv_c (c := 6) (n := 6) (by decide))).1; have := ((iv_c (c := 6) (n := 6) (by decide))).2; have := ((iv_c (c := 0) (n := 0) (by decide))).1; have := ((iv_c (c := 0) (n := 0) (by decide))).2; omega) (by omega)
            have z133 : SEG M122 sg tq.toNatClampNeg sb x128.toNatClampNeg (sh + 1) := SEG.cast (SEG.ext z116 (by omega) zd125 zo125 zs125) (by omega) (by omega)
            have zw125 := ti_cl (x := le) (by have := h_le.1; omega)
            have z134 : ∀ j, j < 400 * tq.toNatClampNeg + le.toNatClampNeg → M122 sg j = Ma sg j := fun j hj => (zo125 j (by omega)).trans (z102 j hj)
            refine lv_iconst (v := 1) hx hb dX12_compare_173 (by decide) ?_
            have k135 : M122 a0 13 = x100 := (Fr.kp (k := 13) f119 hk_a0 rfl).trans k101
            have q136 : nx.toInt ≤ x100.toInt ∧ x100.toInt ≤ tp.toInt := by
              have := (h_le).1; have := (h_le).2; have := (h_md).1; have := (h_md).2; have := (h_nx).1; have := (h_nx).2; have := (h_tp).1; have := (h_tp).2; have := (h_tq).1; have := (h_tq).2; have := (h99).1; have := (h99).2; have := (h107).1; have := (h107).2; have := (h127).1; have := (h127).2; have := (h14).1; have := (h14).2; have := (h22).1; have := (h22).2; have := (h49).1; have := (h49).2; have := (h42).1; have := (h42).2; have := (h55).1; have := (h55).2; exact ⟨by omega, by omega⟩
            have q137 : le.toInt ≤ x128.toInt ∧ x128.toInt - le.toInt ≤ x100.toInt - nx.toInt ∧ ((sh + 1 : Nat) : Int) ≤ x110.toInt := by
              have := (h_le).1; have := (h_le).2; have := (h_md).1; have := (h_md).2; have := (h_nx).1; have := (h_nx).2; have := (h_tp).1; have := (h_tp).2; have := (h_tq).1; have := (h_tq).2; have := (h99).1; have := (h99).2; have := (h107).1; have := (h107).2; have := (h108).1; have := (h108).2; have := (h127).1; have := (h127).2; have := (h14).1; have := (h14).2; have := (h22).1; have := (h22).2; have := (h49).1; have := (h49).2; have := (h42).1; have := (h42).2; have := (h55).1; have := (h55).2; exact ⟨by omega, by omega, by omega⟩
            exact tw_endz hx hb hr hlocks hK hT hS hQ rfl (⟨(iv_mono (iv_c (c := 1) (n := 1) (by decide)) (by decide) (by decide)), ⟨z134, ⟨x100, k135, h99, q136.1, q136.2⟩, fun _ => ⟨x100, x128, x110, k135, k129, k132, (iv_mono h127 (by decide) (by decide)), q137.1, q137.2.1, q137.2.2, z133⟩⟩, (fun h => absurd h (by decide))⟩) dX12_compare_174
          · have q138 : x96.toInt = 0 := ti_eq c104
            have z139 := z103 c104
            have h140 : iv 0 0 x96 := ⟨by have := (h_x96).1; have := ((iv_c (c := 0) (n := 0) (by decide))).1; omega, by have := (h_x96).2; have := ((iv_c (c := 0) (n := 0) (by decide))).2; omega⟩
            refine lv_iconst (v := 0) hx hb dX12_compare_161 (by decide) ?_
            have q141 : nx.toInt ≤ x100.toInt ∧ x100.toInt ≤ tp.toInt := by
              have := (h_le).1; have := (h_le).2; have := (h_md).1; have := (h_md).2; have := (h_nx).1; have := (h_nx).2; have := (h_tp).1; have := (h_tp).2; have := (h_tq).1; have := (h_tq).2; have := (h99).1; have := (h99).2; have := (h14).1; have := (h14).2; have := (h22).1; have := (h22).2; have := (h49).1; have := (h49).2; have := (h42).1; have := (h42).2; have := (h55).1; have := (h55).2; exact ⟨by omega, by omega⟩
            exact tw_endz hx hb hr hlocks hK hT hS hQ rfl (⟨(iv_mono (iv_c (c := 0) (n := 0) (by decide)) (by decide) (by decide)), ⟨z102, ⟨x100, k101, h99, q141.1, q141.2⟩, (fun h => absurd rfl h)⟩, (fun _ => (show ¬ (M93 a0 14).toInt = 0 from z139))⟩) dX12_compare_162
        · have q142 : x69.toInt = 0 := ti_eq c77
          have z143 := z76 c77
          have h144 : iv 0 0 x69 := ⟨by have := (h_x69).1; have := ((iv_c (c := 0) (n := 0) (by decide))).1; omega, by have := (h_x69).2; have := ((iv_c (c := 0) (n := 0) (by decide))).2; omega⟩
          refine lv_iconst (v := 0) hx hb dX12_compare_113 (by decide) ?_
          have k145 : M66 a0 13 = x52 := (Fr.kp (k := 13) f63 hk_a0 rfl).trans k53
          have q146 : nx.toInt ≤ x52.toInt ∧ x52.toInt ≤ tp.toInt := by
            have := (h_le).1; have := (h_le).2; have := (h_md).1; have := (h_md).2; have := (h_nx).1; have := (h_nx).2; have := (h_tp).1; have := (h_tp).2; have := (h_tq).1; have := (h_tq).2; have := (h14).1; have := (h14).2; have := (h22).1; have := (h22).2; have := (h49).1; have := (h49).2; have := (h42).1; have := (h42).2; have := (h55).1; have := (h55).2; exact ⟨by omega, by omega⟩
          exact tw_endz hx hb hr hlocks hK hT hS hQ rfl (⟨(iv_mono (iv_c (c := 0) (n := 0) (by decide)) (by decide) (by decide)), ⟨(fun j hj => (Fr.kpa f63 hk_sg rfl j).trans ((fun j hj => (Fr.kpa f54 hk_sg rfl j).trans ((fun j hj => (Fr.kpa f33 hk_sg rfl j).trans (z17 j hj)) j hj)) j hj)), ⟨x52, k145, h55, q146.1, q146.2⟩, (fun h => absurd rfl h)⟩, (fun _ => (show ¬ (M66 a0 14).toInt = 0 from z143))⟩) dX12_compare_114
      · have q147 : x52.toInt < tp.toInt := ti_nle c60
        have h148 : iv 0 399 x52 := iv_ltL (y := tp) h55 h_tp q147 (by decide)
        have h149 : iv 1 400 tp := iv_gtL (y := x52) h_tp h55 q147 (by decide)
        refine lv_aload_n hx hb dX12_compare_71 rfl (lv_at hl 2 rfl) ?_
        refine tw_getrk hx hb hW hown hK hS f_X12_7_11 hz_a0 hk_a0 (b := tb) k_tb dX12_compare_72 ?_
        refine lv_aload_n hx hb dX12_compare_75 rfl (lv_at hl 2 rfl) ?_
        refine tw_getk hx hb hW hown hK hS f_X12_127_11 hz_a0 hk_a0 (v := x52) k53 dX12_compare_76 ?_
        refine tw_bald hx hb hK hS hz_tb hk_tb hn_tb h148 ⟨by decide, by decide⟩ dX12_compare_79 (fun x152 k151 => ?_)
        have h150 := iv_any x152
        refine lv_bipush (v := 61) hx hb dX12_compare_80 (by decide) ?_
        refine lv_icmp_ne (tgt := 89) hx hb dX12_compare_82 (by decide) (fun c153 => ?_) (fun c153 => ?_)
        · have q154 : ¬ x152.toInt = 61 := ti_ne c153
          refine lv_iconst (v := 0) hx hb dX12_compare_89 (by decide) ?_
          refine lv_istore_n (lv' := [(3, .int 0), (2, .int x43), (1, .int x39), (0, .ref (base + a0))]) hx hb dX12_compare_90 rfl hl (by decide) rfl (fun ls hl => ?_)
          refine lv_iload_n hx hb dX12_compare_91 rfl (lv_at hl 0 rfl) ?_
          refine lv_if_eq (tgt := 105) hx hb dX12_compare_92 (by decide) (fun _ => ?_) (fun h => absurd h (by decide))
          refine lv_aload_n hx hb dX12_compare_105 rfl (lv_at hl 3 rfl) ?_
          refine lv_iload_n hx hb dX12_compare_106 rfl (lv_at hl 1 rfl) ?_
          have k155 : M56 a0 17 = x25 := ((Fr.kp (k := 17) f54 hk_a0 rfl).trans (Fr.kp (k := 17) f33 hk_a0 rfl)).trans k27
          refine tw_goi hS (md_runV (As := [.int x43]) (rest := []) hx hb hml hown hW hK hT hS.1 (t_X12_makes l D cy tx base Z K N M56 Ra J35 hS.2.1 a0 hz_a0 hk_a0 x43 h42 x25 k155 (iv_mono h23 (by decide) (by decide))) s_X12_203 ⟨rfl, rfl, ⟨Nat.le_of_ble_eq_true rfl, Nat.le_of_ble_eq_true rfl⟩, ⟨Nat.le_of_ble_eq_true rfl, Nat.le_of_ble_eq_true rfl⟩⟩ hz_a0 hk_a0 (by decide) rfl rfl hl.1 rfl (Nat.le_of_ble_eq_true rfl) dX12_compare_107) rfl rfl (fun x162 H locs M159 R160 J158 hS f156 g157 E161 => ?_)
          have eR160 := Fr.nil g157 rfl
          subst eR160
          obtain ⟨h_x162, p163, p164⟩ := E161
          obtain ⟨x166, k167, h165, q168⟩ := p163
          have k167 : M159 a0 17 = x166 := k167
          have z169 : x162 = 0 → ¬ (M159 a0 14).toInt = 0 := p164
          refine lv_if_ne (tgt := 115) hx hb dX12_compare_110 (by decide) (fun c170 => ?_) (fun c170 => ?_)
          · have q171 : ¬ x162.toInt = 0 := ti_ne c170
            have h172 : iv 1 1 x162 := ⟨by have := (h_x162).1; have := ((iv_c (c := 0) (n := 0) (by decide))).1; have := ((iv_c (c := 0) (n := 0) (by decide))).2; omega, by have := (h_x162).2; have := ((iv_c (c := 0) (n := 0) (by decide))).1; have := ((iv_c (c := 0) (n := 0) (by decide))).2; omega⟩
            refine lv_iload_n hx hb dX12_compare_115 rfl (lv_at hl 2 rfl) ?_
            refine lv_bipush (v := 60) hx hb dX12_compare_116 (by decide) ?_
            refine lv_icmp_ne (tgt := 133) hx hb dX12_compare_118 (by decide) (fun c173 => False.elim (by have q : ¬ x39.toInt = 60 := ti_ne c173; have := (h49).1; have := (h49).2; omega)) (fun c173 => ?_)
            have q174 : x39.toInt = 60 := ti_eq c173
            refine lv_iload_n hx hb dX12_compare_121 rfl (lv_at hl 0 rfl) ?_
            refine lv_if_eq (tgt := 129) hx hb dX12_compare_122 (by decide) (fun _ => ?_) (fun h => absurd h (by decide))
            refine lv_iconst (v := 0) hx hb dX12_compare_129 (by decide) ?_
            refine lv_goto (tgt := 152) hx hb dX12_compare_130 (by decide) ?_
            refine lv_istore (lv' := [(4, .int 0), (3, .int 0), (2, .int x43), (1, .int x39), (0, .ref (base + a0))]) hx hb dX12_compare_152 hl (by decide) rfl (fun ls hl => ?_)
            refine lv_aload_n hx hb dX12_compare_154 rfl (lv_at hl 4 rfl) ?_
            have k175 : M159 a0 13 = x52 := (Fr.kp (k := 13) f156 hk_a0 rfl).trans k53
            have k176 : M159 a0 1 = tp := ((Fr.kp (k := 1) f156 hk_a0 rfl).trans ((Fr.kp (k := 1) f54 hk_a0 rfl).trans ((Fr.kp (k := 1) f33 hk_a0 rfl).trans (Fr.kp (k := 1) f5 hk_a0 rfl)))).trans k_tp
            have q177 : x52.toInt ≤ tp.toInt := by
              have := (h_le).1; have := (h_le).2; have := (h_md).1; have := (h_md).2; have := (h_nx).1; have := (h_nx).2; have := (h149).1; have := (h149).2; have := (h_tq).1; have := (h_tq).2; have := (h14).1; have := (h14).2; have := (h22).1; have := (h22).2; have := (h49).1; have := (h49).2; have := (h42).1; have := (h42).2; have := (h148).1; have := (h148).2; omega
            have k178 : M159 a0 16 = tq := ((Fr.kp (k := 16) f156 hk_a0 rfl).trans ((Fr.kp (k := 16) f54 hk_a0 rfl).trans ((Fr.kp (k := 16) f33 hk_a0 rfl).trans (Fr.kp (k := 16) f5 hk_a0 rfl)))).trans k_tq
            have k179 : M159 lg tq.toNatClampNeg = x24 := ((Fr.kpa f156 hk_lg rfl tq.toNatClampNeg).trans ((Fr.kpa f54 hk_lg rfl tq.toNatClampNeg).trans (Fr.kpa f33 hk_lg rfl tq.toNatClampNeg))).trans k26
            have q180 : ((sb : Nat) : Int) ≤ x24.toInt := by
              have := (h_le).1; have := (h_le).2; have := (h_md).1; have := (h_md).2; have := (h_nx).1; have := (h_nx).2; have := (h149).1; have := (h149).2; have := (h_tq).1; have := (h_tq).2; have := (h14).1; have := (h14).2; have := (h22).1; have := (h22).2; have := (h42).1; have := (h42).2; omega
            have q181 : ((sh + 1 : Nat) : Int) ≤ x166.toInt := by
              have := (h_le).1; have := (h_le).2; have := (h_md).1; have := (h_md).2; have := (h_nx).1; have := (h_nx).2; have := (h149).1; have := (h149).2; have := (h_tq).1; have := (h_tq).2; have := (h165).1; have := (h165).2; have := (h23).1; have := (h23).2; omega
            have q182 : x24.toInt ≤ x52.toInt := by
              have := (h_le).1; have := (h_le).2; have := (h_md).1; have := (h_md).2; have := (h_nx).1; have := (h_nx).2; have := (h149).1; have := (h149).2; have := (h_tq).1; have := (h_tq).2; have := (h14).1; have := (h14).2; have := (h22).1; have := (h22).2; have := (h49).1; have := (h49).2; have := (h42).1; have := (h42).2; have := (h148).1; have := (h148).2; omega
            refine tw_goi hS (md_runV (As := []) (rest := []) hx hb hml hown hW hK hT hS.1 (t_X12_sum l D cy tx base Z K N M159 Ra J158 hS.2.1 a0 hz_a0 hk_a0 tb k_tb x52 k175 (iv_mono h148 (by decide) (by decide)) tp k176 (iv_mono h149 (by decide) (by decide)) q177 lg k_lg sg k_sg tq k178 (iv_mono h_tq (by decide) (by decide)) x24 k179 (iv_mono h22 (by decide) (by decide)) x166 k167 (iv_mono h165 (by decide) (by decide)) (sb) (sh + 1) (SEG.to (SEG.to (SEG.to z30 (fun j _ _ => Fr.kpa f33 hk_sg rfl j)) (fun j _ _ => Fr.kpa f54 hk_sg rfl j)) (fun j _ _ => Fr.kpa f156 hk_sg rfl j)) q180 q181 q182) s_X12_216 ⟨rfl, rfl, ⟨Nat.le_of_ble_eq_true rfl, Nat.le_of_ble_eq_true rfl⟩, ⟨Nat.le_of_ble_eq_true rfl, Nat.le_of_ble_eq_true rfl⟩⟩ hz_a0 hk_a0 (by decide) rfl rfl hl.1 rfl (Nat.le_of_ble_eq_true rfl) dX12_compare_155) rfl rfl (fun x189 H locs M186 R187 J185 hS f183 g184 E188 => ?_)
            have eR187 := Fr.nil g184 rfl
            subst eR187
            obtain ⟨h_x189, p190, p191⟩ := E188
            obtain ⟨zf191, ⟨x193, k194, h192, zu191, zv191⟩, zc191⟩ := p190
            have k194 : M186 a0 13 = x193 := k194
            have zw191 := ti_cl (x := le) (by have := h_le.1; omega); have zy191 := ti_cl (x := x24) (by have := (h22).1; omega)
            have z195 : ∀ j, j < 400 * tq.toNatClampNeg + le.toNatClampNeg → M186 sg j = Ma sg j := fun j hj => (zf191 j (by omega)).trans ((fun j hj => (Fr.kpa f156 hk_sg rfl j).trans ((fun j hj => (Fr.kpa f54 hk_sg rfl j).trans ((fun j hj => (Fr.kpa f33 hk_sg rfl j).trans (z17 j hj)) j hj)) j hj)) j hj)
            have z196 : x189 = 0 → ¬ (M186 a0 14).toInt = 0 := p191
            refine lv_if_ne (tgt := 163) hx hb dX12_compare_158 (by decide) (fun c197 => ?_) (fun c197 => ?_)
            · have q198 : ¬ x189.toInt = 0 := ti_ne c197
              have h199 : iv 1 1 x189 := ⟨by have := (h_x189).1; have := ((iv_c (c := 0) (n := 0) (by decide))).1; have := ((iv_c (c := 0) (n := 0) (by decide))).2; omega, by have := (h_x189).2; have := ((iv_c (c := 0) (n := 0) (by decide))).1; have := ((iv_c (c := 0) (n := 0) (by decide))).2; omega⟩
              obtain ⟨x206, x202, x203, k207, k204, k205, h200, za199, zb199, zd199, z208⟩ := zc191 c197
              have ze199 : x206 = x193 := k207.symm.trans k194
              rw [ze199] at zb199
              have k204 : M186 lg tq.toNatClampNeg = x202 := k204
              have k205 : M186 a0 17 = x203 := k205
              have h201 : iv 0 60 x203 := by rw [← k205]; exact hS.2.1.int hz_a0 hk_a0 (show rgI 12 17 = (0, 60) from rfl)
              have z209 : SEG M186 sg tq.toNatClampNeg sb x202.toNatClampNeg (sh + 2) := SEG.cast z208 rfl (by omega)
              refine lv_aload_n hx hb dX12_compare_163 rfl (lv_at hl 4 rfl) ?_
              refine lv_bipush (v := 6) hx hb dX12_compare_164 (by decide) ?_
              refine lv_iload hx hb dX12_compare_166 (lv_at hl 0 rfl) ?_
              refine lv_iadd hx hb dX12_compare_168 ?_
              refine md_top (y := 6) (by decide) ?_
              refine lv_iconst (v := 0) hx hb dX12_compare_169 (by decide) ?_
              have k210 : M186 a0 16 = tq := ((Fr.kp (k := 16) f183 hk_a0 rfl).trans ((Fr.kp (k := 16) f156 hk_a0 rfl).trans ((Fr.kp (k := 16) f54 hk_a0 rfl).trans ((Fr.kp (k := 16) f33 hk_a0 rfl).trans (Fr.kp (k := 16) f5 hk_a0 rfl))))).trans k_tq
              have h211 : iv 0 399 x202 := by
                have := (h_le).1; have := (h_le).2; have := (h_md).1; have := (h_md).2; have := (h_nx).1; have := (h_nx).2; have := (h149).1; have := (h149).2; have := (h_tq).1; have := (h_tq).2; have := (h14).1; have := (h14).2; have := (h192).1; have := (h192).2; have := (h200).1; have := (h200).2; have := (h22).1; have := (h22).2; have := (h49).1; have := (h49).2; have := (h42).1; have := (h42).2; have := (h148).1; have := (h148).2; exact ⟨by omega, by omega⟩
              refine tw_gov hS (md_runV (As := [.int 6, .int 0]) (rest := []) hx hb hml hown hW hK hT hS.1 (t_X12_puts l D cy tx base Z K N M186 Ra J185 hS.2.1 a0 hz_a0 hk_a0 6 (iv_mono (iv_c (c := 6) (n := 6) (by decide)) (by decide) (by decide)) 0 (iv_mono (iv_c (c := 0) (n := 0) (by decide)) (by decide) (by decide)) sg k_sg lg k_lg tq k210 (iv_mono h_tq (by decide) (by decide)) x202 k204 h211) s_X12_195 ⟨rfl, rfl, ⟨Nat.le_of_ble_eq_true rfl, Nat.le_of_ble_eq_true rfl⟩, ⟨Nat.le_of_ble_eq_true rfl, Nat.le_of_ble_eq_true rfl⟩⟩ hz_a0 hk_a0 (by decide) rfl rfl hl.1 rfl (Nat.le_of_ble_eq_true rfl) dX12_compare_170) rfl rfl (fun H locs M215 R216 J214 hS f212 g213 E217 => ?_)
              have eR216 := Fr.nil g213 rfl
              subst eR216
              have p218 := E217
              clear E217
              obtain ⟨x219, x221, zc218, zd218, zo218, k222, h220, zl218⟩ := p218
              have k222 : M215 lg tq.toNatClampNeg = x221 := k222
              have zt218 := ti_cl (x := tq) (by have := h_tq.1; omega); have zn218 := ti_cl (x := x202) (by have := (h200).1; omega); have zm218 := ti_cl (x := x221) (by have := (h220).1; omega)
              have q223 : (6 : Int32).toInt = 6 := (by decide)
              have q224 : (0 : Int32).toInt = 0 := (by decide)
              have k225 : M215 a0 17 = x203 := (Fr.kp (k := 17) f212 hk_a0 rfl).trans k205
              have zs218 := stp_two (h := sh + 2) (show x219.toInt = (6 : Int32).toInt + 16 * 0 by omega) (by have := ((iv_c (c := 6) (n := 6) (by decide))).1; have := ((iv_c (c := 6) (n := 6) (by decide))).2; have := ((iv_c (c := 0) (n := 0) (by decide))).1; have := ((iv_c (c := 0) (n := 0) (by decide))).2; omega) (by omega)
              have z226 : SEG M215 sg tq.toNatClampNeg sb x221.toNatClampNeg (sh + 1) := SEG.cast (SEG.ext z209 (by omega) zd218 zo218 zs218) (by omega) (by omega)
              have zw218 := ti_cl (x := le) (by have := h_le.1; omega)
              have z227 : ∀ j, j < 400 * tq.toNatClampNeg + le.toNatClampNeg → M215 sg j = Ma sg j := fun j hj => (zo218 j (by omega)).trans (z195 j hj)
              refine lv_iconst (v := 1) hx hb dX12_compare_173 (by decide) ?_
              have k228 : M215 a0 13 = x193 := (Fr.kp (k := 13) f212 hk_a0 rfl).trans k194
              have q229 : nx.toInt ≤ x193.toInt ∧ x193.toInt ≤ tp.toInt := by
                have := (h_le).1; have := (h_le).2; have := (h_md).1; have := (h_md).2; have := (h_nx).1; have := (h_nx).2; have := (h149).1; have := (h149).2; have := (h_tq).1; have := (h_tq).2; have := (h14).1; have := (h14).2; have := (h192).1; have := (h192).2; have := (h200).1; have := (h200).2; have := (h220).1; have := (h220).2; have := (h22).1; have := (h22).2; have := (h49).1; have := (h49).2; have := (h42).1; have := (h42).2; have := (h148).1; have := (h148).2; exact ⟨by omega, by omega⟩
              have q230 : le.toInt ≤ x221.toInt ∧ x221.toInt - le.toInt ≤ x193.toInt - nx.toInt ∧ ((sh + 1 : Nat) : Int) ≤ x203.toInt := by
                have := (h_le).1; have := (h_le).2; have := (h_md).1; have := (h_md).2; have := (h_nx).1; have := (h_nx).2; have := (h149).1; have := (h149).2; have := (h_tq).1; have := (h_tq).2; have := (h14).1; have := (h14).2; have := (h192).1; have := (h192).2; have := (h200).1; have := (h200).2; have := (h201).1; have := (h201).2; have := (h220).1; have := (h220).2; have := (h22).1; have := (h22).2; have := (h49).1; have := (h49).2; have := (h42).1; have := (h42).2; have := (h148).1; have := (h148).2; exact ⟨by omega, by omega, by omega⟩
              exact tw_endz hx hb hr hlocks hK hT hS hQ rfl (⟨(iv_mono (iv_c (c := 1) (n := 1) (by decide)) (by decide) (by decide)), ⟨z227, ⟨x193, k228, h192, q229.1, q229.2⟩, fun _ => ⟨x193, x221, x203, k228, k222, k225, (iv_mono h220 (by decide) (by decide)), q230.1, q230.2.1, q230.2.2, z226⟩⟩, (fun h => absurd h (by decide))⟩) dX12_compare_174
            · have q231 : x189.toInt = 0 := ti_eq c197
              have z232 := z196 c197
              have h233 : iv 0 0 x189 := ⟨by have := (h_x189).1; have := ((iv_c (c := 0) (n := 0) (by decide))).1; omega, by have := (h_x189).2; have := ((iv_c (c := 0) (n := 0) (by decide))).2; omega⟩
              refine lv_iconst (v := 0) hx hb dX12_compare_161 (by decide) ?_
              have q234 : nx.toInt ≤ x193.toInt ∧ x193.toInt ≤ tp.toInt := by
                have := (h_le).1; have := (h_le).2; have := (h_md).1; have := (h_md).2; have := (h_nx).1; have := (h_nx).2; have := (h149).1; have := (h149).2; have := (h_tq).1; have := (h_tq).2; have := (h14).1; have := (h14).2; have := (h192).1; have := (h192).2; have := (h22).1; have := (h22).2; have := (h49).1; have := (h49).2; have := (h42).1; have := (h42).2; have := (h148).1; have := (h148).2; exact ⟨by omega, by omega⟩
              exact tw_endz hx hb hr hlocks hK hT hS hQ rfl (⟨(iv_mono (iv_c (c := 0) (n := 0) (by decide)) (by decide) (by decide)), ⟨z195, ⟨x193, k194, h192, q234.1, q234.2⟩, (fun h => absurd rfl h)⟩, (fun _ => (show ¬ (M186 a0 14).toInt = 0 from z232))⟩) dX12_compare_162
          · have q235 : x162.toInt = 0 := ti_eq c170
            have z236 := z169 c170
            have h237 : iv 0 0 x162 := ⟨by have := (h_x162).1; have := ((iv_c (c := 0) (n := 0) (by decide))).1; omega, by have := (h_x162).2; have := ((iv_c (c := 0) (n := 0) (by decide))).2; omega⟩
            refine lv_iconst (v := 0) hx hb dX12_compare_113 (by decide) ?_
            have k238 : M159 a0 13 = x52 := (Fr.kp (k := 13) f156 hk_a0 rfl).trans k53
            have q239 : nx.toInt ≤ x52.toInt ∧ x52.toInt ≤ tp.toInt := by
              have := (h_le).1; have := (h_le).2; have := (h_md).1; have := (h_md).2; have := (h_nx).1; have := (h_nx).2; have := (h149).1; have := (h149).2; have := (h_tq).1; have := (h_tq).2; have := (h14).1; have := (h14).2; have := (h22).1; have := (h22).2; have := (h49).1; have := (h49).2; have := (h42).1; have := (h42).2; have := (h148).1; have := (h148).2; exact ⟨by omega, by omega⟩
            exact tw_endz hx hb hr hlocks hK hT hS hQ rfl (⟨(iv_mono (iv_c (c := 0) (n := 0) (by decide)) (by decide) (by decide)), ⟨(fun j hj => (Fr.kpa f156 hk_sg rfl j).trans ((fun j hj => (Fr.kpa f54 hk_sg rfl j).trans ((fun j hj => (Fr.kpa f33 hk_sg rfl j).trans (z17 j hj)) j hj)) j hj)), ⟨x52, k238, (iv_mono h148 (by decide) (by decide)), q239.1, q239.2⟩, (fun h => absurd rfl h)⟩, (fun _ => (show ¬ (M159 a0 14).toInt = 0 from z236))⟩) dX12_compare_114
        · have q240 : x152.toInt = 61 := ti_eq c153
          have h241 : iv 61 61 x152 := ⟨by have := (h150).1; have := ((iv_c (c := 61) (n := 61) (by decide))).1; omega, by have := (h150).2; have := ((iv_c (c := 61) (n := 61) (by decide))).2; omega⟩
          refine lv_iconst (v := 1) hx hb dX12_compare_85 (by decide) ?_
          refine lv_goto (tgt := 90) hx hb dX12_compare_86 (by decide) ?_
          refine lv_istore_n (lv' := [(3, .int 1), (2, .int x43), (1, .int x39), (0, .ref (base + a0))]) hx hb dX12_compare_90 rfl hl (by decide) rfl (fun ls hl => ?_)
          refine lv_iload_n hx hb dX12_compare_91 rfl (lv_at hl 0 rfl) ?_
          refine lv_if_eq (tgt := 105) hx hb dX12_compare_92 (by decide) (fun h => absurd h (by decide)) (fun _ => ?_)
          refine lv_aload_n hx hb dX12_compare_95 rfl (lv_at hl 3 rfl) ?_
          refine lv_dup hx hb dX12_compare_96 rfl ?_
          refine tw_getk hx hb hW hown hK hS f_X12_127_11 hz_a0 hk_a0 (v := x52) k53 dX12_compare_97 ?_
          refine lv_iconst (v := 1) hx hb dX12_compare_100 (by decide) ?_
          refine tw_iadd (lo := 1) (hi := 400) hx hb h148 (iv_c (c := 1) (n := 1) (by decide)) ⟨by decide, by decide⟩ ⟨by decide, by decide⟩ dX12_compare_101 (fun x244 e243 h242 => ?_)
          have e243 : x244.toInt = x52.toInt + 1 := e243
          refine tw_puti hx hb hW hown hK hS f_X12_127_11 hz_a0 hk_a0 rfl rfl (lo := 0) (hi := 400) rfl (iv_mono h242 (by decide) (by decide)) rfl dX12_compare_102 (fun H locs M247 hS k245 f246 => ?_)
          refine lv_aload_n hx hb dX12_compare_105 rfl (lv_at hl 3 rfl) ?_
          refine lv_iload_n hx hb dX12_compare_106 rfl (lv_at hl 1 rfl) ?_
          have k248 : M247 a0 17 = x25 := ((Fr.kp (k := 17) f246 hk_a0 rfl).trans ((Fr.kp (k := 17) f54 hk_a0 rfl).trans (Fr.kp (k := 17) f33 hk_a0 rfl))).trans k27
          refine tw_goi hS (md_runV (As := [.int x43]) (rest := []) hx hb hml hown hW hK hT hS.1 (t_X12_makes l D cy tx base Z K N M247 Ra J35 hS.2.1 a0 hz_a0 hk_a0 x43 h42 x25 k248 (iv_mono h23 (by decide) (by decide))) s_X12_203 ⟨rfl, rfl, ⟨Nat.le_of_ble_eq_true rfl, Nat.le_of_ble_eq_true rfl⟩, ⟨Nat.le_of_ble_eq_true rfl, Nat.le_of_ble_eq_true rfl⟩⟩ hz_a0 hk_a0 (by decide) rfl rfl hl.1 rfl (Nat.le_of_ble_eq_true rfl) dX12_compare_107) rfl rfl (fun x255 H locs M252 R253 J251 hS f249 g250 E254 => ?_)
          have eR253 := Fr.nil g250 rfl
          subst eR253
          obtain ⟨h_x255, p256, p257⟩ := E254
          obtain ⟨x259, k260, h258, q261⟩ := p256
          have k260 : M252 a0 17 = x259 := k260
          have z262 : x255 = 0 → ¬ (M252 a0 14).toInt = 0 := p257
          refine lv_if_ne (tgt := 115) hx hb dX12_compare_110 (by decide) (fun c263 => ?_) (fun c263 => ?_)
          · have q264 : ¬ x255.toInt = 0 := ti_ne c263
            have h265 : iv 1 1 x255 := ⟨by have := (h_x255).1; have := ((iv_c (c := 0) (n := 0) (by decide))).1; have := ((iv_c (c := 0) (n := 0) (by decide))).2; omega, by have := (h_x255).2; have := ((iv_c (c := 0) (n := 0) (by decide))).1; have := ((iv_c (c := 0) (n := 0) (by decide))).2; omega⟩
            refine lv_iload_n hx hb dX12_compare_115 rfl (lv_at hl 2 rfl) ?_
            refine lv_bipush (v := 60) hx hb dX12_compare_116 (by decide) ?_
            refine lv_icmp_ne (tgt := 133) hx hb dX12_compare_118 (by decide) (fun c266 => False.elim (by have q : ¬ x39.toInt = 60 := ti_ne c266; have := (h49).1; have := (h49).2; omega)) (fun c266 => ?_)
            have q267 : x39.toInt = 60 := ti_eq c266
            refine lv_iload_n hx hb dX12_compare_121 rfl (lv_at hl 0 rfl) ?_
            refine lv_if_eq (tgt := 129) hx hb dX12_compare_122 (by decide) (fun h => absurd h (by decide)) (fun _ => ?_)
            refine lv_iconst (v := 1) hx hb dX12_compare_125 (by decide) ?_
            refine lv_goto (tgt := 152) hx hb dX12_compare_126 (by decide) ?_
            refine lv_istore (lv' := [(4, .int 1), (3, .int 1), (2, .int x43), (1, .int x39), (0, .ref (base + a0))]) hx hb dX12_compare_152 hl (by decide) rfl (fun ls hl => ?_)
            refine lv_aload_n hx hb dX12_compare_154 rfl (lv_at hl 4 rfl) ?_
            have k268 : M252 a0 13 = x244 := (Fr.kp (k := 13) f249 hk_a0 rfl).trans k245
            have k269 : M252 a0 1 = tp := ((Fr.kp (k := 1) f249 hk_a0 rfl).trans ((Fr.kp (k := 1) f246 hk_a0 rfl).trans ((Fr.kp (k := 1) f54 hk_a0 rfl).trans ((Fr.kp (k := 1) f33 hk_a0 rfl).trans (Fr.kp (k := 1) f5 hk_a0 rfl))))).trans k_tp
            have q270 : x244.toInt ≤ tp.toInt := by
              have := (h_le).1; have := (h_le).2; have := (h_md).1; have := (h_md).2; have := (h_nx).1; have := (h_nx).2; have := (h149).1; have := (h149).2; have := (h_tq).1; have := (h_tq).2; have := (h14).1; have := (h14).2; have := (h22).1; have := (h22).2; have := (h242).1; have := (h242).2; have := (h49).1; have := (h49).2; have := (h42).1; have := (h42).2; have := (h148).1; have := (h148).2; omega
            have k271 : M252 a0 16 = tq := ((Fr.kp (k := 16) f249 hk_a0 rfl).trans ((Fr.kp (k := 16) f246 hk_a0 rfl).trans ((Fr.kp (k := 16) f54 hk_a0 rfl).trans ((Fr.kp (k := 16) f33 hk_a0 rfl).trans (Fr.kp (k := 16) f5 hk_a0 rfl))))).trans k_tq
            have k272 : M252 lg tq.toNatClampNeg = x24 := ((Fr.kpa f249 hk_lg rfl tq.toNatClampNeg).trans ((Fr.kpa f246 hk_lg rfl tq.toNatClampNeg).trans ((Fr.kpa f54 hk_lg rfl tq.toNatClampNeg).trans (Fr.kpa f33 hk_lg rfl tq.toNatClampNeg)))).trans k26
            have q273 : ((sb : Nat) : Int) ≤ x24.toInt := by
              have := (h_le).1; have := (h_le).2; have := (h_md).1; have := (h_md).2; have := (h_nx).1; have := (h_nx).2; have := (h149).1; have := (h149).2; have := (h_tq).1; have := (h_tq).2; have := (h14).1; have := (h14).2; have := (h22).1; have := (h22).2; have := (h42).1; have := (h42).2; omega
            have q274 : ((sh + 1 : Nat) : Int) ≤ x259.toInt := by
              have := (h_le).1; have := (h_le).2; have := (h_md).1; have := (h_md).2; have := (h_nx).1; have := (h_nx).2; have := (h149).1; have := (h149).2; have := (h_tq).1; have := (h_tq).2; have := (h23).1; have := (h23).2; have := (h258).1; have := (h258).2; omega
            have q275 : x24.toInt ≤ x244.toInt := by
              have := (h_le).1; have := (h_le).2; have := (h_md).1; have := (h_md).2; have := (h_nx).1; have := (h_nx).2; have := (h149).1; have := (h149).2; have := (h_tq).1; have := (h_tq).2; have := (h14).1; have := (h14).2; have := (h22).1; have := (h22).2; have := (h242).1; have := (h242).2; have := (h49).1; have := (h49).2; have := (h42).1; have := (h42).2; have := (h148).1; have := (h148).2; omega
            refine tw_goi hS (md_runV (As := []) (rest := []) hx hb hml hown hW hK hT hS.1 (t_X12_sum l D cy tx base Z K N M252 Ra J251 hS.2.1 a0 hz_a0 hk_a0 tb k_tb x244 k268 (iv_mono h242 (by decide) (by decide)) tp k269 (iv_mono h149 (by decide) (by decide)) q270 lg k_lg sg k_sg tq k271 (iv_mono h_tq (by decide) (by decide)) x24 k272 (iv_mono h22 (by decide) (by decide)) x259 k260 (iv_mono h258 (by decide) (by decide)) (sb) (sh + 1) (SEG.to (SEG.to (SEG.to (SEG.to z30 (fun j _ _ => Fr.kpa f33 hk_sg rfl j)) (fun j _ _ => Fr.kpa f54 hk_sg rfl j)) (fun j _ _ => Fr.kpa f246 hk_sg rfl j)) (fun j _ _ => Fr.kpa f249 hk_sg rfl j)) q273 q274 q275) s_X12_216 ⟨rfl, rfl, ⟨Nat.le_of_ble_eq_true rfl, Nat.le_of_ble_eq_true rfl⟩, ⟨Nat.le_of_ble_eq_true rfl, Nat.le_of_ble_eq_true rfl⟩⟩ hz_a0 hk_a0 (by decide) rfl rfl hl.1 rfl (Nat.le_of_ble_eq_true rfl) dX12_compare_155) rfl rfl (fun x282 H locs M279 R280 J278 hS f276 g277 E281 => ?_)
            have eR280 := Fr.nil g277 rfl
            subst eR280
            obtain ⟨h_x282, p283, p284⟩ := E281
            obtain ⟨zf284, ⟨x286, k287, h285, zu284, zv284⟩, zc284⟩ := p283
            have k287 : M279 a0 13 = x286 := k287
            have zw284 := ti_cl (x := le) (by have := h_le.1; omega); have zy284 := ti_cl (x := x24) (by have := (h22).1; omega)
            have z288 : ∀ j, j < 400 * tq.toNatClampNeg + le.toNatClampNeg → M279 sg j = Ma sg j := fun j hj => (zf284 j (by omega)).trans ((fun j hj => (Fr.kpa f249 hk_sg rfl j).trans ((fun j hj => (Fr.kpa f246 hk_sg rfl j).trans ((fun j hj => (Fr.kpa f54 hk_sg rfl j).trans ((fun j hj => (Fr.kpa f33 hk_sg rfl j).trans (z17 j hj)) j hj)) j hj)) j hj)) j hj)
            have z289 : x282 = 0 → ¬ (M279 a0 14).toInt = 0 := p284
            refine lv_if_ne (tgt := 163) hx hb dX12_compare_158 (by decide) (fun c290 => ?_) (fun c290 => ?_)
            · have q291 : ¬ x282.toInt = 0 := ti_ne c290
              have h292 : iv 1 1 x282 := ⟨by have := (h_x282).1; have := ((iv_c (c := 0) (n := 0) (by decide))).1; have := ((iv_c (c := 0) (n := 0) (by decide))).2; omega, by have := (h_x282).2; have := ((iv_c (c := 0) (n := 0) (by decide))).1; have := ((iv_c (c := 0) (n := 0) (by decide))).2; omega⟩
              obtain ⟨x299, x295, x296, k300, k297, k298, h293, za292, zb292, zd292, z301⟩ := zc284 c290
              have ze292 : x299 = x286 := k300.symm.trans k287
              rw [ze292] at zb292
              have k297 : M279 lg tq.toNatClampNeg = x295 := k297
              have k298 : M279 a0 17 = x296 := k298
              have h294 : iv 0 60 x296 := by rw [← k298]; exact hS.2.1.int hz_a0 hk_a0 (show rgI 12 17 = (0, 60) from rfl)
              have z302 : SEG M279 sg tq.toNatClampNeg sb x295.toNatClampNeg (sh + 2) := SEG.cast z301 rfl (by omega)
              refine lv_aload_n hx hb dX12_compare_163 rfl (lv_at hl 4 rfl) ?_
              refine lv_bipush (v := 6) hx hb dX12_compare_164 (by decide) ?_
              refine lv_iload hx hb dX12_compare_166 (lv_at hl 0 rfl) ?_
              refine lv_iadd hx hb dX12_compare_168 ?_
              refine md_top (y := 7) (by decide) ?_
              refine lv_iconst (v := 0) hx hb dX12_compare_169 (by decide) ?_
              have k303 : M279 a0 16 = tq := ((Fr.kp (k := 16) f276 hk_a0 rfl).trans ((Fr.kp (k := 16) f249 hk_a0 rfl).trans ((Fr.kp (k := 16) f246 hk_a0 rfl).trans ((Fr.kp (k := 16) f54 hk_a0 rfl).trans ((Fr.kp (k := 16) f33 hk_a0 rfl).trans (Fr.kp (k := 16) f5 hk_a0 rfl)))))).trans k_tq
              have h304 : iv 0 399 x295 := by
                have := (h_le).1; have := (h_le).2; have := (h_md).1; have := (h_md).2; have := (h_nx).1; have := (h_nx).2; have := (h149).1; have := (h149).2; have := (h_tq).1; have := (h_tq).2; have := (h14).1; have := (h14).2; have := (h22).1; have := (h22).2; have := (h242).1; have := (h242).2; have := (h285).1; have := (h285).2; have := (h293).1; have := (h293).2; have := (h49).1; have := (h49).2; have := (h42).1; have := (h42).2; have := (h148).1; have := (h148).2; exact ⟨by omega, by omega⟩
              refine tw_gov hS (md_runV (As := [.int 7, .int 0]) (rest := []) hx hb hml hown hW hK hT hS.1 (t_X12_puts l D cy tx base Z K N M279 Ra J278 hS.2.1 a0 hz_a0 hk_a0 7 (iv_mono (iv_c (c := 7) (n := 7) (by decide)) (by decide) (by decide)) 0 (iv_mono (iv_c (c := 0) (n := 0) (by decide)) (by decide) (by decide)) sg k_sg lg k_lg tq k303 (iv_mono h_tq (by decide) (by decide)) x295 k297 h304) s_X12_195 ⟨rfl, rfl, ⟨Nat.le_of_ble_eq_true rfl, Nat.le_of_ble_eq_true rfl⟩, ⟨Nat.le_of_ble_eq_true rfl, Nat.le_of_ble_eq_true rfl⟩⟩ hz_a0 hk_a0 (by decide) rfl rfl hl.1 rfl (Nat.le_of_ble_eq_true rfl) dX12_compare_170) rfl rfl (fun H locs M308 R309 J307 hS f305 g306 E310 => ?_)
              have eR309 := Fr.nil g306 rfl
              subst eR309
              have p311 := E310
              clear E310
              obtain ⟨x312, x314, zc311, zd311, zo311, k315, h313, zl311⟩ := p311
              have k315 : M308 lg tq.toNatClampNeg = x314 := k315
              have zt311 := ti_cl (x := tq) (by have := h_tq.1; omega); have zn311 := ti_cl (x := x295) (by have := (h293).1; omega); have zm311 := ti_cl (x := x314) (by have := (h313).1; omega)
              have q316 : (7 : Int32).toInt = 7 := (by decide)
              have q317 : (0 : Int32).toInt = 0 := (by decide)
              have k318 : M308 a0 17 = x296 := (Fr.kp (k := 17) f305 hk_a0 rfl).trans k298
              have zs311 := stp_two (h := sh + 2) (show x312.toInt = (7 : Int32).toInt + 16 * 0 by omega) (by have := ((iv_c (c := 7) (n := 7) (by decide))).1; have := ((iv_c (c := 7) (n := 7) (by decide))).2; have := ((iv_c (c := 0) (n := 0) (by decide))).1; have := ((iv_c (c := 0) (n := 0) (by decide))).2; omega) (by omega)
              have z319 : SEG M308 sg tq.toNatClampNeg sb x314.toNatClampNeg (sh + 1) := SEG.cast (SEG.ext z302 (by omega) zd311 zo311 zs311) (by omega) (by omega)
              have zw311 := ti_cl (x := le) (by have := h_le.1; omega)
              have z320 : ∀ j, j < 400 * tq.toNatClampNeg + le.toNatClampNeg → M308 sg j = Ma sg j := fun j hj => (zo311 j (by omega)).trans (z288 j hj)
              refine lv_iconst (v := 1) hx hb dX12_compare_173 (by decide) ?_
              have k321 : M308 a0 13 = x286 := (Fr.kp (k := 13) f305 hk_a0 rfl).trans k287
              have q322 : nx.toInt ≤ x286.toInt ∧ x286.toInt ≤ tp.toInt := by
                have := (h_le).1; have := (h_le).2; have := (h_md).1; have := (h_md).2; have := (h_nx).1; have := (h_nx).2; have := (h149).1; have := (h149).2; have := (h_tq).1; have := (h_tq).2; have := (h14).1; have := (h14).2; have := (h22).1; have := (h22).2; have := (h242).1; have := (h242).2; have := (h285).1; have := (h285).2; have := (h293).1; have := (h293).2; have := (h313).1; have := (h313).2; have := (h49).1; have := (h49).2; have := (h42).1; have := (h42).2; have := (h148).1; have := (h148).2; exact ⟨by omega, by omega⟩
              have q323 : le.toInt ≤ x314.toInt ∧ x314.toInt - le.toInt ≤ x286.toInt - nx.toInt ∧ ((sh + 1 : Nat) : Int) ≤ x296.toInt := by
                have := (h_le).1; have := (h_le).2; have := (h_md).1; have := (h_md).2; have := (h_nx).1; have := (h_nx).2; have := (h149).1; have := (h149).2; have := (h_tq).1; have := (h_tq).2; have := (h14).1; have := (h14).2; have := (h22).1; have := (h22).2; have := (h242).1; have := (h242).2; have := (h285).1; have := (h285).2; have := (h293).1; have := (h293).2; have := (h294).1; have := (h294).2; have := (h313).1; have := (h313).2; have := (h49).1; have := (h49).2; have := (h42).1; have := (h42).2; have := (h148).1; have := (h148).2; exact ⟨by omega, by omega, by omega⟩
              exact tw_endz hx hb hr hlocks hK hT hS hQ rfl (⟨(iv_mono (iv_c (c := 1) (n := 1) (by decide)) (by decide) (by decide)), ⟨z320, ⟨x286, k321, h285, q322.1, q322.2⟩, fun _ => ⟨x286, x314, x296, k321, k315, k318, (iv_mono h313 (by decide) (by decide)), q323.1, q323.2.1, q323.2.2, z319⟩⟩, (fun h => absurd h (by decide))⟩) dX12_compare_174
            · have q324 : x282.toInt = 0 := ti_eq c290
              have z325 := z289 c290
              have h326 : iv 0 0 x282 := ⟨by have := (h_x282).1; have := ((iv_c (c := 0) (n := 0) (by decide))).1; omega, by have := (h_x282).2; have := ((iv_c (c := 0) (n := 0) (by decide))).2; omega⟩
              refine lv_iconst (v := 0) hx hb dX12_compare_161 (by decide) ?_
              have q327 : nx.toInt ≤ x286.toInt ∧ x286.toInt ≤ tp.toInt := by
                have := (h_le).1; have := (h_le).2; have := (h_md).1; have := (h_md).2; have := (h_nx).1; have := (h_nx).2; have := (h149).1; have := (h149).2; have := (h_tq).1; have := (h_tq).2; have := (h14).1; have := (h14).2; have := (h22).1; have := (h22).2; have := (h242).1; have := (h242).2; have := (h285).1; have := (h285).2; have := (h49).1; have := (h49).2; have := (h42).1; have := (h42).2; have := (h148).1; have := (h148).2; exact ⟨by omega, by omega⟩
              exact tw_endz hx hb hr hlocks hK hT hS hQ rfl (⟨(iv_mono (iv_c (c := 0) (n := 0) (by decide)) (by decide) (by decide)), ⟨z288, ⟨x286, k287, h285, q327.1, q327.2⟩, (fun h => absurd rfl h)⟩, (fun _ => (show ¬ (M279 a0 14).toInt = 0 from z325))⟩) dX12_compare_162
          · have q328 : x255.toInt = 0 := ti_eq c263
            have z329 := z262 c263
            have h330 : iv 0 0 x255 := ⟨by have := (h_x255).1; have := ((iv_c (c := 0) (n := 0) (by decide))).1; omega, by have := (h_x255).2; have := ((iv_c (c := 0) (n := 0) (by decide))).2; omega⟩
            refine lv_iconst (v := 0) hx hb dX12_compare_113 (by decide) ?_
            have k331 : M252 a0 13 = x244 := (Fr.kp (k := 13) f249 hk_a0 rfl).trans k245
            have q332 : nx.toInt ≤ x244.toInt ∧ x244.toInt ≤ tp.toInt := by
              have := (h_le).1; have := (h_le).2; have := (h_md).1; have := (h_md).2; have := (h_nx).1; have := (h_nx).2; have := (h149).1; have := (h149).2; have := (h_tq).1; have := (h_tq).2; have := (h14).1; have := (h14).2; have := (h22).1; have := (h22).2; have := (h242).1; have := (h242).2; have := (h49).1; have := (h49).2; have := (h42).1; have := (h42).2; have := (h148).1; have := (h148).2; exact ⟨by omega, by omega⟩
            exact tw_endz hx hb hr hlocks hK hT hS hQ rfl (⟨(iv_mono (iv_c (c := 0) (n := 0) (by decide)) (by decide) (by decide)), ⟨(fun j hj => (Fr.kpa f249 hk_sg rfl j).trans ((fun j hj => (Fr.kpa f246 hk_sg rfl j).trans ((fun j hj => (Fr.kpa f54 hk_sg rfl j).trans ((fun j hj => (Fr.kpa f33 hk_sg rfl j).trans (z17 j hj)) j hj)) j hj)) j hj)), ⟨x244, k331, (iv_mono h242 (by decide) (by decide)), q332.1, q332.2⟩, (fun h => absurd rfl h)⟩, (fun _ => (show ¬ (M252 a0 14).toInt = 0 from z329))⟩) dX12_compare_114
    · have q333 : ¬ x39.toInt = 60 := ti_ne c47
      refine lv_iload_n hx hb dX12_compare_25 rfl (lv_at hl 1 rfl) ?_
      refine lv_bipush (v := 61) hx hb dX12_compare_26 (by decide) ?_
      refine lv_icmp_eq (tgt := 44) hx hb dX12_compare_28 (by decide) (fun c334 => ?_) (fun c334 => ?_)
      · have q335 : x39.toInt = 61 := ti_eq c334
        have h336 : iv 61 61 x39 := ⟨by have := (h_x39).1; have := ((iv_c (c := 61) (n := 61) (by decide))).1; omega, by have := (h_x39).2; have := ((iv_c (c := 61) (n := 61) (by decide))).2; omega⟩
        refine lv_aload_n hx hb dX12_compare_44 rfl (lv_at hl 2 rfl) ?_
        refine lv_dup hx hb dX12_compare_45 rfl ?_
        refine tw_getk hx hb hW hown hK hS f_X12_127_11 hz_a0 hk_a0 (v := x43) k41 dX12_compare_46 ?_
        refine lv_iconst (v := 1) hx hb dX12_compare_49 (by decide) ?_
        refine tw_iadd (lo := 1) (hi := 401) hx hb h42 (iv_c (c := 1) (n := 1) (by decide)) ⟨by decide, by decide⟩ ⟨by decide, by decide⟩ dX12_compare_50 (fun x339 e338 h337 => ?_)
        have e338 : x339.toInt = x43.toInt + 1 := e338
        have h342 : iv 0 400 x339 := by
          have := (h_le).1; have := (h_le).2; have := (h_md).1; have := (h_md).2; have := (h_nx).1; have := (h_nx).2; have := (h_tp).1; have := (h_tp).2; have := (h_tq).1; have := (h_tq).2; have := (h14).1; have := (h14).2; have := (h22).1; have := (h22).2; have := (h337).1; have := (h337).2; have := (h336).1; have := (h336).2; have := (h42).1; have := (h42).2; exact ⟨by omega, by omega⟩
        refine tw_puti hx hb hW hown hK hS f_X12_127_11 hz_a0 hk_a0 rfl rfl (lo := 0) (hi := 400) rfl h342 rfl dX12_compare_51 (fun H locs M343 hS k340 f341 => ?_)
        refine lv_iload_n hx hb dX12_compare_54 rfl (lv_at hl 1 rfl) ?_
        refine lv_bipush (v := 61) hx hb dX12_compare_55 (by decide) ?_
        refine lv_icmp_eq (tgt := 89) hx hb dX12_compare_57 (by decide) (fun c344 => ?_) (fun c344 => False.elim (by have q : ¬ x39.toInt = 61 := ti_ne c344; have := (h336).1; have := (h336).2; omega))
        have q345 : x39.toInt = 61 := ti_eq c344
        refine lv_iconst (v := 0) hx hb dX12_compare_89 (by decide) ?_
        refine lv_istore_n (lv' := [(3, .int 0), (2, .int x43), (1, .int x39), (0, .ref (base + a0))]) hx hb dX12_compare_90 rfl hl (by decide) rfl (fun ls hl => ?_)
        refine lv_iload_n hx hb dX12_compare_91 rfl (lv_at hl 0 rfl) ?_
        refine lv_if_eq (tgt := 105) hx hb dX12_compare_92 (by decide) (fun _ => ?_) (fun h => absurd h (by decide))
        refine lv_aload_n hx hb dX12_compare_105 rfl (lv_at hl 3 rfl) ?_
        refine lv_iload_n hx hb dX12_compare_106 rfl (lv_at hl 1 rfl) ?_
        have k346 : M343 a0 17 = x25 := ((Fr.kp (k := 17) f341 hk_a0 rfl).trans (Fr.kp (k := 17) f33 hk_a0 rfl)).trans k27
        refine tw_goi hS (md_runV (As := [.int x43]) (rest := []) hx hb hml hown hW hK hT hS.1 (t_X12_makes l D cy tx base Z K N M343 Ra J35 hS.2.1 a0 hz_a0 hk_a0 x43 h42 x25 k346 (iv_mono h23 (by decide) (by decide))) s_X12_203 ⟨rfl, rfl, ⟨Nat.le_of_ble_eq_true rfl, Nat.le_of_ble_eq_true rfl⟩, ⟨Nat.le_of_ble_eq_true rfl, Nat.le_of_ble_eq_true rfl⟩⟩ hz_a0 hk_a0 (by decide) rfl rfl hl.1 rfl (Nat.le_of_ble_eq_true rfl) dX12_compare_107) rfl rfl (fun x353 H locs M350 R351 J349 hS f347 g348 E352 => ?_)
        have eR351 := Fr.nil g348 rfl
        subst eR351
        obtain ⟨h_x353, p354, p355⟩ := E352
        obtain ⟨x357, k358, h356, q359⟩ := p354
        have k358 : M350 a0 17 = x357 := k358
        have z360 : x353 = 0 → ¬ (M350 a0 14).toInt = 0 := p355
        refine lv_if_ne (tgt := 115) hx hb dX12_compare_110 (by decide) (fun c361 => ?_) (fun c361 => ?_)
        · have q362 : ¬ x353.toInt = 0 := ti_ne c361
          have h363 : iv 1 1 x353 := ⟨by have := (h_x353).1; have := ((iv_c (c := 0) (n := 0) (by decide))).1; have := ((iv_c (c := 0) (n := 0) (by decide))).2; omega, by have := (h_x353).2; have := ((iv_c (c := 0) (n := 0) (by decide))).1; have := ((iv_c (c := 0) (n := 0) (by decide))).2; omega⟩
          refine lv_iload_n hx hb dX12_compare_115 rfl (lv_at hl 2 rfl) ?_
          refine lv_bipush (v := 60) hx hb dX12_compare_116 (by decide) ?_
          refine lv_icmp_ne (tgt := 133) hx hb dX12_compare_118 (by decide) (fun c364 => ?_) (fun c364 => False.elim (by have q : x39.toInt = 60 := ti_eq c364; have := (h336).1; have := (h336).2; omega))
          have q365 : ¬ x39.toInt = 60 := ti_ne c364
          refine lv_iload_n hx hb dX12_compare_133 rfl (lv_at hl 2 rfl) ?_
          refine lv_bipush (v := 61) hx hb dX12_compare_134 (by decide) ?_
          refine lv_icmp_ne (tgt := 143) hx hb dX12_compare_136 (by decide) (fun c366 => False.elim (by have q : ¬ x39.toInt = 61 := ti_ne c366; have := (h336).1; have := (h336).2; omega)) (fun c366 => ?_)
          have q367 : x39.toInt = 61 := ti_eq c366
          refine lv_iconst (v := 2) hx hb dX12_compare_139 (by decide) ?_
          refine lv_goto (tgt := 152) hx hb dX12_compare_140 (by decide) ?_
          refine lv_istore (lv' := [(4, .int 2), (3, .int 0), (2, .int x43), (1, .int x39), (0, .ref (base + a0))]) hx hb dX12_compare_152 hl (by decide) rfl (fun ls hl => ?_)
          refine lv_aload_n hx hb dX12_compare_154 rfl (lv_at hl 4 rfl) ?_
          have k368 : M350 a0 13 = x339 := (Fr.kp (k := 13) f347 hk_a0 rfl).trans k340
          have k369 : M350 a0 1 = tp := ((Fr.kp (k := 1) f347 hk_a0 rfl).trans ((Fr.kp (k := 1) f341 hk_a0 rfl).trans ((Fr.kp (k := 1) f33 hk_a0 rfl).trans (Fr.kp (k := 1) f5 hk_a0 rfl)))).trans k_tp
          have q370 : x339.toInt ≤ tp.toInt := by
            have := (h_le).1; have := (h_le).2; have := (h_md).1; have := (h_md).2; have := (h_nx).1; have := (h_nx).2; have := (h_tp).1; have := (h_tp).2; have := (h_tq).1; have := (h_tq).2; have := (h14).1; have := (h14).2; have := (h22).1; have := (h22).2; have := (h342).1; have := (h342).2; have := (h336).1; have := (h336).2; have := (h42).1; have := (h42).2; omega
          have k371 : M350 a0 16 = tq := ((Fr.kp (k := 16) f347 hk_a0 rfl).trans ((Fr.kp (k := 16) f341 hk_a0 rfl).trans ((Fr.kp (k := 16) f33 hk_a0 rfl).trans (Fr.kp (k := 16) f5 hk_a0 rfl)))).trans k_tq
          have k372 : M350 lg tq.toNatClampNeg = x24 := ((Fr.kpa f347 hk_lg rfl tq.toNatClampNeg).trans ((Fr.kpa f341 hk_lg rfl tq.toNatClampNeg).trans (Fr.kpa f33 hk_lg rfl tq.toNatClampNeg))).trans k26
          have q373 : ((sb : Nat) : Int) ≤ x24.toInt := by
            have := (h_le).1; have := (h_le).2; have := (h_md).1; have := (h_md).2; have := (h_nx).1; have := (h_nx).2; have := (h_tp).1; have := (h_tp).2; have := (h_tq).1; have := (h_tq).2; have := (h14).1; have := (h14).2; have := (h22).1; have := (h22).2; have := (h42).1; have := (h42).2; omega
          have q374 : ((sh + 1 : Nat) : Int) ≤ x357.toInt := by
            have := (h_le).1; have := (h_le).2; have := (h_md).1; have := (h_md).2; have := (h_nx).1; have := (h_nx).2; have := (h_tp).1; have := (h_tp).2; have := (h_tq).1; have := (h_tq).2; have := (h23).1; have := (h23).2; have := (h356).1; have := (h356).2; omega
          have q375 : x24.toInt ≤ x339.toInt := by
            have := (h_le).1; have := (h_le).2; have := (h_md).1; have := (h_md).2; have := (h_nx).1; have := (h_nx).2; have := (h_tp).1; have := (h_tp).2; have := (h_tq).1; have := (h_tq).2; have := (h14).1; have := (h14).2; have := (h22).1; have := (h22).2; have := (h342).1; have := (h342).2; have := (h336).1; have := (h336).2; have := (h42).1; have := (h42).2; omega
          refine tw_goi hS (md_runV (As := []) (rest := []) hx hb hml hown hW hK hT hS.1 (t_X12_sum l D cy tx base Z K N M350 Ra J349 hS.2.1 a0 hz_a0 hk_a0 tb k_tb x339 k368 (iv_mono h342 (by decide) (by decide)) tp k369 (iv_mono h_tp (by decide) (by decide)) q370 lg k_lg sg k_sg tq k371 (iv_mono h_tq (by decide) (by decide)) x24 k372 (iv_mono h22 (by decide) (by decide)) x357 k358 (iv_mono h356 (by decide) (by decide)) (sb) (sh + 1) (SEG.to (SEG.to (SEG.to z30 (fun j _ _ => Fr.kpa f33 hk_sg rfl j)) (fun j _ _ => Fr.kpa f341 hk_sg rfl j)) (fun j _ _ => Fr.kpa f347 hk_sg rfl j)) q373 q374 q375) s_X12_216 ⟨rfl, rfl, ⟨Nat.le_of_ble_eq_true rfl, Nat.le_of_ble_eq_true rfl⟩, ⟨Nat.le_of_ble_eq_true rfl, Nat.le_of_ble_eq_true rfl⟩⟩ hz_a0 hk_a0 (by decide) rfl rfl hl.1 rfl (Nat.le_of_ble_eq_true rfl) dX12_compare_155) rfl rfl (fun x382 H locs M379 R380 J378 hS f376 g377 E381 => ?_)
          have eR380 := Fr.nil g377 rfl
          subst eR380
          obtain ⟨h_x382, p383, p384⟩ := E381
          obtain ⟨zf384, ⟨x386, k387, h385, zu384, zv384⟩, zc384⟩ := p383
          have k387 : M379 a0 13 = x386 := k387
          have zw384 := ti_cl (x := le) (by have := h_le.1; omega); have zy384 := ti_cl (x := x24) (by have := (h22).1; omega)
          have z388 : ∀ j, j < 400 * tq.toNatClampNeg + le.toNatClampNeg → M379 sg j = Ma sg j := fun j hj => (zf384 j (by omega)).trans ((fun j hj => (Fr.kpa f347 hk_sg rfl j).trans ((fun j hj => (Fr.kpa f341 hk_sg rfl j).trans ((fun j hj => (Fr.kpa f33 hk_sg rfl j).trans (z17 j hj)) j hj)) j hj)) j hj)
          have z389 : x382 = 0 → ¬ (M379 a0 14).toInt = 0 := p384
          refine lv_if_ne (tgt := 163) hx hb dX12_compare_158 (by decide) (fun c390 => ?_) (fun c390 => ?_)
          · have q391 : ¬ x382.toInt = 0 := ti_ne c390
            have h392 : iv 1 1 x382 := ⟨by have := (h_x382).1; have := ((iv_c (c := 0) (n := 0) (by decide))).1; have := ((iv_c (c := 0) (n := 0) (by decide))).2; omega, by have := (h_x382).2; have := ((iv_c (c := 0) (n := 0) (by decide))).1; have := ((iv_c (c := 0) (n := 0) (by decide))).2; omega⟩
            obtain ⟨x399, x395, x396, k400, k397, k398, h393, za392, zb392, zd392, z401⟩ := zc384 c390
            have ze392 : x399 = x386 := k400.symm.trans k387
            rw [ze392] at zb392
            have k397 : M379 lg tq.toNatClampNeg = x395 := k397
            have k398 : M379 a0 17 = x396 := k398
            have h394 : iv 0 60 x396 := by rw [← k398]; exact hS.2.1.int hz_a0 hk_a0 (show rgI 12 17 = (0, 60) from rfl)
            have z402 : SEG M379 sg tq.toNatClampNeg sb x395.toNatClampNeg (sh + 2) := SEG.cast z401 rfl (by omega)
            refine lv_aload_n hx hb dX12_compare_163 rfl (lv_at hl 4 rfl) ?_
            refine lv_bipush (v := 6) hx hb dX12_compare_164 (by decide) ?_
            refine lv_iload hx hb dX12_compare_166 (lv_at hl 0 rfl) ?_
            refine lv_iadd hx hb dX12_compare_168 ?_
            refine md_top (y := 8) (by decide) ?_
            refine lv_iconst (v := 0) hx hb dX12_compare_169 (by decide) ?_
            have k403 : M379 a0 16 = tq := ((Fr.kp (k := 16) f376 hk_a0 rfl).trans ((Fr.kp (k := 16) f347 hk_a0 rfl).trans ((Fr.kp (k := 16) f341 hk_a0 rfl).trans ((Fr.kp (k := 16) f33 hk_a0 rfl).trans (Fr.kp (k := 16) f5 hk_a0 rfl))))).trans k_tq
            have h404 : iv 0 399 x395 := by
              have := (h_le).1; have := (h_le).2; have := (h_md).1; have := (h_md).2; have := (h_nx).1; have := (h_nx).2; have := (h_tp).1; have := (h_tp).2; have := (h_tq).1; have := (h_tq).2; have := (h14).1; have := (h14).2; have := (h22).1; have := (h22).2; have := (h342).1; have := (h342).2; have := (h385).1; have := (h385).2; have := (h336).1; have := (h336).2; have := (h393).1; have := (h393).2; have := (h42).1; have := (h42).2; exact ⟨by omega, by omega⟩
            refine tw_gov hS (md_runV (As := [.int 8, .int 0]) (rest := []) hx hb hml hown hW hK hT hS.1 (t_X12_puts l D cy tx base Z K N M379 Ra J378 hS.2.1 a0 hz_a0 hk_a0 8 (iv_mono (iv_c (c := 8) (n := 8) (by decide)) (by decide) (by decide)) 0 (iv_mono (iv_c (c := 0) (n := 0) (by decide)) (by decide) (by decide)) sg k_sg lg k_lg tq k403 (iv_mono h_tq (by decide) (by decide)) x395 k397 h404) s_X12_195 ⟨rfl, rfl, ⟨Nat.le_of_ble_eq_true rfl, Nat.le_of_ble_eq_true rfl⟩, ⟨Nat.le_of_ble_eq_true rfl, Nat.le_of_ble_eq_true rfl⟩⟩ hz_a0 hk_a0 (by decide) rfl rfl hl.1 rfl (Nat.le_of_ble_eq_true rfl) dX12_compare_170) rfl rfl (fun H locs M408 R409 J407 hS f405 g406 E410 => ?_)
            have eR409 := Fr.nil g406 rfl
            subst eR409
            have p411 := E410
            clear E410
            obtain ⟨x412, x414, zc411, zd411, zo411, k415, h413, zl411⟩ := p411
            have k415 : M408 lg tq.toNatClampNeg = x414 := k415
            have zt411 := ti_cl (x := tq) (by have := h_tq.1; omega); have zn411 := ti_cl (x := x395) (by have := (h393).1; omega); have zm411 := ti_cl (x := x414) (by have := (h413).1; omega)
            have q416 : (8 : Int32).toInt = 8 := (by decide)
            have q417 : (0 : Int32).toInt = 0 := (by decide)
            have k418 : M408 a0 17 = x396 := (Fr.kp (k := 17) f405 hk_a0 rfl).trans k398
            have zs411 := stp_two (h := sh + 2) (show x412.toInt = (8 : Int32).toInt + 16 * 0 by omega) (by have := ((iv_c (c := 8) (n := 8) (by decide))).1; have := ((iv_c (c := 8) (n := 8) (by decide))).2; have := ((iv_c (c := 0) (n := 0) (by decide))).1; have := ((iv_c (c := 0) (n := 0) (by decide))).2; omega) (by omega)
            have z419 : SEG M408 sg tq.toNatClampNeg sb x414.toNatClampNeg (sh + 1) := SEG.cast (SEG.ext z402 (by omega) zd411 zo411 zs411) (by omega) (by omega)
            have zw411 := ti_cl (x := le) (by have := h_le.1; omega)
            have z420 : ∀ j, j < 400 * tq.toNatClampNeg + le.toNatClampNeg → M408 sg j = Ma sg j := fun j hj => (zo411 j (by omega)).trans (z388 j hj)
            refine lv_iconst (v := 1) hx hb dX12_compare_173 (by decide) ?_
            have k421 : M408 a0 13 = x386 := (Fr.kp (k := 13) f405 hk_a0 rfl).trans k387
            have q422 : nx.toInt ≤ x386.toInt ∧ x386.toInt ≤ tp.toInt := by
              have := (h_le).1; have := (h_le).2; have := (h_md).1; have := (h_md).2; have := (h_nx).1; have := (h_nx).2; have := (h_tp).1; have := (h_tp).2; have := (h_tq).1; have := (h_tq).2; have := (h14).1; have := (h14).2; have := (h22).1; have := (h22).2; have := (h342).1; have := (h342).2; have := (h385).1; have := (h385).2; have := (h336).1; have := (h336).2; have := (h393).1; have := (h393).2; have := (h413).1; have := (h413).2; have := (h42).1; have := (h42).2; exact ⟨by omega, by omega⟩
            have q423 : le.toInt ≤ x414.toInt ∧ x414.toInt - le.toInt ≤ x386.toInt - nx.toInt ∧ ((sh + 1 : Nat) : Int) ≤ x396.toInt := by
              have := (h_le).1; have := (h_le).2; have := (h_md).1; have := (h_md).2; have := (h_nx).1; have := (h_nx).2; have := (h_tp).1; have := (h_tp).2; have := (h_tq).1; have := (h_tq).2; have := (h14).1; have := (h14).2; have := (h22).1; have := (h22).2; have := (h342).1; have := (h342).2; have := (h385).1; have := (h385).2; have := (h336).1; have := (h336).2; have := (h393).1; have := (h393).2; have := (h394).1; have := (h394).2; have := (h413).1; have := (h413).2; have := (h42).1; have := (h42).2; exact ⟨by omega, by omega, by omega⟩
            exact tw_endz hx hb hr hlocks hK hT hS hQ rfl (⟨(iv_mono (iv_c (c := 1) (n := 1) (by decide)) (by decide) (by decide)), ⟨z420, ⟨x386, k421, h385, q422.1, q422.2⟩, fun _ => ⟨x386, x414, x396, k421, k415, k418, (iv_mono h413 (by decide) (by decide)), q423.1, q423.2.1, q423.2.2, z419⟩⟩, (fun h => absurd h (by decide))⟩) dX12_compare_174
          · have q424 : x382.toInt = 0 := ti_eq c390
            have z425 := z389 c390
            have h426 : iv 0 0 x382 := ⟨by have := (h_x382).1; have := ((iv_c (c := 0) (n := 0) (by decide))).1; omega, by have := (h_x382).2; have := ((iv_c (c := 0) (n := 0) (by decide))).2; omega⟩
            refine lv_iconst (v := 0) hx hb dX12_compare_161 (by decide) ?_
            have q427 : nx.toInt ≤ x386.toInt ∧ x386.toInt ≤ tp.toInt := by
              have := (h_le).1; have := (h_le).2; have := (h_md).1; have := (h_md).2; have := (h_nx).1; have := (h_nx).2; have := (h_tp).1; have := (h_tp).2; have := (h_tq).1; have := (h_tq).2; have := (h14).1; have := (h14).2; have := (h22).1; have := (h22).2; have := (h342).1; have := (h342).2; have := (h385).1; have := (h385).2; have := (h336).1; have := (h336).2; have := (h42).1; have := (h42).2; exact ⟨by omega, by omega⟩
            exact tw_endz hx hb hr hlocks hK hT hS hQ rfl (⟨(iv_mono (iv_c (c := 0) (n := 0) (by decide)) (by decide) (by decide)), ⟨z388, ⟨x386, k387, h385, q427.1, q427.2⟩, (fun h => absurd rfl h)⟩, (fun _ => (show ¬ (M379 a0 14).toInt = 0 from z425))⟩) dX12_compare_162
        · have q428 : x353.toInt = 0 := ti_eq c361
          have z429 := z360 c361
          have h430 : iv 0 0 x353 := ⟨by have := (h_x353).1; have := ((iv_c (c := 0) (n := 0) (by decide))).1; omega, by have := (h_x353).2; have := ((iv_c (c := 0) (n := 0) (by decide))).2; omega⟩
          refine lv_iconst (v := 0) hx hb dX12_compare_113 (by decide) ?_
          have k431 : M350 a0 13 = x339 := (Fr.kp (k := 13) f347 hk_a0 rfl).trans k340
          have q432 : nx.toInt ≤ x339.toInt ∧ x339.toInt ≤ tp.toInt := by
            have := (h_le).1; have := (h_le).2; have := (h_md).1; have := (h_md).2; have := (h_nx).1; have := (h_nx).2; have := (h_tp).1; have := (h_tp).2; have := (h_tq).1; have := (h_tq).2; have := (h14).1; have := (h14).2; have := (h22).1; have := (h22).2; have := (h342).1; have := (h342).2; have := (h336).1; have := (h336).2; have := (h42).1; have := (h42).2; exact ⟨by omega, by omega⟩
          exact tw_endz hx hb hr hlocks hK hT hS hQ rfl (⟨(iv_mono (iv_c (c := 0) (n := 0) (by decide)) (by decide) (by decide)), ⟨(fun j hj => (Fr.kpa f347 hk_sg rfl j).trans ((fun j hj => (Fr.kpa f341 hk_sg rfl j).trans ((fun j hj => (Fr.kpa f33 hk_sg rfl j).trans (z17 j hj)) j hj)) j hj)), ⟨x339, k431, h342, q432.1, q432.2⟩, (fun h => absurd rfl h)⟩, (fun _ => (show ¬ (M350 a0 14).toInt = 0 from z429))⟩) dX12_compare_114
      · have q433 : ¬ x39.toInt = 61 := ti_ne c334
        refine lv_iload_n hx hb dX12_compare_31 rfl (lv_at hl 1 rfl) ?_
        refine lv_bipush (v := 62) hx hb dX12_compare_32 (by decide) ?_
        refine lv_icmp_eq (tgt := 44) hx hb dX12_compare_34 (by decide) (fun c434 => ?_) (fun c434 => ?_)
        · have q435 : x39.toInt = 62 := ti_eq c434
          have h436 : iv 62 62 x39 := ⟨by have := (h_x39).1; have := ((iv_c (c := 62) (n := 62) (by decide))).1; omega, by have := (h_x39).2; have := ((iv_c (c := 62) (n := 62) (by decide))).2; omega⟩
          refine lv_aload_n hx hb dX12_compare_44 rfl (lv_at hl 2 rfl) ?_
          refine lv_dup hx hb dX12_compare_45 rfl ?_
          refine tw_getk hx hb hW hown hK hS f_X12_127_11 hz_a0 hk_a0 (v := x43) k41 dX12_compare_46 ?_
          refine lv_iconst (v := 1) hx hb dX12_compare_49 (by decide) ?_
          refine tw_iadd (lo := 1) (hi := 401) hx hb h42 (iv_c (c := 1) (n := 1) (by decide)) ⟨by decide, by decide⟩ ⟨by decide, by decide⟩ dX12_compare_50 (fun x439 e438 h437 => ?_)
          have e438 : x439.toInt = x43.toInt + 1 := e438
          have h442 : iv 0 400 x439 := by
            have := (h_le).1; have := (h_le).2; have := (h_md).1; have := (h_md).2; have := (h_nx).1; have := (h_nx).2; have := (h_tp).1; have := (h_tp).2; have := (h_tq).1; have := (h_tq).2; have := (h14).1; have := (h14).2; have := (h22).1; have := (h22).2; have := (h436).1; have := (h436).2; have := (h42).1; have := (h42).2; have := (h437).1; have := (h437).2; exact ⟨by omega, by omega⟩
          refine tw_puti hx hb hW hown hK hS f_X12_127_11 hz_a0 hk_a0 rfl rfl (lo := 0) (hi := 400) rfl h442 rfl dX12_compare_51 (fun H locs M443 hS k440 f441 => ?_)
          refine lv_iload_n hx hb dX12_compare_54 rfl (lv_at hl 1 rfl) ?_
          refine lv_bipush (v := 61) hx hb dX12_compare_55 (by decide) ?_
          refine lv_icmp_eq (tgt := 89) hx hb dX12_compare_57 (by decide) (fun c444 => False.elim (by have q : x39.toInt = 61 := ti_eq c444; have := (h436).1; have := (h436).2; omega)) (fun c444 => ?_)
          have q445 : ¬ x39.toInt = 61 := ti_ne c444
          refine lv_aload_n hx hb dX12_compare_60 rfl (lv_at hl 2 rfl) ?_
          refine tw_getk hx hb hW hown hK hS f_X12_127_11 hz_a0 hk_a0 (v := x439) k440 dX12_compare_61 ?_
          refine lv_aload_n hx hb dX12_compare_64 rfl (lv_at hl 2 rfl) ?_
          have k446 : M443 a0 1 = tp := ((Fr.kp (k := 1) f441 hk_a0 rfl).trans ((Fr.kp (k := 1) f33 hk_a0 rfl).trans (Fr.kp (k := 1) f5 hk_a0 rfl))).trans k_tp
          refine tw_getk hx hb hW hown hK hS f_X12_116_11 hz_a0 hk_a0 (v := tp) k446 dX12_compare_65 ?_
          refine lv_icmp_ge (tgt := 89) hx hb dX12_compare_68 (by decide) (fun c447 => ?_) (fun c447 => ?_)
          · have q448 : tp.toInt ≤ x439.toInt := ti_le c447
            refine lv_iconst (v := 0) hx hb dX12_compare_89 (by decide) ?_
            refine lv_istore_n (lv' := [(3, .int 0), (2, .int x43), (1, .int x39), (0, .ref (base + a0))]) hx hb dX12_compare_90 rfl hl (by decide) rfl (fun ls hl => ?_)
            refine lv_iload_n hx hb dX12_compare_91 rfl (lv_at hl 0 rfl) ?_
            refine lv_if_eq (tgt := 105) hx hb dX12_compare_92 (by decide) (fun _ => ?_) (fun h => absurd h (by decide))
            refine lv_aload_n hx hb dX12_compare_105 rfl (lv_at hl 3 rfl) ?_
            refine lv_iload_n hx hb dX12_compare_106 rfl (lv_at hl 1 rfl) ?_
            have k449 : M443 a0 17 = x25 := ((Fr.kp (k := 17) f441 hk_a0 rfl).trans (Fr.kp (k := 17) f33 hk_a0 rfl)).trans k27
            refine tw_goi hS (md_runV (As := [.int x43]) (rest := []) hx hb hml hown hW hK hT hS.1 (t_X12_makes l D cy tx base Z K N M443 Ra J35 hS.2.1 a0 hz_a0 hk_a0 x43 h42 x25 k449 (iv_mono h23 (by decide) (by decide))) s_X12_203 ⟨rfl, rfl, ⟨Nat.le_of_ble_eq_true rfl, Nat.le_of_ble_eq_true rfl⟩, ⟨Nat.le_of_ble_eq_true rfl, Nat.le_of_ble_eq_true rfl⟩⟩ hz_a0 hk_a0 (by decide) rfl rfl hl.1 rfl (Nat.le_of_ble_eq_true rfl) dX12_compare_107) rfl rfl (fun x456 H locs M453 R454 J452 hS f450 g451 E455 => ?_)
            have eR454 := Fr.nil g451 rfl
            subst eR454
            obtain ⟨h_x456, p457, p458⟩ := E455
            obtain ⟨x460, k461, h459, q462⟩ := p457
            have k461 : M453 a0 17 = x460 := k461
            have z463 : x456 = 0 → ¬ (M453 a0 14).toInt = 0 := p458
            refine lv_if_ne (tgt := 115) hx hb dX12_compare_110 (by decide) (fun c464 => ?_) (fun c464 => ?_)
            · have q465 : ¬ x456.toInt = 0 := ti_ne c464
              have h466 : iv 1 1 x456 := ⟨by have := (h_x456).1; have := ((iv_c (c := 0) (n := 0) (by decide))).1; have := ((iv_c (c := 0) (n := 0) (by decide))).2; omega, by have := (h_x456).2; have := ((iv_c (c := 0) (n := 0) (by decide))).1; have := ((iv_c (c := 0) (n := 0) (by decide))).2; omega⟩
              refine lv_iload_n hx hb dX12_compare_115 rfl (lv_at hl 2 rfl) ?_
              refine lv_bipush (v := 60) hx hb dX12_compare_116 (by decide) ?_
              refine lv_icmp_ne (tgt := 133) hx hb dX12_compare_118 (by decide) (fun c467 => ?_) (fun c467 => False.elim (by have q : x39.toInt = 60 := ti_eq c467; have := (h436).1; have := (h436).2; omega))
              have q468 : ¬ x39.toInt = 60 := ti_ne c467
              refine lv_iload_n hx hb dX12_compare_133 rfl (lv_at hl 2 rfl) ?_
              refine lv_bipush (v := 61) hx hb dX12_compare_134 (by decide) ?_
              refine lv_icmp_ne (tgt := 143) hx hb dX12_compare_136 (by decide) (fun c469 => ?_) (fun c469 => False.elim (by have q : x39.toInt = 61 := ti_eq c469; have := (h436).1; have := (h436).2; omega))
              have q470 : ¬ x39.toInt = 61 := ti_ne c469
              refine lv_iload_n hx hb dX12_compare_143 rfl (lv_at hl 0 rfl) ?_
              refine lv_if_eq (tgt := 151) hx hb dX12_compare_144 (by decide) (fun _ => ?_) (fun h => absurd h (by decide))
              refine lv_iconst (v := 4) hx hb dX12_compare_151 (by decide) ?_
              refine lv_istore (lv' := [(4, .int 4), (3, .int 0), (2, .int x43), (1, .int x39), (0, .ref (base + a0))]) hx hb dX12_compare_152 hl (by decide) rfl (fun ls hl => ?_)
              refine lv_aload_n hx hb dX12_compare_154 rfl (lv_at hl 4 rfl) ?_
              have k471 : M453 a0 13 = x439 := (Fr.kp (k := 13) f450 hk_a0 rfl).trans k440
              have k472 : M453 a0 1 = tp := ((Fr.kp (k := 1) f450 hk_a0 rfl).trans ((Fr.kp (k := 1) f441 hk_a0 rfl).trans ((Fr.kp (k := 1) f33 hk_a0 rfl).trans (Fr.kp (k := 1) f5 hk_a0 rfl)))).trans k_tp
              have q473 : x439.toInt ≤ tp.toInt := by
                have := (h_le).1; have := (h_le).2; have := (h_md).1; have := (h_md).2; have := (h_nx).1; have := (h_nx).2; have := (h_tp).1; have := (h_tp).2; have := (h_tq).1; have := (h_tq).2; have := (h14).1; have := (h14).2; have := (h22).1; have := (h22).2; have := (h436).1; have := (h436).2; have := (h42).1; have := (h42).2; have := (h442).1; have := (h442).2; omega
              have k474 : M453 a0 16 = tq := ((Fr.kp (k := 16) f450 hk_a0 rfl).trans ((Fr.kp (k := 16) f441 hk_a0 rfl).trans ((Fr.kp (k := 16) f33 hk_a0 rfl).trans (Fr.kp (k := 16) f5 hk_a0 rfl)))).trans k_tq
              have k475 : M453 lg tq.toNatClampNeg = x24 := ((Fr.kpa f450 hk_lg rfl tq.toNatClampNeg).trans ((Fr.kpa f441 hk_lg rfl tq.toNatClampNeg).trans (Fr.kpa f33 hk_lg rfl tq.toNatClampNeg))).trans k26
              have q476 : ((sb : Nat) : Int) ≤ x24.toInt := by
                have := (h_le).1; have := (h_le).2; have := (h_md).1; have := (h_md).2; have := (h_nx).1; have := (h_nx).2; have := (h_tp).1; have := (h_tp).2; have := (h_tq).1; have := (h_tq).2; have := (h14).1; have := (h14).2; have := (h22).1; have := (h22).2; have := (h42).1; have := (h42).2; omega
              have q477 : ((sh + 1 : Nat) : Int) ≤ x460.toInt := by
                have := (h_le).1; have := (h_le).2; have := (h_md).1; have := (h_md).2; have := (h_nx).1; have := (h_nx).2; have := (h_tp).1; have := (h_tp).2; have := (h_tq).1; have := (h_tq).2; have := (h23).1; have := (h23).2; have := (h459).1; have := (h459).2; omega
              have q478 : x24.toInt ≤ x439.toInt := by
                have := (h_le).1; have := (h_le).2; have := (h_md).1; have := (h_md).2; have := (h_nx).1; have := (h_nx).2; have := (h_tp).1; have := (h_tp).2; have := (h_tq).1; have := (h_tq).2; have := (h14).1; have := (h14).2; have := (h22).1; have := (h22).2; have := (h436).1; have := (h436).2; have := (h42).1; have := (h42).2; have := (h442).1; have := (h442).2; omega
              refine tw_goi hS (md_runV (As := []) (rest := []) hx hb hml hown hW hK hT hS.1 (t_X12_sum l D cy tx base Z K N M453 Ra J452 hS.2.1 a0 hz_a0 hk_a0 tb k_tb x439 k471 (iv_mono h442 (by decide) (by decide)) tp k472 (iv_mono h_tp (by decide) (by decide)) q473 lg k_lg sg k_sg tq k474 (iv_mono h_tq (by decide) (by decide)) x24 k475 (iv_mono h22 (by decide) (by decide)) x460 k461 (iv_mono h459 (by decide) (by decide)) (sb) (sh + 1) (SEG.to (SEG.to (SEG.to z30 (fun j _ _ => Fr.kpa f33 hk_sg rfl j)) (fun j _ _ => Fr.kpa f441 hk_sg rfl j)) (fun j _ _ => Fr.kpa f450 hk_sg rfl j)) q476 q477 q478) s_X12_216 ⟨rfl, rfl, ⟨Nat.le_of_ble_eq_true rfl, Nat.le_of_ble_eq_true rfl⟩, ⟨Nat.le_of_ble_eq_true rfl, Nat.le_of_ble_eq_true rfl⟩⟩ hz_a0 hk_a0 (by decide) rfl rfl hl.1 rfl (Nat.le_of_ble_eq_true rfl) dX12_compare_155) rfl rfl (fun x485 H locs M482 R483 J481 hS f479 g480 E484 => ?_)
              have eR483 := Fr.nil g480 rfl
              subst eR483
              obtain ⟨h_x485, p486, p487⟩ := E484
              obtain ⟨zf487, ⟨x489, k490, h488, zu487, zv487⟩, zc487⟩ := p486
              have k490 : M482 a0 13 = x489 := k490
              have zw487 := ti_cl (x := le) (by have := h_le.1; omega); have zy487 := ti_cl (x := x24) (by have := (h22).1; omega)
              have z491 : ∀ j, j < 400 * tq.toNatClampNeg + le.toNatClampNeg → M482 sg j = Ma sg j := fun j hj => (zf487 j (by omega)).trans ((fun j hj => (Fr.kpa f450 hk_sg rfl j).trans ((fun j hj => (Fr.kpa f441 hk_sg rfl j).trans ((fun j hj => (Fr.kpa f33 hk_sg rfl j).trans (z17 j hj)) j hj)) j hj)) j hj)
              have z492 : x485 = 0 → ¬ (M482 a0 14).toInt = 0 := p487
              refine lv_if_ne (tgt := 163) hx hb dX12_compare_158 (by decide) (fun c493 => ?_) (fun c493 => ?_)
              · have q494 : ¬ x485.toInt = 0 := ti_ne c493
                have h495 : iv 1 1 x485 := ⟨by have := (h_x485).1; have := ((iv_c (c := 0) (n := 0) (by decide))).1; have := ((iv_c (c := 0) (n := 0) (by decide))).2; omega, by have := (h_x485).2; have := ((iv_c (c := 0) (n := 0) (by decide))).1; have := ((iv_c (c := 0) (n := 0) (by decide))).2; omega⟩
                obtain ⟨x502, x498, x499, k503, k500, k501, h496, za495, zb495, zd495, z504⟩ := zc487 c493
                have ze495 : x502 = x489 := k503.symm.trans k490
                rw [ze495] at zb495
                have k500 : M482 lg tq.toNatClampNeg = x498 := k500
                have k501 : M482 a0 17 = x499 := k501
                have h497 : iv 0 60 x499 := by rw [← k501]; exact hS.2.1.int hz_a0 hk_a0 (show rgI 12 17 = (0, 60) from rfl)
                have z505 : SEG M482 sg tq.toNatClampNeg sb x498.toNatClampNeg (sh + 2) := SEG.cast z504 rfl (by omega)
                refine lv_aload_n hx hb dX12_compare_163 rfl (lv_at hl 4 rfl) ?_
                refine lv_bipush (v := 6) hx hb dX12_compare_164 (by decide) ?_
                refine lv_iload hx hb dX12_compare_166 (lv_at hl 0 rfl) ?_
                refine lv_iadd hx hb dX12_compare_168 ?_
                refine md_top (y := 10) (by decide) ?_
                refine lv_iconst (v := 0) hx hb dX12_compare_169 (by decide) ?_
                have k506 : M482 a0 16 = tq := ((Fr.kp (k := 16) f479 hk_a0 rfl).trans ((Fr.kp (k := 16) f450 hk_a0 rfl).trans ((Fr.kp (k := 16) f441 hk_a0 rfl).trans ((Fr.kp (k := 16) f33 hk_a0 rfl).trans (Fr.kp (k := 16) f5 hk_a0 rfl))))).trans k_tq
                have h507 : iv 0 399 x498 := by
                  have := (h_le).1; have := (h_le).2; have := (h_md).1; have := (h_md).2; have := (h_nx).1; have := (h_nx).2; have := (h_tp).1; have := (h_tp).2; have := (h_tq).1; have := (h_tq).2; have := (h14).1; have := (h14).2; have := (h22).1; have := (h22).2; have := (h436).1; have := (h436).2; have := (h42).1; have := (h42).2; have := (h442).1; have := (h442).2; have := (h488).1; have := (h488).2; have := (h496).1; have := (h496).2; exact ⟨by omega, by omega⟩
                refine tw_gov hS (md_runV (As := [.int 10, .int 0]) (rest := []) hx hb hml hown hW hK hT hS.1 (t_X12_puts l D cy tx base Z K N M482 Ra J481 hS.2.1 a0 hz_a0 hk_a0 10 (iv_mono (iv_c (c := 10) (n := 10) (by decide)) (by decide) (by decide)) 0 (iv_mono (iv_c (c := 0) (n := 0) (by decide)) (by decide) (by decide)) sg k_sg lg k_lg tq k506 (iv_mono h_tq (by decide) (by decide)) x498 k500 h507) s_X12_195 ⟨rfl, rfl, ⟨Nat.le_of_ble_eq_true rfl, Nat.le_of_ble_eq_true rfl⟩, ⟨Nat.le_of_ble_eq_true rfl, Nat.le_of_ble_eq_true rfl⟩⟩ hz_a0 hk_a0 (by decide) rfl rfl hl.1 rfl (Nat.le_of_ble_eq_true rfl) dX12_compare_170) rfl rfl (fun H locs M511 R512 J510 hS f508 g509 E513 => ?_)
                have eR512 := Fr.nil g509 rfl
                subst eR512
                have p514 := E513
                clear E513
                obtain ⟨x515, x517, zc514, zd514, zo514, k518, h516, zl514⟩ := p514
                have k518 : M511 lg tq.toNatClampNeg = x517 := k518
                have zt514 := ti_cl (x := tq) (by have := h_tq.1; omega); have zn514 := ti_cl (x := x498) (by have := (h496).1; omega); have zm514 := ti_cl (x := x517) (by have := (h516).1; omega)
                have q519 : (10 : Int32).toInt = 10 := (by decide)
                have q520 : (0 : Int32).toInt = 0 := (by decide)
                have k521 : M511 a0 17 = x499 := (Fr.kp (k := 17) f508 hk_a0 rfl).trans k501
                have zs514 := stp_two (h := sh + 2) (show x515.toInt = (10 : Int32).toInt + 16 * 0 by omega) (by have := ((iv_c (c := 10) (n := 10) (by decide))).1; have := ((iv_c (c := 10) (n := 10) (by decide))).2; have := ((iv_c (c := 0) (n := 0) (by decide))).1; have := ((iv_c (c := 0) (n := 0) (by decide))).2; omega) (by omega)
                have z522 : SEG M511 sg tq.toNatClampNeg sb x517.toNatClampNeg (sh + 1) := SEG.cast (SEG.ext z505 (by omega) zd514 zo514 zs514) (by omega) (by omega)
                have zw514 := ti_cl (x := le) (by have := h_le.1; omega)
                have z523 : ∀ j, j < 400 * tq.toNatClampNeg + le.toNatClampNeg → M511 sg j = Ma sg j := fun j hj => (zo514 j (by omega)).trans (z491 j hj)
                refine lv_iconst (v := 1) hx hb dX12_compare_173 (by decide) ?_
                have k524 : M511 a0 13 = x489 := (Fr.kp (k := 13) f508 hk_a0 rfl).trans k490
                have q525 : nx.toInt ≤ x489.toInt ∧ x489.toInt ≤ tp.toInt := by
                  have := (h_le).1; have := (h_le).2; have := (h_md).1; have := (h_md).2; have := (h_nx).1; have := (h_nx).2; have := (h_tp).1; have := (h_tp).2; have := (h_tq).1; have := (h_tq).2; have := (h14).1; have := (h14).2; have := (h22).1; have := (h22).2; have := (h436).1; have := (h436).2; have := (h42).1; have := (h42).2; have := (h442).1; have := (h442).2; have := (h488).1; have := (h488).2; have := (h496).1; have := (h496).2; have := (h516).1; have := (h516).2; exact ⟨by omega, by omega⟩
                have q526 : le.toInt ≤ x517.toInt ∧ x517.toInt - le.toInt ≤ x489.toInt - nx.toInt ∧ ((sh + 1 : Nat) : Int) ≤ x499.toInt := by
                  have := (h_le).1; have := (h_le).2; have := (h_md).1; have := (h_md).2; have := (h_nx).1; have := (h_nx).2; have := (h_tp).1; have := (h_tp).2; have := (h_tq).1; have := (h_tq).2; have := (h14).1; have := (h14).2; have := (h22).1; have := (h22).2; have := (h436).1; have := (h436).2; have := (h42).1; have := (h42).2; have := (h442).1; have := (h442).2; have := (h488).1; have := (h488).2; have := (h496).1; have := (h496).2; have := (h497).1; have := (h497).2; have := (h516).1; have := (h516).2; exact ⟨by omega, by omega, by omega⟩
                exact tw_endz hx hb hr hlocks hK hT hS hQ rfl (⟨(iv_mono (iv_c (c := 1) (n := 1) (by decide)) (by decide) (by decide)), ⟨z523, ⟨x489, k524, h488, q525.1, q525.2⟩, fun _ => ⟨x489, x517, x499, k524, k518, k521, (iv_mono h516 (by decide) (by decide)), q526.1, q526.2.1, q526.2.2, z522⟩⟩, (fun h => absurd h (by decide))⟩) dX12_compare_174
              · have q527 : x485.toInt = 0 := ti_eq c493
                have z528 := z492 c493
                have h529 : iv 0 0 x485 := ⟨by have := (h_x485).1; have := ((iv_c (c := 0) (n := 0) (by decide))).1; omega, by have := (h_x485).2; have := ((iv_c (c := 0) (n := 0) (by decide))).2; omega⟩
                refine lv_iconst (v := 0) hx hb dX12_compare_161 (by decide) ?_
                have q530 : nx.toInt ≤ x489.toInt ∧ x489.toInt ≤ tp.toInt := by
                  have := (h_le).1; have := (h_le).2; have := (h_md).1; have := (h_md).2; have := (h_nx).1; have := (h_nx).2; have := (h_tp).1; have := (h_tp).2; have := (h_tq).1; have := (h_tq).2; have := (h14).1; have := (h14).2; have := (h22).1; have := (h22).2; have := (h436).1; have := (h436).2; have := (h42).1; have := (h42).2; have := (h442).1; have := (h442).2; have := (h488).1; have := (h488).2; exact ⟨by omega, by omega⟩
                exact tw_endz hx hb hr hlocks hK hT hS hQ rfl (⟨(iv_mono (iv_c (c := 0) (n := 0) (by decide)) (by decide) (by decide)), ⟨z491, ⟨x489, k490, h488, q530.1, q530.2⟩, (fun h => absurd rfl h)⟩, (fun _ => (show ¬ (M482 a0 14).toInt = 0 from z528))⟩) dX12_compare_162
            · have q531 : x456.toInt = 0 := ti_eq c464
              have z532 := z463 c464
              have h533 : iv 0 0 x456 := ⟨by have := (h_x456).1; have := ((iv_c (c := 0) (n := 0) (by decide))).1; omega, by have := (h_x456).2; have := ((iv_c (c := 0) (n := 0) (by decide))).2; omega⟩
              refine lv_iconst (v := 0) hx hb dX12_compare_113 (by decide) ?_
              have k534 : M453 a0 13 = x439 := (Fr.kp (k := 13) f450 hk_a0 rfl).trans k440
              have q535 : nx.toInt ≤ x439.toInt ∧ x439.toInt ≤ tp.toInt := by
                have := (h_le).1; have := (h_le).2; have := (h_md).1; have := (h_md).2; have := (h_nx).1; have := (h_nx).2; have := (h_tp).1; have := (h_tp).2; have := (h_tq).1; have := (h_tq).2; have := (h14).1; have := (h14).2; have := (h22).1; have := (h22).2; have := (h436).1; have := (h436).2; have := (h42).1; have := (h42).2; have := (h442).1; have := (h442).2; exact ⟨by omega, by omega⟩
              exact tw_endz hx hb hr hlocks hK hT hS hQ rfl (⟨(iv_mono (iv_c (c := 0) (n := 0) (by decide)) (by decide) (by decide)), ⟨(fun j hj => (Fr.kpa f450 hk_sg rfl j).trans ((fun j hj => (Fr.kpa f441 hk_sg rfl j).trans ((fun j hj => (Fr.kpa f33 hk_sg rfl j).trans (z17 j hj)) j hj)) j hj)), ⟨x439, k534, h442, q535.1, q535.2⟩, (fun h => absurd rfl h)⟩, (fun _ => (show ¬ (M453 a0 14).toInt = 0 from z532))⟩) dX12_compare_114
          · have q536 : x439.toInt < tp.toInt := ti_nle c447
            have h537 : iv 0 399 x439 := iv_ltL (y := tp) h442 h_tp q536 (by decide)
            have h538 : iv 1 400 tp := iv_gtL (y := x439) h_tp h442 q536 (by decide)
            refine lv_aload_n hx hb dX12_compare_71 rfl (lv_at hl 2 rfl) ?_
            refine tw_getrk hx hb hW hown hK hS f_X12_7_11 hz_a0 hk_a0 (b := tb) k_tb dX12_compare_72 ?_
            refine lv_aload_n hx hb dX12_compare_75 rfl (lv_at hl 2 rfl) ?_
            refine tw_getk hx hb hW hown hK hS f_X12_127_11 hz_a0 hk_a0 (v := x439) k440 dX12_compare_76 ?_
            refine tw_bald hx hb hK hS hz_tb hk_tb hn_tb h537 ⟨by decide, by decide⟩ dX12_compare_79 (fun x541 k540 => ?_)
            have h539 := iv_any x541
            refine lv_bipush (v := 61) hx hb dX12_compare_80 (by decide) ?_
            refine lv_icmp_ne (tgt := 89) hx hb dX12_compare_82 (by decide) (fun c542 => ?_) (fun c542 => ?_)
            · have q543 : ¬ x541.toInt = 61 := ti_ne c542
              refine lv_iconst (v := 0) hx hb dX12_compare_89 (by decide) ?_
              refine lv_istore_n (lv' := [(3, .int 0), (2, .int x43), (1, .int x39), (0, .ref (base + a0))]) hx hb dX12_compare_90 rfl hl (by decide) rfl (fun ls hl => ?_)
              refine lv_iload_n hx hb dX12_compare_91 rfl (lv_at hl 0 rfl) ?_
              refine lv_if_eq (tgt := 105) hx hb dX12_compare_92 (by decide) (fun _ => ?_) (fun h => absurd h (by decide))
              refine lv_aload_n hx hb dX12_compare_105 rfl (lv_at hl 3 rfl) ?_
              refine lv_iload_n hx hb dX12_compare_106 rfl (lv_at hl 1 rfl) ?_
              have k544 : M443 a0 17 = x25 := ((Fr.kp (k := 17) f441 hk_a0 rfl).trans (Fr.kp (k := 17) f33 hk_a0 rfl)).trans k27
              refine tw_goi hS (md_runV (As := [.int x43]) (rest := []) hx hb hml hown hW hK hT hS.1 (t_X12_makes l D cy tx base Z K N M443 Ra J35 hS.2.1 a0 hz_a0 hk_a0 x43 h42 x25 k544 (iv_mono h23 (by decide) (by decide))) s_X12_203 ⟨rfl, rfl, ⟨Nat.le_of_ble_eq_true rfl, Nat.le_of_ble_eq_true rfl⟩, ⟨Nat.le_of_ble_eq_true rfl, Nat.le_of_ble_eq_true rfl⟩⟩ hz_a0 hk_a0 (by decide) rfl rfl hl.1 rfl (Nat.le_of_ble_eq_true rfl) dX12_compare_107) rfl rfl (fun x551 H locs M548 R549 J547 hS f545 g546 E550 => ?_)
              have eR549 := Fr.nil g546 rfl
              subst eR549
              obtain ⟨h_x551, p552, p553⟩ := E550
              obtain ⟨x555, k556, h554, q557⟩ := p552
              have k556 : M548 a0 17 = x555 := k556
              have z558 : x551 = 0 → ¬ (M548 a0 14).toInt = 0 := p553
              refine lv_if_ne (tgt := 115) hx hb dX12_compare_110 (by decide) (fun c559 => ?_) (fun c559 => ?_)
              · have q560 : ¬ x551.toInt = 0 := ti_ne c559
                have h561 : iv 1 1 x551 := ⟨by have := (h_x551).1; have := ((iv_c (c := 0) (n := 0) (by decide))).1; have := ((iv_c (c := 0) (n := 0) (by decide))).2; omega, by have := (h_x551).2; have := ((iv_c (c := 0) (n := 0) (by decide))).1; have := ((iv_c (c := 0) (n := 0) (by decide))).2; omega⟩
                refine lv_iload_n hx hb dX12_compare_115 rfl (lv_at hl 2 rfl) ?_
                refine lv_bipush (v := 60) hx hb dX12_compare_116 (by decide) ?_
                refine lv_icmp_ne (tgt := 133) hx hb dX12_compare_118 (by decide) (fun c562 => ?_) (fun c562 => False.elim (by have q : x39.toInt = 60 := ti_eq c562; have := (h436).1; have := (h436).2; omega))
                have q563 : ¬ x39.toInt = 60 := ti_ne c562
                refine lv_iload_n hx hb dX12_compare_133 rfl (lv_at hl 2 rfl) ?_
                refine lv_bipush (v := 61) hx hb dX12_compare_134 (by decide) ?_
                refine lv_icmp_ne (tgt := 143) hx hb dX12_compare_136 (by decide) (fun c564 => ?_) (fun c564 => False.elim (by have q : x39.toInt = 61 := ti_eq c564; have := (h436).1; have := (h436).2; omega))
                have q565 : ¬ x39.toInt = 61 := ti_ne c564
                refine lv_iload_n hx hb dX12_compare_143 rfl (lv_at hl 0 rfl) ?_
                refine lv_if_eq (tgt := 151) hx hb dX12_compare_144 (by decide) (fun _ => ?_) (fun h => absurd h (by decide))
                refine lv_iconst (v := 4) hx hb dX12_compare_151 (by decide) ?_
                refine lv_istore (lv' := [(4, .int 4), (3, .int 0), (2, .int x43), (1, .int x39), (0, .ref (base + a0))]) hx hb dX12_compare_152 hl (by decide) rfl (fun ls hl => ?_)
                refine lv_aload_n hx hb dX12_compare_154 rfl (lv_at hl 4 rfl) ?_
                have k566 : M548 a0 13 = x439 := (Fr.kp (k := 13) f545 hk_a0 rfl).trans k440
                have k567 : M548 a0 1 = tp := ((Fr.kp (k := 1) f545 hk_a0 rfl).trans ((Fr.kp (k := 1) f441 hk_a0 rfl).trans ((Fr.kp (k := 1) f33 hk_a0 rfl).trans (Fr.kp (k := 1) f5 hk_a0 rfl)))).trans k_tp
                have q568 : x439.toInt ≤ tp.toInt := by
                  have := (h_le).1; have := (h_le).2; have := (h_md).1; have := (h_md).2; have := (h_nx).1; have := (h_nx).2; have := (h538).1; have := (h538).2; have := (h_tq).1; have := (h_tq).2; have := (h14).1; have := (h14).2; have := (h22).1; have := (h22).2; have := (h436).1; have := (h436).2; have := (h42).1; have := (h42).2; have := (h537).1; have := (h537).2; omega
                have k569 : M548 a0 16 = tq := ((Fr.kp (k := 16) f545 hk_a0 rfl).trans ((Fr.kp (k := 16) f441 hk_a0 rfl).trans ((Fr.kp (k := 16) f33 hk_a0 rfl).trans (Fr.kp (k := 16) f5 hk_a0 rfl)))).trans k_tq
                have k570 : M548 lg tq.toNatClampNeg = x24 := ((Fr.kpa f545 hk_lg rfl tq.toNatClampNeg).trans ((Fr.kpa f441 hk_lg rfl tq.toNatClampNeg).trans (Fr.kpa f33 hk_lg rfl tq.toNatClampNeg))).trans k26
                have q571 : ((sb : Nat) : Int) ≤ x24.toInt := by
                  have := (h_le).1; have := (h_le).2; have := (h_md).1; have := (h_md).2; have := (h_nx).1; have := (h_nx).2; have := (h538).1; have := (h538).2; have := (h_tq).1; have := (h_tq).2; have := (h14).1; have := (h14).2; have := (h22).1; have := (h22).2; have := (h42).1; have := (h42).2; omega
                have q572 : ((sh + 1 : Nat) : Int) ≤ x555.toInt := by
                  have := (h_le).1; have := (h_le).2; have := (h_md).1; have := (h_md).2; have := (h_nx).1; have := (h_nx).2; have := (h538).1; have := (h538).2; have := (h_tq).1; have := (h_tq).2; have := (h23).1; have := (h23).2; have := (h554).1; have := (h554).2; omega
                have q573 : x24.toInt ≤ x439.toInt := by
                  have := (h_le).1; have := (h_le).2; have := (h_md).1; have := (h_md).2; have := (h_nx).1; have := (h_nx).2; have := (h538).1; have := (h538).2; have := (h_tq).1; have := (h_tq).2; have := (h14).1; have := (h14).2; have := (h22).1; have := (h22).2; have := (h436).1; have := (h436).2; have := (h42).1; have := (h42).2; have := (h537).1; have := (h537).2; omega
                refine tw_goi hS (md_runV (As := []) (rest := []) hx hb hml hown hW hK hT hS.1 (t_X12_sum l D cy tx base Z K N M548 Ra J547 hS.2.1 a0 hz_a0 hk_a0 tb k_tb x439 k566 (iv_mono h537 (by decide) (by decide)) tp k567 (iv_mono h538 (by decide) (by decide)) q568 lg k_lg sg k_sg tq k569 (iv_mono h_tq (by decide) (by decide)) x24 k570 (iv_mono h22 (by decide) (by decide)) x555 k556 (iv_mono h554 (by decide) (by decide)) (sb) (sh + 1) (SEG.to (SEG.to (SEG.to z30 (fun j _ _ => Fr.kpa f33 hk_sg rfl j)) (fun j _ _ => Fr.kpa f441 hk_sg rfl j)) (fun j _ _ => Fr.kpa f545 hk_sg rfl j)) q571 q572 q573) s_X12_216 ⟨rfl, rfl, ⟨Nat.le_of_ble_eq_true rfl, Nat.le_of_ble_eq_true rfl⟩, ⟨Nat.le_of_ble_eq_true rfl, Nat.le_of_ble_eq_true rfl⟩⟩ hz_a0 hk_a0 (by decide) rfl rfl hl.1 rfl (Nat.le_of_ble_eq_true rfl) dX12_compare_155) rfl rfl (fun x580 H locs M577 R578 J576 hS f574 g575 E579 => ?_)
                have eR578 := Fr.nil g575 rfl
                subst eR578
                obtain ⟨h_x580, p581, p582⟩ := E579
                obtain ⟨zf582, ⟨x584, k585, h583, zu582, zv582⟩, zc582⟩ := p581
                have k585 : M577 a0 13 = x584 := k585
                have zw582 := ti_cl (x := le) (by have := h_le.1; omega); have zy582 := ti_cl (x := x24) (by have := (h22).1; omega)
                have z586 : ∀ j, j < 400 * tq.toNatClampNeg + le.toNatClampNeg → M577 sg j = Ma sg j := fun j hj => (zf582 j (by omega)).trans ((fun j hj => (Fr.kpa f545 hk_sg rfl j).trans ((fun j hj => (Fr.kpa f441 hk_sg rfl j).trans ((fun j hj => (Fr.kpa f33 hk_sg rfl j).trans (z17 j hj)) j hj)) j hj)) j hj)
                have z587 : x580 = 0 → ¬ (M577 a0 14).toInt = 0 := p582
                refine lv_if_ne (tgt := 163) hx hb dX12_compare_158 (by decide) (fun c588 => ?_) (fun c588 => ?_)
                · have q589 : ¬ x580.toInt = 0 := ti_ne c588
                  have h590 : iv 1 1 x580 := ⟨by have := (h_x580).1; have := ((iv_c (c := 0) (n := 0) (by decide))).1; have := ((iv_c (c := 0) (n := 0) (by decide))).2; omega, by have := (h_x580).2; have := ((iv_c (c := 0) (n := 0) (by decide))).1; have := ((iv_c (c := 0) (n := 0) (by decide))).2; omega⟩
                  obtain ⟨x597, x593, x594, k598, k595, k596, h591, za590, zb590, zd590, z599⟩ := zc582 c588
                  have ze590 : x597 = x584 := k598.symm.trans k585
                  rw [ze590] at zb590
                  have k595 : M577 lg tq.toNatClampNeg = x593 := k595
                  have k596 : M577 a0 17 = x594 := k596
                  have h592 : iv 0 60 x594 := by rw [← k596]; exact hS.2.1.int hz_a0 hk_a0 (show rgI 12 17 = (0, 60) from rfl)
                  have z600 : SEG M577 sg tq.toNatClampNeg sb x593.toNatClampNeg (sh + 2) := SEG.cast z599 rfl (by omega)
                  refine lv_aload_n hx hb dX12_compare_163 rfl (lv_at hl 4 rfl) ?_
                  refine lv_bipush (v := 6) hx hb dX12_compare_164 (by decide) ?_
                  refine lv_iload hx hb dX12_compare_166 (lv_at hl 0 rfl) ?_
                  refine lv_iadd hx hb dX12_compare_168 ?_
                  refine md_top (y := 10) (by decide) ?_
                  refine lv_iconst (v := 0) hx hb dX12_compare_169 (by decide) ?_
                  have k601 : M577 a0 16 = tq := ((Fr.kp (k := 16) f574 hk_a0 rfl).trans ((Fr.kp (k := 16) f545 hk_a0 rfl).trans ((Fr.kp (k := 16) f441 hk_a0 rfl).trans ((Fr.kp (k := 16) f33 hk_a0 rfl).trans (Fr.kp (k := 16) f5 hk_a0 rfl))))).trans k_tq
                  have h602 : iv 0 399 x593 := by
                    have := (h_le).1; have := (h_le).2; have := (h_md).1; have := (h_md).2; have := (h_nx).1; have := (h_nx).2; have := (h538).1; have := (h538).2; have := (h_tq).1; have := (h_tq).2; have := (h14).1; have := (h14).2; have := (h22).1; have := (h22).2; have := (h436).1; have := (h436).2; have := (h42).1; have := (h42).2; have := (h537).1; have := (h537).2; have := (h583).1; have := (h583).2; have := (h591).1; have := (h591).2; exact ⟨by omega, by omega⟩
                  refine tw_gov hS (md_runV (As := [.int 10, .int 0]) (rest := []) hx hb hml hown hW hK hT hS.1 (t_X12_puts l D cy tx base Z K N M577 Ra J576 hS.2.1 a0 hz_a0 hk_a0 10 (iv_mono (iv_c (c := 10) (n := 10) (by decide)) (by decide) (by decide)) 0 (iv_mono (iv_c (c := 0) (n := 0) (by decide)) (by decide) (by decide)) sg k_sg lg k_lg tq k601 (iv_mono h_tq (by decide) (by decide)) x593 k595 h602) s_X12_195 ⟨rfl, rfl, ⟨Nat.le_of_ble_eq_true rfl, Nat.le_of_ble_eq_true rfl⟩, ⟨Nat.le_of_ble_eq_true rfl, Nat.le_of_ble_eq_true rfl⟩⟩ hz_a0 hk_a0 (by decide) rfl rfl hl.1 rfl (Nat.le_of_ble_eq_true rfl) dX12_compare_170) rfl rfl (fun H locs M606 R607 J605 hS f603 g604 E608 => ?_)
                  have eR607 := Fr.nil g604 rfl
                  subst eR607
                  have p609 := E608
                  clear E608
                  obtain ⟨x610, x612, zc609, zd609, zo609, k613, h611, zl609⟩ := p609
                  have k613 : M606 lg tq.toNatClampNeg = x612 := k613
                  have zt609 := ti_cl (x := tq) (by have := h_tq.1; omega); have zn609 := ti_cl (x := x593) (by have := (h591).1; omega); have zm609 := ti_cl (x := x612) (by have := (h611).1; omega)
                  have q614 : (10 : Int32).toInt = 10 := (by decide)
                  have q615 : (0 : Int32).toInt = 0 := (by decide)
                  have k616 : M606 a0 17 = x594 := (Fr.kp (k := 17) f603 hk_a0 rfl).trans k596
                  have zs609 := stp_two (h := sh + 2) (show x610.toInt = (10 : Int32).toInt + 16 * 0 by omega) (by have := ((iv_c (c := 10) (n := 10) (by decide))).1; have := ((iv_c (c := 10) (n := 10) (by decide))).2; have := ((iv_c (c := 0) (n := 0) (by decide))).1; have := ((iv_c (c := 0) (n := 0) (by decide))).2; omega) (by omega)
                  have z617 : SEG M606 sg tq.toNatClampNeg sb x612.toNatClampNeg (sh + 1) := SEG.cast (SEG.ext z600 (by omega) zd609 zo609 zs609) (by omega) (by omega)
                  have zw609 := ti_cl (x := le) (by have := h_le.1; omega)
                  have z618 : ∀ j, j < 400 * tq.toNatClampNeg + le.toNatClampNeg → M606 sg j = Ma sg j := fun j hj => (zo609 j (by omega)).trans (z586 j hj)
                  refine lv_iconst (v := 1) hx hb dX12_compare_173 (by decide) ?_
                  have k619 : M606 a0 13 = x584 := (Fr.kp (k := 13) f603 hk_a0 rfl).trans k585
                  have q620 : nx.toInt ≤ x584.toInt ∧ x584.toInt ≤ tp.toInt := by
                    have := (h_le).1; have := (h_le).2; have := (h_md).1; have := (h_md).2; have := (h_nx).1; have := (h_nx).2; have := (h538).1; have := (h538).2; have := (h_tq).1; have := (h_tq).2; have := (h14).1; have := (h14).2; have := (h22).1; have := (h22).2; have := (h436).1; have := (h436).2; have := (h42).1; have := (h42).2; have := (h537).1; have := (h537).2; have := (h583).1; have := (h583).2; have := (h591).1; have := (h591).2; have := (h611).1; have := (h611).2; exact ⟨by omega, by omega⟩
                  have q621 : le.toInt ≤ x612.toInt ∧ x612.toInt - le.toInt ≤ x584.toInt - nx.toInt ∧ ((sh + 1 : Nat) : Int) ≤ x594.toInt := by
                    have := (h_le).1; have := (h_le).2; have := (h_md).1; have := (h_md).2; have := (h_nx).1; have := (h_nx).2; have := (h538).1; have := (h538).2; have := (h_tq).1; have := (h_tq).2; have := (h14).1; have := (h14).2; have := (h22).1; have := (h22).2; have := (h436).1; have := (h436).2; have := (h42).1; have := (h42).2; have := (h537).1; have := (h537).2; have := (h583).1; have := (h583).2; have := (h591).1; have := (h591).2; have := (h592).1; have := (h592).2; have := (h611).1; have := (h611).2; exact ⟨by omega, by omega, by omega⟩
                  exact tw_endz hx hb hr hlocks hK hT hS hQ rfl (⟨(iv_mono (iv_c (c := 1) (n := 1) (by decide)) (by decide) (by decide)), ⟨z618, ⟨x584, k619, h583, q620.1, q620.2⟩, fun _ => ⟨x584, x612, x594, k619, k613, k616, (iv_mono h611 (by decide) (by decide)), q621.1, q621.2.1, q621.2.2, z617⟩⟩, (fun h => absurd h (by decide))⟩) dX12_compare_174
                · have q622 : x580.toInt = 0 := ti_eq c588
                  have z623 := z587 c588
                  have h624 : iv 0 0 x580 := ⟨by have := (h_x580).1; have := ((iv_c (c := 0) (n := 0) (by decide))).1; omega, by have := (h_x580).2; have := ((iv_c (c := 0) (n := 0) (by decide))).2; omega⟩
                  refine lv_iconst (v := 0) hx hb dX12_compare_161 (by decide) ?_
                  have q625 : nx.toInt ≤ x584.toInt ∧ x584.toInt ≤ tp.toInt := by
                    have := (h_le).1; have := (h_le).2; have := (h_md).1; have := (h_md).2; have := (h_nx).1; have := (h_nx).2; have := (h538).1; have := (h538).2; have := (h_tq).1; have := (h_tq).2; have := (h14).1; have := (h14).2; have := (h22).1; have := (h22).2; have := (h436).1; have := (h436).2; have := (h42).1; have := (h42).2; have := (h537).1; have := (h537).2; have := (h583).1; have := (h583).2; exact ⟨by omega, by omega⟩
                  exact tw_endz hx hb hr hlocks hK hT hS hQ rfl (⟨(iv_mono (iv_c (c := 0) (n := 0) (by decide)) (by decide) (by decide)), ⟨z586, ⟨x584, k585, h583, q625.1, q625.2⟩, (fun h => absurd rfl h)⟩, (fun _ => (show ¬ (M577 a0 14).toInt = 0 from z623))⟩) dX12_compare_162
              · have q626 : x551.toInt = 0 := ti_eq c559
                have z627 := z558 c559
                have h628 : iv 0 0 x551 := ⟨by have := (h_x551).1; have := ((iv_c (c := 0) (n := 0) (by decide))).1; omega, by have := (h_x551).2; have := ((iv_c (c := 0) (n := 0) (by decide))).2; omega⟩
                refine lv_iconst (v := 0) hx hb dX12_compare_113 (by decide) ?_
                have k629 : M548 a0 13 = x439 := (Fr.kp (k := 13) f545 hk_a0 rfl).trans k440
                have q630 : nx.toInt ≤ x439.toInt ∧ x439.toInt ≤ tp.toInt := by
                  have := (h_le).1; have := (h_le).2; have := (h_md).1; have := (h_md).2; have := (h_nx).1; have := (h_nx).2; have := (h538).1; have := (h538).2; have := (h_tq).1; have := (h_tq).2; have := (h14).1; have := (h14).2; have := (h22).1; have := (h22).2; have := (h436).1; have := (h436).2; have := (h42).1; have := (h42).2; have := (h537).1; have := (h537).2; exact ⟨by omega, by omega⟩
                exact tw_endz hx hb hr hlocks hK hT hS hQ rfl (⟨(iv_mono (iv_c (c := 0) (n := 0) (by decide)) (by decide) (by decide)), ⟨(fun j hj => (Fr.kpa f545 hk_sg rfl j).trans ((fun j hj => (Fr.kpa f441 hk_sg rfl j).trans ((fun j hj => (Fr.kpa f33 hk_sg rfl j).trans (z17 j hj)) j hj)) j hj)), ⟨x439, k629, (iv_mono h537 (by decide) (by decide)), q630.1, q630.2⟩, (fun h => absurd rfl h)⟩, (fun _ => (show ¬ (M548 a0 14).toInt = 0 from z627))⟩) dX12_compare_114
            · have q631 : x541.toInt = 61 := ti_eq c542
              have h632 : iv 61 61 x541 := ⟨by have := (h539).1; have := ((iv_c (c := 61) (n := 61) (by decide))).1; omega, by have := (h539).2; have := ((iv_c (c := 61) (n := 61) (by decide))).2; omega⟩
              refine lv_iconst (v := 1) hx hb dX12_compare_85 (by decide) ?_
              refine lv_goto (tgt := 90) hx hb dX12_compare_86 (by decide) ?_
              refine lv_istore_n (lv' := [(3, .int 1), (2, .int x43), (1, .int x39), (0, .ref (base + a0))]) hx hb dX12_compare_90 rfl hl (by decide) rfl (fun ls hl => ?_)
              refine lv_iload_n hx hb dX12_compare_91 rfl (lv_at hl 0 rfl) ?_
              refine lv_if_eq (tgt := 105) hx hb dX12_compare_92 (by decide) (fun h => absurd h (by decide)) (fun _ => ?_)
              refine lv_aload_n hx hb dX12_compare_95 rfl (lv_at hl 3 rfl) ?_
              refine lv_dup hx hb dX12_compare_96 rfl ?_
              refine tw_getk hx hb hW hown hK hS f_X12_127_11 hz_a0 hk_a0 (v := x439) k440 dX12_compare_97 ?_
              refine lv_iconst (v := 1) hx hb dX12_compare_100 (by decide) ?_
              refine tw_iadd (lo := 1) (hi := 400) hx hb h537 (iv_c (c := 1) (n := 1) (by decide)) ⟨by decide, by decide⟩ ⟨by decide, by decide⟩ dX12_compare_101 (fun x635 e634 h633 => ?_)
              have e634 : x635.toInt = x439.toInt + 1 := e634
              refine tw_puti hx hb hW hown hK hS f_X12_127_11 hz_a0 hk_a0 rfl rfl (lo := 0) (hi := 400) rfl (iv_mono h633 (by decide) (by decide)) rfl dX12_compare_102 (fun H locs M638 hS k636 f637 => ?_)
              refine lv_aload_n hx hb dX12_compare_105 rfl (lv_at hl 3 rfl) ?_
              refine lv_iload_n hx hb dX12_compare_106 rfl (lv_at hl 1 rfl) ?_
              have k639 : M638 a0 17 = x25 := ((Fr.kp (k := 17) f637 hk_a0 rfl).trans ((Fr.kp (k := 17) f441 hk_a0 rfl).trans (Fr.kp (k := 17) f33 hk_a0 rfl))).trans k27
              refine tw_goi hS (md_runV (As := [.int x43]) (rest := []) hx hb hml hown hW hK hT hS.1 (t_X12_makes l D cy tx base Z K N M638 Ra J35 hS.2.1 a0 hz_a0 hk_a0 x43 h42 x25 k639 (iv_mono h23 (by decide) (by decide))) s_X12_203 ⟨rfl, rfl, ⟨Nat.le_of_ble_eq_true rfl, Nat.le_of_ble_eq_true rfl⟩, ⟨Nat.le_of_ble_eq_true rfl, Nat.le_of_ble_eq_true rfl⟩⟩ hz_a0 hk_a0 (by decide) rfl rfl hl.1 rfl (Nat.le_of_ble_eq_true rfl) dX12_compare_107) rfl rfl (fun x646 H locs M643 R644 J642 hS f640 g641 E645 => ?_)
              have eR644 := Fr.nil g641 rfl
              subst eR644
              obtain ⟨h_x646, p647, p648⟩ := E645
              obtain ⟨x650, k651, h649, q652⟩ := p647
              have k651 : M643 a0 17 = x650 := k651
              have z653 : x646 = 0 → ¬ (M643 a0 14).toInt = 0 := p648
              refine lv_if_ne (tgt := 115) hx hb dX12_compare_110 (by decide) (fun c654 => ?_) (fun c654 => ?_)
              · have q655 : ¬ x646.toInt = 0 := ti_ne c654
                have h656 : iv 1 1 x646 := ⟨by have := (h_x646).1; have := ((iv_c (c := 0) (n := 0) (by decide))).1; have := ((iv_c (c := 0) (n := 0) (by decide))).2; omega, by have := (h_x646).2; have := ((iv_c (c := 0) (n := 0) (by decide))).1; have := ((iv_c (c := 0) (n := 0) (by decide))).2; omega⟩
                refine lv_iload_n hx hb dX12_compare_115 rfl (lv_at hl 2 rfl) ?_
                refine lv_bipush (v := 60) hx hb dX12_compare_116 (by decide) ?_
                refine lv_icmp_ne (tgt := 133) hx hb dX12_compare_118 (by decide) (fun c657 => ?_) (fun c657 => False.elim (by have q : x39.toInt = 60 := ti_eq c657; have := (h436).1; have := (h436).2; omega))
                have q658 : ¬ x39.toInt = 60 := ti_ne c657
                refine lv_iload_n hx hb dX12_compare_133 rfl (lv_at hl 2 rfl) ?_
                refine lv_bipush (v := 61) hx hb dX12_compare_134 (by decide) ?_
                refine lv_icmp_ne (tgt := 143) hx hb dX12_compare_136 (by decide) (fun c659 => ?_) (fun c659 => False.elim (by have q : x39.toInt = 61 := ti_eq c659; have := (h436).1; have := (h436).2; omega))
                have q660 : ¬ x39.toInt = 61 := ti_ne c659
                refine lv_iload_n hx hb dX12_compare_143 rfl (lv_at hl 0 rfl) ?_
                refine lv_if_eq (tgt := 151) hx hb dX12_compare_144 (by decide) (fun h => absurd h (by decide)) (fun _ => ?_)
                refine lv_iconst (v := 3) hx hb dX12_compare_147 (by decide) ?_
                refine lv_goto (tgt := 152) hx hb dX12_compare_148 (by decide) ?_
                refine lv_istore (lv' := [(4, .int 3), (3, .int 1), (2, .int x43), (1, .int x39), (0, .ref (base + a0))]) hx hb dX12_compare_152 hl (by decide) rfl (fun ls hl => ?_)
                refine lv_aload_n hx hb dX12_compare_154 rfl (lv_at hl 4 rfl) ?_
                have k661 : M643 a0 13 = x635 := (Fr.kp (k := 13) f640 hk_a0 rfl).trans k636
                have k662 : M643 a0 1 = tp := ((Fr.kp (k := 1) f640 hk_a0 rfl).trans ((Fr.kp (k := 1) f637 hk_a0 rfl).trans ((Fr.kp (k := 1) f441 hk_a0 rfl).trans ((Fr.kp (k := 1) f33 hk_a0 rfl).trans (Fr.kp (k := 1) f5 hk_a0 rfl))))).trans k_tp
                have q663 : x635.toInt ≤ tp.toInt := by
                  have := (h_le).1; have := (h_le).2; have := (h_md).1; have := (h_md).2; have := (h_nx).1; have := (h_nx).2; have := (h538).1; have := (h538).2; have := (h_tq).1; have := (h_tq).2; have := (h14).1; have := (h14).2; have := (h22).1; have := (h22).2; have := (h436).1; have := (h436).2; have := (h42).1; have := (h42).2; have := (h537).1; have := (h537).2; have := (h633).1; have := (h633).2; omega
                have k664 : M643 a0 16 = tq := ((Fr.kp (k := 16) f640 hk_a0 rfl).trans ((Fr.kp (k := 16) f637 hk_a0 rfl).trans ((Fr.kp (k := 16) f441 hk_a0 rfl).trans ((Fr.kp (k := 16) f33 hk_a0 rfl).trans (Fr.kp (k := 16) f5 hk_a0 rfl))))).trans k_tq
                have k665 : M643 lg tq.toNatClampNeg = x24 := ((Fr.kpa f640 hk_lg rfl tq.toNatClampNeg).trans ((Fr.kpa f637 hk_lg rfl tq.toNatClampNeg).trans ((Fr.kpa f441 hk_lg rfl tq.toNatClampNeg).trans (Fr.kpa f33 hk_lg rfl tq.toNatClampNeg)))).trans k26
                have q666 : ((sb : Nat) : Int) ≤ x24.toInt := by
                  have := (h_le).1; have := (h_le).2; have := (h_md).1; have := (h_md).2; have := (h_nx).1; have := (h_nx).2; have := (h538).1; have := (h538).2; have := (h_tq).1; have := (h_tq).2; have := (h14).1; have := (h14).2; have := (h22).1; have := (h22).2; have := (h42).1; have := (h42).2; omega
                have q667 : ((sh + 1 : Nat) : Int) ≤ x650.toInt := by
                  have := (h_le).1; have := (h_le).2; have := (h_md).1; have := (h_md).2; have := (h_nx).1; have := (h_nx).2; have := (h538).1; have := (h538).2; have := (h_tq).1; have := (h_tq).2; have := (h23).1; have := (h23).2; have := (h649).1; have := (h649).2; omega
                have q668 : x24.toInt ≤ x635.toInt := by
                  have := (h_le).1; have := (h_le).2; have := (h_md).1; have := (h_md).2; have := (h_nx).1; have := (h_nx).2; have := (h538).1; have := (h538).2; have := (h_tq).1; have := (h_tq).2; have := (h14).1; have := (h14).2; have := (h22).1; have := (h22).2; have := (h436).1; have := (h436).2; have := (h42).1; have := (h42).2; have := (h537).1; have := (h537).2; have := (h633).1; have := (h633).2; omega
                refine tw_goi hS (md_runV (As := []) (rest := []) hx hb hml hown hW hK hT hS.1 (t_X12_sum l D cy tx base Z K N M643 Ra J642 hS.2.1 a0 hz_a0 hk_a0 tb k_tb x635 k661 (iv_mono h633 (by decide) (by decide)) tp k662 (iv_mono h538 (by decide) (by decide)) q663 lg k_lg sg k_sg tq k664 (iv_mono h_tq (by decide) (by decide)) x24 k665 (iv_mono h22 (by decide) (by decide)) x650 k651 (iv_mono h649 (by decide) (by decide)) (sb) (sh + 1) (SEG.to (SEG.to (SEG.to (SEG.to z30 (fun j _ _ => Fr.kpa f33 hk_sg rfl j)) (fun j _ _ => Fr.kpa f441 hk_sg rfl j)) (fun j _ _ => Fr.kpa f637 hk_sg rfl j)) (fun j _ _ => Fr.kpa f640 hk_sg rfl j)) q666 q667 q668) s_X12_216 ⟨rfl, rfl, ⟨Nat.le_of_ble_eq_true rfl, Nat.le_of_ble_eq_true rfl⟩, ⟨Nat.le_of_ble_eq_true rfl, Nat.le_of_ble_eq_true rfl⟩⟩ hz_a0 hk_a0 (by decide) rfl rfl hl.1 rfl (Nat.le_of_ble_eq_true rfl) dX12_compare_155) rfl rfl (fun x675 H locs M672 R673 J671 hS f669 g670 E674 => ?_)
                have eR673 := Fr.nil g670 rfl
                subst eR673
                obtain ⟨h_x675, p676, p677⟩ := E674
                obtain ⟨zf677, ⟨x679, k680, h678, zu677, zv677⟩, zc677⟩ := p676
                have k680 : M672 a0 13 = x679 := k680
                have zw677 := ti_cl (x := le) (by have := h_le.1; omega); have zy677 := ti_cl (x := x24) (by have := (h22).1; omega)
                have z681 : ∀ j, j < 400 * tq.toNatClampNeg + le.toNatClampNeg → M672 sg j = Ma sg j := fun j hj => (zf677 j (by omega)).trans ((fun j hj => (Fr.kpa f640 hk_sg rfl j).trans ((fun j hj => (Fr.kpa f637 hk_sg rfl j).trans ((fun j hj => (Fr.kpa f441 hk_sg rfl j).trans ((fun j hj => (Fr.kpa f33 hk_sg rfl j).trans (z17 j hj)) j hj)) j hj)) j hj)) j hj)
                have z682 : x675 = 0 → ¬ (M672 a0 14).toInt = 0 := p677
                refine lv_if_ne (tgt := 163) hx hb dX12_compare_158 (by decide) (fun c683 => ?_) (fun c683 => ?_)
                · have q684 : ¬ x675.toInt = 0 := ti_ne c683
                  have h685 : iv 1 1 x675 := ⟨by have := (h_x675).1; have := ((iv_c (c := 0) (n := 0) (by decide))).1; have := ((iv_c (c := 0) (n := 0) (by decide))).2; omega, by have := (h_x675).2; have := ((iv_c (c := 0) (n := 0) (by decide))).1; have := ((iv_c (c := 0) (n := 0) (by decide))).2; omega⟩
                  obtain ⟨x692, x688, x689, k693, k690, k691, h686, za685, zb685, zd685, z694⟩ := zc677 c683
                  have ze685 : x692 = x679 := k693.symm.trans k680
                  rw [ze685] at zb685
                  have k690 : M672 lg tq.toNatClampNeg = x688 := k690
                  have k691 : M672 a0 17 = x689 := k691
                  have h687 : iv 0 60 x689 := by rw [← k691]; exact hS.2.1.int hz_a0 hk_a0 (show rgI 12 17 = (0, 60) from rfl)
                  have z695 : SEG M672 sg tq.toNatClampNeg sb x688.toNatClampNeg (sh + 2) := SEG.cast z694 rfl (by omega)
                  refine lv_aload_n hx hb dX12_compare_163 rfl (lv_at hl 4 rfl) ?_
                  refine lv_bipush (v := 6) hx hb dX12_compare_164 (by decide) ?_
                  refine lv_iload hx hb dX12_compare_166 (lv_at hl 0 rfl) ?_
                  refine lv_iadd hx hb dX12_compare_168 ?_
                  refine md_top (y := 9) (by decide) ?_
                  refine lv_iconst (v := 0) hx hb dX12_compare_169 (by decide) ?_
                  have k696 : M672 a0 16 = tq := ((Fr.kp (k := 16) f669 hk_a0 rfl).trans ((Fr.kp (k := 16) f640 hk_a0 rfl).trans ((Fr.kp (k := 16) f637 hk_a0 rfl).trans ((Fr.kp (k := 16) f441 hk_a0 rfl).trans ((Fr.kp (k := 16) f33 hk_a0 rfl).trans (Fr.kp (k := 16) f5 hk_a0 rfl)))))).trans k_tq
                  have h697 : iv 0 399 x688 := by
                    have := (h_le).1; have := (h_le).2; have := (h_md).1; have := (h_md).2; have := (h_nx).1; have := (h_nx).2; have := (h538).1; have := (h538).2; have := (h_tq).1; have := (h_tq).2; have := (h14).1; have := (h14).2; have := (h22).1; have := (h22).2; have := (h436).1; have := (h436).2; have := (h42).1; have := (h42).2; have := (h537).1; have := (h537).2; have := (h633).1; have := (h633).2; have := (h678).1; have := (h678).2; have := (h686).1; have := (h686).2; exact ⟨by omega, by omega⟩
                  refine tw_gov hS (md_runV (As := [.int 9, .int 0]) (rest := []) hx hb hml hown hW hK hT hS.1 (t_X12_puts l D cy tx base Z K N M672 Ra J671 hS.2.1 a0 hz_a0 hk_a0 9 (iv_mono (iv_c (c := 9) (n := 9) (by decide)) (by decide) (by decide)) 0 (iv_mono (iv_c (c := 0) (n := 0) (by decide)) (by decide) (by decide)) sg k_sg lg k_lg tq k696 (iv_mono h_tq (by decide) (by decide)) x688 k690 h697) s_X12_195 ⟨rfl, rfl, ⟨Nat.le_of_ble_eq_true rfl, Nat.le_of_ble_eq_true rfl⟩, ⟨Nat.le_of_ble_eq_true rfl, Nat.le_of_ble_eq_true rfl⟩⟩ hz_a0 hk_a0 (by decide) rfl rfl hl.1 rfl (Nat.le_of_ble_eq_true rfl) dX12_compare_170) rfl rfl (fun H locs M701 R702 J700 hS f698 g699 E703 => ?_)
                  have eR702 := Fr.nil g699 rfl
                  subst eR702
                  have p704 := E703
                  clear E703
                  obtain ⟨x705, x707, zc704, zd704, zo704, k708, h706, zl704⟩ := p704
                  have k708 : M701 lg tq.toNatClampNeg = x707 := k708
                  have zt704 := ti_cl (x := tq) (by have := h_tq.1; omega); have zn704 := ti_cl (x := x688) (by have := (h686).1; omega); have zm704 := ti_cl (x := x707) (by have := (h706).1; omega)
                  have q709 : (9 : Int32).toInt = 9 := (by decide)
                  have q710 : (0 : Int32).toInt = 0 := (by decide)
                  have k711 : M701 a0 17 = x689 := (Fr.kp (k := 17) f698 hk_a0 rfl).trans k691
                  have zs704 := stp_two (h := sh + 2) (show x705.toInt = (9 : Int32).toInt + 16 * 0 by omega) (by have := ((iv_c (c := 9) (n := 9) (by decide))).1; have := ((iv_c (c := 9) (n := 9) (by decide))).2; have := ((iv_c (c := 0) (n := 0) (by decide))).1; have := ((iv_c (c := 0) (n := 0) (by decide))).2; omega) (by omega)
                  have z712 : SEG M701 sg tq.toNatClampNeg sb x707.toNatClampNeg (sh + 1) := SEG.cast (SEG.ext z695 (by omega) zd704 zo704 zs704) (by omega) (by omega)
                  have zw704 := ti_cl (x := le) (by have := h_le.1; omega)
                  have z713 : ∀ j, j < 400 * tq.toNatClampNeg + le.toNatClampNeg → M701 sg j = Ma sg j := fun j hj => (zo704 j (by omega)).trans (z681 j hj)
                  refine lv_iconst (v := 1) hx hb dX12_compare_173 (by decide) ?_
                  have k714 : M701 a0 13 = x679 := (Fr.kp (k := 13) f698 hk_a0 rfl).trans k680
                  have q715 : nx.toInt ≤ x679.toInt ∧ x679.toInt ≤ tp.toInt := by
                    have := (h_le).1; have := (h_le).2; have := (h_md).1; have := (h_md).2; have := (h_nx).1; have := (h_nx).2; have := (h538).1; have := (h538).2; have := (h_tq).1; have := (h_tq).2; have := (h14).1; have := (h14).2; have := (h22).1; have := (h22).2; have := (h436).1; have := (h436).2; have := (h42).1; have := (h42).2; have := (h537).1; have := (h537).2; have := (h633).1; have := (h633).2; have := (h678).1; have := (h678).2; have := (h686).1; have := (h686).2; have := (h706).1; have := (h706).2; exact ⟨by omega, by omega⟩
                  have q716 : le.toInt ≤ x707.toInt ∧ x707.toInt - le.toInt ≤ x679.toInt - nx.toInt ∧ ((sh + 1 : Nat) : Int) ≤ x689.toInt := by
                    have := (h_le).1; have := (h_le).2; have := (h_md).1; have := (h_md).2; have := (h_nx).1; have := (h_nx).2; have := (h538).1; have := (h538).2; have := (h_tq).1; have := (h_tq).2; have := (h14).1; have := (h14).2; have := (h22).1; have := (h22).2; have := (h436).1; have := (h436).2; have := (h42).1; have := (h42).2; have := (h537).1; have := (h537).2; have := (h633).1; have := (h633).2; have := (h678).1; have := (h678).2; have := (h686).1; have := (h686).2; have := (h687).1; have := (h687).2; have := (h706).1; have := (h706).2; exact ⟨by omega, by omega, by omega⟩
                  exact tw_endz hx hb hr hlocks hK hT hS hQ rfl (⟨(iv_mono (iv_c (c := 1) (n := 1) (by decide)) (by decide) (by decide)), ⟨z713, ⟨x679, k714, h678, q715.1, q715.2⟩, fun _ => ⟨x679, x707, x689, k714, k708, k711, (iv_mono h706 (by decide) (by decide)), q716.1, q716.2.1, q716.2.2, z712⟩⟩, (fun h => absurd h (by decide))⟩) dX12_compare_174
                · have q717 : x675.toInt = 0 := ti_eq c683
                  have z718 := z682 c683
                  have h719 : iv 0 0 x675 := ⟨by have := (h_x675).1; have := ((iv_c (c := 0) (n := 0) (by decide))).1; omega, by have := (h_x675).2; have := ((iv_c (c := 0) (n := 0) (by decide))).2; omega⟩
                  refine lv_iconst (v := 0) hx hb dX12_compare_161 (by decide) ?_
                  have q720 : nx.toInt ≤ x679.toInt ∧ x679.toInt ≤ tp.toInt := by
                    have := (h_le).1; have := (h_le).2; have := (h_md).1; have := (h_md).2; have := (h_nx).1; have := (h_nx).2; have := (h538).1; have := (h538).2; have := (h_tq).1; have := (h_tq).2; have := (h14).1; have := (h14).2; have := (h22).1; have := (h22).2; have := (h436).1; have := (h436).2; have := (h42).1; have := (h42).2; have := (h537).1; have := (h537).2; have := (h633).1; have := (h633).2; have := (h678).1; have := (h678).2; exact ⟨by omega, by omega⟩
                  exact tw_endz hx hb hr hlocks hK hT hS hQ rfl (⟨(iv_mono (iv_c (c := 0) (n := 0) (by decide)) (by decide) (by decide)), ⟨z681, ⟨x679, k680, h678, q720.1, q720.2⟩, (fun h => absurd rfl h)⟩, (fun _ => (show ¬ (M672 a0 14).toInt = 0 from z718))⟩) dX12_compare_162
              · have q721 : x646.toInt = 0 := ti_eq c654
                have z722 := z653 c654
                have h723 : iv 0 0 x646 := ⟨by have := (h_x646).1; have := ((iv_c (c := 0) (n := 0) (by decide))).1; omega, by have := (h_x646).2; have := ((iv_c (c := 0) (n := 0) (by decide))).2; omega⟩
                refine lv_iconst (v := 0) hx hb dX12_compare_113 (by decide) ?_
                have k724 : M643 a0 13 = x635 := (Fr.kp (k := 13) f640 hk_a0 rfl).trans k636
                have q725 : nx.toInt ≤ x635.toInt ∧ x635.toInt ≤ tp.toInt := by
                  have := (h_le).1; have := (h_le).2; have := (h_md).1; have := (h_md).2; have := (h_nx).1; have := (h_nx).2; have := (h538).1; have := (h538).2; have := (h_tq).1; have := (h_tq).2; have := (h14).1; have := (h14).2; have := (h22).1; have := (h22).2; have := (h436).1; have := (h436).2; have := (h42).1; have := (h42).2; have := (h537).1; have := (h537).2; have := (h633).1; have := (h633).2; exact ⟨by omega, by omega⟩
                exact tw_endz hx hb hr hlocks hK hT hS hQ rfl (⟨(iv_mono (iv_c (c := 0) (n := 0) (by decide)) (by decide) (by decide)), ⟨(fun j hj => (Fr.kpa f640 hk_sg rfl j).trans ((fun j hj => (Fr.kpa f637 hk_sg rfl j).trans ((fun j hj => (Fr.kpa f441 hk_sg rfl j).trans ((fun j hj => (Fr.kpa f33 hk_sg rfl j).trans (z17 j hj)) j hj)) j hj)) j hj)), ⟨x635, k724, (iv_mono h633 (by decide) (by decide)), q725.1, q725.2⟩, (fun h => absurd rfl h)⟩, (fun _ => (show ¬ (M643 a0 14).toInt = 0 from z722))⟩) dX12_compare_114
        · have q726 : ¬ x39.toInt = 62 := ti_ne c434
          refine lv_aload_n hx hb dX12_compare_37 rfl (lv_at hl 2 rfl) ?_
          refine lv_iconst (v := 0) hx hb dX12_compare_38 (by decide) ?_
          refine lv_iload_n hx hb dX12_compare_39 rfl (lv_at hl 0 rfl) ?_
          refine tw_goi hS (md_runV (As := [.int 0, .int x43]) (rest := []) hx hb hml hown hW hK hT hS.1 (t_X12_fails l D cy tx base Z K N M36 Ra J35 hS.2.1 a0 hz_a0 hk_a0 0 (iv_mono (iv_c (c := 0) (n := 0) (by decide)) (by decide) (by decide)) x43 h42) s_X12_148 ⟨rfl, rfl, ⟨Nat.le_of_ble_eq_true rfl, Nat.le_of_ble_eq_true rfl⟩, ⟨Nat.le_of_ble_eq_true rfl, Nat.le_of_ble_eq_true rfl⟩⟩ hz_a0 hk_a0 (by decide) rfl rfl hl.1 rfl (Nat.le_of_ble_eq_true rfl) dX12_compare_40) rfl rfl (fun x733 H locs M730 R731 J729 hS f727 g728 E732 => ?_)
          have eR731 := Fr.nil g728 rfl
          subst eR731
          obtain ⟨h_x733, p734⟩ := E732
          have z735 : x733 = 0 → ¬ (M730 a0 14).toInt = 0 := p734
          have z736 := z735 (iv0 h_x733)
          have k737 : M730 a0 13 = x43 := (Fr.kp (k := 13) f727 hk_a0 rfl).trans k41
          have q738 : nx.toInt ≤ x43.toInt ∧ x43.toInt ≤ tp.toInt := by
            have := (h_le).1; have := (h_le).2; have := (h_md).1; have := (h_md).2; have := (h_nx).1; have := (h_nx).2; have := (h_tp).1; have := (h_tp).2; have := (h_tq).1; have := (h_tq).2; have := (h14).1; have := (h14).2; have := (h22).1; have := (h22).2; have := (h_x39).1; have := (h_x39).2; have := (h42).1; have := (h42).2; exact ⟨by omega, by omega⟩
          exact tw_endz hx hb hr hlocks hK hT hS hQ (nar_b (iv_mono h_x733 (by decide) (by decide))) (⟨(iv_mono h_x733 (by decide) (by decide)), ⟨(fun j hj => (Fr.kpa f727 hk_sg rfl j).trans ((fun j hj => (Fr.kpa f33 hk_sg rfl j).trans (z17 j hj)) j hj)), ⟨x43, k737, h42, q738.1, q738.2⟩, (fun h => absurd (iv0 h_x733) h)⟩, (fun _ => (show ¬ (M730 a0 14).toInt = 0 from z736))⟩) dX12_compare_43
  · have q739 : x11.toInt = 0 := ti_eq c19
    have z740 := z18 c19
    have h741 : iv 0 0 x11 := ⟨by have := (h_x11).1; have := ((iv_c (c := 0) (n := 0) (by decide))).1; omega, by have := (h_x11).2; have := ((iv_c (c := 0) (n := 0) (by decide))).2; omega⟩
    refine lv_iconst (v := 0) hx hb dX12_compare_7 (by decide) ?_
    have q742 : nx.toInt ≤ x15.toInt ∧ x15.toInt ≤ tp.toInt := by
      have := (h_le).1; have := (h_le).2; have := (h_md).1; have := (h_md).2; have := (h_nx).1; have := (h_nx).2; have := (h_tp).1; have := (h_tp).2; have := (h_tq).1; have := (h_tq).2; have := (h14).1; have := (h14).2; exact ⟨by omega, by omega⟩
    exact tw_endz hx hb hr hlocks hK hT hS hQ rfl (⟨(iv_mono (iv_c (c := 0) (n := 0) (by decide)) (by decide) (by decide)), ⟨z17, ⟨x15, k16, h14, q742.1, q742.2⟩, (fun h => absurd rfl h)⟩, (fun _ => (show ¬ (M8 a0 14).toInt = 0 from z740))⟩) dX12_compare_8
def Lt_X12_opens : WL := [(12, 14, 15), (12, 18, 19), (12, 21, 22), (14, 0, 2000000)]
def LRt_X12_opens : WL := []
set_option maxRecDepth 100000 in
set_option maxHeartbeats 4000000 in
theorem t_X12_opens (l : Launch) (D : va_G) (cy : Nat → ClassId) (tx : (Nat → Nat) × (Nat → Nat)) (base Z : Nat) (K N : Nat → Nat) (Ma : MT) (Ra : RT) (Ja : JT) (hTy : Ty Z K N Ma Ra) (a0 : Nat) (hz_a0 : a0 < Z) (hk_a0 : K a0 = 12) (a1 : Int32) (h_a1 : iv 0 100 a1) (op : Nat) (k_op : Ra a0 20 = some op) (on : Int32) (k_on : Ma a0 21 = on) (h_on : iv 0 399 on) : Met l yX12_opens [Cond.code yX12_opens cX12_opens 2 (some .boolean)] (md_rm 2 0 0) (va_Pc [.ref (base + a0), .int a1] (md_U D cy tx base Z K N Ma Ra Ja)) (mQi D cy tx base (fun r u => TP Z K N Lt_X12_opens LRt_X12_opens Ma Ra u ∧ (iv 0 1 r ∧ (¬ r = 0 → ∃ x0 : Int32, u.2.2.2.1 a0 21 = x0 ∧ iv 1 400 x0 ∧ x0.toInt = on.toInt + 1 ∧ u.2.2.2.1 op on.toNatClampNeg = a1 ∧ (∀ j, j ≠ on.toNatClampNeg → u.2.2.2.1 op j = Ma op j)) ∧ (r = 0 → ¬ (u.2.2.2.1 a0 14).toInt = 0)))) 0 0 (fun q => base ≤ q) := by
  refine tw_ofW (L := Lt_X12_opens) (LR := LRt_X12_opens) (by decide) (Nat.le_of_ble_eq_true rfl) hTy ?_
  intro p e s m args below meth c Q ls hx hb hr hlocks hown hml hW hK hT hS hQ hl
  have hl : lv_has ls 2 [(0, .ref (base + a0)), (1, .int a1)] := hl
  obtain ⟨hz_op, hk_op, hn_op⟩ := hTy.refn hz_a0 hk_a0 (show rtR 12 20 = (14, 400, 0) from rfl) k_op
  have hn_op := hn_op (by decide)
  refine lv_aload_n hx hb dX12_opens_0 rfl (lv_at hl 0 rfl) ?_
  refine tw_geti hx hb hW hown hK hS f_X12_185_11 hz_a0 hk_a0 (lo := (-2147483648)) (hi := 2147483647) rfl dX12_opens_1 (fun x3 k2 h1 => ?_)
  refine lv_bipush (v := 10) hx hb dX12_opens_4 (by decide) ?_
  refine lv_icmp_ne (tgt := 19) hx hb dX12_opens_6 (by decide) (fun c4 => ?_) (fun c4 => ?_)
  · have q5 : ¬ x3.toInt = 10 := ti_ne c4
    refine lv_aload_n hx hb dX12_opens_19 rfl (lv_at hl 0 rfl) ?_
    refine lv_dup hx hb dX12_opens_20 rfl ?_
    refine tw_getk hx hb hW hown hK hS f_X12_185_11 hz_a0 hk_a0 (v := x3) k2 dX12_opens_21 ?_
    refine lv_iconst (v := 1) hx hb dX12_opens_24 (by decide) ?_
    refine lv_iadd hx hb dX12_opens_25 ?_
    refine tw_top (fun x7 => ?_)
    have h6 := iv_any x7
    refine tw_puti hx hb hW hown hK hS f_X12_185_11 hz_a0 hk_a0 rfl rfl (lo := (-2147483648)) (hi := 2147483647) rfl h6 rfl dX12_opens_26 (fun H locs M10 hS k8 f9 => ?_)
    refine lv_aload_n hx hb dX12_opens_29 rfl (lv_at hl 0 rfl) ?_
    refine tw_getrk hx hb hW hown hK hS f_X12_35_11 hz_a0 hk_a0 (b := op) k_op dX12_opens_30 ?_
    refine lv_aload_n hx hb dX12_opens_33 rfl (lv_at hl 0 rfl) ?_
    have k11 : M10 a0 21 = on := (Fr.kp (k := 21) f9 hk_a0 rfl).trans k_on
    refine tw_getk hx hb hW hown hK hS f_X12_188_11 hz_a0 hk_a0 (v := on) k11 dX12_opens_34 ?_
    refine lv_iload_n hx hb dX12_opens_37 rfl (lv_at hl 1 rfl) ?_
    refine tw_iasx hx hb hK hS hz_op hk_op (Or.inl rfl) hn_op h_on ⟨by decide, by decide⟩ (iv_any _) (jl := 0) (jh := 1999999) ⟨by decide, by decide⟩ rfl dX12_opens_38 (fun H locs M15 hS k12 f13 e14 => ?_)
    refine lv_aload_n hx hb dX12_opens_39 rfl (lv_at hl 0 rfl) ?_
    refine lv_dup hx hb dX12_opens_40 rfl ?_
    have k16 : M15 a0 21 = on := ((Fr.kp (k := 21) f13 hk_a0 rfl).trans (Fr.kp (k := 21) f9 hk_a0 rfl)).trans k_on
    refine tw_getk hx hb hW hown hK hS f_X12_188_11 hz_a0 hk_a0 (v := on) k16 dX12_opens_41 ?_
    refine lv_iconst (v := 1) hx hb dX12_opens_44 (by decide) ?_
    refine tw_iadd (lo := 1) (hi := 400) hx hb h_on (iv_c (c := 1) (n := 1) (by decide)) ⟨by decide, by decide⟩ ⟨by decide, by decide⟩ dX12_opens_45 (fun x19 e18 h17 => ?_)
    have e18 : x19.toInt = on.toInt + 1 := e18
    refine tw_puti hx hb hW hown hK hS f_X12_188_11 hz_a0 hk_a0 rfl rfl (lo := 0) (hi := 400) rfl (iv_mono h17 (by decide) (by decide)) rfl dX12_opens_46 (fun H locs M22 hS k20 f21 => ?_)
    refine lv_iconst (v := 1) hx hb dX12_opens_49 (by decide) ?_
    exact tw_endz hx hb hr hlocks hK hT hS hQ rfl (⟨(iv_mono (iv_c (c := 1) (n := 1) (by decide)) (by decide) (by decide)), (fun _ => ⟨x19, k20, h17, by omega, (show M22 op on.toNatClampNeg = a1 from by rw [Fr.kpa f21 hk_op rfl, e14]; exact u2_same), fun j hj => (show M22 op j = Ma op j from by rw [Fr.kpa f21 hk_op rfl, e14, u2_nk hj]; exact Fr.kpa f9 hk_op rfl j)⟩), (fun h => absurd h (by decide))⟩) dX12_opens_50
  · have q23 : x3.toInt = 10 := ti_eq c4
    have h24 : iv 10 10 x3 := ⟨by have := (h1).1; have := ((iv_c (c := 10) (n := 10) (by decide))).1; omega, by have := (h1).2; have := ((iv_c (c := 10) (n := 10) (by decide))).2; omega⟩
    refine lv_aload_n hx hb dX12_opens_9 rfl (lv_at hl 0 rfl) ?_
    refine lv_iconst (v := 2) hx hb dX12_opens_10 (by decide) ?_
    refine lv_aload_n hx hb dX12_opens_11 rfl (lv_at hl 0 rfl) ?_
    refine tw_geti hx hb hW hown hK hS f_X12_127_11 hz_a0 hk_a0 (lo := 0) (hi := 400) rfl dX12_opens_12 (fun x27 k26 h25 => ?_)
    refine tw_goi hS (md_runV (As := [.int 2, .int x27]) (rest := []) hx hb hml hown hW hK hT hS.1 (t_X12_fails l D cy tx base Z K N Ma Ra Ja hS.2.1 a0 hz_a0 hk_a0 2 (iv_mono (iv_c (c := 2) (n := 2) (by decide)) (by decide) (by decide)) x27 h25) s_X12_148 ⟨rfl, rfl, ⟨Nat.le_of_ble_eq_true rfl, Nat.le_of_ble_eq_true rfl⟩, ⟨Nat.le_of_ble_eq_true rfl, Nat.le_of_ble_eq_true rfl⟩⟩ hz_a0 hk_a0 (by decide) rfl rfl hl.1 rfl (Nat.le_of_ble_eq_true rfl) dX12_opens_15) rfl rfl (fun x34 H locs M31 R32 J30 hS f28 g29 E33 => ?_)
    have eR32 := Fr.nil g29 rfl
    subst eR32
    obtain ⟨h_x34, p35⟩ := E33
    have z36 : x34 = 0 → ¬ (M31 a0 14).toInt = 0 := p35
    have z37 := z36 (iv0 h_x34)
    exact tw_endz hx hb hr hlocks hK hT hS hQ (nar_b (iv_mono h_x34 (by decide) (by decide))) (⟨(iv_mono h_x34 (by decide) (by decide)), (fun h => absurd (iv0 h_x34) h), (fun _ => (show ¬ (M31 a0 14).toInt = 0 from z37))⟩) dX12_opens_18
