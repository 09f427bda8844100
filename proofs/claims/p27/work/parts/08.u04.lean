def Lt_X12_compare : WL := [(12, 13, 16), (12, 17, 18), (25, 0, 2000000), (26, 0, 2000000)]
def LRt_X12_compare : WL := []
set_option maxRecDepth 100000 in
set_option maxHeartbeats 4000000 in
theorem t_X12_compare (l : Launch) (D : va_G) (cy : Nat → ClassId) (tx : (Nat → Nat) × (Nat → Nat)) (base Z : Nat) (K N : Nat → Nat) (Ma : MT) (Ra : RT) (Ja : JT) (hTy : Ty Z K N Ma Ra) (a0 : Nat) (hz_a0 : a0 < Z) (hk_a0 : K a0 = 12) (tb : Nat) (k_tb : Ra a0 0 = some tb) (nx : Int32) (k_nx : Ma a0 13 = nx) (h_nx : iv 0 400 nx) (tp : Int32) (k_tp : Ma a0 1 = tp) (h_tp : iv 0 400 tp) (hnt : nx.toInt ≤ tp.toInt) (lg : Nat) (k_lg : Ra a0 4 = some lg) (sg : Nat) (k_sg : Ra a0 3 = some sg) (tq : Int32) (k_tq : Ma a0 16 = tq) (h_tq : iv 0 5 tq) (le : Int32) (k_le : Ma lg tq.toNatClampNeg = le) (h_le : iv 0 400 le) (md : Int32) (k_md : Ma a0 17 = md) (h_md : iv 0 60 md) (sb : Nat) (sh : Nat) (hseg : SEG Ma sg tq.toNatClampNeg sb le.toNatClampNeg sh) (hsb : (sb : Int) ≤ le.toInt) (hsh : (sh : Int) ≤ md.toInt) (hle : le.toInt ≤ nx.toInt) : Met l yX12_compare [Cond.code yX12_compare cX12_compare 5 (some .boolean)] (md_rm 7 0 0) (va_Pc [.ref (base + a0)] (md_U D cy tx base Z K N Ma Ra Ja)) (mQi D cy tx base (fun r u => TP Z K N Lt_X12_compare LRt_X12_compare Ma Ra u ∧ (iv 0 1 r ∧ ((∀ j, j < 400 * tq.toNatClampNeg + le.toNatClampNeg → u.2.2.2.1 sg j = Ma sg j) ∧ (∃ x0 : Int32, u.2.2.2.1 a0 13 = x0 ∧ iv 0 400 x0 ∧ nx.toInt ≤ x0.toInt ∧ x0.toInt ≤ tp.toInt) ∧ (¬ r = 0 → ∃ x0 x1 x2 : Int32, u.2.2.2.1 a0 13 = x0 ∧ u.2.2.2.1 lg tq.toNatClampNeg = x1 ∧ u.2.2.2.1 a0 17 = x2 ∧ iv 0 400 x1 ∧ le.toInt ≤ x1.toInt ∧ x1.toInt - le.toInt ≤ x0.toInt - nx.toInt ∧ ((sh + 1 : Nat) : Int) ≤ x2.toInt ∧ SEG u.2.2.2.1 sg tq.toNatClampNeg sb x1.toNatClampNeg (sh + 1))) ∧ (r = 0 → ¬ (u.2.2.2.1 a0 14).toInt = 0)))) 0 0 (fun q => base ≤ q) := by
  refine tw_ofW (L := Lt_X12_compare) (LR := LRt_X12_compare) (by decide) (Nat.le_of_ble_eq_true rfl) hTy ?_
  intro p e s m args below meth c Q ls hx hb hr hlocks hown hml hW hK hT hS hQ hl
  have hl : lv_has ls 5 [(0, .ref (base + a0))] := hl
  obtain ⟨hz_tb, hk_tb, hn_tb⟩ := hTy.refn hz_a0 hk_a0 (show rtR 12 0 = (13, 400, 0) from rfl) k_tb
  have hn_tb := hn_tb (by decide)
  obtain ⟨hz_lg, hk_lg, hn_lg⟩ := hTy.refn hz_a0 hk_a0 (show rtR 12 4 = (26, 7, 0) from rfl) k_lg
  have hn_lg := hn_lg (by decide)
  obtain ⟨hz_sg, hk_sg, hn_sg⟩ := hTy.refn hz_a0 hk_a0 (show rtR 12 3 = (25, 2400, 0) from rfl) k_sg
  have hn_sg := hn_sg (by decide)
  refine lv_aload_n hx hb dX12_compare_0 rfl (lv_at hl 0 rfl) ?_
  have q1 : nx.toInt ≤ tp.toInt := by
    have := (h_le).1; have := (h_le).2; have := (h_md).1; have := (h_md).2; have := (h_nx).1; have := (h_nx).2; have := (h_tp).1; have := (h_tp).2; have := (h_tq).1; have := (h_tq).2; omega
  have q2 : ((sb : Nat) : Int) ≤ le.toInt := by
    have := (h_le).1; have := (h_le).2; have := (h_md).1; have := (h_md).2; have := (h_nx).1; have := (h_nx).2; have := (h_tp).1; have := (h_tp).2; have := (h_tq).1; have := (h_tq).2; omega
  have q3 : ((sh : Nat) : Int) ≤ md.toInt := by
    have := (h_le).1; have := (h_le).2; have := (h_md).1; have := (h_md).2; have := (h_nx).1; have := (h_nx).2; have := (h_tp).1; have := (h_tp).2; have := (h_tq).1; have := (h_tq).2; omega
  have q4 : le.toInt ≤ nx.toInt := by
    have := (h_le).1; have := (h_le).2; have := (h_md).1; have := (h_md).2; have := (h_nx).1; have := (h_nx).2; have := (h_tp).1; have := (h_tp).2; have := (h_tq).1; have := (h_tq).2; omega
  refine tw_goi hS (md_runV (As := []) (rest := []) hx hb hml hown hW hK hT hS.1 (t_X12_sum l D cy tx base Z K N Ma Ra Ja hS.2.1 a0 hz_a0 hk_a0 tb k_tb nx k_nx (iv_mono h_nx (by decide) (by decide)) tp k_tp (iv_mono h_tp (by decide) (by decide)) q1 lg k_lg sg k_sg tq k_tq (iv_mono h_tq (by decide) (by decide)) le k_le (iv_mono h_le (by decide) (by decide)) md k_md (iv_mono h_md (by decide) (by decide)) (sb) (sh) hseg q2 q3 q4) s_X12_216 ⟨rfl, rfl, ⟨Nat.le_of_ble_eq_true rfl, Nat.le_of_ble_eq_true rfl⟩, ⟨Nat.le_of_ble_eq_true rfl, Nat.le_of_ble_eq_true rfl⟩⟩ hz_a0 hk_a0 (by decide) rfl rfl hl.1 rfl (Nat.le_of_ble_eq_true rfl) dX12_compare_1) rfl rfl (fun x11 H locs M8 R9 J7 hS f5 g6 E10 => ?_)
  have eR9 := Fr.nil g6 rfl
  subst eR9
  obtain ⟨h_x11, p12, p13⟩ := E10
  obtain ⟨zf13, ⟨x15, k16, h14, zu13, zv13⟩, zc13⟩ := p12
  have k16 : M8 a0 13 = x15 := k16
  have zw13 := ti_cl (x := le) (by have := h_le.1; omega); have zy13 := ti_cl (x := le) (by have := (h_le).1; omega)
  have z17 : ∀ j, j < 400 * tq.toNatClampNeg + le.toNatClampNeg → M8 sg j = Ma sg j := fun j hj => (zf13 j (by omega)).trans ((fun j _ => rfl) j hj)
  have z18 : x11 = 0 → ¬ (M8 a0 14).toInt = 0 := p13
  refine lv_if_ne (tgt := 9) hx hb dX12_compare_4 (by decide) (fun c19 => ?_) (fun c19 => ?_)
  · have q20 : ¬ x11.toInt = 0 := ti_ne c19
    have h21 : iv 1 1 x11 := ⟨by have := (h_x11).1; have := ((iv_c (c := 0) (n := 0) (by decide))).1; have := ((iv_c (c := 0) (n := 0) (by decide))).2; omega, by have := (h_x11).2; have := ((iv_c (c := 0) (n := 0) (by decide))).1; have := ((iv_c (c := 0) (n := 0) (by decide))).2; omega⟩
    obtain ⟨x28, x24, x25, k29, k26, k27, h22, za21, zb21, zd21, z30⟩ := zc13 c19
    have ze21 : x28 = x15 := k29.symm.trans k16
    rw [ze21] at zb21
    have k26 : M8 lg tq.toNatClampNeg = x24 := k26
    have k27 : M8 a0 17 = x25 := k27
    have h23 : iv 0 60 x25 := by rw [← k27]; exact hS.2.1.int hz_a0 hk_a0 (show rgI 12 17 = (0, 60) from rfl)
    refine lv_aload_n hx hb dX12_compare_9 rfl (lv_at hl 0 rfl) ?_
    have k31 : M8 a0 1 = tp := (Fr.kp (k := 1) f5 hk_a0 rfl).trans k_tp
    have q32 : x15.toInt ≤ tp.toInt := by
      have := (h_le).1; have := (h_le).2; have := (h_md).1; have := (h_md).2; have := (h_nx).1; have := (h_nx).2; have := (h_tp).1; have := (h_tp).2; have := (h_tq).1; have := (h_tq).2; have := (h14).1; have := (h14).2; have := (h22).1; have := (h22).2; omega
    refine tw_goi hS (md_runV (As := []) (rest := []) hx hb hml hown hW hK hT hS.1 (t_X12_see l D cy tx base Z K N M8 Ra J7 hS.2.1 a0 hz_a0 hk_a0 tb k_tb x15 k16 (iv_mono h14 (by decide) (by decide)) tp k31 (iv_mono h_tp (by decide) (by decide)) q32) s_X12_130 ⟨rfl, rfl, ⟨Nat.le_of_ble_eq_true rfl, Nat.le_of_ble_eq_true rfl⟩, ⟨Nat.le_of_ble_eq_true rfl, Nat.le_of_ble_eq_true rfl⟩⟩ hz_a0 hk_a0 (by decide) rfl rfl hl.1 rfl (Nat.le_of_ble_eq_true rfl) dX12_compare_10) rfl rfl (fun x39 H locs M36 R37 J35 hS f33 g34 E38 => ?_)
    have eR37 := Fr.nil g34 rfl
    subst eR37
    obtain ⟨h_x39, p40⟩ := E38
    obtain ⟨x43, k41, h42, q44, z45⟩ := p40
    have k41 : M36 a0 13 = x43 := k41
    refine lv_istore_n (lv' := [(1, .int x39), (0, .ref (base + a0))]) hx hb dX12_compare_13 rfl hl (by decide) rfl (fun ls hl => ?_)
    refine lv_aload_n hx hb dX12_compare_14 rfl (lv_at hl 1 rfl) ?_
    refine tw_getk hx hb hW hown hK hS f_X12_127_11 hz_a0 hk_a0 (v := x43) k41 dX12_compare_15 ?_
    refine lv_istore_n (lv' := [(2, .int x43), (1, .int x39), (0, .ref (base + a0))]) hx hb dX12_compare_18 rfl hl (by decide) rfl (fun ls hl => ?_)
    refine lv_iload_n hx hb dX12_compare_19 rfl (lv_at hl 1 rfl) ?_
    refine lv_bipush (v := 60) hx hb dX12_compare_20 (by decide) ?_
    refine lv_icmp_eq (tgt := 44) hx hb dX12_compare_22 (by decide) (fun c47 => ?_) (fun c47 => ?_)
    · have q48 : x39.toInt = 60 := ti_eq c47
      have h49 : iv 60 60 x39 := ⟨by have := (h_x39).1; have := ((iv_c (c := 60) (n := 60) (by decide))).1; omega, by have := (h_x39).2; have := ((iv_c (c := 60) (n := 60) (by decide))).2; omega⟩
      refine lv_aload_n hx hb dX12_compare_44 rfl (lv_at hl 2 rfl) ?_
      refine lv_dup hx hb dX12_compare_45 rfl ?_
      refine tw_getk hx hb hW hown hK hS f_X12_127_11 hz_a0 hk_a0 (v := x43) k41 dX12_compare_46 ?_
      refine lv_iconst (v := 1) hx hb dX12_compare_49 (by decide) ?_
      refine tw_iadd (lo := 1) (hi := 401) hx hb h42 (iv_c (c := 1) (n := 1) (by decide)) ⟨by decide, by decide⟩ ⟨by decide, by decide⟩ dX12_compare_50 (fun x52 e51 h50 => ?_)
      have e51 : x52.toInt = x43.toInt + 1 := e51
      have h55 : iv 0 400 x52 := by
        have := (h_le).1; have := (h_le).2; have := (h_md).1; have := (h_md).2; have := (h_nx).1; have := (h_nx).2; have := (h_tp).1; have := (h_tp).2; have := (h_tq).1; have := (h_tq).2; have := (h14).1; have := (h14).2; have := (h22).1; have := (h22).2; have := (h49).1; have := (h49).2; have := (h42).1; have := (h42).2; have := (h50).1; have := (h50).2; exact ⟨by omega, by omega⟩
      refine tw_puti hx hb hW hown hK hS f_X12_127_11 hz_a0 hk_a0 rfl rfl (lo := 0) (hi := 400) rfl h55 rfl dX12_compare_51 (fun H locs M56 hS k53 f54 => ?_)
      refine lv_iload_n hx hb dX12_compare_54 rfl (lv_at hl 1 rfl) ?_
      refine lv_bipush (v := 61) hx hb dX12_compare_55 (by decide) ?_
      refine lv_icmp_eq (tgt := 89) hx hb dX12_compare_57 (by decide) (fun c57 => False.elim (by have q : x39.toInt = 61 := ti_eq c57; have := (h49).1; have := (h49).2; omega)) (fun c57 => ?_)
      have q58 : ¬ x39.toInt = 61 := ti_ne c57
      refine lv_aload_n hx hb dX12_compare_60 rfl (lv_at hl 2 rfl) ?_
      refine tw_getk hx hb hW hown hK hS f_X12_127_11 hz_a0 hk_a0 (v := x52) k53 dX12_compare_61 ?_
      refine lv_aload_n hx hb dX12_compare_64 rfl (lv_at hl 2 rfl) ?_
      have k59 : M56 a0 1 = tp := ((Fr.kp (k := 1) f54 hk_a0 rfl).trans ((Fr.kp (k := 1) f33 hk_a0 rfl).trans (Fr.kp (k := 1) f5 hk_a0 rfl))).trans k_tp
      refine tw_getk hx hb hW hown hK hS f_X12_116_11 hz_a0 hk_a0 (v := tp) k59 dX12_compare_65 ?_
      refine lv_icmp_ge (tgt := 89) hx hb dX12_compare_68 (by decide) (fun c60 => ?_) (fun c60 => ?_)
      · have q61 : tp.toInt ≤ x52.toInt := ti_le c60
        refine lv_iconst (v := 0) hx hb dX12_compare_89 (by decide) ?_
        refine lv_istore_n (lv' := [(3, .int 0), (2, .int x43), (1, .int x39), (0, .ref (base + a0))]) hx hb dX12_compare_90 rfl hl (by decide) rfl (fun ls hl => ?_)
        refine lv_iload_n hx hb dX12_compare_91 rfl (lv_at hl 0 rfl) ?_
        refine lv_if_eq (tgt := 105) hx hb dX12_compare_92 (by decide) (fun _ => ?_) (fun h => absurd h (by decide))
        refine lv_aload_n hx hb dX12_compare_105 rfl (lv_at hl 3 rfl) ?_
        refine lv_iload_n hx hb dX12_compare_106 rfl (lv_at hl 1 rfl) ?_
        have k62 : M56 a0 17 = x25 := ((Fr.kp (k := 17) f54 hk_a0 rfl).trans (Fr.kp (k := 17) f33 hk_a0 rfl)).trans k27
        refine tw_goi hS (md_runV (As := [.int x43]) (rest := []) hx hb hml hown hW hK hT hS.1 (t_X12_makes l D cy tx base Z K N M56 Ra J35 hS.2.1 a0 hz_a0 hk_a0 x43 h42 x25 k62 (iv_mono h23 (by decide) (by decide))) s_X12_203 ⟨rfl, rfl, ⟨Nat.le_of_ble_eq_true rfl, Nat.le_of_ble_eq_true rfl⟩, ⟨Nat.le_of_ble_eq_true rfl, Nat.le_of_ble_eq_true rfl⟩⟩ hz_a0 hk_a0 (by decide) rfl rfl hl.1 rfl (Nat.le_of_ble_eq_true rfl) dX12_compare_107) rfl rfl (fun x69 H locs M66 R67 J65 hS f63 g64 E68 => ?_)
        have eR67 := Fr.nil g64 rfl
        subst eR67
        obtain ⟨h_x69, p70, p71⟩ := E68
        obtain ⟨x73, k74, h72, q75⟩ := p70
        have k74 : M66 a0 17 = x73 := k74
        have z76 : x69 = 0 → ¬ (M66 a0 14).toInt = 0 := p71
        refine lv_if_ne (tgt := 115) hx hb dX12_compare_110 (by decide) (fun c77 => ?_) (fun c77 => ?_)
        · have q78 : ¬ x69.toInt = 0 := ti_ne c77
          have h79 : iv 1 1 x69 := ⟨by have := (h_x69).1; have := ((iv_c (c := 0) (n := 0) (by decide))).1; have := ((iv_c (c := 0) (n := 0) (by decide))).2; omega, by have := (h_x69).2; have := ((iv_c (c := 0) (n := 0) (by decide))).1; have := ((iv_c (c := 0) (n := 0) (by decide))).2; omega⟩
          refine lv_iload_n hx hb dX12_compare_115 rfl (lv_at hl 2 rfl) ?_
          refine lv_bipush (v := 60) hx hb dX12_compare_116 (by decide) ?_
          refine lv_icmp_ne (tgt := 133) hx hb dX12_compare_118 (by decide) (fun c80 => False.elim (by have q : ¬ x39.toInt = 60 := ti_ne c80; have := (h49).1; have := (h49).2; omega)) (fun c80 => ?_)
          have q81 : x39.toInt = 60 := ti_eq c80
          refine lv_iload_n hx hb dX12_compare_121 rfl (lv_at hl 0 rfl) ?_
          refine lv_if_eq (tgt := 129) hx hb dX12_compare_122 (by decide) (fun _ => ?_) (fun h => absurd h (by decide))
          refine lv_iconst (v := 0) hx hb dX12_compare_129 (by decide) ?_
          refine lv_goto (tgt := 152) hx hb dX12_compare_130 (by decide) ?_
          refine lv_istore (lv' := [(4, .int 0), (3, .int 0), (2, .int x43), (1, .int x39), (0, .ref (base + a0))]) hx hb dX12_compare_152 hl (by decide) rfl (fun ls hl => ?_)
          refine lv_aload_n hx hb dX12_compare_154 rfl (lv_at hl 4 rfl) ?_
          have k82 : M66 a0 13 = x52 := (Fr.kp (k := 13) f63 hk_a0 rfl).trans k53
          have h83 : iv 0 400 x52 := by
            have := (h_le).1; have := (h_le).2; have := (h_md).1; have := (h_md).2; have := (h_nx).1; have := (h_nx).2; have := (h_tp).1; have := (h_tp).2; have := (h_tq).1; have := (h_tq).2; have := (h14).1; have := (h14).2; have := (h22).1; have := (h22).2; have := (h49).1; have := (h49).2; have := (h42).1; have := (h42).2; have := (h50).1; have := (h50).2; exact ⟨by omega, by omega⟩
          have k84 : M66 a0 1 = tp := ((Fr.kp (k := 1) f63 hk_a0 rfl).trans ((Fr.kp (k := 1) f54 hk_a0 rfl).trans ((Fr.kp (k := 1) f33 hk_a0 rfl).trans (Fr.kp (k := 1) f5 hk_a0 rfl)))).trans k_tp
          have q85 : x52.toInt ≤ tp.toInt := by
            have := (h_le).1; have := (h_le).2; have := (h_md).1; have := (h_md).2; have := (h_nx).1; have := (h_nx).2; have := (h_tp).1; have := (h_tp).2; have := (h_tq).1; have := (h_tq).2; have := (h14).1; have := (h14).2; have := (h22).1; have := (h22).2; have := (h49).1; have := (h49).2; have := (h42).1; have := (h42).2; have := (h50).1; have := (h50).2; omega
          have k86 : M66 a0 16 = tq := ((Fr.kp (k := 16) f63 hk_a0 rfl).trans ((Fr.kp (k := 16) f54 hk_a0 rfl).trans ((Fr.kp (k := 16) f33 hk_a0 rfl).trans (Fr.kp (k := 16) f5 hk_a0 rfl)))).trans k_tq
          have k87 : M66 lg tq.toNatClampNeg = x24 := ((Fr.kpa f63 hk_lg rfl tq.toNatClampNeg).trans ((Fr.kpa f54 hk_lg rfl tq.toNatClampNeg).trans (Fr.kpa f33 hk_lg rfl tq.toNatClampNeg))).trans k26
          have q88 : ((sb : Nat) : Int) ≤ x24.toInt := by
            have := (h_le).1; have := (h_le).2; have := (h_md).1; have := (h_md).2; have := (h_nx).1; have := (h_nx).2; have := (h_tp).1; have := (h_tp).2; have := (h_tq).1; have := (h_tq).2; have := (h14).1; have := (h14).2; have := (h22).1; have := (h22).2; have := (h42).1; have := (h42).2; omega
          have q89 : ((sh + 1 : Nat) : Int) ≤ x73.toInt := by
            have := (h_le).1; have := (h_le).2; have := (h_md).1; have := (h_md).2; have := (h_nx).1; have := (h_nx).2; have := (h_tp).1; have := (h_tp).2; have := (h_tq).1; have := (h_tq).2; have := (h23).1; have := (h23).2; have := (h72).1; have := (h72).2; omega
          have q90 : x24.toInt ≤ x52.toInt := by
            have := (h_le).1; have := (h_le).2; have := (h_md).1; have := (h_md).2; have := (h_nx).1; have := (h_nx).2; have := (h_tp).1; have := (h_tp).2; have := (h_tq).1; have := (h_tq).2; have := (h14).1; have := (h14).2; have := (h22).1; have := (h22).2; have := (h49).1; have := (h49).2; have := (h42).1; have := (h42).2; have := (h50).1; have := (h50).2; omega
          refine tw_goi hS (md_runV (As := []) (rest := []) hx hb hml hown hW hK hT hS.1 (t_X12_sum l D cy tx base Z K N M66 Ra J65 hS.2.1 a0 hz_a0 hk_a0 tb k_tb x52 k82 h83 tp k84 (iv_mono h_tp (by decide) (by decide)) q85 lg k_lg sg k_sg tq k86 (iv_mono h_tq (by decide) (by decide)) x24 k87 (iv_mono h22 (by decide) (by decide)) x73 k74 (iv_mono h72 (by decide) (by decide)) (sb) (sh + 1) (SEG.to (SEG.to (SEG.to z30 (fun j _ _ => Fr.kpa f33 hk_sg rfl j)) (fun j _ _ => Fr.kpa f54 hk_sg rfl j)) (fun j _ _ => Fr.kpa f63 hk_sg rfl j)) q88 q89 q90) s_X12_216 ⟨rfl, rfl, ⟨Nat.le_of_ble_eq_true rfl, Nat.le_of_ble_eq_true rfl⟩, ⟨Nat.le_of_ble_eq_true rfl, Nat.le_of_ble_eq_true rfl⟩⟩ hz_a0 hk_a0 (by decide) rfl rfl hl.1 rfl (Nat.le_of_ble_eq_true rfl) dX12_compare_155) rfl rfl (fun x97 H locs M94 R95 J93 hS f91 g92 E96 => ?_)
          have eR95 := Fr.nil g92 rfl
          subst eR95
          obtain ⟨h_x97, p98, p99⟩ := E96
          obtain ⟨zf99, ⟨x101, k102, h100, zu99, zv99⟩, zc99⟩ := p98
          have k102 : M94 a0 13 = x101 := k102
          have zw99 := ti_cl (x := le) (by have := h_le.1; omega); have zy99 := ti_cl (x := x24) (by have := (h22).1; omega)
          have z103 : ∀ j, j < 400 * tq.toNatClampNeg + le.toNatClampNeg → M94 sg j = Ma sg j := fun j hj => (zf99 j (by omega)).trans ((fun j hj => (Fr.kpa f63 hk_sg rfl j).trans ((fun j hj => (Fr.kpa f54 hk_sg rfl j).trans ((fun j hj => (Fr.kpa f33 hk_sg rfl j).trans (z17 j hj)) j hj)) j hj)) j hj)
          have z104 : x97 = 0 → ¬ (M94 a0 14).toInt = 0 := p99
          refine lv_if_ne (tgt := 163) hx hb dX12_compare_158 (by decide) (fun c105 => ?_) (fun c105 => ?_)
          · have q106 : ¬ x97.toInt = 0 := ti_ne c105
            have h107 : iv 1 1 x97 := ⟨by have := (h_x97).1; have := ((iv_c (c := 0) (n := 0) (by decide))).1; have := ((iv_c (c := 0) (n := 0) (by decide))).2; omega, by have := (h_x97).2; have := ((iv_c (c := 0) (n := 0) (by decide))).1; have := ((iv_c (c := 0) (n := 0) (by decide))).2; omega⟩
            obtain ⟨x114, x110, x111, k115, k112, k113, h108, za107, zb107, zd107, z116⟩ := zc99 c105
            have ze107 : x114 = x101 := k115.symm.trans k102
            rw [ze107] at zb107
            have k112 : M94 lg tq.toNatClampNeg = x110 := k112
            have k113 : M94 a0 17 = x111 := k113
            have h109 : iv 0 60 x111 := by rw [← k113]; exact hS.2.1.int hz_a0 hk_a0 (show rgI 12 17 = (0, 60) from rfl)
            have z117 : SEG M94 sg tq.toNatClampNeg sb x110.toNatClampNeg (sh + 2) := SEG.cast z116 rfl (by omega)
            refine lv_aload_n hx hb dX12_compare_163 rfl (lv_at hl 4 rfl) ?_
            refine lv_bipush (v := 6) hx hb dX12_compare_164 (by decide) ?_
            refine lv_iload hx hb dX12_compare_166 (lv_at hl 0 rfl) ?_
            refine lv_iadd hx hb dX12_compare_168 ?_
            refine md_top (y := 6) (by decide) ?_
            refine lv_iconst (v := 0) hx hb dX12_compare_169 (by decide) ?_
            have k118 : M94 a0 16 = tq := ((Fr.kp (k := 16) f91 hk_a0 rfl).trans ((Fr.kp (k := 16) f63 hk_a0 rfl).trans ((Fr.kp (k := 16) f54 hk_a0 rfl).trans ((Fr.kp (k := 16) f33 hk_a0 rfl).trans (Fr.kp (k := 16) f5 hk_a0 rfl))))).trans k_tq
            have h119 : iv 0 399 x110 := by
              have := (h_le).1; have := (h_le).2; have := (h_md).1; have := (h_md).2; have := (h_nx).1; have := (h_nx).2; have := (h_tp).1; have := (h_tp).2; have := (h_tq).1; have := (h_tq).2; have := (h100).1; have := (h100).2; have := (h108).1; have := (h108).2; have := (h14).1; have := (h14).2; have := (h22).1; have := (h22).2; have := (h49).1; have := (h49).2; have := (h42).1; have := (h42).2; have := (h50).1; have := (h50).2; exact ⟨by omega, by omega⟩
            refine tw_gov hS (md_runV (As := [.int 6, .int 0]) (rest := []) hx hb hml hown hW hK hT hS.1 (t_X12_puts l D cy tx base Z K N M94 Ra J93 hS.2.1 a0 hz_a0 hk_a0 6 (iv_mono (iv_c (c := 6) (n := 6) (by decide)) (by decide) (by decide)) 0 (iv_mono (iv_c (c := 0) (n := 0) (by decide)) (by decide) (by decide)) sg k_sg lg k_lg tq k118 (iv_mono h_tq (by decide) (by decide)) x110 k112 h119) s_X12_195 ⟨rfl, rfl, ⟨Nat.le_of_ble_eq_true rfl, Nat.le_of_ble_eq_true rfl⟩, ⟨Nat.le_of_ble_eq_true rfl, Nat.le_of_ble_eq_true rfl⟩⟩ hz_a0 hk_a0 (by decide) rfl rfl hl.1 rfl (Nat.le_of_ble_eq_true rfl) dX12_compare_170) rfl rfl (fun H locs M123 R124 J122 hS f120 g121 E125 => ?_)
            have eR124 := Fr.nil g121 rfl
            subst eR124
            have p126 := E125
            obtain ⟨x127, x129, zc126, zd126, zo126, k130, h128, zl126⟩ := p126
            have k130 : M123 lg tq.toNatClampNeg = x129 := k130
            have zt126 := ti_cl (x := tq) (by have := h_tq.1; omega); have zn126 := ti_cl (x := x110) (by have := (h108).1; omega); have zm126 := ti_cl (x := x129) (by have := (h128).1; omega)
            have q131 : (6 : Int32).toInt = 6 := (by decide)
            have q132 : (0 : Int32).toInt = 0 := (by decide)
            have k133 : M123 a0 17 = x111 := (Fr.kp (k := 17) f120 hk_a0 rfl).trans k113
            have zs126 := stp_two (h := sh + 2) (show x127.toInt = (6 : Int32).toInt + 16 * 0 by omega) (by have := ((iv_c (c := 6) (n := 6) (by decide))).1; have := ((iv_c (c := 6) (n := 6) (by decide))).2; have := ((iv_c (c := 0) (n := 0) (by decide))).1; have := ((iv_c (c := 0) (n := 0) (by decide))).2; omega) (by omega)
            have z134 : SEG M123 sg tq.toNatClampNeg sb x129.toNatClampNeg (sh + 1) := SEG.cast (SEG.ext z117 (by omega) zd126 zo126 zs126) (by omega) (by omega)
            have zw126 := ti_cl (x := le) (by have := h_le.1; omega)
            have z135 : ∀ j, j < 400 * tq.toNatClampNeg + le.toNatClampNeg → M123 sg j = Ma sg j := fun j hj => (zo126 j (by omega)).trans (z103 j hj)
            refine lv_iconst (v := 1) hx hb dX12_compare_173 (by decide) ?_
            have k136 : M123 a0 13 = x101 := (Fr.kp (k := 13) f120 hk_a0 rfl).trans k102
            have q137 : nx.toInt ≤ x101.toInt ∧ x101.toInt ≤ tp.toInt := by
              have := (h_le).1; have := (h_le).2; have := (h_md).1; have := (h_md).2; have := (h_nx).1; have := (h_nx).2; have := (h_tp).1; have := (h_tp).2; have := (h_tq).1; have := (h_tq).2; have := (h100).1; have := (h100).2; have := (h108).1; have := (h108).2; have := (h128).1; have := (h128).2; have := (h14).1; have := (h14).2; have := (h22).1; have := (h22).2; have := (h49).1; have := (h49).2; have := (h42).1; have := (h42).2; have := (h50).1; have := (h50).2; omega
            have q138 : le.toInt ≤ x129.toInt ∧ x129.toInt - le.toInt ≤ x101.toInt - nx.toInt ∧ ((sh + 1 : Nat) : Int) ≤ x111.toInt := by
              have := (h_le).1; have := (h_le).2; have := (h_md).1; have := (h_md).2; have := (h_nx).1; have := (h_nx).2; have := (h_tp).1; have := (h_tp).2; have := (h_tq).1; have := (h_tq).2; have := (h100).1; have := (h100).2; have := (h108).1; have := (h108).2; have := (h109).1; have := (h109).2; have := (h128).1; have := (h128).2; have := (h14).1; have := (h14).2; have := (h22).1; have := (h22).2; have := (h49).1; have := (h49).2; have := (h42).1; have := (h42).2; have := (h50).1; have := (h50).2; omega
            exact tw_endz hx hb hr hlocks hK hT hS hQ rfl (⟨(iv_mono (iv_c (c := 1) (n := 1) (by decide)) (by decide) (by decide)), ⟨z135, ⟨x101, k136, h100, q137.1, q137.2⟩, fun _ => ⟨x101, x129, x111, k136, k130, k133, (iv_mono h128 (by decide) (by decide)), q138.1, q138.2.1, q138.2.2, z134⟩⟩, (fun h => absurd h (by decide))⟩) dX12_compare_174
          · have q139 : x97.toInt = 0 := ti_eq c105
            have z140 := z104 c105
            have h141 : iv 0 0 x97 := ⟨by have := (h_x97).1; have := ((iv_c (c := 0) (n := 0) (by decide))).1; omega, by have := (h_x97).2; have := ((iv_c (c := 0) (n := 0) (by decide))).2; omega⟩
            refine lv_iconst (v := 0) hx hb dX12_compare_161 (by decide) ?_
            have q142 : nx.toInt ≤ x101.toInt ∧ x101.toInt ≤ tp.toInt := by
              have := (h_le).1; have := (h_le).2; have := (h_md).1; have := (h_md).2; have := (h_nx).1; have := (h_nx).2; have := (h_tp).1; have := (h_tp).2; have := (h_tq).1; have := (h_tq).2; have := (h100).1; have := (h100).2; have := (h14).1; have := (h14).2; have := (h22).1; have := (h22).2; have := (h49).1; have := (h49).2; have := (h42).1; have := (h42).2; have := (h50).1; have := (h50).2; omega
            exact tw_endz hx hb hr hlocks hK hT hS hQ rfl (⟨(iv_mono (iv_c (c := 0) (n := 0) (by decide)) (by decide) (by decide)), ⟨z103, ⟨x101, k102, h100, q142.1, q142.2⟩, (fun h => absurd rfl h)⟩, (fun _ => (show ¬ (M94 a0 14).toInt = 0 from z140))⟩) dX12_compare_162
        · have q143 : x69.toInt = 0 := ti_eq c77
          have z144 := z76 c77
          have h145 : iv 0 0 x69 := ⟨by have := (h_x69).1; have := ((iv_c (c := 0) (n := 0) (by decide))).1; omega, by have := (h_x69).2; have := ((iv_c (c := 0) (n := 0) (by decide))).2; omega⟩
          refine lv_iconst (v := 0) hx hb dX12_compare_113 (by decide) ?_
          have k146 : M66 a0 13 = x52 := (Fr.kp (k := 13) f63 hk_a0 rfl).trans k53
          have q147 : nx.toInt ≤ x52.toInt ∧ x52.toInt ≤ tp.toInt := by
            have := (h_le).1; have := (h_le).2; have := (h_md).1; have := (h_md).2; have := (h_nx).1; have := (h_nx).2; have := (h_tp).1; have := (h_tp).2; have := (h_tq).1; have := (h_tq).2; have := (h14).1; have := (h14).2; have := (h22).1; have := (h22).2; have := (h49).1; have := (h49).2; have := (h42).1; have := (h42).2; have := (h50).1; have := (h50).2; omega
          exact tw_endz hx hb hr hlocks hK hT hS hQ rfl (⟨(iv_mono (iv_c (c := 0) (n := 0) (by decide)) (by decide) (by decide)), ⟨(fun j hj => (Fr.kpa f63 hk_sg rfl j).trans ((fun j hj => (Fr.kpa f54 hk_sg rfl j).trans ((fun j hj => (Fr.kpa f33 hk_sg rfl j).trans (z17 j hj)) j hj)) j hj)), ⟨x52, k146, (iv_mono h50 (by decide) (by decide)), q147.1, q147.2⟩, (fun h => absurd rfl h)⟩, (fun _ => (show ¬ (M66 a0 14).toInt = 0 from z144))⟩) dX12_compare_114
      · have q148 : x52.toInt < tp.toInt := ti_nle c60
        have h149 : iv 1 399 x52 := iv_ltL (y := tp) h50 h_tp q148 (by decide)
        have h150 : iv 2 400 tp := iv_gtL (y := x52) h_tp h50 q148 (by decide)
        refine lv_aload_n hx hb dX12_compare_71 rfl (lv_at hl 2 rfl) ?_
        refine tw_getrk hx hb hW hown hK hS f_X12_7_11 hz_a0 hk_a0 (b := tb) k_tb dX12_compare_72 ?_
        refine lv_aload_n hx hb dX12_compare_75 rfl (lv_at hl 2 rfl) ?_
        refine tw_getk hx hb hW hown hK hS f_X12_127_11 hz_a0 hk_a0 (v := x52) k53 dX12_compare_76 ?_
        refine tw_bald hx hb hK hS hz_tb hk_tb hn_tb h149 ⟨by decide, by decide⟩ dX12_compare_79 (fun x153 k152 => ?_)
        have h151 := iv_any x153
        refine lv_bipush (v := 61) hx hb dX12_compare_80 (by decide) ?_
        refine lv_icmp_ne (tgt := 89) hx hb dX12_compare_82 (by decide) (fun c154 => ?_) (fun c154 => ?_)
        · have q155 : ¬ x153.toInt = 61 := ti_ne c154
          refine lv_iconst (v := 0) hx hb dX12_compare_89 (by decide) ?_
          refine lv_istore_n (lv' := [(3, .int 0), (2, .int x43), (1, .int x39), (0, .ref (base + a0))]) hx hb dX12_compare_90 rfl hl (by decide) rfl (fun ls hl => ?_)
          refine lv_iload_n hx hb dX12_compare_91 rfl (lv_at hl 0 rfl) ?_
          refine lv_if_eq (tgt := 105) hx hb dX12_compare_92 (by decide) (fun _ => ?_) (fun h => absurd h (by decide))
          refine lv_aload_n hx hb dX12_compare_105 rfl (lv_at hl 3 rfl) ?_
          refine lv_iload_n hx hb dX12_compare_106 rfl (lv_at hl 1 rfl) ?_
          have k156 : M56 a0 17 = x25 := ((Fr.kp (k := 17) f54 hk_a0 rfl).trans (Fr.kp (k := 17) f33 hk_a0 rfl)).trans k27
          refine tw_goi hS (md_runV (As := [.int x43]) (rest := []) hx hb hml hown hW hK hT hS.1 (t_X12_makes l D cy tx base Z K N M56 Ra J35 hS.2.1 a0 hz_a0 hk_a0 x43 h42 x25 k156 (iv_mono h23 (by decide) (by decide))) s_X12_203 ⟨rfl, rfl, ⟨Nat.le_of_ble_eq_true rfl, Nat.le_of_ble_eq_true rfl⟩, ⟨Nat.le_of_ble_eq_true rfl, Nat.le_of_ble_eq_true rfl⟩⟩ hz_a0 hk_a0 (by decide) rfl rfl hl.1 rfl (Nat.le_of_ble_eq_true rfl) dX12_compare_107) rfl rfl (fun x163 H locs M160 R161 J159 hS f157 g158 E162 => ?_)
          have eR161 := Fr.nil g158 rfl
          subst eR161
          obtain ⟨h_x163, p164, p165⟩ := E162
          obtain ⟨x167, k168, h166, q169⟩ := p164
          have k168 : M160 a0 17 = x167 := k168
          have z170 : x163 = 0 → ¬ (M160 a0 14).toInt = 0 := p165
          refine lv_if_ne (tgt := 115) hx hb dX12_compare_110 (by decide) (fun c171 => ?_) (fun c171 => ?_)
          · have q172 : ¬ x163.toInt = 0 := ti_ne c171
            have h173 : iv 1 1 x163 := ⟨by have := (h_x163).1; have := ((iv_c (c := 0) (n := 0) (by decide))).1; have := ((iv_c (c := 0) (n := 0) (by decide))).2; omega, by have := (h_x163).2; have := ((iv_c (c := 0) (n := 0) (by decide))).1; have := ((iv_c (c := 0) (n := 0) (by decide))).2; omega⟩
            refine lv_iload_n hx hb dX12_compare_115 rfl (lv_at hl 2 rfl) ?_
            refine lv_bipush (v := 60) hx hb dX12_compare_116 (by decide) ?_
            refine lv_icmp_ne (tgt := 133) hx hb dX12_compare_118 (by decide) (fun c174 => False.elim (by have q : ¬ x39.toInt = 60 := ti_ne c174; have := (h49).1; have := (h49).2; omega)) (fun c174 => ?_)
            have q175 : x39.toInt = 60 := ti_eq c174
            refine lv_iload_n hx hb dX12_compare_121 rfl (lv_at hl 0 rfl) ?_
            refine lv_if_eq (tgt := 129) hx hb dX12_compare_122 (by decide) (fun _ => ?_) (fun h => absurd h (by decide))
            refine lv_iconst (v := 0) hx hb dX12_compare_129 (by decide) ?_
            refine lv_goto (tgt := 152) hx hb dX12_compare_130 (by decide) ?_
            refine lv_istore (lv' := [(4, .int 0), (3, .int 0), (2, .int x43), (1, .int x39), (0, .ref (base + a0))]) hx hb dX12_compare_152 hl (by decide) rfl (fun ls hl => ?_)
            refine lv_aload_n hx hb dX12_compare_154 rfl (lv_at hl 4 rfl) ?_
            have k176 : M160 a0 13 = x52 := (Fr.kp (k := 13) f157 hk_a0 rfl).trans k53
            have k177 : M160 a0 1 = tp := ((Fr.kp (k := 1) f157 hk_a0 rfl).trans ((Fr.kp (k := 1) f54 hk_a0 rfl).trans ((Fr.kp (k := 1) f33 hk_a0 rfl).trans (Fr.kp (k := 1) f5 hk_a0 rfl)))).trans k_tp
            have q178 : x52.toInt ≤ tp.toInt := by
              have := (h_le).1; have := (h_le).2; have := (h_md).1; have := (h_md).2; have := (h_nx).1; have := (h_nx).2; have := (h150).1; have := (h150).2; have := (h_tq).1; have := (h_tq).2; have := (h14).1; have := (h14).2; have := (h22).1; have := (h22).2; have := (h49).1; have := (h49).2; have := (h42).1; have := (h42).2; have := (h149).1; have := (h149).2; omega
            have k179 : M160 a0 16 = tq := ((Fr.kp (k := 16) f157 hk_a0 rfl).trans ((Fr.kp (k := 16) f54 hk_a0 rfl).trans ((Fr.kp (k := 16) f33 hk_a0 rfl).trans (Fr.kp (k := 16) f5 hk_a0 rfl)))).trans k_tq
            have k180 : M160 lg tq.toNatClampNeg = x24 := ((Fr.kpa f157 hk_lg rfl tq.toNatClampNeg).trans ((Fr.kpa f54 hk_lg rfl tq.toNatClampNeg).trans (Fr.kpa f33 hk_lg rfl tq.toNatClampNeg))).trans k26
            have q181 : ((sb : Nat) : Int) ≤ x24.toInt := by
              have := (h_le).1; have := (h_le).2; have := (h_md).1; have := (h_md).2; have := (h_nx).1; have := (h_nx).2; have := (h150).1; have := (h150).2; have := (h_tq).1; have := (h_tq).2; have := (h14).1; have := (h14).2; have := (h22).1; have := (h22).2; have := (h42).1; have := (h42).2; omega
            have q182 : ((sh + 1 : Nat) : Int) ≤ x167.toInt := by
              have := (h_le).1; have := (h_le).2; have := (h_md).1; have := (h_md).2; have := (h_nx).1; have := (h_nx).2; have := (h150).1; have := (h150).2; have := (h_tq).1; have := (h_tq).2; have := (h166).1; have := (h166).2; have := (h23).1; have := (h23).2; omega
            have q183 : x24.toInt ≤ x52.toInt := by
              have := (h_le).1; have := (h_le).2; have := (h_md).1; have := (h_md).2; have := (h_nx).1; have := (h_nx).2; have := (h150).1; have := (h150).2; have := (h_tq).1; have := (h_tq).2; have := (h14).1; have := (h14).2; have := (h22).1; have := (h22).2; have := (h49).1; have := (h49).2; have := (h42).1; have := (h42).2; have := (h149).1; have := (h149).2; omega
            refine tw_goi hS (md_runV (As := []) (rest := []) hx hb hml hown hW hK hT hS.1 (t_X12_sum l D cy tx base Z K N M160 Ra J159 hS.2.1 a0 hz_a0 hk_a0 tb k_tb x52 k176 (iv_mono h149 (by decide) (by decide)) tp k177 (iv_mono h150 (by decide) (by decide)) q178 lg k_lg sg k_sg tq k179 (iv_mono h_tq (by decide) (by decide)) x24 k180 (iv_mono h22 (by decide) (by decide)) x167 k168 (iv_mono h166 (by decide) (by decide)) (sb) (sh + 1) (SEG.to (SEG.to (SEG.to z30 (fun j _ _ => Fr.kpa f33 hk_sg rfl j)) (fun j _ _ => Fr.kpa f54 hk_sg rfl j)) (fun j _ _ => Fr.kpa f157 hk_sg rfl j)) q181 q182 q183) s_X12_216 ⟨rfl, rfl, ⟨Nat.le_of_ble_eq_true rfl, Nat.le_of_ble_eq_true rfl⟩, ⟨Nat.le_of_ble_eq_true rfl, Nat.le_of_ble_eq_true rfl⟩⟩ hz_a0 hk_a0 (by decide) rfl rfl hl.1 rfl (Nat.le_of_ble_eq_true rfl) dX12_compare_155) rfl rfl (fun x190 H locs M187 R188 J186 hS f184 g185 E189 => ?_)
            have eR188 := Fr.nil g185 rfl
            subst eR188
            obtain ⟨h_x190, p191, p192⟩ := E189
            obtain ⟨zf192, ⟨x194, k195, h193, zu192, zv192⟩, zc192⟩ := p191
            have k195 : M187 a0 13 = x194 := k195
            have zw192 := ti_cl (x := le) (by have := h_le.1; omega); have zy192 := ti_cl (x := x24) (by have := (h22).1; omega)
            have z196 : ∀ j, j < 400 * tq.toNatClampNeg + le.toNatClampNeg → M187 sg j = Ma sg j := fun j hj => (zf192 j (by omega)).trans ((fun j hj => (Fr.kpa f157 hk_sg rfl j).trans ((fun j hj => (Fr.kpa f54 hk_sg rfl j).trans ((fun j hj => (Fr.kpa f33 hk_sg rfl j).trans (z17 j hj)) j hj)) j hj)) j hj)
            have z197 : x190 = 0 → ¬ (M187 a0 14).toInt = 0 := p192
            refine lv_if_ne (tgt := 163) hx hb dX12_compare_158 (by decide) (fun c198 => ?_) (fun c198 => ?_)
            · have q199 : ¬ x190.toInt = 0 := ti_ne c198
              have h200 : iv 1 1 x190 := ⟨by have := (h_x190).1; have := ((iv_c (c := 0) (n := 0) (by decide))).1; have := ((iv_c (c := 0) (n := 0) (by decide))).2; omega, by have := (h_x190).2; have := ((iv_c (c := 0) (n := 0) (by decide))).1; have := ((iv_c (c := 0) (n := 0) (by decide))).2; omega⟩
              obtain ⟨x207, x203, x204, k208, k205, k206, h201, za200, zb200, zd200, z209⟩ := zc192 c198
              have ze200 : x207 = x194 := k208.symm.trans k195
              rw [ze200] at zb200
              have k205 : M187 lg tq.toNatClampNeg = x203 := k205
              have k206 : M187 a0 17 = x204 := k206
              have h202 : iv 0 60 x204 := by rw [← k206]; exact hS.2.1.int hz_a0 hk_a0 (show rgI 12 17 = (0, 60) from rfl)
              have z210 : SEG M187 sg tq.toNatClampNeg sb x203.toNatClampNeg (sh + 2) := SEG.cast z209 rfl (by omega)
              refine lv_aload_n hx hb dX12_compare_163 rfl (lv_at hl 4 rfl) ?_
              refine lv_bipush (v := 6) hx hb dX12_compare_164 (by decide) ?_
              refine lv_iload hx hb dX12_compare_166 (lv_at hl 0 rfl) ?_
              refine lv_iadd hx hb dX12_compare_168 ?_
              refine md_top (y := 6) (by decide) ?_
              refine lv_iconst (v := 0) hx hb dX12_compare_169 (by decide) ?_
              have k211 : M187 a0 16 = tq := ((Fr.kp (k := 16) f184 hk_a0 rfl).trans ((Fr.kp (k := 16) f157 hk_a0 rfl).trans ((Fr.kp (k := 16) f54 hk_a0 rfl).trans ((Fr.kp (k := 16) f33 hk_a0 rfl).trans (Fr.kp (k := 16) f5 hk_a0 rfl))))).trans k_tq
              have h212 : iv 0 399 x203 := by
                have := (h_le).1; have := (h_le).2; have := (h_md).1; have := (h_md).2; have := (h_nx).1; have := (h_nx).2; have := (h150).1; have := (h150).2; have := (h_tq).1; have := (h_tq).2; have := (h14).1; have := (h14).2; have := (h193).1; have := (h193).2; have := (h201).1; have := (h201).2; have := (h22).1; have := (h22).2; have := (h49).1; have := (h49).2; have := (h42).1; have := (h42).2; have := (h149).1; have := (h149).2; exact ⟨by omega, by omega⟩
              refine tw_gov hS (md_runV (As := [.int 6, .int 0]) (rest := []) hx hb hml hown hW hK hT hS.1 (t_X12_puts l D cy tx base Z K N M187 Ra J186 hS.2.1 a0 hz_a0 hk_a0 6 (iv_mono (iv_c (c := 6) (n := 6) (by decide)) (by decide) (by decide)) 0 (iv_mono (iv_c (c := 0) (n := 0) (by decide)) (by decide) (by decide)) sg k_sg lg k_lg tq k211 (iv_mono h_tq (by decide) (by decide)) x203 k205 h212) s_X12_195 ⟨rfl, rfl, ⟨Nat.le_of_ble_eq_true rfl, Nat.le_of_ble_eq_true rfl⟩, ⟨Nat.le_of_ble_eq_true rfl, Nat.le_of_ble_eq_true rfl⟩⟩ hz_a0 hk_a0 (by decide) rfl rfl hl.1 rfl (Nat.le_of_ble_eq_true rfl) dX12_compare_170) rfl rfl (fun H locs M216 R217 J215 hS f213 g214 E218 => ?_)
              have eR217 := Fr.nil g214 rfl
              subst eR217
              have p219 := E218
              obtain ⟨x220, x222, zc219, zd219, zo219, k223, h221, zl219⟩ := p219
              have k223 : M216 lg tq.toNatClampNeg = x222 := k223
              have zt219 := ti_cl (x := tq) (by have := h_tq.1; omega); have zn219 := ti_cl (x := x203) (by have := (h201).1; omega); have zm219 := ti_cl (x := x222) (by have := (h221).1; omega)
              have q224 : (6 : Int32).toInt = 6 := (by decide)
              have q225 : (0 : Int32).toInt = 0 := (by decide)
              have k226 : M216 a0 17 = x204 := (Fr.kp (k := 17) f213 hk_a0 rfl).trans k206
              have zs219 := stp_two (h := sh + 2) (show x220.toInt = (6 : Int32).toInt + 16 * 0 by omega) (by have := ((iv_c (c := 6) (n := 6) (by decide))).1; have := ((iv_c (c := 6) (n := 6) (by decide))).2; have := ((iv_c (c := 0) (n := 0) (by decide))).1; have := ((iv_c (c := 0) (n := 0) (by decide))).2; omega) (by omega)
              have z227 : SEG M216 sg tq.toNatClampNeg sb x222.toNatClampNeg (sh + 1) := SEG.cast (SEG.ext z210 (by omega) zd219 zo219 zs219) (by omega) (by omega)
              have zw219 := ti_cl (x := le) (by have := h_le.1; omega)
              have z228 : ∀ j, j < 400 * tq.toNatClampNeg + le.toNatClampNeg → M216 sg j = Ma sg j := fun j hj => (zo219 j (by omega)).trans (z196 j hj)
              refine lv_iconst (v := 1) hx hb dX12_compare_173 (by decide) ?_
              have k229 : M216 a0 13 = x194 := (Fr.kp (k := 13) f213 hk_a0 rfl).trans k195
              have q230 : nx.toInt ≤ x194.toInt ∧ x194.toInt ≤ tp.toInt := by
                have := (h_le).1; have := (h_le).2; have := (h_md).1; have := (h_md).2; have := (h_nx).1; have := (h_nx).2; have := (h150).1; have := (h150).2; have := (h_tq).1; have := (h_tq).2; have := (h14).1; have := (h14).2; have := (h193).1; have := (h193).2; have := (h201).1; have := (h201).2; have := (h221).1; have := (h221).2; have := (h22).1; have := (h22).2; have := (h49).1; have := (h49).2; have := (h42).1; have := (h42).2; have := (h149).1; have := (h149).2; omega
              have q231 : le.toInt ≤ x222.toInt ∧ x222.toInt - le.toInt ≤ x194.toInt - nx.toInt ∧ ((sh + 1 : Nat) : Int) ≤ x204.toInt := by
                have := (h_le).1; have := (h_le).2; have := (h_md).1; have := (h_md).2; have := (h_nx).1; have := (h_nx).2; have := (h150).1; have := (h150).2; have := (h_tq).1; have := (h_tq).2; have := (h14).1; have := (h14).2; have := (h193).1; have := (h193).2; have := (h201).1; have := (h201).2; have := (h202).1; have := (h202).2; have := (h221).1; have := (h221).2; have := (h22).1; have := (h22).2; have := (h49).1; have := (h49).2; have := (h42).1; have := (h42).2; have := (h149).1; have := (h149).2; omega
              exact tw_endz hx hb hr hlocks hK hT hS hQ rfl (⟨(iv_mono (iv_c (c := 1) (n := 1) (by decide)) (by decide) (by decide)), ⟨z228, ⟨x194, k229, h193, q230.1, q230.2⟩, fun _ => ⟨x194, x222, x204, k229, k223, k226, (iv_mono h221 (by decide) (by decide)), q231.1, q231.2.1, q231.2.2, z227⟩⟩, (fun h => absurd h (by decide))⟩) dX12_compare_174
            · have q232 : x190.toInt = 0 := ti_eq c198
              have z233 := z197 c198
              have h234 : iv 0 0 x190 := ⟨by have := (h_x190).1; have := ((iv_c (c := 0) (n := 0) (by decide))).1; omega, by have := (h_x190).2; have := ((iv_c (c := 0) (n := 0) (by decide))).2; omega⟩
              refine lv_iconst (v := 0) hx hb dX12_compare_161 (by decide) ?_
              have q235 : nx.toInt ≤ x194.toInt ∧ x194.toInt ≤ tp.toInt := by
                have := (h_le).1; have := (h_le).2; have := (h_md).1; have := (h_md).2; have := (h_nx).1; have := (h_nx).2; have := (h150).1; have := (h150).2; have := (h_tq).1; have := (h_tq).2; have := (h14).1; have := (h14).2; have := (h193).1; have := (h193).2; have := (h22).1; have := (h22).2; have := (h49).1; have := (h49).2; have := (h42).1; have := (h42).2; have := (h149).1; have := (h149).2; omega
              exact tw_endz hx hb hr hlocks hK hT hS hQ rfl (⟨(iv_mono (iv_c (c := 0) (n := 0) (by decide)) (by decide) (by decide)), ⟨z196, ⟨x194, k195, h193, q235.1, q235.2⟩, (fun h => absurd rfl h)⟩, (fun _ => (show ¬ (M187 a0 14).toInt = 0 from z233))⟩) dX12_compare_162
          · have q236 : x163.toInt = 0 := ti_eq c171
            have z237 := z170 c171
            have h238 : iv 0 0 x163 := ⟨by have := (h_x163).1; have := ((iv_c (c := 0) (n := 0) (by decide))).1; omega, by have := (h_x163).2; have := ((iv_c (c := 0) (n := 0) (by decide))).2; omega⟩
            refine lv_iconst (v := 0) hx hb dX12_compare_113 (by decide) ?_
            have k239 : M160 a0 13 = x52 := (Fr.kp (k := 13) f157 hk_a0 rfl).trans k53
            have q240 : nx.toInt ≤ x52.toInt ∧ x52.toInt ≤ tp.toInt := by
              have := (h_le).1; have := (h_le).2; have := (h_md).1; have := (h_md).2; have := (h_nx).1; have := (h_nx).2; have := (h150).1; have := (h150).2; have := (h_tq).1; have := (h_tq).2; have := (h14).1; have := (h14).2; have := (h22).1; have := (h22).2; have := (h49).1; have := (h49).2; have := (h42).1; have := (h42).2; have := (h149).1; have := (h149).2; omega
            exact tw_endz hx hb hr hlocks hK hT hS hQ rfl (⟨(iv_mono (iv_c (c := 0) (n := 0) (by decide)) (by decide) (by decide)), ⟨(fun j hj => (Fr.kpa f157 hk_sg rfl j).trans ((fun j hj => (Fr.kpa f54 hk_sg rfl j).trans ((fun j hj => (Fr.kpa f33 hk_sg rfl j).trans (z17 j hj)) j hj)) j hj)), ⟨x52, k239, (iv_mono h149 (by decide) (by decide)), q240.1, q240.2⟩, (fun h => absurd rfl h)⟩, (fun _ => (show ¬ (M160 a0 14).toInt = 0 from z237))⟩) dX12_compare_114
        · have q241 : x153.toInt = 61 := ti_eq c154
          have h242 : iv 61 61 x153 := ⟨by have := (h151).1; have := ((iv_c (c := 61) (n := 61) (by decide))).1; omega, by have := (h151).2; have := ((iv_c (c := 61) (n := 61) (by decide))).2; omega⟩
          refine lv_iconst (v := 1) hx hb dX12_compare_85 (by decide) ?_
          refine lv_goto (tgt := 90) hx hb dX12_compare_86 (by decide) ?_
          refine lv_istore_n (lv' := [(3, .int 1), (2, .int x43), (1, .int x39), (0, .ref (base + a0))]) hx hb dX12_compare_90 rfl hl (by decide) rfl (fun ls hl => ?_)
          refine lv_iload_n hx hb dX12_compare_91 rfl (lv_at hl 0 rfl) ?_
          refine lv_if_eq (tgt := 105) hx hb dX12_compare_92 (by decide) (fun h => absurd h (by decide)) (fun _ => ?_)
          refine lv_aload_n hx hb dX12_compare_95 rfl (lv_at hl 3 rfl) ?_
          refine lv_dup hx hb dX12_compare_96 rfl ?_
          refine tw_getk hx hb hW hown hK hS f_X12_127_11 hz_a0 hk_a0 (v := x52) k53 dX12_compare_97 ?_
          refine lv_iconst (v := 1) hx hb dX12_compare_100 (by decide) ?_
          refine tw_iadd (lo := 2) (hi := 400) hx hb h149 (iv_c (c := 1) (n := 1) (by decide)) ⟨by decide, by decide⟩ ⟨by decide, by decide⟩ dX12_compare_101 (fun x245 e244 h243 => ?_)
          have e244 : x245.toInt = x52.toInt + 1 := e244
          refine tw_puti hx hb hW hown hK hS f_X12_127_11 hz_a0 hk_a0 rfl rfl (lo := 0) (hi := 400) rfl (iv_mono h243 (by decide) (by decide)) rfl dX12_compare_102 (fun H locs M248 hS k246 f247 => ?_)
          refine lv_aload_n hx hb dX12_compare_105 rfl (lv_at hl 3 rfl) ?_
          refine lv_iload_n hx hb dX12_compare_106 rfl (lv_at hl 1 rfl) ?_
          have k249 : M248 a0 17 = x25 := ((Fr.kp (k := 17) f247 hk_a0 rfl).trans ((Fr.kp (k := 17) f54 hk_a0 rfl).trans (Fr.kp (k := 17) f33 hk_a0 rfl))).trans k27
          refine tw_goi hS (md_runV (As := [.int x43]) (rest := []) hx hb hml hown hW hK hT hS.1 (t_X12_makes l D cy tx base Z K N M248 Ra J35 hS.2.1 a0 hz_a0 hk_a0 x43 h42 x25 k249 (iv_mono h23 (by decide) (by decide))) s_X12_203 ⟨rfl, rfl, ⟨Nat.le_of_ble_eq_true rfl, Nat.le_of_ble_eq_true rfl⟩, ⟨Nat.le_of_ble_eq_true rfl, Nat.le_of_ble_eq_true rfl⟩⟩ hz_a0 hk_a0 (by decide) rfl rfl hl.1 rfl (Nat.le_of_ble_eq_true rfl) dX12_compare_107) rfl rfl (fun x256 H locs M253 R254 J252 hS f250 g251 E255 => ?_)
          have eR254 := Fr.nil g251 rfl
          subst eR254
          obtain ⟨h_x256, p257, p258⟩ := E255
          obtain ⟨x260, k261, h259, q262⟩ := p257
          have k261 : M253 a0 17 = x260 := k261
          have z263 : x256 = 0 → ¬ (M253 a0 14).toInt = 0 := p258
          refine lv_if_ne (tgt := 115) hx hb dX12_compare_110 (by decide) (fun c264 => ?_) (fun c264 => ?_)
          · have q265 : ¬ x256.toInt = 0 := ti_ne c264
            have h266 : iv 1 1 x256 := ⟨by have := (h_x256).1; have := ((iv_c (c := 0) (n := 0) (by decide))).1; have := ((iv_c (c := 0) (n := 0) (by decide))).2; omega, by have := (h_x256).2; have := ((iv_c (c := 0) (n := 0) (by decide))).1; have := ((iv_c (c := 0) (n := 0) (by decide))).2; omega⟩
            refine lv_iload_n hx hb dX12_compare_115 rfl (lv_at hl 2 rfl) ?_
            refine lv_bipush (v := 60) hx hb dX12_compare_116 (by decide) ?_
            refine lv_icmp_ne (tgt := 133) hx hb dX12_compare_118 (by decide) (fun c267 => False.elim (by have q : ¬ x39.toInt = 60 := ti_ne c267; have := (h49).1; have := (h49).2; omega)) (fun c267 => ?_)
            have q268 : x39.toInt = 60 := ti_eq c267
            refine lv_iload_n hx hb dX12_compare_121 rfl (lv_at hl 0 rfl) ?_
            refine lv_if_eq (tgt := 129) hx hb dX12_compare_122 (by decide) (fun h => absurd h (by decide)) (fun _ => ?_)
            refine lv_iconst (v := 1) hx hb dX12_compare_125 (by decide) ?_
            refine lv_goto (tgt := 152) hx hb dX12_compare_126 (by decide) ?_
            refine lv_istore (lv' := [(4, .int 1), (3, .int 1), (2, .int x43), (1, .int x39), (0, .ref (base + a0))]) hx hb dX12_compare_152 hl (by decide) rfl (fun ls hl => ?_)
            refine lv_aload_n hx hb dX12_compare_154 rfl (lv_at hl 4 rfl) ?_
            have k269 : M253 a0 13 = x245 := (Fr.kp (k := 13) f250 hk_a0 rfl).trans k246
            have k270 : M253 a0 1 = tp := ((Fr.kp (k := 1) f250 hk_a0 rfl).trans ((Fr.kp (k := 1) f247 hk_a0 rfl).trans ((Fr.kp (k := 1) f54 hk_a0 rfl).trans ((Fr.kp (k := 1) f33 hk_a0 rfl).trans (Fr.kp (k := 1) f5 hk_a0 rfl))))).trans k_tp
            have q271 : x245.toInt ≤ tp.toInt := by
              have := (h_le).1; have := (h_le).2; have := (h_md).1; have := (h_md).2; have := (h_nx).1; have := (h_nx).2; have := (h150).1; have := (h150).2; have := (h_tq).1; have := (h_tq).2; have := (h14).1; have := (h14).2; have := (h22).1; have := (h22).2; have := (h243).1; have := (h243).2; have := (h49).1; have := (h49).2; have := (h42).1; have := (h42).2; have := (h149).1; have := (h149).2; omega
            have k272 : M253 a0 16 = tq := ((Fr.kp (k := 16) f250 hk_a0 rfl).trans ((Fr.kp (k := 16) f247 hk_a0 rfl).trans ((Fr.kp (k := 16) f54 hk_a0 rfl).trans ((Fr.kp (k := 16) f33 hk_a0 rfl).trans (Fr.kp (k := 16) f5 hk_a0 rfl))))).trans k_tq
            have k273 : M253 lg tq.toNatClampNeg = x24 := ((Fr.kpa f250 hk_lg rfl tq.toNatClampNeg).trans ((Fr.kpa f247 hk_lg rfl tq.toNatClampNeg).trans ((Fr.kpa f54 hk_lg rfl tq.toNatClampNeg).trans (Fr.kpa f33 hk_lg rfl tq.toNatClampNeg)))).trans k26
            have q274 : ((sb : Nat) : Int) ≤ x24.toInt := by
              have := (h_le).1; have := (h_le).2; have := (h_md).1; have := (h_md).2; have := (h_nx).1; have := (h_nx).2; have := (h150).1; have := (h150).2; have := (h_tq).1; have := (h_tq).2; have := (h14).1; have := (h14).2; have := (h22).1; have := (h22).2; have := (h42).1; have := (h42).2; omega
            have q275 : ((sh + 1 : Nat) : Int) ≤ x260.toInt := by
              have := (h_le).1; have := (h_le).2; have := (h_md).1; have := (h_md).2; have := (h_nx).1; have := (h_nx).2; have := (h150).1; have := (h150).2; have := (h_tq).1; have := (h_tq).2; have := (h23).1; have := (h23).2; have := (h259).1; have := (h259).2; omega
            have q276 : x24.toInt ≤ x245.toInt := by
              have := (h_le).1; have := (h_le).2; have := (h_md).1; have := (h_md).2; have := (h_nx).1; have := (h_nx).2; have := (h150).1; have := (h150).2; have := (h_tq).1; have := (h_tq).2; have := (h14).1; have := (h14).2; have := (h22).1; have := (h22).2; have := (h243).1; have := (h243).2; have := (h49).1; have := (h49).2; have := (h42).1; have := (h42).2; have := (h149).1; have := (h149).2; omega
            refine tw_goi hS (md_runV (As := []) (rest := []) hx hb hml hown hW hK hT hS.1 (t_X12_sum l D cy tx base Z K N M253 Ra J252 hS.2.1 a0 hz_a0 hk_a0 tb k_tb x245 k269 (iv_mono h243 (by decide) (by decide)) tp k270 (iv_mono h150 (by decide) (by decide)) q271 lg k_lg sg k_sg tq k272 (iv_mono h_tq (by decide) (by decide)) x24 k273 (iv_mono h22 (by decide) (by decide)) x260 k261 (iv_mono h259 (by decide) (by decide)) (sb) (sh + 1) (SEG.to (SEG.to (SEG.to (SEG.to z30 (fun j _ _ => Fr.kpa f33 hk_sg rfl j)) (fun j _ _ => Fr.kpa f54 hk_sg rfl j)) (fun j _ _ => Fr.kpa f247 hk_sg rfl j)) (fun j _ _ => Fr.kpa f250 hk_sg rfl j)) q274 q275 q276) s_X12_216 ⟨rfl, rfl, ⟨Nat.le_of_ble_eq_true rfl, Nat.le_of_ble_eq_true rfl⟩, ⟨Nat.le_of_ble_eq_true rfl, Nat.le_of_ble_eq_true rfl⟩⟩ hz_a0 hk_a0 (by decide) rfl rfl hl.1 rfl (Nat.le_of_ble_eq_true rfl) dX12_compare_155) rfl rfl (fun x283 H locs M280 R281 J279 hS f277 g278 E282 => ?_)
            have eR281 := Fr.nil g278 rfl
            subst eR281
            obtain ⟨h_x283, p284, p285⟩ := E282
            obtain ⟨zf285, ⟨x287, k288, h286, zu285, zv285⟩, zc285⟩ := p284
            have k288 : M280 a0 13 = x287 := k288
            have zw285 := ti_cl (x := le) (by have := h_le.1; omega); have zy285 := ti_cl (x := x24) (by have := (h22).1; omega)
            have z289 : ∀ j, j < 400 * tq.toNatClampNeg + le.toNatClampNeg → M280 sg j = Ma sg j := fun j hj => (zf285 j (by omega)).trans ((fun j hj => (Fr.kpa f250 hk_sg rfl j).trans ((fun j hj => (Fr.kpa f247 hk_sg rfl j).trans ((fun j hj => (Fr.kpa f54 hk_sg rfl j).trans ((fun j hj => (Fr.kpa f33 hk_sg rfl j).trans (z17 j hj)) j hj)) j hj)) j hj)) j hj)
            have z290 : x283 = 0 → ¬ (M280 a0 14).toInt = 0 := p285
            refine lv_if_ne (tgt := 163) hx hb dX12_compare_158 (by decide) (fun c291 => ?_) (fun c291 => ?_)
            · have q292 : ¬ x283.toInt = 0 := ti_ne c291
              have h293 : iv 1 1 x283 := ⟨by have := (h_x283).1; have := ((iv_c (c := 0) (n := 0) (by decide))).1; have := ((iv_c (c := 0) (n := 0) (by decide))).2; omega, by have := (h_x283).2; have := ((iv_c (c := 0) (n := 0) (by decide))).1; have := ((iv_c (c := 0) (n := 0) (by decide))).2; omega⟩
              obtain ⟨x300, x296, x297, k301, k298, k299, h294, za293, zb293, zd293, z302⟩ := zc285 c291
              have ze293 : x300 = x287 := k301.symm.trans k288
              rw [ze293] at zb293
              have k298 : M280 lg tq.toNatClampNeg = x296 := k298
              have k299 : M280 a0 17 = x297 := k299
              have h295 : iv 0 60 x297 := by rw [← k299]; exact hS.2.1.int hz_a0 hk_a0 (show rgI 12 17 = (0, 60) from rfl)
              have z303 : SEG M280 sg tq.toNatClampNeg sb x296.toNatClampNeg (sh + 2) := SEG.cast z302 rfl (by omega)
              refine lv_aload_n hx hb dX12_compare_163 rfl (lv_at hl 4 rfl) ?_
              refine lv_bipush (v := 6) hx hb dX12_compare_164 (by decide) ?_
              refine lv_iload hx hb dX12_compare_166 (lv_at hl 0 rfl) ?_
              refine lv_iadd hx hb dX12_compare_168 ?_
              refine md_top (y := 7) (by decide) ?_
              refine lv_iconst (v := 0) hx hb dX12_compare_169 (by decide) ?_
              have k304 : M280 a0 16 = tq := ((Fr.kp (k := 16) f277 hk_a0 rfl).trans ((Fr.kp (k := 16) f250 hk_a0 rfl).trans ((Fr.kp (k := 16) f247 hk_a0 rfl).trans ((Fr.kp (k := 16) f54 hk_a0 rfl).trans ((Fr.kp (k := 16) f33 hk_a0 rfl).trans (Fr.kp (k := 16) f5 hk_a0 rfl)))))).trans k_tq
              have h305 : iv 0 399 x296 := by
                have := (h_le).1; have := (h_le).2; have := (h_md).1; have := (h_md).2; have := (h_nx).1; have := (h_nx).2; have := (h150).1; have := (h150).2; have := (h_tq).1; have := (h_tq).2; have := (h14).1; have := (h14).2; have := (h22).1; have := (h22).2; have := (h243).1; have := (h243).2; have := (h286).1; have := (h286).2; have := (h294).1; have := (h294).2; have := (h49).1; have := (h49).2; have := (h42).1; have := (h42).2; have := (h149).1; have := (h149).2; exact ⟨by omega, by omega⟩
              refine tw_gov hS (md_runV (As := [.int 7, .int 0]) (rest := []) hx hb hml hown hW hK hT hS.1 (t_X12_puts l D cy tx base Z K N M280 Ra J279 hS.2.1 a0 hz_a0 hk_a0 7 (iv_mono (iv_c (c := 7) (n := 7) (by decide)) (by decide) (by decide)) 0 (iv_mono (iv_c (c := 0) (n := 0) (by decide)) (by decide) (by decide)) sg k_sg lg k_lg tq k304 (iv_mono h_tq (by decide) (by decide)) x296 k298 h305) s_X12_195 ⟨rfl, rfl, ⟨Nat.le_of_ble_eq_true rfl, Nat.le_of_ble_eq_true rfl⟩, ⟨Nat.le_of_ble_eq_true rfl, Nat.le_of_ble_eq_true rfl⟩⟩ hz_a0 hk_a0 (by decide) rfl rfl hl.1 rfl (Nat.le_of_ble_eq_true rfl) dX12_compare_170) rfl rfl (fun H locs M309 R310 J308 hS f306 g307 E311 => ?_)
              have eR310 := Fr.nil g307 rfl
              subst eR310
              have p312 := E311
              obtain ⟨x313, x315, zc312, zd312, zo312, k316, h314, zl312⟩ := p312
              have k316 : M309 lg tq.toNatClampNeg = x315 := k316
              have zt312 := ti_cl (x := tq) (by have := h_tq.1; omega); have zn312 := ti_cl (x := x296) (by have := (h294).1; omega); have zm312 := ti_cl (x := x315) (by have := (h314).1; omega)
              have q317 : (7 : Int32).toInt = 7 := (by decide)
              have q318 : (0 : Int32).toInt = 0 := (by decide)
              have k319 : M309 a0 17 = x297 := (Fr.kp (k := 17) f306 hk_a0 rfl).trans k299
              have zs312 := stp_two (h := sh + 2) (show x313.toInt = (7 : Int32).toInt + 16 * 0 by omega) (by have := ((iv_c (c := 7) (n := 7) (by decide))).1; have := ((iv_c (c := 7) (n := 7) (by decide))).2; have := ((iv_c (c := 0) (n := 0) (by decide))).1; have := ((iv_c (c := 0) (n := 0) (by decide))).2; omega) (by omega)
              have z320 : SEG M309 sg tq.toNatClampNeg sb x315.toNatClampNeg (sh + 1) := SEG.cast (SEG.ext z303 (by omega) zd312 zo312 zs312) (by omega) (by omega)
              have zw312 := ti_cl (x := le) (by have := h_le.1; omega)
              have z321 : ∀ j, j < 400 * tq.toNatClampNeg + le.toNatClampNeg → M309 sg j = Ma sg j := fun j hj => (zo312 j (by omega)).trans (z289 j hj)
              refine lv_iconst (v := 1) hx hb dX12_compare_173 (by decide) ?_
              have k322 : M309 a0 13 = x287 := (Fr.kp (k := 13) f306 hk_a0 rfl).trans k288
              have q323 : nx.toInt ≤ x287.toInt ∧ x287.toInt ≤ tp.toInt := by
                have := (h_le).1; have := (h_le).2; have := (h_md).1; have := (h_md).2; have := (h_nx).1; have := (h_nx).2; have := (h150).1; have := (h150).2; have := (h_tq).1; have := (h_tq).2; have := (h14).1; have := (h14).2; have := (h22).1; have := (h22).2; have := (h243).1; have := (h243).2; have := (h286).1; have := (h286).2; have := (h294).1; have := (h294).2; have := (h314).1; have := (h314).2; have := (h49).1; have := (h49).2; have := (h42).1; have := (h42).2; have := (h149).1; have := (h149).2; omega
              have q324 : le.toInt ≤ x315.toInt ∧ x315.toInt - le.toInt ≤ x287.toInt - nx.toInt ∧ ((sh + 1 : Nat) : Int) ≤ x297.toInt := by
                have := (h_le).1; have := (h_le).2; have := (h_md).1; have := (h_md).2; have := (h_nx).1; have := (h_nx).2; have := (h150).1; have := (h150).2; have := (h_tq).1; have := (h_tq).2; have := (h14).1; have := (h14).2; have := (h22).1; have := (h22).2; have := (h243).1; have := (h243).2; have := (h286).1; have := (h286).2; have := (h294).1; have := (h294).2; have := (h295).1; have := (h295).2; have := (h314).1; have := (h314).2; have := (h49).1; have := (h49).2; have := (h42).1; have := (h42).2; have := (h149).1; have := (h149).2; omega
              exact tw_endz hx hb hr hlocks hK hT hS hQ rfl (⟨(iv_mono (iv_c (c := 1) (n := 1) (by decide)) (by decide) (by decide)), ⟨z321, ⟨x287, k322, h286, q323.1, q323.2⟩, fun _ => ⟨x287, x315, x297, k322, k316, k319, (iv_mono h314 (by decide) (by decide)), q324.1, q324.2.1, q324.2.2, z320⟩⟩, (fun h => absurd h (by decide))⟩) dX12_compare_174
            · have q325 : x283.toInt = 0 := ti_eq c291
              have z326 := z290 c291
              have h327 : iv 0 0 x283 := ⟨by have := (h_x283).1; have := ((iv_c (c := 0) (n := 0) (by decide))).1; omega, by have := (h_x283).2; have := ((iv_c (c := 0) (n := 0) (by decide))).2; omega⟩
              refine lv_iconst (v := 0) hx hb dX12_compare_161 (by decide) ?_
              have q328 : nx.toInt ≤ x287.toInt ∧ x287.toInt ≤ tp.toInt := by
                have := (h_le).1; have := (h_le).2; have := (h_md).1; have := (h_md).2; have := (h_nx).1; have := (h_nx).2; have := (h150).1; have := (h150).2; have := (h_tq).1; have := (h_tq).2; have := (h14).1; have := (h14).2; have := (h22).1; have := (h22).2; have := (h243).1; have := (h243).2; have := (h286).1; have := (h286).2; have := (h49).1; have := (h49).2; have := (h42).1; have := (h42).2; have := (h149).1; have := (h149).2; omega
              exact tw_endz hx hb hr hlocks hK hT hS hQ rfl (⟨(iv_mono (iv_c (c := 0) (n := 0) (by decide)) (by decide) (by decide)), ⟨z289, ⟨x287, k288, h286, q328.1, q328.2⟩, (fun h => absurd rfl h)⟩, (fun _ => (show ¬ (M280 a0 14).toInt = 0 from z326))⟩) dX12_compare_162
          · have q329 : x256.toInt = 0 := ti_eq c264
            have z330 := z263 c264
            have h331 : iv 0 0 x256 := ⟨by have := (h_x256).1; have := ((iv_c (c := 0) (n := 0) (by decide))).1; omega, by have := (h_x256).2; have := ((iv_c (c := 0) (n := 0) (by decide))).2; omega⟩
            refine lv_iconst (v := 0) hx hb dX12_compare_113 (by decide) ?_
            have k332 : M253 a0 13 = x245 := (Fr.kp (k := 13) f250 hk_a0 rfl).trans k246
            have q333 : nx.toInt ≤ x245.toInt ∧ x245.toInt ≤ tp.toInt := by
              have := (h_le).1; have := (h_le).2; have := (h_md).1; have := (h_md).2; have := (h_nx).1; have := (h_nx).2; have := (h150).1; have := (h150).2; have := (h_tq).1; have := (h_tq).2; have := (h14).1; have := (h14).2; have := (h22).1; have := (h22).2; have := (h243).1; have := (h243).2; have := (h49).1; have := (h49).2; have := (h42).1; have := (h42).2; have := (h149).1; have := (h149).2; omega
            exact tw_endz hx hb hr hlocks hK hT hS hQ rfl (⟨(iv_mono (iv_c (c := 0) (n := 0) (by decide)) (by decide) (by decide)), ⟨(fun j hj => (Fr.kpa f250 hk_sg rfl j).trans ((fun j hj => (Fr.kpa f247 hk_sg rfl j).trans ((fun j hj => (Fr.kpa f54 hk_sg rfl j).trans ((fun j hj => (Fr.kpa f33 hk_sg rfl j).trans (z17 j hj)) j hj)) j hj)) j hj)), ⟨x245, k332, (iv_mono h243 (by decide) (by decide)), q333.1, q333.2⟩, (fun h => absurd rfl h)⟩, (fun _ => (show ¬ (M253 a0 14).toInt = 0 from z330))⟩) dX12_compare_114
    · have q334 : ¬ x39.toInt = 60 := ti_ne c47
      refine lv_iload_n hx hb dX12_compare_25 rfl (lv_at hl 1 rfl) ?_
      refine lv_bipush (v := 61) hx hb dX12_compare_26 (by decide) ?_
      refine lv_icmp_eq (tgt := 44) hx hb dX12_compare_28 (by decide) (fun c335 => ?_) (fun c335 => ?_)
      · have q336 : x39.toInt = 61 := ti_eq c335
        have h337 : iv 61 61 x39 := ⟨by have := (h_x39).1; have := ((iv_c (c := 61) (n := 61) (by decide))).1; omega, by have := (h_x39).2; have := ((iv_c (c := 61) (n := 61) (by decide))).2; omega⟩
        refine lv_aload_n hx hb dX12_compare_44 rfl (lv_at hl 2 rfl) ?_
        refine lv_dup hx hb dX12_compare_45 rfl ?_
        refine tw_getk hx hb hW hown hK hS f_X12_127_11 hz_a0 hk_a0 (v := x43) k41 dX12_compare_46 ?_
        refine lv_iconst (v := 1) hx hb dX12_compare_49 (by decide) ?_
        refine tw_iadd (lo := 1) (hi := 401) hx hb h42 (iv_c (c := 1) (n := 1) (by decide)) ⟨by decide, by decide⟩ ⟨by decide, by decide⟩ dX12_compare_50 (fun x340 e339 h338 => ?_)
        have e339 : x340.toInt = x43.toInt + 1 := e339
        have h343 : iv 0 400 x340 := by
          have := (h_le).1; have := (h_le).2; have := (h_md).1; have := (h_md).2; have := (h_nx).1; have := (h_nx).2; have := (h_tp).1; have := (h_tp).2; have := (h_tq).1; have := (h_tq).2; have := (h14).1; have := (h14).2; have := (h22).1; have := (h22).2; have := (h338).1; have := (h338).2; have := (h337).1; have := (h337).2; have := (h42).1; have := (h42).2; exact ⟨by omega, by omega⟩
        refine tw_puti hx hb hW hown hK hS f_X12_127_11 hz_a0 hk_a0 rfl rfl (lo := 0) (hi := 400) rfl h343 rfl dX12_compare_51 (fun H locs M344 hS k341 f342 => ?_)
        refine lv_iload_n hx hb dX12_compare_54 rfl (lv_at hl 1 rfl) ?_
        refine lv_bipush (v := 61) hx hb dX12_compare_55 (by decide) ?_
        refine lv_icmp_eq (tgt := 89) hx hb dX12_compare_57 (by decide) (fun c345 => ?_) (fun c345 => False.elim (by have q : ¬ x39.toInt = 61 := ti_ne c345; have := (h337).1; have := (h337).2; omega))
        have q346 : x39.toInt = 61 := ti_eq c345
        refine lv_iconst (v := 0) hx hb dX12_compare_89 (by decide) ?_
        refine lv_istore_n (lv' := [(3, .int 0), (2, .int x43), (1, .int x39), (0, .ref (base + a0))]) hx hb dX12_compare_90 rfl hl (by decide) rfl (fun ls hl => ?_)
        refine lv_iload_n hx hb dX12_compare_91 rfl (lv_at hl 0 rfl) ?_
        refine lv_if_eq (tgt := 105) hx hb dX12_compare_92 (by decide) (fun _ => ?_) (fun h => absurd h (by decide))
        refine lv_aload_n hx hb dX12_compare_105 rfl (lv_at hl 3 rfl) ?_
        refine lv_iload_n hx hb dX12_compare_106 rfl (lv_at hl 1 rfl) ?_
        have k347 : M344 a0 17 = x25 := ((Fr.kp (k := 17) f342 hk_a0 rfl).trans (Fr.kp (k := 17) f33 hk_a0 rfl)).trans k27
        refine tw_goi hS (md_runV (As := [.int x43]) (rest := []) hx hb hml hown hW hK hT hS.1 (t_X12_makes l D cy tx base Z K N M344 Ra J35 hS.2.1 a0 hz_a0 hk_a0 x43 h42 x25 k347 (iv_mono h23 (by decide) (by decide))) s_X12_203 ⟨rfl, rfl, ⟨Nat.le_of_ble_eq_true rfl, Nat.le_of_ble_eq_true rfl⟩, ⟨Nat.le_of_ble_eq_true rfl, Nat.le_of_ble_eq_true rfl⟩⟩ hz_a0 hk_a0 (by decide) rfl rfl hl.1 rfl (Nat.le_of_ble_eq_true rfl) dX12_compare_107) rfl rfl (fun x354 H locs M351 R352 J350 hS f348 g349 E353 => ?_)
        have eR352 := Fr.nil g349 rfl
        subst eR352
        obtain ⟨h_x354, p355, p356⟩ := E353
        obtain ⟨x358, k359, h357, q360⟩ := p355
        have k359 : M351 a0 17 = x358 := k359
        have z361 : x354 = 0 → ¬ (M351 a0 14).toInt = 0 := p356
        refine lv_if_ne (tgt := 115) hx hb dX12_compare_110 (by decide) (fun c362 => ?_) (fun c362 => ?_)
        · have q363 : ¬ x354.toInt = 0 := ti_ne c362
          have h364 : iv 1 1 x354 := ⟨by have := (h_x354).1; have := ((iv_c (c := 0) (n := 0) (by decide))).1; have := ((iv_c (c := 0) (n := 0) (by decide))).2; omega, by have := (h_x354).2; have := ((iv_c (c := 0) (n := 0) (by decide))).1; have := ((iv_c (c := 0) (n := 0) (by decide))).2; omega⟩
          refine lv_iload_n hx hb dX12_compare_115 rfl (lv_at hl 2 rfl) ?_
          refine lv_bipush (v := 60) hx hb dX12_compare_116 (by decide) ?_
          refine lv_icmp_ne (tgt := 133) hx hb dX12_compare_118 (by decide) (fun c365 => ?_) (fun c365 => False.elim (by have q : x39.toInt = 60 := ti_eq c365; have := (h337).1; have := (h337).2; omega))
          have q366 : ¬ x39.toInt = 60 := ti_ne c365
          refine lv_iload_n hx hb dX12_compare_133 rfl (lv_at hl 2 rfl) ?_
          refine lv_bipush (v := 61) hx hb dX12_compare_134 (by decide) ?_
          refine lv_icmp_ne (tgt := 143) hx hb dX12_compare_136 (by decide) (fun c367 => False.elim (by have q : ¬ x39.toInt = 61 := ti_ne c367; have := (h337).1; have := (h337).2; omega)) (fun c367 => ?_)
          have q368 : x39.toInt = 61 := ti_eq c367
          refine lv_iconst (v := 2) hx hb dX12_compare_139 (by decide) ?_
          refine lv_goto (tgt := 152) hx hb dX12_compare_140 (by decide) ?_
          refine lv_istore (lv' := [(4, .int 2), (3, .int 0), (2, .int x43), (1, .int x39), (0, .ref (base + a0))]) hx hb dX12_compare_152 hl (by decide) rfl (fun ls hl => ?_)
          refine lv_aload_n hx hb dX12_compare_154 rfl (lv_at hl 4 rfl) ?_
          have k369 : M351 a0 13 = x340 := (Fr.kp (k := 13) f348 hk_a0 rfl).trans k341
          have h370 : iv 0 400 x340 := by
            have := (h_le).1; have := (h_le).2; have := (h_md).1; have := (h_md).2; have := (h_nx).1; have := (h_nx).2; have := (h_tp).1; have := (h_tp).2; have := (h_tq).1; have := (h_tq).2; have := (h14).1; have := (h14).2; have := (h22).1; have := (h22).2; have := (h338).1; have := (h338).2; have := (h337).1; have := (h337).2; have := (h42).1; have := (h42).2; exact ⟨by omega, by omega⟩
          have k371 : M351 a0 1 = tp := ((Fr.kp (k := 1) f348 hk_a0 rfl).trans ((Fr.kp (k := 1) f342 hk_a0 rfl).trans ((Fr.kp (k := 1) f33 hk_a0 rfl).trans (Fr.kp (k := 1) f5 hk_a0 rfl)))).trans k_tp
          have q372 : x340.toInt ≤ tp.toInt := by
            have := (h_le).1; have := (h_le).2; have := (h_md).1; have := (h_md).2; have := (h_nx).1; have := (h_nx).2; have := (h_tp).1; have := (h_tp).2; have := (h_tq).1; have := (h_tq).2; have := (h14).1; have := (h14).2; have := (h22).1; have := (h22).2; have := (h338).1; have := (h338).2; have := (h337).1; have := (h337).2; have := (h42).1; have := (h42).2; omega
          have k373 : M351 a0 16 = tq := ((Fr.kp (k := 16) f348 hk_a0 rfl).trans ((Fr.kp (k := 16) f342 hk_a0 rfl).trans ((Fr.kp (k := 16) f33 hk_a0 rfl).trans (Fr.kp (k := 16) f5 hk_a0 rfl)))).trans k_tq
          have k374 : M351 lg tq.toNatClampNeg = x24 := ((Fr.kpa f348 hk_lg rfl tq.toNatClampNeg).trans ((Fr.kpa f342 hk_lg rfl tq.toNatClampNeg).trans (Fr.kpa f33 hk_lg rfl tq.toNatClampNeg))).trans k26
          have q375 : ((sb : Nat) : Int) ≤ x24.toInt := by
            have := (h_le).1; have := (h_le).2; have := (h_md).1; have := (h_md).2; have := (h_nx).1; have := (h_nx).2; have := (h_tp).1; have := (h_tp).2; have := (h_tq).1; have := (h_tq).2; have := (h14).1; have := (h14).2; have := (h22).1; have := (h22).2; have := (h42).1; have := (h42).2; omega
          have q376 : ((sh + 1 : Nat) : Int) ≤ x358.toInt := by
            have := (h_le).1; have := (h_le).2; have := (h_md).1; have := (h_md).2; have := (h_nx).1; have := (h_nx).2; have := (h_tp).1; have := (h_tp).2; have := (h_tq).1; have := (h_tq).2; have := (h23).1; have := (h23).2; have := (h357).1; have := (h357).2; omega
          have q377 : x24.toInt ≤ x340.toInt := by
            have := (h_le).1; have := (h_le).2; have := (h_md).1; have := (h_md).2; have := (h_nx).1; have := (h_nx).2; have := (h_tp).1; have := (h_tp).2; have := (h_tq).1; have := (h_tq).2; have := (h14).1; have := (h14).2; have := (h22).1; have := (h22).2; have := (h338).1; have := (h338).2; have := (h337).1; have := (h337).2; have := (h42).1; have := (h42).2; omega
          refine tw_goi hS (md_runV (As := []) (rest := []) hx hb hml hown hW hK hT hS.1 (t_X12_sum l D cy tx base Z K N M351 Ra J350 hS.2.1 a0 hz_a0 hk_a0 tb k_tb x340 k369 h370 tp k371 (iv_mono h_tp (by decide) (by decide)) q372 lg k_lg sg k_sg tq k373 (iv_mono h_tq (by decide) (by decide)) x24 k374 (iv_mono h22 (by decide) (by decide)) x358 k359 (iv_mono h357 (by decide) (by decide)) (sb) (sh + 1) (SEG.to (SEG.to (SEG.to z30 (fun j _ _ => Fr.kpa f33 hk_sg rfl j)) (fun j _ _ => Fr.kpa f342 hk_sg rfl j)) (fun j _ _ => Fr.kpa f348 hk_sg rfl j)) q375 q376 q377) s_X12_216 ⟨rfl, rfl, ⟨Nat.le_of_ble_eq_true rfl, Nat.le_of_ble_eq_true rfl⟩, ⟨Nat.le_of_ble_eq_true rfl, Nat.le_of_ble_eq_true rfl⟩⟩ hz_a0 hk_a0 (by decide) rfl rfl hl.1 rfl (Nat.le_of_ble_eq_true rfl) dX12_compare_155) rfl rfl (fun x384 H locs M381 R382 J380 hS f378 g379 E383 => ?_)
          have eR382 := Fr.nil g379 rfl
          subst eR382
          obtain ⟨h_x384, p385, p386⟩ := E383
          obtain ⟨zf386, ⟨x388, k389, h387, zu386, zv386⟩, zc386⟩ := p385
          have k389 : M381 a0 13 = x388 := k389
          have zw386 := ti_cl (x := le) (by have := h_le.1; omega); have zy386 := ti_cl (x := x24) (by have := (h22).1; omega)
          have z390 : ∀ j, j < 400 * tq.toNatClampNeg + le.toNatClampNeg → M381 sg j = Ma sg j := fun j hj => (zf386 j (by omega)).trans ((fun j hj => (Fr.kpa f348 hk_sg rfl j).trans ((fun j hj => (Fr.kpa f342 hk_sg rfl j).trans ((fun j hj => (Fr.kpa f33 hk_sg rfl j).trans (z17 j hj)) j hj)) j hj)) j hj)
          have z391 : x384 = 0 → ¬ (M381 a0 14).toInt = 0 := p386
          refine lv_if_ne (tgt := 163) hx hb dX12_compare_158 (by decide) (fun c392 => ?_) (fun c392 => ?_)
          · have q393 : ¬ x384.toInt = 0 := ti_ne c392
            have h394 : iv 1 1 x384 := ⟨by have := (h_x384).1; have := ((iv_c (c := 0) (n := 0) (by decide))).1; have := ((iv_c (c := 0) (n := 0) (by decide))).2; omega, by have := (h_x384).2; have := ((iv_c (c := 0) (n := 0) (by decide))).1; have := ((iv_c (c := 0) (n := 0) (by decide))).2; omega⟩
            obtain ⟨x401, x397, x398, k402, k399, k400, h395, za394, zb394, zd394, z403⟩ := zc386 c392
            have ze394 : x401 = x388 := k402.symm.trans k389
            rw [ze394] at zb394
            have k399 : M381 lg tq.toNatClampNeg = x397 := k399
            have k400 : M381 a0 17 = x398 := k400
            have h396 : iv 0 60 x398 := by rw [← k400]; exact hS.2.1.int hz_a0 hk_a0 (show rgI 12 17 = (0, 60) from rfl)
            have z404 : SEG M381 sg tq.toNatClampNeg sb x397.toNatClampNeg (sh + 2) := SEG.cast z403 rfl (by omega)
            refine lv_aload_n hx hb dX12_compare_163 rfl (lv_at hl 4 rfl) ?_
            refine lv_bipush (v := 6) hx hb dX12_compare_164 (by decide) ?_
            refine lv_iload hx hb dX12_compare_166 (lv_at hl 0 rfl) ?_
            refine lv_iadd hx hb dX12_compare_168 ?_
            refine md_top (y := 8) (by decide) ?_
            refine lv_iconst (v := 0) hx hb dX12_compare_169 (by decide) ?_
            have k405 : M381 a0 16 = tq := ((Fr.kp (k := 16) f378 hk_a0 rfl).trans ((Fr.kp (k := 16) f348 hk_a0 rfl).trans ((Fr.kp (k := 16) f342 hk_a0 rfl).trans ((Fr.kp (k := 16) f33 hk_a0 rfl).trans (Fr.kp (k := 16) f5 hk_a0 rfl))))).trans k_tq
            have h406 : iv 0 399 x397 := by
              have := (h_le).1; have := (h_le).2; have := (h_md).1; have := (h_md).2; have := (h_nx).1; have := (h_nx).2; have := (h_tp).1; have := (h_tp).2; have := (h_tq).1; have := (h_tq).2; have := (h14).1; have := (h14).2; have := (h22).1; have := (h22).2; have := (h338).1; have := (h338).2; have := (h387).1; have := (h387).2; have := (h337).1; have := (h337).2; have := (h395).1; have := (h395).2; have := (h42).1; have := (h42).2; exact ⟨by omega, by omega⟩
            refine tw_gov hS (md_runV (As := [.int 8, .int 0]) (rest := []) hx hb hml hown hW hK hT hS.1 (t_X12_puts l D cy tx base Z K N M381 Ra J380 hS.2.1 a0 hz_a0 hk_a0 8 (iv_mono (iv_c (c := 8) (n := 8) (by decide)) (by decide) (by decide)) 0 (iv_mono (iv_c (c := 0) (n := 0) (by decide)) (by decide) (by decide)) sg k_sg lg k_lg tq k405 (iv_mono h_tq (by decide) (by decide)) x397 k399 h406) s_X12_195 ⟨rfl, rfl, ⟨Nat.le_of_ble_eq_true rfl, Nat.le_of_ble_eq_true rfl⟩, ⟨Nat.le_of_ble_eq_true rfl, Nat.le_of_ble_eq_true rfl⟩⟩ hz_a0 hk_a0 (by decide) rfl rfl hl.1 rfl (Nat.le_of_ble_eq_true rfl) dX12_compare_170) rfl rfl (fun H locs M410 R411 J409 hS f407 g408 E412 => ?_)
            have eR411 := Fr.nil g408 rfl
            subst eR411
            have p413 := E412
            obtain ⟨x414, x416, zc413, zd413, zo413, k417, h415, zl413⟩ := p413
            have k417 : M410 lg tq.toNatClampNeg = x416 := k417
            have zt413 := ti_cl (x := tq) (by have := h_tq.1; omega); have zn413 := ti_cl (x := x397) (by have := (h395).1; omega); have zm413 := ti_cl (x := x416) (by have := (h415).1; omega)
            have q418 : (8 : Int32).toInt = 8 := (by decide)
            have q419 : (0 : Int32).toInt = 0 := (by decide)
            have k420 : M410 a0 17 = x398 := (Fr.kp (k := 17) f407 hk_a0 rfl).trans k400
            have zs413 := stp_two (h := sh + 2) (show x414.toInt = (8 : Int32).toInt + 16 * 0 by omega) (by have := ((iv_c (c := 8) (n := 8) (by decide))).1; have := ((iv_c (c := 8) (n := 8) (by decide))).2; have := ((iv_c (c := 0) (n := 0) (by decide))).1; have := ((iv_c (c := 0) (n := 0) (by decide))).2; omega) (by omega)
            have z421 : SEG M410 sg tq.toNatClampNeg sb x416.toNatClampNeg (sh + 1) := SEG.cast (SEG.ext z404 (by omega) zd413 zo413 zs413) (by omega) (by omega)
            have zw413 := ti_cl (x := le) (by have := h_le.1; omega)
            have z422 : ∀ j, j < 400 * tq.toNatClampNeg + le.toNatClampNeg → M410 sg j = Ma sg j := fun j hj => (zo413 j (by omega)).trans (z390 j hj)
            refine lv_iconst (v := 1) hx hb dX12_compare_173 (by decide) ?_
            have k423 : M410 a0 13 = x388 := (Fr.kp (k := 13) f407 hk_a0 rfl).trans k389
            have q424 : nx.toInt ≤ x388.toInt ∧ x388.toInt ≤ tp.toInt := by
              have := (h_le).1; have := (h_le).2; have := (h_md).1; have := (h_md).2; have := (h_nx).1; have := (h_nx).2; have := (h_tp).1; have := (h_tp).2; have := (h_tq).1; have := (h_tq).2; have := (h14).1; have := (h14).2; have := (h22).1; have := (h22).2; have := (h338).1; have := (h338).2; have := (h387).1; have := (h387).2; have := (h337).1; have := (h337).2; have := (h395).1; have := (h395).2; have := (h415).1; have := (h415).2; have := (h42).1; have := (h42).2; omega
            have q425 : le.toInt ≤ x416.toInt ∧ x416.toInt - le.toInt ≤ x388.toInt - nx.toInt ∧ ((sh + 1 : Nat) : Int) ≤ x398.toInt := by
              have := (h_le).1; have := (h_le).2; have := (h_md).1; have := (h_md).2; have := (h_nx).1; have := (h_nx).2; have := (h_tp).1; have := (h_tp).2; have := (h_tq).1; have := (h_tq).2; have := (h14).1; have := (h14).2; have := (h22).1; have := (h22).2; have := (h338).1; have := (h338).2; have := (h387).1; have := (h387).2; have := (h337).1; have := (h337).2; have := (h395).1; have := (h395).2; have := (h396).1; have := (h396).2; have := (h415).1; have := (h415).2; have := (h42).1; have := (h42).2; omega
            exact tw_endz hx hb hr hlocks hK hT hS hQ rfl (⟨(iv_mono (iv_c (c := 1) (n := 1) (by decide)) (by decide) (by decide)), ⟨z422, ⟨x388, k423, h387, q424.1, q424.2⟩, fun _ => ⟨x388, x416, x398, k423, k417, k420, (iv_mono h415 (by decide) (by decide)), q425.1, q425.2.1, q425.2.2, z421⟩⟩, (fun h => absurd h (by decide))⟩) dX12_compare_174
          · have q426 : x384.toInt = 0 := ti_eq c392
            have z427 := z391 c392
            have h428 : iv 0 0 x384 := ⟨by have := (h_x384).1; have := ((iv_c (c := 0) (n := 0) (by decide))).1; omega, by have := (h_x384).2; have := ((iv_c (c := 0) (n := 0) (by decide))).2; omega⟩
            refine lv_iconst (v := 0) hx hb dX12_compare_161 (by decide) ?_
            have q429 : nx.toInt ≤ x388.toInt ∧ x388.toInt ≤ tp.toInt := by
              have := (h_le).1; have := (h_le).2; have := (h_md).1; have := (h_md).2; have := (h_nx).1; have := (h_nx).2; have := (h_tp).1; have := (h_tp).2; have := (h_tq).1; have := (h_tq).2; have := (h14).1; have := (h14).2; have := (h22).1; have := (h22).2; have := (h338).1; have := (h338).2; have := (h387).1; have := (h387).2; have := (h337).1; have := (h337).2; have := (h42).1; have := (h42).2; omega
            exact tw_endz hx hb hr hlocks hK hT hS hQ rfl (⟨(iv_mono (iv_c (c := 0) (n := 0) (by decide)) (by decide) (by decide)), ⟨z390, ⟨x388, k389, h387, q429.1, q429.2⟩, (fun h => absurd rfl h)⟩, (fun _ => (show ¬ (M381 a0 14).toInt = 0 from z427))⟩) dX12_compare_162
        · have q430 : x354.toInt = 0 := ti_eq c362
          have z431 := z361 c362
          have h432 : iv 0 0 x354 := ⟨by have := (h_x354).1; have := ((iv_c (c := 0) (n := 0) (by decide))).1; omega, by have := (h_x354).2; have := ((iv_c (c := 0) (n := 0) (by decide))).2; omega⟩
          refine lv_iconst (v := 0) hx hb dX12_compare_113 (by decide) ?_
          have k433 : M351 a0 13 = x340 := (Fr.kp (k := 13) f348 hk_a0 rfl).trans k341
          have q434 : nx.toInt ≤ x340.toInt ∧ x340.toInt ≤ tp.toInt := by
            have := (h_le).1; have := (h_le).2; have := (h_md).1; have := (h_md).2; have := (h_nx).1; have := (h_nx).2; have := (h_tp).1; have := (h_tp).2; have := (h_tq).1; have := (h_tq).2; have := (h14).1; have := (h14).2; have := (h22).1; have := (h22).2; have := (h338).1; have := (h338).2; have := (h337).1; have := (h337).2; have := (h42).1; have := (h42).2; omega
          exact tw_endz hx hb hr hlocks hK hT hS hQ rfl (⟨(iv_mono (iv_c (c := 0) (n := 0) (by decide)) (by decide) (by decide)), ⟨(fun j hj => (Fr.kpa f348 hk_sg rfl j).trans ((fun j hj => (Fr.kpa f342 hk_sg rfl j).trans ((fun j hj => (Fr.kpa f33 hk_sg rfl j).trans (z17 j hj)) j hj)) j hj)), ⟨x340, k433, (iv_mono h338 (by decide) (by decide)), q434.1, q434.2⟩, (fun h => absurd rfl h)⟩, (fun _ => (show ¬ (M351 a0 14).toInt = 0 from z431))⟩) dX12_compare_114
      · have q435 : ¬ x39.toInt = 61 := ti_ne c335
        refine lv_iload_n hx hb dX12_compare_31 rfl (lv_at hl 1 rfl) ?_
        refine lv_bipush (v := 62) hx hb dX12_compare_32 (by decide) ?_
        refine lv_icmp_eq (tgt := 44) hx hb dX12_compare_34 (by decide) (fun c436 => ?_) (fun c436 => ?_)
        · have q437 : x39.toInt = 62 := ti_eq c436
          have h438 : iv 62 62 x39 := ⟨by have := (h_x39).1; have := ((iv_c (c := 62) (n := 62) (by decide))).1; omega, by have := (h_x39).2; have := ((iv_c (c := 62) (n := 62) (by decide))).2; omega⟩
          refine lv_aload_n hx hb dX12_compare_44 rfl (lv_at hl 2 rfl) ?_
          refine lv_dup hx hb dX12_compare_45 rfl ?_
          refine tw_getk hx hb hW hown hK hS f_X12_127_11 hz_a0 hk_a0 (v := x43) k41 dX12_compare_46 ?_
          refine lv_iconst (v := 1) hx hb dX12_compare_49 (by decide) ?_
          refine tw_iadd (lo := 1) (hi := 401) hx hb h42 (iv_c (c := 1) (n := 1) (by decide)) ⟨by decide, by decide⟩ ⟨by decide, by decide⟩ dX12_compare_50 (fun x441 e440 h439 => ?_)
          have e440 : x441.toInt = x43.toInt + 1 := e440
          have h444 : iv 0 400 x441 := by
            have := (h_le).1; have := (h_le).2; have := (h_md).1; have := (h_md).2; have := (h_nx).1; have := (h_nx).2; have := (h_tp).1; have := (h_tp).2; have := (h_tq).1; have := (h_tq).2; have := (h14).1; have := (h14).2; have := (h22).1; have := (h22).2; have := (h438).1; have := (h438).2; have := (h42).1; have := (h42).2; have := (h439).1; have := (h439).2; exact ⟨by omega, by omega⟩
          refine tw_puti hx hb hW hown hK hS f_X12_127_11 hz_a0 hk_a0 rfl rfl (lo := 0) (hi := 400) rfl h444 rfl dX12_compare_51 (fun H locs M445 hS k442 f443 => ?_)
          refine lv_iload_n hx hb dX12_compare_54 rfl (lv_at hl 1 rfl) ?_
          refine lv_bipush (v := 61) hx hb dX12_compare_55 (by decide) ?_
          refine lv_icmp_eq (tgt := 89) hx hb dX12_compare_57 (by decide) (fun c446 => False.elim (by have q : x39.toInt = 61 := ti_eq c446; have := (h438).1; have := (h438).2; omega)) (fun c446 => ?_)
          have q447 : ¬ x39.toInt = 61 := ti_ne c446
          refine lv_aload_n hx hb dX12_compare_60 rfl (lv_at hl 2 rfl) ?_
          refine tw_getk hx hb hW hown hK hS f_X12_127_11 hz_a0 hk_a0 (v := x441) k442 dX12_compare_61 ?_
          refine lv_aload_n hx hb dX12_compare_64 rfl (lv_at hl 2 rfl) ?_
          have k448 : M445 a0 1 = tp := ((Fr.kp (k := 1) f443 hk_a0 rfl).trans ((Fr.kp (k := 1) f33 hk_a0 rfl).trans (Fr.kp (k := 1) f5 hk_a0 rfl))).trans k_tp
          refine tw_getk hx hb hW hown hK hS f_X12_116_11 hz_a0 hk_a0 (v := tp) k448 dX12_compare_65 ?_
          refine lv_icmp_ge (tgt := 89) hx hb dX12_compare_68 (by decide) (fun c449 => ?_) (fun c449 => ?_)
          · have q450 : tp.toInt ≤ x441.toInt := ti_le c449
            refine lv_iconst (v := 0) hx hb dX12_compare_89 (by decide) ?_
            refine lv_istore_n (lv' := [(3, .int 0), (2, .int x43), (1, .int x39), (0, .ref (base + a0))]) hx hb dX12_compare_90 rfl hl (by decide) rfl (fun ls hl => ?_)
            refine lv_iload_n hx hb dX12_compare_91 rfl (lv_at hl 0 rfl) ?_
            refine lv_if_eq (tgt := 105) hx hb dX12_compare_92 (by decide) (fun _ => ?_) (fun h => absurd h (by decide))
            refine lv_aload_n hx hb dX12_compare_105 rfl (lv_at hl 3 rfl) ?_
            refine lv_iload_n hx hb dX12_compare_106 rfl (lv_at hl 1 rfl) ?_
            have k451 : M445 a0 17 = x25 := ((Fr.kp (k := 17) f443 hk_a0 rfl).trans (Fr.kp (k := 17) f33 hk_a0 rfl)).trans k27
            refine tw_goi hS (md_runV (As := [.int x43]) (rest := []) hx hb hml hown hW hK hT hS.1 (t_X12_makes l D cy tx base Z K N M445 Ra J35 hS.2.1 a0 hz_a0 hk_a0 x43 h42 x25 k451 (iv_mono h23 (by decide) (by decide))) s_X12_203 ⟨rfl, rfl, ⟨Nat.le_of_ble_eq_true rfl, Nat.le_of_ble_eq_true rfl⟩, ⟨Nat.le_of_ble_eq_true rfl, Nat.le_of_ble_eq_true rfl⟩⟩ hz_a0 hk_a0 (by decide) rfl rfl hl.1 rfl (Nat.le_of_ble_eq_true rfl) dX12_compare_107) rfl rfl (fun x458 H locs M455 R456 J454 hS f452 g453 E457 => ?_)
            have eR456 := Fr.nil g453 rfl
            subst eR456
            obtain ⟨h_x458, p459, p460⟩ := E457
            obtain ⟨x462, k463, h461, q464⟩ := p459
            have k463 : M455 a0 17 = x462 := k463
            have z465 : x458 = 0 → ¬ (M455 a0 14).toInt = 0 := p460
            refine lv_if_ne (tgt := 115) hx hb dX12_compare_110 (by decide) (fun c466 => ?_) (fun c466 => ?_)
            · have q467 : ¬ x458.toInt = 0 := ti_ne c466
              have h468 : iv 1 1 x458 := ⟨by have := (h_x458).1; have := ((iv_c (c := 0) (n := 0) (by decide))).1; have := ((iv_c (c := 0) (n := 0) (by decide))).2; omega, by have := (h_x458).2; have := ((iv_c (c := 0) (n := 0) (by decide))).1; have := ((iv_c (c := 0) (n := 0) (by decide))).2; omega⟩
              refine lv_iload_n hx hb dX12_compare_115 rfl (lv_at hl 2 rfl) ?_
              refine lv_bipush (v := 60) hx hb dX12_compare_116 (by decide) ?_
              refine lv_icmp_ne (tgt := 133) hx hb dX12_compare_118 (by decide) (fun c469 => ?_) (fun c469 => False.elim (by have q : x39.toInt = 60 := ti_eq c469; have := (h438).1; have := (h438).2; omega))
              have q470 : ¬ x39.toInt = 60 := ti_ne c469
              refine lv_iload_n hx hb dX12_compare_133 rfl (lv_at hl 2 rfl) ?_
              refine lv_bipush (v := 61) hx hb dX12_compare_134 (by decide) ?_
              refine lv_icmp_ne (tgt := 143) hx hb dX12_compare_136 (by decide) (fun c471 => ?_) (fun c471 => False.elim (by have q : x39.toInt = 61 := ti_eq c471; have := (h438).1; have := (h438).2; omega))
              have q472 : ¬ x39.toInt = 61 := ti_ne c471
              refine lv_iload_n hx hb dX12_compare_143 rfl (lv_at hl 0 rfl) ?_
              refine lv_if_eq (tgt := 151) hx hb dX12_compare_144 (by decide) (fun _ => ?_) (fun h => absurd h (by decide))
              refine lv_iconst (v := 4) hx hb dX12_compare_151 (by decide) ?_
              refine lv_istore (lv' := [(4, .int 4), (3, .int 0), (2, .int x43), (1, .int x39), (0, .ref (base + a0))]) hx hb dX12_compare_152 hl (by decide) rfl (fun ls hl => ?_)
              refine lv_aload_n hx hb dX12_compare_154 rfl (lv_at hl 4 rfl) ?_
              have k473 : M455 a0 13 = x441 := (Fr.kp (k := 13) f452 hk_a0 rfl).trans k442
              have h474 : iv 0 400 x441 := by
                have := (h_le).1; have := (h_le).2; have := (h_md).1; have := (h_md).2; have := (h_nx).1; have := (h_nx).2; have := (h_tp).1; have := (h_tp).2; have := (h_tq).1; have := (h_tq).2; have := (h14).1; have := (h14).2; have := (h22).1; have := (h22).2; have := (h438).1; have := (h438).2; have := (h42).1; have := (h42).2; have := (h439).1; have := (h439).2; exact ⟨by omega, by omega⟩
              have k475 : M455 a0 1 = tp := ((Fr.kp (k := 1) f452 hk_a0 rfl).trans ((Fr.kp (k := 1) f443 hk_a0 rfl).trans ((Fr.kp (k := 1) f33 hk_a0 rfl).trans (Fr.kp (k := 1) f5 hk_a0 rfl)))).trans k_tp
              have q476 : x441.toInt ≤ tp.toInt := by
                have := (h_le).1; have := (h_le).2; have := (h_md).1; have := (h_md).2; have := (h_nx).1; have := (h_nx).2; have := (h_tp).1; have := (h_tp).2; have := (h_tq).1; have := (h_tq).2; have := (h14).1; have := (h14).2; have := (h22).1; have := (h22).2; have := (h438).1; have := (h438).2; have := (h42).1; have := (h42).2; have := (h439).1; have := (h439).2; omega
              have k477 : M455 a0 16 = tq := ((Fr.kp (k := 16) f452 hk_a0 rfl).trans ((Fr.kp (k := 16) f443 hk_a0 rfl).trans ((Fr.kp (k := 16) f33 hk_a0 rfl).trans (Fr.kp (k := 16) f5 hk_a0 rfl)))).trans k_tq
              have k478 : M455 lg tq.toNatClampNeg = x24 := ((Fr.kpa f452 hk_lg rfl tq.toNatClampNeg).trans ((Fr.kpa f443 hk_lg rfl tq.toNatClampNeg).trans (Fr.kpa f33 hk_lg rfl tq.toNatClampNeg))).trans k26
              have q479 : ((sb : Nat) : Int) ≤ x24.toInt := by
                have := (h_le).1; have := (h_le).2; have := (h_md).1; have := (h_md).2; have := (h_nx).1; have := (h_nx).2; have := (h_tp).1; have := (h_tp).2; have := (h_tq).1; have := (h_tq).2; have := (h14).1; have := (h14).2; have := (h22).1; have := (h22).2; have := (h42).1; have := (h42).2; omega
              have q480 : ((sh + 1 : Nat) : Int) ≤ x462.toInt := by
                have := (h_le).1; have := (h_le).2; have := (h_md).1; have := (h_md).2; have := (h_nx).1; have := (h_nx).2; have := (h_tp).1; have := (h_tp).2; have := (h_tq).1; have := (h_tq).2; have := (h23).1; have := (h23).2; have := (h461).1; have := (h461).2; omega
              have q481 : x24.toInt ≤ x441.toInt := by
                have := (h_le).1; have := (h_le).2; have := (h_md).1; have := (h_md).2; have := (h_nx).1; have := (h_nx).2; have := (h_tp).1; have := (h_tp).2; have := (h_tq).1; have := (h_tq).2; have := (h14).1; have := (h14).2; have := (h22).1; have := (h22).2; have := (h438).1; have := (h438).2; have := (h42).1; have := (h42).2; have := (h439).1; have := (h439).2; omega
              refine tw_goi hS (md_runV (As := []) (rest := []) hx hb hml hown hW hK hT hS.1 (t_X12_sum l D cy tx base Z K N M455 Ra J454 hS.2.1 a0 hz_a0 hk_a0 tb k_tb x441 k473 h474 tp k475 (iv_mono h_tp (by decide) (by decide)) q476 lg k_lg sg k_sg tq k477 (iv_mono h_tq (by decide) (by decide)) x24 k478 (iv_mono h22 (by decide) (by decide)) x462 k463 (iv_mono h461 (by decide) (by decide)) (sb) (sh + 1) (SEG.to (SEG.to (SEG.to z30 (fun j _ _ => Fr.kpa f33 hk_sg rfl j)) (fun j _ _ => Fr.kpa f443 hk_sg rfl j)) (fun j _ _ => Fr.kpa f452 hk_sg rfl j)) q479 q480 q481) s_X12_216 ⟨rfl, rfl, ⟨Nat.le_of_ble_eq_true rfl, Nat.le_of_ble_eq_true rfl⟩, ⟨Nat.le_of_ble_eq_true rfl, Nat.le_of_ble_eq_true rfl⟩⟩ hz_a0 hk_a0 (by decide) rfl rfl hl.1 rfl (Nat.le_of_ble_eq_true rfl) dX12_compare_155) rfl rfl (fun x488 H locs M485 R486 J484 hS f482 g483 E487 => ?_)
              have eR486 := Fr.nil g483 rfl
              subst eR486
              obtain ⟨h_x488, p489, p490⟩ := E487
              obtain ⟨zf490, ⟨x492, k493, h491, zu490, zv490⟩, zc490⟩ := p489
              have k493 : M485 a0 13 = x492 := k493
              have zw490 := ti_cl (x := le) (by have := h_le.1; omega); have zy490 := ti_cl (x := x24) (by have := (h22).1; omega)
              have z494 : ∀ j, j < 400 * tq.toNatClampNeg + le.toNatClampNeg → M485 sg j = Ma sg j := fun j hj => (zf490 j (by omega)).trans ((fun j hj => (Fr.kpa f452 hk_sg rfl j).trans ((fun j hj => (Fr.kpa f443 hk_sg rfl j).trans ((fun j hj => (Fr.kpa f33 hk_sg rfl j).trans (z17 j hj)) j hj)) j hj)) j hj)
              have z495 : x488 = 0 → ¬ (M485 a0 14).toInt = 0 := p490
              refine lv_if_ne (tgt := 163) hx hb dX12_compare_158 (by decide) (fun c496 => ?_) (fun c496 => ?_)
              · have q497 : ¬ x488.toInt = 0 := ti_ne c496
                have h498 : iv 1 1 x488 := ⟨by have := (h_x488).1; have := ((iv_c (c := 0) (n := 0) (by decide))).1; have := ((iv_c (c := 0) (n := 0) (by decide))).2; omega, by have := (h_x488).2; have := ((iv_c (c := 0) (n := 0) (by decide))).1; have := ((iv_c (c := 0) (n := 0) (by decide))).2; omega⟩
                obtain ⟨x505, x501, x502, k506, k503, k504, h499, za498, zb498, zd498, z507⟩ := zc490 c496
                have ze498 : x505 = x492 := k506.symm.trans k493
                rw [ze498] at zb498
                have k503 : M485 lg tq.toNatClampNeg = x501 := k503
                have k504 : M485 a0 17 = x502 := k504
                have h500 : iv 0 60 x502 := by rw [← k504]; exact hS.2.1.int hz_a0 hk_a0 (show rgI 12 17 = (0, 60) from rfl)
                have z508 : SEG M485 sg tq.toNatClampNeg sb x501.toNatClampNeg (sh + 2) := SEG.cast z507 rfl (by omega)
                refine lv_aload_n hx hb dX12_compare_163 rfl (lv_at hl 4 rfl) ?_
                refine lv_bipush (v := 6) hx hb dX12_compare_164 (by decide) ?_
                refine lv_iload hx hb dX12_compare_166 (lv_at hl 0 rfl) ?_
                refine lv_iadd hx hb dX12_compare_168 ?_
                refine md_top (y := 10) (by decide) ?_
                refine lv_iconst (v := 0) hx hb dX12_compare_169 (by decide) ?_
                have k509 : M485 a0 16 = tq := ((Fr.kp (k := 16) f482 hk_a0 rfl).trans ((Fr.kp (k := 16) f452 hk_a0 rfl).trans ((Fr.kp (k := 16) f443 hk_a0 rfl).trans ((Fr.kp (k := 16) f33 hk_a0 rfl).trans (Fr.kp (k := 16) f5 hk_a0 rfl))))).trans k_tq
                have h510 : iv 0 399 x501 := by
                  have := (h_le).1; have := (h_le).2; have := (h_md).1; have := (h_md).2; have := (h_nx).1; have := (h_nx).2; have := (h_tp).1; have := (h_tp).2; have := (h_tq).1; have := (h_tq).2; have := (h14).1; have := (h14).2; have := (h22).1; have := (h22).2; have := (h438).1; have := (h438).2; have := (h42).1; have := (h42).2; have := (h439).1; have := (h439).2; have := (h491).1; have := (h491).2; have := (h499).1; have := (h499).2; exact ⟨by omega, by omega⟩
                refine tw_gov hS (md_runV (As := [.int 10, .int 0]) (rest := []) hx hb hml hown hW hK hT hS.1 (t_X12_puts l D cy tx base Z K N M485 Ra J484 hS.2.1 a0 hz_a0 hk_a0 10 (iv_mono (iv_c (c := 10) (n := 10) (by decide)) (by decide) (by decide)) 0 (iv_mono (iv_c (c := 0) (n := 0) (by decide)) (by decide) (by decide)) sg k_sg lg k_lg tq k509 (iv_mono h_tq (by decide) (by decide)) x501 k503 h510) s_X12_195 ⟨rfl, rfl, ⟨Nat.le_of_ble_eq_true rfl, Nat.le_of_ble_eq_true rfl⟩, ⟨Nat.le_of_ble_eq_true rfl, Nat.le_of_ble_eq_true rfl⟩⟩ hz_a0 hk_a0 (by decide) rfl rfl hl.1 rfl (Nat.le_of_ble_eq_true rfl) dX12_compare_170) rfl rfl (fun H locs M514 R515 J513 hS f511 g512 E516 => ?_)
                have eR515 := Fr.nil g512 rfl
                subst eR515
                have p517 := E516
                obtain ⟨x518, x520, zc517, zd517, zo517, k521, h519, zl517⟩ := p517
                have k521 : M514 lg tq.toNatClampNeg = x520 := k521
                have zt517 := ti_cl (x := tq) (by have := h_tq.1; omega); have zn517 := ti_cl (x := x501) (by have := (h499).1; omega); have zm517 := ti_cl (x := x520) (by have := (h519).1; omega)
                have q522 : (10 : Int32).toInt = 10 := (by decide)
                have q523 : (0 : Int32).toInt = 0 := (by decide)
                have k524 : M514 a0 17 = x502 := (Fr.kp (k := 17) f511 hk_a0 rfl).trans k504
                have zs517 := stp_two (h := sh + 2) (show x518.toInt = (10 : Int32).toInt + 16 * 0 by omega) (by have := ((iv_c (c := 10) (n := 10) (by decide))).1; have := ((iv_c (c := 10) (n := 10) (by decide))).2; have := ((iv_c (c := 0) (n := 0) (by decide))).1; have := ((iv_c (c := 0) (n := 0) (by decide))).2; omega) (by omega)
                have z525 : SEG M514 sg tq.toNatClampNeg sb x520.toNatClampNeg (sh + 1) := SEG.cast (SEG.ext z508 (by omega) zd517 zo517 zs517) (by omega) (by omega)
                have zw517 := ti_cl (x := le) (by have := h_le.1; omega)
                have z526 : ∀ j, j < 400 * tq.toNatClampNeg + le.toNatClampNeg → M514 sg j = Ma sg j := fun j hj => (zo517 j (by omega)).trans (z494 j hj)
                refine lv_iconst (v := 1) hx hb dX12_compare_173 (by decide) ?_
                have k527 : M514 a0 13 = x492 := (Fr.kp (k := 13) f511 hk_a0 rfl).trans k493
                have q528 : nx.toInt ≤ x492.toInt ∧ x492.toInt ≤ tp.toInt := by
                  have := (h_le).1; have := (h_le).2; have := (h_md).1; have := (h_md).2; have := (h_nx).1; have := (h_nx).2; have := (h_tp).1; have := (h_tp).2; have := (h_tq).1; have := (h_tq).2; have := (h14).1; have := (h14).2; have := (h22).1; have := (h22).2; have := (h438).1; have := (h438).2; have := (h42).1; have := (h42).2; have := (h439).1; have := (h439).2; have := (h491).1; have := (h491).2; have := (h499).1; have := (h499).2; have := (h519).1; have := (h519).2; omega
                have q529 : le.toInt ≤ x520.toInt ∧ x520.toInt - le.toInt ≤ x492.toInt - nx.toInt ∧ ((sh + 1 : Nat) : Int) ≤ x502.toInt := by
                  have := (h_le).1; have := (h_le).2; have := (h_md).1; have := (h_md).2; have := (h_nx).1; have := (h_nx).2; have := (h_tp).1; have := (h_tp).2; have := (h_tq).1; have := (h_tq).2; have := (h14).1; have := (h14).2; have := (h22).1; have := (h22).2; have := (h438).1; have := (h438).2; have := (h42).1; have := (h42).2; have := (h439).1; have := (h439).2; have := (h491).1; have := (h491).2; have := (h499).1; have := (h499).2; have := (h500).1; have := (h500).2; have := (h519).1; have := (h519).2; omega
                exact tw_endz hx hb hr hlocks hK hT hS hQ rfl (⟨(iv_mono (iv_c (c := 1) (n := 1) (by decide)) (by decide) (by decide)), ⟨z526, ⟨x492, k527, h491, q528.1, q528.2⟩, fun _ => ⟨x492, x520, x502, k527, k521, k524, (iv_mono h519 (by decide) (by decide)), q529.1, q529.2.1, q529.2.2, z525⟩⟩, (fun h => absurd h (by decide))⟩) dX12_compare_174
              · have q530 : x488.toInt = 0 := ti_eq c496
                have z531 := z495 c496
                have h532 : iv 0 0 x488 := ⟨by have := (h_x488).1; have := ((iv_c (c := 0) (n := 0) (by decide))).1; omega, by have := (h_x488).2; have := ((iv_c (c := 0) (n := 0) (by decide))).2; omega⟩
                refine lv_iconst (v := 0) hx hb dX12_compare_161 (by decide) ?_
                have q533 : nx.toInt ≤ x492.toInt ∧ x492.toInt ≤ tp.toInt := by
                  have := (h_le).1; have := (h_le).2; have := (h_md).1; have := (h_md).2; have := (h_nx).1; have := (h_nx).2; have := (h_tp).1; have := (h_tp).2; have := (h_tq).1; have := (h_tq).2; have := (h14).1; have := (h14).2; have := (h22).1; have := (h22).2; have := (h438).1; have := (h438).2; have := (h42).1; have := (h42).2; have := (h439).1; have := (h439).2; have := (h491).1; have := (h491).2; omega
                exact tw_endz hx hb hr hlocks hK hT hS hQ rfl (⟨(iv_mono (iv_c (c := 0) (n := 0) (by decide)) (by decide) (by decide)), ⟨z494, ⟨x492, k493, h491, q533.1, q533.2⟩, (fun h => absurd rfl h)⟩, (fun _ => (show ¬ (M485 a0 14).toInt = 0 from z531))⟩) dX12_compare_162
            · have q534 : x458.toInt = 0 := ti_eq c466
              have z535 := z465 c466
              have h536 : iv 0 0 x458 := ⟨by have := (h_x458).1; have := ((iv_c (c := 0) (n := 0) (by decide))).1; omega, by have := (h_x458).2; have := ((iv_c (c := 0) (n := 0) (by decide))).2; omega⟩
              refine lv_iconst (v := 0) hx hb dX12_compare_113 (by decide) ?_
              have k537 : M455 a0 13 = x441 := (Fr.kp (k := 13) f452 hk_a0 rfl).trans k442
              have q538 : nx.toInt ≤ x441.toInt ∧ x441.toInt ≤ tp.toInt := by
                have := (h_le).1; have := (h_le).2; have := (h_md).1; have := (h_md).2; have := (h_nx).1; have := (h_nx).2; have := (h_tp).1; have := (h_tp).2; have := (h_tq).1; have := (h_tq).2; have := (h14).1; have := (h14).2; have := (h22).1; have := (h22).2; have := (h438).1; have := (h438).2; have := (h42).1; have := (h42).2; have := (h439).1; have := (h439).2; omega
              exact tw_endz hx hb hr hlocks hK hT hS hQ rfl (⟨(iv_mono (iv_c (c := 0) (n := 0) (by decide)) (by decide) (by decide)), ⟨(fun j hj => (Fr.kpa f452 hk_sg rfl j).trans ((fun j hj => (Fr.kpa f443 hk_sg rfl j).trans ((fun j hj => (Fr.kpa f33 hk_sg rfl j).trans (z17 j hj)) j hj)) j hj)), ⟨x441, k537, (iv_mono h439 (by decide) (by decide)), q538.1, q538.2⟩, (fun h => absurd rfl h)⟩, (fun _ => (show ¬ (M455 a0 14).toInt = 0 from z535))⟩) dX12_compare_114
          · have q539 : x441.toInt < tp.toInt := ti_nle c449
            have h540 : iv 1 399 x441 := iv_ltL (y := tp) h439 h_tp q539 (by decide)
            have h541 : iv 2 400 tp := iv_gtL (y := x441) h_tp h439 q539 (by decide)
            refine lv_aload_n hx hb dX12_compare_71 rfl (lv_at hl 2 rfl) ?_
            refine tw_getrk hx hb hW hown hK hS f_X12_7_11 hz_a0 hk_a0 (b := tb) k_tb dX12_compare_72 ?_
            refine lv_aload_n hx hb dX12_compare_75 rfl (lv_at hl 2 rfl) ?_
            refine tw_getk hx hb hW hown hK hS f_X12_127_11 hz_a0 hk_a0 (v := x441) k442 dX12_compare_76 ?_
            refine tw_bald hx hb hK hS hz_tb hk_tb hn_tb h540 ⟨by decide, by decide⟩ dX12_compare_79 (fun x544 k543 => ?_)
            have h542 := iv_any x544
            refine lv_bipush (v := 61) hx hb dX12_compare_80 (by decide) ?_
            refine lv_icmp_ne (tgt := 89) hx hb dX12_compare_82 (by decide) (fun c545 => ?_) (fun c545 => ?_)
            · have q546 : ¬ x544.toInt = 61 := ti_ne c545
              refine lv_iconst (v := 0) hx hb dX12_compare_89 (by decide) ?_
              refine lv_istore_n (lv' := [(3, .int 0), (2, .int x43), (1, .int x39), (0, .ref (base + a0))]) hx hb dX12_compare_90 rfl hl (by decide) rfl (fun ls hl => ?_)
              refine lv_iload_n hx hb dX12_compare_91 rfl (lv_at hl 0 rfl) ?_
              refine lv_if_eq (tgt := 105) hx hb dX12_compare_92 (by decide) (fun _ => ?_) (fun h => absurd h (by decide))
              refine lv_aload_n hx hb dX12_compare_105 rfl (lv_at hl 3 rfl) ?_
              refine lv_iload_n hx hb dX12_compare_106 rfl (lv_at hl 1 rfl) ?_
              have k547 : M445 a0 17 = x25 := ((Fr.kp (k := 17) f443 hk_a0 rfl).trans (Fr.kp (k := 17) f33 hk_a0 rfl)).trans k27
              refine tw_goi hS (md_runV (As := [.int x43]) (rest := []) hx hb hml hown hW hK hT hS.1 (t_X12_makes l D cy tx base Z K N M445 Ra J35 hS.2.1 a0 hz_a0 hk_a0 x43 h42 x25 k547 (iv_mono h23 (by decide) (by decide))) s_X12_203 ⟨rfl, rfl, ⟨Nat.le_of_ble_eq_true rfl, Nat.le_of_ble_eq_true rfl⟩, ⟨Nat.le_of_ble_eq_true rfl, Nat.le_of_ble_eq_true rfl⟩⟩ hz_a0 hk_a0 (by decide) rfl rfl hl.1 rfl (Nat.le_of_ble_eq_true rfl) dX12_compare_107) rfl rfl (fun x554 H locs M551 R552 J550 hS f548 g549 E553 => ?_)
              have eR552 := Fr.nil g549 rfl
              subst eR552
              obtain ⟨h_x554, p555, p556⟩ := E553
              obtain ⟨x558, k559, h557, q560⟩ := p555
              have k559 : M551 a0 17 = x558 := k559
              have z561 : x554 = 0 → ¬ (M551 a0 14).toInt = 0 := p556
              refine lv_if_ne (tgt := 115) hx hb dX12_compare_110 (by decide) (fun c562 => ?_) (fun c562 => ?_)
              · have q563 : ¬ x554.toInt = 0 := ti_ne c562
                have h564 : iv 1 1 x554 := ⟨by have := (h_x554).1; have := ((iv_c (c := 0) (n := 0) (by decide))).1; have := ((iv_c (c := 0) (n := 0) (by decide))).2; omega, by have := (h_x554).2; have := ((iv_c (c := 0) (n := 0) (by decide))).1; have := ((iv_c (c := 0) (n := 0) (by decide))).2; omega⟩
                refine lv_iload_n hx hb dX12_compare_115 rfl (lv_at hl 2 rfl) ?_
                refine lv_bipush (v := 60) hx hb dX12_compare_116 (by decide) ?_
                refine lv_icmp_ne (tgt := 133) hx hb dX12_compare_118 (by decide) (fun c565 => ?_) (fun c565 => False.elim (by have q : x39.toInt = 60 := ti_eq c565; have := (h438).1; have := (h438).2; omega))
                have q566 : ¬ x39.toInt = 60 := ti_ne c565
                refine lv_iload_n hx hb dX12_compare_133 rfl (lv_at hl 2 rfl) ?_
                refine lv_bipush (v := 61) hx hb dX12_compare_134 (by decide) ?_
                refine lv_icmp_ne (tgt := 143) hx hb dX12_compare_136 (by decide) (fun c567 => ?_) (fun c567 => False.elim (by have q : x39.toInt = 61 := ti_eq c567; have := (h438).1; have := (h438).2; omega))
                have q568 : ¬ x39.toInt = 61 := ti_ne c567
                refine lv_iload_n hx hb dX12_compare_143 rfl (lv_at hl 0 rfl) ?_
                refine lv_if_eq (tgt := 151) hx hb dX12_compare_144 (by decide) (fun _ => ?_) (fun h => absurd h (by decide))
                refine lv_iconst (v := 4) hx hb dX12_compare_151 (by decide) ?_
                refine lv_istore (lv' := [(4, .int 4), (3, .int 0), (2, .int x43), (1, .int x39), (0, .ref (base + a0))]) hx hb dX12_compare_152 hl (by decide) rfl (fun ls hl => ?_)
                refine lv_aload_n hx hb dX12_compare_154 rfl (lv_at hl 4 rfl) ?_
                have k569 : M551 a0 13 = x441 := (Fr.kp (k := 13) f548 hk_a0 rfl).trans k442
                have k570 : M551 a0 1 = tp := ((Fr.kp (k := 1) f548 hk_a0 rfl).trans ((Fr.kp (k := 1) f443 hk_a0 rfl).trans ((Fr.kp (k := 1) f33 hk_a0 rfl).trans (Fr.kp (k := 1) f5 hk_a0 rfl)))).trans k_tp
                have q571 : x441.toInt ≤ tp.toInt := by
                  have := (h_le).1; have := (h_le).2; have := (h_md).1; have := (h_md).2; have := (h_nx).1; have := (h_nx).2; have := (h541).1; have := (h541).2; have := (h_tq).1; have := (h_tq).2; have := (h14).1; have := (h14).2; have := (h22).1; have := (h22).2; have := (h438).1; have := (h438).2; have := (h42).1; have := (h42).2; have := (h540).1; have := (h540).2; omega
                have k572 : M551 a0 16 = tq := ((Fr.kp (k := 16) f548 hk_a0 rfl).trans ((Fr.kp (k := 16) f443 hk_a0 rfl).trans ((Fr.kp (k := 16) f33 hk_a0 rfl).trans (Fr.kp (k := 16) f5 hk_a0 rfl)))).trans k_tq
                have k573 : M551 lg tq.toNatClampNeg = x24 := ((Fr.kpa f548 hk_lg rfl tq.toNatClampNeg).trans ((Fr.kpa f443 hk_lg rfl tq.toNatClampNeg).trans (Fr.kpa f33 hk_lg rfl tq.toNatClampNeg))).trans k26
                have q574 : ((sb : Nat) : Int) ≤ x24.toInt := by
                  have := (h_le).1; have := (h_le).2; have := (h_md).1; have := (h_md).2; have := (h_nx).1; have := (h_nx).2; have := (h541).1; have := (h541).2; have := (h_tq).1; have := (h_tq).2; have := (h14).1; have := (h14).2; have := (h22).1; have := (h22).2; have := (h42).1; have := (h42).2; omega
                have q575 : ((sh + 1 : Nat) : Int) ≤ x558.toInt := by
                  have := (h_le).1; have := (h_le).2; have := (h_md).1; have := (h_md).2; have := (h_nx).1; have := (h_nx).2; have := (h541).1; have := (h541).2; have := (h_tq).1; have := (h_tq).2; have := (h23).1; have := (h23).2; have := (h557).1; have := (h557).2; omega
                have q576 : x24.toInt ≤ x441.toInt := by
                  have := (h_le).1; have := (h_le).2; have := (h_md).1; have := (h_md).2; have := (h_nx).1; have := (h_nx).2; have := (h541).1; have := (h541).2; have := (h_tq).1; have := (h_tq).2; have := (h14).1; have := (h14).2; have := (h22).1; have := (h22).2; have := (h438).1; have := (h438).2; have := (h42).1; have := (h42).2; have := (h540).1; have := (h540).2; omega
                refine tw_goi hS (md_runV (As := []) (rest := []) hx hb hml hown hW hK hT hS.1 (t_X12_sum l D cy tx base Z K N M551 Ra J550 hS.2.1 a0 hz_a0 hk_a0 tb k_tb x441 k569 (iv_mono h540 (by decide) (by decide)) tp k570 (iv_mono h541 (by decide) (by decide)) q571 lg k_lg sg k_sg tq k572 (iv_mono h_tq (by decide) (by decide)) x24 k573 (iv_mono h22 (by decide) (by decide)) x558 k559 (iv_mono h557 (by decide) (by decide)) (sb) (sh + 1) (SEG.to (SEG.to (SEG.to z30 (fun j _ _ => Fr.kpa f33 hk_sg rfl j)) (fun j _ _ => Fr.kpa f443 hk_sg rfl j)) (fun j _ _ => Fr.kpa f548 hk_sg rfl j)) q574 q575 q576) s_X12_216 ⟨rfl, rfl, ⟨Nat.le_of_ble_eq_true rfl, Nat.le_of_ble_eq_true rfl⟩, ⟨Nat.le_of_ble_eq_true rfl, Nat.le_of_ble_eq_true rfl⟩⟩ hz_a0 hk_a0 (by decide) rfl rfl hl.1 rfl (Nat.le_of_ble_eq_true rfl) dX12_compare_155) rfl rfl (fun x583 H locs M580 R581 J579 hS f577 g578 E582 => ?_)
                have eR581 := Fr.nil g578 rfl
                subst eR581
                obtain ⟨h_x583, p584, p585⟩ := E582
                obtain ⟨zf585, ⟨x587, k588, h586, zu585, zv585⟩, zc585⟩ := p584
                have k588 : M580 a0 13 = x587 := k588
                have zw585 := ti_cl (x := le) (by have := h_le.1; omega); have zy585 := ti_cl (x := x24) (by have := (h22).1; omega)
                have z589 : ∀ j, j < 400 * tq.toNatClampNeg + le.toNatClampNeg → M580 sg j = Ma sg j := fun j hj => (zf585 j (by omega)).trans ((fun j hj => (Fr.kpa f548 hk_sg rfl j).trans ((fun j hj => (Fr.kpa f443 hk_sg rfl j).trans ((fun j hj => (Fr.kpa f33 hk_sg rfl j).trans (z17 j hj)) j hj)) j hj)) j hj)
                have z590 : x583 = 0 → ¬ (M580 a0 14).toInt = 0 := p585
                refine lv_if_ne (tgt := 163) hx hb dX12_compare_158 (by decide) (fun c591 => ?_) (fun c591 => ?_)
                · have q592 : ¬ x583.toInt = 0 := ti_ne c591
                  have h593 : iv 1 1 x583 := ⟨by have := (h_x583).1; have := ((iv_c (c := 0) (n := 0) (by decide))).1; have := ((iv_c (c := 0) (n := 0) (by decide))).2; omega, by have := (h_x583).2; have := ((iv_c (c := 0) (n := 0) (by decide))).1; have := ((iv_c (c := 0) (n := 0) (by decide))).2; omega⟩
                  obtain ⟨x600, x596, x597, k601, k598, k599, h594, za593, zb593, zd593, z602⟩ := zc585 c591
                  have ze593 : x600 = x587 := k601.symm.trans k588
                  rw [ze593] at zb593
                  have k598 : M580 lg tq.toNatClampNeg = x596 := k598
                  have k599 : M580 a0 17 = x597 := k599
                  have h595 : iv 0 60 x597 := by rw [← k599]; exact hS.2.1.int hz_a0 hk_a0 (show rgI 12 17 = (0, 60) from rfl)
                  have z603 : SEG M580 sg tq.toNatClampNeg sb x596.toNatClampNeg (sh + 2) := SEG.cast z602 rfl (by omega)
                  refine lv_aload_n hx hb dX12_compare_163 rfl (lv_at hl 4 rfl) ?_
                  refine lv_bipush (v := 6) hx hb dX12_compare_164 (by decide) ?_
                  refine lv_iload hx hb dX12_compare_166 (lv_at hl 0 rfl) ?_
                  refine lv_iadd hx hb dX12_compare_168 ?_
                  refine md_top (y := 10) (by decide) ?_
                  refine lv_iconst (v := 0) hx hb dX12_compare_169 (by decide) ?_
                  have k604 : M580 a0 16 = tq := ((Fr.kp (k := 16) f577 hk_a0 rfl).trans ((Fr.kp (k := 16) f548 hk_a0 rfl).trans ((Fr.kp (k := 16) f443 hk_a0 rfl).trans ((Fr.kp (k := 16) f33 hk_a0 rfl).trans (Fr.kp (k := 16) f5 hk_a0 rfl))))).trans k_tq
                  have h605 : iv 0 399 x596 := by
                    have := (h_le).1; have := (h_le).2; have := (h_md).1; have := (h_md).2; have := (h_nx).1; have := (h_nx).2; have := (h541).1; have := (h541).2; have := (h_tq).1; have := (h_tq).2; have := (h14).1; have := (h14).2; have := (h22).1; have := (h22).2; have := (h438).1; have := (h438).2; have := (h42).1; have := (h42).2; have := (h540).1; have := (h540).2; have := (h586).1; have := (h586).2; have := (h594).1; have := (h594).2; exact ⟨by omega, by omega⟩
                  refine tw_gov hS (md_runV (As := [.int 10, .int 0]) (rest := []) hx hb hml hown hW hK hT hS.1 (t_X12_puts l D cy tx base Z K N M580 Ra J579 hS.2.1 a0 hz_a0 hk_a0 10 (iv_mono (iv_c (c := 10) (n := 10) (by decide)) (by decide) (by decide)) 0 (iv_mono (iv_c (c := 0) (n := 0) (by decide)) (by decide) (by decide)) sg k_sg lg k_lg tq k604 (iv_mono h_tq (by decide) (by decide)) x596 k598 h605) s_X12_195 ⟨rfl, rfl, ⟨Nat.le_of_ble_eq_true rfl, Nat.le_of_ble_eq_true rfl⟩, ⟨Nat.le_of_ble_eq_true rfl, Nat.le_of_ble_eq_true rfl⟩⟩ hz_a0 hk_a0 (by decide) rfl rfl hl.1 rfl (Nat.le_of_ble_eq_true rfl) dX12_compare_170) rfl rfl (fun H locs M609 R610 J608 hS f606 g607 E611 => ?_)
                  have eR610 := Fr.nil g607 rfl
                  subst eR610
                  have p612 := E611
                  obtain ⟨x613, x615, zc612, zd612, zo612, k616, h614, zl612⟩ := p612
                  have k616 : M609 lg tq.toNatClampNeg = x615 := k616
                  have zt612 := ti_cl (x := tq) (by have := h_tq.1; omega); have zn612 := ti_cl (x := x596) (by have := (h594).1; omega); have zm612 := ti_cl (x := x615) (by have := (h614).1; omega)
                  have q617 : (10 : Int32).toInt = 10 := (by decide)
                  have q618 : (0 : Int32).toInt = 0 := (by decide)
                  have k619 : M609 a0 17 = x597 := (Fr.kp (k := 17) f606 hk_a0 rfl).trans k599
                  have zs612 := stp_two (h := sh + 2) (show x613.toInt = (10 : Int32).toInt + 16 * 0 by omega) (by have := ((iv_c (c := 10) (n := 10) (by decide))).1; have := ((iv_c (c := 10) (n := 10) (by decide))).2; have := ((iv_c (c := 0) (n := 0) (by decide))).1; have := ((iv_c (c := 0) (n := 0) (by decide))).2; omega) (by omega)
                  have z620 : SEG M609 sg tq.toNatClampNeg sb x615.toNatClampNeg (sh + 1) := SEG.cast (SEG.ext z603 (by omega) zd612 zo612 zs612) (by omega) (by omega)
                  have zw612 := ti_cl (x := le) (by have := h_le.1; omega)
                  have z621 : ∀ j, j < 400 * tq.toNatClampNeg + le.toNatClampNeg → M609 sg j = Ma sg j := fun j hj => (zo612 j (by omega)).trans (z589 j hj)
                  refine lv_iconst (v := 1) hx hb dX12_compare_173 (by decide) ?_
                  have k622 : M609 a0 13 = x587 := (Fr.kp (k := 13) f606 hk_a0 rfl).trans k588
                  have q623 : nx.toInt ≤ x587.toInt ∧ x587.toInt ≤ tp.toInt := by
                    have := (h_le).1; have := (h_le).2; have := (h_md).1; have := (h_md).2; have := (h_nx).1; have := (h_nx).2; have := (h541).1; have := (h541).2; have := (h_tq).1; have := (h_tq).2; have := (h14).1; have := (h14).2; have := (h22).1; have := (h22).2; have := (h438).1; have := (h438).2; have := (h42).1; have := (h42).2; have := (h540).1; have := (h540).2; have := (h586).1; have := (h586).2; have := (h594).1; have := (h594).2; have := (h614).1; have := (h614).2; omega
                  have q624 : le.toInt ≤ x615.toInt ∧ x615.toInt - le.toInt ≤ x587.toInt - nx.toInt ∧ ((sh + 1 : Nat) : Int) ≤ x597.toInt := by
                    have := (h_le).1; have := (h_le).2; have := (h_md).1; have := (h_md).2; have := (h_nx).1; have := (h_nx).2; have := (h541).1; have := (h541).2; have := (h_tq).1; have := (h_tq).2; have := (h14).1; have := (h14).2; have := (h22).1; have := (h22).2; have := (h438).1; have := (h438).2; have := (h42).1; have := (h42).2; have := (h540).1; have := (h540).2; have := (h586).1; have := (h586).2; have := (h594).1; have := (h594).2; have := (h595).1; have := (h595).2; have := (h614).1; have := (h614).2; omega
                  exact tw_endz hx hb hr hlocks hK hT hS hQ rfl (⟨(iv_mono (iv_c (c := 1) (n := 1) (by decide)) (by decide) (by decide)), ⟨z621, ⟨x587, k622, h586, q623.1, q623.2⟩, fun _ => ⟨x587, x615, x597, k622, k616, k619, (iv_mono h614 (by decide) (by decide)), q624.1, q624.2.1, q624.2.2, z620⟩⟩, (fun h => absurd h (by decide))⟩) dX12_compare_174
                · have q625 : x583.toInt = 0 := ti_eq c591
                  have z626 := z590 c591
                  have h627 : iv 0 0 x583 := ⟨by have := (h_x583).1; have := ((iv_c (c := 0) (n := 0) (by decide))).1; omega, by have := (h_x583).2; have := ((iv_c (c := 0) (n := 0) (by decide))).2; omega⟩
                  refine lv_iconst (v := 0) hx hb dX12_compare_161 (by decide) ?_
                  have q628 : nx.toInt ≤ x587.toInt ∧ x587.toInt ≤ tp.toInt := by
                    have := (h_le).1; have := (h_le).2; have := (h_md).1; have := (h_md).2; have := (h_nx).1; have := (h_nx).2; have := (h541).1; have := (h541).2; have := (h_tq).1; have := (h_tq).2; have := (h14).1; have := (h14).2; have := (h22).1; have := (h22).2; have := (h438).1; have := (h438).2; have := (h42).1; have := (h42).2; have := (h540).1; have := (h540).2; have := (h586).1; have := (h586).2; omega
                  exact tw_endz hx hb hr hlocks hK hT hS hQ rfl (⟨(iv_mono (iv_c (c := 0) (n := 0) (by decide)) (by decide) (by decide)), ⟨z589, ⟨x587, k588, h586, q628.1, q628.2⟩, (fun h => absurd rfl h)⟩, (fun _ => (show ¬ (M580 a0 14).toInt = 0 from z626))⟩) dX12_compare_162
              · have q629 : x554.toInt = 0 := ti_eq c562
                have z630 := z561 c562
                have h631 : iv 0 0 x554 := ⟨by have := (h_x554).1; have := ((iv_c (c := 0) (n := 0) (by decide))).1; omega, by have := (h_x554).2; have := ((iv_c (c := 0) (n := 0) (by decide))).2; omega⟩
                refine lv_iconst (v := 0) hx hb dX12_compare_113 (by decide) ?_
                have k632 : M551 a0 13 = x441 := (Fr.kp (k := 13) f548 hk_a0 rfl).trans k442
                have q633 : nx.toInt ≤ x441.toInt ∧ x441.toInt ≤ tp.toInt := by
                  have := (h_le).1; have := (h_le).2; have := (h_md).1; have := (h_md).2; have := (h_nx).1; have := (h_nx).2; have := (h541).1; have := (h541).2; have := (h_tq).1; have := (h_tq).2; have := (h14).1; have := (h14).2; have := (h22).1; have := (h22).2; have := (h438).1; have := (h438).2; have := (h42).1; have := (h42).2; have := (h540).1; have := (h540).2; omega
                exact tw_endz hx hb hr hlocks hK hT hS hQ rfl (⟨(iv_mono (iv_c (c := 0) (n := 0) (by decide)) (by decide) (by decide)), ⟨(fun j hj => (Fr.kpa f548 hk_sg rfl j).trans ((fun j hj => (Fr.kpa f443 hk_sg rfl j).trans ((fun j hj => (Fr.kpa f33 hk_sg rfl j).trans (z17 j hj)) j hj)) j hj)), ⟨x441, k632, (iv_mono h540 (by decide) (by decide)), q633.1, q633.2⟩, (fun h => absurd rfl h)⟩, (fun _ => (show ¬ (M551 a0 14).toInt = 0 from z630))⟩) dX12_compare_114
            · have q634 : x544.toInt = 61 := ti_eq c545
              have h635 : iv 61 61 x544 := ⟨by have := (h542).1; have := ((iv_c (c := 61) (n := 61) (by decide))).1; omega, by have := (h542).2; have := ((iv_c (c := 61) (n := 61) (by decide))).2; omega⟩
              refine lv_iconst (v := 1) hx hb dX12_compare_85 (by decide) ?_
              refine lv_goto (tgt := 90) hx hb dX12_compare_86 (by decide) ?_
              refine lv_istore_n (lv' := [(3, .int 1), (2, .int x43), (1, .int x39), (0, .ref (base + a0))]) hx hb dX12_compare_90 rfl hl (by decide) rfl (fun ls hl => ?_)
              refine lv_iload_n hx hb dX12_compare_91 rfl (lv_at hl 0 rfl) ?_
              refine lv_if_eq (tgt := 105) hx hb dX12_compare_92 (by decide) (fun h => absurd h (by decide)) (fun _ => ?_)
              refine lv_aload_n hx hb dX12_compare_95 rfl (lv_at hl 3 rfl) ?_
              refine lv_dup hx hb dX12_compare_96 rfl ?_
              refine tw_getk hx hb hW hown hK hS f_X12_127_11 hz_a0 hk_a0 (v := x441) k442 dX12_compare_97 ?_
              refine lv_iconst (v := 1) hx hb dX12_compare_100 (by decide) ?_
              refine tw_iadd (lo := 2) (hi := 400) hx hb h540 (iv_c (c := 1) (n := 1) (by decide)) ⟨by decide, by decide⟩ ⟨by decide, by decide⟩ dX12_compare_101 (fun x638 e637 h636 => ?_)
              have e637 : x638.toInt = x441.toInt + 1 := e637
              refine tw_puti hx hb hW hown hK hS f_X12_127_11 hz_a0 hk_a0 rfl rfl (lo := 0) (hi := 400) rfl (iv_mono h636 (by decide) (by decide)) rfl dX12_compare_102 (fun H locs M641 hS k639 f640 => ?_)
              refine lv_aload_n hx hb dX12_compare_105 rfl (lv_at hl 3 rfl) ?_
              refine lv_iload_n hx hb dX12_compare_106 rfl (lv_at hl 1 rfl) ?_
              have k642 : M641 a0 17 = x25 := ((Fr.kp (k := 17) f640 hk_a0 rfl).trans ((Fr.kp (k := 17) f443 hk_a0 rfl).trans (Fr.kp (k := 17) f33 hk_a0 rfl))).trans k27
              refine tw_goi hS (md_runV (As := [.int x43]) (rest := []) hx hb hml hown hW hK hT hS.1 (t_X12_makes l D cy tx base Z K N M641 Ra J35 hS.2.1 a0 hz_a0 hk_a0 x43 h42 x25 k642 (iv_mono h23 (by decide) (by decide))) s_X12_203 ⟨rfl, rfl, ⟨Nat.le_of_ble_eq_true rfl, Nat.le_of_ble_eq_true rfl⟩, ⟨Nat.le_of_ble_eq_true rfl, Nat.le_of_ble_eq_true rfl⟩⟩ hz_a0 hk_a0 (by decide) rfl rfl hl.1 rfl (Nat.le_of_ble_eq_true rfl) dX12_compare_107) rfl rfl (fun x649 H locs M646 R647 J645 hS f643 g644 E648 => ?_)
              have eR647 := Fr.nil g644 rfl
              subst eR647
              obtain ⟨h_x649, p650, p651⟩ := E648
              obtain ⟨x653, k654, h652, q655⟩ := p650
              have k654 : M646 a0 17 = x653 := k654
              have z656 : x649 = 0 → ¬ (M646 a0 14).toInt = 0 := p651
              refine lv_if_ne (tgt := 115) hx hb dX12_compare_110 (by decide) (fun c657 => ?_) (fun c657 => ?_)
              · have q658 : ¬ x649.toInt = 0 := ti_ne c657
                have h659 : iv 1 1 x649 := ⟨by have := (h_x649).1; have := ((iv_c (c := 0) (n := 0) (by decide))).1; have := ((iv_c (c := 0) (n := 0) (by decide))).2; omega, by have := (h_x649).2; have := ((iv_c (c := 0) (n := 0) (by decide))).1; have := ((iv_c (c := 0) (n := 0) (by decide))).2; omega⟩
                refine lv_iload_n hx hb dX12_compare_115 rfl (lv_at hl 2 rfl) ?_
                refine lv_bipush (v := 60) hx hb dX12_compare_116 (by decide) ?_
                refine lv_icmp_ne (tgt := 133) hx hb dX12_compare_118 (by decide) (fun c660 => ?_) (fun c660 => False.elim (by have q : x39.toInt = 60 := ti_eq c660; have := (h438).1; have := (h438).2; omega))
                have q661 : ¬ x39.toInt = 60 := ti_ne c660
                refine lv_iload_n hx hb dX12_compare_133 rfl (lv_at hl 2 rfl) ?_
                refine lv_bipush (v := 61) hx hb dX12_compare_134 (by decide) ?_
                refine lv_icmp_ne (tgt := 143) hx hb dX12_compare_136 (by decide) (fun c662 => ?_) (fun c662 => False.elim (by have q : x39.toInt = 61 := ti_eq c662; have := (h438).1; have := (h438).2; omega))
                have q663 : ¬ x39.toInt = 61 := ti_ne c662
                refine lv_iload_n hx hb dX12_compare_143 rfl (lv_at hl 0 rfl) ?_
                refine lv_if_eq (tgt := 151) hx hb dX12_compare_144 (by decide) (fun h => absurd h (by decide)) (fun _ => ?_)
                refine lv_iconst (v := 3) hx hb dX12_compare_147 (by decide) ?_
                refine lv_goto (tgt := 152) hx hb dX12_compare_148 (by decide) ?_
                refine lv_istore (lv' := [(4, .int 3), (3, .int 1), (2, .int x43), (1, .int x39), (0, .ref (base + a0))]) hx hb dX12_compare_152 hl (by decide) rfl (fun ls hl => ?_)
                refine lv_aload_n hx hb dX12_compare_154 rfl (lv_at hl 4 rfl) ?_
                have k664 : M646 a0 13 = x638 := (Fr.kp (k := 13) f643 hk_a0 rfl).trans k639
                have k665 : M646 a0 1 = tp := ((Fr.kp (k := 1) f643 hk_a0 rfl).trans ((Fr.kp (k := 1) f640 hk_a0 rfl).trans ((Fr.kp (k := 1) f443 hk_a0 rfl).trans ((Fr.kp (k := 1) f33 hk_a0 rfl).trans (Fr.kp (k := 1) f5 hk_a0 rfl))))).trans k_tp
                have q666 : x638.toInt ≤ tp.toInt := by
                  have := (h_le).1; have := (h_le).2; have := (h_md).1; have := (h_md).2; have := (h_nx).1; have := (h_nx).2; have := (h541).1; have := (h541).2; have := (h_tq).1; have := (h_tq).2; have := (h14).1; have := (h14).2; have := (h22).1; have := (h22).2; have := (h438).1; have := (h438).2; have := (h42).1; have := (h42).2; have := (h540).1; have := (h540).2; have := (h636).1; have := (h636).2; omega
                have k667 : M646 a0 16 = tq := ((Fr.kp (k := 16) f643 hk_a0 rfl).trans ((Fr.kp (k := 16) f640 hk_a0 rfl).trans ((Fr.kp (k := 16) f443 hk_a0 rfl).trans ((Fr.kp (k := 16) f33 hk_a0 rfl).trans (Fr.kp (k := 16) f5 hk_a0 rfl))))).trans k_tq
                have k668 : M646 lg tq.toNatClampNeg = x24 := ((Fr.kpa f643 hk_lg rfl tq.toNatClampNeg).trans ((Fr.kpa f640 hk_lg rfl tq.toNatClampNeg).trans ((Fr.kpa f443 hk_lg rfl tq.toNatClampNeg).trans (Fr.kpa f33 hk_lg rfl tq.toNatClampNeg)))).trans k26
                have q669 : ((sb : Nat) : Int) ≤ x24.toInt := by
                  have := (h_le).1; have := (h_le).2; have := (h_md).1; have := (h_md).2; have := (h_nx).1; have := (h_nx).2; have := (h541).1; have := (h541).2; have := (h_tq).1; have := (h_tq).2; have := (h14).1; have := (h14).2; have := (h22).1; have := (h22).2; have := (h42).1; have := (h42).2; omega
                have q670 : ((sh + 1 : Nat) : Int) ≤ x653.toInt := by
                  have := (h_le).1; have := (h_le).2; have := (h_md).1; have := (h_md).2; have := (h_nx).1; have := (h_nx).2; have := (h541).1; have := (h541).2; have := (h_tq).1; have := (h_tq).2; have := (h23).1; have := (h23).2; have := (h652).1; have := (h652).2; omega
                have q671 : x24.toInt ≤ x638.toInt := by
                  have := (h_le).1; have := (h_le).2; have := (h_md).1; have := (h_md).2; have := (h_nx).1; have := (h_nx).2; have := (h541).1; have := (h541).2; have := (h_tq).1; have := (h_tq).2; have := (h14).1; have := (h14).2; have := (h22).1; have := (h22).2; have := (h438).1; have := (h438).2; have := (h42).1; have := (h42).2; have := (h540).1; have := (h540).2; have := (h636).1; have := (h636).2; omega
                refine tw_goi hS (md_runV (As := []) (rest := []) hx hb hml hown hW hK hT hS.1 (t_X12_sum l D cy tx base Z K N M646 Ra J645 hS.2.1 a0 hz_a0 hk_a0 tb k_tb x638 k664 (iv_mono h636 (by decide) (by decide)) tp k665 (iv_mono h541 (by decide) (by decide)) q666 lg k_lg sg k_sg tq k667 (iv_mono h_tq (by decide) (by decide)) x24 k668 (iv_mono h22 (by decide) (by decide)) x653 k654 (iv_mono h652 (by decide) (by decide)) (sb) (sh + 1) (SEG.to (SEG.to (SEG.to (SEG.to z30 (fun j _ _ => Fr.kpa f33 hk_sg rfl j)) (fun j _ _ => Fr.kpa f443 hk_sg rfl j)) (fun j _ _ => Fr.kpa f640 hk_sg rfl j)) (fun j _ _ => Fr.kpa f643 hk_sg rfl j)) q669 q670 q671) s_X12_216 ⟨rfl, rfl, ⟨Nat.le_of_ble_eq_true rfl, Nat.le_of_ble_eq_true rfl⟩, ⟨Nat.le_of_ble_eq_true rfl, Nat.le_of_ble_eq_true rfl⟩⟩ hz_a0 hk_a0 (by decide) rfl rfl hl.1 rfl (Nat.le_of_ble_eq_true rfl) dX12_compare_155) rfl rfl (fun x678 H locs M675 R676 J674 hS f672 g673 E677 => ?_)
                have eR676 := Fr.nil g673 rfl
                subst eR676
                obtain ⟨h_x678, p679, p680⟩ := E677
                obtain ⟨zf680, ⟨x682, k683, h681, zu680, zv680⟩, zc680⟩ := p679
                have k683 : M675 a0 13 = x682 := k683
                have zw680 := ti_cl (x := le) (by have := h_le.1; omega); have zy680 := ti_cl (x := x24) (by have := (h22).1; omega)
                have z684 : ∀ j, j < 400 * tq.toNatClampNeg + le.toNatClampNeg → M675 sg j = Ma sg j := fun j hj => (zf680 j (by omega)).trans ((fun j hj => (Fr.kpa f643 hk_sg rfl j).trans ((fun j hj => (Fr.kpa f640 hk_sg rfl j).trans ((fun j hj => (Fr.kpa f443 hk_sg rfl j).trans ((fun j hj => (Fr.kpa f33 hk_sg rfl j).trans (z17 j hj)) j hj)) j hj)) j hj)) j hj)
                have z685 : x678 = 0 → ¬ (M675 a0 14).toInt = 0 := p680
                refine lv_if_ne (tgt := 163) hx hb dX12_compare_158 (by decide) (fun c686 => ?_) (fun c686 => ?_)
                · have q687 : ¬ x678.toInt = 0 := ti_ne c686
                  have h688 : iv 1 1 x678 := ⟨by have := (h_x678).1; have := ((iv_c (c := 0) (n := 0) (by decide))).1; have := ((iv_c (c := 0) (n := 0) (by decide))).2; omega, by have := (h_x678).2; have := ((iv_c (c := 0) (n := 0) (by decide))).1; have := ((iv_c (c := 0) (n := 0) (by decide))).2; omega⟩
                  obtain ⟨x695, x691, x692, k696, k693, k694, h689, za688, zb688, zd688, z697⟩ := zc680 c686
                  have ze688 : x695 = x682 := k696.symm.trans k683
                  rw [ze688] at zb688
                  have k693 : M675 lg tq.toNatClampNeg = x691 := k693
                  have k694 : M675 a0 17 = x692 := k694
                  have h690 : iv 0 60 x692 := by rw [← k694]; exact hS.2.1.int hz_a0 hk_a0 (show rgI 12 17 = (0, 60) from rfl)
                  have z698 : SEG M675 sg tq.toNatClampNeg sb x691.toNatClampNeg (sh + 2) := SEG.cast z697 rfl (by omega)
                  refine lv_aload_n hx hb dX12_compare_163 rfl (lv_at hl 4 rfl) ?_
                  refine lv_bipush (v := 6) hx hb dX12_compare_164 (by decide) ?_
                  refine lv_iload hx hb dX12_compare_166 (lv_at hl 0 rfl) ?_
                  refine lv_iadd hx hb dX12_compare_168 ?_
                  refine md_top (y := 9) (by decide) ?_
                  refine lv_iconst (v := 0) hx hb dX12_compare_169 (by decide) ?_
                  have k699 : M675 a0 16 = tq := ((Fr.kp (k := 16) f672 hk_a0 rfl).trans ((Fr.kp (k := 16) f643 hk_a0 rfl).trans ((Fr.kp (k := 16) f640 hk_a0 rfl).trans ((Fr.kp (k := 16) f443 hk_a0 rfl).trans ((Fr.kp (k := 16) f33 hk_a0 rfl).trans (Fr.kp (k := 16) f5 hk_a0 rfl)))))).trans k_tq
                  have h700 : iv 0 399 x691 := by
                    have := (h_le).1; have := (h_le).2; have := (h_md).1; have := (h_md).2; have := (h_nx).1; have := (h_nx).2; have := (h541).1; have := (h541).2; have := (h_tq).1; have := (h_tq).2; have := (h14).1; have := (h14).2; have := (h22).1; have := (h22).2; have := (h438).1; have := (h438).2; have := (h42).1; have := (h42).2; have := (h540).1; have := (h540).2; have := (h636).1; have := (h636).2; have := (h681).1; have := (h681).2; have := (h689).1; have := (h689).2; exact ⟨by omega, by omega⟩
                  refine tw_gov hS (md_runV (As := [.int 9, .int 0]) (rest := []) hx hb hml hown hW hK hT hS.1 (t_X12_puts l D cy tx base Z K N M675 Ra J674 hS.2.1 a0 hz_a0 hk_a0 9 (iv_mono (iv_c (c := 9) (n := 9) (by decide)) (by decide) (by decide)) 0 (iv_mono (iv_c (c := 0) (n := 0) (by decide)) (by decide) (by decide)) sg k_sg lg k_lg tq k699 (iv_mono h_tq (by decide) (by decide)) x691 k693 h700) s_X12_195 ⟨rfl, rfl, ⟨Nat.le_of_ble_eq_true rfl, Nat.le_of_ble_eq_true rfl⟩, ⟨Nat.le_of_ble_eq_true rfl, Nat.le_of_ble_eq_true rfl⟩⟩ hz_a0 hk_a0 (by decide) rfl rfl hl.1 rfl (Nat.le_of_ble_eq_true rfl) dX12_compare_170) rfl rfl (fun H locs M704 R705 J703 hS f701 g702 E706 => ?_)
                  have eR705 := Fr.nil g702 rfl
                  subst eR705
                  have p707 := E706
                  obtain ⟨x708, x710, zc707, zd707, zo707, k711, h709, zl707⟩ := p707
                  have k711 : M704 lg tq.toNatClampNeg = x710 := k711
                  have zt707 := ti_cl (x := tq) (by have := h_tq.1; omega); have zn707 := ti_cl (x := x691) (by have := (h689).1; omega); have zm707 := ti_cl (x := x710) (by have := (h709).1; omega)
                  have q712 : (9 : Int32).toInt = 9 := (by decide)
                  have q713 : (0 : Int32).toInt = 0 := (by decide)
                  have k714 : M704 a0 17 = x692 := (Fr.kp (k := 17) f701 hk_a0 rfl).trans k694
                  have zs707 := stp_two (h := sh + 2) (show x708.toInt = (9 : Int32).toInt + 16 * 0 by omega) (by have := ((iv_c (c := 9) (n := 9) (by decide))).1; have := ((iv_c (c := 9) (n := 9) (by decide))).2; have := ((iv_c (c := 0) (n := 0) (by decide))).1; have := ((iv_c (c := 0) (n := 0) (by decide))).2; omega) (by omega)
                  have z715 : SEG M704 sg tq.toNatClampNeg sb x710.toNatClampNeg (sh + 1) := SEG.cast (SEG.ext z698 (by omega) zd707 zo707 zs707) (by omega) (by omega)
                  have zw707 := ti_cl (x := le) (by have := h_le.1; omega)
                  have z716 : ∀ j, j < 400 * tq.toNatClampNeg + le.toNatClampNeg → M704 sg j = Ma sg j := fun j hj => (zo707 j (by omega)).trans (z684 j hj)
                  refine lv_iconst (v := 1) hx hb dX12_compare_173 (by decide) ?_
                  have k717 : M704 a0 13 = x682 := (Fr.kp (k := 13) f701 hk_a0 rfl).trans k683
                  have q718 : nx.toInt ≤ x682.toInt ∧ x682.toInt ≤ tp.toInt := by
                    have := (h_le).1; have := (h_le).2; have := (h_md).1; have := (h_md).2; have := (h_nx).1; have := (h_nx).2; have := (h541).1; have := (h541).2; have := (h_tq).1; have := (h_tq).2; have := (h14).1; have := (h14).2; have := (h22).1; have := (h22).2; have := (h438).1; have := (h438).2; have := (h42).1; have := (h42).2; have := (h540).1; have := (h540).2; have := (h636).1; have := (h636).2; have := (h681).1; have := (h681).2; have := (h689).1; have := (h689).2; have := (h709).1; have := (h709).2; omega
                  have q719 : le.toInt ≤ x710.toInt ∧ x710.toInt - le.toInt ≤ x682.toInt - nx.toInt ∧ ((sh + 1 : Nat) : Int) ≤ x692.toInt := by
                    have := (h_le).1; have := (h_le).2; have := (h_md).1; have := (h_md).2; have := (h_nx).1; have := (h_nx).2; have := (h541).1; have := (h541).2; have := (h_tq).1; have := (h_tq).2; have := (h14).1; have := (h14).2; have := (h22).1; have := (h22).2; have := (h438).1; have := (h438).2; have := (h42).1; have := (h42).2; have := (h540).1; have := (h540).2; have := (h636).1; have := (h636).2; have := (h681).1; have := (h681).2; have := (h689).1; have := (h689).2; have := (h690).1; have := (h690).2; have := (h709).1; have := (h709).2; omega
                  exact tw_endz hx hb hr hlocks hK hT hS hQ rfl (⟨(iv_mono (iv_c (c := 1) (n := 1) (by decide)) (by decide) (by decide)), ⟨z716, ⟨x682, k717, h681, q718.1, q718.2⟩, fun _ => ⟨x682, x710, x692, k717, k711, k714, (iv_mono h709 (by decide) (by decide)), q719.1, q719.2.1, q719.2.2, z715⟩⟩, (fun h => absurd h (by decide))⟩) dX12_compare_174
                · have q720 : x678.toInt = 0 := ti_eq c686
                  have z721 := z685 c686
                  have h722 : iv 0 0 x678 := ⟨by have := (h_x678).1; have := ((iv_c (c := 0) (n := 0) (by decide))).1; omega, by have := (h_x678).2; have := ((iv_c (c := 0) (n := 0) (by decide))).2; omega⟩
                  refine lv_iconst (v := 0) hx hb dX12_compare_161 (by decide) ?_
                  have q723 : nx.toInt ≤ x682.toInt ∧ x682.toInt ≤ tp.toInt := by
                    have := (h_le).1; have := (h_le).2; have := (h_md).1; have := (h_md).2; have := (h_nx).1; have := (h_nx).2; have := (h541).1; have := (h541).2; have := (h_tq).1; have := (h_tq).2; have := (h14).1; have := (h14).2; have := (h22).1; have := (h22).2; have := (h438).1; have := (h438).2; have := (h42).1; have := (h42).2; have := (h540).1; have := (h540).2; have := (h636).1; have := (h636).2; have := (h681).1; have := (h681).2; omega
                  exact tw_endz hx hb hr hlocks hK hT hS hQ rfl (⟨(iv_mono (iv_c (c := 0) (n := 0) (by decide)) (by decide) (by decide)), ⟨z684, ⟨x682, k683, h681, q723.1, q723.2⟩, (fun h => absurd rfl h)⟩, (fun _ => (show ¬ (M675 a0 14).toInt = 0 from z721))⟩) dX12_compare_162
              · have q724 : x649.toInt = 0 := ti_eq c657
                have z725 := z656 c657
                have h726 : iv 0 0 x649 := ⟨by have := (h_x649).1; have := ((iv_c (c := 0) (n := 0) (by decide))).1; omega, by have := (h_x649).2; have := ((iv_c (c := 0) (n := 0) (by decide))).2; omega⟩
                refine lv_iconst (v := 0) hx hb dX12_compare_113 (by decide) ?_
                have k727 : M646 a0 13 = x638 := (Fr.kp (k := 13) f643 hk_a0 rfl).trans k639
                have q728 : nx.toInt ≤ x638.toInt ∧ x638.toInt ≤ tp.toInt := by
                  have := (h_le).1; have := (h_le).2; have := (h_md).1; have := (h_md).2; have := (h_nx).1; have := (h_nx).2; have := (h541).1; have := (h541).2; have := (h_tq).1; have := (h_tq).2; have := (h14).1; have := (h14).2; have := (h22).1; have := (h22).2; have := (h438).1; have := (h438).2; have := (h42).1; have := (h42).2; have := (h540).1; have := (h540).2; have := (h636).1; have := (h636).2; omega
                exact tw_endz hx hb hr hlocks hK hT hS hQ rfl (⟨(iv_mono (iv_c (c := 0) (n := 0) (by decide)) (by decide) (by decide)), ⟨(fun j hj => (Fr.kpa f643 hk_sg rfl j).trans ((fun j hj => (Fr.kpa f640 hk_sg rfl j).trans ((fun j hj => (Fr.kpa f443 hk_sg rfl j).trans ((fun j hj => (Fr.kpa f33 hk_sg rfl j).trans (z17 j hj)) j hj)) j hj)) j hj)), ⟨x638, k727, (iv_mono h636 (by decide) (by decide)), q728.1, q728.2⟩, (fun h => absurd rfl h)⟩, (fun _ => (show ¬ (M646 a0 14).toInt = 0 from z725))⟩) dX12_compare_114
        · have q729 : ¬ x39.toInt = 62 := ti_ne c436
          refine lv_aload_n hx hb dX12_compare_37 rfl (lv_at hl 2 rfl) ?_
          refine lv_iconst (v := 0) hx hb dX12_compare_38 (by decide) ?_
          refine lv_iload_n hx hb dX12_compare_39 rfl (lv_at hl 0 rfl) ?_
          refine tw_goi hS (md_runV (As := [.int 0, .int x43]) (rest := []) hx hb hml hown hW hK hT hS.1 (t_X12_fails l D cy tx base Z K N M36 Ra J35 hS.2.1 a0 hz_a0 hk_a0 0 (iv_mono (iv_c (c := 0) (n := 0) (by decide)) (by decide) (by decide)) x43 h42) s_X12_148 ⟨rfl, rfl, ⟨Nat.le_of_ble_eq_true rfl, Nat.le_of_ble_eq_true rfl⟩, ⟨Nat.le_of_ble_eq_true rfl, Nat.le_of_ble_eq_true rfl⟩⟩ hz_a0 hk_a0 (by decide) rfl rfl hl.1 rfl (Nat.le_of_ble_eq_true rfl) dX12_compare_40) rfl rfl (fun x736 H locs M733 R734 J732 hS f730 g731 E735 => ?_)
          have eR734 := Fr.nil g731 rfl
          subst eR734
          obtain ⟨h_x736, p737⟩ := E735
          have z738 : x736 = 0 → ¬ (M733 a0 14).toInt = 0 := p737
          have z739 := z738 (iv0 h_x736)
          have k740 : M733 a0 13 = x43 := (Fr.kp (k := 13) f730 hk_a0 rfl).trans k41
          have q741 : nx.toInt ≤ x43.toInt ∧ x43.toInt ≤ tp.toInt := by
            have := (h_le).1; have := (h_le).2; have := (h_md).1; have := (h_md).2; have := (h_nx).1; have := (h_nx).2; have := (h_tp).1; have := (h_tp).2; have := (h_tq).1; have := (h_tq).2; have := (h14).1; have := (h14).2; have := (h22).1; have := (h22).2; have := (h_x39).1; have := (h_x39).2; have := (h42).1; have := (h42).2; omega
          exact tw_endz hx hb hr hlocks hK hT hS hQ (nar_b (iv_mono h_x736 (by decide) (by decide))) (⟨(iv_mono h_x736 (by decide) (by decide)), ⟨(fun j hj => (Fr.kpa f730 hk_sg rfl j).trans ((fun j hj => (Fr.kpa f33 hk_sg rfl j).trans (z17 j hj)) j hj)), ⟨x43, k740, h42, q741.1, q741.2⟩, (fun h => absurd (iv0 h_x736) h)⟩, (fun _ => (show ¬ (M733 a0 14).toInt = 0 from z739))⟩) dX12_compare_43
  · have q742 : x11.toInt = 0 := ti_eq c19
    have z743 := z18 c19
    have h744 : iv 0 0 x11 := ⟨by have := (h_x11).1; have := ((iv_c (c := 0) (n := 0) (by decide))).1; omega, by have := (h_x11).2; have := ((iv_c (c := 0) (n := 0) (by decide))).2; omega⟩
    refine lv_iconst (v := 0) hx hb dX12_compare_7 (by decide) ?_
    have q745 : nx.toInt ≤ x15.toInt ∧ x15.toInt ≤ tp.toInt := by
      have := (h_le).1; have := (h_le).2; have := (h_md).1; have := (h_md).2; have := (h_nx).1; have := (h_nx).2; have := (h_tp).1; have := (h_tp).2; have := (h_tq).1; have := (h_tq).2; have := (h14).1; have := (h14).2; omega
    exact tw_endz hx hb hr hlocks hK hT hS hQ rfl (⟨(iv_mono (iv_c (c := 0) (n := 0) (by decide)) (by decide) (by decide)), ⟨z17, ⟨x15, k16, h14, q745.1, q745.2⟩, (fun h => absurd rfl h)⟩, (fun _ => (show ¬ (M8 a0 14).toInt = 0 from z743))⟩) dX12_compare_8
def Lt_X12_opens : WL := [(12, 14, 15), (12, 18, 19), (12, 21, 22), (14, 0, 2000000)]
def LRt_X12_opens : WL := []
set_option maxRecDepth 100000 in
set_option maxHeartbeats 4000000 in
theorem t_X12_opens (l : Launch) (D : va_G) (cy : Nat → ClassId) (tx : (Nat → Nat) × (Nat → Nat)) (base Z : Nat) (K N : Nat → Nat) (Ma : MT) (Ra : RT) (Ja : JT) (hTy : Ty Z K N Ma Ra) (a0 : Nat) (hz_a0 : a0 < Z) (hk_a0 : K a0 = 12) (a1 : Int32) (h_a1 : iv 0 100 a1) (op : Nat) (k_op : Ra a0 20 = some op) (on : Int32) (k_on : Ma a0 21 = on) (h_on : iv 0 399 on) : Met l yX12_opens [Cond.code yX12_opens cX12_opens 2 (some .boolean)] (md_rm 2 0 0) (va_Pc [.ref (base + a0), .int a1] (md_U D cy tx base Z K N Ma Ra Ja)) (mQi D cy tx base (fun r u => TP Z K N Lt_X12_opens LRt_X12_opens Ma Ra u ∧ (iv 0 1 r ∧ (¬ r = 0 → ∃ x0 : Int32, u.2.2.2.1 a0 21 = x0 ∧ iv 1 400 x0 ∧ x0.toInt = on.toInt + 1 ∧ u.2.2.2.1 op on.toNatClampNeg = a1 ∧ (∀ j, j ≠ on.toNatClampNeg → u.2.2.2.1 op j = Ma op j)) ∧ (r = 0 → ¬ (u.2.2.2.1 a0 14).toInt = 0)))) 0 0 (fun q => base ≤ q) := by
  refine tw_ofW (L := Lt_X12_opens) (LR := LRt_X12_opens) (by decide) (Nat.le_of_ble_eq_true rfl) hTy ?_
  intro p e s m args below meth c Q ls hx hb hr hlocks hown hml hW hK hT hS hQ hl
  have hl : lv_has ls 2 [(0, .ref (base + a0)), (1, .int a1)] := hl
  obtain ⟨hz_op, hk_op, hn_op⟩ := hTy.refn hz_a0 hk_a0 (show rtR 12 20 = (14, 400, 0) from rfl) k_op
  have hn_op := hn_op (by decide)
  refine lv_aload_n hx hb dX12_opens_0 rfl (lv_at hl 0 rfl) ?_
  refine tw_geti hx hb hW hown hK hS f_X12_185_11 hz_a0 hk_a0 (lo := (-2147483648)) (hi := 2147483647) rfl dX12_opens_1 (fun x3 k2 h1 => ?_)
  refine lv_bipush (v := 10) hx hb dX12_opens_4 (by decide) ?_
  refine lv_icmp_ne (tgt := 19) hx hb dX12_opens_6 (by decide) (fun c4 => ?_) (fun c4 => ?_)
  · have q5 : ¬ x3.toInt = 10 := ti_ne c4
    refine lv_aload_n hx hb dX12_opens_19 rfl (lv_at hl 0 rfl) ?_
    refine lv_dup hx hb dX12_opens_20 rfl ?_
    refine tw_getk hx hb hW hown hK hS f_X12_185_11 hz_a0 hk_a0 (v := x3) k2 dX12_opens_21 ?_
    refine lv_iconst (v := 1) hx hb dX12_opens_24 (by decide) ?_
    refine lv_iadd hx hb dX12_opens_25 ?_
    refine tw_top (fun x7 => ?_)
    have h6 := iv_any x7
    refine tw_puti hx hb hW hown hK hS f_X12_185_11 hz_a0 hk_a0 rfl rfl (lo := (-2147483648)) (hi := 2147483647) rfl h6 rfl dX12_opens_26 (fun H locs M10 hS k8 f9 => ?_)
    refine lv_aload_n hx hb dX12_opens_29 rfl (lv_at hl 0 rfl) ?_
    refine tw_getrk hx hb hW hown hK hS f_X12_35_11 hz_a0 hk_a0 (b := op) k_op dX12_opens_30 ?_
    refine lv_aload_n hx hb dX12_opens_33 rfl (lv_at hl 0 rfl) ?_
    have k11 : M10 a0 21 = on := (Fr.kp (k := 21) f9 hk_a0 rfl).trans k_on
    refine tw_getk hx hb hW hown hK hS f_X12_188_11 hz_a0 hk_a0 (v := on) k11 dX12_opens_34 ?_
    refine lv_iload_n hx hb dX12_opens_37 rfl (lv_at hl 1 rfl) ?_
    refine tw_iasx hx hb hK hS hz_op hk_op (Or.inl rfl) hn_op h_on ⟨by decide, by decide⟩ (iv_any _) (jl := 0) (jh := 1999999) ⟨by decide, by decide⟩ rfl dX12_opens_38 (fun H locs M15 hS k12 f13 e14 => ?_)
    refine lv_aload_n hx hb dX12_opens_39 rfl (lv_at hl 0 rfl) ?_
    refine lv_dup hx hb dX12_opens_40 rfl ?_
    have k16 : M15 a0 21 = on := ((Fr.kp (k := 21) f13 hk_a0 rfl).trans (Fr.kp (k := 21) f9 hk_a0 rfl)).trans k_on
    refine tw_getk hx hb hW hown hK hS f_X12_188_11 hz_a0 hk_a0 (v := on) k16 dX12_opens_41 ?_
    refine lv_iconst (v := 1) hx hb dX12_opens_44 (by decide) ?_
    refine tw_iadd (lo := 1) (hi := 400) hx hb h_on (iv_c (c := 1) (n := 1) (by decide)) ⟨by decide, by decide⟩ ⟨by decide, by decide⟩ dX12_opens_45 (fun x19 e18 h17 => ?_)
    have e18 : x19.toInt = on.toInt + 1 := e18
    refine tw_puti hx hb hW hown hK hS f_X12_188_11 hz_a0 hk_a0 rfl rfl (lo := 0) (hi := 400) rfl (iv_mono h17 (by decide) (by decide)) rfl dX12_opens_46 (fun H locs M22 hS k20 f21 => ?_)
    refine lv_iconst (v := 1) hx hb dX12_opens_49 (by decide) ?_
    exact tw_endz hx hb hr hlocks hK hT hS hQ rfl (⟨(iv_mono (iv_c (c := 1) (n := 1) (by decide)) (by decide) (by decide)), (fun _ => ⟨x19, k20, h17, by omega, (show M22 op on.toNatClampNeg = a1 from by rw [Fr.kpa f21 hk_op rfl, e14]; exact u2_same), fun j hj => (show M22 op j = Ma op j from by rw [Fr.kpa f21 hk_op rfl, e14, u2_nk hj]; exact Fr.kpa f9 hk_op rfl j)⟩), (fun h => absurd h (by decide))⟩) dX12_opens_50
  · have q23 : x3.toInt = 10 := ti_eq c4
    have h24 : iv 10 10 x3 := ⟨by have := (h1).1; have := ((iv_c (c := 10) (n := 10) (by decide))).1; omega, by have := (h1).2; have := ((iv_c (c := 10) (n := 10) (by decide))).2; omega⟩
    refine lv_aload_n hx hb dX12_opens_9 rfl (lv_at hl 0 rfl) ?_
    refine lv_iconst (v := 2) hx hb dX12_opens_10 (by decide) ?_
    refine lv_aload_n hx hb dX12_opens_11 rfl (lv_at hl 0 rfl) ?_
    refine tw_geti hx hb hW hown hK hS f_X12_127_11 hz_a0 hk_a0 (lo := 0) (hi := 400) rfl dX12_opens_12 (fun x27 k26 h25 => ?_)
    refine tw_goi hS (md_runV (As := [.int 2, .int x27]) (rest := []) hx hb hml hown hW hK hT hS.1 (t_X12_fails l D cy tx base Z K N Ma Ra Ja hS.2.1 a0 hz_a0 hk_a0 2 (iv_mono (iv_c (c := 2) (n := 2) (by decide)) (by decide) (by decide)) x27 h25) s_X12_148 ⟨rfl, rfl, ⟨Nat.le_of_ble_eq_true rfl, Nat.le_of_ble_eq_true rfl⟩, ⟨Nat.le_of_ble_eq_true rfl, Nat.le_of_ble_eq_true rfl⟩⟩ hz_a0 hk_a0 (by decide) rfl rfl hl.1 rfl (Nat.le_of_ble_eq_true rfl) dX12_opens_15) rfl rfl (fun x34 H locs M31 R32 J30 hS f28 g29 E33 => ?_)
    have eR32 := Fr.nil g29 rfl
    subst eR32
    obtain ⟨h_x34, p35⟩ := E33
    have z36 : x34 = 0 → ¬ (M31 a0 14).toInt = 0 := p35
    have z37 := z36 (iv0 h_x34)
    exact tw_endz hx hb hr hlocks hK hT hS hQ (nar_b (iv_mono h_x34 (by decide) (by decide))) (⟨(iv_mono h_x34 (by decide) (by decide)), (fun h => absurd (iv0 h_x34) h), (fun _ => (show ¬ (M31 a0 14).toInt = 0 from z37))⟩) dX12_opens_18
