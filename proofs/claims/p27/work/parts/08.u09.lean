def Lt_X12_clauseHere : WL := [(12, 7, 10), (12, 13, 16), (12, 17, 20), (12, 21, 22), (14, 0, 2000000), (25, 0, 2000000), (26, 0, 2000000), (27, 0, 2000000), (28, 0, 2000000), (35, 0, 2000000)]
def LRt_X12_clauseHere : WL := []
set_option maxRecDepth 100000 in
set_option maxHeartbeats 4000000 in
theorem t_X12_clauseHere (l : Launch) (D : va_G) (cy : Nat → ClassId) (tx : (Nat → Nat) × (Nat → Nat)) (base Z : Nat) (K N : Nat → Nat) (Ma : MT) (Ra : RT) (Ja : JT) (hTy : Ty Z K N Ma Ra) (a0 : Nat) (hz_a0 : a0 < Z) (hk_a0 : K a0 = 12) (tb : Nat) (k_tb : Ra a0 0 = some tb) (nx : Int32) (k_nx : Ma a0 13 = nx) (h_nx : iv 0 400 nx) (tp : Int32) (k_tp : Ma a0 1 = tp) (h_tp : iv 0 400 tp) (hnt : nx.toInt ≤ tp.toInt) (lg : Nat) (k_lg : Ra a0 4 = some lg) (sg : Nat) (k_sg : Ra a0 3 = some sg) (tq : Int32) (k_tq : Ma a0 16 = tq) (h_tq : iv 0 6 tq) (le : Int32) (k_le : Ma lg tq.toNatClampNeg = le) (h_le : iv 0 400 le) (md : Int32) (k_md : Ma a0 17 = md) (h_md : iv 0 60 md) (op : Nat) (k_op : Ra a0 20 = some op) (cs : Nat) (k_cs : Ra a0 6 = some cs) (cl : Nat) (k_cl : Ra a0 5 = some cl) (cn : Int32) (k_cn : Ma cs tq.toNatClampNeg = cn) (h_cn : iv 0 12 cn) (li : Int32) (k_li : Ma a0 19 = li) (h_li : iv 0 16 li) (h6 : tq.toInt = 6 ∨ (le.toInt ≤ nx.toInt ∧ cn.toInt ≤ li.toInt ∧ li.toInt ≤ 12)) (hci : tq.toInt = 6 ∨ CI Ma sg cl tq.toNatClampNeg cn.toNatClampNeg le.toInt) : Met l yX12_clauseHere [Cond.code yX12_clauseHere cX12_clauseHere 4 (some .boolean)] (md_rm 11 0 0) (va_Pc [.ref (base + a0)] (md_U D cy tx base Z K N Ma Ra Ja)) (mQi D cy tx base (fun r u => TP Z K N Lt_X12_clauseHere LRt_X12_clauseHere Ma Ra u ∧ (iv 0 1 r ∧ ((∃ x0 : Int32, u.2.2.2.1 a0 13 = x0 ∧ iv 0 400 x0 ∧ nx.toInt ≤ x0.toInt ∧ x0.toInt ≤ tp.toInt) ∧ (∀ j, j < 400 * tq.toNatClampNeg → u.2.2.2.1 sg j = Ma sg j) ∧ (∀ j, j < 36 * tq.toNatClampNeg → u.2.2.2.1 cl j = Ma cl j) ∧ (∀ j, j ≠ tq.toNatClampNeg → u.2.2.2.1 cs j = Ma cs j) ∧ (r = 0 ∨ tq.toInt = 6 ∨ ∃ x0 x2 x4 x5 : Int32, u.2.2.2.1 a0 13 = x0 ∧ u.2.2.2.1 lg tq.toNatClampNeg = x2 ∧ u.2.2.2.1 cs tq.toNatClampNeg = x4 ∧ u.2.2.2.1 a0 19 = x5 ∧ iv 0 400 x2 ∧ iv 0 12 x4 ∧ iv 0 16 x5 ∧ x2.toInt ≤ x0.toInt ∧ x4.toInt ≤ x5.toInt ∧ x5.toInt ≤ 12 ∧ CI u.2.2.2.1 sg cl tq.toNatClampNeg x4.toNatClampNeg x2.toInt)) ∧ (r = 0 → ¬ (u.2.2.2.1 a0 14).toInt = 0)))) 0 0 (fun q => base ≤ q) := by
  refine tw_ofW (L := Lt_X12_clauseHere) (LR := LRt_X12_clauseHere) (by decide) (Nat.le_of_ble_eq_true rfl) hTy ?_
  intro p e s m args below meth c Q ls hx hb hr hlocks hown hml hW hK hT hS hQ hl
  have hl : lv_has ls 4 [(0, .ref (base + a0))] := hl
  obtain ⟨hz_tb, hk_tb, hn_tb⟩ := hTy.refn hz_a0 hk_a0 (show rtR 12 0 = (13, 400, 0) from rfl) k_tb
  have hn_tb := hn_tb (by decide)
  obtain ⟨hz_lg, hk_lg, hn_lg⟩ := hTy.refn hz_a0 hk_a0 (show rtR 12 4 = (26, 7, 0) from rfl) k_lg
  have hn_lg := hn_lg (by decide)
  obtain ⟨hz_sg, hk_sg, hn_sg⟩ := hTy.refn hz_a0 hk_a0 (show rtR 12 3 = (25, 2400, 0) from rfl) k_sg
  have hn_sg := hn_sg (by decide)
  obtain ⟨hz_op, hk_op, hn_op⟩ := hTy.refn hz_a0 hk_a0 (show rtR 12 20 = (14, 400, 0) from rfl) k_op
  have hn_op := hn_op (by decide)
  obtain ⟨hz_cs, hk_cs, hn_cs⟩ := hTy.refn hz_a0 hk_a0 (show rtR 12 6 = (28, 6, 0) from rfl) k_cs
  have hn_cs := hn_cs (by decide)
  obtain ⟨hz_cl, hk_cl, hn_cl⟩ := hTy.refn hz_a0 hk_a0 (show rtR 12 5 = (27, 216, 0) from rfl) k_cl
  have hn_cl := hn_cl (by decide)
  refine lv_aload_n hx hb dX12_clauseHere_0 rfl (lv_at hl 0 rfl) ?_
  have q1 : nx.toInt ≤ tp.toInt := by
    have := (h_cn).1; have := (h_cn).2; have := (h_le).1; have := (h_le).2; have := (h_li).1; have := (h_li).2; have := (h_md).1; have := (h_md).2; have := (h_nx).1; have := (h_nx).2; have := (h_tp).1; have := (h_tp).2; have := (h_tq).1; have := (h_tq).2; omega
  refine tw_goi hS (md_runV (As := []) (rest := []) hx hb hml hown hW hK hT hS.1 (t_X12_see l D cy tx base Z K N Ma Ra Ja hS.2.1 a0 hz_a0 hk_a0 tb k_tb nx k_nx (iv_mono h_nx (by decide) (by decide)) tp k_tp (iv_mono h_tp (by decide) (by decide)) q1) s_X12_130 ⟨rfl, rfl, ⟨Nat.le_of_ble_eq_true rfl, Nat.le_of_ble_eq_true rfl⟩, ⟨Nat.le_of_ble_eq_true rfl, Nat.le_of_ble_eq_true rfl⟩⟩ hz_a0 hk_a0 (by decide) rfl rfl hl.1 rfl (Nat.le_of_ble_eq_true rfl) dX12_clauseHere_1) rfl rfl (fun x8 H locs M5 R6 J4 hS f2 g3 E7 => ?_)
  have eR6 := Fr.nil g3 rfl
  subst eR6
  obtain ⟨h_x8, p9⟩ := E7
  obtain ⟨x12, k10, h11, q13, z14, z15⟩ := p9
  have k10 : M5 a0 13 = x12 := k10
  have z15 : ∀ j : Nat, j = x12.toNatClampNeg → x8.toInt = -1 ∨ ¬ (M5 tb j).toInt = 32 := z15
  refine lv_pop hx hb dX12_clauseHere_4 rfl ?_
  refine lv_aload_n hx hb dX12_clauseHere_5 rfl (lv_at hl 0 rfl) ?_
  refine tw_getk hx hb hW hown hK hS f_X12_127_11 hz_a0 hk_a0 (v := x12) k10 dX12_clauseHere_6 ?_
  refine lv_istore_n (lv' := [(1, .int x12), (0, .ref (base + a0))]) hx hb dX12_clauseHere_9 rfl hl (by decide) rfl (fun ls hl => ?_)
  refine lv_aload_n hx hb dX12_clauseHere_10 rfl (lv_at hl 1 rfl) ?_
  have k16 : M5 a0 16 = tq := (Fr.kp (k := 16) f2 hk_a0 rfl).trans k_tq
  refine tw_getk hx hb hW hown hK hS f_X12_179_11 hz_a0 hk_a0 (v := tq) k16 dX12_clauseHere_11 ?_
  refine lv_bipush (v := 6) hx hb dX12_clauseHere_14 (by decide) ?_
  refine lv_icmp_ne (tgt := 23) hx hb dX12_clauseHere_16 (by decide) (fun c17 => ?_) (fun c17 => ?_)
  · have q18 : ¬ tq.toInt = 6 := ti_ne c17
    have h19 : iv 0 5 tq := ⟨by have := (h_tq).1; have := ((iv_c (c := 6) (n := 6) (by decide))).1; have := ((iv_c (c := 6) (n := 6) (by decide))).2; omega, by have := (h_tq).2; have := ((iv_c (c := 6) (n := 6) (by decide))).1; have := ((iv_c (c := 6) (n := 6) (by decide))).2; omega⟩
    refine lv_iconst (v := 0) hx hb dX12_clauseHere_23 (by decide) ?_
    refine lv_istore_n (lv' := [(2, .int 0), (1, .int x12), (0, .ref (base + a0))]) hx hb dX12_clauseHere_24 rfl hl (by decide) rfl (fun ls hl => ?_)
    refine lv_iload_n hx hb dX12_clauseHere_25 rfl (lv_at hl 0 rfl) ?_
    refine lv_if_eq (tgt := 77) hx hb dX12_clauseHere_26 (by decide) (fun _ => ?_) (fun h => absurd h (by decide))
    refine lv_aload_n hx hb dX12_clauseHere_77 rfl (lv_at hl 2 rfl) ?_
    refine lv_ldc2 hx hb hown (hW _ w_7_7 rfl) dX12_clauseHere_78 ?_
    have k20 : M5 a0 1 = tp := (Fr.kp (k := 1) f2 hk_a0 rfl).trans k_tp
    have q21 : x12.toInt ≤ tp.toInt := by
      have := (h_cn).1; have := (h_cn).2; have := (h_le).1; have := (h_le).2; have := (h_li).1; have := (h_li).2; have := (h_md).1; have := (h_md).2; have := (h_nx).1; have := (h_nx).2; have := (h_tp).1; have := (h_tp).2; have := (h19).1; have := (h19).2; have := (h11).1; have := (h11).2; have := (h_x8).1; have := (h_x8).2; omega
    refine tw_goi hS (md_runV (As := [.long 7955827]) (rest := []) hx hb hml hown hW hK hT hS.1 (t_X12_isWord l D cy tx base Z K N M5 Ra J4 hS.2.1 a0 hz_a0 hk_a0 (7955827) tb k_tb x12 k10 (iv_mono h11 (by decide) (by decide)) tp k20 (iv_mono h_tp (by decide) (by decide)) q21) s_X12_138 ⟨rfl, rfl, ⟨Nat.le_of_ble_eq_true rfl, Nat.le_of_ble_eq_true rfl⟩, ⟨Nat.le_of_ble_eq_true rfl, Nat.le_of_ble_eq_true rfl⟩⟩ hz_a0 hk_a0 (by decide) rfl rfl hl.1 rfl (Nat.le_of_ble_eq_true rfl) dX12_clauseHere_81) rfl rfl (fun x28 H locs M25 R26 J24 hS f22 g23 E27 => ?_)
    have eR26 := Fr.nil g23 rfl
    subst eR26
    obtain ⟨h_x28, p29⟩ := E27
    obtain ⟨x32, k30, h31, q33, z34, z35⟩ := p29
    have k30 : M25 a0 13 = x32 := k30
    have z36 : ¬ x28 = 0 → chF 97 122 Ma tb x32 tp := fun h => chF.rf (chF.fr (z35 h) f22 hk_tb rfl) hS.2.2.1 hk_tb rfl
    refine lv_if_ne (tgt := 107) hx hb dX12_clauseHere_84 (by decide) (fun c37 => ?_) (fun c37 => ?_)
    · have q38 : ¬ x28.toInt = 0 := ti_ne c37
      have h39 : iv 1 1 x28 := ⟨by have := (h_x28).1; have := ((iv_c (c := 0) (n := 0) (by decide))).1; have := ((iv_c (c := 0) (n := 0) (by decide))).2; omega, by have := (h_x28).2; have := ((iv_c (c := 0) (n := 0) (by decide))).1; have := ((iv_c (c := 0) (n := 0) (by decide))).2; omega⟩
      have z40 := z36 c37
      have q41 := z40.1
      refine lv_iconst (v := 1) hx hb dX12_clauseHere_107 (by decide) ?_
      refine lv_goto (tgt := 112) hx hb dX12_clauseHere_108 (by decide) ?_
      refine lv_istore_n (lv' := [(3, .int 1), (2, .int 0), (1, .int x12), (0, .ref (base + a0))]) hx hb dX12_clauseHere_112 rfl hl (by decide) rfl (fun ls hl => ?_)
      refine lv_iload_n hx hb dX12_clauseHere_113 rfl (lv_at hl 0 rfl) ?_
      refine lv_if_ne (tgt := 124) hx hb dX12_clauseHere_114 (by decide) (fun _ => ?_) (fun h => absurd h (by decide))
      refine lv_aload_n hx hb dX12_clauseHere_124 rfl (lv_at hl 3 rfl) ?_
      have k42 : M25 a0 19 = li := ((Fr.kp (k := 19) f22 hk_a0 rfl).trans (Fr.kp (k := 19) f2 hk_a0 rfl)).trans k_li
      refine tw_getk hx hb hW hown hK hS f_X12_286_11 hz_a0 hk_a0 (v := li) k42 dX12_clauseHere_125 ?_
      refine lv_iload_n hx hb dX12_clauseHere_128 rfl (lv_at hl 1 rfl) ?_
      refine lv_if_eq (tgt := 137) hx hb dX12_clauseHere_129 (by decide) (fun _ => ?_) (fun h => absurd h (by decide))
      refine lv_bipush (v := 12) hx hb dX12_clauseHere_137 (by decide) ?_
      refine lv_icmp_ne (tgt := 149) hx hb dX12_clauseHere_139 (by decide) (fun c43 => ?_) (fun c43 => ?_)
      · have q44 : ¬ li.toInt = 12 := ti_ne c43
        refine lv_aload_n hx hb dX12_clauseHere_149 rfl (lv_at hl 3 rfl) ?_
        refine lv_dup hx hb dX12_clauseHere_150 rfl ?_
        have k45 : M25 a0 19 = li := ((Fr.kp (k := 19) f22 hk_a0 rfl).trans (Fr.kp (k := 19) f2 hk_a0 rfl)).trans k_li
        refine tw_getk hx hb hW hown hK hS f_X12_286_11 hz_a0 hk_a0 (v := li) k45 dX12_clauseHere_151 ?_
        refine lv_iconst (v := 1) hx hb dX12_clauseHere_154 (by decide) ?_
        refine tw_iadd (lo := 1) (hi := 17) hx hb h_li (iv_c (c := 1) (n := 1) (by decide)) ⟨by decide, by decide⟩ ⟨by decide, by decide⟩ dX12_clauseHere_155 (fun x48 e47 h46 => ?_)
        have e47 : x48.toInt = li.toInt + 1 := e47
        have h51 : iv 0 16 x48 := by
          have := (h_cn).1; have := (h_cn).2; have := (h_le).1; have := (h_le).2; have := (h_li).1; have := (h_li).2; have := (h_md).1; have := (h_md).2; have := (h_nx).1; have := (h_nx).2; have := (h_tp).1; have := (h_tp).2; have := (h19).1; have := (h19).2; have := (h46).1; have := (h46).2; exact ⟨by omega, by omega⟩
        refine tw_puti hx hb hW hown hK hS f_X12_286_11 hz_a0 hk_a0 rfl rfl (lo := 0) (hi := 16) rfl h51 rfl dX12_clauseHere_156 (fun H locs M52 hS k49 f50 => ?_)
        refine lv_iload_n hx hb dX12_clauseHere_159 rfl (lv_at hl 1 rfl) ?_
        refine lv_if_eq (tgt := 169) hx hb dX12_clauseHere_160 (by decide) (fun _ => ?_) (fun h => absurd h (by decide))
        refine lv_aload_n hx hb dX12_clauseHere_169 rfl (lv_at hl 3 rfl) ?_
        refine lv_aload_n hx hb dX12_clauseHere_170 rfl (lv_at hl 3 rfl) ?_
        refine lv_ldc2 hx hb hown (hW _ w_7_7 rfl) dX12_clauseHere_171 ?_
        have k53 : M52 a0 13 = x32 := (Fr.kp (k := 13) f50 hk_a0 rfl).trans k30
        have k54 : M52 a0 1 = tp := ((Fr.kp (k := 1) f50 hk_a0 rfl).trans ((Fr.kp (k := 1) f22 hk_a0 rfl).trans (Fr.kp (k := 1) f2 hk_a0 rfl))).trans k_tp
        have q55 : x32.toInt ≤ tp.toInt := by
          have := (h_cn).1; have := (h_cn).2; have := (h_le).1; have := (h_le).2; have := (h_li).1; have := (h_li).2; have := (h_md).1; have := (h_md).2; have := (h_nx).1; have := (h_nx).2; have := (h_tp).1; have := (h_tp).2; have := (h19).1; have := (h19).2; have := (h11).1; have := (h11).2; have := (h39).1; have := (h39).2; have := (h31).1; have := (h31).2; have := (h_x8).1; have := (h_x8).2; omega
        refine tw_goi hS (md_runV (As := [.long 7955827]) (rest := [.ref (base + a0)]) hx hb hml hown hW hK hT hS.1 (t_X12_isWord l D cy tx base Z K N M52 Ra J24 hS.2.1 a0 hz_a0 hk_a0 (7955827) tb k_tb x32 k53 (iv_mono h31 (by decide) (by decide)) tp k54 (iv_mono h_tp (by decide) (by decide)) q55) s_X12_138 ⟨rfl, rfl, ⟨Nat.le_of_ble_eq_true rfl, Nat.le_of_ble_eq_true rfl⟩, ⟨Nat.le_of_ble_eq_true rfl, Nat.le_of_ble_eq_true rfl⟩⟩ hz_a0 hk_a0 (by decide) rfl rfl hl.1 rfl (Nat.le_of_ble_eq_true rfl) dX12_clauseHere_174) rfl rfl (fun x62 H locs M59 R60 J58 hS f56 g57 E61 => ?_)
        have eR60 := Fr.nil g57 rfl
        subst eR60
        obtain ⟨h_x62, p63⟩ := E61
        obtain ⟨x66, k64, h65, q67, z68, z69⟩ := p63
        have k64 : M59 a0 13 = x66 := k64
        have zNz70 := chF.rf (chF.fr z40 hS.2.2.1 hk_tb rfl) f56 hk_tb rfl
        have z70 : chF 97 122 Ma tb x66 tp := z40.at (z68 _ rfl ⟨zNz70.1, fun e => by have := zNz70.2.1; omega⟩)
        have z71 : ¬ x62 = 0 → chF 97 122 Ma tb x66 tp := fun h => chF.rf (chF.fr (z69 h) f56 hk_tb rfl) hS.2.2.1 hk_tb rfl
        refine lv_if_eq (tgt := 184) hx hb dX12_clauseHere_177 (by decide) (fun c72 => ?_) (fun c72 => ?_)
        · have q73 : x62.toInt = 0 := ti_eq c72
          have h74 : iv 0 0 x62 := ⟨by have := (h_x62).1; have := ((iv_c (c := 0) (n := 0) (by decide))).1; omega, by have := (h_x62).2; have := ((iv_c (c := 0) (n := 0) (by decide))).2; omega⟩
          refine lv_aload_n hx hb dX12_clauseHere_184 rfl (lv_at hl 3 rfl) ?_
          refine lv_ldc2 hx hb hown (hW _ w_7_8 rfl) dX12_clauseHere_185 ?_
          have k75 : M59 a0 1 = tp := ((Fr.kp (k := 1) f56 hk_a0 rfl).trans ((Fr.kp (k := 1) f50 hk_a0 rfl).trans ((Fr.kp (k := 1) f22 hk_a0 rfl).trans (Fr.kp (k := 1) f2 hk_a0 rfl)))).trans k_tp
          have q76 : x66.toInt ≤ tp.toInt := by
            have := (h_cn).1; have := (h_cn).2; have := (h_le).1; have := (h_le).2; have := (h_li).1; have := (h_li).2; have := (h_md).1; have := (h_md).2; have := (h_nx).1; have := (h_nx).2; have := (h_tp).1; have := (h_tp).2; have := (h19).1; have := (h19).2; have := (h11).1; have := (h11).2; have := (h39).1; have := (h39).2; have := (h31).1; have := (h31).2; have := (h74).1; have := (h74).2; have := (h65).1; have := (h65).2; have := (h_x8).1; have := (h_x8).2; omega
          refine tw_goi hS (md_runV (As := [.long 28271]) (rest := [.ref (base + a0)]) hx hb hml hown hW hK hT hS.1 (t_X12_isWord l D cy tx base Z K N M59 Ra J58 hS.2.1 a0 hz_a0 hk_a0 (28271) tb k_tb x66 k64 (iv_mono h65 (by decide) (by decide)) tp k75 (iv_mono h_tp (by decide) (by decide)) q76) s_X12_138 ⟨rfl, rfl, ⟨Nat.le_of_ble_eq_true rfl, Nat.le_of_ble_eq_true rfl⟩, ⟨Nat.le_of_ble_eq_true rfl, Nat.le_of_ble_eq_true rfl⟩⟩ hz_a0 hk_a0 (by decide) rfl rfl hl.1 rfl (Nat.le_of_ble_eq_true rfl) dX12_clauseHere_188) rfl rfl (fun x83 H locs M80 R81 J79 hS f77 g78 E82 => ?_)
          have eR81 := Fr.nil g78 rfl
          subst eR81
          obtain ⟨h_x83, p84⟩ := E82
          obtain ⟨x87, k85, h86, q88, z89, z90⟩ := p84
          have k85 : M80 a0 13 = x87 := k85
          have zNz91 := chF.rf (chF.fr z70 hS.2.2.1 hk_tb rfl) f77 hk_tb rfl
          have z91 : chF 97 122 Ma tb x87 tp := z70.at (z89 _ rfl ⟨zNz91.1, fun e => by have := zNz91.2.1; omega⟩)
          have z92 : ¬ x83 = 0 → chF 97 122 Ma tb x87 tp := fun h => chF.rf (chF.fr (z90 h) f77 hk_tb rfl) hS.2.2.1 hk_tb rfl
          refine lv_if_eq (tgt := 198) hx hb dX12_clauseHere_191 (by decide) (fun c93 => ?_) (fun c93 => ?_)
          · have q94 : x83.toInt = 0 := ti_eq c93
            have h95 : iv 0 0 x83 := ⟨by have := (h_x83).1; have := ((iv_c (c := 0) (n := 0) (by decide))).1; omega, by have := (h_x83).2; have := ((iv_c (c := 0) (n := 0) (by decide))).2; omega⟩
            refine lv_iconst (v := 2) hx hb dX12_clauseHere_198 (by decide) ?_
            have k96 : M80 a0 1 = tp := ((Fr.kp (k := 1) f77 hk_a0 rfl).trans ((Fr.kp (k := 1) f56 hk_a0 rfl).trans ((Fr.kp (k := 1) f50 hk_a0 rfl).trans ((Fr.kp (k := 1) f22 hk_a0 rfl).trans (Fr.kp (k := 1) f2 hk_a0 rfl))))).trans k_tp
            have q97 : x87.toInt ≤ tp.toInt := by
              have := (h_cn).1; have := (h_cn).2; have := (h_le).1; have := (h_le).2; have := (h_li).1; have := (h_li).2; have := (h_md).1; have := (h_md).2; have := (h_nx).1; have := (h_nx).2; have := (h_tp).1; have := (h_tp).2; have := (h19).1; have := (h19).2; have := (h11).1; have := (h11).2; have := (h39).1; have := (h39).2; have := (h31).1; have := (h31).2; have := (h74).1; have := (h74).2; have := (h65).1; have := (h65).2; have := (h_x8).1; have := (h_x8).2; have := (h95).1; have := (h95).2; have := (h86).1; have := (h86).2; omega
            have k98 : M80 a0 16 = tq := ((Fr.kp (k := 16) f77 hk_a0 rfl).trans ((Fr.kp (k := 16) f56 hk_a0 rfl).trans ((Fr.kp (k := 16) f50 hk_a0 rfl).trans ((Fr.kp (k := 16) f22 hk_a0 rfl).trans (Fr.kp (k := 16) f2 hk_a0 rfl))))).trans k_tq
            have k99 : M80 lg tq.toNatClampNeg = le := ((Fr.kpa f77 hk_lg rfl tq.toNatClampNeg).trans ((Fr.kpa f56 hk_lg rfl tq.toNatClampNeg).trans ((Fr.kpa f50 hk_lg rfl tq.toNatClampNeg).trans ((Fr.kpa f22 hk_lg rfl tq.toNatClampNeg).trans (Fr.kpa f2 hk_lg rfl tq.toNatClampNeg))))).trans k_le
            have k100 : M80 a0 17 = md := ((Fr.kp (k := 17) f77 hk_a0 rfl).trans ((Fr.kp (k := 17) f56 hk_a0 rfl).trans ((Fr.kp (k := 17) f50 hk_a0 rfl).trans ((Fr.kp (k := 17) f22 hk_a0 rfl).trans (Fr.kp (k := 17) f2 hk_a0 rfl))))).trans k_md
            have k101 : M80 cs tq.toNatClampNeg = cn := ((Fr.kpa f77 hk_cs rfl tq.toNatClampNeg).trans ((Fr.kpa f56 hk_cs rfl tq.toNatClampNeg).trans ((Fr.kpa f50 hk_cs rfl tq.toNatClampNeg).trans ((Fr.kpa f22 hk_cs rfl tq.toNatClampNeg).trans (Fr.kpa f2 hk_cs rfl tq.toNatClampNeg))))).trans k_cn
            have h102 : iv 0 11 cn := by
              have := (h_cn).1; have := (h_cn).2; have := (h_le).1; have := (h_le).2; have := (h_li).1; have := (h_li).2; have := (h_md).1; have := (h_md).2; have := (h_nx).1; have := (h_nx).2; have := (h_tp).1; have := (h_tp).2; have := (h19).1; have := (h19).2; exact ⟨by omega, by omega⟩
            have q103 : le.toInt ≤ x87.toInt := by
              have := (h_cn).1; have := (h_cn).2; have := (h_le).1; have := (h_le).2; have := (h_li).1; have := (h_li).2; have := (h_md).1; have := (h_md).2; have := (h_nx).1; have := (h_nx).2; have := (h_tp).1; have := (h_tp).2; have := (h19).1; have := (h19).2; have := (h11).1; have := (h11).2; have := (h39).1; have := (h39).2; have := (h31).1; have := (h31).2; have := (h74).1; have := (h74).2; have := (h65).1; have := (h65).2; have := (h_x8).1; have := (h_x8).2; have := (h95).1; have := (h95).2; have := (h86).1; have := (h86).2; omega
            refine tw_goi hS (md_runV (As := [.int 2]) (rest := []) hx hb hml hown hW hK hT hS.1 (t_X12_isSayingHere l D cy tx base Z K N M80 Ra J79 hS.2.1 a0 hz_a0 hk_a0 2 (iv_mono (iv_c (c := 2) (n := 2) (by decide)) (by decide) (by decide)) tb k_tb x87 k85 (iv_mono h86 (by decide) (by decide)) tp k96 (iv_mono h_tp (by decide) (by decide)) q97 lg k_lg sg k_sg tq k98 (iv_mono h19 (by decide) (by decide)) le k99 (iv_mono h_le (by decide) (by decide)) md k100 (iv_mono h_md (by decide) (by decide)) op k_op cs k_cs cl k_cl cn k101 h102 q103 (CI.to (hci.resolve_left (by have := (h19).2; omega)) (fun j _ => ((Fr.kpa f77 hk_cl rfl j).trans ((Fr.kpa f56 hk_cl rfl j).trans ((Fr.kpa f50 hk_cl rfl j).trans ((Fr.kpa f22 hk_cl rfl j).trans (Fr.kpa f2 hk_cl rfl j)))))) (fun j _ => ((Fr.kpa f77 hk_sg rfl j).trans ((Fr.kpa f56 hk_sg rfl j).trans ((Fr.kpa f50 hk_sg rfl j).trans ((Fr.kpa f22 hk_sg rfl j).trans (Fr.kpa f2 hk_sg rfl j)))))) (Int.le_refl _))) s_X12_292 ⟨rfl, rfl, ⟨Nat.le_of_ble_eq_true rfl, Nat.le_of_ble_eq_true rfl⟩, ⟨Nat.le_of_ble_eq_true rfl, Nat.le_of_ble_eq_true rfl⟩⟩ hz_a0 hk_a0 (by decide) rfl rfl hl.1 rfl (Nat.le_of_ble_eq_true rfl) dX12_clauseHere_199) rfl rfl (fun x110 H locs M107 R108 J106 hS f104 g105 E109 => ?_)
            have eR108 := Fr.nil g105 rfl
            subst eR108
            obtain ⟨h_x110, p111, p112⟩ := E109
            obtain ⟨⟨x114, k115, h113, zu112, zv112⟩, zf112, zg112, zh112, zc112⟩ := p111
            have k115 : M107 a0 13 = x114 := k115
            have z116 : x110 = 0 → ¬ (M107 a0 14).toInt = 0 := p112
            have q117 : nx.toInt ≤ x114.toInt ∧ x114.toInt ≤ tp.toInt := by
              have := (h_cn).1; have := (h_cn).2; have := (h_le).1; have := (h_le).2; have := (h_li).1; have := (h_li).2; have := (h_md).1; have := (h_md).2; have := (h_nx).1; have := (h_nx).2; have := (h_tp).1; have := (h_tp).2; have := (h19).1; have := (h19).2; have := (h113).1; have := (h113).2; have := (h11).1; have := (h11).2; have := (h39).1; have := (h39).2; have := (h31).1; have := (h31).2; have := (h74).1; have := (h74).2; have := (h65).1; have := (h65).2; have := (h_x8).1; have := (h_x8).2; have := (h95).1; have := (h95).2; have := (h86).1; have := (h86).2; exact ⟨by omega, by omega⟩
            have zt112 := ti_cl (x := tq) (by have := (h19).1; omega)
            have k118 : M107 a0 19 = x48 := ((Fr.kp (k := 19) f104 hk_a0 rfl).trans ((Fr.kp (k := 19) f77 hk_a0 rfl).trans (Fr.kp (k := 19) f56 hk_a0 rfl))).trans k49
            exact tw_endz hx hb hr hlocks hK hT hS hQ (nar_b h_x110) (⟨h_x110, ⟨⟨x114, k115, h113, q117.1, q117.2⟩, (fun j hj => (zf112 j (by omega)).trans ((fun j hj => (Fr.kpa f77 hk_sg rfl j).trans ((fun j hj => (Fr.kpa f56 hk_sg rfl j).trans ((fun j hj => (Fr.kpa f50 hk_sg rfl j).trans ((fun j hj => (Fr.kpa f22 hk_sg rfl j).trans ((fun j hj => (Fr.kpa f2 hk_sg rfl j).trans ((fun j _ => rfl) j hj)) j hj)) j hj)) j hj)) j hj)) j hj)), (fun j hj => (zg112 j (by omega)).trans ((fun j hj => (Fr.kpa f77 hk_cl rfl j).trans ((fun j hj => (Fr.kpa f56 hk_cl rfl j).trans ((fun j hj => (Fr.kpa f50 hk_cl rfl j).trans ((fun j hj => (Fr.kpa f22 hk_cl rfl j).trans ((fun j hj => (Fr.kpa f2 hk_cl rfl j).trans ((fun j _ => rfl) j hj)) j hj)) j hj)) j hj)) j hj)) j hj)), (fun j hj => (zh112 j hj).trans ((fun j hj => (Fr.kpa f77 hk_cs rfl j).trans ((fun j hj => (Fr.kpa f56 hk_cs rfl j).trans ((fun j hj => (Fr.kpa f50 hk_cs rfl j).trans ((fun j hj => (Fr.kpa f22 hk_cs rfl j).trans ((fun j hj => (Fr.kpa f2 hk_cs rfl j).trans ((fun j _ => rfl) j hj)) j hj)) j hj)) j hj)) j hj)) j hj)), (by by_cases hz : x110 = 0; (· exact Or.inl hz); (· obtain ⟨y0, y2, y4, f0, f2, f4, f5, f6, f7, f8, f9⟩ := zc112 hz; refine Or.inr (Or.inr ⟨y0, y2, y4, x48, f0, f2, f4, k118, f5, ⟨?_, ?_⟩, h51, f8, ?_, ?_, f9⟩); all_goals (have := (h_cn).1; have := (h_cn).2; have := (h51).1; have := (h51).2; omega)))⟩, z116⟩) dX12_clauseHere_202
          · have q119 : ¬ x83.toInt = 0 := ti_ne c93
            have h120 : iv 1 1 x83 := ⟨by have := (h_x83).1; have := ((iv_c (c := 0) (n := 0) (by decide))).1; have := ((iv_c (c := 0) (n := 0) (by decide))).2; omega, by have := (h_x83).2; have := ((iv_c (c := 0) (n := 0) (by decide))).1; have := ((iv_c (c := 0) (n := 0) (by decide))).2; omega⟩
            have z121 := z92 c93
            have q122 := z121.1
            refine lv_iconst (v := 0) hx hb dX12_clauseHere_194 (by decide) ?_
            refine lv_goto (tgt := 199) hx hb dX12_clauseHere_195 (by decide) ?_
            have k123 : M80 a0 1 = tp := ((Fr.kp (k := 1) f77 hk_a0 rfl).trans ((Fr.kp (k := 1) f56 hk_a0 rfl).trans ((Fr.kp (k := 1) f50 hk_a0 rfl).trans ((Fr.kp (k := 1) f22 hk_a0 rfl).trans (Fr.kp (k := 1) f2 hk_a0 rfl))))).trans k_tp
            have q124 : x87.toInt ≤ tp.toInt := by
              have := (h_cn).1; have := (h_cn).2; have := (h_le).1; have := (h_le).2; have := (h_li).1; have := (h_li).2; have := (h_md).1; have := (h_md).2; have := (h_nx).1; have := (h_nx).2; have := (h_tp).1; have := (h_tp).2; have := (h19).1; have := (h19).2; have := (h11).1; have := (h11).2; have := (h39).1; have := (h39).2; have := (h31).1; have := (h31).2; have := (h74).1; have := (h74).2; have := (h65).1; have := (h65).2; have := (h_x8).1; have := (h_x8).2; have := (h120).1; have := (h120).2; have := (h86).1; have := (h86).2; omega
            have k125 : M80 a0 16 = tq := ((Fr.kp (k := 16) f77 hk_a0 rfl).trans ((Fr.kp (k := 16) f56 hk_a0 rfl).trans ((Fr.kp (k := 16) f50 hk_a0 rfl).trans ((Fr.kp (k := 16) f22 hk_a0 rfl).trans (Fr.kp (k := 16) f2 hk_a0 rfl))))).trans k_tq
            have k126 : M80 lg tq.toNatClampNeg = le := ((Fr.kpa f77 hk_lg rfl tq.toNatClampNeg).trans ((Fr.kpa f56 hk_lg rfl tq.toNatClampNeg).trans ((Fr.kpa f50 hk_lg rfl tq.toNatClampNeg).trans ((Fr.kpa f22 hk_lg rfl tq.toNatClampNeg).trans (Fr.kpa f2 hk_lg rfl tq.toNatClampNeg))))).trans k_le
            have k127 : M80 a0 17 = md := ((Fr.kp (k := 17) f77 hk_a0 rfl).trans ((Fr.kp (k := 17) f56 hk_a0 rfl).trans ((Fr.kp (k := 17) f50 hk_a0 rfl).trans ((Fr.kp (k := 17) f22 hk_a0 rfl).trans (Fr.kp (k := 17) f2 hk_a0 rfl))))).trans k_md
            have k128 : M80 cs tq.toNatClampNeg = cn := ((Fr.kpa f77 hk_cs rfl tq.toNatClampNeg).trans ((Fr.kpa f56 hk_cs rfl tq.toNatClampNeg).trans ((Fr.kpa f50 hk_cs rfl tq.toNatClampNeg).trans ((Fr.kpa f22 hk_cs rfl tq.toNatClampNeg).trans (Fr.kpa f2 hk_cs rfl tq.toNatClampNeg))))).trans k_cn
            have h129 : iv 0 11 cn := by
              have := (h_cn).1; have := (h_cn).2; have := (h_le).1; have := (h_le).2; have := (h_li).1; have := (h_li).2; have := (h_md).1; have := (h_md).2; have := (h_nx).1; have := (h_nx).2; have := (h_tp).1; have := (h_tp).2; have := (h19).1; have := (h19).2; exact ⟨by omega, by omega⟩
            have q130 : le.toInt ≤ x87.toInt := by
              have := (h_cn).1; have := (h_cn).2; have := (h_le).1; have := (h_le).2; have := (h_li).1; have := (h_li).2; have := (h_md).1; have := (h_md).2; have := (h_nx).1; have := (h_nx).2; have := (h_tp).1; have := (h_tp).2; have := (h19).1; have := (h19).2; have := (h11).1; have := (h11).2; have := (h39).1; have := (h39).2; have := (h31).1; have := (h31).2; have := (h74).1; have := (h74).2; have := (h65).1; have := (h65).2; have := (h_x8).1; have := (h_x8).2; have := (h120).1; have := (h120).2; have := (h86).1; have := (h86).2; omega
            refine tw_goi hS (md_runV (As := [.int 0]) (rest := []) hx hb hml hown hW hK hT hS.1 (t_X12_isSayingHere l D cy tx base Z K N M80 Ra J79 hS.2.1 a0 hz_a0 hk_a0 0 (iv_mono (iv_c (c := 0) (n := 0) (by decide)) (by decide) (by decide)) tb k_tb x87 k85 (iv_mono h86 (by decide) (by decide)) tp k123 (iv_mono h_tp (by decide) (by decide)) q124 lg k_lg sg k_sg tq k125 (iv_mono h19 (by decide) (by decide)) le k126 (iv_mono h_le (by decide) (by decide)) md k127 (iv_mono h_md (by decide) (by decide)) op k_op cs k_cs cl k_cl cn k128 h129 q130 (CI.to (hci.resolve_left (by have := (h19).2; omega)) (fun j _ => ((Fr.kpa f77 hk_cl rfl j).trans ((Fr.kpa f56 hk_cl rfl j).trans ((Fr.kpa f50 hk_cl rfl j).trans ((Fr.kpa f22 hk_cl rfl j).trans (Fr.kpa f2 hk_cl rfl j)))))) (fun j _ => ((Fr.kpa f77 hk_sg rfl j).trans ((Fr.kpa f56 hk_sg rfl j).trans ((Fr.kpa f50 hk_sg rfl j).trans ((Fr.kpa f22 hk_sg rfl j).trans (Fr.kpa f2 hk_sg rfl j)))))) (Int.le_refl _))) s_X12_292 ⟨rfl, rfl, ⟨Nat.le_of_ble_eq_true rfl, Nat.le_of_ble_eq_true rfl⟩, ⟨Nat.le_of_ble_eq_true rfl, Nat.le_of_ble_eq_true rfl⟩⟩ hz_a0 hk_a0 (by decide) rfl rfl hl.1 rfl (Nat.le_of_ble_eq_true rfl) dX12_clauseHere_199) rfl rfl (fun x137 H locs M134 R135 J133 hS f131 g132 E136 => ?_)
            have eR135 := Fr.nil g132 rfl
            subst eR135
            obtain ⟨h_x137, p138, p139⟩ := E136
            obtain ⟨⟨x141, k142, h140, zu139, zv139⟩, zf139, zg139, zh139, zc139⟩ := p138
            have k142 : M134 a0 13 = x141 := k142
            have z143 : x137 = 0 → ¬ (M134 a0 14).toInt = 0 := p139
            have q144 : nx.toInt ≤ x141.toInt ∧ x141.toInt ≤ tp.toInt := by
              have := (h_cn).1; have := (h_cn).2; have := (h_le).1; have := (h_le).2; have := (h_li).1; have := (h_li).2; have := (h_md).1; have := (h_md).2; have := (h_nx).1; have := (h_nx).2; have := (h_tp).1; have := (h_tp).2; have := (h19).1; have := (h19).2; have := (h11).1; have := (h11).2; have := (h140).1; have := (h140).2; have := (h39).1; have := (h39).2; have := (h31).1; have := (h31).2; have := (h74).1; have := (h74).2; have := (h65).1; have := (h65).2; have := (h_x8).1; have := (h_x8).2; have := (h120).1; have := (h120).2; have := (h86).1; have := (h86).2; exact ⟨by omega, by omega⟩
            have zt139 := ti_cl (x := tq) (by have := (h19).1; omega)
            have k145 : M134 a0 19 = x48 := ((Fr.kp (k := 19) f131 hk_a0 rfl).trans ((Fr.kp (k := 19) f77 hk_a0 rfl).trans (Fr.kp (k := 19) f56 hk_a0 rfl))).trans k49
            exact tw_endz hx hb hr hlocks hK hT hS hQ (nar_b h_x137) (⟨h_x137, ⟨⟨x141, k142, h140, q144.1, q144.2⟩, (fun j hj => (zf139 j (by omega)).trans ((fun j hj => (Fr.kpa f77 hk_sg rfl j).trans ((fun j hj => (Fr.kpa f56 hk_sg rfl j).trans ((fun j hj => (Fr.kpa f50 hk_sg rfl j).trans ((fun j hj => (Fr.kpa f22 hk_sg rfl j).trans ((fun j hj => (Fr.kpa f2 hk_sg rfl j).trans ((fun j _ => rfl) j hj)) j hj)) j hj)) j hj)) j hj)) j hj)), (fun j hj => (zg139 j (by omega)).trans ((fun j hj => (Fr.kpa f77 hk_cl rfl j).trans ((fun j hj => (Fr.kpa f56 hk_cl rfl j).trans ((fun j hj => (Fr.kpa f50 hk_cl rfl j).trans ((fun j hj => (Fr.kpa f22 hk_cl rfl j).trans ((fun j hj => (Fr.kpa f2 hk_cl rfl j).trans ((fun j _ => rfl) j hj)) j hj)) j hj)) j hj)) j hj)) j hj)), (fun j hj => (zh139 j hj).trans ((fun j hj => (Fr.kpa f77 hk_cs rfl j).trans ((fun j hj => (Fr.kpa f56 hk_cs rfl j).trans ((fun j hj => (Fr.kpa f50 hk_cs rfl j).trans ((fun j hj => (Fr.kpa f22 hk_cs rfl j).trans ((fun j hj => (Fr.kpa f2 hk_cs rfl j).trans ((fun j _ => rfl) j hj)) j hj)) j hj)) j hj)) j hj)) j hj)), (by by_cases hz : x137 = 0; (· exact Or.inl hz); (· obtain ⟨y0, y2, y4, f0, f2, f4, f5, f6, f7, f8, f9⟩ := zc139 hz; refine Or.inr (Or.inr ⟨y0, y2, y4, x48, f0, f2, f4, k145, f5, ⟨?_, ?_⟩, h51, f8, ?_, ?_, f9⟩); all_goals (have := (h_cn).1; have := (h_cn).2; have := (h51).1; have := (h51).2; omega)))⟩, z143⟩) dX12_clauseHere_202
        · have q146 : ¬ x62.toInt = 0 := ti_ne c72
          have h147 : iv 1 1 x62 := ⟨by have := (h_x62).1; have := ((iv_c (c := 0) (n := 0) (by decide))).1; have := ((iv_c (c := 0) (n := 0) (by decide))).2; omega, by have := (h_x62).2; have := ((iv_c (c := 0) (n := 0) (by decide))).1; have := ((iv_c (c := 0) (n := 0) (by decide))).2; omega⟩
          have z148 := z71 c72
          have q149 := z148.1
          refine lv_iconst (v := 1) hx hb dX12_clauseHere_180 (by decide) ?_
          refine lv_goto (tgt := 199) hx hb dX12_clauseHere_181 (by decide) ?_
          have k150 : M59 a0 1 = tp := ((Fr.kp (k := 1) f56 hk_a0 rfl).trans ((Fr.kp (k := 1) f50 hk_a0 rfl).trans ((Fr.kp (k := 1) f22 hk_a0 rfl).trans (Fr.kp (k := 1) f2 hk_a0 rfl)))).trans k_tp
          have q151 : x66.toInt ≤ tp.toInt := by
            have := (h_cn).1; have := (h_cn).2; have := (h_le).1; have := (h_le).2; have := (h_li).1; have := (h_li).2; have := (h_md).1; have := (h_md).2; have := (h_nx).1; have := (h_nx).2; have := (h_tp).1; have := (h_tp).2; have := (h19).1; have := (h19).2; have := (h11).1; have := (h11).2; have := (h39).1; have := (h39).2; have := (h31).1; have := (h31).2; have := (h147).1; have := (h147).2; have := (h65).1; have := (h65).2; have := (h_x8).1; have := (h_x8).2; omega
          have k152 : M59 a0 16 = tq := ((Fr.kp (k := 16) f56 hk_a0 rfl).trans ((Fr.kp (k := 16) f50 hk_a0 rfl).trans ((Fr.kp (k := 16) f22 hk_a0 rfl).trans (Fr.kp (k := 16) f2 hk_a0 rfl)))).trans k_tq
          have k153 : M59 lg tq.toNatClampNeg = le := ((Fr.kpa f56 hk_lg rfl tq.toNatClampNeg).trans ((Fr.kpa f50 hk_lg rfl tq.toNatClampNeg).trans ((Fr.kpa f22 hk_lg rfl tq.toNatClampNeg).trans (Fr.kpa f2 hk_lg rfl tq.toNatClampNeg)))).trans k_le
          have k154 : M59 a0 17 = md := ((Fr.kp (k := 17) f56 hk_a0 rfl).trans ((Fr.kp (k := 17) f50 hk_a0 rfl).trans ((Fr.kp (k := 17) f22 hk_a0 rfl).trans (Fr.kp (k := 17) f2 hk_a0 rfl)))).trans k_md
          have k155 : M59 cs tq.toNatClampNeg = cn := ((Fr.kpa f56 hk_cs rfl tq.toNatClampNeg).trans ((Fr.kpa f50 hk_cs rfl tq.toNatClampNeg).trans ((Fr.kpa f22 hk_cs rfl tq.toNatClampNeg).trans (Fr.kpa f2 hk_cs rfl tq.toNatClampNeg)))).trans k_cn
          have h156 : iv 0 11 cn := by
            have := (h_cn).1; have := (h_cn).2; have := (h_le).1; have := (h_le).2; have := (h_li).1; have := (h_li).2; have := (h_md).1; have := (h_md).2; have := (h_nx).1; have := (h_nx).2; have := (h_tp).1; have := (h_tp).2; have := (h19).1; have := (h19).2; exact ⟨by omega, by omega⟩
          have q157 : le.toInt ≤ x66.toInt := by
            have := (h_cn).1; have := (h_cn).2; have := (h_le).1; have := (h_le).2; have := (h_li).1; have := (h_li).2; have := (h_md).1; have := (h_md).2; have := (h_nx).1; have := (h_nx).2; have := (h_tp).1; have := (h_tp).2; have := (h19).1; have := (h19).2; have := (h11).1; have := (h11).2; have := (h39).1; have := (h39).2; have := (h31).1; have := (h31).2; have := (h147).1; have := (h147).2; have := (h65).1; have := (h65).2; have := (h_x8).1; have := (h_x8).2; omega
          refine tw_goi hS (md_runV (As := [.int 1]) (rest := []) hx hb hml hown hW hK hT hS.1 (t_X12_isSayingHere l D cy tx base Z K N M59 Ra J58 hS.2.1 a0 hz_a0 hk_a0 1 (iv_mono (iv_c (c := 1) (n := 1) (by decide)) (by decide) (by decide)) tb k_tb x66 k64 (iv_mono h65 (by decide) (by decide)) tp k150 (iv_mono h_tp (by decide) (by decide)) q151 lg k_lg sg k_sg tq k152 (iv_mono h19 (by decide) (by decide)) le k153 (iv_mono h_le (by decide) (by decide)) md k154 (iv_mono h_md (by decide) (by decide)) op k_op cs k_cs cl k_cl cn k155 h156 q157 (CI.to (hci.resolve_left (by have := (h19).2; omega)) (fun j _ => ((Fr.kpa f56 hk_cl rfl j).trans ((Fr.kpa f50 hk_cl rfl j).trans ((Fr.kpa f22 hk_cl rfl j).trans (Fr.kpa f2 hk_cl rfl j))))) (fun j _ => ((Fr.kpa f56 hk_sg rfl j).trans ((Fr.kpa f50 hk_sg rfl j).trans ((Fr.kpa f22 hk_sg rfl j).trans (Fr.kpa f2 hk_sg rfl j))))) (Int.le_refl _))) s_X12_292 ⟨rfl, rfl, ⟨Nat.le_of_ble_eq_true rfl, Nat.le_of_ble_eq_true rfl⟩, ⟨Nat.le_of_ble_eq_true rfl, Nat.le_of_ble_eq_true rfl⟩⟩ hz_a0 hk_a0 (by decide) rfl rfl hl.1 rfl (Nat.le_of_ble_eq_true rfl) dX12_clauseHere_199) rfl rfl (fun x164 H locs M161 R162 J160 hS f158 g159 E163 => ?_)
          have eR162 := Fr.nil g159 rfl
          subst eR162
          obtain ⟨h_x164, p165, p166⟩ := E163
          obtain ⟨⟨x168, k169, h167, zu166, zv166⟩, zf166, zg166, zh166, zc166⟩ := p165
          have k169 : M161 a0 13 = x168 := k169
          have z170 : x164 = 0 → ¬ (M161 a0 14).toInt = 0 := p166
          have q171 : nx.toInt ≤ x168.toInt ∧ x168.toInt ≤ tp.toInt := by
            have := (h_cn).1; have := (h_cn).2; have := (h_le).1; have := (h_le).2; have := (h_li).1; have := (h_li).2; have := (h_md).1; have := (h_md).2; have := (h_nx).1; have := (h_nx).2; have := (h_tp).1; have := (h_tp).2; have := (h19).1; have := (h19).2; have := (h11).1; have := (h11).2; have := (h167).1; have := (h167).2; have := (h39).1; have := (h39).2; have := (h31).1; have := (h31).2; have := (h147).1; have := (h147).2; have := (h65).1; have := (h65).2; have := (h_x8).1; have := (h_x8).2; exact ⟨by omega, by omega⟩
          have zt166 := ti_cl (x := tq) (by have := (h19).1; omega)
          have k172 : M161 a0 19 = x48 := ((Fr.kp (k := 19) f158 hk_a0 rfl).trans (Fr.kp (k := 19) f56 hk_a0 rfl)).trans k49
          exact tw_endz hx hb hr hlocks hK hT hS hQ (nar_b h_x164) (⟨h_x164, ⟨⟨x168, k169, h167, q171.1, q171.2⟩, (fun j hj => (zf166 j (by omega)).trans ((fun j hj => (Fr.kpa f56 hk_sg rfl j).trans ((fun j hj => (Fr.kpa f50 hk_sg rfl j).trans ((fun j hj => (Fr.kpa f22 hk_sg rfl j).trans ((fun j hj => (Fr.kpa f2 hk_sg rfl j).trans ((fun j _ => rfl) j hj)) j hj)) j hj)) j hj)) j hj)), (fun j hj => (zg166 j (by omega)).trans ((fun j hj => (Fr.kpa f56 hk_cl rfl j).trans ((fun j hj => (Fr.kpa f50 hk_cl rfl j).trans ((fun j hj => (Fr.kpa f22 hk_cl rfl j).trans ((fun j hj => (Fr.kpa f2 hk_cl rfl j).trans ((fun j _ => rfl) j hj)) j hj)) j hj)) j hj)) j hj)), (fun j hj => (zh166 j hj).trans ((fun j hj => (Fr.kpa f56 hk_cs rfl j).trans ((fun j hj => (Fr.kpa f50 hk_cs rfl j).trans ((fun j hj => (Fr.kpa f22 hk_cs rfl j).trans ((fun j hj => (Fr.kpa f2 hk_cs rfl j).trans ((fun j _ => rfl) j hj)) j hj)) j hj)) j hj)) j hj)), (by by_cases hz : x164 = 0; (· exact Or.inl hz); (· obtain ⟨y0, y2, y4, f0, f2, f4, f5, f6, f7, f8, f9⟩ := zc166 hz; refine Or.inr (Or.inr ⟨y0, y2, y4, x48, f0, f2, f4, k172, f5, ⟨?_, ?_⟩, h51, f8, ?_, ?_, f9⟩); all_goals (have := (h_cn).1; have := (h_cn).2; have := (h51).1; have := (h51).2; omega)))⟩, z170⟩) dX12_clauseHere_202
      · have q173 : li.toInt = 12 := ti_eq c43
        have h174 : iv 12 12 li := ⟨by have := (h_li).1; have := ((iv_c (c := 12) (n := 12) (by decide))).1; omega, by have := (h_li).2; have := ((iv_c (c := 12) (n := 12) (by decide))).2; omega⟩
        refine lv_aload_n hx hb dX12_clauseHere_142 rfl (lv_at hl 3 rfl) ?_
        refine lv_iconst (v := 4) hx hb dX12_clauseHere_143 (by decide) ?_
        refine lv_iload_n hx hb dX12_clauseHere_144 rfl (lv_at hl 2 rfl) ?_
        refine tw_goi hS (md_runV (As := [.int 4, .int x12]) (rest := []) hx hb hml hown hW hK hT hS.1 (t_X12_fails l D cy tx base Z K N M25 Ra J24 hS.2.1 a0 hz_a0 hk_a0 4 (iv_mono (iv_c (c := 4) (n := 4) (by decide)) (by decide) (by decide)) x12 h11) s_X12_148 ⟨rfl, rfl, ⟨Nat.le_of_ble_eq_true rfl, Nat.le_of_ble_eq_true rfl⟩, ⟨Nat.le_of_ble_eq_true rfl, Nat.le_of_ble_eq_true rfl⟩⟩ hz_a0 hk_a0 (by decide) rfl rfl hl.1 rfl (Nat.le_of_ble_eq_true rfl) dX12_clauseHere_145) rfl rfl (fun x181 H locs M178 R179 J177 hS f175 g176 E180 => ?_)
        have eR179 := Fr.nil g176 rfl
        subst eR179
        obtain ⟨h_x181, p182⟩ := E180
        have z183 : x181 = 0 → ¬ (M178 a0 14).toInt = 0 := p182
        have z184 := z183 (iv0 h_x181)
        have k185 : M178 a0 13 = x32 := (Fr.kp (k := 13) f175 hk_a0 rfl).trans k30
        have q186 : nx.toInt ≤ x32.toInt ∧ x32.toInt ≤ tp.toInt := by
          have := (h_cn).1; have := (h_cn).2; have := (h_le).1; have := (h_le).2; have := (h174).1; have := (h174).2; have := (h_md).1; have := (h_md).2; have := (h_nx).1; have := (h_nx).2; have := (h_tp).1; have := (h_tp).2; have := (h19).1; have := (h19).2; have := (h11).1; have := (h11).2; have := (h39).1; have := (h39).2; have := (h31).1; have := (h31).2; have := (h_x8).1; have := (h_x8).2; exact ⟨by omega, by omega⟩
        exact tw_endz hx hb hr hlocks hK hT hS hQ (nar_b (iv_mono h_x181 (by decide) (by decide))) (⟨(iv_mono h_x181 (by decide) (by decide)), ⟨⟨x32, k185, h31, q186.1, q186.2⟩, (fun j hj => (Fr.kpa f175 hk_sg rfl j).trans ((fun j hj => (Fr.kpa f22 hk_sg rfl j).trans ((fun j hj => (Fr.kpa f2 hk_sg rfl j).trans ((fun j _ => rfl) j hj)) j hj)) j hj)), (fun j hj => (Fr.kpa f175 hk_cl rfl j).trans ((fun j hj => (Fr.kpa f22 hk_cl rfl j).trans ((fun j hj => (Fr.kpa f2 hk_cl rfl j).trans ((fun j _ => rfl) j hj)) j hj)) j hj)), (fun j hj => (Fr.kpa f175 hk_cs rfl j).trans ((fun j hj => (Fr.kpa f22 hk_cs rfl j).trans ((fun j hj => (Fr.kpa f2 hk_cs rfl j).trans ((fun j _ => rfl) j hj)) j hj)) j hj)), Or.inl (iv0 h_x181)⟩, (fun _ => (show ¬ (M178 a0 14).toInt = 0 from z184))⟩) dX12_clauseHere_148
    · have q187 : x28.toInt = 0 := ti_eq c37
      have h188 : iv 0 0 x28 := ⟨by have := (h_x28).1; have := ((iv_c (c := 0) (n := 0) (by decide))).1; omega, by have := (h_x28).2; have := ((iv_c (c := 0) (n := 0) (by decide))).2; omega⟩
      refine lv_aload_n hx hb dX12_clauseHere_87 rfl (lv_at hl 2 rfl) ?_
      refine lv_ldc2 hx hb hown (hW _ w_7_8 rfl) dX12_clauseHere_88 ?_
      have k189 : M25 a0 1 = tp := ((Fr.kp (k := 1) f22 hk_a0 rfl).trans (Fr.kp (k := 1) f2 hk_a0 rfl)).trans k_tp
      have q190 : x32.toInt ≤ tp.toInt := by
        have := (h_cn).1; have := (h_cn).2; have := (h_le).1; have := (h_le).2; have := (h_li).1; have := (h_li).2; have := (h_md).1; have := (h_md).2; have := (h_nx).1; have := (h_nx).2; have := (h_tp).1; have := (h_tp).2; have := (h19).1; have := (h19).2; have := (h11).1; have := (h11).2; have := (h188).1; have := (h188).2; have := (h31).1; have := (h31).2; have := (h_x8).1; have := (h_x8).2; omega
      refine tw_goi hS (md_runV (As := [.long 28271]) (rest := []) hx hb hml hown hW hK hT hS.1 (t_X12_isWord l D cy tx base Z K N M25 Ra J24 hS.2.1 a0 hz_a0 hk_a0 (28271) tb k_tb x32 k30 (iv_mono h31 (by decide) (by decide)) tp k189 (iv_mono h_tp (by decide) (by decide)) q190) s_X12_138 ⟨rfl, rfl, ⟨Nat.le_of_ble_eq_true rfl, Nat.le_of_ble_eq_true rfl⟩, ⟨Nat.le_of_ble_eq_true rfl, Nat.le_of_ble_eq_true rfl⟩⟩ hz_a0 hk_a0 (by decide) rfl rfl hl.1 rfl (Nat.le_of_ble_eq_true rfl) dX12_clauseHere_91) rfl rfl (fun x197 H locs M194 R195 J193 hS f191 g192 E196 => ?_)
      have eR195 := Fr.nil g192 rfl
      subst eR195
      obtain ⟨h_x197, p198⟩ := E196
      obtain ⟨x201, k199, h200, q202, z203, z204⟩ := p198
      have k199 : M194 a0 13 = x201 := k199
      have z205 : ¬ x197 = 0 → chF 97 122 Ma tb x201 tp := fun h => chF.rf (chF.fr (z204 h) f191 hk_tb rfl) hS.2.2.1 hk_tb rfl
      refine lv_if_ne (tgt := 107) hx hb dX12_clauseHere_94 (by decide) (fun c206 => ?_) (fun c206 => ?_)
      · have q207 : ¬ x197.toInt = 0 := ti_ne c206
        have h208 : iv 1 1 x197 := ⟨by have := (h_x197).1; have := ((iv_c (c := 0) (n := 0) (by decide))).1; have := ((iv_c (c := 0) (n := 0) (by decide))).2; omega, by have := (h_x197).2; have := ((iv_c (c := 0) (n := 0) (by decide))).1; have := ((iv_c (c := 0) (n := 0) (by decide))).2; omega⟩
        have z209 := z205 c206
        have q210 := z209.1
        refine lv_iconst (v := 1) hx hb dX12_clauseHere_107 (by decide) ?_
        refine lv_goto (tgt := 112) hx hb dX12_clauseHere_108 (by decide) ?_
        refine lv_istore_n (lv' := [(3, .int 1), (2, .int 0), (1, .int x12), (0, .ref (base + a0))]) hx hb dX12_clauseHere_112 rfl hl (by decide) rfl (fun ls hl => ?_)
        refine lv_iload_n hx hb dX12_clauseHere_113 rfl (lv_at hl 0 rfl) ?_
        refine lv_if_ne (tgt := 124) hx hb dX12_clauseHere_114 (by decide) (fun _ => ?_) (fun h => absurd h (by decide))
        refine lv_aload_n hx hb dX12_clauseHere_124 rfl (lv_at hl 3 rfl) ?_
        have k211 : M194 a0 19 = li := ((Fr.kp (k := 19) f191 hk_a0 rfl).trans ((Fr.kp (k := 19) f22 hk_a0 rfl).trans (Fr.kp (k := 19) f2 hk_a0 rfl))).trans k_li
        refine tw_getk hx hb hW hown hK hS f_X12_286_11 hz_a0 hk_a0 (v := li) k211 dX12_clauseHere_125 ?_
        refine lv_iload_n hx hb dX12_clauseHere_128 rfl (lv_at hl 1 rfl) ?_
        refine lv_if_eq (tgt := 137) hx hb dX12_clauseHere_129 (by decide) (fun _ => ?_) (fun h => absurd h (by decide))
        refine lv_bipush (v := 12) hx hb dX12_clauseHere_137 (by decide) ?_
        refine lv_icmp_ne (tgt := 149) hx hb dX12_clauseHere_139 (by decide) (fun c212 => ?_) (fun c212 => ?_)
        · have q213 : ¬ li.toInt = 12 := ti_ne c212
          refine lv_aload_n hx hb dX12_clauseHere_149 rfl (lv_at hl 3 rfl) ?_
          refine lv_dup hx hb dX12_clauseHere_150 rfl ?_
          have k214 : M194 a0 19 = li := ((Fr.kp (k := 19) f191 hk_a0 rfl).trans ((Fr.kp (k := 19) f22 hk_a0 rfl).trans (Fr.kp (k := 19) f2 hk_a0 rfl))).trans k_li
          refine tw_getk hx hb hW hown hK hS f_X12_286_11 hz_a0 hk_a0 (v := li) k214 dX12_clauseHere_151 ?_
          refine lv_iconst (v := 1) hx hb dX12_clauseHere_154 (by decide) ?_
          refine tw_iadd (lo := 1) (hi := 17) hx hb h_li (iv_c (c := 1) (n := 1) (by decide)) ⟨by decide, by decide⟩ ⟨by decide, by decide⟩ dX12_clauseHere_155 (fun x217 e216 h215 => ?_)
          have e216 : x217.toInt = li.toInt + 1 := e216
          have h220 : iv 0 16 x217 := by
            have := (h_cn).1; have := (h_cn).2; have := (h_le).1; have := (h_le).2; have := (h_li).1; have := (h_li).2; have := (h_md).1; have := (h_md).2; have := (h_nx).1; have := (h_nx).2; have := (h_tp).1; have := (h_tp).2; have := (h19).1; have := (h19).2; have := (h215).1; have := (h215).2; exact ⟨by omega, by omega⟩
          refine tw_puti hx hb hW hown hK hS f_X12_286_11 hz_a0 hk_a0 rfl rfl (lo := 0) (hi := 16) rfl h220 rfl dX12_clauseHere_156 (fun H locs M221 hS k218 f219 => ?_)
          refine lv_iload_n hx hb dX12_clauseHere_159 rfl (lv_at hl 1 rfl) ?_
          refine lv_if_eq (tgt := 169) hx hb dX12_clauseHere_160 (by decide) (fun _ => ?_) (fun h => absurd h (by decide))
          refine lv_aload_n hx hb dX12_clauseHere_169 rfl (lv_at hl 3 rfl) ?_
          refine lv_aload_n hx hb dX12_clauseHere_170 rfl (lv_at hl 3 rfl) ?_
          refine lv_ldc2 hx hb hown (hW _ w_7_7 rfl) dX12_clauseHere_171 ?_
          have k222 : M221 a0 13 = x201 := (Fr.kp (k := 13) f219 hk_a0 rfl).trans k199
          have k223 : M221 a0 1 = tp := ((Fr.kp (k := 1) f219 hk_a0 rfl).trans ((Fr.kp (k := 1) f191 hk_a0 rfl).trans ((Fr.kp (k := 1) f22 hk_a0 rfl).trans (Fr.kp (k := 1) f2 hk_a0 rfl)))).trans k_tp
          have q224 : x201.toInt ≤ tp.toInt := by
            have := (h_cn).1; have := (h_cn).2; have := (h_le).1; have := (h_le).2; have := (h_li).1; have := (h_li).2; have := (h_md).1; have := (h_md).2; have := (h_nx).1; have := (h_nx).2; have := (h_tp).1; have := (h_tp).2; have := (h19).1; have := (h19).2; have := (h11).1; have := (h11).2; have := (h208).1; have := (h208).2; have := (h200).1; have := (h200).2; have := (h188).1; have := (h188).2; have := (h31).1; have := (h31).2; have := (h_x8).1; have := (h_x8).2; omega
          refine tw_goi hS (md_runV (As := [.long 7955827]) (rest := [.ref (base + a0)]) hx hb hml hown hW hK hT hS.1 (t_X12_isWord l D cy tx base Z K N M221 Ra J193 hS.2.1 a0 hz_a0 hk_a0 (7955827) tb k_tb x201 k222 (iv_mono h200 (by decide) (by decide)) tp k223 (iv_mono h_tp (by decide) (by decide)) q224) s_X12_138 ⟨rfl, rfl, ⟨Nat.le_of_ble_eq_true rfl, Nat.le_of_ble_eq_true rfl⟩, ⟨Nat.le_of_ble_eq_true rfl, Nat.le_of_ble_eq_true rfl⟩⟩ hz_a0 hk_a0 (by decide) rfl rfl hl.1 rfl (Nat.le_of_ble_eq_true rfl) dX12_clauseHere_174) rfl rfl (fun x231 H locs M228 R229 J227 hS f225 g226 E230 => ?_)
          have eR229 := Fr.nil g226 rfl
          subst eR229
          obtain ⟨h_x231, p232⟩ := E230
          obtain ⟨x235, k233, h234, q236, z237, z238⟩ := p232
          have k233 : M228 a0 13 = x235 := k233
          have zNz239 := chF.rf (chF.fr z209 hS.2.2.1 hk_tb rfl) f225 hk_tb rfl
          have z239 : chF 97 122 Ma tb x235 tp := z209.at (z237 _ rfl ⟨zNz239.1, fun e => by have := zNz239.2.1; omega⟩)
          have z240 : ¬ x231 = 0 → chF 97 122 Ma tb x235 tp := fun h => chF.rf (chF.fr (z238 h) f225 hk_tb rfl) hS.2.2.1 hk_tb rfl
          refine lv_if_eq (tgt := 184) hx hb dX12_clauseHere_177 (by decide) (fun c241 => ?_) (fun c241 => ?_)
          · have q242 : x231.toInt = 0 := ti_eq c241
            have h243 : iv 0 0 x231 := ⟨by have := (h_x231).1; have := ((iv_c (c := 0) (n := 0) (by decide))).1; omega, by have := (h_x231).2; have := ((iv_c (c := 0) (n := 0) (by decide))).2; omega⟩
            refine lv_aload_n hx hb dX12_clauseHere_184 rfl (lv_at hl 3 rfl) ?_
            refine lv_ldc2 hx hb hown (hW _ w_7_8 rfl) dX12_clauseHere_185 ?_
            have k244 : M228 a0 1 = tp := ((Fr.kp (k := 1) f225 hk_a0 rfl).trans ((Fr.kp (k := 1) f219 hk_a0 rfl).trans ((Fr.kp (k := 1) f191 hk_a0 rfl).trans ((Fr.kp (k := 1) f22 hk_a0 rfl).trans (Fr.kp (k := 1) f2 hk_a0 rfl))))).trans k_tp
            have q245 : x235.toInt ≤ tp.toInt := by
              have := (h_cn).1; have := (h_cn).2; have := (h_le).1; have := (h_le).2; have := (h_li).1; have := (h_li).2; have := (h_md).1; have := (h_md).2; have := (h_nx).1; have := (h_nx).2; have := (h_tp).1; have := (h_tp).2; have := (h19).1; have := (h19).2; have := (h11).1; have := (h11).2; have := (h208).1; have := (h208).2; have := (h200).1; have := (h200).2; have := (h243).1; have := (h243).2; have := (h234).1; have := (h234).2; have := (h188).1; have := (h188).2; have := (h31).1; have := (h31).2; have := (h_x8).1; have := (h_x8).2; omega
            refine tw_goi hS (md_runV (As := [.long 28271]) (rest := [.ref (base + a0)]) hx hb hml hown hW hK hT hS.1 (t_X12_isWord l D cy tx base Z K N M228 Ra J227 hS.2.1 a0 hz_a0 hk_a0 (28271) tb k_tb x235 k233 (iv_mono h234 (by decide) (by decide)) tp k244 (iv_mono h_tp (by decide) (by decide)) q245) s_X12_138 ⟨rfl, rfl, ⟨Nat.le_of_ble_eq_true rfl, Nat.le_of_ble_eq_true rfl⟩, ⟨Nat.le_of_ble_eq_true rfl, Nat.le_of_ble_eq_true rfl⟩⟩ hz_a0 hk_a0 (by decide) rfl rfl hl.1 rfl (Nat.le_of_ble_eq_true rfl) dX12_clauseHere_188) rfl rfl (fun x252 H locs M249 R250 J248 hS f246 g247 E251 => ?_)
            have eR250 := Fr.nil g247 rfl
            subst eR250
            obtain ⟨h_x252, p253⟩ := E251
            obtain ⟨x256, k254, h255, q257, z258, z259⟩ := p253
            have k254 : M249 a0 13 = x256 := k254
            have zNz260 := chF.rf (chF.fr z239 hS.2.2.1 hk_tb rfl) f246 hk_tb rfl
            have z260 : chF 97 122 Ma tb x256 tp := z239.at (z258 _ rfl ⟨zNz260.1, fun e => by have := zNz260.2.1; omega⟩)
            have z261 : ¬ x252 = 0 → chF 97 122 Ma tb x256 tp := fun h => chF.rf (chF.fr (z259 h) f246 hk_tb rfl) hS.2.2.1 hk_tb rfl
            refine lv_if_eq (tgt := 198) hx hb dX12_clauseHere_191 (by decide) (fun c262 => ?_) (fun c262 => ?_)
            · have q263 : x252.toInt = 0 := ti_eq c262
              have h264 : iv 0 0 x252 := ⟨by have := (h_x252).1; have := ((iv_c (c := 0) (n := 0) (by decide))).1; omega, by have := (h_x252).2; have := ((iv_c (c := 0) (n := 0) (by decide))).2; omega⟩
              refine lv_iconst (v := 2) hx hb dX12_clauseHere_198 (by decide) ?_
              have k265 : M249 a0 1 = tp := ((Fr.kp (k := 1) f246 hk_a0 rfl).trans ((Fr.kp (k := 1) f225 hk_a0 rfl).trans ((Fr.kp (k := 1) f219 hk_a0 rfl).trans ((Fr.kp (k := 1) f191 hk_a0 rfl).trans ((Fr.kp (k := 1) f22 hk_a0 rfl).trans (Fr.kp (k := 1) f2 hk_a0 rfl)))))).trans k_tp
              have q266 : x256.toInt ≤ tp.toInt := by
                have := (h_cn).1; have := (h_cn).2; have := (h_le).1; have := (h_le).2; have := (h_li).1; have := (h_li).2; have := (h_md).1; have := (h_md).2; have := (h_nx).1; have := (h_nx).2; have := (h_tp).1; have := (h_tp).2; have := (h19).1; have := (h19).2; have := (h11).1; have := (h11).2; have := (h208).1; have := (h208).2; have := (h200).1; have := (h200).2; have := (h243).1; have := (h243).2; have := (h234).1; have := (h234).2; have := (h264).1; have := (h264).2; have := (h255).1; have := (h255).2; have := (h188).1; have := (h188).2; have := (h31).1; have := (h31).2; have := (h_x8).1; have := (h_x8).2; omega
              have k267 : M249 a0 16 = tq := ((Fr.kp (k := 16) f246 hk_a0 rfl).trans ((Fr.kp (k := 16) f225 hk_a0 rfl).trans ((Fr.kp (k := 16) f219 hk_a0 rfl).trans ((Fr.kp (k := 16) f191 hk_a0 rfl).trans ((Fr.kp (k := 16) f22 hk_a0 rfl).trans (Fr.kp (k := 16) f2 hk_a0 rfl)))))).trans k_tq
              have k268 : M249 lg tq.toNatClampNeg = le := ((Fr.kpa f246 hk_lg rfl tq.toNatClampNeg).trans ((Fr.kpa f225 hk_lg rfl tq.toNatClampNeg).trans ((Fr.kpa f219 hk_lg rfl tq.toNatClampNeg).trans ((Fr.kpa f191 hk_lg rfl tq.toNatClampNeg).trans ((Fr.kpa f22 hk_lg rfl tq.toNatClampNeg).trans (Fr.kpa f2 hk_lg rfl tq.toNatClampNeg)))))).trans k_le
              have k269 : M249 a0 17 = md := ((Fr.kp (k := 17) f246 hk_a0 rfl).trans ((Fr.kp (k := 17) f225 hk_a0 rfl).trans ((Fr.kp (k := 17) f219 hk_a0 rfl).trans ((Fr.kp (k := 17) f191 hk_a0 rfl).trans ((Fr.kp (k := 17) f22 hk_a0 rfl).trans (Fr.kp (k := 17) f2 hk_a0 rfl)))))).trans k_md
              have k270 : M249 cs tq.toNatClampNeg = cn := ((Fr.kpa f246 hk_cs rfl tq.toNatClampNeg).trans ((Fr.kpa f225 hk_cs rfl tq.toNatClampNeg).trans ((Fr.kpa f219 hk_cs rfl tq.toNatClampNeg).trans ((Fr.kpa f191 hk_cs rfl tq.toNatClampNeg).trans ((Fr.kpa f22 hk_cs rfl tq.toNatClampNeg).trans (Fr.kpa f2 hk_cs rfl tq.toNatClampNeg)))))).trans k_cn
              have h271 : iv 0 11 cn := by
                have := (h_cn).1; have := (h_cn).2; have := (h_le).1; have := (h_le).2; have := (h_li).1; have := (h_li).2; have := (h_md).1; have := (h_md).2; have := (h_nx).1; have := (h_nx).2; have := (h_tp).1; have := (h_tp).2; have := (h19).1; have := (h19).2; exact ⟨by omega, by omega⟩
              have q272 : le.toInt ≤ x256.toInt := by
                have := (h_cn).1; have := (h_cn).2; have := (h_le).1; have := (h_le).2; have := (h_li).1; have := (h_li).2; have := (h_md).1; have := (h_md).2; have := (h_nx).1; have := (h_nx).2; have := (h_tp).1; have := (h_tp).2; have := (h19).1; have := (h19).2; have := (h11).1; have := (h11).2; have := (h208).1; have := (h208).2; have := (h200).1; have := (h200).2; have := (h243).1; have := (h243).2; have := (h234).1; have := (h234).2; have := (h264).1; have := (h264).2; have := (h255).1; have := (h255).2; have := (h188).1; have := (h188).2; have := (h31).1; have := (h31).2; have := (h_x8).1; have := (h_x8).2; omega
              refine tw_goi hS (md_runV (As := [.int 2]) (rest := []) hx hb hml hown hW hK hT hS.1 (t_X12_isSayingHere l D cy tx base Z K N M249 Ra J248 hS.2.1 a0 hz_a0 hk_a0 2 (iv_mono (iv_c (c := 2) (n := 2) (by decide)) (by decide) (by decide)) tb k_tb x256 k254 (iv_mono h255 (by decide) (by decide)) tp k265 (iv_mono h_tp (by decide) (by decide)) q266 lg k_lg sg k_sg tq k267 (iv_mono h19 (by decide) (by decide)) le k268 (iv_mono h_le (by decide) (by decide)) md k269 (iv_mono h_md (by decide) (by decide)) op k_op cs k_cs cl k_cl cn k270 h271 q272 (CI.to (hci.resolve_left (by have := (h19).2; omega)) (fun j _ => ((Fr.kpa f246 hk_cl rfl j).trans ((Fr.kpa f225 hk_cl rfl j).trans ((Fr.kpa f219 hk_cl rfl j).trans ((Fr.kpa f191 hk_cl rfl j).trans ((Fr.kpa f22 hk_cl rfl j).trans (Fr.kpa f2 hk_cl rfl j))))))) (fun j _ => ((Fr.kpa f246 hk_sg rfl j).trans ((Fr.kpa f225 hk_sg rfl j).trans ((Fr.kpa f219 hk_sg rfl j).trans ((Fr.kpa f191 hk_sg rfl j).trans ((Fr.kpa f22 hk_sg rfl j).trans (Fr.kpa f2 hk_sg rfl j))))))) (Int.le_refl _))) s_X12_292 ⟨rfl, rfl, ⟨Nat.le_of_ble_eq_true rfl, Nat.le_of_ble_eq_true rfl⟩, ⟨Nat.le_of_ble_eq_true rfl, Nat.le_of_ble_eq_true rfl⟩⟩ hz_a0 hk_a0 (by decide) rfl rfl hl.1 rfl (Nat.le_of_ble_eq_true rfl) dX12_clauseHere_199) rfl rfl (fun x279 H locs M276 R277 J275 hS f273 g274 E278 => ?_)
              have eR277 := Fr.nil g274 rfl
              subst eR277
              obtain ⟨h_x279, p280, p281⟩ := E278
              obtain ⟨⟨x283, k284, h282, zu281, zv281⟩, zf281, zg281, zh281, zc281⟩ := p280
              have k284 : M276 a0 13 = x283 := k284
              have z285 : x279 = 0 → ¬ (M276 a0 14).toInt = 0 := p281
              have q286 : nx.toInt ≤ x283.toInt ∧ x283.toInt ≤ tp.toInt := by
                have := (h_cn).1; have := (h_cn).2; have := (h_le).1; have := (h_le).2; have := (h_li).1; have := (h_li).2; have := (h_md).1; have := (h_md).2; have := (h_nx).1; have := (h_nx).2; have := (h_tp).1; have := (h_tp).2; have := (h19).1; have := (h19).2; have := (h11).1; have := (h11).2; have := (h208).1; have := (h208).2; have := (h200).1; have := (h200).2; have := (h243).1; have := (h243).2; have := (h234).1; have := (h234).2; have := (h264).1; have := (h264).2; have := (h255).1; have := (h255).2; have := (h188).1; have := (h188).2; have := (h282).1; have := (h282).2; have := (h31).1; have := (h31).2; have := (h_x8).1; have := (h_x8).2; exact ⟨by omega, by omega⟩
              have zt281 := ti_cl (x := tq) (by have := (h19).1; omega)
              have k287 : M276 a0 19 = x217 := ((Fr.kp (k := 19) f273 hk_a0 rfl).trans ((Fr.kp (k := 19) f246 hk_a0 rfl).trans (Fr.kp (k := 19) f225 hk_a0 rfl))).trans k218
              exact tw_endz hx hb hr hlocks hK hT hS hQ (nar_b h_x279) (⟨h_x279, ⟨⟨x283, k284, h282, q286.1, q286.2⟩, (fun j hj => (zf281 j (by omega)).trans ((fun j hj => (Fr.kpa f246 hk_sg rfl j).trans ((fun j hj => (Fr.kpa f225 hk_sg rfl j).trans ((fun j hj => (Fr.kpa f219 hk_sg rfl j).trans ((fun j hj => (Fr.kpa f191 hk_sg rfl j).trans ((fun j hj => (Fr.kpa f22 hk_sg rfl j).trans ((fun j hj => (Fr.kpa f2 hk_sg rfl j).trans ((fun j _ => rfl) j hj)) j hj)) j hj)) j hj)) j hj)) j hj)) j hj)), (fun j hj => (zg281 j (by omega)).trans ((fun j hj => (Fr.kpa f246 hk_cl rfl j).trans ((fun j hj => (Fr.kpa f225 hk_cl rfl j).trans ((fun j hj => (Fr.kpa f219 hk_cl rfl j).trans ((fun j hj => (Fr.kpa f191 hk_cl rfl j).trans ((fun j hj => (Fr.kpa f22 hk_cl rfl j).trans ((fun j hj => (Fr.kpa f2 hk_cl rfl j).trans ((fun j _ => rfl) j hj)) j hj)) j hj)) j hj)) j hj)) j hj)) j hj)), (fun j hj => (zh281 j hj).trans ((fun j hj => (Fr.kpa f246 hk_cs rfl j).trans ((fun j hj => (Fr.kpa f225 hk_cs rfl j).trans ((fun j hj => (Fr.kpa f219 hk_cs rfl j).trans ((fun j hj => (Fr.kpa f191 hk_cs rfl j).trans ((fun j hj => (Fr.kpa f22 hk_cs rfl j).trans ((fun j hj => (Fr.kpa f2 hk_cs rfl j).trans ((fun j _ => rfl) j hj)) j hj)) j hj)) j hj)) j hj)) j hj)) j hj)), (by by_cases hz : x279 = 0; (· exact Or.inl hz); (· obtain ⟨y0, y2, y4, f0, f2, f4, f5, f6, f7, f8, f9⟩ := zc281 hz; refine Or.inr (Or.inr ⟨y0, y2, y4, x217, f0, f2, f4, k287, f5, ⟨?_, ?_⟩, h220, f8, ?_, ?_, f9⟩); all_goals (have := (h_cn).1; have := (h_cn).2; have := (h220).1; have := (h220).2; omega)))⟩, z285⟩) dX12_clauseHere_202
            · have q288 : ¬ x252.toInt = 0 := ti_ne c262
              have h289 : iv 1 1 x252 := ⟨by have := (h_x252).1; have := ((iv_c (c := 0) (n := 0) (by decide))).1; have := ((iv_c (c := 0) (n := 0) (by decide))).2; omega, by have := (h_x252).2; have := ((iv_c (c := 0) (n := 0) (by decide))).1; have := ((iv_c (c := 0) (n := 0) (by decide))).2; omega⟩
              have z290 := z261 c262
              have q291 := z290.1
              refine lv_iconst (v := 0) hx hb dX12_clauseHere_194 (by decide) ?_
              refine lv_goto (tgt := 199) hx hb dX12_clauseHere_195 (by decide) ?_
              have k292 : M249 a0 1 = tp := ((Fr.kp (k := 1) f246 hk_a0 rfl).trans ((Fr.kp (k := 1) f225 hk_a0 rfl).trans ((Fr.kp (k := 1) f219 hk_a0 rfl).trans ((Fr.kp (k := 1) f191 hk_a0 rfl).trans ((Fr.kp (k := 1) f22 hk_a0 rfl).trans (Fr.kp (k := 1) f2 hk_a0 rfl)))))).trans k_tp
              have q293 : x256.toInt ≤ tp.toInt := by
                have := (h_cn).1; have := (h_cn).2; have := (h_le).1; have := (h_le).2; have := (h_li).1; have := (h_li).2; have := (h_md).1; have := (h_md).2; have := (h_nx).1; have := (h_nx).2; have := (h_tp).1; have := (h_tp).2; have := (h19).1; have := (h19).2; have := (h11).1; have := (h11).2; have := (h208).1; have := (h208).2; have := (h200).1; have := (h200).2; have := (h243).1; have := (h243).2; have := (h234).1; have := (h234).2; have := (h289).1; have := (h289).2; have := (h255).1; have := (h255).2; have := (h188).1; have := (h188).2; have := (h31).1; have := (h31).2; have := (h_x8).1; have := (h_x8).2; omega
              have k294 : M249 a0 16 = tq := ((Fr.kp (k := 16) f246 hk_a0 rfl).trans ((Fr.kp (k := 16) f225 hk_a0 rfl).trans ((Fr.kp (k := 16) f219 hk_a0 rfl).trans ((Fr.kp (k := 16) f191 hk_a0 rfl).trans ((Fr.kp (k := 16) f22 hk_a0 rfl).trans (Fr.kp (k := 16) f2 hk_a0 rfl)))))).trans k_tq
              have k295 : M249 lg tq.toNatClampNeg = le := ((Fr.kpa f246 hk_lg rfl tq.toNatClampNeg).trans ((Fr.kpa f225 hk_lg rfl tq.toNatClampNeg).trans ((Fr.kpa f219 hk_lg rfl tq.toNatClampNeg).trans ((Fr.kpa f191 hk_lg rfl tq.toNatClampNeg).trans ((Fr.kpa f22 hk_lg rfl tq.toNatClampNeg).trans (Fr.kpa f2 hk_lg rfl tq.toNatClampNeg)))))).trans k_le
              have k296 : M249 a0 17 = md := ((Fr.kp (k := 17) f246 hk_a0 rfl).trans ((Fr.kp (k := 17) f225 hk_a0 rfl).trans ((Fr.kp (k := 17) f219 hk_a0 rfl).trans ((Fr.kp (k := 17) f191 hk_a0 rfl).trans ((Fr.kp (k := 17) f22 hk_a0 rfl).trans (Fr.kp (k := 17) f2 hk_a0 rfl)))))).trans k_md
              have k297 : M249 cs tq.toNatClampNeg = cn := ((Fr.kpa f246 hk_cs rfl tq.toNatClampNeg).trans ((Fr.kpa f225 hk_cs rfl tq.toNatClampNeg).trans ((Fr.kpa f219 hk_cs rfl tq.toNatClampNeg).trans ((Fr.kpa f191 hk_cs rfl tq.toNatClampNeg).trans ((Fr.kpa f22 hk_cs rfl tq.toNatClampNeg).trans (Fr.kpa f2 hk_cs rfl tq.toNatClampNeg)))))).trans k_cn
              have h298 : iv 0 11 cn := by
                have := (h_cn).1; have := (h_cn).2; have := (h_le).1; have := (h_le).2; have := (h_li).1; have := (h_li).2; have := (h_md).1; have := (h_md).2; have := (h_nx).1; have := (h_nx).2; have := (h_tp).1; have := (h_tp).2; have := (h19).1; have := (h19).2; exact ⟨by omega, by omega⟩
              have q299 : le.toInt ≤ x256.toInt := by
                have := (h_cn).1; have := (h_cn).2; have := (h_le).1; have := (h_le).2; have := (h_li).1; have := (h_li).2; have := (h_md).1; have := (h_md).2; have := (h_nx).1; have := (h_nx).2; have := (h_tp).1; have := (h_tp).2; have := (h19).1; have := (h19).2; have := (h11).1; have := (h11).2; have := (h208).1; have := (h208).2; have := (h200).1; have := (h200).2; have := (h243).1; have := (h243).2; have := (h234).1; have := (h234).2; have := (h289).1; have := (h289).2; have := (h255).1; have := (h255).2; have := (h188).1; have := (h188).2; have := (h31).1; have := (h31).2; have := (h_x8).1; have := (h_x8).2; omega
              refine tw_goi hS (md_runV (As := [.int 0]) (rest := []) hx hb hml hown hW hK hT hS.1 (t_X12_isSayingHere l D cy tx base Z K N M249 Ra J248 hS.2.1 a0 hz_a0 hk_a0 0 (iv_mono (iv_c (c := 0) (n := 0) (by decide)) (by decide) (by decide)) tb k_tb x256 k254 (iv_mono h255 (by decide) (by decide)) tp k292 (iv_mono h_tp (by decide) (by decide)) q293 lg k_lg sg k_sg tq k294 (iv_mono h19 (by decide) (by decide)) le k295 (iv_mono h_le (by decide) (by decide)) md k296 (iv_mono h_md (by decide) (by decide)) op k_op cs k_cs cl k_cl cn k297 h298 q299 (CI.to (hci.resolve_left (by have := (h19).2; omega)) (fun j _ => ((Fr.kpa f246 hk_cl rfl j).trans ((Fr.kpa f225 hk_cl rfl j).trans ((Fr.kpa f219 hk_cl rfl j).trans ((Fr.kpa f191 hk_cl rfl j).trans ((Fr.kpa f22 hk_cl rfl j).trans (Fr.kpa f2 hk_cl rfl j))))))) (fun j _ => ((Fr.kpa f246 hk_sg rfl j).trans ((Fr.kpa f225 hk_sg rfl j).trans ((Fr.kpa f219 hk_sg rfl j).trans ((Fr.kpa f191 hk_sg rfl j).trans ((Fr.kpa f22 hk_sg rfl j).trans (Fr.kpa f2 hk_sg rfl j))))))) (Int.le_refl _))) s_X12_292 ⟨rfl, rfl, ⟨Nat.le_of_ble_eq_true rfl, Nat.le_of_ble_eq_true rfl⟩, ⟨Nat.le_of_ble_eq_true rfl, Nat.le_of_ble_eq_true rfl⟩⟩ hz_a0 hk_a0 (by decide) rfl rfl hl.1 rfl (Nat.le_of_ble_eq_true rfl) dX12_clauseHere_199) rfl rfl (fun x306 H locs M303 R304 J302 hS f300 g301 E305 => ?_)
              have eR304 := Fr.nil g301 rfl
              subst eR304
              obtain ⟨h_x306, p307, p308⟩ := E305
              obtain ⟨⟨x310, k311, h309, zu308, zv308⟩, zf308, zg308, zh308, zc308⟩ := p307
              have k311 : M303 a0 13 = x310 := k311
              have z312 : x306 = 0 → ¬ (M303 a0 14).toInt = 0 := p308
              have q313 : nx.toInt ≤ x310.toInt ∧ x310.toInt ≤ tp.toInt := by
                have := (h_cn).1; have := (h_cn).2; have := (h_le).1; have := (h_le).2; have := (h_li).1; have := (h_li).2; have := (h_md).1; have := (h_md).2; have := (h_nx).1; have := (h_nx).2; have := (h_tp).1; have := (h_tp).2; have := (h19).1; have := (h19).2; have := (h11).1; have := (h11).2; have := (h208).1; have := (h208).2; have := (h200).1; have := (h200).2; have := (h243).1; have := (h243).2; have := (h234).1; have := (h234).2; have := (h289).1; have := (h289).2; have := (h255).1; have := (h255).2; have := (h188).1; have := (h188).2; have := (h309).1; have := (h309).2; have := (h31).1; have := (h31).2; have := (h_x8).1; have := (h_x8).2; exact ⟨by omega, by omega⟩
              have zt308 := ti_cl (x := tq) (by have := (h19).1; omega)
              have k314 : M303 a0 19 = x217 := ((Fr.kp (k := 19) f300 hk_a0 rfl).trans ((Fr.kp (k := 19) f246 hk_a0 rfl).trans (Fr.kp (k := 19) f225 hk_a0 rfl))).trans k218
              exact tw_endz hx hb hr hlocks hK hT hS hQ (nar_b h_x306) (⟨h_x306, ⟨⟨x310, k311, h309, q313.1, q313.2⟩, (fun j hj => (zf308 j (by omega)).trans ((fun j hj => (Fr.kpa f246 hk_sg rfl j).trans ((fun j hj => (Fr.kpa f225 hk_sg rfl j).trans ((fun j hj => (Fr.kpa f219 hk_sg rfl j).trans ((fun j hj => (Fr.kpa f191 hk_sg rfl j).trans ((fun j hj => (Fr.kpa f22 hk_sg rfl j).trans ((fun j hj => (Fr.kpa f2 hk_sg rfl j).trans ((fun j _ => rfl) j hj)) j hj)) j hj)) j hj)) j hj)) j hj)) j hj)), (fun j hj => (zg308 j (by omega)).trans ((fun j hj => (Fr.kpa f246 hk_cl rfl j).trans ((fun j hj => (Fr.kpa f225 hk_cl rfl j).trans ((fun j hj => (Fr.kpa f219 hk_cl rfl j).trans ((fun j hj => (Fr.kpa f191 hk_cl rfl j).trans ((fun j hj => (Fr.kpa f22 hk_cl rfl j).trans ((fun j hj => (Fr.kpa f2 hk_cl rfl j).trans ((fun j _ => rfl) j hj)) j hj)) j hj)) j hj)) j hj)) j hj)) j hj)), (fun j hj => (zh308 j hj).trans ((fun j hj => (Fr.kpa f246 hk_cs rfl j).trans ((fun j hj => (Fr.kpa f225 hk_cs rfl j).trans ((fun j hj => (Fr.kpa f219 hk_cs rfl j).trans ((fun j hj => (Fr.kpa f191 hk_cs rfl j).trans ((fun j hj => (Fr.kpa f22 hk_cs rfl j).trans ((fun j hj => (Fr.kpa f2 hk_cs rfl j).trans ((fun j _ => rfl) j hj)) j hj)) j hj)) j hj)) j hj)) j hj)) j hj)), (by by_cases hz : x306 = 0; (· exact Or.inl hz); (· obtain ⟨y0, y2, y4, f0, f2, f4, f5, f6, f7, f8, f9⟩ := zc308 hz; refine Or.inr (Or.inr ⟨y0, y2, y4, x217, f0, f2, f4, k314, f5, ⟨?_, ?_⟩, h220, f8, ?_, ?_, f9⟩); all_goals (have := (h_cn).1; have := (h_cn).2; have := (h220).1; have := (h220).2; omega)))⟩, z312⟩) dX12_clauseHere_202
          · have q315 : ¬ x231.toInt = 0 := ti_ne c241
            have h316 : iv 1 1 x231 := ⟨by have := (h_x231).1; have := ((iv_c (c := 0) (n := 0) (by decide))).1; have := ((iv_c (c := 0) (n := 0) (by decide))).2; omega, by have := (h_x231).2; have := ((iv_c (c := 0) (n := 0) (by decide))).1; have := ((iv_c (c := 0) (n := 0) (by decide))).2; omega⟩
            have z317 := z240 c241
            have q318 := z317.1
            refine lv_iconst (v := 1) hx hb dX12_clauseHere_180 (by decide) ?_
            refine lv_goto (tgt := 199) hx hb dX12_clauseHere_181 (by decide) ?_
            have k319 : M228 a0 1 = tp := ((Fr.kp (k := 1) f225 hk_a0 rfl).trans ((Fr.kp (k := 1) f219 hk_a0 rfl).trans ((Fr.kp (k := 1) f191 hk_a0 rfl).trans ((Fr.kp (k := 1) f22 hk_a0 rfl).trans (Fr.kp (k := 1) f2 hk_a0 rfl))))).trans k_tp
            have q320 : x235.toInt ≤ tp.toInt := by
              have := (h_cn).1; have := (h_cn).2; have := (h_le).1; have := (h_le).2; have := (h_li).1; have := (h_li).2; have := (h_md).1; have := (h_md).2; have := (h_nx).1; have := (h_nx).2; have := (h_tp).1; have := (h_tp).2; have := (h19).1; have := (h19).2; have := (h11).1; have := (h11).2; have := (h208).1; have := (h208).2; have := (h200).1; have := (h200).2; have := (h316).1; have := (h316).2; have := (h234).1; have := (h234).2; have := (h188).1; have := (h188).2; have := (h31).1; have := (h31).2; have := (h_x8).1; have := (h_x8).2; omega
            have k321 : M228 a0 16 = tq := ((Fr.kp (k := 16) f225 hk_a0 rfl).trans ((Fr.kp (k := 16) f219 hk_a0 rfl).trans ((Fr.kp (k := 16) f191 hk_a0 rfl).trans ((Fr.kp (k := 16) f22 hk_a0 rfl).trans (Fr.kp (k := 16) f2 hk_a0 rfl))))).trans k_tq
            have k322 : M228 lg tq.toNatClampNeg = le := ((Fr.kpa f225 hk_lg rfl tq.toNatClampNeg).trans ((Fr.kpa f219 hk_lg rfl tq.toNatClampNeg).trans ((Fr.kpa f191 hk_lg rfl tq.toNatClampNeg).trans ((Fr.kpa f22 hk_lg rfl tq.toNatClampNeg).trans (Fr.kpa f2 hk_lg rfl tq.toNatClampNeg))))).trans k_le
            have k323 : M228 a0 17 = md := ((Fr.kp (k := 17) f225 hk_a0 rfl).trans ((Fr.kp (k := 17) f219 hk_a0 rfl).trans ((Fr.kp (k := 17) f191 hk_a0 rfl).trans ((Fr.kp (k := 17) f22 hk_a0 rfl).trans (Fr.kp (k := 17) f2 hk_a0 rfl))))).trans k_md
            have k324 : M228 cs tq.toNatClampNeg = cn := ((Fr.kpa f225 hk_cs rfl tq.toNatClampNeg).trans ((Fr.kpa f219 hk_cs rfl tq.toNatClampNeg).trans ((Fr.kpa f191 hk_cs rfl tq.toNatClampNeg).trans ((Fr.kpa f22 hk_cs rfl tq.toNatClampNeg).trans (Fr.kpa f2 hk_cs rfl tq.toNatClampNeg))))).trans k_cn
            have h325 : iv 0 11 cn := by
              have := (h_cn).1; have := (h_cn).2; have := (h_le).1; have := (h_le).2; have := (h_li).1; have := (h_li).2; have := (h_md).1; have := (h_md).2; have := (h_nx).1; have := (h_nx).2; have := (h_tp).1; have := (h_tp).2; have := (h19).1; have := (h19).2; exact ⟨by omega, by omega⟩
            have q326 : le.toInt ≤ x235.toInt := by
              have := (h_cn).1; have := (h_cn).2; have := (h_le).1; have := (h_le).2; have := (h_li).1; have := (h_li).2; have := (h_md).1; have := (h_md).2; have := (h_nx).1; have := (h_nx).2; have := (h_tp).1; have := (h_tp).2; have := (h19).1; have := (h19).2; have := (h11).1; have := (h11).2; have := (h208).1; have := (h208).2; have := (h200).1; have := (h200).2; have := (h316).1; have := (h316).2; have := (h234).1; have := (h234).2; have := (h188).1; have := (h188).2; have := (h31).1; have := (h31).2; have := (h_x8).1; have := (h_x8).2; omega
            refine tw_goi hS (md_runV (As := [.int 1]) (rest := []) hx hb hml hown hW hK hT hS.1 (t_X12_isSayingHere l D cy tx base Z K N M228 Ra J227 hS.2.1 a0 hz_a0 hk_a0 1 (iv_mono (iv_c (c := 1) (n := 1) (by decide)) (by decide) (by decide)) tb k_tb x235 k233 (iv_mono h234 (by decide) (by decide)) tp k319 (iv_mono h_tp (by decide) (by decide)) q320 lg k_lg sg k_sg tq k321 (iv_mono h19 (by decide) (by decide)) le k322 (iv_mono h_le (by decide) (by decide)) md k323 (iv_mono h_md (by decide) (by decide)) op k_op cs k_cs cl k_cl cn k324 h325 q326 (CI.to (hci.resolve_left (by have := (h19).2; omega)) (fun j _ => ((Fr.kpa f225 hk_cl rfl j).trans ((Fr.kpa f219 hk_cl rfl j).trans ((Fr.kpa f191 hk_cl rfl j).trans ((Fr.kpa f22 hk_cl rfl j).trans (Fr.kpa f2 hk_cl rfl j)))))) (fun j _ => ((Fr.kpa f225 hk_sg rfl j).trans ((Fr.kpa f219 hk_sg rfl j).trans ((Fr.kpa f191 hk_sg rfl j).trans ((Fr.kpa f22 hk_sg rfl j).trans (Fr.kpa f2 hk_sg rfl j)))))) (Int.le_refl _))) s_X12_292 ⟨rfl, rfl, ⟨Nat.le_of_ble_eq_true rfl, Nat.le_of_ble_eq_true rfl⟩, ⟨Nat.le_of_ble_eq_true rfl, Nat.le_of_ble_eq_true rfl⟩⟩ hz_a0 hk_a0 (by decide) rfl rfl hl.1 rfl (Nat.le_of_ble_eq_true rfl) dX12_clauseHere_199) rfl rfl (fun x333 H locs M330 R331 J329 hS f327 g328 E332 => ?_)
            have eR331 := Fr.nil g328 rfl
            subst eR331
            obtain ⟨h_x333, p334, p335⟩ := E332
            obtain ⟨⟨x337, k338, h336, zu335, zv335⟩, zf335, zg335, zh335, zc335⟩ := p334
            have k338 : M330 a0 13 = x337 := k338
            have z339 : x333 = 0 → ¬ (M330 a0 14).toInt = 0 := p335
            have q340 : nx.toInt ≤ x337.toInt ∧ x337.toInt ≤ tp.toInt := by
              have := (h_cn).1; have := (h_cn).2; have := (h_le).1; have := (h_le).2; have := (h_li).1; have := (h_li).2; have := (h_md).1; have := (h_md).2; have := (h_nx).1; have := (h_nx).2; have := (h_tp).1; have := (h_tp).2; have := (h19).1; have := (h19).2; have := (h11).1; have := (h11).2; have := (h208).1; have := (h208).2; have := (h200).1; have := (h200).2; have := (h316).1; have := (h316).2; have := (h234).1; have := (h234).2; have := (h188).1; have := (h188).2; have := (h31).1; have := (h31).2; have := (h336).1; have := (h336).2; have := (h_x8).1; have := (h_x8).2; exact ⟨by omega, by omega⟩
            have zt335 := ti_cl (x := tq) (by have := (h19).1; omega)
            have k341 : M330 a0 19 = x217 := ((Fr.kp (k := 19) f327 hk_a0 rfl).trans (Fr.kp (k := 19) f225 hk_a0 rfl)).trans k218
            exact tw_endz hx hb hr hlocks hK hT hS hQ (nar_b h_x333) (⟨h_x333, ⟨⟨x337, k338, h336, q340.1, q340.2⟩, (fun j hj => (zf335 j (by omega)).trans ((fun j hj => (Fr.kpa f225 hk_sg rfl j).trans ((fun j hj => (Fr.kpa f219 hk_sg rfl j).trans ((fun j hj => (Fr.kpa f191 hk_sg rfl j).trans ((fun j hj => (Fr.kpa f22 hk_sg rfl j).trans ((fun j hj => (Fr.kpa f2 hk_sg rfl j).trans ((fun j _ => rfl) j hj)) j hj)) j hj)) j hj)) j hj)) j hj)), (fun j hj => (zg335 j (by omega)).trans ((fun j hj => (Fr.kpa f225 hk_cl rfl j).trans ((fun j hj => (Fr.kpa f219 hk_cl rfl j).trans ((fun j hj => (Fr.kpa f191 hk_cl rfl j).trans ((fun j hj => (Fr.kpa f22 hk_cl rfl j).trans ((fun j hj => (Fr.kpa f2 hk_cl rfl j).trans ((fun j _ => rfl) j hj)) j hj)) j hj)) j hj)) j hj)) j hj)), (fun j hj => (zh335 j hj).trans ((fun j hj => (Fr.kpa f225 hk_cs rfl j).trans ((fun j hj => (Fr.kpa f219 hk_cs rfl j).trans ((fun j hj => (Fr.kpa f191 hk_cs rfl j).trans ((fun j hj => (Fr.kpa f22 hk_cs rfl j).trans ((fun j hj => (Fr.kpa f2 hk_cs rfl j).trans ((fun j _ => rfl) j hj)) j hj)) j hj)) j hj)) j hj)) j hj)), (by by_cases hz : x333 = 0; (· exact Or.inl hz); (· obtain ⟨y0, y2, y4, f0, f2, f4, f5, f6, f7, f8, f9⟩ := zc335 hz; refine Or.inr (Or.inr ⟨y0, y2, y4, x217, f0, f2, f4, k341, f5, ⟨?_, ?_⟩, h220, f8, ?_, ?_, f9⟩); all_goals (have := (h_cn).1; have := (h_cn).2; have := (h220).1; have := (h220).2; omega)))⟩, z339⟩) dX12_clauseHere_202
        · have q342 : li.toInt = 12 := ti_eq c212
          have h343 : iv 12 12 li := ⟨by have := (h_li).1; have := ((iv_c (c := 12) (n := 12) (by decide))).1; omega, by have := (h_li).2; have := ((iv_c (c := 12) (n := 12) (by decide))).2; omega⟩
          refine lv_aload_n hx hb dX12_clauseHere_142 rfl (lv_at hl 3 rfl) ?_
          refine lv_iconst (v := 4) hx hb dX12_clauseHere_143 (by decide) ?_
          refine lv_iload_n hx hb dX12_clauseHere_144 rfl (lv_at hl 2 rfl) ?_
          refine tw_goi hS (md_runV (As := [.int 4, .int x12]) (rest := []) hx hb hml hown hW hK hT hS.1 (t_X12_fails l D cy tx base Z K N M194 Ra J193 hS.2.1 a0 hz_a0 hk_a0 4 (iv_mono (iv_c (c := 4) (n := 4) (by decide)) (by decide) (by decide)) x12 h11) s_X12_148 ⟨rfl, rfl, ⟨Nat.le_of_ble_eq_true rfl, Nat.le_of_ble_eq_true rfl⟩, ⟨Nat.le_of_ble_eq_true rfl, Nat.le_of_ble_eq_true rfl⟩⟩ hz_a0 hk_a0 (by decide) rfl rfl hl.1 rfl (Nat.le_of_ble_eq_true rfl) dX12_clauseHere_145) rfl rfl (fun x350 H locs M347 R348 J346 hS f344 g345 E349 => ?_)
          have eR348 := Fr.nil g345 rfl
          subst eR348
          obtain ⟨h_x350, p351⟩ := E349
          have z352 : x350 = 0 → ¬ (M347 a0 14).toInt = 0 := p351
          have z353 := z352 (iv0 h_x350)
          have k354 : M347 a0 13 = x201 := (Fr.kp (k := 13) f344 hk_a0 rfl).trans k199
          have q355 : nx.toInt ≤ x201.toInt ∧ x201.toInt ≤ tp.toInt := by
            have := (h_cn).1; have := (h_cn).2; have := (h_le).1; have := (h_le).2; have := (h343).1; have := (h343).2; have := (h_md).1; have := (h_md).2; have := (h_nx).1; have := (h_nx).2; have := (h_tp).1; have := (h_tp).2; have := (h19).1; have := (h19).2; have := (h11).1; have := (h11).2; have := (h208).1; have := (h208).2; have := (h200).1; have := (h200).2; have := (h188).1; have := (h188).2; have := (h31).1; have := (h31).2; have := (h_x8).1; have := (h_x8).2; exact ⟨by omega, by omega⟩
          exact tw_endz hx hb hr hlocks hK hT hS hQ (nar_b (iv_mono h_x350 (by decide) (by decide))) (⟨(iv_mono h_x350 (by decide) (by decide)), ⟨⟨x201, k354, h200, q355.1, q355.2⟩, (fun j hj => (Fr.kpa f344 hk_sg rfl j).trans ((fun j hj => (Fr.kpa f191 hk_sg rfl j).trans ((fun j hj => (Fr.kpa f22 hk_sg rfl j).trans ((fun j hj => (Fr.kpa f2 hk_sg rfl j).trans ((fun j _ => rfl) j hj)) j hj)) j hj)) j hj)), (fun j hj => (Fr.kpa f344 hk_cl rfl j).trans ((fun j hj => (Fr.kpa f191 hk_cl rfl j).trans ((fun j hj => (Fr.kpa f22 hk_cl rfl j).trans ((fun j hj => (Fr.kpa f2 hk_cl rfl j).trans ((fun j _ => rfl) j hj)) j hj)) j hj)) j hj)), (fun j hj => (Fr.kpa f344 hk_cs rfl j).trans ((fun j hj => (Fr.kpa f191 hk_cs rfl j).trans ((fun j hj => (Fr.kpa f22 hk_cs rfl j).trans ((fun j hj => (Fr.kpa f2 hk_cs rfl j).trans ((fun j _ => rfl) j hj)) j hj)) j hj)) j hj)), Or.inl (iv0 h_x350)⟩, (fun _ => (show ¬ (M347 a0 14).toInt = 0 from z353))⟩) dX12_clauseHere_148
      · have q356 : x197.toInt = 0 := ti_eq c206
        have h357 : iv 0 0 x197 := ⟨by have := (h_x197).1; have := ((iv_c (c := 0) (n := 0) (by decide))).1; omega, by have := (h_x197).2; have := ((iv_c (c := 0) (n := 0) (by decide))).2; omega⟩
        refine lv_aload_n hx hb dX12_clauseHere_97 rfl (lv_at hl 2 rfl) ?_
        refine lv_ldc2 hx hb hown (hW _ w_7_9 rfl) dX12_clauseHere_98 ?_
        have k358 : M194 a0 1 = tp := ((Fr.kp (k := 1) f191 hk_a0 rfl).trans ((Fr.kp (k := 1) f22 hk_a0 rfl).trans (Fr.kp (k := 1) f2 hk_a0 rfl))).trans k_tp
        have q359 : x201.toInt ≤ tp.toInt := by
          have := (h_cn).1; have := (h_cn).2; have := (h_le).1; have := (h_le).2; have := (h_li).1; have := (h_li).2; have := (h_md).1; have := (h_md).2; have := (h_nx).1; have := (h_nx).2; have := (h_tp).1; have := (h_tp).2; have := (h19).1; have := (h19).2; have := (h11).1; have := (h11).2; have := (h357).1; have := (h357).2; have := (h200).1; have := (h200).2; have := (h188).1; have := (h188).2; have := (h31).1; have := (h31).2; have := (h_x8).1; have := (h_x8).2; omega
        refine tw_goi hS (md_runV (As := [.long 1801807216]) (rest := []) hx hb hml hown hW hK hT hS.1 (t_X12_isWord l D cy tx base Z K N M194 Ra J193 hS.2.1 a0 hz_a0 hk_a0 (1801807216) tb k_tb x201 k199 (iv_mono h200 (by decide) (by decide)) tp k358 (iv_mono h_tp (by decide) (by decide)) q359) s_X12_138 ⟨rfl, rfl, ⟨Nat.le_of_ble_eq_true rfl, Nat.le_of_ble_eq_true rfl⟩, ⟨Nat.le_of_ble_eq_true rfl, Nat.le_of_ble_eq_true rfl⟩⟩ hz_a0 hk_a0 (by decide) rfl rfl hl.1 rfl (Nat.le_of_ble_eq_true rfl) dX12_clauseHere_101) rfl rfl (fun x366 H locs M363 R364 J362 hS f360 g361 E365 => ?_)
        have eR364 := Fr.nil g361 rfl
        subst eR364
        obtain ⟨h_x366, p367⟩ := E365
        obtain ⟨x370, k368, h369, q371, z372, z373⟩ := p367
        have k368 : M363 a0 13 = x370 := k368
        have z374 : ¬ x366 = 0 → chF 97 122 Ma tb x370 tp := fun h => chF.rf (chF.fr (z373 h) f360 hk_tb rfl) hS.2.2.1 hk_tb rfl
        refine lv_if_eq (tgt := 111) hx hb dX12_clauseHere_104 (by decide) (fun c375 => ?_) (fun c375 => ?_)
        · have q376 : x366.toInt = 0 := ti_eq c375
          have h377 : iv 0 0 x366 := ⟨by have := (h_x366).1; have := ((iv_c (c := 0) (n := 0) (by decide))).1; omega, by have := (h_x366).2; have := ((iv_c (c := 0) (n := 0) (by decide))).2; omega⟩
          refine lv_iconst (v := 0) hx hb dX12_clauseHere_111 (by decide) ?_
          refine lv_istore_n (lv' := [(3, .int 0), (2, .int 0), (1, .int x12), (0, .ref (base + a0))]) hx hb dX12_clauseHere_112 rfl hl (by decide) rfl (fun ls hl => ?_)
          refine lv_iload_n hx hb dX12_clauseHere_113 rfl (lv_at hl 0 rfl) ?_
          refine lv_if_ne (tgt := 124) hx hb dX12_clauseHere_114 (by decide) (fun h => absurd h (by decide)) (fun _ => ?_)
          refine lv_aload_n hx hb dX12_clauseHere_117 rfl (lv_at hl 3 rfl) ?_
          refine lv_iconst (v := 0) hx hb dX12_clauseHere_118 (by decide) ?_
          refine lv_iload_n hx hb dX12_clauseHere_119 rfl (lv_at hl 2 rfl) ?_
          refine tw_goi hS (md_runV (As := [.int 0, .int x12]) (rest := []) hx hb hml hown hW hK hT hS.1 (t_X12_fails l D cy tx base Z K N M363 Ra J362 hS.2.1 a0 hz_a0 hk_a0 0 (iv_mono (iv_c (c := 0) (n := 0) (by decide)) (by decide) (by decide)) x12 h11) s_X12_148 ⟨rfl, rfl, ⟨Nat.le_of_ble_eq_true rfl, Nat.le_of_ble_eq_true rfl⟩, ⟨Nat.le_of_ble_eq_true rfl, Nat.le_of_ble_eq_true rfl⟩⟩ hz_a0 hk_a0 (by decide) rfl rfl hl.1 rfl (Nat.le_of_ble_eq_true rfl) dX12_clauseHere_120) rfl rfl (fun x384 H locs M381 R382 J380 hS f378 g379 E383 => ?_)
          have eR382 := Fr.nil g379 rfl
          subst eR382
          obtain ⟨h_x384, p385⟩ := E383
          have z386 : x384 = 0 → ¬ (M381 a0 14).toInt = 0 := p385
          have z387 := z386 (iv0 h_x384)
          have k388 : M381 a0 13 = x370 := (Fr.kp (k := 13) f378 hk_a0 rfl).trans k368
          have q389 : nx.toInt ≤ x370.toInt ∧ x370.toInt ≤ tp.toInt := by
            have := (h_cn).1; have := (h_cn).2; have := (h_le).1; have := (h_le).2; have := (h_li).1; have := (h_li).2; have := (h_md).1; have := (h_md).2; have := (h_nx).1; have := (h_nx).2; have := (h_tp).1; have := (h_tp).2; have := (h19).1; have := (h19).2; have := (h11).1; have := (h11).2; have := (h357).1; have := (h357).2; have := (h200).1; have := (h200).2; have := (h188).1; have := (h188).2; have := (h31).1; have := (h31).2; have := (h377).1; have := (h377).2; have := (h369).1; have := (h369).2; have := (h_x8).1; have := (h_x8).2; exact ⟨by omega, by omega⟩
          exact tw_endz hx hb hr hlocks hK hT hS hQ (nar_b (iv_mono h_x384 (by decide) (by decide))) (⟨(iv_mono h_x384 (by decide) (by decide)), ⟨⟨x370, k388, h369, q389.1, q389.2⟩, (fun j hj => (Fr.kpa f378 hk_sg rfl j).trans ((fun j hj => (Fr.kpa f360 hk_sg rfl j).trans ((fun j hj => (Fr.kpa f191 hk_sg rfl j).trans ((fun j hj => (Fr.kpa f22 hk_sg rfl j).trans ((fun j hj => (Fr.kpa f2 hk_sg rfl j).trans ((fun j _ => rfl) j hj)) j hj)) j hj)) j hj)) j hj)), (fun j hj => (Fr.kpa f378 hk_cl rfl j).trans ((fun j hj => (Fr.kpa f360 hk_cl rfl j).trans ((fun j hj => (Fr.kpa f191 hk_cl rfl j).trans ((fun j hj => (Fr.kpa f22 hk_cl rfl j).trans ((fun j hj => (Fr.kpa f2 hk_cl rfl j).trans ((fun j _ => rfl) j hj)) j hj)) j hj)) j hj)) j hj)), (fun j hj => (Fr.kpa f378 hk_cs rfl j).trans ((fun j hj => (Fr.kpa f360 hk_cs rfl j).trans ((fun j hj => (Fr.kpa f191 hk_cs rfl j).trans ((fun j hj => (Fr.kpa f22 hk_cs rfl j).trans ((fun j hj => (Fr.kpa f2 hk_cs rfl j).trans ((fun j _ => rfl) j hj)) j hj)) j hj)) j hj)) j hj)), Or.inl (iv0 h_x384)⟩, (fun _ => (show ¬ (M381 a0 14).toInt = 0 from z387))⟩) dX12_clauseHere_123
        · have q390 : ¬ x366.toInt = 0 := ti_ne c375
          have h391 : iv 1 1 x366 := ⟨by have := (h_x366).1; have := ((iv_c (c := 0) (n := 0) (by decide))).1; have := ((iv_c (c := 0) (n := 0) (by decide))).2; omega, by have := (h_x366).2; have := ((iv_c (c := 0) (n := 0) (by decide))).1; have := ((iv_c (c := 0) (n := 0) (by decide))).2; omega⟩
          have z392 := z374 c375
          have q393 := z392.1
          refine lv_iconst (v := 1) hx hb dX12_clauseHere_107 (by decide) ?_
          refine lv_goto (tgt := 112) hx hb dX12_clauseHere_108 (by decide) ?_
          refine lv_istore_n (lv' := [(3, .int 1), (2, .int 0), (1, .int x12), (0, .ref (base + a0))]) hx hb dX12_clauseHere_112 rfl hl (by decide) rfl (fun ls hl => ?_)
          refine lv_iload_n hx hb dX12_clauseHere_113 rfl (lv_at hl 0 rfl) ?_
          refine lv_if_ne (tgt := 124) hx hb dX12_clauseHere_114 (by decide) (fun _ => ?_) (fun h => absurd h (by decide))
          refine lv_aload_n hx hb dX12_clauseHere_124 rfl (lv_at hl 3 rfl) ?_
          have k394 : M363 a0 19 = li := ((Fr.kp (k := 19) f360 hk_a0 rfl).trans ((Fr.kp (k := 19) f191 hk_a0 rfl).trans ((Fr.kp (k := 19) f22 hk_a0 rfl).trans (Fr.kp (k := 19) f2 hk_a0 rfl)))).trans k_li
          refine tw_getk hx hb hW hown hK hS f_X12_286_11 hz_a0 hk_a0 (v := li) k394 dX12_clauseHere_125 ?_
          refine lv_iload_n hx hb dX12_clauseHere_128 rfl (lv_at hl 1 rfl) ?_
          refine lv_if_eq (tgt := 137) hx hb dX12_clauseHere_129 (by decide) (fun _ => ?_) (fun h => absurd h (by decide))
          refine lv_bipush (v := 12) hx hb dX12_clauseHere_137 (by decide) ?_
          refine lv_icmp_ne (tgt := 149) hx hb dX12_clauseHere_139 (by decide) (fun c395 => ?_) (fun c395 => ?_)
          · have q396 : ¬ li.toInt = 12 := ti_ne c395
            refine lv_aload_n hx hb dX12_clauseHere_149 rfl (lv_at hl 3 rfl) ?_
            refine lv_dup hx hb dX12_clauseHere_150 rfl ?_
            have k397 : M363 a0 19 = li := ((Fr.kp (k := 19) f360 hk_a0 rfl).trans ((Fr.kp (k := 19) f191 hk_a0 rfl).trans ((Fr.kp (k := 19) f22 hk_a0 rfl).trans (Fr.kp (k := 19) f2 hk_a0 rfl)))).trans k_li
            refine tw_getk hx hb hW hown hK hS f_X12_286_11 hz_a0 hk_a0 (v := li) k397 dX12_clauseHere_151 ?_
            refine lv_iconst (v := 1) hx hb dX12_clauseHere_154 (by decide) ?_
            refine tw_iadd (lo := 1) (hi := 17) hx hb h_li (iv_c (c := 1) (n := 1) (by decide)) ⟨by decide, by decide⟩ ⟨by decide, by decide⟩ dX12_clauseHere_155 (fun x400 e399 h398 => ?_)
            have e399 : x400.toInt = li.toInt + 1 := e399
            have h403 : iv 0 16 x400 := by
              have := (h_cn).1; have := (h_cn).2; have := (h_le).1; have := (h_le).2; have := (h_li).1; have := (h_li).2; have := (h_md).1; have := (h_md).2; have := (h_nx).1; have := (h_nx).2; have := (h_tp).1; have := (h_tp).2; have := (h19).1; have := (h19).2; have := (h398).1; have := (h398).2; exact ⟨by omega, by omega⟩
            refine tw_puti hx hb hW hown hK hS f_X12_286_11 hz_a0 hk_a0 rfl rfl (lo := 0) (hi := 16) rfl h403 rfl dX12_clauseHere_156 (fun H locs M404 hS k401 f402 => ?_)
            refine lv_iload_n hx hb dX12_clauseHere_159 rfl (lv_at hl 1 rfl) ?_
            refine lv_if_eq (tgt := 169) hx hb dX12_clauseHere_160 (by decide) (fun _ => ?_) (fun h => absurd h (by decide))
            refine lv_aload_n hx hb dX12_clauseHere_169 rfl (lv_at hl 3 rfl) ?_
            refine lv_aload_n hx hb dX12_clauseHere_170 rfl (lv_at hl 3 rfl) ?_
            refine lv_ldc2 hx hb hown (hW _ w_7_7 rfl) dX12_clauseHere_171 ?_
            have k405 : M404 a0 13 = x370 := (Fr.kp (k := 13) f402 hk_a0 rfl).trans k368
            have k406 : M404 a0 1 = tp := ((Fr.kp (k := 1) f402 hk_a0 rfl).trans ((Fr.kp (k := 1) f360 hk_a0 rfl).trans ((Fr.kp (k := 1) f191 hk_a0 rfl).trans ((Fr.kp (k := 1) f22 hk_a0 rfl).trans (Fr.kp (k := 1) f2 hk_a0 rfl))))).trans k_tp
            have q407 : x370.toInt ≤ tp.toInt := by
              have := (h_cn).1; have := (h_cn).2; have := (h_le).1; have := (h_le).2; have := (h_li).1; have := (h_li).2; have := (h_md).1; have := (h_md).2; have := (h_nx).1; have := (h_nx).2; have := (h_tp).1; have := (h_tp).2; have := (h19).1; have := (h19).2; have := (h11).1; have := (h11).2; have := (h357).1; have := (h357).2; have := (h200).1; have := (h200).2; have := (h188).1; have := (h188).2; have := (h31).1; have := (h31).2; have := (h391).1; have := (h391).2; have := (h369).1; have := (h369).2; have := (h_x8).1; have := (h_x8).2; omega
            refine tw_goi hS (md_runV (As := [.long 7955827]) (rest := [.ref (base + a0)]) hx hb hml hown hW hK hT hS.1 (t_X12_isWord l D cy tx base Z K N M404 Ra J362 hS.2.1 a0 hz_a0 hk_a0 (7955827) tb k_tb x370 k405 (iv_mono h369 (by decide) (by decide)) tp k406 (iv_mono h_tp (by decide) (by decide)) q407) s_X12_138 ⟨rfl, rfl, ⟨Nat.le_of_ble_eq_true rfl, Nat.le_of_ble_eq_true rfl⟩, ⟨Nat.le_of_ble_eq_true rfl, Nat.le_of_ble_eq_true rfl⟩⟩ hz_a0 hk_a0 (by decide) rfl rfl hl.1 rfl (Nat.le_of_ble_eq_true rfl) dX12_clauseHere_174) rfl rfl (fun x414 H locs M411 R412 J410 hS f408 g409 E413 => ?_)
            have eR412 := Fr.nil g409 rfl
            subst eR412
            obtain ⟨h_x414, p415⟩ := E413
            obtain ⟨x418, k416, h417, q419, z420, z421⟩ := p415
            have k416 : M411 a0 13 = x418 := k416
            have zNz422 := chF.rf (chF.fr z392 hS.2.2.1 hk_tb rfl) f408 hk_tb rfl
            have z422 : chF 97 122 Ma tb x418 tp := z392.at (z420 _ rfl ⟨zNz422.1, fun e => by have := zNz422.2.1; omega⟩)
            have z423 : ¬ x414 = 0 → chF 97 122 Ma tb x418 tp := fun h => chF.rf (chF.fr (z421 h) f408 hk_tb rfl) hS.2.2.1 hk_tb rfl
            refine lv_if_eq (tgt := 184) hx hb dX12_clauseHere_177 (by decide) (fun c424 => ?_) (fun c424 => ?_)
            · have q425 : x414.toInt = 0 := ti_eq c424
              have h426 : iv 0 0 x414 := ⟨by have := (h_x414).1; have := ((iv_c (c := 0) (n := 0) (by decide))).1; omega, by have := (h_x414).2; have := ((iv_c (c := 0) (n := 0) (by decide))).2; omega⟩
              refine lv_aload_n hx hb dX12_clauseHere_184 rfl (lv_at hl 3 rfl) ?_
              refine lv_ldc2 hx hb hown (hW _ w_7_8 rfl) dX12_clauseHere_185 ?_
              have k427 : M411 a0 1 = tp := ((Fr.kp (k := 1) f408 hk_a0 rfl).trans ((Fr.kp (k := 1) f402 hk_a0 rfl).trans ((Fr.kp (k := 1) f360 hk_a0 rfl).trans ((Fr.kp (k := 1) f191 hk_a0 rfl).trans ((Fr.kp (k := 1) f22 hk_a0 rfl).trans (Fr.kp (k := 1) f2 hk_a0 rfl)))))).trans k_tp
              have q428 : x418.toInt ≤ tp.toInt := by
                have := (h_cn).1; have := (h_cn).2; have := (h_le).1; have := (h_le).2; have := (h_li).1; have := (h_li).2; have := (h_md).1; have := (h_md).2; have := (h_nx).1; have := (h_nx).2; have := (h_tp).1; have := (h_tp).2; have := (h19).1; have := (h19).2; have := (h11).1; have := (h11).2; have := (h357).1; have := (h357).2; have := (h200).1; have := (h200).2; have := (h188).1; have := (h188).2; have := (h31).1; have := (h31).2; have := (h391).1; have := (h391).2; have := (h369).1; have := (h369).2; have := (h426).1; have := (h426).2; have := (h417).1; have := (h417).2; have := (h_x8).1; have := (h_x8).2; omega
              refine tw_goi hS (md_runV (As := [.long 28271]) (rest := [.ref (base + a0)]) hx hb hml hown hW hK hT hS.1 (t_X12_isWord l D cy tx base Z K N M411 Ra J410 hS.2.1 a0 hz_a0 hk_a0 (28271) tb k_tb x418 k416 (iv_mono h417 (by decide) (by decide)) tp k427 (iv_mono h_tp (by decide) (by decide)) q428) s_X12_138 ⟨rfl, rfl, ⟨Nat.le_of_ble_eq_true rfl, Nat.le_of_ble_eq_true rfl⟩, ⟨Nat.le_of_ble_eq_true rfl, Nat.le_of_ble_eq_true rfl⟩⟩ hz_a0 hk_a0 (by decide) rfl rfl hl.1 rfl (Nat.le_of_ble_eq_true rfl) dX12_clauseHere_188) rfl rfl (fun x435 H locs M432 R433 J431 hS f429 g430 E434 => ?_)
              have eR433 := Fr.nil g430 rfl
              subst eR433
              obtain ⟨h_x435, p436⟩ := E434
              obtain ⟨x439, k437, h438, q440, z441, z442⟩ := p436
              have k437 : M432 a0 13 = x439 := k437
              have zNz443 := chF.rf (chF.fr z422 hS.2.2.1 hk_tb rfl) f429 hk_tb rfl
              have z443 : chF 97 122 Ma tb x439 tp := z422.at (z441 _ rfl ⟨zNz443.1, fun e => by have := zNz443.2.1; omega⟩)
              have z444 : ¬ x435 = 0 → chF 97 122 Ma tb x439 tp := fun h => chF.rf (chF.fr (z442 h) f429 hk_tb rfl) hS.2.2.1 hk_tb rfl
              refine lv_if_eq (tgt := 198) hx hb dX12_clauseHere_191 (by decide) (fun c445 => ?_) (fun c445 => ?_)
              · have q446 : x435.toInt = 0 := ti_eq c445
                have h447 : iv 0 0 x435 := ⟨by have := (h_x435).1; have := ((iv_c (c := 0) (n := 0) (by decide))).1; omega, by have := (h_x435).2; have := ((iv_c (c := 0) (n := 0) (by decide))).2; omega⟩
                refine lv_iconst (v := 2) hx hb dX12_clauseHere_198 (by decide) ?_
                have k448 : M432 a0 1 = tp := ((Fr.kp (k := 1) f429 hk_a0 rfl).trans ((Fr.kp (k := 1) f408 hk_a0 rfl).trans ((Fr.kp (k := 1) f402 hk_a0 rfl).trans ((Fr.kp (k := 1) f360 hk_a0 rfl).trans ((Fr.kp (k := 1) f191 hk_a0 rfl).trans ((Fr.kp (k := 1) f22 hk_a0 rfl).trans (Fr.kp (k := 1) f2 hk_a0 rfl))))))).trans k_tp
                have q449 : x439.toInt ≤ tp.toInt := by
                  have := (h_cn).1; have := (h_cn).2; have := (h_le).1; have := (h_le).2; have := (h_li).1; have := (h_li).2; have := (h_md).1; have := (h_md).2; have := (h_nx).1; have := (h_nx).2; have := (h_tp).1; have := (h_tp).2; have := (h19).1; have := (h19).2; have := (h11).1; have := (h11).2; have := (h357).1; have := (h357).2; have := (h200).1; have := (h200).2; have := (h188).1; have := (h188).2; have := (h31).1; have := (h31).2; have := (h391).1; have := (h391).2; have := (h369).1; have := (h369).2; have := (h426).1; have := (h426).2; have := (h417).1; have := (h417).2; have := (h447).1; have := (h447).2; have := (h438).1; have := (h438).2; have := (h_x8).1; have := (h_x8).2; omega
                have k450 : M432 a0 16 = tq := ((Fr.kp (k := 16) f429 hk_a0 rfl).trans ((Fr.kp (k := 16) f408 hk_a0 rfl).trans ((Fr.kp (k := 16) f402 hk_a0 rfl).trans ((Fr.kp (k := 16) f360 hk_a0 rfl).trans ((Fr.kp (k := 16) f191 hk_a0 rfl).trans ((Fr.kp (k := 16) f22 hk_a0 rfl).trans (Fr.kp (k := 16) f2 hk_a0 rfl))))))).trans k_tq
                have k451 : M432 lg tq.toNatClampNeg = le := ((Fr.kpa f429 hk_lg rfl tq.toNatClampNeg).trans ((Fr.kpa f408 hk_lg rfl tq.toNatClampNeg).trans ((Fr.kpa f402 hk_lg rfl tq.toNatClampNeg).trans ((Fr.kpa f360 hk_lg rfl tq.toNatClampNeg).trans ((Fr.kpa f191 hk_lg rfl tq.toNatClampNeg).trans ((Fr.kpa f22 hk_lg rfl tq.toNatClampNeg).trans (Fr.kpa f2 hk_lg rfl tq.toNatClampNeg))))))).trans k_le
                have k452 : M432 a0 17 = md := ((Fr.kp (k := 17) f429 hk_a0 rfl).trans ((Fr.kp (k := 17) f408 hk_a0 rfl).trans ((Fr.kp (k := 17) f402 hk_a0 rfl).trans ((Fr.kp (k := 17) f360 hk_a0 rfl).trans ((Fr.kp (k := 17) f191 hk_a0 rfl).trans ((Fr.kp (k := 17) f22 hk_a0 rfl).trans (Fr.kp (k := 17) f2 hk_a0 rfl))))))).trans k_md
                have k453 : M432 cs tq.toNatClampNeg = cn := ((Fr.kpa f429 hk_cs rfl tq.toNatClampNeg).trans ((Fr.kpa f408 hk_cs rfl tq.toNatClampNeg).trans ((Fr.kpa f402 hk_cs rfl tq.toNatClampNeg).trans ((Fr.kpa f360 hk_cs rfl tq.toNatClampNeg).trans ((Fr.kpa f191 hk_cs rfl tq.toNatClampNeg).trans ((Fr.kpa f22 hk_cs rfl tq.toNatClampNeg).trans (Fr.kpa f2 hk_cs rfl tq.toNatClampNeg))))))).trans k_cn
                have h454 : iv 0 11 cn := by
                  have := (h_cn).1; have := (h_cn).2; have := (h_le).1; have := (h_le).2; have := (h_li).1; have := (h_li).2; have := (h_md).1; have := (h_md).2; have := (h_nx).1; have := (h_nx).2; have := (h_tp).1; have := (h_tp).2; have := (h19).1; have := (h19).2; exact ⟨by omega, by omega⟩
                have q455 : le.toInt ≤ x439.toInt := by
                  have := (h_cn).1; have := (h_cn).2; have := (h_le).1; have := (h_le).2; have := (h_li).1; have := (h_li).2; have := (h_md).1; have := (h_md).2; have := (h_nx).1; have := (h_nx).2; have := (h_tp).1; have := (h_tp).2; have := (h19).1; have := (h19).2; have := (h11).1; have := (h11).2; have := (h357).1; have := (h357).2; have := (h200).1; have := (h200).2; have := (h188).1; have := (h188).2; have := (h31).1; have := (h31).2; have := (h391).1; have := (h391).2; have := (h369).1; have := (h369).2; have := (h426).1; have := (h426).2; have := (h417).1; have := (h417).2; have := (h447).1; have := (h447).2; have := (h438).1; have := (h438).2; have := (h_x8).1; have := (h_x8).2; omega
                refine tw_goi hS (md_runV (As := [.int 2]) (rest := []) hx hb hml hown hW hK hT hS.1 (t_X12_isSayingHere l D cy tx base Z K N M432 Ra J431 hS.2.1 a0 hz_a0 hk_a0 2 (iv_mono (iv_c (c := 2) (n := 2) (by decide)) (by decide) (by decide)) tb k_tb x439 k437 (iv_mono h438 (by decide) (by decide)) tp k448 (iv_mono h_tp (by decide) (by decide)) q449 lg k_lg sg k_sg tq k450 (iv_mono h19 (by decide) (by decide)) le k451 (iv_mono h_le (by decide) (by decide)) md k452 (iv_mono h_md (by decide) (by decide)) op k_op cs k_cs cl k_cl cn k453 h454 q455 (CI.to (hci.resolve_left (by have := (h19).2; omega)) (fun j _ => ((Fr.kpa f429 hk_cl rfl j).trans ((Fr.kpa f408 hk_cl rfl j).trans ((Fr.kpa f402 hk_cl rfl j).trans ((Fr.kpa f360 hk_cl rfl j).trans ((Fr.kpa f191 hk_cl rfl j).trans ((Fr.kpa f22 hk_cl rfl j).trans (Fr.kpa f2 hk_cl rfl j)))))))) (fun j _ => ((Fr.kpa f429 hk_sg rfl j).trans ((Fr.kpa f408 hk_sg rfl j).trans ((Fr.kpa f402 hk_sg rfl j).trans ((Fr.kpa f360 hk_sg rfl j).trans ((Fr.kpa f191 hk_sg rfl j).trans ((Fr.kpa f22 hk_sg rfl j).trans (Fr.kpa f2 hk_sg rfl j)))))))) (Int.le_refl _))) s_X12_292 ⟨rfl, rfl, ⟨Nat.le_of_ble_eq_true rfl, Nat.le_of_ble_eq_true rfl⟩, ⟨Nat.le_of_ble_eq_true rfl, Nat.le_of_ble_eq_true rfl⟩⟩ hz_a0 hk_a0 (by decide) rfl rfl hl.1 rfl (Nat.le_of_ble_eq_true rfl) dX12_clauseHere_199) rfl rfl (fun x462 H locs M459 R460 J458 hS f456 g457 E461 => ?_)
                have eR460 := Fr.nil g457 rfl
                subst eR460
                obtain ⟨h_x462, p463, p464⟩ := E461
                obtain ⟨⟨x466, k467, h465, zu464, zv464⟩, zf464, zg464, zh464, zc464⟩ := p463
                have k467 : M459 a0 13 = x466 := k467
                have z468 : x462 = 0 → ¬ (M459 a0 14).toInt = 0 := p464
                have q469 : nx.toInt ≤ x466.toInt ∧ x466.toInt ≤ tp.toInt := by
                  have := (h_cn).1; have := (h_cn).2; have := (h_le).1; have := (h_le).2; have := (h_li).1; have := (h_li).2; have := (h_md).1; have := (h_md).2; have := (h_nx).1; have := (h_nx).2; have := (h_tp).1; have := (h_tp).2; have := (h19).1; have := (h19).2; have := (h11).1; have := (h11).2; have := (h357).1; have := (h357).2; have := (h200).1; have := (h200).2; have := (h188).1; have := (h188).2; have := (h31).1; have := (h31).2; have := (h391).1; have := (h391).2; have := (h369).1; have := (h369).2; have := (h426).1; have := (h426).2; have := (h417).1; have := (h417).2; have := (h447).1; have := (h447).2; have := (h438).1; have := (h438).2; have := (h465).1; have := (h465).2; have := (h_x8).1; have := (h_x8).2; exact ⟨by omega, by omega⟩
                have zt464 := ti_cl (x := tq) (by have := (h19).1; omega)
                have k470 : M459 a0 19 = x400 := ((Fr.kp (k := 19) f456 hk_a0 rfl).trans ((Fr.kp (k := 19) f429 hk_a0 rfl).trans (Fr.kp (k := 19) f408 hk_a0 rfl))).trans k401
                exact tw_endz hx hb hr hlocks hK hT hS hQ (nar_b h_x462) (⟨h_x462, ⟨⟨x466, k467, h465, q469.1, q469.2⟩, (fun j hj => (zf464 j (by omega)).trans ((fun j hj => (Fr.kpa f429 hk_sg rfl j).trans ((fun j hj => (Fr.kpa f408 hk_sg rfl j).trans ((fun j hj => (Fr.kpa f402 hk_sg rfl j).trans ((fun j hj => (Fr.kpa f360 hk_sg rfl j).trans ((fun j hj => (Fr.kpa f191 hk_sg rfl j).trans ((fun j hj => (Fr.kpa f22 hk_sg rfl j).trans ((fun j hj => (Fr.kpa f2 hk_sg rfl j).trans ((fun j _ => rfl) j hj)) j hj)) j hj)) j hj)) j hj)) j hj)) j hj)) j hj)), (fun j hj => (zg464 j (by omega)).trans ((fun j hj => (Fr.kpa f429 hk_cl rfl j).trans ((fun j hj => (Fr.kpa f408 hk_cl rfl j).trans ((fun j hj => (Fr.kpa f402 hk_cl rfl j).trans ((fun j hj => (Fr.kpa f360 hk_cl rfl j).trans ((fun j hj => (Fr.kpa f191 hk_cl rfl j).trans ((fun j hj => (Fr.kpa f22 hk_cl rfl j).trans ((fun j hj => (Fr.kpa f2 hk_cl rfl j).trans ((fun j _ => rfl) j hj)) j hj)) j hj)) j hj)) j hj)) j hj)) j hj)) j hj)), (fun j hj => (zh464 j hj).trans ((fun j hj => (Fr.kpa f429 hk_cs rfl j).trans ((fun j hj => (Fr.kpa f408 hk_cs rfl j).trans ((fun j hj => (Fr.kpa f402 hk_cs rfl j).trans ((fun j hj => (Fr.kpa f360 hk_cs rfl j).trans ((fun j hj => (Fr.kpa f191 hk_cs rfl j).trans ((fun j hj => (Fr.kpa f22 hk_cs rfl j).trans ((fun j hj => (Fr.kpa f2 hk_cs rfl j).trans ((fun j _ => rfl) j hj)) j hj)) j hj)) j hj)) j hj)) j hj)) j hj)) j hj)), (by by_cases hz : x462 = 0; (· exact Or.inl hz); (· obtain ⟨y0, y2, y4, f0, f2, f4, f5, f6, f7, f8, f9⟩ := zc464 hz; refine Or.inr (Or.inr ⟨y0, y2, y4, x400, f0, f2, f4, k470, f5, ⟨?_, ?_⟩, h403, f8, ?_, ?_, f9⟩); all_goals (have := (h_cn).1; have := (h_cn).2; have := (h403).1; have := (h403).2; omega)))⟩, z468⟩) dX12_clauseHere_202
              · have q471 : ¬ x435.toInt = 0 := ti_ne c445
                have h472 : iv 1 1 x435 := ⟨by have := (h_x435).1; have := ((iv_c (c := 0) (n := 0) (by decide))).1; have := ((iv_c (c := 0) (n := 0) (by decide))).2; omega, by have := (h_x435).2; have := ((iv_c (c := 0) (n := 0) (by decide))).1; have := ((iv_c (c := 0) (n := 0) (by decide))).2; omega⟩
                have z473 := z444 c445
                have q474 := z473.1
                refine lv_iconst (v := 0) hx hb dX12_clauseHere_194 (by decide) ?_
                refine lv_goto (tgt := 199) hx hb dX12_clauseHere_195 (by decide) ?_
                have k475 : M432 a0 1 = tp := ((Fr.kp (k := 1) f429 hk_a0 rfl).trans ((Fr.kp (k := 1) f408 hk_a0 rfl).trans ((Fr.kp (k := 1) f402 hk_a0 rfl).trans ((Fr.kp (k := 1) f360 hk_a0 rfl).trans ((Fr.kp (k := 1) f191 hk_a0 rfl).trans ((Fr.kp (k := 1) f22 hk_a0 rfl).trans (Fr.kp (k := 1) f2 hk_a0 rfl))))))).trans k_tp
                have q476 : x439.toInt ≤ tp.toInt := by
                  have := (h_cn).1; have := (h_cn).2; have := (h_le).1; have := (h_le).2; have := (h_li).1; have := (h_li).2; have := (h_md).1; have := (h_md).2; have := (h_nx).1; have := (h_nx).2; have := (h_tp).1; have := (h_tp).2; have := (h19).1; have := (h19).2; have := (h11).1; have := (h11).2; have := (h357).1; have := (h357).2; have := (h200).1; have := (h200).2; have := (h188).1; have := (h188).2; have := (h31).1; have := (h31).2; have := (h391).1; have := (h391).2; have := (h369).1; have := (h369).2; have := (h426).1; have := (h426).2; have := (h417).1; have := (h417).2; have := (h472).1; have := (h472).2; have := (h438).1; have := (h438).2; have := (h_x8).1; have := (h_x8).2; omega
                have k477 : M432 a0 16 = tq := ((Fr.kp (k := 16) f429 hk_a0 rfl).trans ((Fr.kp (k := 16) f408 hk_a0 rfl).trans ((Fr.kp (k := 16) f402 hk_a0 rfl).trans ((Fr.kp (k := 16) f360 hk_a0 rfl).trans ((Fr.kp (k := 16) f191 hk_a0 rfl).trans ((Fr.kp (k := 16) f22 hk_a0 rfl).trans (Fr.kp (k := 16) f2 hk_a0 rfl))))))).trans k_tq
                have k478 : M432 lg tq.toNatClampNeg = le := ((Fr.kpa f429 hk_lg rfl tq.toNatClampNeg).trans ((Fr.kpa f408 hk_lg rfl tq.toNatClampNeg).trans ((Fr.kpa f402 hk_lg rfl tq.toNatClampNeg).trans ((Fr.kpa f360 hk_lg rfl tq.toNatClampNeg).trans ((Fr.kpa f191 hk_lg rfl tq.toNatClampNeg).trans ((Fr.kpa f22 hk_lg rfl tq.toNatClampNeg).trans (Fr.kpa f2 hk_lg rfl tq.toNatClampNeg))))))).trans k_le
                have k479 : M432 a0 17 = md := ((Fr.kp (k := 17) f429 hk_a0 rfl).trans ((Fr.kp (k := 17) f408 hk_a0 rfl).trans ((Fr.kp (k := 17) f402 hk_a0 rfl).trans ((Fr.kp (k := 17) f360 hk_a0 rfl).trans ((Fr.kp (k := 17) f191 hk_a0 rfl).trans ((Fr.kp (k := 17) f22 hk_a0 rfl).trans (Fr.kp (k := 17) f2 hk_a0 rfl))))))).trans k_md
                have k480 : M432 cs tq.toNatClampNeg = cn := ((Fr.kpa f429 hk_cs rfl tq.toNatClampNeg).trans ((Fr.kpa f408 hk_cs rfl tq.toNatClampNeg).trans ((Fr.kpa f402 hk_cs rfl tq.toNatClampNeg).trans ((Fr.kpa f360 hk_cs rfl tq.toNatClampNeg).trans ((Fr.kpa f191 hk_cs rfl tq.toNatClampNeg).trans ((Fr.kpa f22 hk_cs rfl tq.toNatClampNeg).trans (Fr.kpa f2 hk_cs rfl tq.toNatClampNeg))))))).trans k_cn
                have h481 : iv 0 11 cn := by
                  have := (h_cn).1; have := (h_cn).2; have := (h_le).1; have := (h_le).2; have := (h_li).1; have := (h_li).2; have := (h_md).1; have := (h_md).2; have := (h_nx).1; have := (h_nx).2; have := (h_tp).1; have := (h_tp).2; have := (h19).1; have := (h19).2; exact ⟨by omega, by omega⟩
                have q482 : le.toInt ≤ x439.toInt := by
                  have := (h_cn).1; have := (h_cn).2; have := (h_le).1; have := (h_le).2; have := (h_li).1; have := (h_li).2; have := (h_md).1; have := (h_md).2; have := (h_nx).1; have := (h_nx).2; have := (h_tp).1; have := (h_tp).2; have := (h19).1; have := (h19).2; have := (h11).1; have := (h11).2; have := (h357).1; have := (h357).2; have := (h200).1; have := (h200).2; have := (h188).1; have := (h188).2; have := (h31).1; have := (h31).2; have := (h391).1; have := (h391).2; have := (h369).1; have := (h369).2; have := (h426).1; have := (h426).2; have := (h417).1; have := (h417).2; have := (h472).1; have := (h472).2; have := (h438).1; have := (h438).2; have := (h_x8).1; have := (h_x8).2; omega
                refine tw_goi hS (md_runV (As := [.int 0]) (rest := []) hx hb hml hown hW hK hT hS.1 (t_X12_isSayingHere l D cy tx base Z K N M432 Ra J431 hS.2.1 a0 hz_a0 hk_a0 0 (iv_mono (iv_c (c := 0) (n := 0) (by decide)) (by decide) (by decide)) tb k_tb x439 k437 (iv_mono h438 (by decide) (by decide)) tp k475 (iv_mono h_tp (by decide) (by decide)) q476 lg k_lg sg k_sg tq k477 (iv_mono h19 (by decide) (by decide)) le k478 (iv_mono h_le (by decide) (by decide)) md k479 (iv_mono h_md (by decide) (by decide)) op k_op cs k_cs cl k_cl cn k480 h481 q482 (CI.to (hci.resolve_left (by have := (h19).2; omega)) (fun j _ => ((Fr.kpa f429 hk_cl rfl j).trans ((Fr.kpa f408 hk_cl rfl j).trans ((Fr.kpa f402 hk_cl rfl j).trans ((Fr.kpa f360 hk_cl rfl j).trans ((Fr.kpa f191 hk_cl rfl j).trans ((Fr.kpa f22 hk_cl rfl j).trans (Fr.kpa f2 hk_cl rfl j)))))))) (fun j _ => ((Fr.kpa f429 hk_sg rfl j).trans ((Fr.kpa f408 hk_sg rfl j).trans ((Fr.kpa f402 hk_sg rfl j).trans ((Fr.kpa f360 hk_sg rfl j).trans ((Fr.kpa f191 hk_sg rfl j).trans ((Fr.kpa f22 hk_sg rfl j).trans (Fr.kpa f2 hk_sg rfl j)))))))) (Int.le_refl _))) s_X12_292 ⟨rfl, rfl, ⟨Nat.le_of_ble_eq_true rfl, Nat.le_of_ble_eq_true rfl⟩, ⟨Nat.le_of_ble_eq_true rfl, Nat.le_of_ble_eq_true rfl⟩⟩ hz_a0 hk_a0 (by decide) rfl rfl hl.1 rfl (Nat.le_of_ble_eq_true rfl) dX12_clauseHere_199) rfl rfl (fun x489 H locs M486 R487 J485 hS f483 g484 E488 => ?_)
                have eR487 := Fr.nil g484 rfl
                subst eR487
                obtain ⟨h_x489, p490, p491⟩ := E488
                obtain ⟨⟨x493, k494, h492, zu491, zv491⟩, zf491, zg491, zh491, zc491⟩ := p490
                have k494 : M486 a0 13 = x493 := k494
                have z495 : x489 = 0 → ¬ (M486 a0 14).toInt = 0 := p491
                have q496 : nx.toInt ≤ x493.toInt ∧ x493.toInt ≤ tp.toInt := by
                  have := (h_cn).1; have := (h_cn).2; have := (h_le).1; have := (h_le).2; have := (h_li).1; have := (h_li).2; have := (h_md).1; have := (h_md).2; have := (h_nx).1; have := (h_nx).2; have := (h_tp).1; have := (h_tp).2; have := (h19).1; have := (h19).2; have := (h11).1; have := (h11).2; have := (h357).1; have := (h357).2; have := (h200).1; have := (h200).2; have := (h188).1; have := (h188).2; have := (h31).1; have := (h31).2; have := (h391).1; have := (h391).2; have := (h369).1; have := (h369).2; have := (h426).1; have := (h426).2; have := (h417).1; have := (h417).2; have := (h472).1; have := (h472).2; have := (h438).1; have := (h438).2; have := (h492).1; have := (h492).2; have := (h_x8).1; have := (h_x8).2; exact ⟨by omega, by omega⟩
                have zt491 := ti_cl (x := tq) (by have := (h19).1; omega)
                have k497 : M486 a0 19 = x400 := ((Fr.kp (k := 19) f483 hk_a0 rfl).trans ((Fr.kp (k := 19) f429 hk_a0 rfl).trans (Fr.kp (k := 19) f408 hk_a0 rfl))).trans k401
                exact tw_endz hx hb hr hlocks hK hT hS hQ (nar_b h_x489) (⟨h_x489, ⟨⟨x493, k494, h492, q496.1, q496.2⟩, (fun j hj => (zf491 j (by omega)).trans ((fun j hj => (Fr.kpa f429 hk_sg rfl j).trans ((fun j hj => (Fr.kpa f408 hk_sg rfl j).trans ((fun j hj => (Fr.kpa f402 hk_sg rfl j).trans ((fun j hj => (Fr.kpa f360 hk_sg rfl j).trans ((fun j hj => (Fr.kpa f191 hk_sg rfl j).trans ((fun j hj => (Fr.kpa f22 hk_sg rfl j).trans ((fun j hj => (Fr.kpa f2 hk_sg rfl j).trans ((fun j _ => rfl) j hj)) j hj)) j hj)) j hj)) j hj)) j hj)) j hj)) j hj)), (fun j hj => (zg491 j (by omega)).trans ((fun j hj => (Fr.kpa f429 hk_cl rfl j).trans ((fun j hj => (Fr.kpa f408 hk_cl rfl j).trans ((fun j hj => (Fr.kpa f402 hk_cl rfl j).trans ((fun j hj => (Fr.kpa f360 hk_cl rfl j).trans ((fun j hj => (Fr.kpa f191 hk_cl rfl j).trans ((fun j hj => (Fr.kpa f22 hk_cl rfl j).trans ((fun j hj => (Fr.kpa f2 hk_cl rfl j).trans ((fun j _ => rfl) j hj)) j hj)) j hj)) j hj)) j hj)) j hj)) j hj)) j hj)), (fun j hj => (zh491 j hj).trans ((fun j hj => (Fr.kpa f429 hk_cs rfl j).trans ((fun j hj => (Fr.kpa f408 hk_cs rfl j).trans ((fun j hj => (Fr.kpa f402 hk_cs rfl j).trans ((fun j hj => (Fr.kpa f360 hk_cs rfl j).trans ((fun j hj => (Fr.kpa f191 hk_cs rfl j).trans ((fun j hj => (Fr.kpa f22 hk_cs rfl j).trans ((fun j hj => (Fr.kpa f2 hk_cs rfl j).trans ((fun j _ => rfl) j hj)) j hj)) j hj)) j hj)) j hj)) j hj)) j hj)) j hj)), (by by_cases hz : x489 = 0; (· exact Or.inl hz); (· obtain ⟨y0, y2, y4, f0, f2, f4, f5, f6, f7, f8, f9⟩ := zc491 hz; refine Or.inr (Or.inr ⟨y0, y2, y4, x400, f0, f2, f4, k497, f5, ⟨?_, ?_⟩, h403, f8, ?_, ?_, f9⟩); all_goals (have := (h_cn).1; have := (h_cn).2; have := (h403).1; have := (h403).2; omega)))⟩, z495⟩) dX12_clauseHere_202
            · have q498 : ¬ x414.toInt = 0 := ti_ne c424
              have h499 : iv 1 1 x414 := ⟨by have := (h_x414).1; have := ((iv_c (c := 0) (n := 0) (by decide))).1; have := ((iv_c (c := 0) (n := 0) (by decide))).2; omega, by have := (h_x414).2; have := ((iv_c (c := 0) (n := 0) (by decide))).1; have := ((iv_c (c := 0) (n := 0) (by decide))).2; omega⟩
              have z500 := z423 c424
              have q501 := z500.1
              refine lv_iconst (v := 1) hx hb dX12_clauseHere_180 (by decide) ?_
              refine lv_goto (tgt := 199) hx hb dX12_clauseHere_181 (by decide) ?_
              have k502 : M411 a0 1 = tp := ((Fr.kp (k := 1) f408 hk_a0 rfl).trans ((Fr.kp (k := 1) f402 hk_a0 rfl).trans ((Fr.kp (k := 1) f360 hk_a0 rfl).trans ((Fr.kp (k := 1) f191 hk_a0 rfl).trans ((Fr.kp (k := 1) f22 hk_a0 rfl).trans (Fr.kp (k := 1) f2 hk_a0 rfl)))))).trans k_tp
              have q503 : x418.toInt ≤ tp.toInt := by
                have := (h_cn).1; have := (h_cn).2; have := (h_le).1; have := (h_le).2; have := (h_li).1; have := (h_li).2; have := (h_md).1; have := (h_md).2; have := (h_nx).1; have := (h_nx).2; have := (h_tp).1; have := (h_tp).2; have := (h19).1; have := (h19).2; have := (h11).1; have := (h11).2; have := (h357).1; have := (h357).2; have := (h200).1; have := (h200).2; have := (h188).1; have := (h188).2; have := (h31).1; have := (h31).2; have := (h391).1; have := (h391).2; have := (h369).1; have := (h369).2; have := (h499).1; have := (h499).2; have := (h417).1; have := (h417).2; have := (h_x8).1; have := (h_x8).2; omega
              have k504 : M411 a0 16 = tq := ((Fr.kp (k := 16) f408 hk_a0 rfl).trans ((Fr.kp (k := 16) f402 hk_a0 rfl).trans ((Fr.kp (k := 16) f360 hk_a0 rfl).trans ((Fr.kp (k := 16) f191 hk_a0 rfl).trans ((Fr.kp (k := 16) f22 hk_a0 rfl).trans (Fr.kp (k := 16) f2 hk_a0 rfl)))))).trans k_tq
              have k505 : M411 lg tq.toNatClampNeg = le := ((Fr.kpa f408 hk_lg rfl tq.toNatClampNeg).trans ((Fr.kpa f402 hk_lg rfl tq.toNatClampNeg).trans ((Fr.kpa f360 hk_lg rfl tq.toNatClampNeg).trans ((Fr.kpa f191 hk_lg rfl tq.toNatClampNeg).trans ((Fr.kpa f22 hk_lg rfl tq.toNatClampNeg).trans (Fr.kpa f2 hk_lg rfl tq.toNatClampNeg)))))).trans k_le
              have k506 : M411 a0 17 = md := ((Fr.kp (k := 17) f408 hk_a0 rfl).trans ((Fr.kp (k := 17) f402 hk_a0 rfl).trans ((Fr.kp (k := 17) f360 hk_a0 rfl).trans ((Fr.kp (k := 17) f191 hk_a0 rfl).trans ((Fr.kp (k := 17) f22 hk_a0 rfl).trans (Fr.kp (k := 17) f2 hk_a0 rfl)))))).trans k_md
              have k507 : M411 cs tq.toNatClampNeg = cn := ((Fr.kpa f408 hk_cs rfl tq.toNatClampNeg).trans ((Fr.kpa f402 hk_cs rfl tq.toNatClampNeg).trans ((Fr.kpa f360 hk_cs rfl tq.toNatClampNeg).trans ((Fr.kpa f191 hk_cs rfl tq.toNatClampNeg).trans ((Fr.kpa f22 hk_cs rfl tq.toNatClampNeg).trans (Fr.kpa f2 hk_cs rfl tq.toNatClampNeg)))))).trans k_cn
              have h508 : iv 0 11 cn := by
                have := (h_cn).1; have := (h_cn).2; have := (h_le).1; have := (h_le).2; have := (h_li).1; have := (h_li).2; have := (h_md).1; have := (h_md).2; have := (h_nx).1; have := (h_nx).2; have := (h_tp).1; have := (h_tp).2; have := (h19).1; have := (h19).2; exact ⟨by omega, by omega⟩
              have q509 : le.toInt ≤ x418.toInt := by
                have := (h_cn).1; have := (h_cn).2; have := (h_le).1; have := (h_le).2; have := (h_li).1; have := (h_li).2; have := (h_md).1; have := (h_md).2; have := (h_nx).1; have := (h_nx).2; have := (h_tp).1; have := (h_tp).2; have := (h19).1; have := (h19).2; have := (h11).1; have := (h11).2; have := (h357).1; have := (h357).2; have := (h200).1; have := (h200).2; have := (h188).1; have := (h188).2; have := (h31).1; have := (h31).2; have := (h391).1; have := (h391).2; have := (h369).1; have := (h369).2; have := (h499).1; have := (h499).2; have := (h417).1; have := (h417).2; have := (h_x8).1; have := (h_x8).2; omega
              refine tw_goi hS (md_runV (As := [.int 1]) (rest := []) hx hb hml hown hW hK hT hS.1 (t_X12_isSayingHere l D cy tx base Z K N M411 Ra J410 hS.2.1 a0 hz_a0 hk_a0 1 (iv_mono (iv_c (c := 1) (n := 1) (by decide)) (by decide) (by decide)) tb k_tb x418 k416 (iv_mono h417 (by decide) (by decide)) tp k502 (iv_mono h_tp (by decide) (by decide)) q503 lg k_lg sg k_sg tq k504 (iv_mono h19 (by decide) (by decide)) le k505 (iv_mono h_le (by decide) (by decide)) md k506 (iv_mono h_md (by decide) (by decide)) op k_op cs k_cs cl k_cl cn k507 h508 q509 (CI.to (hci.resolve_left (by have := (h19).2; omega)) (fun j _ => ((Fr.kpa f408 hk_cl rfl j).trans ((Fr.kpa f402 hk_cl rfl j).trans ((Fr.kpa f360 hk_cl rfl j).trans ((Fr.kpa f191 hk_cl rfl j).trans ((Fr.kpa f22 hk_cl rfl j).trans (Fr.kpa f2 hk_cl rfl j))))))) (fun j _ => ((Fr.kpa f408 hk_sg rfl j).trans ((Fr.kpa f402 hk_sg rfl j).trans ((Fr.kpa f360 hk_sg rfl j).trans ((Fr.kpa f191 hk_sg rfl j).trans ((Fr.kpa f22 hk_sg rfl j).trans (Fr.kpa f2 hk_sg rfl j))))))) (Int.le_refl _))) s_X12_292 ⟨rfl, rfl, ⟨Nat.le_of_ble_eq_true rfl, Nat.le_of_ble_eq_true rfl⟩, ⟨Nat.le_of_ble_eq_true rfl, Nat.le_of_ble_eq_true rfl⟩⟩ hz_a0 hk_a0 (by decide) rfl rfl hl.1 rfl (Nat.le_of_ble_eq_true rfl) dX12_clauseHere_199) rfl rfl (fun x516 H locs M513 R514 J512 hS f510 g511 E515 => ?_)
              have eR514 := Fr.nil g511 rfl
              subst eR514
              obtain ⟨h_x516, p517, p518⟩ := E515
              obtain ⟨⟨x520, k521, h519, zu518, zv518⟩, zf518, zg518, zh518, zc518⟩ := p517
              have k521 : M513 a0 13 = x520 := k521
              have z522 : x516 = 0 → ¬ (M513 a0 14).toInt = 0 := p518
              have q523 : nx.toInt ≤ x520.toInt ∧ x520.toInt ≤ tp.toInt := by
                have := (h_cn).1; have := (h_cn).2; have := (h_le).1; have := (h_le).2; have := (h_li).1; have := (h_li).2; have := (h_md).1; have := (h_md).2; have := (h_nx).1; have := (h_nx).2; have := (h_tp).1; have := (h_tp).2; have := (h19).1; have := (h19).2; have := (h11).1; have := (h11).2; have := (h357).1; have := (h357).2; have := (h200).1; have := (h200).2; have := (h188).1; have := (h188).2; have := (h31).1; have := (h31).2; have := (h391).1; have := (h391).2; have := (h369).1; have := (h369).2; have := (h499).1; have := (h499).2; have := (h417).1; have := (h417).2; have := (h519).1; have := (h519).2; have := (h_x8).1; have := (h_x8).2; exact ⟨by omega, by omega⟩
              have zt518 := ti_cl (x := tq) (by have := (h19).1; omega)
              have k524 : M513 a0 19 = x400 := ((Fr.kp (k := 19) f510 hk_a0 rfl).trans (Fr.kp (k := 19) f408 hk_a0 rfl)).trans k401
              exact tw_endz hx hb hr hlocks hK hT hS hQ (nar_b h_x516) (⟨h_x516, ⟨⟨x520, k521, h519, q523.1, q523.2⟩, (fun j hj => (zf518 j (by omega)).trans ((fun j hj => (Fr.kpa f408 hk_sg rfl j).trans ((fun j hj => (Fr.kpa f402 hk_sg rfl j).trans ((fun j hj => (Fr.kpa f360 hk_sg rfl j).trans ((fun j hj => (Fr.kpa f191 hk_sg rfl j).trans ((fun j hj => (Fr.kpa f22 hk_sg rfl j).trans ((fun j hj => (Fr.kpa f2 hk_sg rfl j).trans ((fun j _ => rfl) j hj)) j hj)) j hj)) j hj)) j hj)) j hj)) j hj)), (fun j hj => (zg518 j (by omega)).trans ((fun j hj => (Fr.kpa f408 hk_cl rfl j).trans ((fun j hj => (Fr.kpa f402 hk_cl rfl j).trans ((fun j hj => (Fr.kpa f360 hk_cl rfl j).trans ((fun j hj => (Fr.kpa f191 hk_cl rfl j).trans ((fun j hj => (Fr.kpa f22 hk_cl rfl j).trans ((fun j hj => (Fr.kpa f2 hk_cl rfl j).trans ((fun j _ => rfl) j hj)) j hj)) j hj)) j hj)) j hj)) j hj)) j hj)), (fun j hj => (zh518 j hj).trans ((fun j hj => (Fr.kpa f408 hk_cs rfl j).trans ((fun j hj => (Fr.kpa f402 hk_cs rfl j).trans ((fun j hj => (Fr.kpa f360 hk_cs rfl j).trans ((fun j hj => (Fr.kpa f191 hk_cs rfl j).trans ((fun j hj => (Fr.kpa f22 hk_cs rfl j).trans ((fun j hj => (Fr.kpa f2 hk_cs rfl j).trans ((fun j _ => rfl) j hj)) j hj)) j hj)) j hj)) j hj)) j hj)) j hj)), (by by_cases hz : x516 = 0; (· exact Or.inl hz); (· obtain ⟨y0, y2, y4, f0, f2, f4, f5, f6, f7, f8, f9⟩ := zc518 hz; refine Or.inr (Or.inr ⟨y0, y2, y4, x400, f0, f2, f4, k524, f5, ⟨?_, ?_⟩, h403, f8, ?_, ?_, f9⟩); all_goals (have := (h_cn).1; have := (h_cn).2; have := (h403).1; have := (h403).2; omega)))⟩, z522⟩) dX12_clauseHere_202
          · have q525 : li.toInt = 12 := ti_eq c395
            have h526 : iv 12 12 li := ⟨by have := (h_li).1; have := ((iv_c (c := 12) (n := 12) (by decide))).1; omega, by have := (h_li).2; have := ((iv_c (c := 12) (n := 12) (by decide))).2; omega⟩
            refine lv_aload_n hx hb dX12_clauseHere_142 rfl (lv_at hl 3 rfl) ?_
            refine lv_iconst (v := 4) hx hb dX12_clauseHere_143 (by decide) ?_
            refine lv_iload_n hx hb dX12_clauseHere_144 rfl (lv_at hl 2 rfl) ?_
            refine tw_goi hS (md_runV (As := [.int 4, .int x12]) (rest := []) hx hb hml hown hW hK hT hS.1 (t_X12_fails l D cy tx base Z K N M363 Ra J362 hS.2.1 a0 hz_a0 hk_a0 4 (iv_mono (iv_c (c := 4) (n := 4) (by decide)) (by decide) (by decide)) x12 h11) s_X12_148 ⟨rfl, rfl, ⟨Nat.le_of_ble_eq_true rfl, Nat.le_of_ble_eq_true rfl⟩, ⟨Nat.le_of_ble_eq_true rfl, Nat.le_of_ble_eq_true rfl⟩⟩ hz_a0 hk_a0 (by decide) rfl rfl hl.1 rfl (Nat.le_of_ble_eq_true rfl) dX12_clauseHere_145) rfl rfl (fun x533 H locs M530 R531 J529 hS f527 g528 E532 => ?_)
            have eR531 := Fr.nil g528 rfl
            subst eR531
            obtain ⟨h_x533, p534⟩ := E532
            have z535 : x533 = 0 → ¬ (M530 a0 14).toInt = 0 := p534
            have z536 := z535 (iv0 h_x533)
            have k537 : M530 a0 13 = x370 := (Fr.kp (k := 13) f527 hk_a0 rfl).trans k368
            have q538 : nx.toInt ≤ x370.toInt ∧ x370.toInt ≤ tp.toInt := by
              have := (h_cn).1; have := (h_cn).2; have := (h_le).1; have := (h_le).2; have := (h526).1; have := (h526).2; have := (h_md).1; have := (h_md).2; have := (h_nx).1; have := (h_nx).2; have := (h_tp).1; have := (h_tp).2; have := (h19).1; have := (h19).2; have := (h11).1; have := (h11).2; have := (h357).1; have := (h357).2; have := (h200).1; have := (h200).2; have := (h188).1; have := (h188).2; have := (h31).1; have := (h31).2; have := (h391).1; have := (h391).2; have := (h369).1; have := (h369).2; have := (h_x8).1; have := (h_x8).2; exact ⟨by omega, by omega⟩
            exact tw_endz hx hb hr hlocks hK hT hS hQ (nar_b (iv_mono h_x533 (by decide) (by decide))) (⟨(iv_mono h_x533 (by decide) (by decide)), ⟨⟨x370, k537, h369, q538.1, q538.2⟩, (fun j hj => (Fr.kpa f527 hk_sg rfl j).trans ((fun j hj => (Fr.kpa f360 hk_sg rfl j).trans ((fun j hj => (Fr.kpa f191 hk_sg rfl j).trans ((fun j hj => (Fr.kpa f22 hk_sg rfl j).trans ((fun j hj => (Fr.kpa f2 hk_sg rfl j).trans ((fun j _ => rfl) j hj)) j hj)) j hj)) j hj)) j hj)), (fun j hj => (Fr.kpa f527 hk_cl rfl j).trans ((fun j hj => (Fr.kpa f360 hk_cl rfl j).trans ((fun j hj => (Fr.kpa f191 hk_cl rfl j).trans ((fun j hj => (Fr.kpa f22 hk_cl rfl j).trans ((fun j hj => (Fr.kpa f2 hk_cl rfl j).trans ((fun j _ => rfl) j hj)) j hj)) j hj)) j hj)) j hj)), (fun j hj => (Fr.kpa f527 hk_cs rfl j).trans ((fun j hj => (Fr.kpa f360 hk_cs rfl j).trans ((fun j hj => (Fr.kpa f191 hk_cs rfl j).trans ((fun j hj => (Fr.kpa f22 hk_cs rfl j).trans ((fun j hj => (Fr.kpa f2 hk_cs rfl j).trans ((fun j _ => rfl) j hj)) j hj)) j hj)) j hj)) j hj)), Or.inl (iv0 h_x533)⟩, (fun _ => (show ¬ (M530 a0 14).toInt = 0 from z536))⟩) dX12_clauseHere_148
  · have q539 : tq.toInt = 6 := ti_eq c17
    have h540 : iv 6 6 tq := ⟨by have := (h_tq).1; have := ((iv_c (c := 6) (n := 6) (by decide))).1; omega, by have := (h_tq).2; have := ((iv_c (c := 6) (n := 6) (by decide))).2; omega⟩
    refine lv_iconst (v := 1) hx hb dX12_clauseHere_19 (by decide) ?_
    refine lv_goto (tgt := 24) hx hb dX12_clauseHere_20 (by decide) ?_
    refine lv_istore_n (lv' := [(2, .int 1), (1, .int x12), (0, .ref (base + a0))]) hx hb dX12_clauseHere_24 rfl hl (by decide) rfl (fun ls hl => ?_)
    refine lv_iload_n hx hb dX12_clauseHere_25 rfl (lv_at hl 0 rfl) ?_
    refine lv_if_eq (tgt := 77) hx hb dX12_clauseHere_26 (by decide) (fun h => absurd h (by decide)) (fun _ => ?_)
    refine lv_aload_n hx hb dX12_clauseHere_29 rfl (lv_at hl 2 rfl) ?_
    refine lv_ldc2 hx hb hown (hW _ w_6_235 rfl) dX12_clauseHere_30 ?_
    have k541 : M5 a0 1 = tp := (Fr.kp (k := 1) f2 hk_a0 rfl).trans k_tp
    have q542 : x12.toInt ≤ tp.toInt := by
      have := (h_cn).1; have := (h_cn).2; have := (h_le).1; have := (h_le).2; have := (h_li).1; have := (h_li).2; have := (h_md).1; have := (h_md).2; have := (h_nx).1; have := (h_nx).2; have := (h_tp).1; have := (h_tp).2; have := (h540).1; have := (h540).2; have := (h11).1; have := (h11).2; have := (h_x8).1; have := (h_x8).2; omega
    refine tw_goi hS (md_runV (As := [.long 30792292938117747]) (rest := []) hx hb hml hown hW hK hT hS.1 (t_X12_isWord l D cy tx base Z K N M5 Ra J4 hS.2.1 a0 hz_a0 hk_a0 (30792292938117747) tb k_tb x12 k10 (iv_mono h11 (by decide) (by decide)) tp k541 (iv_mono h_tp (by decide) (by decide)) q542) s_X12_138 ⟨rfl, rfl, ⟨Nat.le_of_ble_eq_true rfl, Nat.le_of_ble_eq_true rfl⟩, ⟨Nat.le_of_ble_eq_true rfl, Nat.le_of_ble_eq_true rfl⟩⟩ hz_a0 hk_a0 (by decide) rfl rfl hl.1 rfl (Nat.le_of_ble_eq_true rfl) dX12_clauseHere_33) rfl rfl (fun x549 H locs M546 R547 J545 hS f543 g544 E548 => ?_)
    have eR547 := Fr.nil g544 rfl
    subst eR547
    obtain ⟨h_x549, p550⟩ := E548
    obtain ⟨x553, k551, h552, q554, z555, z556⟩ := p550
    have k551 : M546 a0 13 = x553 := k551
    have z557 : ¬ x549 = 0 → chF 97 122 Ma tb x553 tp := fun h => chF.rf (chF.fr (z556 h) f543 hk_tb rfl) hS.2.2.1 hk_tb rfl
    refine lv_if_ne (tgt := 69) hx hb dX12_clauseHere_36 (by decide) (fun c558 => ?_) (fun c558 => ?_)
    · have q559 : ¬ x549.toInt = 0 := ti_ne c558
      have h560 : iv 1 1 x549 := ⟨by have := (h_x549).1; have := ((iv_c (c := 0) (n := 0) (by decide))).1; have := ((iv_c (c := 0) (n := 0) (by decide))).2; omega, by have := (h_x549).2; have := ((iv_c (c := 0) (n := 0) (by decide))).1; have := ((iv_c (c := 0) (n := 0) (by decide))).2; omega⟩
      have z561 := z557 c558
      have q562 := z561.1
      refine lv_iconst (v := 1) hx hb dX12_clauseHere_69 (by decide) ?_
      refine lv_goto (tgt := 112) hx hb dX12_clauseHere_70 (by decide) ?_
      refine lv_istore_n (lv' := [(3, .int 1), (2, .int 1), (1, .int x12), (0, .ref (base + a0))]) hx hb dX12_clauseHere_112 rfl hl (by decide) rfl (fun ls hl => ?_)
      refine lv_iload_n hx hb dX12_clauseHere_113 rfl (lv_at hl 0 rfl) ?_
      refine lv_if_ne (tgt := 124) hx hb dX12_clauseHere_114 (by decide) (fun _ => ?_) (fun h => absurd h (by decide))
      refine lv_aload_n hx hb dX12_clauseHere_124 rfl (lv_at hl 3 rfl) ?_
      have k563 : M546 a0 19 = li := ((Fr.kp (k := 19) f543 hk_a0 rfl).trans (Fr.kp (k := 19) f2 hk_a0 rfl)).trans k_li
      refine tw_getk hx hb hW hown hK hS f_X12_286_11 hz_a0 hk_a0 (v := li) k563 dX12_clauseHere_125 ?_
      refine lv_iload_n hx hb dX12_clauseHere_128 rfl (lv_at hl 1 rfl) ?_
      refine lv_if_eq (tgt := 137) hx hb dX12_clauseHere_129 (by decide) (fun h => absurd h (by decide)) (fun _ => ?_)
      refine lv_bipush (v := 16) hx hb dX12_clauseHere_132 (by decide) ?_
      refine lv_goto (tgt := 139) hx hb dX12_clauseHere_134 (by decide) ?_
      refine lv_icmp_ne (tgt := 149) hx hb dX12_clauseHere_139 (by decide) (fun c564 => ?_) (fun c564 => ?_)
      · have q565 : ¬ li.toInt = 16 := ti_ne c564
        have h566 : iv 0 15 li := ⟨by have := (h_li).1; have := ((iv_c (c := 16) (n := 16) (by decide))).1; have := ((iv_c (c := 16) (n := 16) (by decide))).2; omega, by have := (h_li).2; have := ((iv_c (c := 16) (n := 16) (by decide))).1; have := ((iv_c (c := 16) (n := 16) (by decide))).2; omega⟩
        refine lv_aload_n hx hb dX12_clauseHere_149 rfl (lv_at hl 3 rfl) ?_
        refine lv_dup hx hb dX12_clauseHere_150 rfl ?_
        have k567 : M546 a0 19 = li := ((Fr.kp (k := 19) f543 hk_a0 rfl).trans (Fr.kp (k := 19) f2 hk_a0 rfl)).trans k_li
        refine tw_getk hx hb hW hown hK hS f_X12_286_11 hz_a0 hk_a0 (v := li) k567 dX12_clauseHere_151 ?_
        refine lv_iconst (v := 1) hx hb dX12_clauseHere_154 (by decide) ?_
        refine tw_iadd (lo := 1) (hi := 16) hx hb h566 (iv_c (c := 1) (n := 1) (by decide)) ⟨by decide, by decide⟩ ⟨by decide, by decide⟩ dX12_clauseHere_155 (fun x570 e569 h568 => ?_)
        have e569 : x570.toInt = li.toInt + 1 := e569
        refine tw_puti hx hb hW hown hK hS f_X12_286_11 hz_a0 hk_a0 rfl rfl (lo := 0) (hi := 16) rfl (iv_mono h568 (by decide) (by decide)) rfl dX12_clauseHere_156 (fun H locs M573 hS k571 f572 => ?_)
        refine lv_iload_n hx hb dX12_clauseHere_159 rfl (lv_at hl 1 rfl) ?_
        refine lv_if_eq (tgt := 169) hx hb dX12_clauseHere_160 (by decide) (fun h => absurd h (by decide)) (fun _ => ?_)
        refine lv_aload_n hx hb dX12_clauseHere_163 rfl (lv_at hl 3 rfl) ?_
        refine lv_iload_n hx hb dX12_clauseHere_164 rfl (lv_at hl 2 rfl) ?_
        have k574 : M573 a0 13 = x553 := (Fr.kp (k := 13) f572 hk_a0 rfl).trans k551
        have k575 : M573 a0 1 = tp := ((Fr.kp (k := 1) f572 hk_a0 rfl).trans ((Fr.kp (k := 1) f543 hk_a0 rfl).trans (Fr.kp (k := 1) f2 hk_a0 rfl))).trans k_tp
        have q576 : x553.toInt ≤ tp.toInt := by
          have := (h_cn).1; have := (h_cn).2; have := (h_le).1; have := (h_le).2; have := (h566).1; have := (h566).2; have := (h_md).1; have := (h_md).2; have := (h_nx).1; have := (h_nx).2; have := (h_tp).1; have := (h_tp).2; have := (h540).1; have := (h540).2; have := (h11).1; have := (h11).2; have := (h560).1; have := (h560).2; have := (h552).1; have := (h552).2; have := (h_x8).1; have := (h_x8).2; omega
        refine tw_goi hS (md_runV (As := [.int x12]) (rest := []) hx hb hml hown hW hK hT hS.1 (t_X12_councilLineHere l D cy tx base Z K N M573 Ra J545 hS.2.1 a0 hz_a0 hk_a0 x12 h11 tb k_tb x553 k574 (iv_mono h552 (by decide) (by decide)) tp k575 (iv_mono h_tp (by decide) (by decide)) q576) s_X12_289 ⟨rfl, rfl, ⟨Nat.le_of_ble_eq_true rfl, Nat.le_of_ble_eq_true rfl⟩, ⟨Nat.le_of_ble_eq_true rfl, Nat.le_of_ble_eq_true rfl⟩⟩ hz_a0 hk_a0 (by decide) rfl rfl hl.1 rfl (Nat.le_of_ble_eq_true rfl) dX12_clauseHere_165) rfl rfl (fun x583 H locs M580 R581 J579 hS f577 g578 E582 => ?_)
        have eR581 := Fr.nil g578 rfl
        subst eR581
        obtain ⟨h_x583, p584, p585⟩ := E582
        obtain ⟨x588, k586, h587, q589⟩ := p584
        have k586 : M580 a0 13 = x588 := k586
        have z592 : x583 = 0 → ¬ (M580 a0 14).toInt = 0 := p585
        have q593 : nx.toInt ≤ x588.toInt ∧ x588.toInt ≤ tp.toInt := by
          have := (h_cn).1; have := (h_cn).2; have := (h_le).1; have := (h_le).2; have := (h566).1; have := (h566).2; have := (h_md).1; have := (h_md).2; have := (h_nx).1; have := (h_nx).2; have := (h_tp).1; have := (h_tp).2; have := (h540).1; have := (h540).2; have := (h11).1; have := (h11).2; have := (h560).1; have := (h560).2; have := (h552).1; have := (h552).2; have := (h_x583).1; have := (h_x583).2; have := (h587).1; have := (h587).2; have := (h_x8).1; have := (h_x8).2; exact ⟨by omega, by omega⟩
        exact tw_endz hx hb hr hlocks hK hT hS hQ (nar_b h_x583) (⟨h_x583, ⟨⟨x588, k586, h587, q593.1, q593.2⟩, (fun j hj => (Fr.kpa f577 hk_sg rfl j).trans ((fun j hj => (Fr.kpa f572 hk_sg rfl j).trans ((fun j hj => (Fr.kpa f543 hk_sg rfl j).trans ((fun j hj => (Fr.kpa f2 hk_sg rfl j).trans ((fun j _ => rfl) j hj)) j hj)) j hj)) j hj)), (fun j hj => (Fr.kpa f577 hk_cl rfl j).trans ((fun j hj => (Fr.kpa f572 hk_cl rfl j).trans ((fun j hj => (Fr.kpa f543 hk_cl rfl j).trans ((fun j hj => (Fr.kpa f2 hk_cl rfl j).trans ((fun j _ => rfl) j hj)) j hj)) j hj)) j hj)), (fun j hj => (Fr.kpa f577 hk_cs rfl j).trans ((fun j hj => (Fr.kpa f572 hk_cs rfl j).trans ((fun j hj => (Fr.kpa f543 hk_cs rfl j).trans ((fun j hj => (Fr.kpa f2 hk_cs rfl j).trans ((fun j _ => rfl) j hj)) j hj)) j hj)) j hj)), Or.inr (Or.inl (by have := (h540).1; have := (h540).2; omega))⟩, z592⟩) dX12_clauseHere_168
      · have q594 : li.toInt = 16 := ti_eq c564
        have h595 : iv 16 16 li := ⟨by have := (h_li).1; have := ((iv_c (c := 16) (n := 16) (by decide))).1; omega, by have := (h_li).2; have := ((iv_c (c := 16) (n := 16) (by decide))).2; omega⟩
        refine lv_aload_n hx hb dX12_clauseHere_142 rfl (lv_at hl 3 rfl) ?_
        refine lv_iconst (v := 4) hx hb dX12_clauseHere_143 (by decide) ?_
        refine lv_iload_n hx hb dX12_clauseHere_144 rfl (lv_at hl 2 rfl) ?_
        refine tw_goi hS (md_runV (As := [.int 4, .int x12]) (rest := []) hx hb hml hown hW hK hT hS.1 (t_X12_fails l D cy tx base Z K N M546 Ra J545 hS.2.1 a0 hz_a0 hk_a0 4 (iv_mono (iv_c (c := 4) (n := 4) (by decide)) (by decide) (by decide)) x12 h11) s_X12_148 ⟨rfl, rfl, ⟨Nat.le_of_ble_eq_true rfl, Nat.le_of_ble_eq_true rfl⟩, ⟨Nat.le_of_ble_eq_true rfl, Nat.le_of_ble_eq_true rfl⟩⟩ hz_a0 hk_a0 (by decide) rfl rfl hl.1 rfl (Nat.le_of_ble_eq_true rfl) dX12_clauseHere_145) rfl rfl (fun x602 H locs M599 R600 J598 hS f596 g597 E601 => ?_)
        have eR600 := Fr.nil g597 rfl
        subst eR600
        obtain ⟨h_x602, p603⟩ := E601
        have z604 : x602 = 0 → ¬ (M599 a0 14).toInt = 0 := p603
        have z605 := z604 (iv0 h_x602)
        have k606 : M599 a0 13 = x553 := (Fr.kp (k := 13) f596 hk_a0 rfl).trans k551
        have q607 : nx.toInt ≤ x553.toInt ∧ x553.toInt ≤ tp.toInt := by
          have := (h_cn).1; have := (h_cn).2; have := (h_le).1; have := (h_le).2; have := (h595).1; have := (h595).2; have := (h_md).1; have := (h_md).2; have := (h_nx).1; have := (h_nx).2; have := (h_tp).1; have := (h_tp).2; have := (h540).1; have := (h540).2; have := (h11).1; have := (h11).2; have := (h560).1; have := (h560).2; have := (h552).1; have := (h552).2; have := (h_x8).1; have := (h_x8).2; exact ⟨by omega, by omega⟩
        exact tw_endz hx hb hr hlocks hK hT hS hQ (nar_b (iv_mono h_x602 (by decide) (by decide))) (⟨(iv_mono h_x602 (by decide) (by decide)), ⟨⟨x553, k606, h552, q607.1, q607.2⟩, (fun j hj => (Fr.kpa f596 hk_sg rfl j).trans ((fun j hj => (Fr.kpa f543 hk_sg rfl j).trans ((fun j hj => (Fr.kpa f2 hk_sg rfl j).trans ((fun j _ => rfl) j hj)) j hj)) j hj)), (fun j hj => (Fr.kpa f596 hk_cl rfl j).trans ((fun j hj => (Fr.kpa f543 hk_cl rfl j).trans ((fun j hj => (Fr.kpa f2 hk_cl rfl j).trans ((fun j _ => rfl) j hj)) j hj)) j hj)), (fun j hj => (Fr.kpa f596 hk_cs rfl j).trans ((fun j hj => (Fr.kpa f543 hk_cs rfl j).trans ((fun j hj => (Fr.kpa f2 hk_cs rfl j).trans ((fun j _ => rfl) j hj)) j hj)) j hj)), Or.inl (iv0 h_x602)⟩, (fun _ => (show ¬ (M599 a0 14).toInt = 0 from z605))⟩) dX12_clauseHere_148
    · have q608 : x549.toInt = 0 := ti_eq c558
      have h609 : iv 0 0 x549 := ⟨by have := (h_x549).1; have := ((iv_c (c := 0) (n := 0) (by decide))).1; omega, by have := (h_x549).2; have := ((iv_c (c := 0) (n := 0) (by decide))).2; omega⟩
      refine lv_aload_n hx hb dX12_clauseHere_39 rfl (lv_at hl 2 rfl) ?_
      refine lv_ldc2 hx hb hown (hW _ w_7_4 rfl) dX12_clauseHere_40 ?_
      have k610 : M546 a0 1 = tp := ((Fr.kp (k := 1) f543 hk_a0 rfl).trans (Fr.kp (k := 1) f2 hk_a0 rfl)).trans k_tp
      have q611 : x553.toInt ≤ tp.toInt := by
        have := (h_cn).1; have := (h_cn).2; have := (h_le).1; have := (h_le).2; have := (h_li).1; have := (h_li).2; have := (h_md).1; have := (h_md).2; have := (h_nx).1; have := (h_nx).2; have := (h_tp).1; have := (h_tp).2; have := (h540).1; have := (h540).2; have := (h11).1; have := (h11).2; have := (h609).1; have := (h609).2; have := (h552).1; have := (h552).2; have := (h_x8).1; have := (h_x8).2; omega
      refine tw_goi hS (md_runV (As := [.long 482905517684]) (rest := []) hx hb hml hown hW hK hT hS.1 (t_X12_isWord l D cy tx base Z K N M546 Ra J545 hS.2.1 a0 hz_a0 hk_a0 (482905517684) tb k_tb x553 k551 (iv_mono h552 (by decide) (by decide)) tp k610 (iv_mono h_tp (by decide) (by decide)) q611) s_X12_138 ⟨rfl, rfl, ⟨Nat.le_of_ble_eq_true rfl, Nat.le_of_ble_eq_true rfl⟩, ⟨Nat.le_of_ble_eq_true rfl, Nat.le_of_ble_eq_true rfl⟩⟩ hz_a0 hk_a0 (by decide) rfl rfl hl.1 rfl (Nat.le_of_ble_eq_true rfl) dX12_clauseHere_43) rfl rfl (fun x618 H locs M615 R616 J614 hS f612 g613 E617 => ?_)
      have eR616 := Fr.nil g613 rfl
      subst eR616
      obtain ⟨h_x618, p619⟩ := E617
      obtain ⟨x622, k620, h621, q623, z624, z625⟩ := p619
      have k620 : M615 a0 13 = x622 := k620
      have z626 : ¬ x618 = 0 → chF 97 122 Ma tb x622 tp := fun h => chF.rf (chF.fr (z625 h) f612 hk_tb rfl) hS.2.2.1 hk_tb rfl
      refine lv_if_ne (tgt := 69) hx hb dX12_clauseHere_46 (by decide) (fun c627 => ?_) (fun c627 => ?_)
      · have q628 : ¬ x618.toInt = 0 := ti_ne c627
        have h629 : iv 1 1 x618 := ⟨by have := (h_x618).1; have := ((iv_c (c := 0) (n := 0) (by decide))).1; have := ((iv_c (c := 0) (n := 0) (by decide))).2; omega, by have := (h_x618).2; have := ((iv_c (c := 0) (n := 0) (by decide))).1; have := ((iv_c (c := 0) (n := 0) (by decide))).2; omega⟩
        have z630 := z626 c627
        have q631 := z630.1
        refine lv_iconst (v := 1) hx hb dX12_clauseHere_69 (by decide) ?_
        refine lv_goto (tgt := 112) hx hb dX12_clauseHere_70 (by decide) ?_
        refine lv_istore_n (lv' := [(3, .int 1), (2, .int 1), (1, .int x12), (0, .ref (base + a0))]) hx hb dX12_clauseHere_112 rfl hl (by decide) rfl (fun ls hl => ?_)
        refine lv_iload_n hx hb dX12_clauseHere_113 rfl (lv_at hl 0 rfl) ?_
        refine lv_if_ne (tgt := 124) hx hb dX12_clauseHere_114 (by decide) (fun _ => ?_) (fun h => absurd h (by decide))
        refine lv_aload_n hx hb dX12_clauseHere_124 rfl (lv_at hl 3 rfl) ?_
        have k632 : M615 a0 19 = li := ((Fr.kp (k := 19) f612 hk_a0 rfl).trans ((Fr.kp (k := 19) f543 hk_a0 rfl).trans (Fr.kp (k := 19) f2 hk_a0 rfl))).trans k_li
        refine tw_getk hx hb hW hown hK hS f_X12_286_11 hz_a0 hk_a0 (v := li) k632 dX12_clauseHere_125 ?_
        refine lv_iload_n hx hb dX12_clauseHere_128 rfl (lv_at hl 1 rfl) ?_
        refine lv_if_eq (tgt := 137) hx hb dX12_clauseHere_129 (by decide) (fun h => absurd h (by decide)) (fun _ => ?_)
        refine lv_bipush (v := 16) hx hb dX12_clauseHere_132 (by decide) ?_
        refine lv_goto (tgt := 139) hx hb dX12_clauseHere_134 (by decide) ?_
        refine lv_icmp_ne (tgt := 149) hx hb dX12_clauseHere_139 (by decide) (fun c633 => ?_) (fun c633 => ?_)
        · have q634 : ¬ li.toInt = 16 := ti_ne c633
          have h635 : iv 0 15 li := ⟨by have := (h_li).1; have := ((iv_c (c := 16) (n := 16) (by decide))).1; have := ((iv_c (c := 16) (n := 16) (by decide))).2; omega, by have := (h_li).2; have := ((iv_c (c := 16) (n := 16) (by decide))).1; have := ((iv_c (c := 16) (n := 16) (by decide))).2; omega⟩
          refine lv_aload_n hx hb dX12_clauseHere_149 rfl (lv_at hl 3 rfl) ?_
          refine lv_dup hx hb dX12_clauseHere_150 rfl ?_
          have k636 : M615 a0 19 = li := ((Fr.kp (k := 19) f612 hk_a0 rfl).trans ((Fr.kp (k := 19) f543 hk_a0 rfl).trans (Fr.kp (k := 19) f2 hk_a0 rfl))).trans k_li
          refine tw_getk hx hb hW hown hK hS f_X12_286_11 hz_a0 hk_a0 (v := li) k636 dX12_clauseHere_151 ?_
          refine lv_iconst (v := 1) hx hb dX12_clauseHere_154 (by decide) ?_
          refine tw_iadd (lo := 1) (hi := 16) hx hb h635 (iv_c (c := 1) (n := 1) (by decide)) ⟨by decide, by decide⟩ ⟨by decide, by decide⟩ dX12_clauseHere_155 (fun x639 e638 h637 => ?_)
          have e638 : x639.toInt = li.toInt + 1 := e638
          refine tw_puti hx hb hW hown hK hS f_X12_286_11 hz_a0 hk_a0 rfl rfl (lo := 0) (hi := 16) rfl (iv_mono h637 (by decide) (by decide)) rfl dX12_clauseHere_156 (fun H locs M642 hS k640 f641 => ?_)
          refine lv_iload_n hx hb dX12_clauseHere_159 rfl (lv_at hl 1 rfl) ?_
          refine lv_if_eq (tgt := 169) hx hb dX12_clauseHere_160 (by decide) (fun h => absurd h (by decide)) (fun _ => ?_)
          refine lv_aload_n hx hb dX12_clauseHere_163 rfl (lv_at hl 3 rfl) ?_
          refine lv_iload_n hx hb dX12_clauseHere_164 rfl (lv_at hl 2 rfl) ?_
          have k643 : M642 a0 13 = x622 := (Fr.kp (k := 13) f641 hk_a0 rfl).trans k620
          have k644 : M642 a0 1 = tp := ((Fr.kp (k := 1) f641 hk_a0 rfl).trans ((Fr.kp (k := 1) f612 hk_a0 rfl).trans ((Fr.kp (k := 1) f543 hk_a0 rfl).trans (Fr.kp (k := 1) f2 hk_a0 rfl)))).trans k_tp
          have q645 : x622.toInt ≤ tp.toInt := by
            have := (h_cn).1; have := (h_cn).2; have := (h_le).1; have := (h_le).2; have := (h635).1; have := (h635).2; have := (h_md).1; have := (h_md).2; have := (h_nx).1; have := (h_nx).2; have := (h_tp).1; have := (h_tp).2; have := (h540).1; have := (h540).2; have := (h11).1; have := (h11).2; have := (h609).1; have := (h609).2; have := (h552).1; have := (h552).2; have := (h629).1; have := (h629).2; have := (h621).1; have := (h621).2; have := (h_x8).1; have := (h_x8).2; omega
          refine tw_goi hS (md_runV (As := [.int x12]) (rest := []) hx hb hml hown hW hK hT hS.1 (t_X12_councilLineHere l D cy tx base Z K N M642 Ra J614 hS.2.1 a0 hz_a0 hk_a0 x12 h11 tb k_tb x622 k643 (iv_mono h621 (by decide) (by decide)) tp k644 (iv_mono h_tp (by decide) (by decide)) q645) s_X12_289 ⟨rfl, rfl, ⟨Nat.le_of_ble_eq_true rfl, Nat.le_of_ble_eq_true rfl⟩, ⟨Nat.le_of_ble_eq_true rfl, Nat.le_of_ble_eq_true rfl⟩⟩ hz_a0 hk_a0 (by decide) rfl rfl hl.1 rfl (Nat.le_of_ble_eq_true rfl) dX12_clauseHere_165) rfl rfl (fun x652 H locs M649 R650 J648 hS f646 g647 E651 => ?_)
          have eR650 := Fr.nil g647 rfl
          subst eR650
          obtain ⟨h_x652, p653, p654⟩ := E651
          obtain ⟨x657, k655, h656, q658⟩ := p653
          have k655 : M649 a0 13 = x657 := k655
          have z661 : x652 = 0 → ¬ (M649 a0 14).toInt = 0 := p654
          have q662 : nx.toInt ≤ x657.toInt ∧ x657.toInt ≤ tp.toInt := by
            have := (h_cn).1; have := (h_cn).2; have := (h_le).1; have := (h_le).2; have := (h635).1; have := (h635).2; have := (h_md).1; have := (h_md).2; have := (h_nx).1; have := (h_nx).2; have := (h_tp).1; have := (h_tp).2; have := (h540).1; have := (h540).2; have := (h11).1; have := (h11).2; have := (h609).1; have := (h609).2; have := (h552).1; have := (h552).2; have := (h629).1; have := (h629).2; have := (h621).1; have := (h621).2; have := (h_x652).1; have := (h_x652).2; have := (h656).1; have := (h656).2; have := (h_x8).1; have := (h_x8).2; exact ⟨by omega, by omega⟩
          exact tw_endz hx hb hr hlocks hK hT hS hQ (nar_b h_x652) (⟨h_x652, ⟨⟨x657, k655, h656, q662.1, q662.2⟩, (fun j hj => (Fr.kpa f646 hk_sg rfl j).trans ((fun j hj => (Fr.kpa f641 hk_sg rfl j).trans ((fun j hj => (Fr.kpa f612 hk_sg rfl j).trans ((fun j hj => (Fr.kpa f543 hk_sg rfl j).trans ((fun j hj => (Fr.kpa f2 hk_sg rfl j).trans ((fun j _ => rfl) j hj)) j hj)) j hj)) j hj)) j hj)), (fun j hj => (Fr.kpa f646 hk_cl rfl j).trans ((fun j hj => (Fr.kpa f641 hk_cl rfl j).trans ((fun j hj => (Fr.kpa f612 hk_cl rfl j).trans ((fun j hj => (Fr.kpa f543 hk_cl rfl j).trans ((fun j hj => (Fr.kpa f2 hk_cl rfl j).trans ((fun j _ => rfl) j hj)) j hj)) j hj)) j hj)) j hj)), (fun j hj => (Fr.kpa f646 hk_cs rfl j).trans ((fun j hj => (Fr.kpa f641 hk_cs rfl j).trans ((fun j hj => (Fr.kpa f612 hk_cs rfl j).trans ((fun j hj => (Fr.kpa f543 hk_cs rfl j).trans ((fun j hj => (Fr.kpa f2 hk_cs rfl j).trans ((fun j _ => rfl) j hj)) j hj)) j hj)) j hj)) j hj)), Or.inr (Or.inl (by have := (h540).1; have := (h540).2; omega))⟩, z661⟩) dX12_clauseHere_168
        · have q663 : li.toInt = 16 := ti_eq c633
          have h664 : iv 16 16 li := ⟨by have := (h_li).1; have := ((iv_c (c := 16) (n := 16) (by decide))).1; omega, by have := (h_li).2; have := ((iv_c (c := 16) (n := 16) (by decide))).2; omega⟩
          refine lv_aload_n hx hb dX12_clauseHere_142 rfl (lv_at hl 3 rfl) ?_
          refine lv_iconst (v := 4) hx hb dX12_clauseHere_143 (by decide) ?_
          refine lv_iload_n hx hb dX12_clauseHere_144 rfl (lv_at hl 2 rfl) ?_
          refine tw_goi hS (md_runV (As := [.int 4, .int x12]) (rest := []) hx hb hml hown hW hK hT hS.1 (t_X12_fails l D cy tx base Z K N M615 Ra J614 hS.2.1 a0 hz_a0 hk_a0 4 (iv_mono (iv_c (c := 4) (n := 4) (by decide)) (by decide) (by decide)) x12 h11) s_X12_148 ⟨rfl, rfl, ⟨Nat.le_of_ble_eq_true rfl, Nat.le_of_ble_eq_true rfl⟩, ⟨Nat.le_of_ble_eq_true rfl, Nat.le_of_ble_eq_true rfl⟩⟩ hz_a0 hk_a0 (by decide) rfl rfl hl.1 rfl (Nat.le_of_ble_eq_true rfl) dX12_clauseHere_145) rfl rfl (fun x671 H locs M668 R669 J667 hS f665 g666 E670 => ?_)
          have eR669 := Fr.nil g666 rfl
          subst eR669
          obtain ⟨h_x671, p672⟩ := E670
          have z673 : x671 = 0 → ¬ (M668 a0 14).toInt = 0 := p672
          have z674 := z673 (iv0 h_x671)
          have k675 : M668 a0 13 = x622 := (Fr.kp (k := 13) f665 hk_a0 rfl).trans k620
          have q676 : nx.toInt ≤ x622.toInt ∧ x622.toInt ≤ tp.toInt := by
            have := (h_cn).1; have := (h_cn).2; have := (h_le).1; have := (h_le).2; have := (h664).1; have := (h664).2; have := (h_md).1; have := (h_md).2; have := (h_nx).1; have := (h_nx).2; have := (h_tp).1; have := (h_tp).2; have := (h540).1; have := (h540).2; have := (h11).1; have := (h11).2; have := (h609).1; have := (h609).2; have := (h552).1; have := (h552).2; have := (h629).1; have := (h629).2; have := (h621).1; have := (h621).2; have := (h_x8).1; have := (h_x8).2; exact ⟨by omega, by omega⟩
          exact tw_endz hx hb hr hlocks hK hT hS hQ (nar_b (iv_mono h_x671 (by decide) (by decide))) (⟨(iv_mono h_x671 (by decide) (by decide)), ⟨⟨x622, k675, h621, q676.1, q676.2⟩, (fun j hj => (Fr.kpa f665 hk_sg rfl j).trans ((fun j hj => (Fr.kpa f612 hk_sg rfl j).trans ((fun j hj => (Fr.kpa f543 hk_sg rfl j).trans ((fun j hj => (Fr.kpa f2 hk_sg rfl j).trans ((fun j _ => rfl) j hj)) j hj)) j hj)) j hj)), (fun j hj => (Fr.kpa f665 hk_cl rfl j).trans ((fun j hj => (Fr.kpa f612 hk_cl rfl j).trans ((fun j hj => (Fr.kpa f543 hk_cl rfl j).trans ((fun j hj => (Fr.kpa f2 hk_cl rfl j).trans ((fun j _ => rfl) j hj)) j hj)) j hj)) j hj)), (fun j hj => (Fr.kpa f665 hk_cs rfl j).trans ((fun j hj => (Fr.kpa f612 hk_cs rfl j).trans ((fun j hj => (Fr.kpa f543 hk_cs rfl j).trans ((fun j hj => (Fr.kpa f2 hk_cs rfl j).trans ((fun j _ => rfl) j hj)) j hj)) j hj)) j hj)), Or.inl (iv0 h_x671)⟩, (fun _ => (show ¬ (M668 a0 14).toInt = 0 from z674))⟩) dX12_clauseHere_148
      · have q677 : x618.toInt = 0 := ti_eq c627
        have h678 : iv 0 0 x618 := ⟨by have := (h_x618).1; have := ((iv_c (c := 0) (n := 0) (by decide))).1; omega, by have := (h_x618).2; have := ((iv_c (c := 0) (n := 0) (by decide))).2; omega⟩
        refine lv_aload_n hx hb dX12_clauseHere_49 rfl (lv_at hl 2 rfl) ?_
        refine lv_ldc2 hx hb hown (hW _ w_7_5 rfl) dX12_clauseHere_50 ?_
        have k679 : M615 a0 1 = tp := ((Fr.kp (k := 1) f612 hk_a0 rfl).trans ((Fr.kp (k := 1) f543 hk_a0 rfl).trans (Fr.kp (k := 1) f2 hk_a0 rfl))).trans k_tp
        have q680 : x622.toInt ≤ tp.toInt := by
          have := (h_cn).1; have := (h_cn).2; have := (h_le).1; have := (h_le).2; have := (h_li).1; have := (h_li).2; have := (h_md).1; have := (h_md).2; have := (h_nx).1; have := (h_nx).2; have := (h_tp).1; have := (h_tp).2; have := (h540).1; have := (h540).2; have := (h11).1; have := (h11).2; have := (h609).1; have := (h609).2; have := (h552).1; have := (h552).2; have := (h678).1; have := (h678).2; have := (h621).1; have := (h621).2; have := (h_x8).1; have := (h_x8).2; omega
        refine tw_goi hS (md_runV (As := [.long 130220881569139]) (rest := []) hx hb hml hown hW hK hT hS.1 (t_X12_isWord l D cy tx base Z K N M615 Ra J614 hS.2.1 a0 hz_a0 hk_a0 (130220881569139) tb k_tb x622 k620 (iv_mono h621 (by decide) (by decide)) tp k679 (iv_mono h_tp (by decide) (by decide)) q680) s_X12_138 ⟨rfl, rfl, ⟨Nat.le_of_ble_eq_true rfl, Nat.le_of_ble_eq_true rfl⟩, ⟨Nat.le_of_ble_eq_true rfl, Nat.le_of_ble_eq_true rfl⟩⟩ hz_a0 hk_a0 (by decide) rfl rfl hl.1 rfl (Nat.le_of_ble_eq_true rfl) dX12_clauseHere_53) rfl rfl (fun x687 H locs M684 R685 J683 hS f681 g682 E686 => ?_)
        have eR685 := Fr.nil g682 rfl
        subst eR685
        obtain ⟨h_x687, p688⟩ := E686
        obtain ⟨x691, k689, h690, q692, z693, z694⟩ := p688
        have k689 : M684 a0 13 = x691 := k689
        have z695 : ¬ x687 = 0 → chF 97 122 Ma tb x691 tp := fun h => chF.rf (chF.fr (z694 h) f681 hk_tb rfl) hS.2.2.1 hk_tb rfl
        refine lv_if_ne (tgt := 69) hx hb dX12_clauseHere_56 (by decide) (fun c696 => ?_) (fun c696 => ?_)
        · have q697 : ¬ x687.toInt = 0 := ti_ne c696
          have h698 : iv 1 1 x687 := ⟨by have := (h_x687).1; have := ((iv_c (c := 0) (n := 0) (by decide))).1; have := ((iv_c (c := 0) (n := 0) (by decide))).2; omega, by have := (h_x687).2; have := ((iv_c (c := 0) (n := 0) (by decide))).1; have := ((iv_c (c := 0) (n := 0) (by decide))).2; omega⟩
          have z699 := z695 c696
          have q700 := z699.1
          refine lv_iconst (v := 1) hx hb dX12_clauseHere_69 (by decide) ?_
          refine lv_goto (tgt := 112) hx hb dX12_clauseHere_70 (by decide) ?_
          refine lv_istore_n (lv' := [(3, .int 1), (2, .int 1), (1, .int x12), (0, .ref (base + a0))]) hx hb dX12_clauseHere_112 rfl hl (by decide) rfl (fun ls hl => ?_)
          refine lv_iload_n hx hb dX12_clauseHere_113 rfl (lv_at hl 0 rfl) ?_
          refine lv_if_ne (tgt := 124) hx hb dX12_clauseHere_114 (by decide) (fun _ => ?_) (fun h => absurd h (by decide))
          refine lv_aload_n hx hb dX12_clauseHere_124 rfl (lv_at hl 3 rfl) ?_
          have k701 : M684 a0 19 = li := ((Fr.kp (k := 19) f681 hk_a0 rfl).trans ((Fr.kp (k := 19) f612 hk_a0 rfl).trans ((Fr.kp (k := 19) f543 hk_a0 rfl).trans (Fr.kp (k := 19) f2 hk_a0 rfl)))).trans k_li
          refine tw_getk hx hb hW hown hK hS f_X12_286_11 hz_a0 hk_a0 (v := li) k701 dX12_clauseHere_125 ?_
          refine lv_iload_n hx hb dX12_clauseHere_128 rfl (lv_at hl 1 rfl) ?_
          refine lv_if_eq (tgt := 137) hx hb dX12_clauseHere_129 (by decide) (fun h => absurd h (by decide)) (fun _ => ?_)
          refine lv_bipush (v := 16) hx hb dX12_clauseHere_132 (by decide) ?_
          refine lv_goto (tgt := 139) hx hb dX12_clauseHere_134 (by decide) ?_
          refine lv_icmp_ne (tgt := 149) hx hb dX12_clauseHere_139 (by decide) (fun c702 => ?_) (fun c702 => ?_)
          · have q703 : ¬ li.toInt = 16 := ti_ne c702
            have h704 : iv 0 15 li := ⟨by have := (h_li).1; have := ((iv_c (c := 16) (n := 16) (by decide))).1; have := ((iv_c (c := 16) (n := 16) (by decide))).2; omega, by have := (h_li).2; have := ((iv_c (c := 16) (n := 16) (by decide))).1; have := ((iv_c (c := 16) (n := 16) (by decide))).2; omega⟩
            refine lv_aload_n hx hb dX12_clauseHere_149 rfl (lv_at hl 3 rfl) ?_
            refine lv_dup hx hb dX12_clauseHere_150 rfl ?_
            have k705 : M684 a0 19 = li := ((Fr.kp (k := 19) f681 hk_a0 rfl).trans ((Fr.kp (k := 19) f612 hk_a0 rfl).trans ((Fr.kp (k := 19) f543 hk_a0 rfl).trans (Fr.kp (k := 19) f2 hk_a0 rfl)))).trans k_li
            refine tw_getk hx hb hW hown hK hS f_X12_286_11 hz_a0 hk_a0 (v := li) k705 dX12_clauseHere_151 ?_
            refine lv_iconst (v := 1) hx hb dX12_clauseHere_154 (by decide) ?_
            refine tw_iadd (lo := 1) (hi := 16) hx hb h704 (iv_c (c := 1) (n := 1) (by decide)) ⟨by decide, by decide⟩ ⟨by decide, by decide⟩ dX12_clauseHere_155 (fun x708 e707 h706 => ?_)
            have e707 : x708.toInt = li.toInt + 1 := e707
            refine tw_puti hx hb hW hown hK hS f_X12_286_11 hz_a0 hk_a0 rfl rfl (lo := 0) (hi := 16) rfl (iv_mono h706 (by decide) (by decide)) rfl dX12_clauseHere_156 (fun H locs M711 hS k709 f710 => ?_)
            refine lv_iload_n hx hb dX12_clauseHere_159 rfl (lv_at hl 1 rfl) ?_
            refine lv_if_eq (tgt := 169) hx hb dX12_clauseHere_160 (by decide) (fun h => absurd h (by decide)) (fun _ => ?_)
            refine lv_aload_n hx hb dX12_clauseHere_163 rfl (lv_at hl 3 rfl) ?_
            refine lv_iload_n hx hb dX12_clauseHere_164 rfl (lv_at hl 2 rfl) ?_
            have k712 : M711 a0 13 = x691 := (Fr.kp (k := 13) f710 hk_a0 rfl).trans k689
            have k713 : M711 a0 1 = tp := ((Fr.kp (k := 1) f710 hk_a0 rfl).trans ((Fr.kp (k := 1) f681 hk_a0 rfl).trans ((Fr.kp (k := 1) f612 hk_a0 rfl).trans ((Fr.kp (k := 1) f543 hk_a0 rfl).trans (Fr.kp (k := 1) f2 hk_a0 rfl))))).trans k_tp
            have q714 : x691.toInt ≤ tp.toInt := by
              have := (h_cn).1; have := (h_cn).2; have := (h_le).1; have := (h_le).2; have := (h704).1; have := (h704).2; have := (h_md).1; have := (h_md).2; have := (h_nx).1; have := (h_nx).2; have := (h_tp).1; have := (h_tp).2; have := (h540).1; have := (h540).2; have := (h11).1; have := (h11).2; have := (h609).1; have := (h609).2; have := (h552).1; have := (h552).2; have := (h678).1; have := (h678).2; have := (h621).1; have := (h621).2; have := (h698).1; have := (h698).2; have := (h690).1; have := (h690).2; have := (h_x8).1; have := (h_x8).2; omega
            refine tw_goi hS (md_runV (As := [.int x12]) (rest := []) hx hb hml hown hW hK hT hS.1 (t_X12_councilLineHere l D cy tx base Z K N M711 Ra J683 hS.2.1 a0 hz_a0 hk_a0 x12 h11 tb k_tb x691 k712 (iv_mono h690 (by decide) (by decide)) tp k713 (iv_mono h_tp (by decide) (by decide)) q714) s_X12_289 ⟨rfl, rfl, ⟨Nat.le_of_ble_eq_true rfl, Nat.le_of_ble_eq_true rfl⟩, ⟨Nat.le_of_ble_eq_true rfl, Nat.le_of_ble_eq_true rfl⟩⟩ hz_a0 hk_a0 (by decide) rfl rfl hl.1 rfl (Nat.le_of_ble_eq_true rfl) dX12_clauseHere_165) rfl rfl (fun x721 H locs M718 R719 J717 hS f715 g716 E720 => ?_)
            have eR719 := Fr.nil g716 rfl
            subst eR719
            obtain ⟨h_x721, p722, p723⟩ := E720
            obtain ⟨x726, k724, h725, q727⟩ := p722
            have k724 : M718 a0 13 = x726 := k724
            have z730 : x721 = 0 → ¬ (M718 a0 14).toInt = 0 := p723
            have q731 : nx.toInt ≤ x726.toInt ∧ x726.toInt ≤ tp.toInt := by
              have := (h_cn).1; have := (h_cn).2; have := (h_le).1; have := (h_le).2; have := (h704).1; have := (h704).2; have := (h_md).1; have := (h_md).2; have := (h_nx).1; have := (h_nx).2; have := (h_tp).1; have := (h_tp).2; have := (h540).1; have := (h540).2; have := (h11).1; have := (h11).2; have := (h609).1; have := (h609).2; have := (h552).1; have := (h552).2; have := (h678).1; have := (h678).2; have := (h621).1; have := (h621).2; have := (h698).1; have := (h698).2; have := (h690).1; have := (h690).2; have := (h_x721).1; have := (h_x721).2; have := (h725).1; have := (h725).2; have := (h_x8).1; have := (h_x8).2; exact ⟨by omega, by omega⟩
            exact tw_endz hx hb hr hlocks hK hT hS hQ (nar_b h_x721) (⟨h_x721, ⟨⟨x726, k724, h725, q731.1, q731.2⟩, (fun j hj => (Fr.kpa f715 hk_sg rfl j).trans ((fun j hj => (Fr.kpa f710 hk_sg rfl j).trans ((fun j hj => (Fr.kpa f681 hk_sg rfl j).trans ((fun j hj => (Fr.kpa f612 hk_sg rfl j).trans ((fun j hj => (Fr.kpa f543 hk_sg rfl j).trans ((fun j hj => (Fr.kpa f2 hk_sg rfl j).trans ((fun j _ => rfl) j hj)) j hj)) j hj)) j hj)) j hj)) j hj)), (fun j hj => (Fr.kpa f715 hk_cl rfl j).trans ((fun j hj => (Fr.kpa f710 hk_cl rfl j).trans ((fun j hj => (Fr.kpa f681 hk_cl rfl j).trans ((fun j hj => (Fr.kpa f612 hk_cl rfl j).trans ((fun j hj => (Fr.kpa f543 hk_cl rfl j).trans ((fun j hj => (Fr.kpa f2 hk_cl rfl j).trans ((fun j _ => rfl) j hj)) j hj)) j hj)) j hj)) j hj)) j hj)), (fun j hj => (Fr.kpa f715 hk_cs rfl j).trans ((fun j hj => (Fr.kpa f710 hk_cs rfl j).trans ((fun j hj => (Fr.kpa f681 hk_cs rfl j).trans ((fun j hj => (Fr.kpa f612 hk_cs rfl j).trans ((fun j hj => (Fr.kpa f543 hk_cs rfl j).trans ((fun j hj => (Fr.kpa f2 hk_cs rfl j).trans ((fun j _ => rfl) j hj)) j hj)) j hj)) j hj)) j hj)) j hj)), Or.inr (Or.inl (by have := (h540).1; have := (h540).2; omega))⟩, z730⟩) dX12_clauseHere_168
          · have q732 : li.toInt = 16 := ti_eq c702
            have h733 : iv 16 16 li := ⟨by have := (h_li).1; have := ((iv_c (c := 16) (n := 16) (by decide))).1; omega, by have := (h_li).2; have := ((iv_c (c := 16) (n := 16) (by decide))).2; omega⟩
            refine lv_aload_n hx hb dX12_clauseHere_142 rfl (lv_at hl 3 rfl) ?_
            refine lv_iconst (v := 4) hx hb dX12_clauseHere_143 (by decide) ?_
            refine lv_iload_n hx hb dX12_clauseHere_144 rfl (lv_at hl 2 rfl) ?_
            refine tw_goi hS (md_runV (As := [.int 4, .int x12]) (rest := []) hx hb hml hown hW hK hT hS.1 (t_X12_fails l D cy tx base Z K N M684 Ra J683 hS.2.1 a0 hz_a0 hk_a0 4 (iv_mono (iv_c (c := 4) (n := 4) (by decide)) (by decide) (by decide)) x12 h11) s_X12_148 ⟨rfl, rfl, ⟨Nat.le_of_ble_eq_true rfl, Nat.le_of_ble_eq_true rfl⟩, ⟨Nat.le_of_ble_eq_true rfl, Nat.le_of_ble_eq_true rfl⟩⟩ hz_a0 hk_a0 (by decide) rfl rfl hl.1 rfl (Nat.le_of_ble_eq_true rfl) dX12_clauseHere_145) rfl rfl (fun x740 H locs M737 R738 J736 hS f734 g735 E739 => ?_)
            have eR738 := Fr.nil g735 rfl
            subst eR738
            obtain ⟨h_x740, p741⟩ := E739
            have z742 : x740 = 0 → ¬ (M737 a0 14).toInt = 0 := p741
            have z743 := z742 (iv0 h_x740)
            have k744 : M737 a0 13 = x691 := (Fr.kp (k := 13) f734 hk_a0 rfl).trans k689
            have q745 : nx.toInt ≤ x691.toInt ∧ x691.toInt ≤ tp.toInt := by
              have := (h_cn).1; have := (h_cn).2; have := (h_le).1; have := (h_le).2; have := (h733).1; have := (h733).2; have := (h_md).1; have := (h_md).2; have := (h_nx).1; have := (h_nx).2; have := (h_tp).1; have := (h_tp).2; have := (h540).1; have := (h540).2; have := (h11).1; have := (h11).2; have := (h609).1; have := (h609).2; have := (h552).1; have := (h552).2; have := (h678).1; have := (h678).2; have := (h621).1; have := (h621).2; have := (h698).1; have := (h698).2; have := (h690).1; have := (h690).2; have := (h_x8).1; have := (h_x8).2; exact ⟨by omega, by omega⟩
            exact tw_endz hx hb hr hlocks hK hT hS hQ (nar_b (iv_mono h_x740 (by decide) (by decide))) (⟨(iv_mono h_x740 (by decide) (by decide)), ⟨⟨x691, k744, h690, q745.1, q745.2⟩, (fun j hj => (Fr.kpa f734 hk_sg rfl j).trans ((fun j hj => (Fr.kpa f681 hk_sg rfl j).trans ((fun j hj => (Fr.kpa f612 hk_sg rfl j).trans ((fun j hj => (Fr.kpa f543 hk_sg rfl j).trans ((fun j hj => (Fr.kpa f2 hk_sg rfl j).trans ((fun j _ => rfl) j hj)) j hj)) j hj)) j hj)) j hj)), (fun j hj => (Fr.kpa f734 hk_cl rfl j).trans ((fun j hj => (Fr.kpa f681 hk_cl rfl j).trans ((fun j hj => (Fr.kpa f612 hk_cl rfl j).trans ((fun j hj => (Fr.kpa f543 hk_cl rfl j).trans ((fun j hj => (Fr.kpa f2 hk_cl rfl j).trans ((fun j _ => rfl) j hj)) j hj)) j hj)) j hj)) j hj)), (fun j hj => (Fr.kpa f734 hk_cs rfl j).trans ((fun j hj => (Fr.kpa f681 hk_cs rfl j).trans ((fun j hj => (Fr.kpa f612 hk_cs rfl j).trans ((fun j hj => (Fr.kpa f543 hk_cs rfl j).trans ((fun j hj => (Fr.kpa f2 hk_cs rfl j).trans ((fun j _ => rfl) j hj)) j hj)) j hj)) j hj)) j hj)), Or.inl (iv0 h_x740)⟩, (fun _ => (show ¬ (M737 a0 14).toInt = 0 from z743))⟩) dX12_clauseHere_148
        · have q746 : x687.toInt = 0 := ti_eq c696
          have h747 : iv 0 0 x687 := ⟨by have := (h_x687).1; have := ((iv_c (c := 0) (n := 0) (by decide))).1; omega, by have := (h_x687).2; have := ((iv_c (c := 0) (n := 0) (by decide))).2; omega⟩
          refine lv_aload_n hx hb dX12_clauseHere_59 rfl (lv_at hl 2 rfl) ?_
          refine lv_ldc2 hx hb hown (hW _ w_7_6 rfl) dX12_clauseHere_60 ?_
          have k748 : M684 a0 1 = tp := ((Fr.kp (k := 1) f681 hk_a0 rfl).trans ((Fr.kp (k := 1) f612 hk_a0 rfl).trans ((Fr.kp (k := 1) f543 hk_a0 rfl).trans (Fr.kp (k := 1) f2 hk_a0 rfl)))).trans k_tp
          have q749 : x691.toInt ≤ tp.toInt := by
            have := (h_cn).1; have := (h_cn).2; have := (h_le).1; have := (h_le).2; have := (h_li).1; have := (h_li).2; have := (h_md).1; have := (h_md).2; have := (h_nx).1; have := (h_nx).2; have := (h_tp).1; have := (h_tp).2; have := (h540).1; have := (h540).2; have := (h11).1; have := (h11).2; have := (h609).1; have := (h609).2; have := (h552).1; have := (h552).2; have := (h678).1; have := (h678).2; have := (h621).1; have := (h621).2; have := (h747).1; have := (h747).2; have := (h690).1; have := (h690).2; have := (h_x8).1; have := (h_x8).2; omega
          refine tw_goi hS (md_runV (As := [.long 1650814580]) (rest := []) hx hb hml hown hW hK hT hS.1 (t_X12_isWord l D cy tx base Z K N M684 Ra J683 hS.2.1 a0 hz_a0 hk_a0 (1650814580) tb k_tb x691 k689 (iv_mono h690 (by decide) (by decide)) tp k748 (iv_mono h_tp (by decide) (by decide)) q749) s_X12_138 ⟨rfl, rfl, ⟨Nat.le_of_ble_eq_true rfl, Nat.le_of_ble_eq_true rfl⟩, ⟨Nat.le_of_ble_eq_true rfl, Nat.le_of_ble_eq_true rfl⟩⟩ hz_a0 hk_a0 (by decide) rfl rfl hl.1 rfl (Nat.le_of_ble_eq_true rfl) dX12_clauseHere_63) rfl rfl (fun x756 H locs M753 R754 J752 hS f750 g751 E755 => ?_)
          have eR754 := Fr.nil g751 rfl
          subst eR754
          obtain ⟨h_x756, p757⟩ := E755
          obtain ⟨x760, k758, h759, q761, z762, z763⟩ := p757
          have k758 : M753 a0 13 = x760 := k758
          have z764 : ¬ x756 = 0 → chF 97 122 Ma tb x760 tp := fun h => chF.rf (chF.fr (z763 h) f750 hk_tb rfl) hS.2.2.1 hk_tb rfl
          refine lv_if_eq (tgt := 73) hx hb dX12_clauseHere_66 (by decide) (fun c765 => ?_) (fun c765 => ?_)
          · have q766 : x756.toInt = 0 := ti_eq c765
            have h767 : iv 0 0 x756 := ⟨by have := (h_x756).1; have := ((iv_c (c := 0) (n := 0) (by decide))).1; omega, by have := (h_x756).2; have := ((iv_c (c := 0) (n := 0) (by decide))).2; omega⟩
            refine lv_iconst (v := 0) hx hb dX12_clauseHere_73 (by decide) ?_
            refine lv_goto (tgt := 112) hx hb dX12_clauseHere_74 (by decide) ?_
            refine lv_istore_n (lv' := [(3, .int 0), (2, .int 1), (1, .int x12), (0, .ref (base + a0))]) hx hb dX12_clauseHere_112 rfl hl (by decide) rfl (fun ls hl => ?_)
            refine lv_iload_n hx hb dX12_clauseHere_113 rfl (lv_at hl 0 rfl) ?_
            refine lv_if_ne (tgt := 124) hx hb dX12_clauseHere_114 (by decide) (fun h => absurd h (by decide)) (fun _ => ?_)
            refine lv_aload_n hx hb dX12_clauseHere_117 rfl (lv_at hl 3 rfl) ?_
            refine lv_iconst (v := 0) hx hb dX12_clauseHere_118 (by decide) ?_
            refine lv_iload_n hx hb dX12_clauseHere_119 rfl (lv_at hl 2 rfl) ?_
            refine tw_goi hS (md_runV (As := [.int 0, .int x12]) (rest := []) hx hb hml hown hW hK hT hS.1 (t_X12_fails l D cy tx base Z K N M753 Ra J752 hS.2.1 a0 hz_a0 hk_a0 0 (iv_mono (iv_c (c := 0) (n := 0) (by decide)) (by decide) (by decide)) x12 h11) s_X12_148 ⟨rfl, rfl, ⟨Nat.le_of_ble_eq_true rfl, Nat.le_of_ble_eq_true rfl⟩, ⟨Nat.le_of_ble_eq_true rfl, Nat.le_of_ble_eq_true rfl⟩⟩ hz_a0 hk_a0 (by decide) rfl rfl hl.1 rfl (Nat.le_of_ble_eq_true rfl) dX12_clauseHere_120) rfl rfl (fun x774 H locs M771 R772 J770 hS f768 g769 E773 => ?_)
            have eR772 := Fr.nil g769 rfl
            subst eR772
            obtain ⟨h_x774, p775⟩ := E773
            have z776 : x774 = 0 → ¬ (M771 a0 14).toInt = 0 := p775
            have z777 := z776 (iv0 h_x774)
            have k778 : M771 a0 13 = x760 := (Fr.kp (k := 13) f768 hk_a0 rfl).trans k758
            have q779 : nx.toInt ≤ x760.toInt ∧ x760.toInt ≤ tp.toInt := by
              have := (h_cn).1; have := (h_cn).2; have := (h_le).1; have := (h_le).2; have := (h_li).1; have := (h_li).2; have := (h_md).1; have := (h_md).2; have := (h_nx).1; have := (h_nx).2; have := (h_tp).1; have := (h_tp).2; have := (h540).1; have := (h540).2; have := (h11).1; have := (h11).2; have := (h609).1; have := (h609).2; have := (h552).1; have := (h552).2; have := (h678).1; have := (h678).2; have := (h621).1; have := (h621).2; have := (h747).1; have := (h747).2; have := (h690).1; have := (h690).2; have := (h767).1; have := (h767).2; have := (h759).1; have := (h759).2; have := (h_x8).1; have := (h_x8).2; exact ⟨by omega, by omega⟩
            exact tw_endz hx hb hr hlocks hK hT hS hQ (nar_b (iv_mono h_x774 (by decide) (by decide))) (⟨(iv_mono h_x774 (by decide) (by decide)), ⟨⟨x760, k778, h759, q779.1, q779.2⟩, (fun j hj => (Fr.kpa f768 hk_sg rfl j).trans ((fun j hj => (Fr.kpa f750 hk_sg rfl j).trans ((fun j hj => (Fr.kpa f681 hk_sg rfl j).trans ((fun j hj => (Fr.kpa f612 hk_sg rfl j).trans ((fun j hj => (Fr.kpa f543 hk_sg rfl j).trans ((fun j hj => (Fr.kpa f2 hk_sg rfl j).trans ((fun j _ => rfl) j hj)) j hj)) j hj)) j hj)) j hj)) j hj)), (fun j hj => (Fr.kpa f768 hk_cl rfl j).trans ((fun j hj => (Fr.kpa f750 hk_cl rfl j).trans ((fun j hj => (Fr.kpa f681 hk_cl rfl j).trans ((fun j hj => (Fr.kpa f612 hk_cl rfl j).trans ((fun j hj => (Fr.kpa f543 hk_cl rfl j).trans ((fun j hj => (Fr.kpa f2 hk_cl rfl j).trans ((fun j _ => rfl) j hj)) j hj)) j hj)) j hj)) j hj)) j hj)), (fun j hj => (Fr.kpa f768 hk_cs rfl j).trans ((fun j hj => (Fr.kpa f750 hk_cs rfl j).trans ((fun j hj => (Fr.kpa f681 hk_cs rfl j).trans ((fun j hj => (Fr.kpa f612 hk_cs rfl j).trans ((fun j hj => (Fr.kpa f543 hk_cs rfl j).trans ((fun j hj => (Fr.kpa f2 hk_cs rfl j).trans ((fun j _ => rfl) j hj)) j hj)) j hj)) j hj)) j hj)) j hj)), Or.inl (iv0 h_x774)⟩, (fun _ => (show ¬ (M771 a0 14).toInt = 0 from z777))⟩) dX12_clauseHere_123
          · have q780 : ¬ x756.toInt = 0 := ti_ne c765
            have h781 : iv 1 1 x756 := ⟨by have := (h_x756).1; have := ((iv_c (c := 0) (n := 0) (by decide))).1; have := ((iv_c (c := 0) (n := 0) (by decide))).2; omega, by have := (h_x756).2; have := ((iv_c (c := 0) (n := 0) (by decide))).1; have := ((iv_c (c := 0) (n := 0) (by decide))).2; omega⟩
            have z782 := z764 c765
            have q783 := z782.1
            refine lv_iconst (v := 1) hx hb dX12_clauseHere_69 (by decide) ?_
            refine lv_goto (tgt := 112) hx hb dX12_clauseHere_70 (by decide) ?_
            refine lv_istore_n (lv' := [(3, .int 1), (2, .int 1), (1, .int x12), (0, .ref (base + a0))]) hx hb dX12_clauseHere_112 rfl hl (by decide) rfl (fun ls hl => ?_)
            refine lv_iload_n hx hb dX12_clauseHere_113 rfl (lv_at hl 0 rfl) ?_
            refine lv_if_ne (tgt := 124) hx hb dX12_clauseHere_114 (by decide) (fun _ => ?_) (fun h => absurd h (by decide))
            refine lv_aload_n hx hb dX12_clauseHere_124 rfl (lv_at hl 3 rfl) ?_
            have k784 : M753 a0 19 = li := ((Fr.kp (k := 19) f750 hk_a0 rfl).trans ((Fr.kp (k := 19) f681 hk_a0 rfl).trans ((Fr.kp (k := 19) f612 hk_a0 rfl).trans ((Fr.kp (k := 19) f543 hk_a0 rfl).trans (Fr.kp (k := 19) f2 hk_a0 rfl))))).trans k_li
            refine tw_getk hx hb hW hown hK hS f_X12_286_11 hz_a0 hk_a0 (v := li) k784 dX12_clauseHere_125 ?_
            refine lv_iload_n hx hb dX12_clauseHere_128 rfl (lv_at hl 1 rfl) ?_
            refine lv_if_eq (tgt := 137) hx hb dX12_clauseHere_129 (by decide) (fun h => absurd h (by decide)) (fun _ => ?_)
            refine lv_bipush (v := 16) hx hb dX12_clauseHere_132 (by decide) ?_
            refine lv_goto (tgt := 139) hx hb dX12_clauseHere_134 (by decide) ?_
            refine lv_icmp_ne (tgt := 149) hx hb dX12_clauseHere_139 (by decide) (fun c785 => ?_) (fun c785 => ?_)
            · have q786 : ¬ li.toInt = 16 := ti_ne c785
              have h787 : iv 0 15 li := ⟨by have := (h_li).1; have := ((iv_c (c := 16) (n := 16) (by decide))).1; have := ((iv_c (c := 16) (n := 16) (by decide))).2; omega, by have := (h_li).2; have := ((iv_c (c := 16) (n := 16) (by decide))).1; have := ((iv_c (c := 16) (n := 16) (by decide))).2; omega⟩
              refine lv_aload_n hx hb dX12_clauseHere_149 rfl (lv_at hl 3 rfl) ?_
              refine lv_dup hx hb dX12_clauseHere_150 rfl ?_
              have k788 : M753 a0 19 = li := ((Fr.kp (k := 19) f750 hk_a0 rfl).trans ((Fr.kp (k := 19) f681 hk_a0 rfl).trans ((Fr.kp (k := 19) f612 hk_a0 rfl).trans ((Fr.kp (k := 19) f543 hk_a0 rfl).trans (Fr.kp (k := 19) f2 hk_a0 rfl))))).trans k_li
              refine tw_getk hx hb hW hown hK hS f_X12_286_11 hz_a0 hk_a0 (v := li) k788 dX12_clauseHere_151 ?_
              refine lv_iconst (v := 1) hx hb dX12_clauseHere_154 (by decide) ?_
              refine tw_iadd (lo := 1) (hi := 16) hx hb h787 (iv_c (c := 1) (n := 1) (by decide)) ⟨by decide, by decide⟩ ⟨by decide, by decide⟩ dX12_clauseHere_155 (fun x791 e790 h789 => ?_)
              have e790 : x791.toInt = li.toInt + 1 := e790
              refine tw_puti hx hb hW hown hK hS f_X12_286_11 hz_a0 hk_a0 rfl rfl (lo := 0) (hi := 16) rfl (iv_mono h789 (by decide) (by decide)) rfl dX12_clauseHere_156 (fun H locs M794 hS k792 f793 => ?_)
              refine lv_iload_n hx hb dX12_clauseHere_159 rfl (lv_at hl 1 rfl) ?_
              refine lv_if_eq (tgt := 169) hx hb dX12_clauseHere_160 (by decide) (fun h => absurd h (by decide)) (fun _ => ?_)
              refine lv_aload_n hx hb dX12_clauseHere_163 rfl (lv_at hl 3 rfl) ?_
              refine lv_iload_n hx hb dX12_clauseHere_164 rfl (lv_at hl 2 rfl) ?_
              have k795 : M794 a0 13 = x760 := (Fr.kp (k := 13) f793 hk_a0 rfl).trans k758
              have k796 : M794 a0 1 = tp := ((Fr.kp (k := 1) f793 hk_a0 rfl).trans ((Fr.kp (k := 1) f750 hk_a0 rfl).trans ((Fr.kp (k := 1) f681 hk_a0 rfl).trans ((Fr.kp (k := 1) f612 hk_a0 rfl).trans ((Fr.kp (k := 1) f543 hk_a0 rfl).trans (Fr.kp (k := 1) f2 hk_a0 rfl)))))).trans k_tp
              have q797 : x760.toInt ≤ tp.toInt := by
                have := (h_cn).1; have := (h_cn).2; have := (h_le).1; have := (h_le).2; have := (h787).1; have := (h787).2; have := (h_md).1; have := (h_md).2; have := (h_nx).1; have := (h_nx).2; have := (h_tp).1; have := (h_tp).2; have := (h540).1; have := (h540).2; have := (h11).1; have := (h11).2; have := (h609).1; have := (h609).2; have := (h552).1; have := (h552).2; have := (h678).1; have := (h678).2; have := (h621).1; have := (h621).2; have := (h747).1; have := (h747).2; have := (h690).1; have := (h690).2; have := (h781).1; have := (h781).2; have := (h759).1; have := (h759).2; have := (h_x8).1; have := (h_x8).2; omega
              refine tw_goi hS (md_runV (As := [.int x12]) (rest := []) hx hb hml hown hW hK hT hS.1 (t_X12_councilLineHere l D cy tx base Z K N M794 Ra J752 hS.2.1 a0 hz_a0 hk_a0 x12 h11 tb k_tb x760 k795 (iv_mono h759 (by decide) (by decide)) tp k796 (iv_mono h_tp (by decide) (by decide)) q797) s_X12_289 ⟨rfl, rfl, ⟨Nat.le_of_ble_eq_true rfl, Nat.le_of_ble_eq_true rfl⟩, ⟨Nat.le_of_ble_eq_true rfl, Nat.le_of_ble_eq_true rfl⟩⟩ hz_a0 hk_a0 (by decide) rfl rfl hl.1 rfl (Nat.le_of_ble_eq_true rfl) dX12_clauseHere_165) rfl rfl (fun x804 H locs M801 R802 J800 hS f798 g799 E803 => ?_)
              have eR802 := Fr.nil g799 rfl
              subst eR802
              obtain ⟨h_x804, p805, p806⟩ := E803
              obtain ⟨x809, k807, h808, q810⟩ := p805
              have k807 : M801 a0 13 = x809 := k807
              have z813 : x804 = 0 → ¬ (M801 a0 14).toInt = 0 := p806
              have q814 : nx.toInt ≤ x809.toInt ∧ x809.toInt ≤ tp.toInt := by
                have := (h_cn).1; have := (h_cn).2; have := (h_le).1; have := (h_le).2; have := (h787).1; have := (h787).2; have := (h_md).1; have := (h_md).2; have := (h_nx).1; have := (h_nx).2; have := (h_tp).1; have := (h_tp).2; have := (h540).1; have := (h540).2; have := (h11).1; have := (h11).2; have := (h609).1; have := (h609).2; have := (h552).1; have := (h552).2; have := (h678).1; have := (h678).2; have := (h621).1; have := (h621).2; have := (h747).1; have := (h747).2; have := (h690).1; have := (h690).2; have := (h781).1; have := (h781).2; have := (h759).1; have := (h759).2; have := (h_x8).1; have := (h_x8).2; have := (h_x804).1; have := (h_x804).2; have := (h808).1; have := (h808).2; exact ⟨by omega, by omega⟩
              exact tw_endz hx hb hr hlocks hK hT hS hQ (nar_b h_x804) (⟨h_x804, ⟨⟨x809, k807, h808, q814.1, q814.2⟩, (fun j hj => (Fr.kpa f798 hk_sg rfl j).trans ((fun j hj => (Fr.kpa f793 hk_sg rfl j).trans ((fun j hj => (Fr.kpa f750 hk_sg rfl j).trans ((fun j hj => (Fr.kpa f681 hk_sg rfl j).trans ((fun j hj => (Fr.kpa f612 hk_sg rfl j).trans ((fun j hj => (Fr.kpa f543 hk_sg rfl j).trans ((fun j hj => (Fr.kpa f2 hk_sg rfl j).trans ((fun j _ => rfl) j hj)) j hj)) j hj)) j hj)) j hj)) j hj)) j hj)), (fun j hj => (Fr.kpa f798 hk_cl rfl j).trans ((fun j hj => (Fr.kpa f793 hk_cl rfl j).trans ((fun j hj => (Fr.kpa f750 hk_cl rfl j).trans ((fun j hj => (Fr.kpa f681 hk_cl rfl j).trans ((fun j hj => (Fr.kpa f612 hk_cl rfl j).trans ((fun j hj => (Fr.kpa f543 hk_cl rfl j).trans ((fun j hj => (Fr.kpa f2 hk_cl rfl j).trans ((fun j _ => rfl) j hj)) j hj)) j hj)) j hj)) j hj)) j hj)) j hj)), (fun j hj => (Fr.kpa f798 hk_cs rfl j).trans ((fun j hj => (Fr.kpa f793 hk_cs rfl j).trans ((fun j hj => (Fr.kpa f750 hk_cs rfl j).trans ((fun j hj => (Fr.kpa f681 hk_cs rfl j).trans ((fun j hj => (Fr.kpa f612 hk_cs rfl j).trans ((fun j hj => (Fr.kpa f543 hk_cs rfl j).trans ((fun j hj => (Fr.kpa f2 hk_cs rfl j).trans ((fun j _ => rfl) j hj)) j hj)) j hj)) j hj)) j hj)) j hj)) j hj)), Or.inr (Or.inl (by have := (h540).1; have := (h540).2; omega))⟩, z813⟩) dX12_clauseHere_168
            · have q815 : li.toInt = 16 := ti_eq c785
              have h816 : iv 16 16 li := ⟨by have := (h_li).1; have := ((iv_c (c := 16) (n := 16) (by decide))).1; omega, by have := (h_li).2; have := ((iv_c (c := 16) (n := 16) (by decide))).2; omega⟩
              refine lv_aload_n hx hb dX12_clauseHere_142 rfl (lv_at hl 3 rfl) ?_
              refine lv_iconst (v := 4) hx hb dX12_clauseHere_143 (by decide) ?_
              refine lv_iload_n hx hb dX12_clauseHere_144 rfl (lv_at hl 2 rfl) ?_
              refine tw_goi hS (md_runV (As := [.int 4, .int x12]) (rest := []) hx hb hml hown hW hK hT hS.1 (t_X12_fails l D cy tx base Z K N M753 Ra J752 hS.2.1 a0 hz_a0 hk_a0 4 (iv_mono (iv_c (c := 4) (n := 4) (by decide)) (by decide) (by decide)) x12 h11) s_X12_148 ⟨rfl, rfl, ⟨Nat.le_of_ble_eq_true rfl, Nat.le_of_ble_eq_true rfl⟩, ⟨Nat.le_of_ble_eq_true rfl, Nat.le_of_ble_eq_true rfl⟩⟩ hz_a0 hk_a0 (by decide) rfl rfl hl.1 rfl (Nat.le_of_ble_eq_true rfl) dX12_clauseHere_145) rfl rfl (fun x823 H locs M820 R821 J819 hS f817 g818 E822 => ?_)
              have eR821 := Fr.nil g818 rfl
              subst eR821
              obtain ⟨h_x823, p824⟩ := E822
              have z825 : x823 = 0 → ¬ (M820 a0 14).toInt = 0 := p824
              have z826 := z825 (iv0 h_x823)
              have k827 : M820 a0 13 = x760 := (Fr.kp (k := 13) f817 hk_a0 rfl).trans k758
              have q828 : nx.toInt ≤ x760.toInt ∧ x760.toInt ≤ tp.toInt := by
                have := (h_cn).1; have := (h_cn).2; have := (h_le).1; have := (h_le).2; have := (h816).1; have := (h816).2; have := (h_md).1; have := (h_md).2; have := (h_nx).1; have := (h_nx).2; have := (h_tp).1; have := (h_tp).2; have := (h540).1; have := (h540).2; have := (h11).1; have := (h11).2; have := (h609).1; have := (h609).2; have := (h552).1; have := (h552).2; have := (h678).1; have := (h678).2; have := (h621).1; have := (h621).2; have := (h747).1; have := (h747).2; have := (h690).1; have := (h690).2; have := (h781).1; have := (h781).2; have := (h759).1; have := (h759).2; have := (h_x8).1; have := (h_x8).2; exact ⟨by omega, by omega⟩
              exact tw_endz hx hb hr hlocks hK hT hS hQ (nar_b (iv_mono h_x823 (by decide) (by decide))) (⟨(iv_mono h_x823 (by decide) (by decide)), ⟨⟨x760, k827, h759, q828.1, q828.2⟩, (fun j hj => (Fr.kpa f817 hk_sg rfl j).trans ((fun j hj => (Fr.kpa f750 hk_sg rfl j).trans ((fun j hj => (Fr.kpa f681 hk_sg rfl j).trans ((fun j hj => (Fr.kpa f612 hk_sg rfl j).trans ((fun j hj => (Fr.kpa f543 hk_sg rfl j).trans ((fun j hj => (Fr.kpa f2 hk_sg rfl j).trans ((fun j _ => rfl) j hj)) j hj)) j hj)) j hj)) j hj)) j hj)), (fun j hj => (Fr.kpa f817 hk_cl rfl j).trans ((fun j hj => (Fr.kpa f750 hk_cl rfl j).trans ((fun j hj => (Fr.kpa f681 hk_cl rfl j).trans ((fun j hj => (Fr.kpa f612 hk_cl rfl j).trans ((fun j hj => (Fr.kpa f543 hk_cl rfl j).trans ((fun j hj => (Fr.kpa f2 hk_cl rfl j).trans ((fun j _ => rfl) j hj)) j hj)) j hj)) j hj)) j hj)) j hj)), (fun j hj => (Fr.kpa f817 hk_cs rfl j).trans ((fun j hj => (Fr.kpa f750 hk_cs rfl j).trans ((fun j hj => (Fr.kpa f681 hk_cs rfl j).trans ((fun j hj => (Fr.kpa f612 hk_cs rfl j).trans ((fun j hj => (Fr.kpa f543 hk_cs rfl j).trans ((fun j hj => (Fr.kpa f2 hk_cs rfl j).trans ((fun j _ => rfl) j hj)) j hj)) j hj)) j hj)) j hj)) j hj)), Or.inl (iv0 h_x823)⟩, (fun _ => (show ¬ (M820 a0 14).toInt = 0 from z826))⟩) dX12_clauseHere_148
