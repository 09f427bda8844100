def Lt_X12_isSayingHere : WL := [(12, 13, 16), (12, 17, 19), (12, 21, 22), (14, 0, 2000000), (25, 0, 2000000), (26, 0, 2000000), (27, 0, 2000000), (28, 0, 2000000)]
def LRt_X12_isSayingHere : WL := []
set_option maxRecDepth 100000 in
set_option maxHeartbeats 4000000 in
theorem t_X12_isSayingHere (l : Launch) (D : va_G) (cy : Nat → ClassId) (tx : (Nat → Nat) × (Nat → Nat)) (base Z : Nat) (K N : Nat → Nat) (Ma : MT) (Ra : RT) (Ja : JT) (hTy : Ty Z K N Ma Ra) (a0 : Nat) (hz_a0 : a0 < Z) (hk_a0 : K a0 = 12) (a1 : Int32) (h_a1 : iv 0 2 a1) (tb : Nat) (k_tb : Ra a0 0 = some tb) (nx : Int32) (k_nx : Ma a0 13 = nx) (h_nx : iv 0 400 nx) (tp : Int32) (k_tp : Ma a0 1 = tp) (h_tp : iv 0 400 tp) (hnt : nx.toInt ≤ tp.toInt) (lg : Nat) (k_lg : Ra a0 4 = some lg) (sg : Nat) (k_sg : Ra a0 3 = some sg) (tq : Int32) (k_tq : Ma a0 16 = tq) (h_tq : iv 0 5 tq) (le : Int32) (k_le : Ma lg tq.toNatClampNeg = le) (h_le : iv 0 400 le) (md : Int32) (k_md : Ma a0 17 = md) (h_md : iv 0 60 md) (op : Nat) (k_op : Ra a0 20 = some op) (cs : Nat) (k_cs : Ra a0 6 = some cs) (cl : Nat) (k_cl : Ra a0 5 = some cl) (cn : Int32) (k_cn : Ma cs tq.toNatClampNeg = cn) (h_cn : iv 0 11 cn) (hle : le.toInt ≤ nx.toInt) (hci : CI Ma sg cl tq.toNatClampNeg cn.toNatClampNeg le.toInt) : Met l yX12_isSayingHere [Cond.code yX12_isSayingHere cX12_isSayingHere 3 (some .boolean)] (md_rm 10 0 0) (va_Pc [.ref (base + a0), .int a1] (md_U D cy tx base Z K N Ma Ra Ja)) (mQi D cy tx base (fun r u => TP Z K N Lt_X12_isSayingHere LRt_X12_isSayingHere Ma Ra u ∧ (iv 0 1 r ∧ ((∃ x0 : Int32, u.2.2.2.1 a0 13 = x0 ∧ iv 0 400 x0 ∧ nx.toInt ≤ x0.toInt ∧ x0.toInt ≤ tp.toInt) ∧ (∀ j, j < 400 * tq.toNatClampNeg + le.toNatClampNeg → u.2.2.2.1 sg j = Ma sg j) ∧ (∀ j, j < 36 * tq.toNatClampNeg + 3 * cn.toNatClampNeg → u.2.2.2.1 cl j = Ma cl j) ∧ (∀ j, j ≠ tq.toNatClampNeg → u.2.2.2.1 cs j = Ma cs j) ∧ (¬ r = 0 → ∃ x0 x2 x4 : Int32, u.2.2.2.1 a0 13 = x0 ∧ u.2.2.2.1 lg tq.toNatClampNeg = x2 ∧ u.2.2.2.1 cs tq.toNatClampNeg = x4 ∧ iv 0 400 x2 ∧ x4.toInt = cn.toInt + 1 ∧ le.toInt ≤ x2.toInt ∧ x2.toInt ≤ x0.toInt ∧ CI u.2.2.2.1 sg cl tq.toNatClampNeg x4.toNatClampNeg x2.toInt)) ∧ (r = 0 → ¬ (u.2.2.2.1 a0 14).toInt = 0)))) 0 0 (fun q => base ≤ q) := by
  refine tw_ofW (L := Lt_X12_isSayingHere) (LR := LRt_X12_isSayingHere) (by decide) (Nat.le_of_ble_eq_true rfl) hTy ?_
  intro p e s m args below meth c Q ls hx hb hr hlocks hown hml hW hK hT hS hQ hl
  have hl : lv_has ls 3 [(0, .ref (base + a0)), (1, .int a1)] := hl
  obtain ⟨hz_tb, hk_tb, hn_tb⟩ := hTy.refn hz_a0 hk_a0 (show rtR 12 0 = (13, 400, 0) from rfl) k_tb
  have hn_tb := hn_tb (by decide)
  obtain ⟨hz_lg, hk_lg, hn_lg⟩ := hTy.refn hz_a0 hk_a0 (show rtR 12 4 = (26, 7, 0) from rfl) k_lg
  have hn_lg := hn_lg (by decide)
  obtain ⟨hz_sg, hk_sg, hn_sg⟩ := hTy.refn hz_a0 hk_a0 (show rtR 12 3 = (25, 2400, 0) from rfl) k_sg
  have hn_sg := hn_sg (by decide)
  obtain ⟨hz_op, hk_op, hn_op⟩ := hTy.refn hz_a0 hk_a0 (show rtR 12 20 = (14, 400, 0) from rfl) k_op
  have hn_op := hn_op (by decide)
  obtain ⟨hz_cs, hk_cs, hn_cs⟩ := hTy.refn hz_a0 hk_a0 (show rtR 12 6 = (28, 6, 0) from rfl) k_cs
  have hn_cs := hn_cs (by decide)
  obtain ⟨hz_cl, hk_cl, hn_cl⟩ := hTy.refn hz_a0 hk_a0 (show rtR 12 5 = (27, 216, 0) from rfl) k_cl
  have hn_cl := hn_cl (by decide)
  refine lv_aload_n hx hb dX12_isSayingHere_0 rfl (lv_at hl 0 rfl) ?_
  have q1 : nx.toInt ≤ tp.toInt := by
    have := (h_a1).1; have := (h_a1).2; have := (h_cn).1; have := (h_cn).2; have := (h_le).1; have := (h_le).2; have := (h_md).1; have := (h_md).2; have := (h_nx).1; have := (h_nx).2; have := (h_tp).1; have := (h_tp).2; have := (h_tq).1; have := (h_tq).2; omega
  refine tw_gov hS (md_runV (As := []) (rest := []) hx hb hml hown hW hK hT hS.1 (t_X12_passWord l D cy tx base Z K N Ma Ra Ja hS.2.1 a0 hz_a0 hk_a0 tb k_tb nx k_nx (iv_mono h_nx (by decide) (by decide)) tp k_tp (iv_mono h_tp (by decide) (by decide)) q1) s_X12_142 ⟨rfl, rfl, ⟨Nat.le_of_ble_eq_true rfl, Nat.le_of_ble_eq_true rfl⟩, ⟨Nat.le_of_ble_eq_true rfl, Nat.le_of_ble_eq_true rfl⟩⟩ hz_a0 hk_a0 (by decide) rfl rfl hl.1 rfl (Nat.le_of_ble_eq_true rfl) dX12_isSayingHere_1) rfl rfl (fun H locs M5 R6 J4 hS f2 g3 E7 => ?_)
  have eR6 := Fr.nil g3 rfl
  subst eR6
  have p8 := E7
  clear E7
  obtain ⟨x11, k9, h10, q12, z14⟩ := p8
  have k9 : M5 a0 13 = x11 := k9
  refine lv_bipush (v := 36) hx hb dX12_isSayingHere_4 (by decide) ?_
  refine lv_aload_n hx hb dX12_isSayingHere_6 rfl (lv_at hl 0 rfl) ?_
  have k15 : M5 a0 16 = tq := (Fr.kp (k := 16) f2 hk_a0 rfl).trans k_tq
  refine tw_getk hx hb hW hown hK hS f_X12_179_11 hz_a0 hk_a0 (v := tq) k15 dX12_isSayingHere_7 ?_
  refine tw_icmul (k := 36) (lo := 0) (hi := 180) hx hb (by decide) h_tq (by decide) ⟨by decide, by decide⟩ ⟨by decide, by decide⟩ dX12_isSayingHere_10 (fun x18 e17 h16 => ?_)
  refine lv_iconst (v := 3) hx hb dX12_isSayingHere_11 (by decide) ?_
  refine lv_aload_n hx hb dX12_isSayingHere_12 rfl (lv_at hl 0 rfl) ?_
  refine tw_getrk hx hb hW hown hK hS f_X12_23_11 hz_a0 hk_a0 (b := cs) k_cs dX12_isSayingHere_13 ?_
  refine lv_aload_n hx hb dX12_isSayingHere_16 rfl (lv_at hl 0 rfl) ?_
  have k19 : M5 a0 16 = tq := (Fr.kp (k := 16) f2 hk_a0 rfl).trans k_tq
  refine tw_getk hx hb hW hown hK hS f_X12_179_11 hz_a0 hk_a0 (v := tq) k19 dX12_isSayingHere_17 ?_
  have k20 : M5 cs tq.toNatClampNeg = cn := (Fr.kpa f2 hk_cs rfl tq.toNatClampNeg).trans k_cn
  refine tw_ialk hx hb hK hS hz_cs hk_cs (Or.inr (by decide)) hn_cs h_tq ⟨by decide, by decide⟩ (v := cn) k20 dX12_isSayingHere_20 ?_
  refine tw_icmul (k := 3) (lo := 0) (hi := 33) hx hb (by decide) h_cn (by decide) ⟨by decide, by decide⟩ ⟨by decide, by decide⟩ dX12_isSayingHere_21 (fun x23 e22 h21 => ?_)
  refine tw_iadd (lo := 0) (hi := 213) hx hb h16 h21 ⟨by decide, by decide⟩ ⟨by decide, by decide⟩ dX12_isSayingHere_22 (fun x26 e25 h24 => ?_)
  refine lv_istore_n (lv' := [(2, .int x26), (0, .ref (base + a0)), (1, .int a1)]) hx hb dX12_isSayingHere_23 rfl hl (by decide) rfl (fun ls hl => ?_)
  refine lv_aload_n hx hb dX12_isSayingHere_24 rfl (lv_at hl 1 rfl) ?_
  refine tw_getrk hx hb hW hown hK hS f_X12_20_11 hz_a0 hk_a0 (b := cl) k_cl dX12_isSayingHere_25 ?_
  refine lv_iload_n hx hb dX12_isSayingHere_28 rfl (lv_at hl 0 rfl) ?_
  refine lv_iload_n hx hb dX12_isSayingHere_29 rfl (lv_at hl 2 rfl) ?_
  refine tw_iasx hx hb hK hS hz_cl hk_cl (Or.inr (by decide)) hn_cl h24 ⟨by decide, by decide⟩ (iv_any _) (jl := 0) (jh := 1999999) ⟨by decide, by decide⟩ rfl dX12_isSayingHere_30 (fun H locs M30 hS k27 f28 e29 => ?_)
  have zt30 := ti_cl (x := tq) (by have := h_tq.1; omega); have zc30 := ti_cl (x := cn) (by have := h_cn.1; omega); have zi30 := ti_cl (x := x26) (by have := (h24).1; omega)
  have ze30 : x26.toNatClampNeg = 36 * tq.toNatClampNeg + 3 * cn.toNatClampNeg + 0 := by omega
  have z31 : ∀ j, j < 36 * tq.toNatClampNeg + 3 * cn.toNatClampNeg → M30 cl j = Ma cl j := fun j hj => by rw [e29, u2_nk (by omega)]; exact (fun j hj => (Fr.kpa f2 hk_cl rfl j).trans ((fun j _ => rfl) j hj)) j hj
  refine lv_aload_n hx hb dX12_isSayingHere_31 rfl (lv_at hl 1 rfl) ?_
  refine tw_getrk hx hb hW hown hK hS f_X12_20_11 hz_a0 hk_a0 (b := cl) k_cl dX12_isSayingHere_32 ?_
  refine lv_iload_n hx hb dX12_isSayingHere_35 rfl (lv_at hl 0 rfl) ?_
  refine lv_iconst (v := 1) hx hb dX12_isSayingHere_36 (by decide) ?_
  refine tw_iadd (lo := 1) (hi := 214) hx hb h24 (iv_c (c := 1) (n := 1) (by decide)) ⟨by decide, by decide⟩ ⟨by decide, by decide⟩ dX12_isSayingHere_37 (fun x35 e34 h33 => ?_)
  have e34 : x35.toInt = x26.toInt + 1 := e34
  refine lv_iconst (v := (-1)) hx hb dX12_isSayingHere_38 (by decide) ?_
  refine tw_iasx hx hb hK hS hz_cl hk_cl (Or.inr (by decide)) hn_cl h33 ⟨by decide, by decide⟩ (iv_any _) (jl := 0) (jh := 1999999) ⟨by decide, by decide⟩ rfl dX12_isSayingHere_39 (fun H locs M39 hS k36 f37 e38 => ?_)
  have zt39 := ti_cl (x := tq) (by have := h_tq.1; omega); have zc39 := ti_cl (x := cn) (by have := h_cn.1; omega); have zi39 := ti_cl (x := x35) (by have := (h33).1; omega)
  have ze39 : x35.toNatClampNeg = 36 * tq.toNatClampNeg + 3 * cn.toNatClampNeg + 1 := by omega
  have z40 : ∀ j, j < 36 * tq.toNatClampNeg + 3 * cn.toNatClampNeg → M39 cl j = Ma cl j := fun j hj => by rw [e38, u2_nk (by omega)]; exact z31 j hj
  have z41 : M39 cl (36 * tq.toNatClampNeg + 3 * cn.toNatClampNeg + 1) = (-1) := by rw [← ze39, e38]; exact u2_same
  refine lv_aload_n hx hb dX12_isSayingHere_40 rfl (lv_at hl 1 rfl) ?_
  refine lv_ldc2 hx hb hown (hW _ w_7_57 rfl) dX12_isSayingHere_41 ?_
  have k42 : M39 a0 13 = x11 := ((Fr.kp (k := 13) f37 hk_a0 rfl).trans (Fr.kp (k := 13) f28 hk_a0 rfl)).trans k9
  have k43 : M39 a0 1 = tp := ((Fr.kp (k := 1) f37 hk_a0 rfl).trans ((Fr.kp (k := 1) f28 hk_a0 rfl).trans (Fr.kp (k := 1) f2 hk_a0 rfl))).trans k_tp
  have q44 : x11.toInt ≤ tp.toInt := by
    have := (h_a1).1; have := (h_a1).2; have := (h_cn).1; have := (h_cn).2; have := (h_le).1; have := (h_le).2; have := (h_md).1; have := (h_md).2; have := (h_nx).1; have := (h_nx).2; have := (h_tp).1; have := (h_tp).2; have := (h_tq).1; have := (h_tq).2; have := (h10).1; have := (h10).2; omega
  refine tw_goi hS (md_runV (As := [.long 26982]) (rest := []) hx hb hml hown hW hK hT hS.1 (t_X12_takesWord l D cy tx base Z K N M39 Ra J4 hS.2.1 a0 hz_a0 hk_a0 (26982) tb k_tb x11 k42 (iv_mono h10 (by decide) (by decide)) tp k43 (iv_mono h_tp (by decide) (by decide)) q44) s_X12_245 ⟨rfl, rfl, ⟨Nat.le_of_ble_eq_true rfl, Nat.le_of_ble_eq_true rfl⟩, ⟨Nat.le_of_ble_eq_true rfl, Nat.le_of_ble_eq_true rfl⟩⟩ hz_a0 hk_a0 (by decide) rfl rfl hl.1 rfl (Nat.le_of_ble_eq_true rfl) dX12_isSayingHere_44) rfl rfl (fun x51 H locs M48 R49 J47 hS f45 g46 E50 => ?_)
  have eR49 := Fr.nil g46 rfl
  subst eR49
  obtain ⟨h_x51, p52⟩ := E50
  obtain ⟨x55, k53, h54, q56⟩ := p52
  have k53 : M48 a0 13 = x55 := k53
  refine lv_if_eq (tgt := 76) hx hb dX12_isSayingHere_47 (by decide) (fun c59 => ?_) (fun c59 => ?_)
  · have q60 : x51.toInt = 0 := ti_eq c59
    have h61 : iv 0 0 x51 := ⟨by have := (h_x51).1; have := ((iv_c (c := 0) (n := 0) (by decide))).1; omega, by have := (h_x51).2; have := ((iv_c (c := 0) (n := 0) (by decide))).2; omega⟩
    refine lv_aload_n hx hb dX12_isSayingHere_76 rfl (lv_at hl 1 rfl) ?_
    refine tw_getrk hx hb hW hown hK hS f_X12_20_11 hz_a0 hk_a0 (b := cl) k_cl dX12_isSayingHere_77 ?_
    refine lv_iload_n hx hb dX12_isSayingHere_80 rfl (lv_at hl 0 rfl) ?_
    refine lv_iconst (v := 2) hx hb dX12_isSayingHere_81 (by decide) ?_
    refine tw_iadd (lo := 2) (hi := 215) hx hb h24 (iv_c (c := 2) (n := 2) (by decide)) ⟨by decide, by decide⟩ ⟨by decide, by decide⟩ dX12_isSayingHere_82 (fun x64 e63 h62 => ?_)
    have e63 : x64.toInt = x26.toInt + 2 := e63
    refine lv_aload_n hx hb dX12_isSayingHere_83 rfl (lv_at hl 1 rfl) ?_
    refine tw_getrk hx hb hW hown hK hS f_X12_17_11 hz_a0 hk_a0 (b := lg) k_lg dX12_isSayingHere_84 ?_
    refine lv_aload_n hx hb dX12_isSayingHere_87 rfl (lv_at hl 1 rfl) ?_
    have k65 : M48 a0 16 = tq := ((Fr.kp (k := 16) f45 hk_a0 rfl).trans ((Fr.kp (k := 16) f37 hk_a0 rfl).trans ((Fr.kp (k := 16) f28 hk_a0 rfl).trans (Fr.kp (k := 16) f2 hk_a0 rfl)))).trans k_tq
    refine tw_getk hx hb hW hown hK hS f_X12_179_11 hz_a0 hk_a0 (v := tq) k65 dX12_isSayingHere_88 ?_
    have k66 : M48 lg tq.toNatClampNeg = le := ((Fr.kpa f45 hk_lg rfl tq.toNatClampNeg).trans ((Fr.kpa f37 hk_lg rfl tq.toNatClampNeg).trans ((Fr.kpa f28 hk_lg rfl tq.toNatClampNeg).trans (Fr.kpa f2 hk_lg rfl tq.toNatClampNeg)))).trans k_le
    refine tw_ialk hx hb hK hS hz_lg hk_lg (Or.inr (by decide)) hn_lg h_tq ⟨by decide, by decide⟩ (v := le) k66 dX12_isSayingHere_91 ?_
    refine tw_iasx hx hb hK hS hz_cl hk_cl (Or.inr (by decide)) hn_cl h62 ⟨by decide, by decide⟩ (iv_any _) (jl := 0) (jh := 1999999) ⟨by decide, by decide⟩ rfl dX12_isSayingHere_92 (fun H locs M70 hS k67 f68 e69 => ?_)
    have zt70 := ti_cl (x := tq) (by have := h_tq.1; omega); have zc70 := ti_cl (x := cn) (by have := h_cn.1; omega); have zi70 := ti_cl (x := x64) (by have := (h62).1; omega)
    have ze70 : x64.toNatClampNeg = 36 * tq.toNatClampNeg + 3 * cn.toNatClampNeg + 2 := by omega
    have z71 : ∀ j, j < 36 * tq.toNatClampNeg + 3 * cn.toNatClampNeg → M70 cl j = Ma cl j := fun j hj => by rw [e69, u2_nk (by omega)]; exact (fun j hj => (Fr.kpa f45 hk_cl rfl j).trans (z40 j hj)) j hj
    have z72 : M70 cl (36 * tq.toNatClampNeg + 3 * cn.toNatClampNeg + 2) = le := by rw [← ze70, e69]; exact u2_same
    have z73 : M70 cl (36 * tq.toNatClampNeg + 3 * cn.toNatClampNeg + 1) = (-1) := by rw [e69, u2_nk (by omega)]; exact ((Fr.kpa f45 hk_cl rfl _).trans z41)
    refine lv_aload_n hx hb dX12_isSayingHere_93 rfl (lv_at hl 1 rfl) ?_
    refine tw_getrk hx hb hW hown hK hS f_X12_23_11 hz_a0 hk_a0 (b := cs) k_cs dX12_isSayingHere_94 ?_
    refine lv_aload_n hx hb dX12_isSayingHere_97 rfl (lv_at hl 1 rfl) ?_
    have k74 : M70 a0 16 = tq := ((Fr.kp (k := 16) f68 hk_a0 rfl).trans ((Fr.kp (k := 16) f45 hk_a0 rfl).trans ((Fr.kp (k := 16) f37 hk_a0 rfl).trans ((Fr.kp (k := 16) f28 hk_a0 rfl).trans (Fr.kp (k := 16) f2 hk_a0 rfl))))).trans k_tq
    refine tw_getk hx hb hW hown hK hS f_X12_179_11 hz_a0 hk_a0 (v := tq) k74 dX12_isSayingHere_98 ?_
    refine lv_dup2_11 hx hb dX12_isSayingHere_101 rfl rfl ?_
    have k75 : M70 cs tq.toNatClampNeg = cn := ((Fr.kpa f68 hk_cs rfl tq.toNatClampNeg).trans ((Fr.kpa f45 hk_cs rfl tq.toNatClampNeg).trans ((Fr.kpa f37 hk_cs rfl tq.toNatClampNeg).trans ((Fr.kpa f28 hk_cs rfl tq.toNatClampNeg).trans (Fr.kpa f2 hk_cs rfl tq.toNatClampNeg))))).trans k_cn
    refine tw_ialk hx hb hK hS hz_cs hk_cs (Or.inr (by decide)) hn_cs h_tq ⟨by decide, by decide⟩ (v := cn) k75 dX12_isSayingHere_102 ?_
    refine lv_iconst (v := 1) hx hb dX12_isSayingHere_103 (by decide) ?_
    refine tw_iadd (lo := 1) (hi := 12) hx hb h_cn (iv_c (c := 1) (n := 1) (by decide)) ⟨by decide, by decide⟩ ⟨by decide, by decide⟩ dX12_isSayingHere_104 (fun x78 e77 h76 => ?_)
    have e77 : x78.toInt = cn.toInt + 1 := e77
    refine tw_iasx hx hb hK hS hz_cs hk_cs (Or.inr (by decide)) hn_cs h_tq ⟨by decide, by decide⟩ (show okI 28 tq.toNatClampNeg x78 from (iv_mono h76 (lo := 0) (hi := 12) (by decide) (by decide))) (jl := 0) (jh := 1999999) ⟨by decide, by decide⟩ rfl dX12_isSayingHere_105 (fun H locs M82 hS k79 f80 e81 => ?_)
    have z83 : ∀ j, j ≠ tq.toNatClampNeg → M82 cs j = Ma cs j := fun j hj => by rw [e81, u2_nk hj]; exact (fun j hj => (Fr.kpa f68 hk_cs rfl j).trans ((fun j hj => (Fr.kpa f45 hk_cs rfl j).trans ((fun j hj => (Fr.kpa f37 hk_cs rfl j).trans ((fun j hj => (Fr.kpa f28 hk_cs rfl j).trans ((fun j hj => (Fr.kpa f2 hk_cs rfl j).trans ((fun j _ => rfl) j hj)) j hj)) j hj)) j hj)) j hj)) j hj
    refine lv_iconst (v := 1) hx hb dX12_isSayingHere_106 (by decide) ?_
    have k84 : M82 a0 13 = x55 := ((Fr.kp (k := 13) f80 hk_a0 rfl).trans (Fr.kp (k := 13) f68 hk_a0 rfl)).trans k53
    have q85 : nx.toInt ≤ x55.toInt ∧ x55.toInt ≤ tp.toInt := by
      have := (h_a1).1; have := (h_a1).2; have := (h_cn).1; have := (h_cn).2; have := (h_le).1; have := (h_le).2; have := (h_md).1; have := (h_md).2; have := (h_nx).1; have := (h_nx).2; have := (h_tp).1; have := (h_tp).2; have := (h_tq).1; have := (h_tq).2; have := (h10).1; have := (h10).2; have := (h61).1; have := (h61).2; have := (h54).1; have := (h54).2; exact ⟨by omega, by omega⟩
    have k86 : M82 lg tq.toNatClampNeg = le := ((Fr.kpa f80 hk_lg rfl tq.toNatClampNeg).trans ((Fr.kpa f68 hk_lg rfl tq.toNatClampNeg).trans ((Fr.kpa f45 hk_lg rfl tq.toNatClampNeg).trans ((Fr.kpa f37 hk_lg rfl tq.toNatClampNeg).trans ((Fr.kpa f28 hk_lg rfl tq.toNatClampNeg).trans (Fr.kpa f2 hk_lg rfl tq.toNatClampNeg)))))).trans k_le
    have q87 : le.toInt ≤ le.toInt ∧ le.toInt ≤ x55.toInt ∧ x78.toInt = cn.toInt + 1 := by
      have := (h_a1).1; have := (h_a1).2; have := (h_cn).1; have := (h_cn).2; have := (h_le).1; have := (h_le).2; have := (h_md).1; have := (h_md).2; have := (h_nx).1; have := (h_nx).2; have := (h_tp).1; have := (h_tp).2; have := (h_tq).1; have := (h_tq).2; have := (h10).1; have := (h10).2; have := (h21).1; have := (h21).2; have := (h61).1; have := (h61).2; have := (h54).1; have := (h54).2; have := (h76).1; have := (h76).2; exact ⟨by omega, by omega, by omega⟩
    have zt86 := ti_cl (x := tq) (by have := h_tq.1; omega); have zc86 := ti_cl (x := cn) (by have := h_cn.1; omega); have zd86 := ti_cl (x := x78) (by have := (h76).1; omega); have zl86 := ti_cl (x := le) (by have := h_le.1; omega); have zm86 := ti_cl (x := le) (by have := (h_le).1; omega)
    have za86 : M82 cl (36 * tq.toNatClampNeg + 3 * cn.toNatClampNeg + 1) = (-1) := ((Fr.kpa f80 hk_cl rfl _).trans z73)
    have zb86 : M82 cl (36 * tq.toNatClampNeg + 3 * cn.toNatClampNeg + 2) = le := ((Fr.kpa f80 hk_cl rfl _).trans z72)
    have z88 : CI M82 sg cl tq.toNatClampNeg x78.toNatClampNeg le.toInt := by rw [show x78.toNatClampNeg = cn.toNatClampNeg + 1 by omega]; exact CI.ext (CI.to hci (fun j hj => (Fr.kpa f80 hk_cl rfl j).trans (z71 j hj)) (fun j hj => (fun j hj => (Fr.kpa f80 hk_sg rfl j).trans ((fun j hj => (Fr.kpa f68 hk_sg rfl j).trans ((fun j hj => (Fr.kpa f45 hk_sg rfl j).trans ((fun j hj => (Fr.kpa f37 hk_sg rfl j).trans ((fun j hj => (Fr.kpa f28 hk_sg rfl j).trans ((fun j hj => (Fr.kpa f2 hk_sg rfl j).trans ((fun j _ => rfl) j hj)) j hj)) j hj)) j hj)) j hj)) j hj)) j (by omega)) (by omega)) (Or.inl (by rw [za86]; decide))
    exact tw_endz hx hb hr hlocks hK hT hS hQ rfl (⟨(iv_mono (iv_c (c := 1) (n := 1) (by decide)) (by decide) (by decide)), ⟨⟨x55, k84, h54, q85.1, q85.2⟩, (fun j hj => (Fr.kpa f80 hk_sg rfl j).trans ((fun j hj => (Fr.kpa f68 hk_sg rfl j).trans ((fun j hj => (Fr.kpa f45 hk_sg rfl j).trans ((fun j hj => (Fr.kpa f37 hk_sg rfl j).trans ((fun j hj => (Fr.kpa f28 hk_sg rfl j).trans ((fun j hj => (Fr.kpa f2 hk_sg rfl j).trans ((fun j _ => rfl) j hj)) j hj)) j hj)) j hj)) j hj)) j hj)), (fun j hj => (Fr.kpa f80 hk_cl rfl j).trans (z71 j hj)), z83, fun _ => ⟨x55, le, x78, k84, k86, k79, h_le, q87.2.2, q87.1, q87.2.1, z88⟩⟩, (fun h => absurd h (by decide))⟩) dX12_isSayingHere_107
  · have q89 : ¬ x51.toInt = 0 := ti_ne c59
    have h90 : iv 1 1 x51 := ⟨by have := (h_x51).1; have := ((iv_c (c := 0) (n := 0) (by decide))).1; have := ((iv_c (c := 0) (n := 0) (by decide))).2; omega, by have := (h_x51).2; have := ((iv_c (c := 0) (n := 0) (by decide))).1; have := ((iv_c (c := 0) (n := 0) (by decide))).2; omega⟩
    refine lv_aload_n hx hb dX12_isSayingHere_50 rfl (lv_at hl 1 rfl) ?_
    refine tw_getrk hx hb hW hown hK hS f_X12_20_11 hz_a0 hk_a0 (b := cl) k_cl dX12_isSayingHere_51 ?_
    refine lv_iload_n hx hb dX12_isSayingHere_54 rfl (lv_at hl 0 rfl) ?_
    refine lv_iconst (v := 1) hx hb dX12_isSayingHere_55 (by decide) ?_
    refine tw_iadd (lo := 1) (hi := 214) hx hb h24 (iv_c (c := 1) (n := 1) (by decide)) ⟨by decide, by decide⟩ ⟨by decide, by decide⟩ dX12_isSayingHere_56 (fun x93 e92 h91 => ?_)
    have e92 : x93.toInt = x26.toInt + 1 := e92
    refine lv_aload_n hx hb dX12_isSayingHere_57 rfl (lv_at hl 1 rfl) ?_
    refine tw_getrk hx hb hW hown hK hS f_X12_17_11 hz_a0 hk_a0 (b := lg) k_lg dX12_isSayingHere_58 ?_
    refine lv_aload_n hx hb dX12_isSayingHere_61 rfl (lv_at hl 1 rfl) ?_
    have k94 : M48 a0 16 = tq := ((Fr.kp (k := 16) f45 hk_a0 rfl).trans ((Fr.kp (k := 16) f37 hk_a0 rfl).trans ((Fr.kp (k := 16) f28 hk_a0 rfl).trans (Fr.kp (k := 16) f2 hk_a0 rfl)))).trans k_tq
    refine tw_getk hx hb hW hown hK hS f_X12_179_11 hz_a0 hk_a0 (v := tq) k94 dX12_isSayingHere_62 ?_
    have k95 : M48 lg tq.toNatClampNeg = le := ((Fr.kpa f45 hk_lg rfl tq.toNatClampNeg).trans ((Fr.kpa f37 hk_lg rfl tq.toNatClampNeg).trans ((Fr.kpa f28 hk_lg rfl tq.toNatClampNeg).trans (Fr.kpa f2 hk_lg rfl tq.toNatClampNeg)))).trans k_le
    refine tw_ialk hx hb hK hS hz_lg hk_lg (Or.inr (by decide)) hn_lg h_tq ⟨by decide, by decide⟩ (v := le) k95 dX12_isSayingHere_65 ?_
    refine tw_iasx hx hb hK hS hz_cl hk_cl (Or.inr (by decide)) hn_cl h91 ⟨by decide, by decide⟩ (iv_any _) (jl := 0) (jh := 1999999) ⟨by decide, by decide⟩ rfl dX12_isSayingHere_66 (fun H locs M99 hS k96 f97 e98 => ?_)
    have zt99 := ti_cl (x := tq) (by have := h_tq.1; omega); have zc99 := ti_cl (x := cn) (by have := h_cn.1; omega); have zi99 := ti_cl (x := x93) (by have := (h91).1; omega)
    have ze99 : x93.toNatClampNeg = 36 * tq.toNatClampNeg + 3 * cn.toNatClampNeg + 1 := by omega
    have z100 : ∀ j, j < 36 * tq.toNatClampNeg + 3 * cn.toNatClampNeg → M99 cl j = Ma cl j := fun j hj => by rw [e98, u2_nk (by omega)]; exact (fun j hj => (Fr.kpa f45 hk_cl rfl j).trans (z40 j hj)) j hj
    have z101 : M99 cl (36 * tq.toNatClampNeg + 3 * cn.toNatClampNeg + 1) = le := by rw [← ze99, e98]; exact u2_same
    refine lv_aload_n hx hb dX12_isSayingHere_67 rfl (lv_at hl 1 rfl) ?_
    have k102 : M99 a0 13 = x55 := (Fr.kp (k := 13) f97 hk_a0 rfl).trans k53
    have k103 : M99 a0 1 = tp := ((Fr.kp (k := 1) f97 hk_a0 rfl).trans ((Fr.kp (k := 1) f45 hk_a0 rfl).trans ((Fr.kp (k := 1) f37 hk_a0 rfl).trans ((Fr.kp (k := 1) f28 hk_a0 rfl).trans (Fr.kp (k := 1) f2 hk_a0 rfl))))).trans k_tp
    have q104 : x55.toInt ≤ tp.toInt := by
      have := (h_a1).1; have := (h_a1).2; have := (h_cn).1; have := (h_cn).2; have := (h_le).1; have := (h_le).2; have := (h_md).1; have := (h_md).2; have := (h_nx).1; have := (h_nx).2; have := (h_tp).1; have := (h_tp).2; have := (h_tq).1; have := (h_tq).2; have := (h10).1; have := (h10).2; have := (h90).1; have := (h90).2; have := (h54).1; have := (h54).2; omega
    have k105 : M99 a0 16 = tq := ((Fr.kp (k := 16) f97 hk_a0 rfl).trans ((Fr.kp (k := 16) f45 hk_a0 rfl).trans ((Fr.kp (k := 16) f37 hk_a0 rfl).trans ((Fr.kp (k := 16) f28 hk_a0 rfl).trans (Fr.kp (k := 16) f2 hk_a0 rfl))))).trans k_tq
    have k106 : M99 lg tq.toNatClampNeg = le := ((Fr.kpa f97 hk_lg rfl tq.toNatClampNeg).trans ((Fr.kpa f45 hk_lg rfl tq.toNatClampNeg).trans ((Fr.kpa f37 hk_lg rfl tq.toNatClampNeg).trans ((Fr.kpa f28 hk_lg rfl tq.toNatClampNeg).trans (Fr.kpa f2 hk_lg rfl tq.toNatClampNeg))))).trans k_le
    have k107 : M99 a0 17 = md := ((Fr.kp (k := 17) f97 hk_a0 rfl).trans ((Fr.kp (k := 17) f45 hk_a0 rfl).trans ((Fr.kp (k := 17) f37 hk_a0 rfl).trans ((Fr.kp (k := 17) f28 hk_a0 rfl).trans (Fr.kp (k := 17) f2 hk_a0 rfl))))).trans k_md
    have q108 : le.toInt ≤ x55.toInt := by
      have := (h_a1).1; have := (h_a1).2; have := (h_cn).1; have := (h_cn).2; have := (h_le).1; have := (h_le).2; have := (h_md).1; have := (h_md).2; have := (h_nx).1; have := (h_nx).2; have := (h_tp).1; have := (h_tp).2; have := (h_tq).1; have := (h_tq).2; have := (h10).1; have := (h10).2; have := (h90).1; have := (h90).2; have := (h54).1; have := (h54).2; omega
    refine tw_goi hS (md_runV (As := []) (rest := []) hx hb hml hown hW hK hT hS.1 (t_X12_tested l D cy tx base Z K N M99 Ra J47 hS.2.1 a0 hz_a0 hk_a0 tb k_tb x55 k102 (iv_mono h54 (by decide) (by decide)) tp k103 (iv_mono h_tp (by decide) (by decide)) q104 lg k_lg sg k_sg tq k105 (iv_mono h_tq (by decide) (by decide)) le k106 (iv_mono h_le (by decide) (by decide)) md k107 (iv_mono h_md (by decide) (by decide)) op k_op q108) s_X12_248 ⟨rfl, rfl, ⟨Nat.le_of_ble_eq_true rfl, Nat.le_of_ble_eq_true rfl⟩, ⟨Nat.le_of_ble_eq_true rfl, Nat.le_of_ble_eq_true rfl⟩⟩ hz_a0 hk_a0 (by decide) rfl rfl hl.1 rfl (Nat.le_of_ble_eq_true rfl) dX12_isSayingHere_68) rfl rfl (fun x115 H locs M112 R113 J111 hS f109 g110 E114 => ?_)
    have eR113 := Fr.nil g110 rfl
    subst eR113
    obtain ⟨h_x115, p116, p117⟩ := E114
    obtain ⟨⟨x119, k120, h118, zu117, zv117⟩, zf117, zc117⟩ := p116
    have k120 : M112 a0 13 = x119 := k120
    have zw117 := ti_cl (x := le) (by have := h_le.1; omega); have zy117 := ti_cl (x := le) (by have := (h_le).1; omega)
    have z121 : ∀ j, j < 400 * tq.toNatClampNeg + le.toNatClampNeg → M112 sg j = Ma sg j := fun j hj => (zf117 j (by omega)).trans ((fun j hj => (Fr.kpa f97 hk_sg rfl j).trans ((fun j hj => (Fr.kpa f45 hk_sg rfl j).trans ((fun j hj => (Fr.kpa f37 hk_sg rfl j).trans ((fun j hj => (Fr.kpa f28 hk_sg rfl j).trans ((fun j hj => (Fr.kpa f2 hk_sg rfl j).trans ((fun j _ => rfl) j hj)) j hj)) j hj)) j hj)) j hj)) j hj)
    have z122 : x115 = 0 → ¬ (M112 a0 14).toInt = 0 := p117
    refine lv_if_ne (tgt := 76) hx hb dX12_isSayingHere_71 (by decide) (fun c123 => ?_) (fun c123 => ?_)
    · have q124 : ¬ x115.toInt = 0 := ti_ne c123
      have h125 : iv 1 1 x115 := ⟨by have := (h_x115).1; have := ((iv_c (c := 0) (n := 0) (by decide))).1; have := ((iv_c (c := 0) (n := 0) (by decide))).2; omega, by have := (h_x115).2; have := ((iv_c (c := 0) (n := 0) (by decide))).1; have := ((iv_c (c := 0) (n := 0) (by decide))).2; omega⟩
      obtain ⟨x126, x128, k129, k130, h127, za125, zb125, zg125⟩ := zc117 c123
      have ze125 : x126 = x119 := k129.symm.trans k120
      rw [ze125] at zb125
      have k130 : M112 lg tq.toNatClampNeg = x128 := k130
      refine lv_aload_n hx hb dX12_isSayingHere_76 rfl (lv_at hl 1 rfl) ?_
      refine tw_getrk hx hb hW hown hK hS f_X12_20_11 hz_a0 hk_a0 (b := cl) k_cl dX12_isSayingHere_77 ?_
      refine lv_iload_n hx hb dX12_isSayingHere_80 rfl (lv_at hl 0 rfl) ?_
      refine lv_iconst (v := 2) hx hb dX12_isSayingHere_81 (by decide) ?_
      refine tw_iadd (lo := 2) (hi := 215) hx hb h24 (iv_c (c := 2) (n := 2) (by decide)) ⟨by decide, by decide⟩ ⟨by decide, by decide⟩ dX12_isSayingHere_82 (fun x133 e132 h131 => ?_)
      have e132 : x133.toInt = x26.toInt + 2 := e132
      refine lv_aload_n hx hb dX12_isSayingHere_83 rfl (lv_at hl 1 rfl) ?_
      refine tw_getrk hx hb hW hown hK hS f_X12_17_11 hz_a0 hk_a0 (b := lg) k_lg dX12_isSayingHere_84 ?_
      refine lv_aload_n hx hb dX12_isSayingHere_87 rfl (lv_at hl 1 rfl) ?_
      have k134 : M112 a0 16 = tq := ((Fr.kp (k := 16) f109 hk_a0 rfl).trans ((Fr.kp (k := 16) f97 hk_a0 rfl).trans ((Fr.kp (k := 16) f45 hk_a0 rfl).trans ((Fr.kp (k := 16) f37 hk_a0 rfl).trans ((Fr.kp (k := 16) f28 hk_a0 rfl).trans (Fr.kp (k := 16) f2 hk_a0 rfl)))))).trans k_tq
      refine tw_getk hx hb hW hown hK hS f_X12_179_11 hz_a0 hk_a0 (v := tq) k134 dX12_isSayingHere_88 ?_
      refine tw_ialk hx hb hK hS hz_lg hk_lg (Or.inr (by decide)) hn_lg h_tq ⟨by decide, by decide⟩ (v := x128) k130 dX12_isSayingHere_91 ?_
      refine tw_iasx hx hb hK hS hz_cl hk_cl (Or.inr (by decide)) hn_cl h131 ⟨by decide, by decide⟩ (iv_any _) (jl := 0) (jh := 1999999) ⟨by decide, by decide⟩ rfl dX12_isSayingHere_92 (fun H locs M138 hS k135 f136 e137 => ?_)
      have zt138 := ti_cl (x := tq) (by have := h_tq.1; omega); have zc138 := ti_cl (x := cn) (by have := h_cn.1; omega); have zi138 := ti_cl (x := x133) (by have := (h131).1; omega)
      have ze138 : x133.toNatClampNeg = 36 * tq.toNatClampNeg + 3 * cn.toNatClampNeg + 2 := by omega
      have z139 : ∀ j, j < 36 * tq.toNatClampNeg + 3 * cn.toNatClampNeg → M138 cl j = Ma cl j := fun j hj => by rw [e137, u2_nk (by omega)]; exact (fun j hj => (Fr.kpa f109 hk_cl rfl j).trans (z100 j hj)) j hj
      have z140 : M138 cl (36 * tq.toNatClampNeg + 3 * cn.toNatClampNeg + 2) = x128 := by rw [← ze138, e137]; exact u2_same
      have z141 : M138 cl (36 * tq.toNatClampNeg + 3 * cn.toNatClampNeg + 1) = le := by rw [e137, u2_nk (by omega)]; exact ((Fr.kpa f109 hk_cl rfl _).trans z101)
      refine lv_aload_n hx hb dX12_isSayingHere_93 rfl (lv_at hl 1 rfl) ?_
      refine tw_getrk hx hb hW hown hK hS f_X12_23_11 hz_a0 hk_a0 (b := cs) k_cs dX12_isSayingHere_94 ?_
      refine lv_aload_n hx hb dX12_isSayingHere_97 rfl (lv_at hl 1 rfl) ?_
      have k142 : M138 a0 16 = tq := ((Fr.kp (k := 16) f136 hk_a0 rfl).trans ((Fr.kp (k := 16) f109 hk_a0 rfl).trans ((Fr.kp (k := 16) f97 hk_a0 rfl).trans ((Fr.kp (k := 16) f45 hk_a0 rfl).trans ((Fr.kp (k := 16) f37 hk_a0 rfl).trans ((Fr.kp (k := 16) f28 hk_a0 rfl).trans (Fr.kp (k := 16) f2 hk_a0 rfl))))))).trans k_tq
      refine tw_getk hx hb hW hown hK hS f_X12_179_11 hz_a0 hk_a0 (v := tq) k142 dX12_isSayingHere_98 ?_
      refine lv_dup2_11 hx hb dX12_isSayingHere_101 rfl rfl ?_
      have k143 : M138 cs tq.toNatClampNeg = cn := ((Fr.kpa f136 hk_cs rfl tq.toNatClampNeg).trans ((Fr.kpa f109 hk_cs rfl tq.toNatClampNeg).trans ((Fr.kpa f97 hk_cs rfl tq.toNatClampNeg).trans ((Fr.kpa f45 hk_cs rfl tq.toNatClampNeg).trans ((Fr.kpa f37 hk_cs rfl tq.toNatClampNeg).trans ((Fr.kpa f28 hk_cs rfl tq.toNatClampNeg).trans (Fr.kpa f2 hk_cs rfl tq.toNatClampNeg))))))).trans k_cn
      refine tw_ialk hx hb hK hS hz_cs hk_cs (Or.inr (by decide)) hn_cs h_tq ⟨by decide, by decide⟩ (v := cn) k143 dX12_isSayingHere_102 ?_
      refine lv_iconst (v := 1) hx hb dX12_isSayingHere_103 (by decide) ?_
      refine tw_iadd (lo := 1) (hi := 12) hx hb h_cn (iv_c (c := 1) (n := 1) (by decide)) ⟨by decide, by decide⟩ ⟨by decide, by decide⟩ dX12_isSayingHere_104 (fun x146 e145 h144 => ?_)
      have e145 : x146.toInt = cn.toInt + 1 := e145
      refine tw_iasx hx hb hK hS hz_cs hk_cs (Or.inr (by decide)) hn_cs h_tq ⟨by decide, by decide⟩ (show okI 28 tq.toNatClampNeg x146 from (iv_mono h144 (lo := 0) (hi := 12) (by decide) (by decide))) (jl := 0) (jh := 1999999) ⟨by decide, by decide⟩ rfl dX12_isSayingHere_105 (fun H locs M150 hS k147 f148 e149 => ?_)
      have z151 : ∀ j, j ≠ tq.toNatClampNeg → M150 cs j = Ma cs j := fun j hj => by rw [e149, u2_nk hj]; exact (fun j hj => (Fr.kpa f136 hk_cs rfl j).trans ((fun j hj => (Fr.kpa f109 hk_cs rfl j).trans ((fun j hj => (Fr.kpa f97 hk_cs rfl j).trans ((fun j hj => (Fr.kpa f45 hk_cs rfl j).trans ((fun j hj => (Fr.kpa f37 hk_cs rfl j).trans ((fun j hj => (Fr.kpa f28 hk_cs rfl j).trans ((fun j hj => (Fr.kpa f2 hk_cs rfl j).trans ((fun j _ => rfl) j hj)) j hj)) j hj)) j hj)) j hj)) j hj)) j hj)) j hj
      refine lv_iconst (v := 1) hx hb dX12_isSayingHere_106 (by decide) ?_
      have k152 : M150 a0 13 = x119 := ((Fr.kp (k := 13) f148 hk_a0 rfl).trans (Fr.kp (k := 13) f136 hk_a0 rfl)).trans k120
      have q153 : nx.toInt ≤ x119.toInt ∧ x119.toInt ≤ tp.toInt := by
        have := (h_a1).1; have := (h_a1).2; have := (h_cn).1; have := (h_cn).2; have := (h_le).1; have := (h_le).2; have := (h_md).1; have := (h_md).2; have := (h_nx).1; have := (h_nx).2; have := (h_tp).1; have := (h_tp).2; have := (h_tq).1; have := (h_tq).2; have := (h10).1; have := (h10).2; have := (h118).1; have := (h118).2; have := (h127).1; have := (h127).2; have := (h90).1; have := (h90).2; have := (h54).1; have := (h54).2; exact ⟨by omega, by omega⟩
      have k154 : M150 lg tq.toNatClampNeg = x128 := ((Fr.kpa f148 hk_lg rfl tq.toNatClampNeg).trans (Fr.kpa f136 hk_lg rfl tq.toNatClampNeg)).trans k130
      have q155 : le.toInt ≤ x128.toInt ∧ x128.toInt ≤ x119.toInt ∧ x146.toInt = cn.toInt + 1 := by
        have := (h_a1).1; have := (h_a1).2; have := (h_cn).1; have := (h_cn).2; have := (h_le).1; have := (h_le).2; have := (h_md).1; have := (h_md).2; have := (h_nx).1; have := (h_nx).2; have := (h_tp).1; have := (h_tp).2; have := (h_tq).1; have := (h_tq).2; have := (h10).1; have := (h10).2; have := (h118).1; have := (h118).2; have := (h127).1; have := (h127).2; have := (h144).1; have := (h144).2; have := (h21).1; have := (h21).2; have := (h90).1; have := (h90).2; have := (h54).1; have := (h54).2; exact ⟨by omega, by omega, by omega⟩
      have zt154 := ti_cl (x := tq) (by have := h_tq.1; omega); have zc154 := ti_cl (x := cn) (by have := h_cn.1; omega); have zd154 := ti_cl (x := x146) (by have := (h144).1; omega); have zl154 := ti_cl (x := le) (by have := h_le.1; omega); have zm154 := ti_cl (x := x128) (by have := (h127).1; omega)
      have za154 : M150 cl (36 * tq.toNatClampNeg + 3 * cn.toNatClampNeg + 1) = le := ((Fr.kpa f148 hk_cl rfl _).trans z141)
      have zb154 : M150 cl (36 * tq.toNatClampNeg + 3 * cn.toNatClampNeg + 2) = x128 := ((Fr.kpa f148 hk_cl rfl _).trans z140)
      have z156 : CI M150 sg cl tq.toNatClampNeg x146.toNatClampNeg x128.toInt := by rw [show x146.toNatClampNeg = cn.toNatClampNeg + 1 by omega]; exact CI.ext (CI.to hci (fun j hj => (Fr.kpa f148 hk_cl rfl j).trans (z139 j hj)) (fun j hj => (fun j hj => (Fr.kpa f148 hk_sg rfl j).trans ((fun j hj => (Fr.kpa f136 hk_sg rfl j).trans (z121 j hj)) j hj)) j (by omega)) (by omega)) (Or.inr (by rw [za154, zb154]; exact ⟨by omega, by omega, (SEG.to (SEG.to zg125 (fun j _ _ => Fr.kpa f136 hk_sg rfl j)) (fun j _ _ => Fr.kpa f148 hk_sg rfl j))⟩))
      exact tw_endz hx hb hr hlocks hK hT hS hQ rfl (⟨(iv_mono (iv_c (c := 1) (n := 1) (by decide)) (by decide) (by decide)), ⟨⟨x119, k152, h118, q153.1, q153.2⟩, (fun j hj => (Fr.kpa f148 hk_sg rfl j).trans ((fun j hj => (Fr.kpa f136 hk_sg rfl j).trans (z121 j hj)) j hj)), (fun j hj => (Fr.kpa f148 hk_cl rfl j).trans (z139 j hj)), z151, fun _ => ⟨x119, x128, x146, k152, k154, k147, h127, q155.2.2, q155.1, q155.2.1, z156⟩⟩, (fun h => absurd h (by decide))⟩) dX12_isSayingHere_107
    · have q157 : x115.toInt = 0 := ti_eq c123
      have z158 := z122 c123
      have h159 : iv 0 0 x115 := ⟨by have := (h_x115).1; have := ((iv_c (c := 0) (n := 0) (by decide))).1; omega, by have := (h_x115).2; have := ((iv_c (c := 0) (n := 0) (by decide))).2; omega⟩
      refine lv_iconst (v := 0) hx hb dX12_isSayingHere_74 (by decide) ?_
      have q160 : nx.toInt ≤ x119.toInt ∧ x119.toInt ≤ tp.toInt := by
        have := (h_a1).1; have := (h_a1).2; have := (h_cn).1; have := (h_cn).2; have := (h_le).1; have := (h_le).2; have := (h_md).1; have := (h_md).2; have := (h_nx).1; have := (h_nx).2; have := (h_tp).1; have := (h_tp).2; have := (h_tq).1; have := (h_tq).2; have := (h10).1; have := (h10).2; have := (h118).1; have := (h118).2; have := (h90).1; have := (h90).2; have := (h54).1; have := (h54).2; exact ⟨by omega, by omega⟩
      exact tw_endz hx hb hr hlocks hK hT hS hQ rfl (⟨(iv_mono (iv_c (c := 0) (n := 0) (by decide)) (by decide) (by decide)), ⟨⟨x119, k120, h118, q160.1, q160.2⟩, z121, (fun j hj => (Fr.kpa f109 hk_cl rfl j).trans (z100 j hj)), (fun j hj => (Fr.kpa f109 hk_cs rfl j).trans ((fun j hj => (Fr.kpa f97 hk_cs rfl j).trans ((fun j hj => (Fr.kpa f45 hk_cs rfl j).trans ((fun j hj => (Fr.kpa f37 hk_cs rfl j).trans ((fun j hj => (Fr.kpa f28 hk_cs rfl j).trans ((fun j hj => (Fr.kpa f2 hk_cs rfl j).trans ((fun j _ => rfl) j hj)) j hj)) j hj)) j hj)) j hj)) j hj)), (fun h => absurd rfl h)⟩, (fun _ => (show ¬ (M112 a0 14).toInt = 0 from z158))⟩) dX12_isSayingHere_75
