def Lt_X12_fact : WL := [(12, 13, 16), (12, 17, 19), (12, 21, 22), (14, 0, 2000000), (25, 0, 2000000), (26, 0, 2000000)]
def LRt_X12_fact : WL := []
set_option maxRecDepth 100000 in
set_option maxHeartbeats 4000000 in
theorem t_X12_fact (l : Launch) (D : va_G) (cy : Nat → ClassId) (tx : (Nat → Nat) × (Nat → Nat)) (base Z : Nat) (K N : Nat → Nat) (Ma : MT) (Ra : RT) (Ja : JT) (hTy : Ty Z K N Ma Ra) (a0 : Nat) (hz_a0 : a0 < Z) (hk_a0 : K a0 = 12) (tb : Nat) (k_tb : Ra a0 0 = some tb) (nx : Int32) (k_nx : Ma a0 13 = nx) (h_nx : iv 0 400 nx) (tp : Int32) (k_tp : Ma a0 1 = tp) (h_tp : iv 0 400 tp) (hnt : nx.toInt ≤ tp.toInt) (lg : Nat) (k_lg : Ra a0 4 = some lg) (sg : Nat) (k_sg : Ra a0 3 = some sg) (tq : Int32) (k_tq : Ma a0 16 = tq) (h_tq : iv 0 5 tq) (le : Int32) (k_le : Ma lg tq.toNatClampNeg = le) (h_le : iv 0 400 le) (md : Int32) (k_md : Ma a0 17 = md) (h_md : iv 0 60 md) (op : Nat) (k_op : Ra a0 20 = some op) (on : Int32) (k_on : Ma a0 21 = on) (h_on : iv 0 400 on) (sb : Nat) (sh : Nat) (hseg : SEG Ma sg tq.toNatClampNeg sb le.toNatClampNeg sh) (hsb : (sb : Int) ≤ le.toInt) (hsh : (sh : Int) ≤ md.toInt) (hbud : le.toInt + on.toInt ≤ nx.toInt) (hopk : opK Ma op on.toNatClampNeg) (hnb : nbo Ma op on.toNatClampNeg = sh) : Met l yX12_fact [Cond.code yX12_fact cX12_fact 3 (some .boolean)] (md_rm 8 0 0) (va_Pc [.ref (base + a0)] (md_U D cy tx base Z K N Ma Ra Ja)) (mQi D cy tx base (fun r u => TP Z K N Lt_X12_fact LRt_X12_fact Ma Ra u ∧ (iv 0 1 r ∧ ((∃ x0 : Int32, u.2.2.2.1 a0 13 = x0 ∧ iv 0 400 x0 ∧ nx.toInt ≤ x0.toInt ∧ x0.toInt ≤ tp.toInt) ∧ (∀ j, j < 400 * tq.toNatClampNeg + le.toNatClampNeg → u.2.2.2.1 sg j = Ma sg j) ∧ (¬ r = 0 → ∃ x0 x1 x2 x3 : Int32, u.2.2.2.1 a0 13 = x0 ∧ u.2.2.2.1 a0 21 = x1 ∧ u.2.2.2.1 lg tq.toNatClampNeg = x2 ∧ u.2.2.2.1 a0 17 = x3 ∧ iv 0 400 x0 ∧ iv 0 400 x1 ∧ iv 0 400 x2 ∧ (nx.toInt ≤ x0.toInt ∧ x0.toInt ≤ tp.toInt ∧ x2.toInt + x1.toInt ≤ x0.toInt ∧ le.toInt ≤ x2.toInt ∧ ((sh + 1 : Nat) : Int) ≤ x3.toInt) ∧ SEG u.2.2.2.1 sg tq.toNatClampNeg sb x2.toNatClampNeg (sh + 1) ∧ nbo u.2.2.2.1 op x1.toNatClampNeg = sh ∧ opK u.2.2.2.1 op x1.toNatClampNeg)) ∧ (r = 0 → ¬ (u.2.2.2.1 a0 14).toInt = 0)))) 0 0 (fun q => base ≤ q) := by
  refine tw_ofW (L := Lt_X12_fact) (LR := LRt_X12_fact) (by decide) (Nat.le_of_ble_eq_true rfl) hTy ?_
  intro p e s m args below meth c Q ls hx hb hr hlocks hown hml hW hK hT hS hQ hl
  have hl : lv_has ls 3 [(0, .ref (base + a0))] := hl
  obtain ⟨hz_tb, hk_tb, hn_tb⟩ := hTy.refn hz_a0 hk_a0 (show rtR 12 0 = (13, 400, 0) from rfl) k_tb
  have hn_tb := hn_tb (by decide)
  obtain ⟨hz_lg, hk_lg, hn_lg⟩ := hTy.refn hz_a0 hk_a0 (show rtR 12 4 = (26, 7, 0) from rfl) k_lg
  have hn_lg := hn_lg (by decide)
  obtain ⟨hz_sg, hk_sg, hn_sg⟩ := hTy.refn hz_a0 hk_a0 (show rtR 12 3 = (25, 2400, 0) from rfl) k_sg
  have hn_sg := hn_sg (by decide)
  obtain ⟨hz_op, hk_op, hn_op⟩ := hTy.refn hz_a0 hk_a0 (show rtR 12 20 = (14, 400, 0) from rfl) k_op
  have hn_op := hn_op (by decide)
  refine lv_iconst (v := 1) hx hb dX12_fact_0 (by decide) ?_
  refine lv_istore_n (lv' := [(1, .int 1), (0, .ref (base + a0))]) hx hb dX12_fact_1 rfl hl (by decide) rfl (fun ls hl => ?_)
  have W2_2 : ∀ (n_2 : Nat) (x1 : Int32) (x7 : Int32) (x9 : Int32) (x11 : Int32) (x13 : Int32) (M2 : MT) (R3 : RT) (J4 : JT) (H : Heap) (locs : List Loc) (ls : Array Slot) (h_x1 : iv 0 1 x1) (h_x7 : iv 0 400 x7) (k8 : M2 a0 13 = x7) (h_x9 : iv 0 400 x9) (k10 : M2 a0 21 = x9) (h_x11 : iv 0 400 x11) (k12 : M2 lg tq.toNatClampNeg = x11) (h_x13 : iv 0 60 x13) (k14 : M2 a0 17 = x13) (w0_2 : nx.toInt ≤ x7.toInt ∧ x7.toInt ≤ tp.toInt ∧ x11.toInt + x9.toInt ≤ x7.toInt ∧ x11.toInt = le.toInt ∧ x13.toInt = md.toInt) (w1_2 : SEG M2 sg tq.toNatClampNeg sb x11.toNatClampNeg sh) (w2_2 : ∀ j, j < 400 * tq.toNatClampNeg + le.toNatClampNeg → M2 sg j = Ma sg j) (w3_2 : nbo M2 op x9.toNatClampNeg = sh) (w4_2 : opK M2 op x9.toNatClampNeg) (hm_2 : 2 * (400 - x7.toInt) + x1.toInt < (n_2 : Int)) (hS : SB D cy base Z K N Lt_X12_fact LRt_X12_fact Ma Ra M2 R3 J4 s H locs) (hl : lv_has ls 3 [(1, .int x1), (0, .ref (base + a0))]), W p l e (md_rm 8 0 0) s m args below meth c H locs 0 0 Q (F0 m 2 ls []) := by
    intro n_2
    induction n_2 with
    | zero =>
      intro x1 x7 x9 x11 x13 M2 R3 J4 H locs ls h_x1 h_x7 k8 h_x9 k10 h_x11 k12 h_x13 k14 w0_2 w1_2 w2_2 w3_2 w4_2 hm_2 hS hl
      exfalso
      have := (h_le).1; have := (h_le).2; have := (h_md).1; have := (h_md).2; have := (h_nx).1; have := (h_nx).2; have := (h_on).1; have := (h_on).2; have := (h_tp).1; have := (h_tp).2; have := (h_tq).1; have := (h_tq).2; have := (h_x1).1; have := (h_x1).2; have := (h_x11).1; have := (h_x11).2; have := (h_x13).1; have := (h_x13).2; have := (h_x7).1; have := (h_x7).2; have := (h_x9).1; have := (h_x9).2; omega
    | succ n_2 ih_2 =>
      intro x1 x7 x9 x11 x13 M2 R3 J4 H locs ls h_x1 h_x7 k8 h_x9 k10 h_x11 k12 h_x13 k14 w0_2 w1_2 w2_2 w3_2 w4_2 hm_2 hS hl
      have f5 := hS.2.2.1
      have g6 := hS.2.2.2
      refine lv_iload_n hx hb dX12_fact_2 rfl (lv_at hl 0 rfl) ?_
      refine lv_if_eq (tgt := 75) hx hb dX12_fact_3 (by decide) (fun c15 => ?_) (fun c15 => ?_)
      · have q16 : x1.toInt = 0 := ti_eq c15
        have h17 : iv 0 0 x1 := ⟨by have := (h_x1).1; have := ((iv_c (c := 0) (n := 0) (by decide))).1; omega, by have := (h_x1).2; have := ((iv_c (c := 0) (n := 0) (by decide))).2; omega⟩
        refine lv_aload_n hx hb dX12_fact_75 rfl (lv_at hl 1 rfl) ?_
        have k18 : R3 a0 0 = some tb := (Fr.kp (k := 0) g6 hk_a0 rfl).trans k_tb
        have k19 : M2 a0 1 = tp := (Fr.kp (k := 1) f5 hk_a0 rfl).trans k_tp
        have q20 : x7.toInt ≤ tp.toInt := by
          have := (h_le).1; have := (h_le).2; have := (h_md).1; have := (h_md).2; have := (h_nx).1; have := (h_nx).2; have := (h_on).1; have := (h_on).2; have := (h_tp).1; have := (h_tp).2; have := (h_tq).1; have := (h_tq).2; have := (h17).1; have := (h17).2; have := (h_x11).1; have := (h_x11).2; have := (h_x13).1; have := (h_x13).2; have := (h_x7).1; have := (h_x7).2; have := (h_x9).1; have := (h_x9).2; omega
        have k21 : R3 a0 4 = some lg := (Fr.kp (k := 4) g6 hk_a0 rfl).trans k_lg
        have k22 : R3 a0 3 = some sg := (Fr.kp (k := 3) g6 hk_a0 rfl).trans k_sg
        have k23 : M2 a0 16 = tq := (Fr.kp (k := 16) f5 hk_a0 rfl).trans k_tq
        have q24 : ((sb : Nat) : Int) ≤ x11.toInt := by
          have := (h_le).1; have := (h_le).2; have := (h_md).1; have := (h_md).2; have := (h_nx).1; have := (h_nx).2; have := (h_on).1; have := (h_on).2; have := (h_tp).1; have := (h_tp).2; have := (h_tq).1; have := (h_tq).2; have := (h17).1; have := (h17).2; have := (h_x11).1; have := (h_x11).2; have := (h_x13).1; have := (h_x13).2; have := (h_x7).1; have := (h_x7).2; have := (h_x9).1; have := (h_x9).2; omega
        have q25 : ((sh : Nat) : Int) ≤ x13.toInt := by
          have := (h_le).1; have := (h_le).2; have := (h_md).1; have := (h_md).2; have := (h_nx).1; have := (h_nx).2; have := (h_on).1; have := (h_on).2; have := (h_tp).1; have := (h_tp).2; have := (h_tq).1; have := (h_tq).2; have := (h17).1; have := (h17).2; have := (h_x11).1; have := (h_x11).2; have := (h_x13).1; have := (h_x13).2; have := (h_x7).1; have := (h_x7).2; have := (h_x9).1; have := (h_x9).2; omega
        have q26 : x11.toInt ≤ x7.toInt := by
          have := (h_le).1; have := (h_le).2; have := (h_md).1; have := (h_md).2; have := (h_nx).1; have := (h_nx).2; have := (h_on).1; have := (h_on).2; have := (h_tp).1; have := (h_tp).2; have := (h_tq).1; have := (h_tq).2; have := (h17).1; have := (h17).2; have := (h_x11).1; have := (h_x11).2; have := (h_x13).1; have := (h_x13).2; have := (h_x7).1; have := (h_x7).2; have := (h_x9).1; have := (h_x9).2; omega
        refine tw_goi hS (md_runV (As := []) (rest := []) hx hb hml hown hW hK hT hS.1 (t_X12_compare l D cy tx base Z K N M2 R3 J4 hS.2.1 a0 hz_a0 hk_a0 tb k18 x7 k8 (iv_mono h_x7 (by decide) (by decide)) tp k19 (iv_mono h_tp (by decide) (by decide)) q20 lg k21 sg k22 tq k23 (iv_mono h_tq (by decide) (by decide)) x11 k12 (iv_mono h_x11 (by decide) (by decide)) x13 k14 (iv_mono h_x13 (by decide) (by decide)) (sb) (sh) w1_2 q24 q25 q26) s_X12_224 ⟨rfl, rfl, ⟨Nat.le_of_ble_eq_true rfl, Nat.le_of_ble_eq_true rfl⟩, ⟨Nat.le_of_ble_eq_true rfl, Nat.le_of_ble_eq_true rfl⟩⟩ hz_a0 hk_a0 (by decide) rfl rfl hl.1 rfl (Nat.le_of_ble_eq_true rfl) dX12_fact_76) rfl rfl (fun x33 H locs M30 R31 J29 hS f27 g28 E32 => ?_)
        have eR31 := Fr.nil g28 rfl
        subst eR31
        obtain ⟨h_x33, p34, p35⟩ := E32
        obtain ⟨zf35, ⟨x37, k38, h36, zu35, zv35⟩, zc35⟩ := p34
        have k38 : M30 a0 13 = x37 := k38
        have zw35 := ti_cl (x := le) (by have := h_le.1; omega); have zy35 := ti_cl (x := x11) (by have := (h_x11).1; omega)
        have z39 : ∀ j, j < 400 * tq.toNatClampNeg + le.toNatClampNeg → M30 sg j = Ma sg j := fun j hj => (zf35 j (by omega)).trans (w2_2 j hj)
        have z40 : x33 = 0 → ¬ (M30 a0 14).toInt = 0 := p35
        by_cases c41 : x33 = 0
        · have z42 := z40 c41
          subst c41
          have q43 : nx.toInt ≤ x37.toInt ∧ x37.toInt ≤ tp.toInt := by
            have := (h_le).1; have := (h_le).2; have := (h_md).1; have := (h_md).2; have := (h_nx).1; have := (h_nx).2; have := (h_on).1; have := (h_on).2; have := (h_tp).1; have := (h_tp).2; have := (h_tq).1; have := (h_tq).2; have := (h17).1; have := (h17).2; have := (h_x11).1; have := (h_x11).2; have := (h_x13).1; have := (h_x13).2; have := (h36).1; have := (h36).2; have := (h_x7).1; have := (h_x7).2; have := (h_x9).1; have := (h_x9).2; exact ⟨by omega, by omega⟩
          exact tw_endz hx hb hr hlocks hK hT hS hQ rfl (⟨(iv_mono (iv_c (c := 0) (n := 0) (by decide)) (by decide) (by decide)), ⟨⟨x37, k38, h36, q43.1, q43.2⟩, z39, (fun h => absurd rfl h)⟩, (fun _ => (show ¬ (M30 a0 14).toInt = 0 from z42))⟩) dX12_fact_79
        · have zz43 := c41
          obtain ⟨x50, x46, x47, k51, k48, k49, h44, za43, zb43, zd43, z52⟩ := zc35 c41
          have ze43 : x50 = x37 := k51.symm.trans k38
          rw [ze43] at zb43
          have k48 : M30 lg tq.toNatClampNeg = x46 := k48
          have k49 : M30 a0 17 = x47 := k49
          have h45 : iv 0 60 x47 := by rw [← k49]; exact hS.2.1.int hz_a0 hk_a0 (show rgI 12 17 = (0, 60) from rfl)
          have q53 : nx.toInt ≤ x37.toInt ∧ x37.toInt ≤ tp.toInt := by
            have := (h_le).1; have := (h_le).2; have := (h_md).1; have := (h_md).2; have := (h_nx).1; have := (h_nx).2; have := (h_on).1; have := (h_on).2; have := (h_tp).1; have := (h_tp).2; have := (h_tq).1; have := (h_tq).2; have := (h17).1; have := (h17).2; have := (h_x11).1; have := (h_x11).2; have := (h_x13).1; have := (h_x13).2; have := (h36).1; have := (h36).2; have := (h44).1; have := (h44).2; have := (h_x7).1; have := (h_x7).2; have := (h_x9).1; have := (h_x9).2; exact ⟨by omega, by omega⟩
          have k54 : M30 a0 21 = x9 := (Fr.kp (k := 21) f27 hk_a0 rfl).trans k10
          have q55 : nx.toInt ≤ x37.toInt ∧ x37.toInt ≤ tp.toInt ∧ x46.toInt + x9.toInt ≤ x37.toInt ∧ le.toInt ≤ x46.toInt ∧ ((sh + 1 : Nat) : Int) ≤ x47.toInt := by
            have := (h_le).1; have := (h_le).2; have := (h_md).1; have := (h_md).2; have := (h_nx).1; have := (h_nx).2; have := (h_on).1; have := (h_on).2; have := (h_tp).1; have := (h_tp).2; have := (h_tq).1; have := (h_tq).2; have := (h17).1; have := (h17).2; have := (h_x11).1; have := (h_x11).2; have := (h_x13).1; have := (h_x13).2; have := (h36).1; have := (h36).2; have := (h44).1; have := (h44).2; have := (h45).1; have := (h45).2; have := (h_x7).1; have := (h_x7).2; have := (h_x9).1; have := (h_x9).2; exact ⟨by omega, by omega, by omega, by omega, by omega⟩
          exact tw_endz hx hb hr hlocks hK hT hS hQ (nar_b h_x33) (⟨h_x33, ⟨⟨x37, k38, h36, q53.1, q53.2⟩, z39, fun _ => ⟨x37, x9, x46, x47, k38, k54, k48, k49, h36, h_x9, h44, q55, z52, ((nbo_to _ (fun j _ => Fr.kpa f27 hk_op rfl j)).trans w3_2), (opK.to w4_2 (fun j _ => Fr.kpa f27 hk_op rfl j))⟩⟩, z40⟩) dX12_fact_79
      · have q56 : ¬ x1.toInt = 0 := ti_ne c15
        have h57 : iv 1 1 x1 := ⟨by have := (h_x1).1; have := ((iv_c (c := 0) (n := 0) (by decide))).1; have := ((iv_c (c := 0) (n := 0) (by decide))).2; omega, by have := (h_x1).2; have := ((iv_c (c := 0) (n := 0) (by decide))).1; have := ((iv_c (c := 0) (n := 0) (by decide))).2; omega⟩
        refine lv_iconst (v := 0) hx hb dX12_fact_6 (by decide) ?_
        refine lv_istore_n (lv' := [(1, .int 0), (0, .ref (base + a0))]) hx hb dX12_fact_7 rfl hl (by decide) rfl (fun ls hl => ?_)
        refine lv_aload_n hx hb dX12_fact_8 rfl (lv_at hl 1 rfl) ?_
        have k58 : R3 a0 0 = some tb := (Fr.kp (k := 0) g6 hk_a0 rfl).trans k_tb
        have k59 : M2 a0 1 = tp := (Fr.kp (k := 1) f5 hk_a0 rfl).trans k_tp
        have q60 : x7.toInt ≤ tp.toInt := by
          have := (h_le).1; have := (h_le).2; have := (h_md).1; have := (h_md).2; have := (h_nx).1; have := (h_nx).2; have := (h_on).1; have := (h_on).2; have := (h_tp).1; have := (h_tp).2; have := (h_tq).1; have := (h_tq).2; have := (h57).1; have := (h57).2; have := (h_x11).1; have := (h_x11).2; have := (h_x13).1; have := (h_x13).2; have := (h_x7).1; have := (h_x7).2; have := (h_x9).1; have := (h_x9).2; omega
        refine tw_goi hS (md_runV (As := []) (rest := []) hx hb hml hown hW hK hT hS.1 (t_X12_see l D cy tx base Z K N M2 R3 J4 hS.2.1 a0 hz_a0 hk_a0 tb k58 x7 k8 (iv_mono h_x7 (by decide) (by decide)) tp k59 (iv_mono h_tp (by decide) (by decide)) q60) s_X12_130 ⟨rfl, rfl, ⟨Nat.le_of_ble_eq_true rfl, Nat.le_of_ble_eq_true rfl⟩, ⟨Nat.le_of_ble_eq_true rfl, Nat.le_of_ble_eq_true rfl⟩⟩ hz_a0 hk_a0 (by decide) rfl rfl hl.1 rfl (Nat.le_of_ble_eq_true rfl) dX12_fact_9) rfl rfl (fun x67 H locs M64 R65 J63 hS f61 g62 E66 => ?_)
        have eR65 := Fr.nil g62 rfl
        subst eR65
        obtain ⟨h_x67, p68⟩ := E66
        obtain ⟨x71, k69, h70, q72, z73, z74⟩ := p68
        have k69 : M64 a0 13 = x71 := k69
        have z74 : ∀ j : Nat, j = x71.toNatClampNeg → x67.toInt = -1 ∨ ¬ (M64 tb j).toInt = 32 := z74
        refine lv_istore_n (lv' := [(2, .int x67), (1, .int 0), (0, .ref (base + a0))]) hx hb dX12_fact_12 rfl hl (by decide) rfl (fun ls hl => ?_)
        refine lv_aload_n hx hb dX12_fact_13 rfl (lv_at hl 2 rfl) ?_
        refine lv_ldc2 hx hb hown (hW _ w_7_70 rfl) dX12_fact_14 ?_
        have k75 : R3 a0 0 = some tb := (Fr.kp (k := 0) g6 hk_a0 rfl).trans k_tb
        have k76 : M64 a0 1 = tp := ((Fr.kp (k := 1) f61 hk_a0 rfl).trans (Fr.kp (k := 1) f5 hk_a0 rfl)).trans k_tp
        have q77 : x71.toInt ≤ tp.toInt := by
          have := (h_le).1; have := (h_le).2; have := (h_md).1; have := (h_md).2; have := (h_nx).1; have := (h_nx).2; have := (h_on).1; have := (h_on).2; have := (h_tp).1; have := (h_tp).2; have := (h_tq).1; have := (h_tq).2; have := (h57).1; have := (h57).2; have := (h_x11).1; have := (h_x11).2; have := (h_x13).1; have := (h_x13).2; have := (h_x67).1; have := (h_x67).2; have := (h_x7).1; have := (h_x7).2; have := (h70).1; have := (h70).2; have := (h_x9).1; have := (h_x9).2; omega
        refine tw_goi hS (md_runV (As := [.long 7237492]) (rest := []) hx hb hml hown hW hK hT hS.1 (t_X12_isWord l D cy tx base Z K N M64 R3 J63 hS.2.1 a0 hz_a0 hk_a0 (7237492) tb k75 x71 k69 (iv_mono h70 (by decide) (by decide)) tp k76 (iv_mono h_tp (by decide) (by decide)) q77) s_X12_138 ⟨rfl, rfl, ⟨Nat.le_of_ble_eq_true rfl, Nat.le_of_ble_eq_true rfl⟩, ⟨Nat.le_of_ble_eq_true rfl, Nat.le_of_ble_eq_true rfl⟩⟩ hz_a0 hk_a0 (by decide) rfl rfl hl.1 rfl (Nat.le_of_ble_eq_true rfl) dX12_fact_17) rfl rfl (fun x84 H locs M81 R82 J80 hS f78 g79 E83 => ?_)
        have eR82 := Fr.nil g79 rfl
        subst eR82
        obtain ⟨h_x84, p85⟩ := E83
        obtain ⟨x88, k86, h87, q89, z90, z91⟩ := p85
        have k86 : M81 a0 13 = x88 := k86
        have z92 : ¬ x84 = 0 → chF 97 122 Ma tb x88 tp := fun h => chF.rf (chF.fr (z91 h) f78 hk_tb rfl) hS.2.2.1 hk_tb rfl
        refine lv_if_eq (tgt := 43) hx hb dX12_fact_20 (by decide) (fun c93 => ?_) (fun c93 => ?_)
        · have q94 : x84.toInt = 0 := ti_eq c93
          have h95 : iv 0 0 x84 := ⟨by have := (h_x84).1; have := ((iv_c (c := 0) (n := 0) (by decide))).1; omega, by have := (h_x84).2; have := ((iv_c (c := 0) (n := 0) (by decide))).2; omega⟩
          refine lv_iload_n hx hb dX12_fact_43 rfl (lv_at hl 0 rfl) ?_
          refine lv_bipush (v := 91) hx hb dX12_fact_44 (by decide) ?_
          refine lv_icmp_ne (tgt := 72) hx hb dX12_fact_46 (by decide) (fun c96 => ?_) (fun c96 => ?_)
          · have q97 : ¬ x67.toInt = 91 := ti_ne c96
            refine lv_goto (tgt := 2) hx hb dX12_fact_72 (by decide) ?_
            have k98 : M81 a0 21 = x9 := ((Fr.kp (k := 21) f78 hk_a0 rfl).trans (Fr.kp (k := 21) f61 hk_a0 rfl)).trans k10
            have k99 : M81 lg tq.toNatClampNeg = x11 := ((Fr.kpa f78 hk_lg rfl tq.toNatClampNeg).trans (Fr.kpa f61 hk_lg rfl tq.toNatClampNeg)).trans k12
            have k100 : M81 a0 17 = x13 := ((Fr.kp (k := 17) f78 hk_a0 rfl).trans (Fr.kp (k := 17) f61 hk_a0 rfl)).trans k14
            have w101 : nx.toInt ≤ x88.toInt ∧ x88.toInt ≤ tp.toInt ∧ x11.toInt + x9.toInt ≤ x88.toInt ∧ x11.toInt = le.toInt ∧ x13.toInt = md.toInt := by
              have := (h_le).1; have := (h_le).2; have := (h_md).1; have := (h_md).2; have := (h_nx).1; have := (h_nx).2; have := (h_on).1; have := (h_on).2; have := (h_tp).1; have := (h_tp).2; have := (h_tq).1; have := (h_tq).2; have := (h57).1; have := (h57).2; have := (h_x11).1; have := (h_x11).2; have := (h_x13).1; have := (h_x13).2; have := (h_x67).1; have := (h_x67).2; have := (h_x7).1; have := (h_x7).2; have := (h70).1; have := (h70).2; have := (h95).1; have := (h95).2; have := (h87).1; have := (h87).2; have := (h_x9).1; have := (h_x9).2; exact ⟨by omega, by omega, by omega, by omega, by omega⟩
            have w102 : SEG M81 sg tq.toNatClampNeg sb x11.toNatClampNeg sh := (SEG.to (SEG.to w1_2 (fun j _ _ => Fr.kpa f61 hk_sg rfl j)) (fun j _ _ => Fr.kpa f78 hk_sg rfl j))
            have w103 : ∀ j, j < 400 * tq.toNatClampNeg + le.toNatClampNeg → M81 sg j = Ma sg j := (fun j hj => (Fr.kpa f78 hk_sg rfl j).trans ((fun j hj => (Fr.kpa f61 hk_sg rfl j).trans (w2_2 j hj)) j hj))
            have w104 : nbo M81 op x9.toNatClampNeg = sh := ((nbo_to _ (fun j _ => Fr.kpa f78 hk_op rfl j)).trans ((nbo_to _ (fun j _ => Fr.kpa f61 hk_op rfl j)).trans w3_2))
            have w105 : opK M81 op x9.toNatClampNeg := (opK.to (opK.to w4_2 (fun j _ => Fr.kpa f61 hk_op rfl j)) (fun j _ => Fr.kpa f78 hk_op rfl j))
            have hm106 : 2 * (400 - x88.toInt) + (0 : Int32).toInt < (n_2 : Int) := by
              have := (h_le).1; have := (h_le).2; have := (h_md).1; have := (h_md).2; have := (h_nx).1; have := (h_nx).2; have := (h_on).1; have := (h_on).2; have := (h_tp).1; have := (h_tp).2; have := (h_tq).1; have := (h_tq).2; have := (h57).1; have := (h57).2; have := (h_x11).1; have := (h_x11).2; have := (h_x13).1; have := (h_x13).2; have := (h_x67).1; have := (h_x67).2; have := (h_x7).1; have := (h_x7).2; have := (h70).1; have := (h70).2; have := (h95).1; have := (h95).2; have := (h87).1; have := (h87).2; have := (h_x9).1; have := (h_x9).2; have : (0 : Int32).toInt = 0 := (by decide); omega
            exact ih_2 0 x88 x9 x11 x13 M81 R3 J80 H locs _ (iv_mono (iv_c (c := 0) (n := 0) (by decide)) (by decide) (by decide)) h87 k86 h_x9 k98 h_x11 k99 h_x13 k100 w101 w102 w103 w104 w105 hm106 hS (lv_sub hl [1, 2] rfl)
          · have q107 : x67.toInt = 91 := ti_eq c96
            have h108 : iv 91 91 x67 := ⟨by have := (h_x67).1; have := ((iv_c (c := 91) (n := 91) (by decide))).1; omega, by have := (h_x67).2; have := ((iv_c (c := 91) (n := 91) (by decide))).2; omega⟩
            have zE108 : x88.toInt = x71.toInt := z90 _ rfl ⟨by omega, (z74 _ rfl).resolve_left (by omega)⟩
            refine lv_aload_n hx hb dX12_fact_49 rfl (lv_at hl 2 rfl) ?_
            refine lv_bipush (v := 91) hx hb dX12_fact_50 (by decide) ?_
            have k109 : R3 a0 20 = some op := (Fr.kp (k := 20) g6 hk_a0 rfl).trans k_op
            have k110 : M81 a0 21 = x9 := ((Fr.kp (k := 21) f78 hk_a0 rfl).trans (Fr.kp (k := 21) f61 hk_a0 rfl)).trans k10
            have h111 : iv 0 399 x9 := by
              have := (h_le).1; have := (h_le).2; have := (h_md).1; have := (h_md).2; have := (h_nx).1; have := (h_nx).2; have := (h_on).1; have := (h_on).2; have := (h_tp).1; have := (h_tp).2; have := (h_tq).1; have := (h_tq).2; have := (h_x11).1; have := (h_x11).2; have := (h_x13).1; have := (h_x13).2; have := (h_x7).1; have := (h_x7).2; have := (h70).1; have := (h70).2; have := (h87).1; have := (h87).2; have := (h_x9).1; have := (h_x9).2; exact ⟨by omega, by omega⟩
            refine tw_goi hS (md_runV (As := [.int 91]) (rest := []) hx hb hml hown hW hK hT hS.1 (t_X12_opens l D cy tx base Z K N M81 R3 J80 hS.2.1 a0 hz_a0 hk_a0 91 (iv_mono (iv_c (c := 91) (n := 91) (by decide)) (by decide) (by decide)) op k109 x9 k110 h111) s_X12_221 ⟨rfl, rfl, ⟨Nat.le_of_ble_eq_true rfl, Nat.le_of_ble_eq_true rfl⟩, ⟨Nat.le_of_ble_eq_true rfl, Nat.le_of_ble_eq_true rfl⟩⟩ hz_a0 hk_a0 (by decide) rfl rfl hl.1 rfl (Nat.le_of_ble_eq_true rfl) dX12_fact_52) rfl rfl (fun x118 H locs M115 R116 J114 hS f112 g113 E117 => ?_)
            have eR116 := Fr.nil g113 rfl
            subst eR116
            obtain ⟨h_x118, p119, p120⟩ := E117
            have z121 : x118 = 0 → ¬ (M115 a0 14).toInt = 0 := p120
            refine lv_if_ne (tgt := 60) hx hb dX12_fact_55 (by decide) (fun c122 => ?_) (fun c122 => ?_)
            · have q123 : ¬ x118.toInt = 0 := ti_ne c122
              have h124 : iv 1 1 x118 := ⟨by have := (h_x118).1; have := ((iv_c (c := 0) (n := 0) (by decide))).1; have := ((iv_c (c := 0) (n := 0) (by decide))).2; omega, by have := (h_x118).2; have := ((iv_c (c := 0) (n := 0) (by decide))).1; have := ((iv_c (c := 0) (n := 0) (by decide))).2; omega⟩
              obtain ⟨x127, k126, h125, zp124, zq124, zr124⟩ := p119 c122
              have k126 : M115 a0 21 = x127 := k126
              have zq124 : M115 op x9.toNatClampNeg = _ := zq124; have zr124 := fun (j : Nat) (q : j ≠ x9.toNatClampNeg) => (show M115 op j = _ from zr124 j q)
              have za124 := ti_cl (x := x9) (by have := (h_x9).1; omega); have zb124 := ti_cl (x := x127) (by have := (h125).1; omega)
              have zs124 : ∀ j, j < x9.toNatClampNeg → M115 op j = M81 op j := fun j hj => zr124 j (by omega)
              have z128 : nbo M115 op x127.toNatClampNeg = sh := by rw [nbo_top (x := x9.toNatClampNeg) (by omega) (by rw [zq124]; decide), nbo_to _ zs124]; exact ((nbo_to _ (fun j _ => Fr.kpa f78 hk_op rfl j)).trans ((nbo_to _ (fun j _ => Fr.kpa f61 hk_op rfl j)).trans w3_2))
              have z129 : opK M115 op x127.toNatClampNeg := fun j hj => by by_cases q : j = x9.toNatClampNeg; (· rw [q, zq124]; decide); (· rw [zr124 j q]; exact (opK.to (opK.to w4_2 (fun j _ => Fr.kpa f61 hk_op rfl j)) (fun j _ => Fr.kpa f78 hk_op rfl j)) j (by omega))
              refine lv_aload_n hx hb dX12_fact_60 rfl (lv_at hl 2 rfl) ?_
              refine lv_dup hx hb dX12_fact_61 rfl ?_
              have k130 : M115 a0 13 = x88 := (Fr.kp (k := 13) f112 hk_a0 rfl).trans k86
              refine tw_getk hx hb hW hown hK hS f_X12_127_11 hz_a0 hk_a0 (v := x88) k130 dX12_fact_62 ?_
              refine lv_iconst (v := 1) hx hb dX12_fact_65 (by decide) ?_
              refine tw_iadd (lo := 1) (hi := 401) hx hb h87 (iv_c (c := 1) (n := 1) (by decide)) ⟨by decide, by decide⟩ ⟨by decide, by decide⟩ dX12_fact_66 (fun x133 e132 h131 => ?_)
              have e132 : x133.toInt = x88.toInt + 1 := e132
              have h136 : iv 0 400 x133 := by
                have := (h_le).1; have := (h_le).2; have := (h_md).1; have := (h_md).2; have := (h_nx).1; have := (h_nx).2; have := (h_on).1; have := (h_on).2; have := (h_tp).1; have := (h_tp).2; have := (h_tq).1; have := (h_tq).2; have := (h_x11).1; have := (h_x11).2; have := (h125).1; have := (h125).2; have := (h_x13).1; have := (h_x13).2; have := (h131).1; have := (h131).2; have := (h108).1; have := (h108).2; have := (h_x7).1; have := (h_x7).2; have := (h70).1; have := (h70).2; have := (h95).1; have := (h95).2; have := (h87).1; have := (h87).2; have := (h_x9).1; have := (h_x9).2; exact ⟨by omega, by omega⟩
              refine tw_puti hx hb hW hown hK hS f_X12_127_11 hz_a0 hk_a0 rfl rfl (lo := 0) (hi := 400) rfl h136 rfl dX12_fact_67 (fun H locs M137 hS k134 f135 => ?_)
              refine lv_iconst (v := 1) hx hb dX12_fact_70 (by decide) ?_
              refine lv_istore_n (lv' := [(1, .int 1), (2, .int x67), (0, .ref (base + a0))]) hx hb dX12_fact_71 rfl hl (by decide) rfl (fun ls hl => ?_)
              refine lv_goto (tgt := 2) hx hb dX12_fact_72 (by decide) ?_
              have k138 : M137 a0 21 = x127 := (Fr.kp (k := 21) f135 hk_a0 rfl).trans k126
              have k139 : M137 lg tq.toNatClampNeg = x11 := ((Fr.kpa f135 hk_lg rfl tq.toNatClampNeg).trans ((Fr.kpa f112 hk_lg rfl tq.toNatClampNeg).trans ((Fr.kpa f78 hk_lg rfl tq.toNatClampNeg).trans (Fr.kpa f61 hk_lg rfl tq.toNatClampNeg)))).trans k12
              have k140 : M137 a0 17 = x13 := ((Fr.kp (k := 17) f135 hk_a0 rfl).trans ((Fr.kp (k := 17) f112 hk_a0 rfl).trans ((Fr.kp (k := 17) f78 hk_a0 rfl).trans (Fr.kp (k := 17) f61 hk_a0 rfl)))).trans k14
              have w141 : nx.toInt ≤ x133.toInt ∧ x133.toInt ≤ tp.toInt ∧ x11.toInt + x127.toInt ≤ x133.toInt ∧ x11.toInt = le.toInt ∧ x13.toInt = md.toInt := by
                have := (h_le).1; have := (h_le).2; have := (h_md).1; have := (h_md).2; have := (h_nx).1; have := (h_nx).2; have := (h_on).1; have := (h_on).2; have := (h_tp).1; have := (h_tp).2; have := (h_tq).1; have := (h_tq).2; have := (h57).1; have := (h57).2; have := (h_x11).1; have := (h_x11).2; have := (h125).1; have := (h125).2; have := (h_x13).1; have := (h_x13).2; have := (h136).1; have := (h136).2; have := (h108).1; have := (h108).2; have := (h_x7).1; have := (h_x7).2; have := (h70).1; have := (h70).2; have := (h95).1; have := (h95).2; have := (h87).1; have := (h87).2; have := (h_x9).1; have := (h_x9).2; exact ⟨by omega, by omega, by omega, by omega, by omega⟩
              have w142 : SEG M137 sg tq.toNatClampNeg sb x11.toNatClampNeg sh := (SEG.to (SEG.to (SEG.to (SEG.to w1_2 (fun j _ _ => Fr.kpa f61 hk_sg rfl j)) (fun j _ _ => Fr.kpa f78 hk_sg rfl j)) (fun j _ _ => Fr.kpa f112 hk_sg rfl j)) (fun j _ _ => Fr.kpa f135 hk_sg rfl j))
              have w143 : ∀ j, j < 400 * tq.toNatClampNeg + le.toNatClampNeg → M137 sg j = Ma sg j := (fun j hj => (Fr.kpa f135 hk_sg rfl j).trans ((fun j hj => (Fr.kpa f112 hk_sg rfl j).trans ((fun j hj => (Fr.kpa f78 hk_sg rfl j).trans ((fun j hj => (Fr.kpa f61 hk_sg rfl j).trans (w2_2 j hj)) j hj)) j hj)) j hj))
              have w144 : nbo M137 op x127.toNatClampNeg = sh := ((nbo_to _ (fun j _ => Fr.kpa f135 hk_op rfl j)).trans z128)
              have w145 : opK M137 op x127.toNatClampNeg := (opK.to z129 (fun j _ => Fr.kpa f135 hk_op rfl j))
              have hm146 : 2 * (400 - x133.toInt) + (1 : Int32).toInt < (n_2 : Int) := by
                have := (h_le).1; have := (h_le).2; have := (h_md).1; have := (h_md).2; have := (h_nx).1; have := (h_nx).2; have := (h_on).1; have := (h_on).2; have := (h_tp).1; have := (h_tp).2; have := (h_tq).1; have := (h_tq).2; have := (h57).1; have := (h57).2; have := (h_x11).1; have := (h_x11).2; have := (h125).1; have := (h125).2; have := (h_x13).1; have := (h_x13).2; have := (h136).1; have := (h136).2; have := (h108).1; have := (h108).2; have := (h_x7).1; have := (h_x7).2; have := (h70).1; have := (h70).2; have := (h95).1; have := (h95).2; have := (h87).1; have := (h87).2; have := (h_x9).1; have := (h_x9).2; have : (1 : Int32).toInt = 1 := (by decide); omega
              exact ih_2 1 x133 x127 x11 x13 M137 R3 J114 H locs _ (iv_mono (iv_c (c := 1) (n := 1) (by decide)) (by decide) (by decide)) h136 k134 (iv_mono h125 (by decide) (by decide)) k138 h_x11 k139 h_x13 k140 w141 w142 w143 w144 w145 hm146 hS (lv_sub hl [0, 2] rfl)
            · have q147 : x118.toInt = 0 := ti_eq c122
              have z148 := z121 c122
              have h149 : iv 0 0 x118 := ⟨by have := (h_x118).1; have := ((iv_c (c := 0) (n := 0) (by decide))).1; omega, by have := (h_x118).2; have := ((iv_c (c := 0) (n := 0) (by decide))).2; omega⟩
              refine lv_iconst (v := 0) hx hb dX12_fact_58 (by decide) ?_
              have k150 : M115 a0 13 = x88 := (Fr.kp (k := 13) f112 hk_a0 rfl).trans k86
              have q151 : nx.toInt ≤ x88.toInt ∧ x88.toInt ≤ tp.toInt := by
                have := (h_le).1; have := (h_le).2; have := (h_md).1; have := (h_md).2; have := (h_nx).1; have := (h_nx).2; have := (h_on).1; have := (h_on).2; have := (h_tp).1; have := (h_tp).2; have := (h_tq).1; have := (h_tq).2; have := (h57).1; have := (h57).2; have := (h_x11).1; have := (h_x11).2; have := (h_x13).1; have := (h_x13).2; have := (h108).1; have := (h108).2; have := (h_x7).1; have := (h_x7).2; have := (h70).1; have := (h70).2; have := (h95).1; have := (h95).2; have := (h87).1; have := (h87).2; have := (h_x9).1; have := (h_x9).2; exact ⟨by omega, by omega⟩
              exact tw_endz hx hb hr hlocks hK hT hS hQ rfl (⟨(iv_mono (iv_c (c := 0) (n := 0) (by decide)) (by decide) (by decide)), ⟨⟨x88, k150, h87, q151.1, q151.2⟩, (fun j hj => (Fr.kpa f112 hk_sg rfl j).trans ((fun j hj => (Fr.kpa f78 hk_sg rfl j).trans ((fun j hj => (Fr.kpa f61 hk_sg rfl j).trans (w2_2 j hj)) j hj)) j hj)), (fun h => absurd rfl h)⟩, (fun _ => (show ¬ (M115 a0 14).toInt = 0 from z148))⟩) dX12_fact_59
        · have q152 : ¬ x84.toInt = 0 := ti_ne c93
          have h153 : iv 1 1 x84 := ⟨by have := (h_x84).1; have := ((iv_c (c := 0) (n := 0) (by decide))).1; have := ((iv_c (c := 0) (n := 0) (by decide))).2; omega, by have := (h_x84).2; have := ((iv_c (c := 0) (n := 0) (by decide))).1; have := ((iv_c (c := 0) (n := 0) (by decide))).2; omega⟩
          have z154 := z92 c93
          have q155 := z154.1
          refine lv_aload_n hx hb dX12_fact_23 rfl (lv_at hl 2 rfl) ?_
          refine lv_bipush (v := 11) hx hb dX12_fact_24 (by decide) ?_
          have k156 : R3 a0 20 = some op := (Fr.kp (k := 20) g6 hk_a0 rfl).trans k_op
          have k157 : M81 a0 21 = x9 := ((Fr.kp (k := 21) f78 hk_a0 rfl).trans (Fr.kp (k := 21) f61 hk_a0 rfl)).trans k10
          have h158 : iv 0 399 x9 := by
            have := (h_le).1; have := (h_le).2; have := (h_md).1; have := (h_md).2; have := (h_nx).1; have := (h_nx).2; have := (h_on).1; have := (h_on).2; have := (h_tp).1; have := (h_tp).2; have := (h_tq).1; have := (h_tq).2; have := (h_x11).1; have := (h_x11).2; have := (h_x13).1; have := (h_x13).2; have := (h_x7).1; have := (h_x7).2; have := (h70).1; have := (h70).2; have := (h87).1; have := (h87).2; have := (h_x9).1; have := (h_x9).2; exact ⟨by omega, by omega⟩
          refine tw_goi hS (md_runV (As := [.int 11]) (rest := []) hx hb hml hown hW hK hT hS.1 (t_X12_opens l D cy tx base Z K N M81 R3 J80 hS.2.1 a0 hz_a0 hk_a0 11 (iv_mono (iv_c (c := 11) (n := 11) (by decide)) (by decide) (by decide)) op k156 x9 k157 h158) s_X12_221 ⟨rfl, rfl, ⟨Nat.le_of_ble_eq_true rfl, Nat.le_of_ble_eq_true rfl⟩, ⟨Nat.le_of_ble_eq_true rfl, Nat.le_of_ble_eq_true rfl⟩⟩ hz_a0 hk_a0 (by decide) rfl rfl hl.1 rfl (Nat.le_of_ble_eq_true rfl) dX12_fact_26) rfl rfl (fun x165 H locs M162 R163 J161 hS f159 g160 E164 => ?_)
          have eR163 := Fr.nil g160 rfl
          subst eR163
          obtain ⟨h_x165, p166, p167⟩ := E164
          have z168 : x165 = 0 → ¬ (M162 a0 14).toInt = 0 := p167
          refine lv_if_ne (tgt := 34) hx hb dX12_fact_29 (by decide) (fun c169 => ?_) (fun c169 => ?_)
          · have q170 : ¬ x165.toInt = 0 := ti_ne c169
            have h171 : iv 1 1 x165 := ⟨by have := (h_x165).1; have := ((iv_c (c := 0) (n := 0) (by decide))).1; have := ((iv_c (c := 0) (n := 0) (by decide))).2; omega, by have := (h_x165).2; have := ((iv_c (c := 0) (n := 0) (by decide))).1; have := ((iv_c (c := 0) (n := 0) (by decide))).2; omega⟩
            obtain ⟨x174, k173, h172, zp171, zq171, zr171⟩ := p166 c169
            have k173 : M162 a0 21 = x174 := k173
            have zq171 : M162 op x9.toNatClampNeg = _ := zq171; have zr171 := fun (j : Nat) (q : j ≠ x9.toNatClampNeg) => (show M162 op j = _ from zr171 j q)
            have za171 := ti_cl (x := x9) (by have := (h_x9).1; omega); have zb171 := ti_cl (x := x174) (by have := (h172).1; omega)
            have zs171 : ∀ j, j < x9.toNatClampNeg → M162 op j = M81 op j := fun j hj => zr171 j (by omega)
            have z175 : nbo M162 op x174.toNatClampNeg = sh := by rw [nbo_top (x := x9.toNatClampNeg) (by omega) (by rw [zq171]; decide), nbo_to _ zs171]; exact ((nbo_to _ (fun j _ => Fr.kpa f78 hk_op rfl j)).trans ((nbo_to _ (fun j _ => Fr.kpa f61 hk_op rfl j)).trans w3_2))
            have z176 : opK M162 op x174.toNatClampNeg := fun j hj => by by_cases q : j = x9.toNatClampNeg; (· rw [q, zq171]; decide); (· rw [zr171 j q]; exact (opK.to (opK.to w4_2 (fun j _ => Fr.kpa f61 hk_op rfl j)) (fun j _ => Fr.kpa f78 hk_op rfl j)) j (by omega))
            refine lv_aload_n hx hb dX12_fact_34 rfl (lv_at hl 2 rfl) ?_
            have k177 : R3 a0 0 = some tb := (Fr.kp (k := 0) g6 hk_a0 rfl).trans k_tb
            have k178 : M162 a0 13 = x88 := (Fr.kp (k := 13) f159 hk_a0 rfl).trans k86
            have k179 : M162 a0 1 = tp := ((Fr.kp (k := 1) f159 hk_a0 rfl).trans ((Fr.kp (k := 1) f78 hk_a0 rfl).trans ((Fr.kp (k := 1) f61 hk_a0 rfl).trans (Fr.kp (k := 1) f5 hk_a0 rfl)))).trans k_tp
            have q180 : x88.toInt ≤ tp.toInt := by
              have := (h_le).1; have := (h_le).2; have := (h_md).1; have := (h_md).2; have := (h_nx).1; have := (h_nx).2; have := (h_on).1; have := (h_on).2; have := (h_tp).1; have := (h_tp).2; have := (h_tq).1; have := (h_tq).2; have := (h57).1; have := (h57).2; have := (h_x11).1; have := (h_x11).2; have := (h_x13).1; have := (h_x13).2; have := (h172).1; have := (h172).2; have := (h_x67).1; have := (h_x67).2; have := (h_x7).1; have := (h_x7).2; have := (h70).1; have := (h70).2; have := (h153).1; have := (h153).2; have := (h87).1; have := (h87).2; have := (h_x9).1; have := (h_x9).2; omega
            refine tw_gov hS (md_runV (As := []) (rest := []) hx hb hml hown hW hK hT hS.1 (t_X12_passWord l D cy tx base Z K N M162 R3 J161 hS.2.1 a0 hz_a0 hk_a0 tb k177 x88 k178 (iv_mono h87 (by decide) (by decide)) tp k179 (iv_mono h_tp (by decide) (by decide)) q180) s_X12_142 ⟨rfl, rfl, ⟨Nat.le_of_ble_eq_true rfl, Nat.le_of_ble_eq_true rfl⟩, ⟨Nat.le_of_ble_eq_true rfl, Nat.le_of_ble_eq_true rfl⟩⟩ hz_a0 hk_a0 (by decide) rfl rfl hl.1 rfl (Nat.le_of_ble_eq_true rfl) dX12_fact_35) rfl rfl (fun H locs M184 R185 J183 hS f181 g182 E186 => ?_)
            have eR185 := Fr.nil g182 rfl
            subst eR185
            have p187 := E186
            clear E186
            obtain ⟨x190, k188, h189, q191, z193⟩ := p187
            have k188 : M184 a0 13 = x190 := k188
            have q194 := z193 (chF.rf (chF.fr z154 hS.2.2.1 hk_tb rfl) f181 hk_tb rfl)
            refine lv_iconst (v := 1) hx hb dX12_fact_38 (by decide) ?_
            refine lv_istore_n (lv' := [(1, .int 1), (2, .int x67), (0, .ref (base + a0))]) hx hb dX12_fact_39 rfl hl (by decide) rfl (fun ls hl => ?_)
            refine lv_goto (tgt := 72) hx hb dX12_fact_40 (by decide) ?_
            refine lv_goto (tgt := 2) hx hb dX12_fact_72 (by decide) ?_
            have k195 : M184 a0 21 = x174 := (Fr.kp (k := 21) f181 hk_a0 rfl).trans k173
            have k196 : M184 lg tq.toNatClampNeg = x11 := ((Fr.kpa f181 hk_lg rfl tq.toNatClampNeg).trans ((Fr.kpa f159 hk_lg rfl tq.toNatClampNeg).trans ((Fr.kpa f78 hk_lg rfl tq.toNatClampNeg).trans (Fr.kpa f61 hk_lg rfl tq.toNatClampNeg)))).trans k12
            have k197 : M184 a0 17 = x13 := ((Fr.kp (k := 17) f181 hk_a0 rfl).trans ((Fr.kp (k := 17) f159 hk_a0 rfl).trans ((Fr.kp (k := 17) f78 hk_a0 rfl).trans (Fr.kp (k := 17) f61 hk_a0 rfl)))).trans k14
            have w198 : nx.toInt ≤ x190.toInt ∧ x190.toInt ≤ tp.toInt ∧ x11.toInt + x174.toInt ≤ x190.toInt ∧ x11.toInt = le.toInt ∧ x13.toInt = md.toInt := by
              have := (h_le).1; have := (h_le).2; have := (h_md).1; have := (h_md).2; have := (h_nx).1; have := (h_nx).2; have := (h_on).1; have := (h_on).2; have := (h_tp).1; have := (h_tp).2; have := (h_tq).1; have := (h_tq).2; have := (h57).1; have := (h57).2; have := (h_x11).1; have := (h_x11).2; have := (h_x13).1; have := (h_x13).2; have := (h172).1; have := (h172).2; have := (h189).1; have := (h189).2; have := (h_x67).1; have := (h_x67).2; have := (h_x7).1; have := (h_x7).2; have := (h70).1; have := (h70).2; have := (h153).1; have := (h153).2; have := (h87).1; have := (h87).2; have := (h_x9).1; have := (h_x9).2; exact ⟨by omega, by omega, by omega, by omega, by omega⟩
            have w199 : SEG M184 sg tq.toNatClampNeg sb x11.toNatClampNeg sh := (SEG.to (SEG.to (SEG.to (SEG.to w1_2 (fun j _ _ => Fr.kpa f61 hk_sg rfl j)) (fun j _ _ => Fr.kpa f78 hk_sg rfl j)) (fun j _ _ => Fr.kpa f159 hk_sg rfl j)) (fun j _ _ => Fr.kpa f181 hk_sg rfl j))
            have w200 : ∀ j, j < 400 * tq.toNatClampNeg + le.toNatClampNeg → M184 sg j = Ma sg j := (fun j hj => (Fr.kpa f181 hk_sg rfl j).trans ((fun j hj => (Fr.kpa f159 hk_sg rfl j).trans ((fun j hj => (Fr.kpa f78 hk_sg rfl j).trans ((fun j hj => (Fr.kpa f61 hk_sg rfl j).trans (w2_2 j hj)) j hj)) j hj)) j hj))
            have w201 : nbo M184 op x174.toNatClampNeg = sh := ((nbo_to _ (fun j _ => Fr.kpa f181 hk_op rfl j)).trans z175)
            have w202 : opK M184 op x174.toNatClampNeg := (opK.to z176 (fun j _ => Fr.kpa f181 hk_op rfl j))
            have hm203 : 2 * (400 - x190.toInt) + (1 : Int32).toInt < (n_2 : Int) := by
              have := (h_le).1; have := (h_le).2; have := (h_md).1; have := (h_md).2; have := (h_nx).1; have := (h_nx).2; have := (h_on).1; have := (h_on).2; have := (h_tp).1; have := (h_tp).2; have := (h_tq).1; have := (h_tq).2; have := (h57).1; have := (h57).2; have := (h_x11).1; have := (h_x11).2; have := (h_x13).1; have := (h_x13).2; have := (h172).1; have := (h172).2; have := (h189).1; have := (h189).2; have := (h_x67).1; have := (h_x67).2; have := (h_x7).1; have := (h_x7).2; have := (h70).1; have := (h70).2; have := (h153).1; have := (h153).2; have := (h87).1; have := (h87).2; have := (h_x9).1; have := (h_x9).2; have : (1 : Int32).toInt = 1 := (by decide); omega
            exact ih_2 1 x190 x174 x11 x13 M184 R3 J183 H locs _ (iv_mono (iv_c (c := 1) (n := 1) (by decide)) (by decide) (by decide)) h189 k188 (iv_mono h172 (by decide) (by decide)) k195 h_x11 k196 h_x13 k197 w198 w199 w200 w201 w202 hm203 hS (lv_sub hl [0, 2] rfl)
          · have q204 : x165.toInt = 0 := ti_eq c169
            have z205 := z168 c169
            have h206 : iv 0 0 x165 := ⟨by have := (h_x165).1; have := ((iv_c (c := 0) (n := 0) (by decide))).1; omega, by have := (h_x165).2; have := ((iv_c (c := 0) (n := 0) (by decide))).2; omega⟩
            refine lv_iconst (v := 0) hx hb dX12_fact_32 (by decide) ?_
            have k207 : M162 a0 13 = x88 := (Fr.kp (k := 13) f159 hk_a0 rfl).trans k86
            have q208 : nx.toInt ≤ x88.toInt ∧ x88.toInt ≤ tp.toInt := by
              have := (h_le).1; have := (h_le).2; have := (h_md).1; have := (h_md).2; have := (h_nx).1; have := (h_nx).2; have := (h_on).1; have := (h_on).2; have := (h_tp).1; have := (h_tp).2; have := (h_tq).1; have := (h_tq).2; have := (h57).1; have := (h57).2; have := (h_x11).1; have := (h_x11).2; have := (h_x13).1; have := (h_x13).2; have := (h_x67).1; have := (h_x67).2; have := (h_x7).1; have := (h_x7).2; have := (h70).1; have := (h70).2; have := (h153).1; have := (h153).2; have := (h87).1; have := (h87).2; have := (h_x9).1; have := (h_x9).2; exact ⟨by omega, by omega⟩
            exact tw_endz hx hb hr hlocks hK hT hS hQ rfl (⟨(iv_mono (iv_c (c := 0) (n := 0) (by decide)) (by decide) (by decide)), ⟨⟨x88, k207, h87, q208.1, q208.2⟩, (fun j hj => (Fr.kpa f159 hk_sg rfl j).trans ((fun j hj => (Fr.kpa f78 hk_sg rfl j).trans ((fun j hj => (Fr.kpa f61 hk_sg rfl j).trans (w2_2 j hj)) j hj)) j hj)), (fun h => absurd rfl h)⟩, (fun _ => (show ¬ (M162 a0 14).toInt = 0 from z205))⟩) dX12_fact_33
  have w209 : nx.toInt ≤ nx.toInt ∧ nx.toInt ≤ tp.toInt ∧ le.toInt + on.toInt ≤ nx.toInt ∧ le.toInt = le.toInt ∧ md.toInt = md.toInt := by
    have := (h_le).1; have := (h_le).2; have := (h_md).1; have := (h_md).2; have := (h_nx).1; have := (h_nx).2; have := (h_on).1; have := (h_on).2; have := (h_tp).1; have := (h_tp).2; have := (h_tq).1; have := (h_tq).2; exact ⟨by omega, by omega, by omega, by omega, by omega⟩
  have w210 : SEG Ma sg tq.toNatClampNeg sb le.toNatClampNeg sh := hseg
  have w211 : ∀ j, j < 400 * tq.toNatClampNeg + le.toNatClampNeg → Ma sg j = Ma sg j := (fun j _ => rfl)
  have w212 : nbo Ma op on.toNatClampNeg = sh := hnb
  have w213 : opK Ma op on.toNatClampNeg := hopk
  have hm214 : 2 * (400 - nx.toInt) + (1 : Int32).toInt < (((802 : Nat) : Int) : Int) := by
    have := (h_le).1; have := (h_le).2; have := (h_md).1; have := (h_md).2; have := (h_nx).1; have := (h_nx).2; have := (h_on).1; have := (h_on).2; have := (h_tp).1; have := (h_tp).2; have := (h_tq).1; have := (h_tq).2; have : (1 : Int32).toInt = 1 := (by decide); omega
  exact W2_2 802 1 nx on le md Ma Ra Ja s.heap [] _ (iv_mono (iv_c (c := 1) (n := 1) (by decide)) (by decide) (by decide)) h_nx k_nx h_on k_on h_le k_le h_md k_md w209 w210 w211 w212 w213 hm214 hS hl
