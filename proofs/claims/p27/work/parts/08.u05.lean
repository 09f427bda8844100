def Lt_X12_fact : WL := [(12, 13, 16), (12, 17, 19), (12, 21, 22), (14, 0, 2000000), (25, 0, 2000000), (26, 0, 2000000)]
def LRt_X12_fact : WL := []
set_option maxRecDepth 100000 in
set_option maxHeartbeats 4000000 in
theorem t_X12_fact (l : Launch) (D : va_G) (cy : Nat → ClassId) (tx : (Nat → Nat) × (Nat → Nat)) (base Z : Nat) (K N : Nat → Nat) (Ma : MT) (Ra : RT) (Ja : JT) (hTy : Ty Z K N Ma Ra) (a0 : Nat) (hz_a0 : a0 < Z) (hk_a0 : K a0 = 12) (tb : Nat) (k_tb : Ra a0 0 = some tb) (nx : Int32) (k_nx : Ma a0 13 = nx) (h_nx : iv 0 400 nx) (tp : Int32) (k_tp : Ma a0 1 = tp) (h_tp : iv 0 400 tp) (hnt : nx.toInt ≤ tp.toInt) (lg : Nat) (k_lg : Ra a0 4 = some lg) (sg : Nat) (k_sg : Ra a0 3 = some sg) (tq : Int32) (k_tq : Ma a0 16 = tq) (h_tq : iv 0 5 tq) (le : Int32) (k_le : Ma lg tq.toNatClampNeg = le) (h_le : iv 0 400 le) (md : Int32) (k_md : Ma a0 17 = md) (h_md : iv 0 60 md) (op : Nat) (k_op : Ra a0 20 = some op) (on : Int32) (k_on : Ma a0 21 = on) (h_on : iv 0 400 on) (sb : Nat) (sh : Nat) (hseg : SEG Ma sg tq.toNatClampNeg sb le.toNatClampNeg sh) (hsb : (sb : Int) ≤ le.toInt) (hsh : (sh : Int) ≤ md.toInt) (hbud : le.toInt + on.toInt ≤ nx.toInt) (hopk : opK Ma op on.toNatClampNeg) (hnb : nbo Ma op on.toNatClampNeg = sh) : Met l yX12_fact [Cond.code yX12_fact cX12_fact 3 (some .boolean)] (md_rm 8 0 0) (va_Pc [.ref (base + a0)] (md_U D cy tx base Z K N Ma Ra Ja)) (mQi D cy tx base (fun r u => TP Z K N Lt_X12_fact LRt_X12_fact Ma Ra u ∧ (iv 0 1 r ∧ ((∃ x0 : Int32, u.2.2.2.1 a0 13 = x0 ∧ iv 0 400 x0 ∧ nx.toInt ≤ x0.toInt ∧ x0.toInt ≤ tp.toInt) ∧ (∀ j, j < 400 * tq.toNatClampNeg + le.toNatClampNeg → u.2.2.2.1 sg j = Ma sg j) ∧ (¬ r = 0 → ∃ x0 x1 x2 x3 : Int32, u.2.2.2.1 a0 13 = x0 ∧ u.2.2.2.1 a0 21 = x1 ∧ u.2.2.2.1 lg tq.toNatClampNeg = x2 ∧ u.2.2.2.1 a0 17 = x3 ∧ iv 0 400 x0 ∧ iv 0 400 x1 ∧ iv 0 400 x2 ∧ (nx.toInt ≤ x0.toInt ∧ x0.toInt ≤ tp.toInt ∧ x2.toInt + x1.toInt ≤ x0.toInt ∧ le.toInt ≤ x2.toInt ∧ ((sh + 1 : Nat) : Int) ≤ x3.toInt) ∧ SEG u.2.2.2.1 sg tq.toNatClampNeg sb x2.toNatClampNeg (sh + 1) ∧ nbo u.2.2.2.1 op x1.toNatClampNeg = sh ∧ opK u.2.2.2.1 op x1.toNatClampNeg)) ∧ (r = 0 → ¬ (u.2.2.2.1 a0 14).toInt = 0)))) 0 0 (fun q => base ≤ q) := by
  refine tw_ofW (L := Lt_X12_fact) (LR := LRt_X12_fact) (by decide) (Nat.le_of_ble_eq_true rfl) hTy ?_
  intro p e s m args below meth c Q ls hx hb hr hlocks hown hml hW hK hT hS hQ hl
  have hl : lv_has ls 3 [(0, .ref (base + a0))] := hl
  obtain ⟨hz_tb, hk_tb, hn_tb⟩ := hTy.refn hz_a0 hk_a0 (show rtR 12 0 = (13, 400, 0) from rfl) k_tb
  have hn_tb := hn_tb (by decide)
  obtain ⟨hz_lg, hk_lg, hn_lg⟩ := hTy.refn hz_a0 hk_a0 (show rtR 12 4 = (26, 7, 0) from rfl) k_lg
  have hn_lg := hn_lg (by decide)
  obtain ⟨hz_sg, hk_sg, hn_sg⟩ := hTy.refn hz_a0 hk_a0 (show rtR 12 3 = (25, 2400, 0) from rfl) k_sg
  have hn_sg := hn_sg (by decide)
  obtain ⟨hz_op, hk_op, hn_op⟩ := hTy.refn hz_a0 hk_a0 (show rtR 12 20 = (14, 400, 0) from rfl) k_op
  have hn_op := hn_op (by decide)
  refine lv_iconst (v := 1) hx hb dX12_fact_0 (by decide) ?_
  refine lv_istore_n (lv' := [(1, .int 1), (0, .ref (base + a0))]) hx hb dX12_fact_1 rfl hl (by decide) rfl (fun ls hl => ?_)
  have W2_2 : ∀ (n_2 : Nat) (x1 : Int32) (x7 : Int32) (x9 : Int32) (x11 : Int32) (x13 : Int32) (M2 : MT) (R3 : RT) (J4 : JT) (H : Heap) (locs : List Loc) (ls : Array Slot) (h_x1 : iv 0 1 x1) (h_x7 : iv 0 401 x7) (k8 : M2 a0 13 = x7) (h_x9 : iv 0 400 x9) (k10 : M2 a0 21 = x9) (h_x11 : iv 0 400 x11) (k12 : M2 lg tq.toNatClampNeg = x11) (h_x13 : iv 0 60 x13) (k14 : M2 a0 17 = x13) (w0_2 : nx.toInt ≤ x7.toInt ∧ x7.toInt ≤ tp.toInt ∧ x11.toInt + x9.toInt ≤ x7.toInt ∧ x11.toInt = le.toInt ∧ x13.toInt = md.toInt) (w1_2 : SEG M2 sg tq.toNatClampNeg sb x11.toNatClampNeg sh) (w2_2 : ∀ j, j < 400 * tq.toNatClampNeg + le.toNatClampNeg → M2 sg j = Ma sg j) (w3_2 : nbo M2 op x9.toNatClampNeg = sh) (w4_2 : opK M2 op x9.toNatClampNeg) (hm_2 : 2 * (400 - x7.toInt) + x1.toInt < (n_2 : Int)) (hS : SB D cy base Z K N Lt_X12_fact LRt_X12_fact Ma Ra M2 R3 J4 s H locs) (hl : lv_has ls 3 [(1, .int x1), (0, .ref (base + a0))]), W p l e (md_rm 8 0 0) s m args below meth c H locs 0 0 Q (F0 m 2 ls []) := by
    intro n_2
    induction n_2 with
    | zero =>
      intro x1 x7 x9 x11 x13 M2 R3 J4 H locs ls h_x1 h_x7 k8 h_x9 k10 h_x11 k12 h_x13 k14 w0_2 w1_2 w2_2 w3_2 w4_2 hm_2 hS hl
      exfalso
      have := (h_le).1; have := (h_le).2; have := (h_md).1; have := (h_md).2; have := (h_nx).1; have := (h_nx).2; have := (h_on).1; have := (h_on).2; have := (h_tp).1; have := (h_tp).2; have := (h_tq).1; have := (h_tq).2; have := (h_x1).1; have := (h_x1).2; have := (h_x11).1; have := (h_x11).2; have := (h_x13).1; have := (h_x13).2; have := (h_x7).1; have := (h_x7).2; have := (h_x9).1; have := (h_x9).2; omega
    | succ n_2 ih_2 =>
      intro x1 x7 x9 x11 x13 M2 R3 J4 H locs ls h_x1 h_x7 k8 h_x9 k10 h_x11 k12 h_x13 k14 w0_2 w1_2 w2_2 w3_2 w4_2 hm_2 hS hl
      have f5 := hS.2.2.1
      have g6 := hS.2.2.2
      refine lv_iload_n hx hb dX12_fact_2 rfl (lv_at hl 0 rfl) ?_
      refine lv_if_eq (tgt := 75) hx hb dX12_fact_3 (by decide) (fun c15 => ?_) (fun c15 => ?_)
      · have q16 : x1.toInt = 0 := ti_eq c15
        have h17 : iv 0 0 x1 := ⟨by have := (h_x1).1; have := ((iv_c (c := 0) (n := 0) (by decide))).1; omega, by have := (h_x1).2; have := ((iv_c (c := 0) (n := 0) (by decide))).2; omega⟩
        refine lv_aload_n hx hb dX12_fact_75 rfl (lv_at hl 1 rfl) ?_
        have k18 : R3 a0 0 = some tb := (Fr.kp (k := 0) g6 hk_a0 rfl).trans k_tb
        have h19 : iv 0 400 x7 := by
          have := (h_le).1; have := (h_le).2; have := (h_md).1; have := (h_md).2; have := (h_nx).1; have := (h_nx).2; have := (h_on).1; have := (h_on).2; have := (h_tp).1; have := (h_tp).2; have := (h_tq).1; have := (h_tq).2; have := (h_x11).1; have := (h_x11).2; have := (h_x13).1; have := (h_x13).2; have := (h_x7).1; have := (h_x7).2; have := (h_x9).1; have := (h_x9).2; exact ⟨by omega, by omega⟩
        have k20 : M2 a0 1 = tp := (Fr.kp (k := 1) f5 hk_a0 rfl).trans k_tp
        have q21 : x7.toInt ≤ tp.toInt := by
          have := (h_le).1; have := (h_le).2; have := (h_md).1; have := (h_md).2; have := (h_nx).1; have := (h_nx).2; have := (h_on).1; have := (h_on).2; have := (h_tp).1; have := (h_tp).2; have := (h_tq).1; have := (h_tq).2; have := (h_x11).1; have := (h_x11).2; have := (h_x13).1; have := (h_x13).2; have := (h_x7).1; have := (h_x7).2; have := (h_x9).1; have := (h_x9).2; omega
        have k22 : R3 a0 4 = some lg := (Fr.kp (k := 4) g6 hk_a0 rfl).trans k_lg
        have k23 : R3 a0 3 = some sg := (Fr.kp (k := 3) g6 hk_a0 rfl).trans k_sg
        have k24 : M2 a0 16 = tq := (Fr.kp (k := 16) f5 hk_a0 rfl).trans k_tq
        have q25 : ((sb : Nat) : Int) ≤ x11.toInt := by
          have := (h_le).1; have := (h_le).2; have := (h_md).1; have := (h_md).2; have := (h_nx).1; have := (h_nx).2; have := (h_on).1; have := (h_on).2; have := (h_tp).1; have := (h_tp).2; have := (h_tq).1; have := (h_tq).2; have := (h_x11).1; have := (h_x11).2; have := (h_x13).1; have := (h_x13).2; have := (h_x7).1; have := (h_x7).2; have := (h_x9).1; have := (h_x9).2; omega
        have q26 : ((sh : Nat) : Int) ≤ x13.toInt := by
          have := (h_le).1; have := (h_le).2; have := (h_md).1; have := (h_md).2; have := (h_nx).1; have := (h_nx).2; have := (h_on).1; have := (h_on).2; have := (h_tp).1; have := (h_tp).2; have := (h_tq).1; have := (h_tq).2; have := (h_x11).1; have := (h_x11).2; have := (h_x13).1; have := (h_x13).2; have := (h_x7).1; have := (h_x7).2; have := (h_x9).1; have := (h_x9).2; omega
        have q27 : x11.toInt ≤ x7.toInt := by
          have := (h_le).1; have := (h_le).2; have := (h_md).1; have := (h_md).2; have := (h_nx).1; have := (h_nx).2; have := (h_on).1; have := (h_on).2; have := (h_tp).1; have := (h_tp).2; have := (h_tq).1; have := (h_tq).2; have := (h_x11).1; have := (h_x11).2; have := (h_x13).1; have := (h_x13).2; have := (h_x7).1; have := (h_x7).2; have := (h_x9).1; have := (h_x9).2; omega
        refine tw_goi hS (md_runV (As := []) (rest := []) hx hb hml hown hW hK hT hS.1 (t_X12_compare l D cy tx base Z K N M2 R3 J4 hS.2.1 a0 hz_a0 hk_a0 tb k18 x7 k8 h19 tp k20 (iv_mono h_tp (by decide) (by decide)) q21 lg k22 sg k23 tq k24 (iv_mono h_tq (by decide) (by decide)) x11 k12 (iv_mono h_x11 (by decide) (by decide)) x13 k14 (iv_mono h_x13 (by decide) (by decide)) (sb) (sh) w1_2 q25 q26 q27) s_X12_224 ⟨rfl, rfl, ⟨Nat.le_of_ble_eq_true rfl, Nat.le_of_ble_eq_true rfl⟩, ⟨Nat.le_of_ble_eq_true rfl, Nat.le_of_ble_eq_true rfl⟩⟩ hz_a0 hk_a0 (by decide) rfl rfl hl.1 rfl (Nat.le_of_ble_eq_true rfl) dX12_fact_76) rfl rfl (fun x34 H locs M31 R32 J30 hS f28 g29 E33 => ?_)
        have eR32 := Fr.nil g29 rfl
        subst eR32
        obtain ⟨h_x34, p35, p36⟩ := E33
        obtain ⟨zf36, ⟨x38, k39, h37, zu36, zv36⟩, zc36⟩ := p35
        have k39 : M31 a0 13 = x38 := k39
        have zw36 := ti_cl (x := le) (by have := h_le.1; omega); have zy36 := ti_cl (x := x11) (by have := (h_x11).1; omega)
        have z40 : ∀ j, j < 400 * tq.toNatClampNeg + le.toNatClampNeg → M31 sg j = Ma sg j := fun j hj => (zf36 j (by omega)).trans (w2_2 j hj)
        have z41 : x34 = 0 → ¬ (M31 a0 14).toInt = 0 := p36
        by_cases c42 : x34 = 0
        · have z43 := z41 c42
          subst c42
          have q44 : nx.toInt ≤ x38.toInt ∧ x38.toInt ≤ tp.toInt := by
            have := (h_le).1; have := (h_le).2; have := (h_md).1; have := (h_md).2; have := (h_nx).1; have := (h_nx).2; have := (h_on).1; have := (h_on).2; have := (h_tp).1; have := (h_tp).2; have := (h_tq).1; have := (h_tq).2; have := (h_x11).1; have := (h_x11).2; have := (h_x13).1; have := (h_x13).2; have := (h37).1; have := (h37).2; have := (h_x7).1; have := (h_x7).2; have := (h_x9).1; have := (h_x9).2; omega
          exact tw_endz hx hb hr hlocks hK hT hS hQ rfl (⟨(iv_mono (iv_c (c := 0) (n := 0) (by decide)) (by decide) (by decide)), ⟨⟨x38, k39, h37, q44.1, q44.2⟩, z40, (fun h => absurd rfl h)⟩, (fun _ => (show ¬ (M31 a0 14).toInt = 0 from z43))⟩) dX12_fact_79
        · have zz44 := c42
          obtain ⟨x51, x47, x48, k52, k49, k50, h45, za44, zb44, zd44, z53⟩ := zc36 c42
          have ze44 : x51 = x38 := k52.symm.trans k39
          rw [ze44] at zb44
          have k49 : M31 lg tq.toNatClampNeg = x47 := k49
          have k50 : M31 a0 17 = x48 := k50
          have h46 : iv 0 60 x48 := by rw [← k50]; exact hS.2.1.int hz_a0 hk_a0 (show rgI 12 17 = (0, 60) from rfl)
          have q54 : nx.toInt ≤ x38.toInt ∧ x38.toInt ≤ tp.toInt := by
            have := (h_le).1; have := (h_le).2; have := (h_md).1; have := (h_md).2; have := (h_nx).1; have := (h_nx).2; have := (h_on).1; have := (h_on).2; have := (h_tp).1; have := (h_tp).2; have := (h_tq).1; have := (h_tq).2; have := (h_x11).1; have := (h_x11).2; have := (h_x13).1; have := (h_x13).2; have := (h37).1; have := (h37).2; have := (h45).1; have := (h45).2; have := (h_x7).1; have := (h_x7).2; have := (h_x9).1; have := (h_x9).2; omega
          have k55 : M31 a0 21 = x9 := (Fr.kp (k := 21) f28 hk_a0 rfl).trans k10
          have q56 : nx.toInt ≤ x38.toInt ∧ x38.toInt ≤ tp.toInt ∧ x47.toInt + x9.toInt ≤ x38.toInt ∧ le.toInt ≤ x47.toInt ∧ ((sh + 1 : Nat) : Int) ≤ x48.toInt := by
            have := (h_le).1; have := (h_le).2; have := (h_md).1; have := (h_md).2; have := (h_nx).1; have := (h_nx).2; have := (h_on).1; have := (h_on).2; have := (h_tp).1; have := (h_tp).2; have := (h_tq).1; have := (h_tq).2; have := (h_x11).1; have := (h_x11).2; have := (h_x13).1; have := (h_x13).2; have := (h37).1; have := (h37).2; have := (h45).1; have := (h45).2; have := (h46).1; have := (h46).2; have := (h_x7).1; have := (h_x7).2; have := (h_x9).1; have := (h_x9).2; omega
          exact tw_endz hx hb hr hlocks hK hT hS hQ (nar_b h_x34) (⟨h_x34, ⟨⟨x38, k39, h37, q54.1, q54.2⟩, z40, fun _ => ⟨x38, x9, x47, x48, k39, k55, k49, k50, h37, h_x9, h45, q56, z53, ((nbo_to _ (fun j _ => Fr.kpa f28 hk_op rfl j)).trans w3_2), (opK.to w4_2 (fun j _ => Fr.kpa f28 hk_op rfl j))⟩⟩, z41⟩) dX12_fact_79
      · have q57 : ¬ x1.toInt = 0 := ti_ne c15
        have h58 : iv 1 1 x1 := ⟨by have := (h_x1).1; have := ((iv_c (c := 0) (n := 0) (by decide))).1; have := ((iv_c (c := 0) (n := 0) (by decide))).2; omega, by have := (h_x1).2; have := ((iv_c (c := 0) (n := 0) (by decide))).1; have := ((iv_c (c := 0) (n := 0) (by decide))).2; omega⟩
        refine lv_iconst (v := 0) hx hb dX12_fact_6 (by decide) ?_
        refine lv_istore_n (lv' := [(1, .int 0), (0, .ref (base + a0))]) hx hb dX12_fact_7 rfl hl (by decide) rfl (fun ls hl => ?_)
        refine lv_aload_n hx hb dX12_fact_8 rfl (lv_at hl 1 rfl) ?_
        have k59 : R3 a0 0 = some tb := (Fr.kp (k := 0) g6 hk_a0 rfl).trans k_tb
        have h60 : iv 0 400 x7 := by
          have := (h_le).1; have := (h_le).2; have := (h_md).1; have := (h_md).2; have := (h_nx).1; have := (h_nx).2; have := (h_on).1; have := (h_on).2; have := (h_tp).1; have := (h_tp).2; have := (h_tq).1; have := (h_tq).2; have := (h_x11).1; have := (h_x11).2; have := (h_x13).1; have := (h_x13).2; have := (h_x7).1; have := (h_x7).2; have := (h_x9).1; have := (h_x9).2; exact ⟨by omega, by omega⟩
        have k61 : M2 a0 1 = tp := (Fr.kp (k := 1) f5 hk_a0 rfl).trans k_tp
        have q62 : x7.toInt ≤ tp.toInt := by
          have := (h_le).1; have := (h_le).2; have := (h_md).1; have := (h_md).2; have := (h_nx).1; have := (h_nx).2; have := (h_on).1; have := (h_on).2; have := (h_tp).1; have := (h_tp).2; have := (h_tq).1; have := (h_tq).2; have := (h_x11).1; have := (h_x11).2; have := (h_x13).1; have := (h_x13).2; have := (h_x7).1; have := (h_x7).2; have := (h_x9).1; have := (h_x9).2; omega
        refine tw_goi hS (md_runV (As := []) (rest := []) hx hb hml hown hW hK hT hS.1 (t_X12_see l D cy tx base Z K N M2 R3 J4 hS.2.1 a0 hz_a0 hk_a0 tb k59 x7 k8 h60 tp k61 (iv_mono h_tp (by decide) (by decide)) q62) s_X12_130 ⟨rfl, rfl, ⟨Nat.le_of_ble_eq_true rfl, Nat.le_of_ble_eq_true rfl⟩, ⟨Nat.le_of_ble_eq_true rfl, Nat.le_of_ble_eq_true rfl⟩⟩ hz_a0 hk_a0 (by decide) rfl rfl hl.1 rfl (Nat.le_of_ble_eq_true rfl) dX12_fact_9) rfl rfl (fun x69 H locs M66 R67 J65 hS f63 g64 E68 => ?_)
        have eR67 := Fr.nil g64 rfl
        subst eR67
        obtain ⟨h_x69, p70⟩ := E68
        obtain ⟨x73, k71, h72, q74, z75⟩ := p70
        have k71 : M66 a0 13 = x73 := k71
        refine lv_istore_n (lv' := [(2, .int x69), (1, .int 0), (0, .ref (base + a0))]) hx hb dX12_fact_12 rfl hl (by decide) rfl (fun ls hl => ?_)
        refine lv_aload_n hx hb dX12_fact_13 rfl (lv_at hl 2 rfl) ?_
        refine lv_ldc2 hx hb hown (hW _ w_7_70 rfl) dX12_fact_14 ?_
        have k77 : R3 a0 0 = some tb := (Fr.kp (k := 0) g6 hk_a0 rfl).trans k_tb
        have k78 : M66 a0 1 = tp := ((Fr.kp (k := 1) f63 hk_a0 rfl).trans (Fr.kp (k := 1) f5 hk_a0 rfl)).trans k_tp
        have q79 : x73.toInt ≤ tp.toInt := by
          have := (h_le).1; have := (h_le).2; have := (h_md).1; have := (h_md).2; have := (h_nx).1; have := (h_nx).2; have := (h_on).1; have := (h_on).2; have := (h_tp).1; have := (h_tp).2; have := (h_tq).1; have := (h_tq).2; have := (h_x11).1; have := (h_x11).2; have := (h_x13).1; have := (h_x13).2; have := (h_x69).1; have := (h_x69).2; have := (h_x7).1; have := (h_x7).2; have := (h72).1; have := (h72).2; have := (h_x9).1; have := (h_x9).2; omega
        refine tw_goi hS (md_runV (As := [.long 7237492]) (rest := []) hx hb hml hown hW hK hT hS.1 (t_X12_isWord l D cy tx base Z K N M66 R3 J65 hS.2.1 a0 hz_a0 hk_a0 (7237492) tb k77 x73 k71 (iv_mono h72 (by decide) (by decide)) tp k78 (iv_mono h_tp (by decide) (by decide)) q79) s_X12_138 ⟨rfl, rfl, ⟨Nat.le_of_ble_eq_true rfl, Nat.le_of_ble_eq_true rfl⟩, ⟨Nat.le_of_ble_eq_true rfl, Nat.le_of_ble_eq_true rfl⟩⟩ hz_a0 hk_a0 (by decide) rfl rfl hl.1 rfl (Nat.le_of_ble_eq_true rfl) dX12_fact_17) rfl rfl (fun x86 H locs M83 R84 J82 hS f80 g81 E85 => ?_)
        have eR84 := Fr.nil g81 rfl
        subst eR84
        obtain ⟨h_x86, p87⟩ := E85
        obtain ⟨x90, k88, h89, q91, z92, z93⟩ := p87
        have k88 : M83 a0 13 = x90 := k88
        have z94 : ¬ x86 = 0 → chF 97 122 Ma tb x90 tp := fun h => chF.rf (chF.fr (z93 h) f80 hk_tb rfl) hS.2.2.1 hk_tb rfl
        refine lv_if_eq (tgt := 43) hx hb dX12_fact_20 (by decide) (fun c95 => ?_) (fun c95 => ?_)
        · have q96 : x86.toInt = 0 := ti_eq c95
          have h97 : iv 0 0 x86 := ⟨by have := (h_x86).1; have := ((iv_c (c := 0) (n := 0) (by decide))).1; omega, by have := (h_x86).2; have := ((iv_c (c := 0) (n := 0) (by decide))).2; omega⟩
          refine lv_iload_n hx hb dX12_fact_43 rfl (lv_at hl 0 rfl) ?_
          refine lv_bipush (v := 91) hx hb dX12_fact_44 (by decide) ?_
          refine lv_icmp_ne (tgt := 72) hx hb dX12_fact_46 (by decide) (fun c98 => ?_) (fun c98 => ?_)
          · have q99 : ¬ x69.toInt = 91 := ti_ne c98
            refine lv_goto (tgt := 2) hx hb dX12_fact_72 (by decide) ?_
            have k100 : M83 a0 21 = x9 := ((Fr.kp (k := 21) f80 hk_a0 rfl).trans (Fr.kp (k := 21) f63 hk_a0 rfl)).trans k10
            have k101 : M83 lg tq.toNatClampNeg = x11 := ((Fr.kpa f80 hk_lg rfl tq.toNatClampNeg).trans (Fr.kpa f63 hk_lg rfl tq.toNatClampNeg)).trans k12
            have k102 : M83 a0 17 = x13 := ((Fr.kp (k := 17) f80 hk_a0 rfl).trans (Fr.kp (k := 17) f63 hk_a0 rfl)).trans k14
            have w103 : nx.toInt ≤ x90.toInt ∧ x90.toInt ≤ tp.toInt ∧ x11.toInt + x9.toInt ≤ x90.toInt ∧ x11.toInt = le.toInt ∧ x13.toInt = md.toInt := by
              have := (h_le).1; have := (h_le).2; have := (h_md).1; have := (h_md).2; have := (h_nx).1; have := (h_nx).2; have := (h_on).1; have := (h_on).2; have := (h_tp).1; have := (h_tp).2; have := (h_tq).1; have := (h_tq).2; have := (h_x11).1; have := (h_x11).2; have := (h_x13).1; have := (h_x13).2; have := (h_x69).1; have := (h_x69).2; have := (h_x7).1; have := (h_x7).2; have := (h72).1; have := (h72).2; have := (h97).1; have := (h97).2; have := (h_x9).1; have := (h_x9).2; have := (h89).1; have := (h89).2; omega
            have w104 : SEG M83 sg tq.toNatClampNeg sb x11.toNatClampNeg sh := (SEG.to (SEG.to w1_2 (fun j _ _ => Fr.kpa f63 hk_sg rfl j)) (fun j _ _ => Fr.kpa f80 hk_sg rfl j))
            have w105 : ∀ j, j < 400 * tq.toNatClampNeg + le.toNatClampNeg → M83 sg j = Ma sg j := (fun j hj => (Fr.kpa f80 hk_sg rfl j).trans ((fun j hj => (Fr.kpa f63 hk_sg rfl j).trans (w2_2 j hj)) j hj))
            have w106 : nbo M83 op x9.toNatClampNeg = sh := ((nbo_to _ (fun j _ => Fr.kpa f80 hk_op rfl j)).trans ((nbo_to _ (fun j _ => Fr.kpa f63 hk_op rfl j)).trans w3_2))
            have w107 : opK M83 op x9.toNatClampNeg := (opK.to (opK.to w4_2 (fun j _ => Fr.kpa f63 hk_op rfl j)) (fun j _ => Fr.kpa f80 hk_op rfl j))
            have hm108 : 2 * (400 - x90.toInt) + (0 : Int32).toInt < (n_2 : Int) := by
              have := (h_le).1; have := (h_le).2; have := (h_md).1; have := (h_md).2; have := (h_nx).1; have := (h_nx).2; have := (h_on).1; have := (h_on).2; have := (h_tp).1; have := (h_tp).2; have := (h_tq).1; have := (h_tq).2; have := (h_x11).1; have := (h_x11).2; have := (h_x13).1; have := (h_x13).2; have := (h_x69).1; have := (h_x69).2; have := (h_x7).1; have := (h_x7).2; have := (h72).1; have := (h72).2; have := (h97).1; have := (h97).2; have := (h_x9).1; have := (h_x9).2; have := (h89).1; have := (h89).2; have : (0 : Int32).toInt = 0 := (by decide); omega
            exact ih_2 0 x90 x9 x11 x13 M83 R3 J82 H locs _ (iv_mono (iv_c (c := 0) (n := 0) (by decide)) (by decide) (by decide)) (iv_mono h89 (by decide) (by decide)) k88 h_x9 k100 h_x11 k101 h_x13 k102 w103 w104 w105 w106 w107 hm108 hS (lv_sub hl [1, 2] rfl)
          · have q109 : x69.toInt = 91 := ti_eq c98
            have h110 : iv 91 91 x69 := ⟨by have := (h_x69).1; have := ((iv_c (c := 91) (n := 91) (by decide))).1; omega, by have := (h_x69).2; have := ((iv_c (c := 91) (n := 91) (by decide))).2; omega⟩
            refine lv_aload_n hx hb dX12_fact_49 rfl (lv_at hl 2 rfl) ?_
            refine lv_bipush (v := 91) hx hb dX12_fact_50 (by decide) ?_
            have k111 : R3 a0 20 = some op := (Fr.kp (k := 20) g6 hk_a0 rfl).trans k_op
            have k112 : M83 a0 21 = x9 := ((Fr.kp (k := 21) f80 hk_a0 rfl).trans (Fr.kp (k := 21) f63 hk_a0 rfl)).trans k10
            have h113 : iv 0 399 x9 := by
              have := (h_le).1; have := (h_le).2; have := (h_md).1; have := (h_md).2; have := (h_nx).1; have := (h_nx).2; have := (h_on).1; have := (h_on).2; have := (h_tp).1; have := (h_tp).2; have := (h_tq).1; have := (h_tq).2; have := (h_x11).1; have := (h_x11).2; have := (h_x13).1; have := (h_x13).2; have := (h_x7).1; have := (h_x7).2; have := (h72).1; have := (h72).2; have := (h_x9).1; have := (h_x9).2; have := (h89).1; have := (h89).2; exact ⟨by omega, by omega⟩
            refine tw_goi hS (md_runV (As := [.int 91]) (rest := []) hx hb hml hown hW hK hT hS.1 (t_X12_opens l D cy tx base Z K N M83 R3 J82 hS.2.1 a0 hz_a0 hk_a0 91 (iv_mono (iv_c (c := 91) (n := 91) (by decide)) (by decide) (by decide)) op k111 x9 k112 h113) s_X12_221 ⟨rfl, rfl, ⟨Nat.le_of_ble_eq_true rfl, Nat.le_of_ble_eq_true rfl⟩, ⟨Nat.le_of_ble_eq_true rfl, Nat.le_of_ble_eq_true rfl⟩⟩ hz_a0 hk_a0 (by decide) rfl rfl hl.1 rfl (Nat.le_of_ble_eq_true rfl) dX12_fact_52) rfl rfl (fun x120 H locs M117 R118 J116 hS f114 g115 E119 => ?_)
            have eR118 := Fr.nil g115 rfl
            subst eR118
            obtain ⟨h_x120, p121, p122⟩ := E119
            have z123 : x120 = 0 → ¬ (M117 a0 14).toInt = 0 := p122
            refine lv_if_ne (tgt := 60) hx hb dX12_fact_55 (by decide) (fun c124 => ?_) (fun c124 => ?_)
            · have q125 : ¬ x120.toInt = 0 := ti_ne c124
              have h126 : iv 1 1 x120 := ⟨by have := (h_x120).1; have := ((iv_c (c := 0) (n := 0) (by decide))).1; have := ((iv_c (c := 0) (n := 0) (by decide))).2; omega, by have := (h_x120).2; have := ((iv_c (c := 0) (n := 0) (by decide))).1; have := ((iv_c (c := 0) (n := 0) (by decide))).2; omega⟩
              obtain ⟨x129, k128, h127, zp126, zq126, zr126⟩ := p121 c124
              have k128 : M117 a0 21 = x129 := k128
              have za126 := ti_cl (x := x9) (by have := (h_x9).1; omega); have zb126 := ti_cl (x := x129) (by have := (h127).1; omega)
              have zs126 : ∀ j, j < x9.toNatClampNeg → M117 op j = M83 op j := fun j hj => zr126 j (by omega)
              have z130 : nbo M117 op x129.toNatClampNeg = sh := by rw [nbo_top (x := x9.toNatClampNeg) (by omega) (by rw [zq126]; decide), nbo_to _ zs126]; exact ((nbo_to _ (fun j _ => Fr.kpa f80 hk_op rfl j)).trans ((nbo_to _ (fun j _ => Fr.kpa f63 hk_op rfl j)).trans w3_2))
              have z131 : opK M117 op x129.toNatClampNeg := fun j hj => by by_cases q : j = x9.toNatClampNeg; (· rw [q, zq126]; decide); (· rw [zr126 j q]; exact (opK.to (opK.to w4_2 (fun j _ => Fr.kpa f63 hk_op rfl j)) (fun j _ => Fr.kpa f80 hk_op rfl j)) j (by omega))
              refine lv_aload_n hx hb dX12_fact_60 rfl (lv_at hl 2 rfl) ?_
              refine lv_dup hx hb dX12_fact_61 rfl ?_
              have k132 : M117 a0 13 = x90 := (Fr.kp (k := 13) f114 hk_a0 rfl).trans k88
              refine tw_getk hx hb hW hown hK hS f_X12_127_11 hz_a0 hk_a0 (v := x90) k132 dX12_fact_62 ?_
              refine lv_iconst (v := 1) hx hb dX12_fact_65 (by decide) ?_
              refine tw_iadd (lo := 1) (hi := 401) hx hb h89 (iv_c (c := 1) (n := 1) (by decide)) ⟨by decide, by decide⟩ ⟨by decide, by decide⟩ dX12_fact_66 (fun x135 e134 h133 => ?_)
              have e134 : x135.toInt = x90.toInt + 1 := e134
              have h138 : iv 0 400 x135 := by
                have := (h_le).1; have := (h_le).2; have := (h_md).1; have := (h_md).2; have := (h_nx).1; have := (h_nx).2; have := (h_on).1; have := (h_on).2; have := (h_tp).1; have := (h_tp).2; have := (h_tq).1; have := (h_tq).2; have := (h_x11).1; have := (h_x11).2; have := (h127).1; have := (h127).2; have := (h_x13).1; have := (h_x13).2; have := (h133).1; have := (h133).2; have := (h110).1; have := (h110).2; have := (h_x7).1; have := (h_x7).2; have := (h72).1; have := (h72).2; have := (h97).1; have := (h97).2; have := (h_x9).1; have := (h_x9).2; have := (h89).1; have := (h89).2; exact ⟨by omega, by omega⟩
              refine tw_puti hx hb hW hown hK hS f_X12_127_11 hz_a0 hk_a0 rfl rfl (lo := 0) (hi := 400) rfl h138 rfl dX12_fact_67 (fun H locs M139 hS k136 f137 => ?_)
              refine lv_iconst (v := 1) hx hb dX12_fact_70 (by decide) ?_
              refine lv_istore_n (lv' := [(1, .int 1), (2, .int x69), (0, .ref (base + a0))]) hx hb dX12_fact_71 rfl hl (by decide) rfl (fun ls hl => ?_)
              refine lv_goto (tgt := 2) hx hb dX12_fact_72 (by decide) ?_
              have k140 : M139 a0 21 = x129 := (Fr.kp (k := 21) f137 hk_a0 rfl).trans k128
              have k141 : M139 lg tq.toNatClampNeg = x11 := ((Fr.kpa f137 hk_lg rfl tq.toNatClampNeg).trans ((Fr.kpa f114 hk_lg rfl tq.toNatClampNeg).trans ((Fr.kpa f80 hk_lg rfl tq.toNatClampNeg).trans (Fr.kpa f63 hk_lg rfl tq.toNatClampNeg)))).trans k12
              have k142 : M139 a0 17 = x13 := ((Fr.kp (k := 17) f137 hk_a0 rfl).trans ((Fr.kp (k := 17) f114 hk_a0 rfl).trans ((Fr.kp (k := 17) f80 hk_a0 rfl).trans (Fr.kp (k := 17) f63 hk_a0 rfl)))).trans k14
              have w143 : nx.toInt ≤ x135.toInt ∧ x135.toInt ≤ tp.toInt ∧ x11.toInt + x129.toInt ≤ x135.toInt ∧ x11.toInt = le.toInt ∧ x13.toInt = md.toInt := by
                have := (h_le).1; have := (h_le).2; have := (h_md).1; have := (h_md).2; have := (h_nx).1; have := (h_nx).2; have := (h_on).1; have := (h_on).2; have := (h_tp).1; have := (h_tp).2; have := (h_tq).1; have := (h_tq).2; have := (h_x11).1; have := (h_x11).2; have := (h127).1; have := (h127).2; have := (h_x13).1; have := (h_x13).2; have := (h133).1; have := (h133).2; have := (h110).1; have := (h110).2; have := (h_x7).1; have := (h_x7).2; have := (h72).1; have := (h72).2; have := (h97).1; have := (h97).2; have := (h_x9).1; have := (h_x9).2; have := (h89).1; have := (h89).2; omega
              have w144 : SEG M139 sg tq.toNatClampNeg sb x11.toNatClampNeg sh := (SEG.to (SEG.to (SEG.to (SEG.to w1_2 (fun j _ _ => Fr.kpa f63 hk_sg rfl j)) (fun j _ _ => Fr.kpa f80 hk_sg rfl j)) (fun j _ _ => Fr.kpa f114 hk_sg rfl j)) (fun j _ _ => Fr.kpa f137 hk_sg rfl j))
              have w145 : ∀ j, j < 400 * tq.toNatClampNeg + le.toNatClampNeg → M139 sg j = Ma sg j := (fun j hj => (Fr.kpa f137 hk_sg rfl j).trans ((fun j hj => (Fr.kpa f114 hk_sg rfl j).trans ((fun j hj => (Fr.kpa f80 hk_sg rfl j).trans ((fun j hj => (Fr.kpa f63 hk_sg rfl j).trans (w2_2 j hj)) j hj)) j hj)) j hj))
              have w146 : nbo M139 op x129.toNatClampNeg = sh := ((nbo_to _ (fun j _ => Fr.kpa f137 hk_op rfl j)).trans z130)
              have w147 : opK M139 op x129.toNatClampNeg := (opK.to z131 (fun j _ => Fr.kpa f137 hk_op rfl j))
              have hm148 : 2 * (400 - x135.toInt) + (1 : Int32).toInt < (n_2 : Int) := by
                have := (h_le).1; have := (h_le).2; have := (h_md).1; have := (h_md).2; have := (h_nx).1; have := (h_nx).2; have := (h_on).1; have := (h_on).2; have := (h_tp).1; have := (h_tp).2; have := (h_tq).1; have := (h_tq).2; have := (h_x11).1; have := (h_x11).2; have := (h127).1; have := (h127).2; have := (h_x13).1; have := (h_x13).2; have := (h133).1; have := (h133).2; have := (h110).1; have := (h110).2; have := (h_x7).1; have := (h_x7).2; have := (h72).1; have := (h72).2; have := (h97).1; have := (h97).2; have := (h_x9).1; have := (h_x9).2; have := (h89).1; have := (h89).2; have : (1 : Int32).toInt = 1 := (by decide); omega
              exact ih_2 1 x135 x129 x11 x13 M139 R3 J116 H locs _ (iv_mono (iv_c (c := 1) (n := 1) (by decide)) (by decide) (by decide)) (iv_mono h133 (by decide) (by decide)) k136 (iv_mono h127 (by decide) (by decide)) k140 h_x11 k141 h_x13 k142 w143 w144 w145 w146 w147 hm148 hS (lv_sub hl [0, 2] rfl)
            · have q149 : x120.toInt = 0 := ti_eq c124
              have z150 := z123 c124
              have h151 : iv 0 0 x120 := ⟨by have := (h_x120).1; have := ((iv_c (c := 0) (n := 0) (by decide))).1; omega, by have := (h_x120).2; have := ((iv_c (c := 0) (n := 0) (by decide))).2; omega⟩
              refine lv_iconst (v := 0) hx hb dX12_fact_58 (by decide) ?_
              have k152 : M117 a0 13 = x90 := (Fr.kp (k := 13) f114 hk_a0 rfl).trans k88
              have q153 : nx.toInt ≤ x90.toInt ∧ x90.toInt ≤ tp.toInt := by
                have := (h_le).1; have := (h_le).2; have := (h_md).1; have := (h_md).2; have := (h_nx).1; have := (h_nx).2; have := (h_on).1; have := (h_on).2; have := (h_tp).1; have := (h_tp).2; have := (h_tq).1; have := (h_tq).2; have := (h_x11).1; have := (h_x11).2; have := (h_x13).1; have := (h_x13).2; have := (h110).1; have := (h110).2; have := (h_x7).1; have := (h_x7).2; have := (h72).1; have := (h72).2; have := (h97).1; have := (h97).2; have := (h_x9).1; have := (h_x9).2; have := (h89).1; have := (h89).2; omega
              exact tw_endz hx hb hr hlocks hK hT hS hQ rfl (⟨(iv_mono (iv_c (c := 0) (n := 0) (by decide)) (by decide) (by decide)), ⟨⟨x90, k152, h89, q153.1, q153.2⟩, (fun j hj => (Fr.kpa f114 hk_sg rfl j).trans ((fun j hj => (Fr.kpa f80 hk_sg rfl j).trans ((fun j hj => (Fr.kpa f63 hk_sg rfl j).trans (w2_2 j hj)) j hj)) j hj)), (fun h => absurd rfl h)⟩, (fun _ => (show ¬ (M117 a0 14).toInt = 0 from z150))⟩) dX12_fact_59
        · have q154 : ¬ x86.toInt = 0 := ti_ne c95
          have h155 : iv 1 1 x86 := ⟨by have := (h_x86).1; have := ((iv_c (c := 0) (n := 0) (by decide))).1; have := ((iv_c (c := 0) (n := 0) (by decide))).2; omega, by have := (h_x86).2; have := ((iv_c (c := 0) (n := 0) (by decide))).1; have := ((iv_c (c := 0) (n := 0) (by decide))).2; omega⟩
          have z156 := z94 c95
          have q157 := z156.1
          refine lv_aload_n hx hb dX12_fact_23 rfl (lv_at hl 2 rfl) ?_
          refine lv_bipush (v := 11) hx hb dX12_fact_24 (by decide) ?_
          have k158 : R3 a0 20 = some op := (Fr.kp (k := 20) g6 hk_a0 rfl).trans k_op
          have k159 : M83 a0 21 = x9 := ((Fr.kp (k := 21) f80 hk_a0 rfl).trans (Fr.kp (k := 21) f63 hk_a0 rfl)).trans k10
          have h160 : iv 0 399 x9 := by
            have := (h_le).1; have := (h_le).2; have := (h_md).1; have := (h_md).2; have := (h_nx).1; have := (h_nx).2; have := (h_on).1; have := (h_on).2; have := (h_tp).1; have := (h_tp).2; have := (h_tq).1; have := (h_tq).2; have := (h_x11).1; have := (h_x11).2; have := (h_x13).1; have := (h_x13).2; have := (h_x7).1; have := (h_x7).2; have := (h72).1; have := (h72).2; have := (h_x9).1; have := (h_x9).2; have := (h89).1; have := (h89).2; exact ⟨by omega, by omega⟩
          refine tw_goi hS (md_runV (As := [.int 11]) (rest := []) hx hb hml hown hW hK hT hS.1 (t_X12_opens l D cy tx base Z K N M83 R3 J82 hS.2.1 a0 hz_a0 hk_a0 11 (iv_mono (iv_c (c := 11) (n := 11) (by decide)) (by decide) (by decide)) op k158 x9 k159 h160) s_X12_221 ⟨rfl, rfl, ⟨Nat.le_of_ble_eq_true rfl, Nat.le_of_ble_eq_true rfl⟩, ⟨Nat.le_of_ble_eq_true rfl, Nat.le_of_ble_eq_true rfl⟩⟩ hz_a0 hk_a0 (by decide) rfl rfl hl.1 rfl (Nat.le_of_ble_eq_true rfl) dX12_fact_26) rfl rfl (fun x167 H locs M164 R165 J163 hS f161 g162 E166 => ?_)
          have eR165 := Fr.nil g162 rfl
          subst eR165
          obtain ⟨h_x167, p168, p169⟩ := E166
          have z170 : x167 = 0 → ¬ (M164 a0 14).toInt = 0 := p169
          refine lv_if_ne (tgt := 34) hx hb dX12_fact_29 (by decide) (fun c171 => ?_) (fun c171 => ?_)
          · have q172 : ¬ x167.toInt = 0 := ti_ne c171
            have h173 : iv 1 1 x167 := ⟨by have := (h_x167).1; have := ((iv_c (c := 0) (n := 0) (by decide))).1; have := ((iv_c (c := 0) (n := 0) (by decide))).2; omega, by have := (h_x167).2; have := ((iv_c (c := 0) (n := 0) (by decide))).1; have := ((iv_c (c := 0) (n := 0) (by decide))).2; omega⟩
            obtain ⟨x176, k175, h174, zp173, zq173, zr173⟩ := p168 c171
            have k175 : M164 a0 21 = x176 := k175
            have za173 := ti_cl (x := x9) (by have := (h_x9).1; omega); have zb173 := ti_cl (x := x176) (by have := (h174).1; omega)
            have zs173 : ∀ j, j < x9.toNatClampNeg → M164 op j = M83 op j := fun j hj => zr173 j (by omega)
            have z177 : nbo M164 op x176.toNatClampNeg = sh := by rw [nbo_top (x := x9.toNatClampNeg) (by omega) (by rw [zq173]; decide), nbo_to _ zs173]; exact ((nbo_to _ (fun j _ => Fr.kpa f80 hk_op rfl j)).trans ((nbo_to _ (fun j _ => Fr.kpa f63 hk_op rfl j)).trans w3_2))
            have z178 : opK M164 op x176.toNatClampNeg := fun j hj => by by_cases q : j = x9.toNatClampNeg; (· rw [q, zq173]; decide); (· rw [zr173 j q]; exact (opK.to (opK.to w4_2 (fun j _ => Fr.kpa f63 hk_op rfl j)) (fun j _ => Fr.kpa f80 hk_op rfl j)) j (by omega))
            refine lv_aload_n hx hb dX12_fact_34 rfl (lv_at hl 2 rfl) ?_
            have k179 : R3 a0 0 = some tb := (Fr.kp (k := 0) g6 hk_a0 rfl).trans k_tb
            have k180 : M164 a0 13 = x90 := (Fr.kp (k := 13) f161 hk_a0 rfl).trans k88
            have k181 : M164 a0 1 = tp := ((Fr.kp (k := 1) f161 hk_a0 rfl).trans ((Fr.kp (k := 1) f80 hk_a0 rfl).trans ((Fr.kp (k := 1) f63 hk_a0 rfl).trans (Fr.kp (k := 1) f5 hk_a0 rfl)))).trans k_tp
            have q182 : x90.toInt ≤ tp.toInt := by
              have := (h_le).1; have := (h_le).2; have := (h_md).1; have := (h_md).2; have := (h_nx).1; have := (h_nx).2; have := (h_on).1; have := (h_on).2; have := (h_tp).1; have := (h_tp).2; have := (h_tq).1; have := (h_tq).2; have := (h_x11).1; have := (h_x11).2; have := (h_x13).1; have := (h_x13).2; have := (h174).1; have := (h174).2; have := (h_x69).1; have := (h_x69).2; have := (h_x7).1; have := (h_x7).2; have := (h72).1; have := (h72).2; have := (h155).1; have := (h155).2; have := (h_x9).1; have := (h_x9).2; have := (h89).1; have := (h89).2; omega
            refine tw_gov hS (md_runV (As := []) (rest := []) hx hb hml hown hW hK hT hS.1 (t_X12_passWord l D cy tx base Z K N M164 R3 J163 hS.2.1 a0 hz_a0 hk_a0 tb k179 x90 k180 (iv_mono h89 (by decide) (by decide)) tp k181 (iv_mono h_tp (by decide) (by decide)) q182) s_X12_142 ⟨rfl, rfl, ⟨Nat.le_of_ble_eq_true rfl, Nat.le_of_ble_eq_true rfl⟩, ⟨Nat.le_of_ble_eq_true rfl, Nat.le_of_ble_eq_true rfl⟩⟩ hz_a0 hk_a0 (by decide) rfl rfl hl.1 rfl (Nat.le_of_ble_eq_true rfl) dX12_fact_35) rfl rfl (fun H locs M186 R187 J185 hS f183 g184 E188 => ?_)
            have eR187 := Fr.nil g184 rfl
            subst eR187
            have p189 := E188
            obtain ⟨x192, k190, h191, q193, z195⟩ := p189
            have k190 : M186 a0 13 = x192 := k190
            have q196 := z195 (chF.rf (chF.fr z156 hS.2.2.1 hk_tb rfl) f183 hk_tb rfl)
            refine lv_iconst (v := 1) hx hb dX12_fact_38 (by decide) ?_
            refine lv_istore_n (lv' := [(1, .int 1), (2, .int x69), (0, .ref (base + a0))]) hx hb dX12_fact_39 rfl hl (by decide) rfl (fun ls hl => ?_)
            refine lv_goto (tgt := 72) hx hb dX12_fact_40 (by decide) ?_
            refine lv_goto (tgt := 2) hx hb dX12_fact_72 (by decide) ?_
            have k197 : M186 a0 21 = x176 := (Fr.kp (k := 21) f183 hk_a0 rfl).trans k175
            have k198 : M186 lg tq.toNatClampNeg = x11 := ((Fr.kpa f183 hk_lg rfl tq.toNatClampNeg).trans ((Fr.kpa f161 hk_lg rfl tq.toNatClampNeg).trans ((Fr.kpa f80 hk_lg rfl tq.toNatClampNeg).trans (Fr.kpa f63 hk_lg rfl tq.toNatClampNeg)))).trans k12
            have k199 : M186 a0 17 = x13 := ((Fr.kp (k := 17) f183 hk_a0 rfl).trans ((Fr.kp (k := 17) f161 hk_a0 rfl).trans ((Fr.kp (k := 17) f80 hk_a0 rfl).trans (Fr.kp (k := 17) f63 hk_a0 rfl)))).trans k14
            have w200 : nx.toInt ≤ x192.toInt ∧ x192.toInt ≤ tp.toInt ∧ x11.toInt + x176.toInt ≤ x192.toInt ∧ x11.toInt = le.toInt ∧ x13.toInt = md.toInt := by
              have := (h_le).1; have := (h_le).2; have := (h_md).1; have := (h_md).2; have := (h_nx).1; have := (h_nx).2; have := (h_on).1; have := (h_on).2; have := (h_tp).1; have := (h_tp).2; have := (h_tq).1; have := (h_tq).2; have := (h_x11).1; have := (h_x11).2; have := (h_x13).1; have := (h_x13).2; have := (h174).1; have := (h174).2; have := (h191).1; have := (h191).2; have := (h_x69).1; have := (h_x69).2; have := (h_x7).1; have := (h_x7).2; have := (h72).1; have := (h72).2; have := (h155).1; have := (h155).2; have := (h_x9).1; have := (h_x9).2; have := (h89).1; have := (h89).2; omega
            have w201 : SEG M186 sg tq.toNatClampNeg sb x11.toNatClampNeg sh := (SEG.to (SEG.to (SEG.to (SEG.to w1_2 (fun j _ _ => Fr.kpa f63 hk_sg rfl j)) (fun j _ _ => Fr.kpa f80 hk_sg rfl j)) (fun j _ _ => Fr.kpa f161 hk_sg rfl j)) (fun j _ _ => Fr.kpa f183 hk_sg rfl j))
            have w202 : ∀ j, j < 400 * tq.toNatClampNeg + le.toNatClampNeg → M186 sg j = Ma sg j := (fun j hj => (Fr.kpa f183 hk_sg rfl j).trans ((fun j hj => (Fr.kpa f161 hk_sg rfl j).trans ((fun j hj => (Fr.kpa f80 hk_sg rfl j).trans ((fun j hj => (Fr.kpa f63 hk_sg rfl j).trans (w2_2 j hj)) j hj)) j hj)) j hj))
            have w203 : nbo M186 op x176.toNatClampNeg = sh := ((nbo_to _ (fun j _ => Fr.kpa f183 hk_op rfl j)).trans z177)
            have w204 : opK M186 op x176.toNatClampNeg := (opK.to z178 (fun j _ => Fr.kpa f183 hk_op rfl j))
            have hm205 : 2 * (400 - x192.toInt) + (1 : Int32).toInt < (n_2 : Int) := by
              have := (h_le).1; have := (h_le).2; have := (h_md).1; have := (h_md).2; have := (h_nx).1; have := (h_nx).2; have := (h_on).1; have := (h_on).2; have := (h_tp).1; have := (h_tp).2; have := (h_tq).1; have := (h_tq).2; have := (h_x11).1; have := (h_x11).2; have := (h_x13).1; have := (h_x13).2; have := (h174).1; have := (h174).2; have := (h191).1; have := (h191).2; have := (h_x69).1; have := (h_x69).2; have := (h_x7).1; have := (h_x7).2; have := (h72).1; have := (h72).2; have := (h155).1; have := (h155).2; have := (h_x9).1; have := (h_x9).2; have := (h89).1; have := (h89).2; have : (1 : Int32).toInt = 1 := (by decide); omega
            exact ih_2 1 x192 x176 x11 x13 M186 R3 J185 H locs _ (iv_mono (iv_c (c := 1) (n := 1) (by decide)) (by decide) (by decide)) (iv_mono h191 (by decide) (by decide)) k190 (iv_mono h174 (by decide) (by decide)) k197 h_x11 k198 h_x13 k199 w200 w201 w202 w203 w204 hm205 hS (lv_sub hl [0, 2] rfl)
          · have q206 : x167.toInt = 0 := ti_eq c171
            have z207 := z170 c171
            have h208 : iv 0 0 x167 := ⟨by have := (h_x167).1; have := ((iv_c (c := 0) (n := 0) (by decide))).1; omega, by have := (h_x167).2; have := ((iv_c (c := 0) (n := 0) (by decide))).2; omega⟩
            refine lv_iconst (v := 0) hx hb dX12_fact_32 (by decide) ?_
            have k209 : M164 a0 13 = x90 := (Fr.kp (k := 13) f161 hk_a0 rfl).trans k88
            have q210 : nx.toInt ≤ x90.toInt ∧ x90.toInt ≤ tp.toInt := by
              have := (h_le).1; have := (h_le).2; have := (h_md).1; have := (h_md).2; have := (h_nx).1; have := (h_nx).2; have := (h_on).1; have := (h_on).2; have := (h_tp).1; have := (h_tp).2; have := (h_tq).1; have := (h_tq).2; have := (h_x11).1; have := (h_x11).2; have := (h_x13).1; have := (h_x13).2; have := (h_x69).1; have := (h_x69).2; have := (h_x7).1; have := (h_x7).2; have := (h72).1; have := (h72).2; have := (h155).1; have := (h155).2; have := (h_x9).1; have := (h_x9).2; have := (h89).1; have := (h89).2; omega
            exact tw_endz hx hb hr hlocks hK hT hS hQ rfl (⟨(iv_mono (iv_c (c := 0) (n := 0) (by decide)) (by decide) (by decide)), ⟨⟨x90, k209, h89, q210.1, q210.2⟩, (fun j hj => (Fr.kpa f161 hk_sg rfl j).trans ((fun j hj => (Fr.kpa f80 hk_sg rfl j).trans ((fun j hj => (Fr.kpa f63 hk_sg rfl j).trans (w2_2 j hj)) j hj)) j hj)), (fun h => absurd rfl h)⟩, (fun _ => (show ¬ (M164 a0 14).toInt = 0 from z207))⟩) dX12_fact_33
  have w211 : nx.toInt ≤ nx.toInt ∧ nx.toInt ≤ tp.toInt ∧ le.toInt + on.toInt ≤ nx.toInt ∧ le.toInt = le.toInt ∧ md.toInt = md.toInt := by
    have := (h_le).1; have := (h_le).2; have := (h_md).1; have := (h_md).2; have := (h_nx).1; have := (h_nx).2; have := (h_on).1; have := (h_on).2; have := (h_tp).1; have := (h_tp).2; have := (h_tq).1; have := (h_tq).2; omega
  have w212 : SEG Ma sg tq.toNatClampNeg sb le.toNatClampNeg sh := hseg
  have w213 : ∀ j, j < 400 * tq.toNatClampNeg + le.toNatClampNeg → Ma sg j = Ma sg j := (fun j _ => rfl)
  have w214 : nbo Ma op on.toNatClampNeg = sh := hnb
  have w215 : opK Ma op on.toNatClampNeg := hopk
  have hm216 : 2 * (400 - nx.toInt) + (1 : Int32).toInt < (((802 : Nat) : Int) : Int) := by
    have := (h_le).1; have := (h_le).2; have := (h_md).1; have := (h_md).2; have := (h_nx).1; have := (h_nx).2; have := (h_on).1; have := (h_on).2; have := (h_tp).1; have := (h_tp).2; have := (h_tq).1; have := (h_tq).2; have : (1 : Int32).toInt = 1 := (by decide); omega
  exact W2_2 802 1 nx on le md Ma Ra Ja s.heap [] _ (iv_mono (iv_c (c := 1) (n := 1) (by decide)) (by decide) (by decide)) (iv_mono h_nx (by decide) (by decide)) k_nx h_on k_on h_le k_le h_md k_md w211 w212 w213 w214 w215 hm216 hS hl
