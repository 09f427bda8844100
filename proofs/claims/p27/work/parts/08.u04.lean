def Lt_X12_fact : WL := [(12, 13, 16), (12, 17, 19), (12, 21, 22), (14, 0, 2000000), (25, 0, 2000000), (26, 0, 2000000)]
def LRt_X12_fact : WL := []
set_option maxRecDepth 100000 in
set_option maxHeartbeats 4000000 in
theorem t_X12_fact (l : Launch) (D : va_G) (cy : Nat → ClassId) (tx : (Nat → Nat) × (Nat → Nat)) (base Z : Nat) (K N : Nat → Nat) (Ma : MT) (Ra : RT) (Ja : JT) (hTy : Ty Z K N Ma Ra) (a0 : Nat) (hz_a0 : a0 < Z) (hk_a0 : K a0 = 12) (tb : Nat) (k_tb : Ra a0 0 = some tb) (nx : Int32) (k_nx : Ma a0 13 = nx) (h_nx : iv 0 400 nx) (tp : Int32) (k_tp : Ma a0 1 = tp) (h_tp : iv 0 400 tp) (hnt : nx.toInt ≤ tp.toInt) (lg : Nat) (k_lg : Ra a0 4 = some lg) (sg : Nat) (k_sg : Ra a0 3 = some sg) (tx : Int32) (k_tx : Ma a0 16 = tx) (h_tx : iv 0 5 tx) (le : Int32) (k_le : Ma lg tx.toNatClampNeg = le) (h_le : iv 0 400 le) (md : Int32) (k_md : Ma a0 17 = md) (h_md : iv 0 60 md) (op : Nat) (k_op : Ra a0 20 = some op) (on : Int32) (k_on : Ma a0 21 = on) (h_on : iv 0 400 on) (sb : Nat) (sh : Nat) (hseg : SEG Ma sg tx.toNatClampNeg sb le.toNatClampNeg sh) (hsb : (sb : Int) ≤ le.toInt) (hsh : (sh : Int) ≤ md.toInt) (hbud : le.toInt + on.toInt ≤ nx.toInt) (hopk : opK Ma op on.toNatClampNeg) (hnb : nbo Ma op on.toNatClampNeg = sh) : Met l yX12_fact [Cond.code yX12_fact cX12_fact 3 (some .boolean)] (md_rm 8 0 0) (va_Pc [.ref (base + a0)] (md_U D cy tx base Z K N Ma Ra Ja)) (mQi D cy tx base (fun r u => TP Z K N Lt_X12_fact LRt_X12_fact Ma Ra u ∧ (iv 0 1 r ∧ ((∃ x0 : Int32, u.2.2.2.1 a0 13 = x0 ∧ iv 0 400 x0 ∧ nx.toInt ≤ x0.toInt ∧ x0.toInt ≤ tp.toInt) ∧ (∀ j, j < 400 * tx.toNatClampNeg + le.toNatClampNeg → u.2.2.2.1 sg j = Ma sg j) ∧ (¬ r = 0 → ∃ x0 x1 x2 x3 : Int32, u.2.2.2.1 a0 13 = x0 ∧ u.2.2.2.1 a0 21 = x1 ∧ u.2.2.2.1 lg tx.toNatClampNeg = x2 ∧ u.2.2.2.1 a0 17 = x3 ∧ iv 0 400 x0 ∧ iv 0 400 x1 ∧ iv 0 400 x2 ∧ (nx.toInt ≤ x0.toInt ∧ x0.toInt ≤ tp.toInt ∧ x2.toInt + x1.toInt ≤ x0.toInt ∧ le.toInt ≤ x2.toInt ∧ ((sh + 1 : Nat) : Int) ≤ x3.toInt) ∧ SEG u.2.2.2.1 sg tx.toNatClampNeg sb x2.toNatClampNeg (sh + 1) ∧ nbo u.2.2.2.1 op x1.toNatClampNeg = sh ∧ opK u.2.2.2.1 op x1.toNatClampNeg))))) 0 0 (fun q => base ≤ q) := by
  refine tw_ofW (L := Lt_X12_fact) (LR := LRt_X12_fact) (by decide) (Nat.le_of_ble_eq_true rfl) hTy ?_
  intro p e s m args below meth c Q ls hx hb hr hlocks hown hml hW hK hT hS hQ hl
  have hl : lv_has ls 3 [(0, .ref (base + a0))] := hl
  obtain ⟨hz_tb, hk_tb, hn_tb⟩ := hTy.refn hz_a0 hk_a0 (show rtR 12 0 = (13, 400, 0) from rfl) k_tb
  have hn_tb := hn_tb (by decide)
  obtain ⟨hz_lg, hk_lg, hn_lg⟩ := hTy.refn hz_a0 hk_a0 (show rtR 12 4 = (26, 7, 0) from rfl) k_lg
  have hn_lg := hn_lg (by decide)
  obtain ⟨hz_sg, hk_sg, hn_sg⟩ := hTy.refn hz_a0 hk_a0 (show rtR 12 3 = (25, 2400, 0) from rfl) k_sg
  have hn_sg := hn_sg (by decide)
  obtain ⟨hz_op, hk_op, hn_op⟩ := hTy.refn hz_a0 hk_a0 (show rtR 12 20 = (14, 400, 0) from rfl) k_op
  have hn_op := hn_op (by decide)
  refine lv_iconst (v := 1) hx hb dX12_fact_0 (by decide) ?_
  refine lv_istore_n (lv' := [(1, .int 1), (0, .ref (base + a0))]) hx hb dX12_fact_1 rfl hl (by decide) rfl (fun ls hl => ?_)
  have W2_2 : ∀ (n_2 : Nat) (x1 : Int32) (x7 : Int32) (x9 : Int32) (x11 : Int32) (x13 : Int32) (M2 : MT) (R3 : RT) (J4 : JT) (H : Heap) (locs : List Loc) (ls : Array Slot) (h_x1 : iv 0 1 x1) (h_x7 : iv 0 401 x7) (k8 : M2 a0 13 = x7) (h_x9 : iv 0 400 x9) (k10 : M2 a0 21 = x9) (h_x11 : iv 0 400 x11) (k12 : M2 lg tx.toNatClampNeg = x11) (h_x13 : iv 0 60 x13) (k14 : M2 a0 17 = x13) (w0_2 : nx.toInt ≤ x7.toInt ∧ x7.toInt ≤ tp.toInt ∧ x11.toInt + x9.toInt ≤ x7.toInt ∧ x11.toInt = le.toInt ∧ x13.toInt = md.toInt) (w1_2 : SEG M2 sg tx.toNatClampNeg sb x11.toNatClampNeg sh) (w2_2 : ∀ j, j < 400 * tx.toNatClampNeg + le.toNatClampNeg → M2 sg j = Ma sg j) (w3_2 : nbo M2 op x9.toNatClampNeg = sh) (w4_2 : opK M2 op x9.toNatClampNeg) (hm_2 : 2 * (400 - x7.toInt) + x1.toInt < (n_2 : Int)) (hS : SB D cy base Z K N Lt_X12_fact LRt_X12_fact Ma Ra M2 R3 J4 s H locs) (hl : lv_has ls 3 [(1, .int x1), (0, .ref (base + a0))]), W p l e (md_rm 8 0 0) s m args below meth c H locs 0 0 Q (F0 m 2 ls []) := by
    intro n_2
    induction n_2 with
    | zero =>
      intro x1 x7 x9 x11 x13 M2 R3 J4 H locs ls h_x1 h_x7 k8 h_x9 k10 h_x11 k12 h_x13 k14 w0_2 w1_2 w2_2 w3_2 w4_2 hm_2 hS hl
      exfalso
      have := (h_le).1; have := (h_le).2; have := (h_md).1; have := (h_md).2; have := (h_nx).1; have := (h_nx).2; have := (h_on).1; have := (h_on).2; have := (h_tp).1; have := (h_tp).2; have := (h_tx).1; have := (h_tx).2; have := (h_x1).1; have := (h_x1).2; have := (h_x11).1; have := (h_x11).2; have := (h_x13).1; have := (h_x13).2; have := (h_x7).1; have := (h_x7).2; have := (h_x9).1; have := (h_x9).2; omega
    | succ n_2 ih_2 =>
      intro x1 x7 x9 x11 x13 M2 R3 J4 H locs ls h_x1 h_x7 k8 h_x9 k10 h_x11 k12 h_x13 k14 w0_2 w1_2 w2_2 w3_2 w4_2 hm_2 hS hl
      have f5 := hS.2.2.1
      have g6 := hS.2.2.2
      refine lv_iload_n hx hb dX12_fact_2 rfl (lv_at hl 0 rfl) ?_
      refine lv_if_eq (tgt := 75) hx hb dX12_fact_3 (by decide) (fun c15 => ?_) (fun c15 => ?_)
      · have q16 : x1.toInt = 0 := ti_eq c15
        have h17 : iv 0 0 x1 := ⟨by have := (h_x1).1; have := ((iv_c (c := 0) (n := 0) (by decide))).1; omega, by have := (h_x1).2; have := ((iv_c (c := 0) (n := 0) (by decide))).2; omega⟩
        refine lv_aload_n hx hb dX12_fact_75 rfl (lv_at hl 1 rfl) ?_
        have k18 : R3 a0 0 = some tb := (Fr.kp (k := 0) g6 hk_a0 rfl).trans k_tb
        have h19 : iv 0 400 x7 := by
          have := (h_le).1; have := (h_le).2; have := (h_md).1; have := (h_md).2; have := (h_nx).1; have := (h_nx).2; have := (h_on).1; have := (h_on).2; have := (h_tp).1; have := (h_tp).2; have := (h_tx).1; have := (h_tx).2; have := (h_x11).1; have := (h_x11).2; have := (h_x13).1; have := (h_x13).2; have := (h_x7).1; have := (h_x7).2; have := (h_x9).1; have := (h_x9).2; exact ⟨by omega, by omega⟩
        have k20 : M2 a0 1 = tp := (Fr.kp (k := 1) f5 hk_a0 rfl).trans k_tp
        have q21 : x7.toInt ≤ tp.toInt := by
          have := (h_le).1; have := (h_le).2; have := (h_md).1; have := (h_md).2; have := (h_nx).1; have := (h_nx).2; have := (h_on).1; have := (h_on).2; have := (h_tp).1; have := (h_tp).2; have := (h_tx).1; have := (h_tx).2; have := (h_x11).1; have := (h_x11).2; have := (h_x13).1; have := (h_x13).2; have := (h_x7).1; have := (h_x7).2; have := (h_x9).1; have := (h_x9).2; omega
        have k22 : R3 a0 4 = some lg := (Fr.kp (k := 4) g6 hk_a0 rfl).trans k_lg
        have k23 : R3 a0 3 = some sg := (Fr.kp (k := 3) g6 hk_a0 rfl).trans k_sg
        have k24 : M2 a0 16 = tx := (Fr.kp (k := 16) f5 hk_a0 rfl).trans k_tx
        have q25 : ((sb : Nat) : Int) ≤ x11.toInt := by
          have := (h_le).1; have := (h_le).2; have := (h_md).1; have := (h_md).2; have := (h_nx).1; have := (h_nx).2; have := (h_on).1; have := (h_on).2; have := (h_tp).1; have := (h_tp).2; have := (h_tx).1; have := (h_tx).2; have := (h_x11).1; have := (h_x11).2; have := (h_x13).1; have := (h_x13).2; have := (h_x7).1; have := (h_x7).2; have := (h_x9).1; have := (h_x9).2; omega
        have q26 : ((sh : Nat) : Int) ≤ x13.toInt := by
          have := (h_le).1; have := (h_le).2; have := (h_md).1; have := (h_md).2; have := (h_nx).1; have := (h_nx).2; have := (h_on).1; have := (h_on).2; have := (h_tp).1; have := (h_tp).2; have := (h_tx).1; have := (h_tx).2; have := (h_x11).1; have := (h_x11).2; have := (h_x13).1; have := (h_x13).2; have := (h_x7).1; have := (h_x7).2; have := (h_x9).1; have := (h_x9).2; omega
        have q27 : x11.toInt ≤ x7.toInt := by
          have := (h_le).1; have := (h_le).2; have := (h_md).1; have := (h_md).2; have := (h_nx).1; have := (h_nx).2; have := (h_on).1; have := (h_on).2; have := (h_tp).1; have := (h_tp).2; have := (h_tx).1; have := (h_tx).2; have := (h_x11).1; have := (h_x11).2; have := (h_x13).1; have := (h_x13).2; have := (h_x7).1; have := (h_x7).2; have := (h_x9).1; have := (h_x9).2; omega
        refine tw_goi hS (md_runV (As := []) (rest := []) hx hb hml hown hW hK hT hS.1 (t_X12_compare l D cy tx base Z K N M2 R3 J4 hS.2.1 a0 hz_a0 hk_a0 tb k18 x7 k8 h19 tp k20 (iv_mono h_tp (by decide) (by decide)) q21 lg k22 sg k23 tx k24 (iv_mono h_tx (by decide) (by decide)) x11 k12 (iv_mono h_x11 (by decide) (by decide)) x13 k14 (iv_mono h_x13 (by decide) (by decide)) (sb) (sh) w1_2 q25 q26 q27) s_X12_224 ⟨rfl, rfl, ⟨Nat.le_of_ble_eq_true rfl, Nat.le_of_ble_eq_true rfl⟩, ⟨Nat.le_of_ble_eq_true rfl, Nat.le_of_ble_eq_true rfl⟩⟩ hz_a0 hk_a0 (by decide) rfl rfl hl.1 rfl (Nat.le_of_ble_eq_true rfl) dX12_fact_76) rfl rfl (fun x34 H locs M31 R32 J30 hS f28 g29 E33 => ?_)
        have eR32 := Fr.nil g29 rfl
        subst eR32
        obtain ⟨h_x34, p35⟩ := E33
        obtain ⟨zf35, ⟨x37, k38, h36, zu35, zv35⟩, zc35⟩ := p35
        have k38 : M31 a0 13 = x37 := k38
        have zw35 := ti_cl (x := le) (by have := h_le.1; omega); have zy35 := ti_cl (x := x11) (by have := (h_x11).1; omega)
        have z39 : ∀ j, j < 400 * tx.toNatClampNeg + le.toNatClampNeg → M31 sg j = Ma sg j := fun j hj => (zf35 j (by omega)).trans (w2_2 j hj)
        by_cases c40 : x34 = 0
        · subst c40
          have q41 : nx.toInt ≤ x37.toInt ∧ x37.toInt ≤ tp.toInt := by
            have := (h_le).1; have := (h_le).2; have := (h_md).1; have := (h_md).2; have := (h_nx).1; have := (h_nx).2; have := (h_on).1; have := (h_on).2; have := (h_tp).1; have := (h_tp).2; have := (h_tx).1; have := (h_tx).2; have := (h_x11).1; have := (h_x11).2; have := (h_x13).1; have := (h_x13).2; have := (h36).1; have := (h36).2; have := (h_x7).1; have := (h_x7).2; have := (h_x9).1; have := (h_x9).2; omega
          exact tw_endz hx hb hr hlocks hK hT hS hQ rfl (⟨(iv_mono (iv_c (c := 0) (n := 0) (by decide)) (by decide) (by decide)), ⟨⟨x37, k38, h36, q41.1, q41.2⟩, z39, fun h => absurd rfl h⟩⟩) dX12_fact_79
        · have zz41 := c40
          obtain ⟨x48, x44, x45, k49, k46, k47, h42, za41, zb41, zd41, z50⟩ := zc35 c40
          have ze41 : x48 = x37 := k49.symm.trans k38
          rw [ze41] at zb41
          have k46 : M31 lg tx.toNatClampNeg = x44 := k46
          have k47 : M31 a0 17 = x45 := k47
          have h43 : iv 0 60 x45 := by rw [← k47]; exact hS.2.1.int hz_a0 hk_a0 (show rgI 12 17 = (0, 60) from rfl)
          have q51 : nx.toInt ≤ x37.toInt ∧ x37.toInt ≤ tp.toInt := by
            have := (h_le).1; have := (h_le).2; have := (h_md).1; have := (h_md).2; have := (h_nx).1; have := (h_nx).2; have := (h_on).1; have := (h_on).2; have := (h_tp).1; have := (h_tp).2; have := (h_tx).1; have := (h_tx).2; have := (h_x11).1; have := (h_x11).2; have := (h_x13).1; have := (h_x13).2; have := (h36).1; have := (h36).2; have := (h42).1; have := (h42).2; have := (h_x7).1; have := (h_x7).2; have := (h_x9).1; have := (h_x9).2; omega
          have k52 : M31 a0 21 = x9 := (Fr.kp (k := 21) f28 hk_a0 rfl).trans k10
          have q53 : nx.toInt ≤ x37.toInt ∧ x37.toInt ≤ tp.toInt ∧ x44.toInt + x9.toInt ≤ x37.toInt ∧ le.toInt ≤ x44.toInt ∧ ((sh + 1 : Nat) : Int) ≤ x45.toInt := by
            have := (h_le).1; have := (h_le).2; have := (h_md).1; have := (h_md).2; have := (h_nx).1; have := (h_nx).2; have := (h_on).1; have := (h_on).2; have := (h_tp).1; have := (h_tp).2; have := (h_tx).1; have := (h_tx).2; have := (h_x11).1; have := (h_x11).2; have := (h_x13).1; have := (h_x13).2; have := (h36).1; have := (h36).2; have := (h42).1; have := (h42).2; have := (h43).1; have := (h43).2; have := (h_x7).1; have := (h_x7).2; have := (h_x9).1; have := (h_x9).2; omega
          exact tw_endz hx hb hr hlocks hK hT hS hQ (nar_b h_x34) (⟨h_x34, ⟨⟨x37, k38, h36, q51.1, q51.2⟩, z39, fun _ => ⟨x37, x9, x44, x45, k38, k52, k46, k47, h36, h_x9, h42, q53, z50, ((nbo_to _ (fun j _ => Fr.kpa f28 hk_op rfl j)).trans w3_2), (opK.to w4_2 (fun j _ => Fr.kpa f28 hk_op rfl j))⟩⟩⟩) dX12_fact_79
      · have q54 : ¬ x1.toInt = 0 := ti_ne c15
        have h55 : iv 1 1 x1 := ⟨by have := (h_x1).1; have := ((iv_c (c := 0) (n := 0) (by decide))).1; have := ((iv_c (c := 0) (n := 0) (by decide))).2; omega, by have := (h_x1).2; have := ((iv_c (c := 0) (n := 0) (by decide))).1; have := ((iv_c (c := 0) (n := 0) (by decide))).2; omega⟩
        refine lv_iconst (v := 0) hx hb dX12_fact_6 (by decide) ?_
        refine lv_istore_n (lv' := [(1, .int 0), (0, .ref (base + a0))]) hx hb dX12_fact_7 rfl hl (by decide) rfl (fun ls hl => ?_)
        refine lv_aload_n hx hb dX12_fact_8 rfl (lv_at hl 1 rfl) ?_
        have k56 : R3 a0 0 = some tb := (Fr.kp (k := 0) g6 hk_a0 rfl).trans k_tb
        have h57 : iv 0 400 x7 := by
          have := (h_le).1; have := (h_le).2; have := (h_md).1; have := (h_md).2; have := (h_nx).1; have := (h_nx).2; have := (h_on).1; have := (h_on).2; have := (h_tp).1; have := (h_tp).2; have := (h_tx).1; have := (h_tx).2; have := (h_x11).1; have := (h_x11).2; have := (h_x13).1; have := (h_x13).2; have := (h_x7).1; have := (h_x7).2; have := (h_x9).1; have := (h_x9).2; exact ⟨by omega, by omega⟩
        have k58 : M2 a0 1 = tp := (Fr.kp (k := 1) f5 hk_a0 rfl).trans k_tp
        have q59 : x7.toInt ≤ tp.toInt := by
          have := (h_le).1; have := (h_le).2; have := (h_md).1; have := (h_md).2; have := (h_nx).1; have := (h_nx).2; have := (h_on).1; have := (h_on).2; have := (h_tp).1; have := (h_tp).2; have := (h_tx).1; have := (h_tx).2; have := (h_x11).1; have := (h_x11).2; have := (h_x13).1; have := (h_x13).2; have := (h_x7).1; have := (h_x7).2; have := (h_x9).1; have := (h_x9).2; omega
        refine tw_goi hS (md_runV (As := []) (rest := []) hx hb hml hown hW hK hT hS.1 (t_X12_see l D cy tx base Z K N M2 R3 J4 hS.2.1 a0 hz_a0 hk_a0 tb k56 x7 k8 h57 tp k58 (iv_mono h_tp (by decide) (by decide)) q59) s_X12_130 ⟨rfl, rfl, ⟨Nat.le_of_ble_eq_true rfl, Nat.le_of_ble_eq_true rfl⟩, ⟨Nat.le_of_ble_eq_true rfl, Nat.le_of_ble_eq_true rfl⟩⟩ hz_a0 hk_a0 (by decide) rfl rfl hl.1 rfl (Nat.le_of_ble_eq_true rfl) dX12_fact_9) rfl rfl (fun x66 H locs M63 R64 J62 hS f60 g61 E65 => ?_)
        have eR64 := Fr.nil g61 rfl
        subst eR64
        obtain ⟨h_x66, p67⟩ := E65
        obtain ⟨x70, k68, h69, q71, z72⟩ := p67
        have k68 : M63 a0 13 = x70 := k68
        refine lv_istore_n (lv' := [(2, .int x66), (1, .int 0), (0, .ref (base + a0))]) hx hb dX12_fact_12 rfl hl (by decide) rfl (fun ls hl => ?_)
        refine lv_aload_n hx hb dX12_fact_13 rfl (lv_at hl 2 rfl) ?_
        refine lv_ldc2 hx hb hown (hW _ w_7_70 rfl) dX12_fact_14 ?_
        have k74 : R3 a0 0 = some tb := (Fr.kp (k := 0) g6 hk_a0 rfl).trans k_tb
        have k75 : M63 a0 1 = tp := ((Fr.kp (k := 1) f60 hk_a0 rfl).trans (Fr.kp (k := 1) f5 hk_a0 rfl)).trans k_tp
        have q76 : x70.toInt ≤ tp.toInt := by
          have := (h_le).1; have := (h_le).2; have := (h_md).1; have := (h_md).2; have := (h_nx).1; have := (h_nx).2; have := (h_on).1; have := (h_on).2; have := (h_tp).1; have := (h_tp).2; have := (h_tx).1; have := (h_tx).2; have := (h_x11).1; have := (h_x11).2; have := (h_x13).1; have := (h_x13).2; have := (h_x66).1; have := (h_x66).2; have := (h_x7).1; have := (h_x7).2; have := (h69).1; have := (h69).2; have := (h_x9).1; have := (h_x9).2; omega
        refine tw_goi hS (md_runV (As := [.long 7237492]) (rest := []) hx hb hml hown hW hK hT hS.1 (t_X12_isWord l D cy tx base Z K N M63 R3 J62 hS.2.1 a0 hz_a0 hk_a0 (7237492) tb k74 x70 k68 (iv_mono h69 (by decide) (by decide)) tp k75 (iv_mono h_tp (by decide) (by decide)) q76) s_X12_138 ⟨rfl, rfl, ⟨Nat.le_of_ble_eq_true rfl, Nat.le_of_ble_eq_true rfl⟩, ⟨Nat.le_of_ble_eq_true rfl, Nat.le_of_ble_eq_true rfl⟩⟩ hz_a0 hk_a0 (by decide) rfl rfl hl.1 rfl (Nat.le_of_ble_eq_true rfl) dX12_fact_17) rfl rfl (fun x83 H locs M80 R81 J79 hS f77 g78 E82 => ?_)
        have eR81 := Fr.nil g78 rfl
        subst eR81
        obtain ⟨h_x83, p84⟩ := E82
        obtain ⟨x87, k85, h86, q88, z89, z90⟩ := p84
        have k85 : M80 a0 13 = x87 := k85
        have z91 : ¬ x83 = 0 → chF 97 122 Ma tb x87 tp := fun h => chF.rf (chF.fr (z90 h) f77 hk_tb rfl) hS.2.2.1 hk_tb rfl
        refine lv_if_eq (tgt := 43) hx hb dX12_fact_20 (by decide) (fun c92 => ?_) (fun c92 => ?_)
        · have q93 : x83.toInt = 0 := ti_eq c92
          have h94 : iv 0 0 x83 := ⟨by have := (h_x83).1; have := ((iv_c (c := 0) (n := 0) (by decide))).1; omega, by have := (h_x83).2; have := ((iv_c (c := 0) (n := 0) (by decide))).2; omega⟩
          refine lv_iload_n hx hb dX12_fact_43 rfl (lv_at hl 0 rfl) ?_
          refine lv_bipush (v := 91) hx hb dX12_fact_44 (by decide) ?_
          refine lv_icmp_ne (tgt := 72) hx hb dX12_fact_46 (by decide) (fun c95 => ?_) (fun c95 => ?_)
          · have q96 : ¬ x66.toInt = 91 := ti_ne c95
            refine lv_goto (tgt := 2) hx hb dX12_fact_72 (by decide) ?_
            have k97 : M80 a0 21 = x9 := ((Fr.kp (k := 21) f77 hk_a0 rfl).trans (Fr.kp (k := 21) f60 hk_a0 rfl)).trans k10
            have k98 : M80 lg tx.toNatClampNeg = x11 := ((Fr.kpa f77 hk_lg rfl tx.toNatClampNeg).trans (Fr.kpa f60 hk_lg rfl tx.toNatClampNeg)).trans k12
            have k99 : M80 a0 17 = x13 := ((Fr.kp (k := 17) f77 hk_a0 rfl).trans (Fr.kp (k := 17) f60 hk_a0 rfl)).trans k14
            have w100 : nx.toInt ≤ x87.toInt ∧ x87.toInt ≤ tp.toInt ∧ x11.toInt + x9.toInt ≤ x87.toInt ∧ x11.toInt = le.toInt ∧ x13.toInt = md.toInt := by
              have := (h_le).1; have := (h_le).2; have := (h_md).1; have := (h_md).2; have := (h_nx).1; have := (h_nx).2; have := (h_on).1; have := (h_on).2; have := (h_tp).1; have := (h_tp).2; have := (h_tx).1; have := (h_tx).2; have := (h_x11).1; have := (h_x11).2; have := (h_x13).1; have := (h_x13).2; have := (h_x66).1; have := (h_x66).2; have := (h_x7).1; have := (h_x7).2; have := (h69).1; have := (h69).2; have := (h94).1; have := (h94).2; have := (h86).1; have := (h86).2; have := (h_x9).1; have := (h_x9).2; omega
            have w101 : SEG M80 sg tx.toNatClampNeg sb x11.toNatClampNeg sh := (SEG.to (SEG.to w1_2 (fun j _ _ => Fr.kpa f60 hk_sg rfl j)) (fun j _ _ => Fr.kpa f77 hk_sg rfl j))
            have w102 : ∀ j, j < 400 * tx.toNatClampNeg + le.toNatClampNeg → M80 sg j = Ma sg j := (fun j hj => (Fr.kpa f77 hk_sg rfl j).trans ((fun j hj => (Fr.kpa f60 hk_sg rfl j).trans (w2_2 j hj)) j hj))
            have w103 : nbo M80 op x9.toNatClampNeg = sh := ((nbo_to _ (fun j _ => Fr.kpa f77 hk_op rfl j)).trans ((nbo_to _ (fun j _ => Fr.kpa f60 hk_op rfl j)).trans w3_2))
            have w104 : opK M80 op x9.toNatClampNeg := (opK.to (opK.to w4_2 (fun j _ => Fr.kpa f60 hk_op rfl j)) (fun j _ => Fr.kpa f77 hk_op rfl j))
            have hm105 : 2 * (400 - x87.toInt) + (0 : Int32).toInt < (n_2 : Int) := by
              have := (h_le).1; have := (h_le).2; have := (h_md).1; have := (h_md).2; have := (h_nx).1; have := (h_nx).2; have := (h_on).1; have := (h_on).2; have := (h_tp).1; have := (h_tp).2; have := (h_tx).1; have := (h_tx).2; have := (h_x11).1; have := (h_x11).2; have := (h_x13).1; have := (h_x13).2; have := (h_x66).1; have := (h_x66).2; have := (h_x7).1; have := (h_x7).2; have := (h69).1; have := (h69).2; have := (h94).1; have := (h94).2; have := (h86).1; have := (h86).2; have := (h_x9).1; have := (h_x9).2; have : (0 : Int32).toInt = 0 := (by decide); omega
            exact ih_2 0 x87 x9 x11 x13 M80 R3 J79 H locs _ (iv_mono (iv_c (c := 0) (n := 0) (by decide)) (by decide) (by decide)) (iv_mono h86 (by decide) (by decide)) k85 h_x9 k97 h_x11 k98 h_x13 k99 w100 w101 w102 w103 w104 hm105 hS (lv_sub hl [1, 2] rfl)
          · have q106 : x66.toInt = 91 := ti_eq c95
            have h107 : iv 91 91 x66 := ⟨by have := (h_x66).1; have := ((iv_c (c := 91) (n := 91) (by decide))).1; omega, by have := (h_x66).2; have := ((iv_c (c := 91) (n := 91) (by decide))).2; omega⟩
            refine lv_aload_n hx hb dX12_fact_49 rfl (lv_at hl 2 rfl) ?_
            refine lv_bipush (v := 91) hx hb dX12_fact_50 (by decide) ?_
            have k108 : R3 a0 20 = some op := (Fr.kp (k := 20) g6 hk_a0 rfl).trans k_op
            have k109 : M80 a0 21 = x9 := ((Fr.kp (k := 21) f77 hk_a0 rfl).trans (Fr.kp (k := 21) f60 hk_a0 rfl)).trans k10
            have h110 : iv 0 399 x9 := by
              have := (h_le).1; have := (h_le).2; have := (h_md).1; have := (h_md).2; have := (h_nx).1; have := (h_nx).2; have := (h_on).1; have := (h_on).2; have := (h_tp).1; have := (h_tp).2; have := (h_tx).1; have := (h_tx).2; have := (h_x11).1; have := (h_x11).2; have := (h_x13).1; have := (h_x13).2; have := (h_x7).1; have := (h_x7).2; have := (h69).1; have := (h69).2; have := (h86).1; have := (h86).2; have := (h_x9).1; have := (h_x9).2; exact ⟨by omega, by omega⟩
            refine tw_goi hS (md_runV (As := [.int 91]) (rest := []) hx hb hml hown hW hK hT hS.1 (t_X12_opens l D cy tx base Z K N M80 R3 J79 hS.2.1 a0 hz_a0 hk_a0 91 (iv_mono (iv_c (c := 91) (n := 91) (by decide)) (by decide) (by decide)) op k108 x9 k109 h110) s_X12_221 ⟨rfl, rfl, ⟨Nat.le_of_ble_eq_true rfl, Nat.le_of_ble_eq_true rfl⟩, ⟨Nat.le_of_ble_eq_true rfl, Nat.le_of_ble_eq_true rfl⟩⟩ hz_a0 hk_a0 (by decide) rfl rfl hl.1 rfl (Nat.le_of_ble_eq_true rfl) dX12_fact_52) rfl rfl (fun x117 H locs M114 R115 J113 hS f111 g112 E116 => ?_)
            have eR115 := Fr.nil g112 rfl
            subst eR115
            obtain ⟨h_x117, p118⟩ := E116
            refine lv_if_ne (tgt := 60) hx hb dX12_fact_55 (by decide) (fun c119 => ?_) (fun c119 => ?_)
            · have q120 : ¬ x117.toInt = 0 := ti_ne c119
              have h121 : iv 1 1 x117 := ⟨by have := (h_x117).1; have := ((iv_c (c := 0) (n := 0) (by decide))).1; have := ((iv_c (c := 0) (n := 0) (by decide))).2; omega, by have := (h_x117).2; have := ((iv_c (c := 0) (n := 0) (by decide))).1; have := ((iv_c (c := 0) (n := 0) (by decide))).2; omega⟩
              obtain ⟨x124, k123, h122, zp121, zq121, zr121⟩ := p118 c119
              have k123 : M114 a0 21 = x124 := k123
              have za121 := ti_cl (x := x9) (by have := (h_x9).1; omega); have zb121 := ti_cl (x := x124) (by have := (h122).1; omega)
              have zs121 : ∀ j, j < x9.toNatClampNeg → M114 op j = M80 op j := fun j hj => zr121 j (by omega)
              have z125 : nbo M114 op x124.toNatClampNeg = sh := by rw [nbo_top (x := x9.toNatClampNeg) (by omega) (by rw [zq121]; decide), nbo_to _ zs121]; exact ((nbo_to _ (fun j _ => Fr.kpa f77 hk_op rfl j)).trans ((nbo_to _ (fun j _ => Fr.kpa f60 hk_op rfl j)).trans w3_2))
              have z126 : opK M114 op x124.toNatClampNeg := fun j hj => by by_cases q : j = x9.toNatClampNeg; · rw [q, zq121]; decide; · rw [zr121 j q]; exact (opK.to (opK.to w4_2 (fun j _ => Fr.kpa f60 hk_op rfl j)) (fun j _ => Fr.kpa f77 hk_op rfl j)) j (by omega)
              refine lv_aload_n hx hb dX12_fact_60 rfl (lv_at hl 2 rfl) ?_
              refine lv_dup hx hb dX12_fact_61 rfl ?_
              have k127 : M114 a0 13 = x87 := (Fr.kp (k := 13) f111 hk_a0 rfl).trans k85
              refine tw_getk hx hb hW hown hK hS f_X12_127_11 hz_a0 hk_a0 (v := x87) k127 dX12_fact_62 ?_
              refine lv_iconst (v := 1) hx hb dX12_fact_65 (by decide) ?_
              refine tw_iadd (lo := 1) (hi := 401) hx hb h86 (iv_c (c := 1) (n := 1) (by decide)) ⟨by decide, by decide⟩ ⟨by decide, by decide⟩ dX12_fact_66 (fun x130 e129 h128 => ?_)
              have e129 : x130.toInt = x87.toInt + 1 := e129
              have h133 : iv 0 400 x130 := by
                have := (h_le).1; have := (h_le).2; have := (h_md).1; have := (h_md).2; have := (h_nx).1; have := (h_nx).2; have := (h_on).1; have := (h_on).2; have := (h_tp).1; have := (h_tp).2; have := (h_tx).1; have := (h_tx).2; have := (h_x11).1; have := (h_x11).2; have := (h122).1; have := (h122).2; have := (h_x13).1; have := (h_x13).2; have := (h128).1; have := (h128).2; have := (h107).1; have := (h107).2; have := (h_x7).1; have := (h_x7).2; have := (h69).1; have := (h69).2; have := (h94).1; have := (h94).2; have := (h86).1; have := (h86).2; have := (h_x9).1; have := (h_x9).2; exact ⟨by omega, by omega⟩
              refine tw_puti hx hb hW hown hK hS f_X12_127_11 hz_a0 hk_a0 rfl rfl (lo := 0) (hi := 400) rfl h133 rfl dX12_fact_67 (fun H locs M134 hS k131 f132 => ?_)
              refine lv_iconst (v := 1) hx hb dX12_fact_70 (by decide) ?_
              refine lv_istore_n (lv' := [(1, .int 1), (2, .int x66), (0, .ref (base + a0))]) hx hb dX12_fact_71 rfl hl (by decide) rfl (fun ls hl => ?_)
              refine lv_goto (tgt := 2) hx hb dX12_fact_72 (by decide) ?_
              have k135 : M134 a0 21 = x124 := (Fr.kp (k := 21) f132 hk_a0 rfl).trans k123
              have k136 : M134 lg tx.toNatClampNeg = x11 := ((Fr.kpa f132 hk_lg rfl tx.toNatClampNeg).trans ((Fr.kpa f111 hk_lg rfl tx.toNatClampNeg).trans ((Fr.kpa f77 hk_lg rfl tx.toNatClampNeg).trans (Fr.kpa f60 hk_lg rfl tx.toNatClampNeg)))).trans k12
              have k137 : M134 a0 17 = x13 := ((Fr.kp (k := 17) f132 hk_a0 rfl).trans ((Fr.kp (k := 17) f111 hk_a0 rfl).trans ((Fr.kp (k := 17) f77 hk_a0 rfl).trans (Fr.kp (k := 17) f60 hk_a0 rfl)))).trans k14
              have w138 : nx.toInt ≤ x130.toInt ∧ x130.toInt ≤ tp.toInt ∧ x11.toInt + x124.toInt ≤ x130.toInt ∧ x11.toInt = le.toInt ∧ x13.toInt = md.toInt := by
                have := (h_le).1; have := (h_le).2; have := (h_md).1; have := (h_md).2; have := (h_nx).1; have := (h_nx).2; have := (h_on).1; have := (h_on).2; have := (h_tp).1; have := (h_tp).2; have := (h_tx).1; have := (h_tx).2; have := (h_x11).1; have := (h_x11).2; have := (h122).1; have := (h122).2; have := (h_x13).1; have := (h_x13).2; have := (h128).1; have := (h128).2; have := (h107).1; have := (h107).2; have := (h_x7).1; have := (h_x7).2; have := (h69).1; have := (h69).2; have := (h94).1; have := (h94).2; have := (h86).1; have := (h86).2; have := (h_x9).1; have := (h_x9).2; omega
              have w139 : SEG M134 sg tx.toNatClampNeg sb x11.toNatClampNeg sh := (SEG.to (SEG.to (SEG.to (SEG.to w1_2 (fun j _ _ => Fr.kpa f60 hk_sg rfl j)) (fun j _ _ => Fr.kpa f77 hk_sg rfl j)) (fun j _ _ => Fr.kpa f111 hk_sg rfl j)) (fun j _ _ => Fr.kpa f132 hk_sg rfl j))
              have w140 : ∀ j, j < 400 * tx.toNatClampNeg + le.toNatClampNeg → M134 sg j = Ma sg j := (fun j hj => (Fr.kpa f132 hk_sg rfl j).trans ((fun j hj => (Fr.kpa f111 hk_sg rfl j).trans ((fun j hj => (Fr.kpa f77 hk_sg rfl j).trans ((fun j hj => (Fr.kpa f60 hk_sg rfl j).trans (w2_2 j hj)) j hj)) j hj)) j hj))
              have w141 : nbo M134 op x124.toNatClampNeg = sh := ((nbo_to _ (fun j _ => Fr.kpa f132 hk_op rfl j)).trans z125)
              have w142 : opK M134 op x124.toNatClampNeg := (opK.to z126 (fun j _ => Fr.kpa f132 hk_op rfl j))
              have hm143 : 2 * (400 - x130.toInt) + (1 : Int32).toInt < (n_2 : Int) := by
                have := (h_le).1; have := (h_le).2; have := (h_md).1; have := (h_md).2; have := (h_nx).1; have := (h_nx).2; have := (h_on).1; have := (h_on).2; have := (h_tp).1; have := (h_tp).2; have := (h_tx).1; have := (h_tx).2; have := (h_x11).1; have := (h_x11).2; have := (h122).1; have := (h122).2; have := (h_x13).1; have := (h_x13).2; have := (h128).1; have := (h128).2; have := (h107).1; have := (h107).2; have := (h_x7).1; have := (h_x7).2; have := (h69).1; have := (h69).2; have := (h94).1; have := (h94).2; have := (h86).1; have := (h86).2; have := (h_x9).1; have := (h_x9).2; have : (1 : Int32).toInt = 1 := (by decide); omega
              exact ih_2 1 x130 x124 x11 x13 M134 R3 J113 H locs _ (iv_mono (iv_c (c := 1) (n := 1) (by decide)) (by decide) (by decide)) (iv_mono h128 (by decide) (by decide)) k131 (iv_mono h122 (by decide) (by decide)) k135 h_x11 k136 h_x13 k137 w138 w139 w140 w141 w142 hm143 hS (lv_sub hl [0, 2] rfl)
            · have q144 : x117.toInt = 0 := ti_eq c119
              have h145 : iv 0 0 x117 := ⟨by have := (h_x117).1; have := ((iv_c (c := 0) (n := 0) (by decide))).1; omega, by have := (h_x117).2; have := ((iv_c (c := 0) (n := 0) (by decide))).2; omega⟩
              refine lv_iconst (v := 0) hx hb dX12_fact_58 (by decide) ?_
              have k146 : M114 a0 13 = x87 := (Fr.kp (k := 13) f111 hk_a0 rfl).trans k85
              have q147 : nx.toInt ≤ x87.toInt ∧ x87.toInt ≤ tp.toInt := by
                have := (h_le).1; have := (h_le).2; have := (h_md).1; have := (h_md).2; have := (h_nx).1; have := (h_nx).2; have := (h_on).1; have := (h_on).2; have := (h_tp).1; have := (h_tp).2; have := (h_tx).1; have := (h_tx).2; have := (h_x11).1; have := (h_x11).2; have := (h_x13).1; have := (h_x13).2; have := (h107).1; have := (h107).2; have := (h_x7).1; have := (h_x7).2; have := (h69).1; have := (h69).2; have := (h94).1; have := (h94).2; have := (h86).1; have := (h86).2; have := (h_x9).1; have := (h_x9).2; omega
              exact tw_endz hx hb hr hlocks hK hT hS hQ rfl (⟨(iv_mono (iv_c (c := 0) (n := 0) (by decide)) (by decide) (by decide)), ⟨⟨x87, k146, h86, q147.1, q147.2⟩, (fun j hj => (Fr.kpa f111 hk_sg rfl j).trans ((fun j hj => (Fr.kpa f77 hk_sg rfl j).trans ((fun j hj => (Fr.kpa f60 hk_sg rfl j).trans (w2_2 j hj)) j hj)) j hj)), fun h => absurd rfl h⟩⟩) dX12_fact_59
        · have q148 : ¬ x83.toInt = 0 := ti_ne c92
          have h149 : iv 1 1 x83 := ⟨by have := (h_x83).1; have := ((iv_c (c := 0) (n := 0) (by decide))).1; have := ((iv_c (c := 0) (n := 0) (by decide))).2; omega, by have := (h_x83).2; have := ((iv_c (c := 0) (n := 0) (by decide))).1; have := ((iv_c (c := 0) (n := 0) (by decide))).2; omega⟩
          have z150 := z91 c92
          have q151 := z150.1
          refine lv_aload_n hx hb dX12_fact_23 rfl (lv_at hl 2 rfl) ?_
          refine lv_bipush (v := 11) hx hb dX12_fact_24 (by decide) ?_
          have k152 : R3 a0 20 = some op := (Fr.kp (k := 20) g6 hk_a0 rfl).trans k_op
          have k153 : M80 a0 21 = x9 := ((Fr.kp (k := 21) f77 hk_a0 rfl).trans (Fr.kp (k := 21) f60 hk_a0 rfl)).trans k10
          have h154 : iv 0 399 x9 := by
            have := (h_le).1; have := (h_le).2; have := (h_md).1; have := (h_md).2; have := (h_nx).1; have := (h_nx).2; have := (h_on).1; have := (h_on).2; have := (h_tp).1; have := (h_tp).2; have := (h_tx).1; have := (h_tx).2; have := (h_x11).1; have := (h_x11).2; have := (h_x13).1; have := (h_x13).2; have := (h_x7).1; have := (h_x7).2; have := (h69).1; have := (h69).2; have := (h86).1; have := (h86).2; have := (h_x9).1; have := (h_x9).2; exact ⟨by omega, by omega⟩
          refine tw_goi hS (md_runV (As := [.int 11]) (rest := []) hx hb hml hown hW hK hT hS.1 (t_X12_opens l D cy tx base Z K N M80 R3 J79 hS.2.1 a0 hz_a0 hk_a0 11 (iv_mono (iv_c (c := 11) (n := 11) (by decide)) (by decide) (by decide)) op k152 x9 k153 h154) s_X12_221 ⟨rfl, rfl, ⟨Nat.le_of_ble_eq_true rfl, Nat.le_of_ble_eq_true rfl⟩, ⟨Nat.le_of_ble_eq_true rfl, Nat.le_of_ble_eq_true rfl⟩⟩ hz_a0 hk_a0 (by decide) rfl rfl hl.1 rfl (Nat.le_of_ble_eq_true rfl) dX12_fact_26) rfl rfl (fun x161 H locs M158 R159 J157 hS f155 g156 E160 => ?_)
          have eR159 := Fr.nil g156 rfl
          subst eR159
          obtain ⟨h_x161, p162⟩ := E160
          refine lv_if_ne (tgt := 34) hx hb dX12_fact_29 (by decide) (fun c163 => ?_) (fun c163 => ?_)
          · have q164 : ¬ x161.toInt = 0 := ti_ne c163
            have h165 : iv 1 1 x161 := ⟨by have := (h_x161).1; have := ((iv_c (c := 0) (n := 0) (by decide))).1; have := ((iv_c (c := 0) (n := 0) (by decide))).2; omega, by have := (h_x161).2; have := ((iv_c (c := 0) (n := 0) (by decide))).1; have := ((iv_c (c := 0) (n := 0) (by decide))).2; omega⟩
            obtain ⟨x168, k167, h166, zp165, zq165, zr165⟩ := p162 c163
            have k167 : M158 a0 21 = x168 := k167
            have za165 := ti_cl (x := x9) (by have := (h_x9).1; omega); have zb165 := ti_cl (x := x168) (by have := (h166).1; omega)
            have zs165 : ∀ j, j < x9.toNatClampNeg → M158 op j = M80 op j := fun j hj => zr165 j (by omega)
            have z169 : nbo M158 op x168.toNatClampNeg = sh := by rw [nbo_top (x := x9.toNatClampNeg) (by omega) (by rw [zq165]; decide), nbo_to _ zs165]; exact ((nbo_to _ (fun j _ => Fr.kpa f77 hk_op rfl j)).trans ((nbo_to _ (fun j _ => Fr.kpa f60 hk_op rfl j)).trans w3_2))
            have z170 : opK M158 op x168.toNatClampNeg := fun j hj => by by_cases q : j = x9.toNatClampNeg; · rw [q, zq165]; decide; · rw [zr165 j q]; exact (opK.to (opK.to w4_2 (fun j _ => Fr.kpa f60 hk_op rfl j)) (fun j _ => Fr.kpa f77 hk_op rfl j)) j (by omega)
            refine lv_aload_n hx hb dX12_fact_34 rfl (lv_at hl 2 rfl) ?_
            have k171 : R3 a0 0 = some tb := (Fr.kp (k := 0) g6 hk_a0 rfl).trans k_tb
            have k172 : M158 a0 13 = x87 := (Fr.kp (k := 13) f155 hk_a0 rfl).trans k85
            have k173 : M158 a0 1 = tp := ((Fr.kp (k := 1) f155 hk_a0 rfl).trans ((Fr.kp (k := 1) f77 hk_a0 rfl).trans ((Fr.kp (k := 1) f60 hk_a0 rfl).trans (Fr.kp (k := 1) f5 hk_a0 rfl)))).trans k_tp
            have q174 : x87.toInt ≤ tp.toInt := by
              have := (h_le).1; have := (h_le).2; have := (h_md).1; have := (h_md).2; have := (h_nx).1; have := (h_nx).2; have := (h_on).1; have := (h_on).2; have := (h_tp).1; have := (h_tp).2; have := (h_tx).1; have := (h_tx).2; have := (h_x11).1; have := (h_x11).2; have := (h_x13).1; have := (h_x13).2; have := (h166).1; have := (h166).2; have := (h_x66).1; have := (h_x66).2; have := (h_x7).1; have := (h_x7).2; have := (h69).1; have := (h69).2; have := (h149).1; have := (h149).2; have := (h86).1; have := (h86).2; have := (h_x9).1; have := (h_x9).2; omega
            refine tw_gov hS (md_runV (As := []) (rest := []) hx hb hml hown hW hK hT hS.1 (t_X12_passWord l D cy tx base Z K N M158 R3 J157 hS.2.1 a0 hz_a0 hk_a0 tb k171 x87 k172 (iv_mono h86 (by decide) (by decide)) tp k173 (iv_mono h_tp (by decide) (by decide)) q174) s_X12_142 ⟨rfl, rfl, ⟨Nat.le_of_ble_eq_true rfl, Nat.le_of_ble_eq_true rfl⟩, ⟨Nat.le_of_ble_eq_true rfl, Nat.le_of_ble_eq_true rfl⟩⟩ hz_a0 hk_a0 (by decide) rfl rfl hl.1 rfl (Nat.le_of_ble_eq_true rfl) dX12_fact_35) rfl rfl (fun H locs M178 R179 J177 hS f175 g176 E180 => ?_)
            have eR179 := Fr.nil g176 rfl
            subst eR179
            have p181 := E180
            obtain ⟨x184, k182, h183, q185, z187⟩ := p181
            have k182 : M178 a0 13 = x184 := k182
            have q188 := z187 (chF.rf (chF.fr z150 hS.2.2.1 hk_tb rfl) f175 hk_tb rfl)
            refine lv_iconst (v := 1) hx hb dX12_fact_38 (by decide) ?_
            refine lv_istore_n (lv' := [(1, .int 1), (2, .int x66), (0, .ref (base + a0))]) hx hb dX12_fact_39 rfl hl (by decide) rfl (fun ls hl => ?_)
            refine lv_goto (tgt := 72) hx hb dX12_fact_40 (by decide) ?_
            refine lv_goto (tgt := 2) hx hb dX12_fact_72 (by decide) ?_
            have k189 : M178 a0 21 = x168 := (Fr.kp (k := 21) f175 hk_a0 rfl).trans k167
            have k190 : M178 lg tx.toNatClampNeg = x11 := ((Fr.kpa f175 hk_lg rfl tx.toNatClampNeg).trans ((Fr.kpa f155 hk_lg rfl tx.toNatClampNeg).trans ((Fr.kpa f77 hk_lg rfl tx.toNatClampNeg).trans (Fr.kpa f60 hk_lg rfl tx.toNatClampNeg)))).trans k12
            have k191 : M178 a0 17 = x13 := ((Fr.kp (k := 17) f175 hk_a0 rfl).trans ((Fr.kp (k := 17) f155 hk_a0 rfl).trans ((Fr.kp (k := 17) f77 hk_a0 rfl).trans (Fr.kp (k := 17) f60 hk_a0 rfl)))).trans k14
            have w192 : nx.toInt ≤ x184.toInt ∧ x184.toInt ≤ tp.toInt ∧ x11.toInt + x168.toInt ≤ x184.toInt ∧ x11.toInt = le.toInt ∧ x13.toInt = md.toInt := by
              have := (h_le).1; have := (h_le).2; have := (h_md).1; have := (h_md).2; have := (h_nx).1; have := (h_nx).2; have := (h_on).1; have := (h_on).2; have := (h_tp).1; have := (h_tp).2; have := (h_tx).1; have := (h_tx).2; have := (h_x11).1; have := (h_x11).2; have := (h_x13).1; have := (h_x13).2; have := (h166).1; have := (h166).2; have := (h183).1; have := (h183).2; have := (h_x66).1; have := (h_x66).2; have := (h_x7).1; have := (h_x7).2; have := (h69).1; have := (h69).2; have := (h149).1; have := (h149).2; have := (h86).1; have := (h86).2; have := (h_x9).1; have := (h_x9).2; omega
            have w193 : SEG M178 sg tx.toNatClampNeg sb x11.toNatClampNeg sh := (SEG.to (SEG.to (SEG.to (SEG.to w1_2 (fun j _ _ => Fr.kpa f60 hk_sg rfl j)) (fun j _ _ => Fr.kpa f77 hk_sg rfl j)) (fun j _ _ => Fr.kpa f155 hk_sg rfl j)) (fun j _ _ => Fr.kpa f175 hk_sg rfl j))
            have w194 : ∀ j, j < 400 * tx.toNatClampNeg + le.toNatClampNeg → M178 sg j = Ma sg j := (fun j hj => (Fr.kpa f175 hk_sg rfl j).trans ((fun j hj => (Fr.kpa f155 hk_sg rfl j).trans ((fun j hj => (Fr.kpa f77 hk_sg rfl j).trans ((fun j hj => (Fr.kpa f60 hk_sg rfl j).trans (w2_2 j hj)) j hj)) j hj)) j hj))
            have w195 : nbo M178 op x168.toNatClampNeg = sh := ((nbo_to _ (fun j _ => Fr.kpa f175 hk_op rfl j)).trans z169)
            have w196 : opK M178 op x168.toNatClampNeg := (opK.to z170 (fun j _ => Fr.kpa f175 hk_op rfl j))
            have hm197 : 2 * (400 - x184.toInt) + (1 : Int32).toInt < (n_2 : Int) := by
              have := (h_le).1; have := (h_le).2; have := (h_md).1; have := (h_md).2; have := (h_nx).1; have := (h_nx).2; have := (h_on).1; have := (h_on).2; have := (h_tp).1; have := (h_tp).2; have := (h_tx).1; have := (h_tx).2; have := (h_x11).1; have := (h_x11).2; have := (h_x13).1; have := (h_x13).2; have := (h166).1; have := (h166).2; have := (h183).1; have := (h183).2; have := (h_x66).1; have := (h_x66).2; have := (h_x7).1; have := (h_x7).2; have := (h69).1; have := (h69).2; have := (h149).1; have := (h149).2; have := (h86).1; have := (h86).2; have := (h_x9).1; have := (h_x9).2; have : (1 : Int32).toInt = 1 := (by decide); omega
            exact ih_2 1 x184 x168 x11 x13 M178 R3 J177 H locs _ (iv_mono (iv_c (c := 1) (n := 1) (by decide)) (by decide) (by decide)) (iv_mono h183 (by decide) (by decide)) k182 (iv_mono h166 (by decide) (by decide)) k189 h_x11 k190 h_x13 k191 w192 w193 w194 w195 w196 hm197 hS (lv_sub hl [0, 2] rfl)
          · have q198 : x161.toInt = 0 := ti_eq c163
            have h199 : iv 0 0 x161 := ⟨by have := (h_x161).1; have := ((iv_c (c := 0) (n := 0) (by decide))).1; omega, by have := (h_x161).2; have := ((iv_c (c := 0) (n := 0) (by decide))).2; omega⟩
            refine lv_iconst (v := 0) hx hb dX12_fact_32 (by decide) ?_
            have k200 : M158 a0 13 = x87 := (Fr.kp (k := 13) f155 hk_a0 rfl).trans k85
            have q201 : nx.toInt ≤ x87.toInt ∧ x87.toInt ≤ tp.toInt := by
              have := (h_le).1; have := (h_le).2; have := (h_md).1; have := (h_md).2; have := (h_nx).1; have := (h_nx).2; have := (h_on).1; have := (h_on).2; have := (h_tp).1; have := (h_tp).2; have := (h_tx).1; have := (h_tx).2; have := (h_x11).1; have := (h_x11).2; have := (h_x13).1; have := (h_x13).2; have := (h_x66).1; have := (h_x66).2; have := (h_x7).1; have := (h_x7).2; have := (h69).1; have := (h69).2; have := (h149).1; have := (h149).2; have := (h86).1; have := (h86).2; have := (h_x9).1; have := (h_x9).2; omega
            exact tw_endz hx hb hr hlocks hK hT hS hQ rfl (⟨(iv_mono (iv_c (c := 0) (n := 0) (by decide)) (by decide) (by decide)), ⟨⟨x87, k200, h86, q201.1, q201.2⟩, (fun j hj => (Fr.kpa f155 hk_sg rfl j).trans ((fun j hj => (Fr.kpa f77 hk_sg rfl j).trans ((fun j hj => (Fr.kpa f60 hk_sg rfl j).trans (w2_2 j hj)) j hj)) j hj)), fun h => absurd rfl h⟩⟩) dX12_fact_33
  have w202 : nx.toInt ≤ nx.toInt ∧ nx.toInt ≤ tp.toInt ∧ le.toInt + on.toInt ≤ nx.toInt ∧ le.toInt = le.toInt ∧ md.toInt = md.toInt := by
    have := (h_le).1; have := (h_le).2; have := (h_md).1; have := (h_md).2; have := (h_nx).1; have := (h_nx).2; have := (h_on).1; have := (h_on).2; have := (h_tp).1; have := (h_tp).2; have := (h_tx).1; have := (h_tx).2; omega
  have w203 : SEG Ma sg tx.toNatClampNeg sb le.toNatClampNeg sh := hseg
  have w204 : ∀ j, j < 400 * tx.toNatClampNeg + le.toNatClampNeg → Ma sg j = Ma sg j := (fun j _ => rfl)
  have w205 : nbo Ma op on.toNatClampNeg = sh := hnb
  have w206 : opK Ma op on.toNatClampNeg := hopk
  have hm207 : 2 * (400 - nx.toInt) + (1 : Int32).toInt < (((802 : Nat) : Int) : Int) := by
    have := (h_le).1; have := (h_le).2; have := (h_md).1; have := (h_md).2; have := (h_nx).1; have := (h_nx).2; have := (h_on).1; have := (h_on).2; have := (h_tp).1; have := (h_tp).2; have := (h_tx).1; have := (h_tx).2; have : (1 : Int32).toInt = 1 := (by decide); omega
  exact W2_2 802 1 nx on le md Ma Ra Ja s.heap [] _ (iv_mono (iv_c (c := 1) (n := 1) (by decide)) (by decide) (by decide)) (iv_mono h_nx (by decide) (by decide)) k_nx h_on k_on h_le k_le h_md k_md w202 w203 w204 w205 w206 hm207 hS hl
