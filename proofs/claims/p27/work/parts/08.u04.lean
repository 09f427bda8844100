def Lt_X12_fact : WL := [(12, 13, 16), (12, 17, 19), (12, 21, 22), (14, 0, 2000000), (25, 0, 2000000), (26, 0, 2000000)]
def LRt_X12_fact : WL := []
set_option maxRecDepth 100000 in
set_option maxHeartbeats 4000000 in
theorem t_X12_fact (l : Launch) (D : va_G) (cy : Nat → ClassId) (tx : (Nat → Nat) × (Nat → Nat)) (base Z : Nat) (K N : Nat → Nat) (Ma : MT) (Ra : RT) (Ja : JT) (hTy : Ty Z K N Ma Ra) (a0 : Nat) (hz_a0 : a0 < Z) (hk_a0 : K a0 = 12) (tb : Nat) (k_tb : Ra a0 0 = some tb) (nx : Int32) (k_nx : Ma a0 13 = nx) (h_nx : iv 0 400 nx) (tp : Int32) (k_tp : Ma a0 1 = tp) (h_tp : iv 0 400 tp) (hnt : nx.toInt ≤ tp.toInt) (lg : Nat) (k_lg : Ra a0 4 = some lg) (sg : Nat) (k_sg : Ra a0 3 = some sg) (tx : Int32) (k_tx : Ma a0 16 = tx) (h_tx : iv 0 5 tx) (le : Int32) (k_le : Ma lg tx.toNatClampNeg = le) (h_le : iv 0 400 le) (md : Int32) (k_md : Ma a0 17 = md) (h_md : iv 0 60 md) (op : Nat) (k_op : Ra a0 20 = some op) (on : Int32) (k_on : Ma a0 21 = on) (h_on : iv 0 400 on) (sb : Nat) (sh : Nat) (hseg : SEG Ma sg tx.toNatClampNeg sb le.toNatClampNeg sh) (hsb : (sb : Int) ≤ le.toInt) (hsh : (sh : Int) ≤ md.toInt) (hbud : le.toInt + on.toInt ≤ nx.toInt) (hopk : opK Ma op on.toNatClampNeg) (hnb : nbo Ma op on.toNatClampNeg = sh) : Met l yX12_fact [Cond.code yX12_fact cX12_fact 3 (some .boolean)] (md_rm 8 0 0) (va_Pc [.ref (base + a0)] (md_U D cy tx base Z K N Ma Ra Ja)) (mQi D cy tx base (fun r u => TP Z K N Lt_X12_fact LRt_X12_fact Ma Ra u ∧ (iv 0 1 r ∧ ((∃ x0 : Int32, u.2.2.2.1 a0 13 = x0 ∧ iv 0 400 x0 ∧ nx.toInt ≤ x0.toInt ∧ x0.toInt ≤ tp.toInt) ∧ (∀ j, j < 400 * tx.toNatClampNeg + le.toNatClampNeg → u.2.2.2.1 sg j = Ma sg j) ∧ (¬ r = 0 → ∃ x0 x1 x2 x3 : Int32, u.2.2.2.1 a0 13 = x0 ∧ u.2.2.2.1 a0 21 = x1 ∧ u.2.2.2.1 lg tx.toNatClampNeg = x2 ∧ u.2.2.2.1 a0 17 = x3 ∧ iv 0 400 x0 ∧ iv 0 400 x1 ∧ iv 0 400 x2 ∧ (nx.toInt ≤ x0.toInt ∧ x0.toInt ≤ tp.toInt ∧ x2.toInt + x1.toInt ≤ x0.toInt ∧ le.toInt ≤ x2.toInt ∧ ((sh + 1 : Nat) : Int) ≤ x3.toInt) ∧ SEG u.2.2.2.1 sg tx.toNatClampNeg sb x2.toNatClampNeg (sh + 1) ∧ nbo u.2.2.2.1 op x1.toNatClampNeg = sh ∧ opK u.2.2.2.1 op x1.toNatClampNeg))))) 0 0 (fun q => base ≤ q) := by
  refine tw_ofW (L := Lt_X12_fact) (LR := LRt_X12_fact) (by decide) (Nat.le_of_ble_eq_true rfl) hTy ?_
  intro p e s m args below meth c Q ls hx hb hr hlocks hown hml hW hK hT hS hQ hl
  have hl : lv_has ls 3 [(0, .ref (base + a0))] := hl
  obtain ⟨hz_tb, hk_tb, hn_tb⟩ := hTy.refn hz_a0 hk_a0 (show rtR 12 0 = (13, 400, 0) from rfl) k_tb
  have hn_tb := hn_tb (by decide)
  obtain ⟨hz_lg, hk_lg, hn_lg⟩ := hTy.refn hz_a0 hk_a0 (show rtR 12 4 = (26, 7, 0) from rfl) k_lg
  have hn_lg := hn_lg (by decide)
  obtain ⟨hz_sg, hk_sg, hn_sg⟩ := hTy.refn hz_a0 hk_a0 (show rtR 12 3 = (25, 2400, 0) from rfl) k_sg
  have hn_sg := hn_sg (by decide)
  obtain ⟨hz_op, hk_op, hn_op⟩ := hTy.refn hz_a0 hk_a0 (show rtR 12 20 = (14, 400, 0) from rfl) k_op
  have hn_op := hn_op (by decide)
  refine lv_iconst (v := 1) hx hb dX12_fact_0 (by decide) ?_
  refine lv_istore_n (lv' := [(1, .int 1), (0, .ref (base + a0))]) hx hb dX12_fact_1 rfl hl (by decide) rfl (fun ls hl => ?_)
  have W2_2 : ∀ (n_2 : Nat) (x1 : Int32) (x7 : Int32) (x9 : Int32) (x11 : Int32) (x13 : Int32) (M2 : MT) (R3 : RT) (J4 : JT) (H : Heap) (locs : List Loc) (ls : Array Slot) (h_x1 : iv 0 1 x1) (h_x7 : iv 0 401 x7) (k8 : M2 a0 13 = x7) (h_x9 : iv 0 400 x9) (k10 : M2 a0 21 = x9) (h_x11 : iv 0 400 x11) (k12 : M2 lg tx.toNatClampNeg = x11) (h_x13 : iv 0 60 x13) (k14 : M2 a0 17 = x13) (w0_2 : nx.toInt ≤ x7.toInt ∧ x7.toInt ≤ tp.toInt ∧ x11.toInt + x9.toInt ≤ x7.toInt ∧ x11.toInt = le.toInt ∧ x13.toInt = md.toInt) (w1_2 : SEG M2 sg tx.toNatClampNeg sb x11.toNatClampNeg sh) (w2_2 : ∀ j, j < 400 * tx.toNatClampNeg + le.toNatClampNeg → M2 sg j = Ma sg j) (w3_2 : nbo M2 op x9.toNatClampNeg = sh) (w4_2 : opK M2 op x9.toNatClampNeg) (hm_2 : 2 * (400 - x7.toInt) + x1.toInt < (n_2 : Int)) (hS : SB D cy base Z K N Lt_X12_fact LRt_X12_fact Ma Ra M2 R3 J4 s H locs) (hl : lv_has ls 3 [(1, .int x1), (0, .ref (base + a0))]), W p l e (md_rm 8 0 0) s m args below meth c H locs 0 0 Q (F0 m 2 ls []) := by
    intro n_2
    induction n_2 with
    | zero =>
      intro x1 x7 x9 x11 x13 M2 R3 J4 H locs ls h_x1 h_x7 k8 h_x9 k10 h_x11 k12 h_x13 k14 w0_2 w1_2 w2_2 w3_2 w4_2 hm_2 hS hl
      exfalso
      have := (h_le).1; have := (h_le).2; have := (h_md).1; have := (h_md).2; have := (h_nx).1; have := (h_nx).2; have := (h_on).1; have := (h_on).2; have := (h_tp).1; have := (h_tp).2; have := (h_tx).1; have := (h_tx).2; have := (h_x1).1; have := (h_x1).2; have := (h_x11).1; have := (h_x11).2; have := (h_x13).1; have := (h_x13).2; have := (h_x7).1; have := (h_x7).2; have := (h_x9).1; have := (h_x9).2; omega
    | succ n_2 ih_2 =>
      intro x1 x7 x9 x11 x13 M2 R3 J4 H locs ls h_x1 h_x7 k8 h_x9 k10 h_x11 k12 h_x13 k14 w0_2 w1_2 w2_2 w3_2 w4_2 hm_2 hS hl
      have f5 := hS.2.2.1
      have g6 := hS.2.2.2
      refine lv_iload_n hx hb dX12_fact_2 rfl (lv_at hl 0 rfl) ?_
      refine lv_if_eq (tgt := 75) hx hb dX12_fact_3 (by decide) (fun c15 => ?_) (fun c15 => ?_)
      · have q16 : x1.toInt = 0 := ti_eq c15
        have h17 : iv 0 0 x1 := ⟨by have := (h_x1).1; have := ((iv_c (c := 0) (n := 0) (by decide))).1; omega, by have := (h_x1).2; have := ((iv_c (c := 0) (n := 0) (by decide))).2; omega⟩
        refine lv_aload_n hx hb dX12_fact_75 rfl (lv_at hl 1 rfl) ?_
        have k18 : R3 a0 0 = some tb := (Fr.kp (k := 0) g6 hk_a0 rfl).trans k_tb
        have h19 : iv 0 400 x7 := by
          have := (h_le).1; have := (h_le).2; have := (h_md).1; have := (h_md).2; have := (h_nx).1; have := (h_nx).2; have := (h_on).1; have := (h_on).2; have := (h_tp).1; have := (h_tp).2; have := (h_tx).1; have := (h_tx).2; have := (h_x11).1; have := (h_x11).2; have := (h_x13).1; have := (h_x13).2; have := (h_x7).1; have := (h_x7).2; have := (h_x9).1; have := (h_x9).2; exact ⟨by omega, by omega⟩
        have k20 : M2 a0 1 = tp := (Fr.kp (k := 1) f5 hk_a0 rfl).trans k_tp
        have q21 : x7.toInt ≤ tp.toInt := by
          have := (h_le).1; have := (h_le).2; have := (h_md).1; have := (h_md).2; have := (h_nx).1; have := (h_nx).2; have := (h_on).1; have := (h_on).2; have := (h_tp).1; have := (h_tp).2; have := (h_tx).1; have := (h_tx).2; have := (h_x11).1; have := (h_x11).2; have := (h_x13).1; have := (h_x13).2; have := (h_x7).1; have := (h_x7).2; have := (h_x9).1; have := (h_x9).2; omega
        have k22 : R3 a0 4 = some lg := (Fr.kp (k := 4) g6 hk_a0 rfl).trans k_lg
        have k23 : R3 a0 3 = some sg := (Fr.kp (k := 3) g6 hk_a0 rfl).trans k_sg
        have k24 : M2 a0 16 = tx := (Fr.kp (k := 16) f5 hk_a0 rfl).trans k_tx
        have q25 : ((sb : Nat) : Int) ≤ x11.toInt := by
          have := (h_le).1; have := (h_le).2; have := (h_md).1; have := (h_md).2; have := (h_nx).1; have := (h_nx).2; have := (h_on).1; have := (h_on).2; have := (h_tp).1; have := (h_tp).2; have := (h_tx).1; have := (h_tx).2; have := (h_x11).1; have := (h_x11).2; have := (h_x13).1; have := (h_x13).2; have := (h_x7).1; have := (h_x7).2; have := (h_x9).1; have := (h_x9).2; omega
        have q26 : ((sh : Nat) : Int) ≤ x13.toInt := by
          have := (h_le).1; have := (h_le).2; have := (h_md).1; have := (h_md).2; have := (h_nx).1; have := (h_nx).2; have := (h_on).1; have := (h_on).2; have := (h_tp).1; have := (h_tp).2; have := (h_tx).1; have := (h_tx).2; have := (h_x11).1; have := (h_x11).2; have := (h_x13).1; have := (h_x13).2; have := (h_x7).1; have := (h_x7).2; have := (h_x9).1; have := (h_x9).2; omega
        have q27 : x11.toInt ≤ x7.toInt := by
          have := (h_le).1; have := (h_le).2; have := (h_md).1; have := (h_md).2; have := (h_nx).1; have := (h_nx).2; have := (h_on).1; have := (h_on).2; have := (h_tp).1; have := (h_tp).2; have := (h_tx).1; have := (h_tx).2; have := (h_x11).1; have := (h_x11).2; have := (h_x13).1; have := (h_x13).2; have := (h_x7).1; have := (h_x7).2; have := (h_x9).1; have := (h_x9).2; omega
        refine tw_goi hS (md_runV (As := []) (rest := []) hx hb hml hown hW hK hT hS.1 (t_X12_compare l D cy tx base Z K N M2 R3 J4 hS.2.1 a0 hz_a0 hk_a0 tb k18 x7 k8 h19 tp k20 (iv_mono h_tp (by decide) (by decide)) q21 lg k22 sg k23 tx k24 (iv_mono h_tx (by decide) (by decide)) x11 k12 (iv_mono h_x11 (by decide) (by decide)) x13 k14 (iv_mono h_x13 (by decide) (by decide)) (sb) (sh) w1_2 q25 q26 q27) s_X12_224 ⟨rfl, rfl, ⟨Nat.le_of_ble_eq_true rfl, Nat.le_of_ble_eq_true rfl⟩, ⟨Nat.le_of_ble_eq_true rfl, Nat.le_of_ble_eq_true rfl⟩⟩ hz_a0 hk_a0 (by decide) rfl rfl hl.1 rfl (Nat.le_of_ble_eq_true rfl) dX12_fact_76) rfl rfl (fun x34 H locs M31 R32 J30 hS f28 g29 E33 => ?_)
        have eR32 := Fr.nil g29 rfl
        subst eR32
        obtain ⟨h_x34, p35⟩ := E33
        obtain ⟨zf35, ⟨x37, k38, h36, zu35, zv35⟩, zc35⟩ := p35
        have k38 : M31 a0 13 = x37 := k38
        have zw35 := ti_cl (x := le) (by have := h_le.1; omega); have zy35 := ti_cl (x := x11) (by have := (h_x11).1; omega)
        have z39 : ∀ j, j < 400 * tx.toNatClampNeg + le.toNatClampNeg → M31 sg j = Ma sg j := fun j hj => (zf35 j (by omega)).trans (w2_2 j hj)
        by_cases c40 : x34 = 0
        · subst c40
          have q41 : nx.toInt ≤ x37.toInt ∧ x37.toInt ≤ tp.toInt := by
            have := (h_le).1; have := (h_le).2; have := (h_md).1; have := (h_md).2; have := (h_nx).1; have := (h_nx).2; have := (h_on).1; have := (h_on).2; have := (h_tp).1; have := (h_tp).2; have := (h_tx).1; have := (h_tx).2; have := (h_x11).1; have := (h_x11).2; have := (h_x13).1; have := (h_x13).2; have := (h36).1; have := (h36).2; have := (h_x7).1; have := (h_x7).2; have := (h_x9).1; have := (h_x9).2; omega
          exact tw_endz hx hb hr hlocks hK hT hS hQ rfl (⟨(iv_mono (iv_c (c := 0) (n := 0) (by decide)) (by decide) (by decide)), ⟨⟨x37, k38, h36, q41.1, q41.2⟩, z39, (fun h => absurd rfl h)⟩⟩) dX12_fact_79
        · have zz41 := c40
          obtain ⟨x48, x44, x45, k49, k46, k47, h42, za41, zb41, zd41, z50⟩ := zc35 c40
          have ze41 : x48 = x37 := k49.symm.trans k38
          rw [ze41] at zb41
          have k46 : M31 lg tx.toNatClampNeg = x44 := k46
          have k47 : M31 a0 17 = x45 := k47
          have h43 : iv 0 60 x45 := by rw [← k47]; exact hS.2.1.int hz_a0 hk_a0 (show rgI 12 17 = (0, 60) from rfl)
          have q51 : nx.toInt ≤ x37.toInt ∧ x37.toInt ≤ tp.toInt := by
            have := (h_le).1; have := (h_le).2; have := (h_md).1; have := (h_md).2; have := (h_nx).1; have := (h_nx).2; have := (h_on).1; have := (h_on).2; have := (h_tp).1; have := (h_tp).2; have := (h_tx).1; have := (h_tx).2; have := (h_x11).1; have := (h_x11).2; have := (h_x13).1; have := (h_x13).2; have := (h36).1; have := (h36).2; have := (h42).1; have := (h42).2; have := (h_x7).1; have := (h_x7).2; have := (h_x9).1; have := (h_x9).2; omega
          have k52 : M31 a0 21 = x9 := (Fr.kp (k := 21) f28 hk_a0 rfl).trans k10
          have q53 : nx.toInt ≤ x37.toInt ∧ x37.toInt ≤ tp.toInt ∧ x44.toInt + x9.toInt ≤ x37.toInt ∧ le.toInt ≤ x44.toInt ∧ ((sh + 1 : Nat) : Int) ≤ x45.toInt := by
            have := (h_le).1; have := (h_le).2; have := (h_md).1; have := (h_md).2; have := (h_nx).1; have := (h_nx).2; have := (h_on).1; have := (h_on).2; have := (h_tp).1; have := (h_tp).2; have := (h_tx).1; have := (h_tx).2; have := (h_x11).1; have := (h_x11).2; have := (h_x13).1; have := (h_x13).2; have := (h36).1; have := (h36).2; have := (h42).1; have := (h42).2; have := (h43).1; have := (h43).2; have := (h_x7).1; have := (h_x7).2; have := (h_x9).1; have := (h_x9).2; omega
          exact tw_endz hx hb hr hlocks hK hT hS hQ (nar_b h_x34) (⟨h_x34, ⟨⟨x37, k38, h36, q51.1, q51.2⟩, z39, fun _ => ⟨x37, x9, x44, x45, k38, k52, k46, k47, h36, h_x9, h42, q53, z50, ((nbo_to _ (fun j _ => Fr.kpa f28 hk_op rfl j)).trans w3_2), (opK.to w4_2 (fun j _ => Fr.kpa f28 hk_op rfl j))⟩⟩⟩) dX12_fact_79
      · have q54 : ¬ x1.toInt = 0 := ti_ne c15
        have h55 : iv 1 1 x1 := ⟨by have := (h_x1).1; have := ((iv_c (c := 0) (n := 0) (by decide))).1; have := ((iv_c (c := 0) (n := 0) (by decide))).2; omega, by have := (h_x1).2; have := ((iv_c (c := 0) (n := 0) (by decide))).1; have := ((iv_c (c := 0) (n := 0) (by decide))).2; omega⟩
        refine lv_iconst (v := 0) hx hb dX12_fact_6 (by decide) ?_
        refine lv_istore_n (lv' := [(1, .int 0), (0, .ref (base + a0))]) hx hb dX12_fact_7 rfl hl (by decide) rfl (fun ls hl => ?_)
        refine lv_aload_n hx hb dX12_fact_8 rfl (lv_at hl 1 rfl) ?_
        have k56 : R3 a0 0 = some tb := (Fr.kp (k := 0) g6 hk_a0 rfl).trans k_tb
        have h57 : iv 0 400 x7 := by
          have := (h_le).1; have := (h_le).2; have := (h_md).1; have := (h_md).2; have := (h_nx).1; have := (h_nx).2; have := (h_on).1; have := (h_on).2; have := (h_tp).1; have := (h_tp).2; have := (h_tx).1; have := (h_tx).2; have := (h_x11).1; have := (h_x11).2; have := (h_x13).1; have := (h_x13).2; have := (h_x7).1; have := (h_x7).2; have := (h_x9).1; have := (h_x9).2; exact ⟨by omega, by omega⟩
        have k58 : M2 a0 1 = tp := (Fr.kp (k := 1) f5 hk_a0 rfl).trans k_tp
        have q59 : x7.toInt ≤ tp.toInt := by
          have := (h_le).1; have := (h_le).2; have := (h_md).1; have := (h_md).2; have := (h_nx).1; have := (h_nx).2; have := (h_on).1; have := (h_on).2; have := (h_tp).1; have := (h_tp).2; have := (h_tx).1; have := (h_tx).2; have := (h_x11).1; have := (h_x11).2; have := (h_x13).1; have := (h_x13).2; have := (h_x7).1; have := (h_x7).2; have := (h_x9).1; have := (h_x9).2; omega
        refine tw_goi hS (md_runV (As := []) (rest := []) hx hb hml hown hW hK hT hS.1 (t_X12_see l D cy tx base Z K N M2 R3 J4 hS.2.1 a0 hz_a0 hk_a0 tb k56 x7 k8 h57 tp k58 (iv_mono h_tp (by decide) (by decide)) q59) s_X12_130 ⟨rfl, rfl, ⟨Nat.le_of_ble_eq_true rfl, Nat.le_of_ble_eq_true rfl⟩, ⟨Nat.le_of_ble_eq_true rfl, Nat.le_of_ble_eq_true rfl⟩⟩ hz_a0 hk_a0 (by decide) rfl rfl hl.1 rfl (Nat.le_of_ble_eq_true rfl) dX12_fact_9) rfl rfl (fun x66 H locs M63 R64 J62 hS f60 g61 E65 => ?_)
        have eR64 := Fr.nil g61 rfl
        subst eR64
        obtain ⟨h_x66, p67⟩ := E65
        obtain ⟨x70, k68, h69, q71, z72⟩ := p67
        have k68 : M63 a0 13 = x70 := k68
        refine lv_istore_n (lv' := [(2, .int x66), (1, .int 0), (0, .ref (base + a0))]) hx hb dX12_fact_12 rfl hl (by decide) rfl (fun ls hl => ?_)
        refine lv_aload_n hx hb dX12_fact_13 rfl (lv_at hl 2 rfl) ?_
        refine lv_ldc2 hx hb hown (hW _ w_7_70 rfl) dX12_fact_14 ?_
        have k74 : R3 a0 0 = some tb := (Fr.kp (k := 0) g6 hk_a0 rfl).trans k_tb
        have k75 : M63 a0 1 = tp := ((Fr.kp (k := 1) f60 hk_a0 rfl).trans (Fr.kp (k := 1) f5 hk_a0 rfl)).trans k_tp
        have q76 : x70.toInt ≤ tp.toInt := by
          have := (h_le).1; have := (h_le).2; have := (h_md).1; have := (h_md).2; have := (h_nx).1; have := (h_nx).2; have := (h_on).1; have := (h_on).2; have := (h_tp).1; have := (h_tp).2; have := (h_tx).1; have := (h_tx).2; have := (h_x11).1; have := (h_x11).2; have := (h_x13).1; have := (h_x13).2; have := (h_x66).1; have := (h_x66).2; have := (h_x7).1; have := (h_x7).2; have := (h69).1; have := (h69).2; have := (h_x9).1; have := (h_x9).2; omega
        refine tw_goi hS (md_runV (As := [.long 7237492]) (rest := []) hx hb hml hown hW hK hT hS.1 (t_X12_isWord l D cy tx base Z K N M63 R3 J62 hS.2.1 a0 hz_a0 hk_a0 (7237492) tb k74 x70 k68 (iv_mono h69 (by decide) (by decide)) tp k75 (iv_mono h_tp (by decide) (by decide)) q76) s_X12_138 ⟨rfl, rfl, ⟨Nat.le_of_ble_eq_true rfl, Nat.le_of_ble_eq_true rfl⟩, ⟨Nat.le_of_ble_eq_true rfl, Nat.le_of_ble_eq_true rfl⟩⟩ hz_a0 hk_a0 (by decide) rfl rfl hl.1 rfl (Nat.le_of_ble_eq_true rfl) dX12_fact_17) rfl rfl (fun x83 H locs M80 R81 J79 hS f77 g78 E82 => ?_)
        have eR81 := Fr.nil g78 rfl
        subst eR81
        obtain ⟨h_x83, p84⟩ := E82
        obtain ⟨x87, k85, h86, q88, z89, z90⟩ := p84
        have k85 : M80 a0 13 = x87 := k85
        have z91 : ¬ x83 = 0 → chF 97 122 Ma tb x87 tp := fun h => chF.rf (chF.fr (z90 h) f77 hk_tb rfl) hS.2.2.1 hk_tb rfl
        refine lv_if_eq (tgt := 43) hx hb dX12_fact_20 (by decide) (fun c92 => ?_) (fun c92 => ?_)
        · have q93 : x83.toInt = 0 := ti_eq c92
          have h94 : iv 0 0 x83 := ⟨by have := (h_x83).1; have := ((iv_c (c := 0) (n := 0) (by decide))).1; omega, by have := (h_x83).2; have := ((iv_c (c := 0) (n := 0) (by decide))).2; omega⟩
          refine lv_iload_n hx hb dX12_fact_43 rfl (lv_at hl 0 rfl) ?_
          refine lv_bipush (v := 91) hx hb dX12_fact_44 (by decide) ?_
          refine lv_icmp_ne (tgt := 72) hx hb dX12_fact_46 (by decide) (fun c95 => ?_) (fun c95 => ?_)
          · have q96 : ¬ x66.toInt = 91 := ti_ne c95
            refine lv_goto (tgt := 2) hx hb dX12_fact_72 (by decide) ?_
            have k97 : M80 a0 21 = x9 := ((Fr.kp (k := 21) f77 hk_a0 rfl).trans (Fr.kp (k := 21) f60 hk_a0 rfl)).trans k10
            have k98 : M80 lg tx.toNatClampNeg = x11 := ((Fr.kpa f77 hk_lg rfl tx.toNatClampNeg).trans (Fr.kpa f60 hk_lg rfl tx.toNatClampNeg)).trans k12
            have k99 : M80 a0 17 = x13 := ((Fr.kp (k := 17) f77 hk_a0 rfl).trans (Fr.kp (k := 17) f60 hk_a0 rfl)).trans k14
            have w100 : nx.toInt ≤ x87.toInt ∧ x87.toInt ≤ tp.toInt ∧ x11.toInt + x9.toInt ≤ x87.toInt ∧ x11.toInt = le.toInt ∧ x13.toInt = md.toInt := by
              have := (h_le).1; have := (h_le).2; have := (h_md).1; have := (h_md).2; have := (h_nx).1; have := (h_nx).2; have := (h_on).1; have := (h_on).2; have := (h_tp).1; have := (h_tp).2; have := (h_tx).1; have := (h_tx).2; have := (h_x11).1; have := (h_x11).2; have := (h_x13).1; have := (h_x13).2; have := (h_x66).1; have := (h_x66).2; have := (h_x7).1; have := (h_x7).2; have := (h69).1; have := (h69).2; have := (h94).1; have := (h94).2; have := (h86).1; have := (h86).2; have := (h_x9).1; have := (h_x9).2; omega
            have w101 : SEG M80 sg tx.toNatClampNeg sb x11.toNatClampNeg sh := (SEG.to (SEG.to w1_2 (fun j _ _ => Fr.kpa f60 hk_sg rfl j)) (fun j _ _ => Fr.kpa f77 hk_sg rfl j))
            have w102 : ∀ j, j < 400 * tx.toNatClampNeg + le.toNatClampNeg → M80 sg j = Ma sg j := (fun j hj => (Fr.kpa f77 hk_sg rfl j).trans ((fun j hj => (Fr.kpa f60 hk_sg rfl j).trans (w2_2 j hj)) j hj))
            have w103 : nbo M80 op x9.toNatClampNeg = sh := ((nbo_to _ (fun j _ => Fr.kpa f77 hk_op rfl j)).trans ((nbo_to _ (fun j _ => Fr.kpa f60 hk_op rfl j)).trans w3_2))
            have w104 : opK M80 op x9.toNatClampNeg := (opK.to (opK.to w4_2 (fun j _ => Fr.kpa f60 hk_op rfl j)) (fun j _ => Fr.kpa f77 hk_op rfl j))
            have hm105 : 2 * (400 - x87.toInt) + (0 : Int32).toInt < (n_2 : Int) := by
              have := (h_le).1; have := (h_le).2; have := (h_md).1; have := (h_md).2; have := (h_nx).1; have := (h_nx).2; have := (h_on).1; have := (h_on).2; have := (h_tp).1; have := (h_tp).2; have := (h_tx).1; have := (h_tx).2; have := (h_x11).1; have := (h_x11).2; have := (h_x13).1; have := (h_x13).2; have := (h_x66).1; have := (h_x66).2; have := (h_x7).1; have := (h_x7).2; have := (h69).1; have := (h69).2; have := (h94).1; have := (h94).2; have := (h86).1; have := (h86).2; have := (h_x9).1; have := (h_x9).2; have : (0 : Int32).toInt = 0 := (by decide); omega
            exact ih_2 0 x87 x9 x11 x13 M80 R3 J79 H locs _ (iv_mono (iv_c (c := 0) (n := 0) (by decide)) (by decide) (by decide)) (iv_mono h86 (by decide) (by decide)) k85 h_x9 k97 h_x11 k98 h_x13 k99 w100 w101 w102 w103 w104 hm105 hS (lv_sub hl [1, 2] rfl)
          · have q106 : x66.toInt = 91 := ti_eq c95
            have h107 : iv 91 91 x66 := ⟨by have := (h_x66).1; have := ((iv_c (c := 91) (n := 91) (by decide))).1; omega, by have := (h_x66).2; have := ((iv_c (c := 91) (n := 91) (by decide))).2; omega⟩
            refine lv_aload_n hx hb dX12_fact_49 rfl (lv_at hl 2 rfl) ?_
            refine lv_bipush (v := 91) hx hb dX12_fact_50 (by decide) ?_
            have k108 : R3 a0 20 = some op := (Fr.kp (k := 20) g6 hk_a0 rfl).trans k_op
            have k109 : M80 a0 21 = x9 := ((Fr.kp (k := 21) f77 hk_a0 rfl).trans (Fr.kp (k := 21) f60 hk_a0 rfl)).trans k10
            have h110 : iv 0 399 x9 := by
              have := (h_le).1; have := (h_le).2; have := (h_md).1; have := (h_md).2; have := (h_nx).1; have := (h_nx).2; have := (h_on).1; have := (h_on).2; have := (h_tp).1; have := (h_tp).2; have := (h_tx).1; have := (h_tx).2; have := (h_x11).1; have := (h_x11).2; have := (h_x13).1; have := (h_x13).2; have := (h_x7).1; have := (h_x7).2; have := (h69).1; have := (h69).2; have := (h86).1; have := (h86).2; have := (h_x9).1; have := (h_x9).2; exact ⟨by omega, by omega⟩
            refine tw_goi hS (md_runV (As := [.int 91]) (rest := []) hx hb hml hown hW hK hT hS.1 (t_X12_opens l D cy tx base Z K N M80 R3 J79 hS.2.1 a0 hz_a0 hk_a0 91 (iv_mono (iv_c (c := 91) (n := 91) (by decide)) (by decide) (by decide)) op k108 x9 k109 h110) s_X12_221 ⟨rfl, rfl, ⟨Nat.le_of_ble_eq_true rfl, Nat.le_of_ble_eq_true rfl⟩, ⟨Nat.le_of_ble_eq_true rfl, Nat.le_of_ble_eq_true rfl⟩⟩ hz_a0 hk_a0 (by decide) rfl rfl hl.1 rfl (Nat.le_of_ble_eq_true rfl) dX12_fact_52) rfl rfl (fun x117 H locs M114 R115 J113 hS f111 g112 E116 => ?_)
            have eR115 := Fr.nil g112 rfl
            subst eR115
            obtain ⟨h_x117, p118⟩ := E116
            refine lv_if_ne (tgt := 60) hx hb dX12_fact_55 (by decide) (fun c119 => ?_) (fun c119 => ?_)
            · have q120 : ¬ x117.toInt = 0 := ti_ne c119
              have h121 : iv 1 1 x117 := ⟨by have := (h_x117).1; have := ((iv_c (c := 0) (n := 0) (by decide))).1; have := ((iv_c (c := 0) (n := 0) (by decide))).2; omega, by have := (h_x117).2; have := ((iv_c (c := 0) (n := 0) (by decide))).1; have := ((iv_c (c := 0) (n := 0) (by decide))).2; omega⟩
              obtain ⟨x124, k123, h122, zp121, zq121, zr121⟩ := p118 c119
              have k123 : M114 a0 21 = x124 := k123
              have za121 := ti_cl (x := x9) (by have := (h_x9).1; omega); have zb121 := ti_cl (x := x124) (by have := (h122).1; omega)
              have zs121 : ∀ j, j < x9.toNatClampNeg → M114 op j = M80 op j := fun j hj => zr121 j (by omega)
              have z125 : nbo M114 op x124.toNatClampNeg = sh := by rw [nbo_top (x := x9.toNatClampNeg) (by omega) (by rw [zq121]; decide), nbo_to _ zs121]; exact ((nbo_to _ (fun j _ => Fr.kpa f77 hk_op rfl j)).trans ((nbo_to _ (fun j _ => Fr.kpa f60 hk_op rfl j)).trans w3_2))
              have z126 : opK M114 op x124.toNatClampNeg := fun j hj => by by_cases q : j = x9.toNatClampNeg; · rw [q, zq121]; decide; · rw [zr121 j q]; exact (opK.to (opK.to w4_2 (fun j _ => Fr.kpa f60 hk_op rfl j)) (fun j _ => Fr.kpa f77 hk_op rfl j)) j (by omega)
              refine lv_aload_n hx hb dX12_fact_60 rfl (lv_at hl 2 rfl) ?_
              refine lv_dup hx hb dX12_fact_61 rfl ?_
              have k127 : M114 a0 13 = x87 := (Fr.kp (k := 13) f111 hk_a0 rfl).trans k85
              refine tw_getk hx hb hW hown hK hS f_X12_127_11 hz_a0 hk_a0 (v := x87) k127 dX12_fact_62 ?_
              refine lv_iconst (v := 1) hx hb dX12_fact_65 (by decide) ?_
              refine tw_iadd (lo := 1) (hi := 401) hx hb h86 (iv_c (c := 1) (n := 1) (by decide)) ⟨by decide, by decide⟩ ⟨by decide, by decide⟩ dX12_fact_66 (fun x130 e129 h128 => ?_)
              have e129 : x130.toInt = x87.toInt + 1 := e129
              have h133 : iv 0 400 x130 := by
                have := (h_le).1; have := (h_le).2; have := (h_md).1; have := (h_md).2; have := (h_nx).1; have := (h_nx).2; have := (h_on).1; have := (h_on).2; have := (h_tp).1; have := (h_tp).2; have := (h_tx).1; have := (h_tx).2; have := (h_x11).1; have := (h_x11).2; have := (h122).1; have := (h122).2; have := (h_x13).1; have := (h_x13).2; have := (h128).1; have := (h128).2; have := (h107).1; have := (h107).2; have := (h_x7).1; have := (h_x7).2; have := (h69).1; have := (h69).2; have := (h94).1; have := (h94).2; have := (h86).1; have := (h86).2; have := (h_x9).1; have := (h_x9).2; exact ⟨by omega, by omega⟩
              refine tw_puti hx hb hW hown hK hS f_X12_127_11 hz_a0 hk_a0 rfl rfl (lo := 0) (hi := 400) rfl h133 rfl dX12_fact_67 (fun H locs M134 hS k131 f132 => ?_)
              refine lv_iconst (v := 1) hx hb dX12_fact_70 (by decide) ?_
              refine lv_istore_n (lv' := [(1, .int 1), (2, .int x66), (0, .ref (base + a0))]) hx hb dX12_fact_71 rfl hl (by decide) rfl (fun ls hl => ?_)
              refine lv_goto (tgt := 2) hx hb dX12_fact_72 (by decide) ?_
              have k135 : M134 a0 21 = x124 := (Fr.kp (k := 21) f132 hk_a0 rfl).trans k123
              have k136 : M134 lg tx.toNatClampNeg = x11 := ((Fr.kpa f132 hk_lg rfl tx.toNatClampNeg).trans ((Fr.kpa f111 hk_lg rfl tx.toNatClampNeg).trans ((Fr.kpa f77 hk_lg rfl tx.toNatClampNeg).trans (Fr.kpa f60 hk_lg rfl tx.toNatClampNeg)))).trans k12
              have k137 : M134 a0 17 = x13 := ((Fr.kp (k := 17) f132 hk_a0 rfl).trans ((Fr.kp (k := 17) f111 hk_a0 rfl).trans ((Fr.kp (k := 17) f77 hk_a0 rfl).trans (Fr.kp (k := 17) f60 hk_a0 rfl)))).trans k14
              have w138 : nx.toInt ≤ x130.toInt ∧ x130.toInt ≤ tp.toInt ∧ x11.toInt + x124.toInt ≤ x130.toInt ∧ x11.toInt = le.toInt ∧ x13.toInt = md.toInt := by
                have := (h_le).1; have := (h_le).2; have := (h_md).1; have := (h_md).2; have := (h_nx).1; have := (h_nx).2; have := (h_on).1; have := (h_on).2; have := (h_tp).1; have := (h_tp).2; have := (h_tx).1; have := (h_tx).2; have := (h_x11).1; have := (h_x11).2; have := (h122).1; have := (h122).2; have := (h_x13).1; have := (h_x13).2; have := (h128).1; have := (h128).2; have := (h107).1; have := (h107).2; have := (h_x7).1; have := (h_x7).2; have := (h69).1; have := (h69).2; have := (h94).1; have := (h94).2; have := (h86).1; have := (h86).2; have := (h_x9).1; have := (h_x9).2; omega
              have w139 : SEG M134 sg tx.toNatClampNeg sb x11.toNatClampNeg sh := (SEG.to (SEG.to (SEG.to (SEG.to w1_2 (fun j _ _ => Fr.kpa f60 hk_sg rfl j)) (fun j _ _ => Fr.kpa f77 hk_sg rfl j)) (fun j _ _ => Fr.kpa f111 hk_sg rfl j)) (fun j _ _ => Fr.kpa f132 hk_sg rfl j))
              have w140 : ∀ j, j < 400 * tx.toNatClampNeg + le.toNatClampNeg → M134 sg j = Ma sg j := (fun j hj => (Fr.kpa f132 hk_sg rfl j).trans ((fun j hj => (Fr.kpa f111 hk_sg rfl j).trans ((fun j hj => (Fr.kpa f77 hk_sg rfl j).trans ((fun j hj => (Fr.kpa f60 hk_sg rfl j).trans (w2_2 j hj)) j hj)) j hj)) j hj))
              have w141 : nbo M134 op x124.toNatClampNeg = sh := ((nbo_to _ (fun j _ => Fr.kpa f132 hk_op rfl j)).trans z125)
              have w142 : opK M134 op x124.toNatClampNeg := (opK.to z126 (fun j _ => Fr.kpa f132 hk_op rfl j))
              have hm143 : 2 * (400 - x130.toInt) + (1 : Int32).toInt < (n_2 : Int) := by
                have := (h_le).1; have := (h_le).2; have := (h_md).1; have := (h_md).2; have := (h_nx).1; have := (h_nx).2; have := (h_on).1; have := (h_on).2; have := (h_tp).1; have := (h_tp).2; have := (h_tx).1; have := (h_tx).2; have := (h_x11).1; have := (h_x11).2; have := (h122).1; have := (h122).2; have := (h_x13).1; have := (h_x13).2; have := (h128).1; have := (h128).2; have := (h107).1; have := (h107).2; have := (h_x7).1; have := (h_x7).2; have := (h69).1; have := (h69).2; have := (h94).1; have := (h94).2; have := (h86).1; have := (h86).2; have := (h_x9).1; have := (h_x9).2; have : (1 : Int32).toInt = 1 := (by decide); omega
              exact ih_2 1 x130 x124 x11 x13 M134 R3 J113 H locs _ (iv_mono (iv_c (c := 1) (n := 1) (by decide)) (by decide) (by decide)) (iv_mono h128 (by decide) (by decide)) k131 (iv_mono h122 (by decide) (by decide)) k135 h_x11 k136 h_x13 k137 w138 w139 w140 w141 w142 hm143 hS (lv_sub hl [0, 2] rfl)
            · have q144 : x117.toInt = 0 := ti_eq c119
              have h145 : iv 0 0 x117 := ⟨by have := (h_x117).1; have := ((iv_c (c := 0) (n := 0) (by decide))).1; omega, by have := (h_x117).2; have := ((iv_c (c := 0) (n := 0) (by decide))).2; omega⟩
              refine lv_iconst (v := 0) hx hb dX12_fact_58 (by decide) ?_
              have k146 : M114 a0 13 = x87 := (Fr.kp (k := 13) f111 hk_a0 rfl).trans k85
              have q147 : nx.toInt ≤ x87.toInt ∧ x87.toInt ≤ tp.toInt := by
                have := (h_le).1; have := (h_le).2; have := (h_md).1; have := (h_md).2; have := (h_nx).1; have := (h_nx).2; have := (h_on).1; have := (h_on).2; have := (h_tp).1; have := (h_tp).2; have := (h_tx).1; have := (h_tx).2; have := (h_x11).1; have := (h_x11).2; have := (h_x13).1; have := (h_x13).2; have := (h107).1; have := (h107).2; have := (h_x7).1; have := (h_x7).2; have := (h69).1; have := (h69).2; have := (h94).1; have := (h94).2; have := (h86).1; have := (h86).2; have := (h_x9).1; have := (h_x9).2; omega
              exact tw_endz hx hb hr hlocks hK hT hS hQ rfl (⟨(iv_mono (iv_c (c := 0) (n := 0) (by decide)) (by decide) (by decide)), ⟨⟨x87, k146, h86, q147.1, q147.2⟩, (fun j hj => (Fr.kpa f111 hk_sg rfl j).trans ((fun j hj => (Fr.kpa f77 hk_sg rfl j).trans ((fun j hj => (Fr.kpa f60 hk_sg rfl j).trans (w2_2 j hj)) j hj)) j hj)), (fun h => absurd rfl h)⟩⟩) dX12_fact_59
        · have q148 : ¬ x83.toInt = 0 := ti_ne c92
          have h149 : iv 1 1 x83 := ⟨by have := (h_x83).1; have := ((iv_c (c := 0) (n := 0) (by decide))).1; have := ((iv_c (c := 0) (n := 0) (by decide))).2; omega, by have := (h_x83).2; have := ((iv_c (c := 0) (n := 0) (by decide))).1; have := ((iv_c (c := 0) (n := 0) (by decide))).2; omega⟩
          have z150 := z91 c92
          have q151 := z150.1
          refine lv_aload_n hx hb dX12_fact_23 rfl (lv_at hl 2 rfl) ?_
          refine lv_bipush (v := 11) hx hb dX12_fact_24 (by decide) ?_
          have k152 : R3 a0 20 = some op := (Fr.kp (k := 20) g6 hk_a0 rfl).trans k_op
          have k153 : M80 a0 21 = x9 := ((Fr.kp (k := 21) f77 hk_a0 rfl).trans (Fr.kp (k := 21) f60 hk_a0 rfl)).trans k10
          have h154 : iv 0 399 x9 := by
            have := (h_le).1; have := (h_le).2; have := (h_md).1; have := (h_md).2; have := (h_nx).1; have := (h_nx).2; have := (h_on).1; have := (h_on).2; have := (h_tp).1; have := (h_tp).2; have := (h_tx).1; have := (h_tx).2; have := (h_x11).1; have := (h_x11).2; have := (h_x13).1; have := (h_x13).2; have := (h_x7).1; have := (h_x7).2; have := (h69).1; have := (h69).2; have := (h86).1; have := (h86).2; have := (h_x9).1; have := (h_x9).2; exact ⟨by omega, by omega⟩
          refine tw_goi hS (md_runV (As := [.int 11]) (rest := []) hx hb hml hown hW hK hT hS.1 (t_X12_opens l D cy tx base Z K N M80 R3 J79 hS.2.1 a0 hz_a0 hk_a0 11 (iv_mono (iv_c (c := 11) (n := 11) (by decide)) (by decide) (by decide)) op k152 x9 k153 h154) s_X12_221 ⟨rfl, rfl, ⟨Nat.le_of_ble_eq_true rfl, Nat.le_of_ble_eq_true rfl⟩, ⟨Nat.le_of_ble_eq_true rfl, Nat.le_of_ble_eq_true rfl⟩⟩ hz_a0 hk_a0 (by decide) rfl rfl hl.1 rfl (Nat.le_of_ble_eq_true rfl) dX12_fact_26) rfl rfl (fun x161 H locs M158 R159 J157 hS f155 g156 E160 => ?_)
          have eR159 := Fr.nil g156 rfl
          subst eR159
          obtain ⟨h_x161, p162⟩ := E160
          refine lv_if_ne (tgt := 34) hx hb dX12_fact_29 (by decide) (fun c163 => ?_) (fun c163 => ?_)
          · have q164 : ¬ x161.toInt = 0 := ti_ne c163
            have h165 : iv 1 1 x161 := ⟨by have := (h_x161).1; have := ((iv_c (c := 0) (n := 0) (by decide))).1; have := ((iv_c (c := 0) (n := 0) (by decide))).2; omega, by have := (h_x161).2; have := ((iv_c (c := 0) (n := 0) (by decide))).1; have := ((iv_c (c := 0) (n := 0) (by decide))).2; omega⟩
            obtain ⟨x168, k167, h166, zp165, zq165, zr165⟩ := p162 c163
            have k167 : M158 a0 21 = x168 := k167
            have za165 := ti_cl (x := x9) (by have := (h_x9).1; omega); have zb165 := ti_cl (x := x168) (by have := (h166).1; omega)
            have zs165 : ∀ j, j < x9.toNatClampNeg → M158 op j = M80 op j := fun j hj => zr165 j (by omega)
            have z169 : nbo M158 op x168.toNatClampNeg = sh := by rw [nbo_top (x := x9.toNatClampNeg) (by omega) (by rw [zq165]; decide), nbo_to _ zs165]; exact ((nbo_to _ (fun j _ => Fr.kpa f77 hk_op rfl j)).trans ((nbo_to _ (fun j _ => Fr.kpa f60 hk_op rfl j)).trans w3_2))
            have z170 : opK M158 op x168.toNatClampNeg := fun j hj => by by_cases q : j = x9.toNatClampNeg; · rw [q, zq165]; decide; · rw [zr165 j q]; exact (opK.to (opK.to w4_2 (fun j _ => Fr.kpa f60 hk_op rfl j)) (fun j _ => Fr.kpa f77 hk_op rfl j)) j (by omega)
            refine lv_aload_n hx hb dX12_fact_34 rfl (lv_at hl 2 rfl) ?_
            have k171 : R3 a0 0 = some tb := (Fr.kp (k := 0) g6 hk_a0 rfl).trans k_tb
            have k172 : M158 a0 13 = x87 := (Fr.kp (k := 13) f155 hk_a0 rfl).trans k85
            have k173 : M158 a0 1 = tp := ((Fr.kp (k := 1) f155 hk_a0 rfl).trans ((Fr.kp (k := 1) f77 hk_a0 rfl).trans ((Fr.kp (k := 1) f60 hk_a0 rfl).trans (Fr.kp (k := 1) f5 hk_a0 rfl)))).trans k_tp
            have q174 : x87.toInt ≤ tp.toInt := by
              have := (h_le).1; have := (h_le).2; have := (h_md).1; have := (h_md).2; have := (h_nx).1; have := (h_nx).2; have := (h_on).1; have := (h_on).2; have := (h_tp).1; have := (h_tp).2; have := (h_tx).1; have := (h_tx).2; have := (h_x11).1; have := (h_x11).2; have := (h_x13).1; have := (h_x13).2; have := (h166).1; have := (h166).2; have := (h_x66).1; have := (h_x66).2; have := (h_x7).1; have := (h_x7).2; have := (h69).1; have := (h69).2; have := (h149).1; have := (h149).2; have := (h86).1; have := (h86).2; have := (h_x9).1; have := (h_x9).2; omega
            refine tw_gov hS (md_runV (As := []) (rest := []) hx hb hml hown hW hK hT hS.1 (t_X12_passWord l D cy tx base Z K N M158 R3 J157 hS.2.1 a0 hz_a0 hk_a0 tb k171 x87 k172 (iv_mono h86 (by decide) (by decide)) tp k173 (iv_mono h_tp (by decide) (by decide)) q174) s_X12_142 ⟨rfl, rfl, ⟨Nat.le_of_ble_eq_true rfl, Nat.le_of_ble_eq_true rfl⟩, ⟨Nat.le_of_ble_eq_true rfl, Nat.le_of_ble_eq_true rfl⟩⟩ hz_a0 hk_a0 (by decide) rfl rfl hl.1 rfl (Nat.le_of_ble_eq_true rfl) dX12_fact_35) rfl rfl (fun H locs M178 R179 J177 hS f175 g176 E180 => ?_)
            have eR179 := Fr.nil g176 rfl
            subst eR179
            have p181 := E180
            obtain ⟨x184, k182, h183, q185, z187⟩ := p181
            have k182 : M178 a0 13 = x184 := k182
            have q188 := z187 (chF.rf (chF.fr z150 hS.2.2.1 hk_tb rfl) f175 hk_tb rfl)
            refine lv_iconst (v := 1) hx hb dX12_fact_38 (by decide) ?_
            refine lv_istore_n (lv' := [(1, .int 1), (2, .int x66), (0, .ref (base + a0))]) hx hb dX12_fact_39 rfl hl (by decide) rfl (fun ls hl => ?_)
            refine lv_goto (tgt := 72) hx hb dX12_fact_40 (by decide) ?_
            refine lv_goto (tgt := 2) hx hb dX12_fact_72 (by decide) ?_
            have k189 : M178 a0 21 = x168 := (Fr.kp (k := 21) f175 hk_a0 rfl).trans k167
            have k190 : M178 lg tx.toNatClampNeg = x11 := ((Fr.kpa f175 hk_lg rfl tx.toNatClampNeg).trans ((Fr.kpa f155 hk_lg rfl tx.toNatClampNeg).trans ((Fr.kpa f77 hk_lg rfl tx.toNatClampNeg).trans (Fr.kpa f60 hk_lg rfl tx.toNatClampNeg)))).trans k12
            have k191 : M178 a0 17 = x13 := ((Fr.kp (k := 17) f175 hk_a0 rfl).trans ((Fr.kp (k := 17) f155 hk_a0 rfl).trans ((Fr.kp (k := 17) f77 hk_a0 rfl).trans (Fr.kp (k := 17) f60 hk_a0 rfl)))).trans k14
            have w192 : nx.toInt ≤ x184.toInt ∧ x184.toInt ≤ tp.toInt ∧ x11.toInt + x168.toInt ≤ x184.toInt ∧ x11.toInt = le.toInt ∧ x13.toInt = md.toInt := by
              have := (h_le).1; have := (h_le).2; have := (h_md).1; have := (h_md).2; have := (h_nx).1; have := (h_nx).2; have := (h_on).1; have := (h_on).2; have := (h_tp).1; have := (h_tp).2; have := (h_tx).1; have := (h_tx).2; have := (h_x11).1; have := (h_x11).2; have := (h_x13).1; have := (h_x13).2; have := (h166).1; have := (h166).2; have := (h183).1; have := (h183).2; have := (h_x66).1; have := (h_x66).2; have := (h_x7).1; have := (h_x7).2; have := (h69).1; have := (h69).2; have := (h149).1; have := (h149).2; have := (h86).1; have := (h86).2; have := (h_x9).1; have := (h_x9).2; omega
            have w193 : SEG M178 sg tx.toNatClampNeg sb x11.toNatClampNeg sh := (SEG.to (SEG.to (SEG.to (SEG.to w1_2 (fun j _ _ => Fr.kpa f60 hk_sg rfl j)) (fun j _ _ => Fr.kpa f77 hk_sg rfl j)) (fun j _ _ => Fr.kpa f155 hk_sg rfl j)) (fun j _ _ => Fr.kpa f175 hk_sg rfl j))
            have w194 : ∀ j, j < 400 * tx.toNatClampNeg + le.toNatClampNeg → M178 sg j = Ma sg j := (fun j hj => (Fr.kpa f175 hk_sg rfl j).trans ((fun j hj => (Fr.kpa f155 hk_sg rfl j).trans ((fun j hj => (Fr.kpa f77 hk_sg rfl j).trans ((fun j hj => (Fr.kpa f60 hk_sg rfl j).trans (w2_2 j hj)) j hj)) j hj)) j hj))
            have w195 : nbo M178 op x168.toNatClampNeg = sh := ((nbo_to _ (fun j _ => Fr.kpa f175 hk_op rfl j)).trans z169)
            have w196 : opK M178 op x168.toNatClampNeg := (opK.to z170 (fun j _ => Fr.kpa f175 hk_op rfl j))
            have hm197 : 2 * (400 - x184.toInt) + (1 : Int32).toInt < (n_2 : Int) := by
              have := (h_le).1; have := (h_le).2; have := (h_md).1; have := (h_md).2; have := (h_nx).1; have := (h_nx).2; have := (h_on).1; have := (h_on).2; have := (h_tp).1; have := (h_tp).2; have := (h_tx).1; have := (h_tx).2; have := (h_x11).1; have := (h_x11).2; have := (h_x13).1; have := (h_x13).2; have := (h166).1; have := (h166).2; have := (h183).1; have := (h183).2; have := (h_x66).1; have := (h_x66).2; have := (h_x7).1; have := (h_x7).2; have := (h69).1; have := (h69).2; have := (h149).1; have := (h149).2; have := (h86).1; have := (h86).2; have := (h_x9).1; have := (h_x9).2; have : (1 : Int32).toInt = 1 := (by decide); omega
            exact ih_2 1 x184 x168 x11 x13 M178 R3 J177 H locs _ (iv_mono (iv_c (c := 1) (n := 1) (by decide)) (by decide) (by decide)) (iv_mono h183 (by decide) (by decide)) k182 (iv_mono h166 (by decide) (by decide)) k189 h_x11 k190 h_x13 k191 w192 w193 w194 w195 w196 hm197 hS (lv_sub hl [0, 2] rfl)
          · have q198 : x161.toInt = 0 := ti_eq c163
            have h199 : iv 0 0 x161 := ⟨by have := (h_x161).1; have := ((iv_c (c := 0) (n := 0) (by decide))).1; omega, by have := (h_x161).2; have := ((iv_c (c := 0) (n := 0) (by decide))).2; omega⟩
            refine lv_iconst (v := 0) hx hb dX12_fact_32 (by decide) ?_
            have k200 : M158 a0 13 = x87 := (Fr.kp (k := 13) f155 hk_a0 rfl).trans k85
            have q201 : nx.toInt ≤ x87.toInt ∧ x87.toInt ≤ tp.toInt := by
              have := (h_le).1; have := (h_le).2; have := (h_md).1; have := (h_md).2; have := (h_nx).1; have := (h_nx).2; have := (h_on).1; have := (h_on).2; have := (h_tp).1; have := (h_tp).2; have := (h_tx).1; have := (h_tx).2; have := (h_x11).1; have := (h_x11).2; have := (h_x13).1; have := (h_x13).2; have := (h_x66).1; have := (h_x66).2; have := (h_x7).1; have := (h_x7).2; have := (h69).1; have := (h69).2; have := (h149).1; have := (h149).2; have := (h86).1; have := (h86).2; have := (h_x9).1; have := (h_x9).2; omega
            exact tw_endz hx hb hr hlocks hK hT hS hQ rfl (⟨(iv_mono (iv_c (c := 0) (n := 0) (by decide)) (by decide) (by decide)), ⟨⟨x87, k200, h86, q201.1, q201.2⟩, (fun j hj => (Fr.kpa f155 hk_sg rfl j).trans ((fun j hj => (Fr.kpa f77 hk_sg rfl j).trans ((fun j hj => (Fr.kpa f60 hk_sg rfl j).trans (w2_2 j hj)) j hj)) j hj)), (fun h => absurd rfl h)⟩⟩) dX12_fact_33
  have w202 : nx.toInt ≤ nx.toInt ∧ nx.toInt ≤ tp.toInt ∧ le.toInt + on.toInt ≤ nx.toInt ∧ le.toInt = le.toInt ∧ md.toInt = md.toInt := by
    have := (h_le).1; have := (h_le).2; have := (h_md).1; have := (h_md).2; have := (h_nx).1; have := (h_nx).2; have := (h_on).1; have := (h_on).2; have := (h_tp).1; have := (h_tp).2; have := (h_tx).1; have := (h_tx).2; omega
  have w203 : SEG Ma sg tx.toNatClampNeg sb le.toNatClampNeg sh := hseg
  have w204 : ∀ j, j < 400 * tx.toNatClampNeg + le.toNatClampNeg → Ma sg j = Ma sg j := (fun j _ => rfl)
  have w205 : nbo Ma op on.toNatClampNeg = sh := hnb
  have w206 : opK Ma op on.toNatClampNeg := hopk
  have hm207 : 2 * (400 - nx.toInt) + (1 : Int32).toInt < (((802 : Nat) : Int) : Int) := by
    have := (h_le).1; have := (h_le).2; have := (h_md).1; have := (h_md).2; have := (h_nx).1; have := (h_nx).2; have := (h_on).1; have := (h_on).2; have := (h_tp).1; have := (h_tp).2; have := (h_tx).1; have := (h_tx).2; have : (1 : Int32).toInt = 1 := (by decide); omega
  exact W2_2 802 1 nx on le md Ma Ra Ja s.heap [] _ (iv_mono (iv_c (c := 1) (n := 1) (by decide)) (by decide) (by decide)) (iv_mono h_nx (by decide) (by decide)) k_nx h_on k_on h_le k_le h_md k_md w202 w203 w204 w205 w206 hm207 hS hl
def Lt_X12_rounds : WL := [(12, 23, 24), (12, 28, 29), (12, 30, 33), (12, 35, 37), (14, 0, 2000000), (30, 0, 2000000), (31, 0, 2000000)]
def LRt_X12_rounds : WL := []
set_option maxRecDepth 100000 in
set_option maxHeartbeats 4000000 in
theorem t_X12_rounds (l : Launch) (D : va_G) (cy : Nat → ClassId) (tx : (Nat → Nat) × (Nat → Nat)) (base Z : Nat) (K N : Nat → Nat) (Ma : MT) (Ra : RT) (Ja : JT) (hTy : Ty Z K N Ma Ra) (a0 : Nat) (hz_a0 : a0 < Z) (hk_a0 : K a0 = 12) (a1 : Int32) (h_a1 : iv (-2147483648) 2147483647 a1) (co_a0 : Codes Ma Ra a0) : Met l yX12_rounds [Cond.code yX12_rounds cX12_rounds 4 (some .int)] (md_rm 5 0 0) (va_Pc [.ref (base + a0), .int a1] (md_U D cy tx base Z K N Ma Ra Ja)) (mQi D cy tx base (fun r u => TP Z K N Lt_X12_rounds LRt_X12_rounds Ma Ra u ∧ (iv (-2147483648) 2147483647 r))) 0 0 (fun q => base ≤ q) := by
  refine tw_ofW (L := Lt_X12_rounds) (LR := LRt_X12_rounds) (by decide) (Nat.le_of_ble_eq_true rfl) hTy ?_
  intro p e s m args below meth c Q ls hx hb hr hlocks hown hml hW hK hT hS hQ hl
  have hl : lv_has ls 4 [(0, .ref (base + a0)), (1, .int a1)] := hl
  refine lv_aload_n hx hb dX12_rounds_0 rfl (lv_at hl 0 rfl) ?_
  refine tw_getr hx hb hW hown hK hS f_X12_45_11 hz_a0 hk_a0 (t := 23) (n := 226) rfl dX12_rounds_1 (fun b1 k2 hz_b1 hk_b1 hn_b1 => ?_)
  have hn_b1 := hn_b1 (by decide)
  refine lv_iconst (v := 4) hx hb dX12_rounds_4 (by decide) ?_
  refine tw_iald hx hb hK hS hz_b1 hk_b1 (Or.inr (by decide)) hn_b1 (lo := 0) (hi := 8) (iv_c (c := 4) (n := 4) (by decide)) ⟨by decide, by decide⟩ (rg_c (k0 := 4) rfl rfl rfl) dX12_rounds_5 (fun x5 k4 h3 => ?_)
  refine lv_if_eq (tgt := 31) hx hb dX12_rounds_6 (by decide) (fun c6 => ?_) (fun c6 => ?_)
  · have q7 : x5.toInt = 0 := ti_eq c6
    have h8 : iv 0 0 x5 := ⟨by have := (h3).1; have := ((iv_c (c := 0) (n := 0) (by decide))).1; omega, by have := (h3).2; have := ((iv_c (c := 0) (n := 0) (by decide))).2; omega⟩
    refine lv_iconst (v := (-1)) hx hb dX12_rounds_31 (by decide) ?_
    exact tw_endi hx hb hr hlocks hK hT hS hQ ((iv_mono (iv_c (c := (-1)) (n := (-1)) (by decide)) (by decide) (by decide))) dX12_rounds_32
  · have q9 : ¬ x5.toInt = 0 := ti_ne c6
    have h10 : iv 1 8 x5 := ⟨by have := (h3).1; have := ((iv_c (c := 0) (n := 0) (by decide))).1; have := ((iv_c (c := 0) (n := 0) (by decide))).2; omega, by have := (h3).2; have := ((iv_c (c := 0) (n := 0) (by decide))).1; have := ((iv_c (c := 0) (n := 0) (by decide))).2; omega⟩
    refine lv_iload_n hx hb dX12_rounds_9 rfl (lv_at hl 1 rfl) ?_
    refine lv_i2l hx hb dX12_rounds_10 rfl ?_
    refine lv_lconst (v := 0) hx hb dX12_rounds_11 (by decide) ?_
    refine lv_ldc2 hx hb hown (hW _ w_7_178 rfl) dX12_rounds_12 ?_
    refine tw_goi hS (md_runS (As := [.long a1.toInt64, .long 0, .long 2]) (rest := []) hx hb hml hown hW hK hT hS.1 (t_X12_in l D cy tx base Z K N Ma Ra Ja hS.2.1 (a1.toInt64) (0) (2)) s_X12_155 ⟨rfl, rfl, ⟨Nat.le_of_ble_eq_true rfl, Nat.le_of_ble_eq_true rfl⟩, ⟨Nat.le_of_ble_eq_true rfl, Nat.le_of_ble_eq_true rfl⟩⟩ rfl hl.1 rfl (Nat.le_of_ble_eq_true rfl) dX12_rounds_15) rfl rfl (fun x17 H locs M14 R15 J13 hS f11 g12 E16 => ?_)
    have eM14 := Fr.nil f11 rfl
    subst eM14
    have eR15 := Fr.nil g12 rfl
    subst eR15
    obtain ⟨h_x17, p18⟩ := E16
    refine lv_if_ne (tgt := 33) hx hb dX12_rounds_18 (by decide) (fun c19 => ?_) (fun c19 => ?_)
    · have q20 : ¬ x17.toInt = 0 := ti_ne c19
      have h21 : iv 1 1 x17 := ⟨by have := (h_x17).1; have := ((iv_c (c := 0) (n := 0) (by decide))).1; have := ((iv_c (c := 0) (n := 0) (by decide))).2; omega, by have := (h_x17).2; have := ((iv_c (c := 0) (n := 0) (by decide))).1; have := ((iv_c (c := 0) (n := 0) (by decide))).2; omega⟩
      have h22 : iv 0 2 a1 := in2iv (p18 c19) ((jv_c (x := 0) (n := 0) (by decide))).1 ((jv_c (x := 2) (n := 2) (by decide))).2
      refine lv_aload_n hx hb dX12_rounds_33 rfl (lv_at hl 0 rfl) ?_
      refine tw_gov hS (md_runV (As := []) (rest := []) hx hb hml hown hW hK hT hS.1 (t_X12_begins l D cy tx base Z K N Ma Ra J13 hS.2.1 a0 hz_a0 hk_a0 b1 k2 x5 k4 (iv_mono h10 (by decide) (by decide))) s_X12_393 ⟨rfl, rfl, ⟨Nat.le_of_ble_eq_true rfl, Nat.le_of_ble_eq_true rfl⟩, ⟨Nat.le_of_ble_eq_true rfl, Nat.le_of_ble_eq_true rfl⟩⟩ hz_a0 hk_a0 (by decide) rfl rfl hl.1 rfl (Nat.le_of_ble_eq_true rfl) dX12_rounds_34) rfl rfl (fun H locs M26 R27 J25 hS f23 g24 E28 => ?_)
      have eR27 := Fr.nil g24 rfl
      subst eR27
      have p29 := E28
      have k30 : M26 a0 30 = x5 := p29
      refine lv_aload_n hx hb dX12_rounds_37 rfl (lv_at hl 0 rfl) ?_
      refine lv_iconst (v := 0) hx hb dX12_rounds_38 (by decide) ?_
      refine tw_puti hx hb hW hown hK hS f_X12_407_11 hz_a0 hk_a0 rfl rfl (lo := (-2147483648)) (hi := 2147483647) rfl (iv_mono (iv_c (c := 0) (n := 0) (by decide)) (by decide) (by decide)) rfl dX12_rounds_39 (fun H locs M33 hS k31 f32 => ?_)
      refine lv_aload_n hx hb dX12_rounds_42 rfl (lv_at hl 0 rfl) ?_
      refine lv_iconst (v := 0) hx hb dX12_rounds_43 (by decide) ?_
      refine tw_gov hS (md_runV (As := [.int 0]) (rest := []) hx hb hml hown hW hK hT hS.1 (t_X12_keepsDay l D cy tx base Z K N M33 Ra J25 hS.2.1 a0 hz_a0 hk_a0 0 (iv_mono (iv_c (c := 0) (n := 0) (by decide)) (by decide) (by decide))) s_X12_478 ⟨rfl, rfl, ⟨Nat.le_of_ble_eq_true rfl, Nat.le_of_ble_eq_true rfl⟩, ⟨Nat.le_of_ble_eq_true rfl, Nat.le_of_ble_eq_true rfl⟩⟩ hz_a0 hk_a0 (by decide) rfl rfl hl.1 rfl (Nat.le_of_ble_eq_true rfl) dX12_rounds_44) rfl rfl (fun H locs M37 R38 J36 hS f34 g35 E39 => ?_)
      have eR38 := Fr.nil g35 rfl
      subst eR38
      refine lv_iconst (v := 1) hx hb dX12_rounds_47 (by decide) ?_
      refine lv_istore_n (lv' := [(2, .int 1), (0, .ref (base + a0)), (1, .int a1)]) hx hb dX12_rounds_48 rfl hl (by decide) rfl (fun ls hl => ?_)
      have W49_41 : ∀ (n_41 : Nat) (x40 : Int32) (M41 : MT) (R42 : RT) (J43 : JT) (H : Heap) (locs : List Loc) (ls : Array Slot) (h_x40 : iv 1 301 x40) (hm_41 : 301 - x40.toInt < (n_41 : Int)) (hS : SB D cy base Z K N Lt_X12_rounds LRt_X12_rounds Ma Ra M41 R42 J43 s H locs) (hl : lv_has ls 4 [(2, .int x40), (0, .ref (base + a0)), (1, .int a1)]), W p l e (md_rm 5 0 0) s m args below meth c H locs 0 0 Q (F0 m 49 ls []) := by
        intro n_41
        induction n_41 with
        | zero =>
          intro x40 M41 R42 J43 H locs ls h_x40 hm_41 hS hl
          exfalso
          have := (h22).1; have := (h22).2; have := (h_x40).1; have := (h_x40).2; omega
        | succ n_41 ih_41 =>
          intro x40 M41 R42 J43 H locs ls h_x40 hm_41 hS hl
          have f44 := hS.2.2.1
          have g45 := hS.2.2.2
          refine lv_iload_n hx hb dX12_rounds_49 rfl (lv_at hl 0 rfl) ?_
          refine lv_sipush (v := 300) hx hb dX12_rounds_50 (by decide) ?_
          refine lv_icmp_gt (tgt := 210) hx hb dX12_rounds_53 (by decide) (fun c46 => ?_) (fun c46 => ?_)
          · have q47 : 300 < x40.toInt := ti_lt c46
            have h48 : iv 301 301 x40 := iv_gtL (y := 300) h_x40 (iv_c (c := 300) (n := 300) (by decide)) q47 (by decide)
            refine lv_bipush (v := (-2)) hx hb dX12_rounds_210 (by decide) ?_
            exact tw_endi hx hb hr hlocks hK hT hS hQ ((iv_mono (iv_c (c := (-2)) (n := (-2)) (by decide)) (by decide) (by decide))) dX12_rounds_212
          · have q49 : x40.toInt ≤ 300 := ti_nlt c46
            have h50 : iv 1 300 x40 := iv_leL (y := 300) h_x40 (iv_c (c := 300) (n := 300) (by decide)) q49 (by decide)
            refine lv_iconst (v := 0) hx hb dX12_rounds_56 (by decide) ?_
            refine lv_istore_n (lv' := [(3, .int 0), (2, .int x40), (0, .ref (base + a0)), (1, .int a1)]) hx hb dX12_rounds_57 rfl hl (by decide) rfl (fun ls hl => ?_)
            have W58_52 : ∀ (n_52 : Nat) (x51 : Int32) (M52 : MT) (R53 : RT) (J54 : JT) (H : Heap) (locs : List Loc) (ls : Array Slot) (h_x51 : iv 0 8 x51) (hm_52 : 8 - x51.toInt < (n_52 : Int)) (hS : SB D cy base Z K N Lt_X12_rounds LRt_X12_rounds Ma Ra M52 R53 J54 s H locs) (hl : lv_has ls 4 [(3, .int x51), (2, .int x40), (0, .ref (base + a0)), (1, .int a1)]), W p l e (md_rm 5 0 0) s m args below meth c H locs 0 0 Q (F0 m 58 ls []) := by
              intro n_52
              induction n_52 with
              | zero =>
                intro x51 M52 R53 J54 H locs ls h_x51 hm_52 hS hl
                exfalso
                have := (h22).1; have := (h22).2; have := (h_x51).1; have := (h_x51).2; omega
              | succ n_52 ih_52 =>
                intro x51 M52 R53 J54 H locs ls h_x51 hm_52 hS hl
                have f55 := hS.2.2.1
                have g56 := hS.2.2.2
                refine lv_iload_n hx hb dX12_rounds_58 rfl (lv_at hl 0 rfl) ?_
                refine lv_aload_n hx hb dX12_rounds_59 rfl (lv_at hl 2 rfl) ?_
                refine tw_geti hx hb hW hown hK hS f_X12_351_11 hz_a0 hk_a0 (lo := 0) (hi := 8) rfl dX12_rounds_60 (fun x59 k58 h57 => ?_)
                refine lv_icmp_ge (tgt := 108) hx hb dX12_rounds_63 (by decide) (fun c60 => ?_) (fun c60 => ?_)
                · have q61 : x59.toInt ≤ x51.toInt := ti_le c60
                  refine lv_aload_n hx hb dX12_rounds_108 rfl (lv_at hl 2 rfl) ?_
                  refine lv_iload_n hx hb dX12_rounds_109 rfl (lv_at hl 1 rfl) ?_
                  refine tw_gov hS (md_runV (As := [.int x40]) (rest := []) hx hb hml hown hW hK hT hS.1 (t_X12_keepsDay l D cy tx base Z K N M52 R53 J54 hS.2.1 a0 hz_a0 hk_a0 x40 (iv_mono h50 (by decide) (by decide))) s_X12_478 ⟨rfl, rfl, ⟨Nat.le_of_ble_eq_true rfl, Nat.le_of_ble_eq_true rfl⟩, ⟨Nat.le_of_ble_eq_true rfl, Nat.le_of_ble_eq_true rfl⟩⟩ hz_a0 hk_a0 (by decide) rfl rfl hl.1 rfl (Nat.le_of_ble_eq_true rfl) dX12_rounds_110) rfl rfl (fun H locs M65 R66 J64 hS f62 g63 E67 => ?_)
                  have eR66 := Fr.nil g63 rfl
                  subst eR66
                  refine lv_iconst (v := 0) hx hb dX12_rounds_113 (by decide) ?_
                  refine lv_istore_n (lv' := [(3, .int 0), (2, .int x40), (0, .ref (base + a0)), (1, .int a1)]) hx hb dX12_rounds_114 rfl hl (by decide) rfl (fun ls hl => ?_)
                  have W115_69 : ∀ (n_69 : Nat) (x68 : Int32) (M69 : MT) (R70 : RT) (J71 : JT) (H : Heap) (locs : List Loc) (ls : Array Slot) (h_x68 : iv 0 300 x68) (hm_69 : 300 - x68.toInt < (n_69 : Int)) (hS : SB D cy base Z K N Lt_X12_rounds LRt_X12_rounds Ma Ra M69 R70 J71 s H locs) (hl : lv_has ls 4 [(3, .int x68), (2, .int x40), (0, .ref (base + a0)), (1, .int a1)]), W p l e (md_rm 5 0 0) s m args below meth c H locs 0 0 Q (F0 m 115 ls []) := by
                    intro n_69
                    induction n_69 with
                    | zero =>
                      intro x68 M69 R70 J71 H locs ls h_x68 hm_69 hS hl
                      exfalso
                      have := (h22).1; have := (h22).2; have := (h_x68).1; have := (h_x68).2; omega
                    | succ n_69 ih_69 =>
                      intro x68 M69 R70 J71 H locs ls h_x68 hm_69 hS hl
                      have f72 := hS.2.2.1
                      have g73 := hS.2.2.2
                      refine lv_iload_n hx hb dX12_rounds_115 rfl (lv_at hl 0 rfl) ?_
                      refine lv_iload_n hx hb dX12_rounds_116 rfl (lv_at hl 1 rfl) ?_
                      refine lv_icmp_ge (tgt := 204) hx hb dX12_rounds_117 (by decide) (fun c74 => ?_) (fun c74 => ?_)
                      · have q75 : x40.toInt ≤ x68.toInt := ti_le c74
                        have h76 : iv 1 300 x68 := iv_geL (y := x40) h_x68 h50 q75 (by decide)
                        refine tw_iinc (lv' := fun x79 => [(2, .int x79), (3, .int x68), (0, .ref (base + a0)), (1, .int a1)]) (lo := 2) (hi := 301) hx hb dX12_rounds_204 hl (k := 1) rfl h50 (by decide) ⟨by decide, by decide⟩ ⟨by decide, by decide⟩ (by decide) (fun _ => rfl) (fun x79 ls e78 h77 hl => ?_)
                        refine lv_goto (tgt := 49) hx hb dX12_rounds_207 (by decide) ?_
                        have hm80 : 301 - x79.toInt < (n_41 : Int) := by
                          have := (h22).1; have := (h22).2; have := (h50).1; have := (h50).2; have := (h77).1; have := (h77).2; omega
                        exact ih_41 x79 M69 R70 J71 H locs _ (iv_mono h77 (by decide) (by decide)) hm80 hS (lv_sub hl [0, 2, 3] rfl)
                      · have q81 : x68.toInt < x40.toInt := ti_nle c74
                        have h82 : iv 0 299 x68 := iv_ltL (y := x40) h_x68 h50 q81 (by decide)
                        refine lv_aload_n hx hb dX12_rounds_120 rfl (lv_at hl 2 rfl) ?_
                        refine lv_iload_n hx hb dX12_rounds_121 rfl (lv_at hl 1 rfl) ?_
                        refine lv_iload_n hx hb dX12_rounds_122 rfl (lv_at hl 0 rfl) ?_
                        refine tw_goi hS (md_runV (As := [.int x40, .int x68]) (rest := []) hx hb hml hown hW hK hT hS.1 (t_X12_isAgain l D cy tx base Z K N M69 R70 J71 hS.2.1 a0 hz_a0 hk_a0 x40 h50 x68 (iv_mono h82 (by decide) (by decide))) s_X12_481 ⟨rfl, rfl, ⟨Nat.le_of_ble_eq_true rfl, Nat.le_of_ble_eq_true rfl⟩, ⟨Nat.le_of_ble_eq_true rfl, Nat.le_of_ble_eq_true rfl⟩⟩ hz_a0 hk_a0 (by decide) rfl rfl hl.1 rfl (Nat.le_of_ble_eq_true rfl) dX12_rounds_123) rfl rfl (fun x89 H locs M86 R87 J85 hS f83 g84 E88 => ?_)
                        have eM86 := Fr.nil f83 rfl
                        subst eM86
                        have eR87 := Fr.nil g84 rfl
                        subst eR87
                        have h_x89 := E88
                        refine lv_if_ne (tgt := 132) hx hb dX12_rounds_126 (by decide) (fun c90 => ?_) (fun c90 => ?_)
                        · have q91 : ¬ x89.toInt = 0 := ti_ne c90
                          have h92 : iv 1 1 x89 := ⟨by have := (h_x89).1; have := ((iv_c (c := 0) (n := 0) (by decide))).1; have := ((iv_c (c := 0) (n := 0) (by decide))).2; omega, by have := (h_x89).2; have := ((iv_c (c := 0) (n := 0) (by decide))).1; have := ((iv_c (c := 0) (n := 0) (by decide))).2; omega⟩
                          refine lv_iload_n hx hb dX12_rounds_132 rfl (lv_at hl 3 rfl) ?_
                          refine lv_iconst (v := 3) hx hb dX12_rounds_133 (by decide) ?_
                          refine lv_icmp_ge (tgt := 170) hx hb dX12_rounds_134 (by decide) (fun c93 => False.elim (by have q : 3 ≤ a1.toInt := ti_le c93; have := (h22).1; have := (h22).2; omega)) (fun c93 => ?_)
                          have q94 : a1.toInt < 3 := ti_nle c93
                          refine lv_iload_n hx hb dX12_rounds_137 rfl (lv_at hl 3 rfl) ?_
                          refine lv_if_ne (tgt := 145) hx hb dX12_rounds_138 (by decide) (fun c95 => ?_) (fun c95 => ?_)
                          · have q96 : ¬ a1.toInt = 0 := ti_ne c95
                            have h97 : iv 1 2 a1 := ⟨by have := (h22).1; have := ((iv_c (c := 0) (n := 0) (by decide))).1; have := ((iv_c (c := 0) (n := 0) (by decide))).2; omega, by have := (h22).2; have := ((iv_c (c := 0) (n := 0) (by decide))).1; have := ((iv_c (c := 0) (n := 0) (by decide))).2; omega⟩
                            refine lv_iload_n hx hb dX12_rounds_145 rfl (lv_at hl 3 rfl) ?_
                            refine lv_iconst (v := 1) hx hb dX12_rounds_146 (by decide) ?_
                            refine lv_icmp_ne (tgt := 156) hx hb dX12_rounds_147 (by decide) (fun c98 => ?_) (fun c98 => ?_)
                            · have q99 : ¬ a1.toInt = 1 := ti_ne c98
                              have h100 : iv 2 2 a1 := ⟨by have := (h97).1; have := ((iv_c (c := 1) (n := 1) (by decide))).1; have := ((iv_c (c := 1) (n := 1) (by decide))).2; omega, by have := (h97).2; have := ((iv_c (c := 1) (n := 1) (by decide))).1; have := ((iv_c (c := 1) (n := 1) (by decide))).2; omega⟩
                              refine lv_aload_n hx hb dX12_rounds_156 rfl (lv_at hl 2 rfl) ?_
                              refine tw_getr hx hb hW hown hK hS f_X12_99_11 hz_a0 hk_a0 (t := 14) (n := 301) rfl dX12_rounds_157 (fun b101 k102 hz_b101 hk_b101 hn_b101 => ?_)
                              have hn_b101 := hn_b101 (by decide)
                              refine lv_iload_n hx hb dX12_rounds_160 rfl (lv_at hl 1 rfl) ?_
                              refine tw_iald hx hb hK hS hz_b101 hk_b101 (Or.inl rfl) hn_b101 (lo := (-2147483648)) (hi := 2147483647) h50 ⟨by decide, by decide⟩ rg_u14 dX12_rounds_161 (fun x105 k104 h103 => ?_)
                              refine lv_aload_n hx hb dX12_rounds_162 rfl (lv_at hl 2 rfl) ?_
                              refine tw_getrk hx hb hW hown hK hS f_X12_99_11 hz_a0 hk_a0 (b := b101) k102 dX12_rounds_163 ?_
                              refine lv_iload_n hx hb dX12_rounds_166 rfl (lv_at hl 0 rfl) ?_
                              refine tw_iald hx hb hK hS hz_b101 hk_b101 (Or.inl rfl) hn_b101 (lo := (-2147483648)) (hi := 2147483647) h82 ⟨by decide, by decide⟩ rg_u14 dX12_rounds_167 (fun x108 k107 h106 => ?_)
                              refine lv_isub hx hb dX12_rounds_168 ?_
                              refine tw_top (fun x110 => ?_)
                              have h109 := iv_any x110
                              exact tw_endi hx hb hr hlocks hK hT hS hQ (h109) dX12_rounds_169
                            · have q111 : a1.toInt = 1 := ti_eq c98
                              have h112 : iv 1 1 a1 := ⟨by have := (h97).1; have := ((iv_c (c := 1) (n := 1) (by decide))).1; omega, by have := (h97).2; have := ((iv_c (c := 1) (n := 1) (by decide))).2; omega⟩
                              refine lv_iload_n hx hb dX12_rounds_150 rfl (lv_at hl 1 rfl) ?_
                              refine lv_iload_n hx hb dX12_rounds_151 rfl (lv_at hl 0 rfl) ?_
                              refine tw_isub (lo := (-298)) (hi := 300) hx hb h50 h82 ⟨by decide, by decide⟩ ⟨by decide, by decide⟩ dX12_rounds_152 (fun x115 e114 h113 => ?_)
                              refine lv_goto (tgt := 169) hx hb dX12_rounds_153 (by decide) ?_
                              exact tw_endi hx hb hr hlocks hK hT hS hQ ((iv_mono h113 (by decide) (by decide))) dX12_rounds_169
                          · have q116 : a1.toInt = 0 := ti_eq c95
                            have h117 : iv 0 0 a1 := ⟨by have := (h22).1; have := ((iv_c (c := 0) (n := 0) (by decide))).1; omega, by have := (h22).2; have := ((iv_c (c := 0) (n := 0) (by decide))).2; omega⟩
                            refine lv_iload_n hx hb dX12_rounds_141 rfl (lv_at hl 0 rfl) ?_
                            refine lv_goto (tgt := 169) hx hb dX12_rounds_142 (by decide) ?_
                            exact tw_endi hx hb hr hlocks hK hT hS hQ ((iv_mono h82 (by decide) (by decide))) dX12_rounds_169
                        · have q118 : x89.toInt = 0 := ti_eq c90
                          have h119 : iv 0 0 x89 := ⟨by have := (h_x89).1; have := ((iv_c (c := 0) (n := 0) (by decide))).1; omega, by have := (h_x89).2; have := ((iv_c (c := 0) (n := 0) (by decide))).2; omega⟩
                          refine lv_goto (tgt := 198) hx hb dX12_rounds_129 (by decide) ?_
                          refine tw_iinc (lv' := fun x122 => [(3, .int x122), (2, .int x40), (0, .ref (base + a0)), (1, .int a1)]) (lo := 1) (hi := 300) hx hb dX12_rounds_198 hl (k := 0) rfl h82 (by decide) ⟨by decide, by decide⟩ ⟨by decide, by decide⟩ (by decide) (fun _ => rfl) (fun x122 ls e121 h120 hl => ?_)
                          refine lv_goto (tgt := 115) hx hb dX12_rounds_201 (by decide) ?_
                          have hm123 : 300 - x122.toInt < (n_69 : Int) := by
                            have := (h22).1; have := (h22).2; have := (h120).1; have := (h120).2; have := (h82).1; have := (h82).2; omega
                          exact ih_69 x122 M69 R70 J85 H locs _ (iv_mono h120 (by decide) (by decide)) hm123 hS hl
                  have hm124 : 300 - (0 : Int32).toInt < (((301 : Nat) : Int) : Int) := by
                    have := (h22).1; have := (h22).2; have : (0 : Int32).toInt = 0 := (by decide); omega
                  exact W115_69 301 0 M65 R53 J64 H locs _ (iv_mono (iv_c (c := 0) (n := 0) (by decide)) (by decide) (by decide)) hm124 hS hl
                · have q125 : x51.toInt < x59.toInt := ti_nle c60
                  have h126 : iv 0 7 x51 := iv_ltL (y := x59) h_x51 h57 q125 (by decide)
                  have h127 : iv 1 8 x59 := iv_gtL (y := x51) h57 h_x51 q125 (by decide)
                  refine lv_aload_n hx hb dX12_rounds_66 rfl (lv_at hl 2 rfl) ?_
                  refine lv_aload_n hx hb dX12_rounds_67 rfl (lv_at hl 2 rfl) ?_
                  have k128 : R53 a0 25 = some b1 := (Fr.kp (k := 25) g56 hk_a0 rfl).trans k2
                  refine tw_getrk hx hb hW hown hK hS f_X12_45_11 hz_a0 hk_a0 (b := b1) k128 dX12_rounds_68 ?_
                  refine lv_iconst (v := 3) hx hb dX12_rounds_71 (by decide) ?_
                  refine tw_iald hx hb hK hS hz_b1 hk_b1 (Or.inr (by decide)) hn_b1 (lo := (-2147483648)) (hi := 2147483647) (iv_c (c := 3) (n := 3) (by decide)) ⟨by decide, by decide⟩ (rg_c (k0 := 3) rfl rfl rfl) dX12_rounds_72 (fun x131 k130 h129 => ?_)
                  refine tw_puti hx hb hW hown hK hS f_X12_348_11 hz_a0 hk_a0 rfl rfl (lo := (-2147483648)) (hi := 2147483647) rfl h129 rfl dX12_rounds_73 (fun H locs M134 hS k132 f133 => ?_)
                  refine lv_aload_n hx hb dX12_rounds_76 rfl (lv_at hl 2 rfl) ?_
                  refine lv_aload_n hx hb dX12_rounds_77 rfl (lv_at hl 2 rfl) ?_
                  refine tw_getr hx hb hW hown hK hS f_X12_54_11 hz_a0 hk_a0 (t := 31) (n := 8) rfl dX12_rounds_78 (fun b135 k136 hz_b135 hk_b135 hn_b135 => ?_)
                  have hn_b135 := hn_b135 (by decide)
                  refine lv_iload_n hx hb dX12_rounds_81 rfl (lv_at hl 0 rfl) ?_
                  refine tw_iald hx hb hK hS hz_b135 hk_b135 (Or.inr (by decide)) hn_b135 (lo := 0) (hi := 11) h126 ⟨by decide, by decide⟩ rg_u31 dX12_rounds_82 (fun x139 k138 h137 => ?_)
                  refine lv_iload_n hx hb dX12_rounds_83 rfl (lv_at hl 0 rfl) ?_
                  refine tw_gov hS (md_runV (As := [.int x139, .int x51]) (rest := []) hx hb hml hown hW hK hT hS.1 (t_X12_asks l D cy tx base Z K N M134 R53 J54 hS.2.1 a0 hz_a0 hk_a0 x139 h137 x51 (iv_mono h126 (by decide) (by decide)) (Codes.fr co_a0 hTy hz_a0 hk_a0 hS.2.2.1 hS.2.2.2 rfl)) s_X12_396 ⟨rfl, rfl, ⟨Nat.le_of_ble_eq_true rfl, Nat.le_of_ble_eq_true rfl⟩, ⟨Nat.le_of_ble_eq_true rfl, Nat.le_of_ble_eq_true rfl⟩⟩ hz_a0 hk_a0 (by decide) rfl rfl hl.1 rfl (Nat.le_of_ble_eq_true rfl) dX12_rounds_84) rfl rfl (fun H locs M143 R144 J142 hS f140 g141 E145 => ?_)
                  have eR144 := Fr.nil g141 rfl
                  subst eR144
                  refine lv_aload_n hx hb dX12_rounds_87 rfl (lv_at hl 2 rfl) ?_
                  refine lv_iconst (v := 0) hx hb dX12_rounds_88 (by decide) ?_
                  refine lv_aload_n hx hb dX12_rounds_89 rfl (lv_at hl 2 rfl) ?_
                  refine tw_getrk hx hb hW hown hK hS f_X12_54_11 hz_a0 hk_a0 (b := b135) k136 dX12_rounds_90 ?_
                  refine lv_iload_n hx hb dX12_rounds_93 rfl (lv_at hl 0 rfl) ?_
                  have k146 : M143 b135 x51.toNatClampNeg = x139 := (Fr.kpa f140 hk_b135 rfl x51.toNatClampNeg).trans k138
                  refine tw_ialk hx hb hK hS hz_b135 hk_b135 (Or.inr (by decide)) hn_b135 h126 ⟨by decide, by decide⟩ (v := x139) k146 dX12_rounds_94 ?_
                  refine lv_aload_n hx hb dX12_rounds_95 rfl (lv_at hl 2 rfl) ?_
                  refine tw_goi hS (md_runV (As := []) (rest := [.int x139, .int 0, .ref (base + a0)]) hx hb hml hown hW hK hT hS.1 (t_X12_settles_ l D cy tx base Z K N M143 R53 J142 hS.2.1 a0 hz_a0 hk_a0) s_X12_399 ⟨rfl, rfl, ⟨Nat.le_of_ble_eq_true rfl, Nat.le_of_ble_eq_true rfl⟩, ⟨Nat.le_of_ble_eq_true rfl, Nat.le_of_ble_eq_true rfl⟩⟩ hz_a0 hk_a0 (by decide) rfl rfl hl.1 rfl (Nat.le_of_ble_eq_true rfl) dX12_rounds_96) rfl rfl (fun x153 H locs M150 R151 J149 hS f147 g148 E152 => ?_)
                  have eR151 := Fr.nil g148 rfl
                  subst eR151
                  have h_x153 := E152
                  refine tw_gov hS (md_runV (As := [.int 0, .int x139, .int x153]) (rest := []) hx hb hml hown hW hK hT hS.1 (t_X12_counts l D cy tx base Z K N M150 R53 J149 hS.2.1 a0 hz_a0 hk_a0 0 (iv_mono (iv_c (c := 0) (n := 0) (by decide)) (by decide) (by decide)) x139 h137 x153 h_x153) s_X12_413 ⟨rfl, rfl, ⟨Nat.le_of_ble_eq_true rfl, Nat.le_of_ble_eq_true rfl⟩, ⟨Nat.le_of_ble_eq_true rfl, Nat.le_of_ble_eq_true rfl⟩⟩ hz_a0 hk_a0 (by decide) rfl rfl hl.1 rfl (Nat.le_of_ble_eq_true rfl) dX12_rounds_99) rfl rfl (fun H locs M157 R158 J156 hS f154 g155 E159 => ?_)
                  have eR158 := Fr.nil g155 rfl
                  subst eR158
                  refine tw_iinc (lv' := fun x162 => [(3, .int x162), (2, .int x40), (0, .ref (base + a0)), (1, .int a1)]) (lo := 1) (hi := 8) hx hb dX12_rounds_102 hl (k := 0) rfl h126 (by decide) ⟨by decide, by decide⟩ ⟨by decide, by decide⟩ (by decide) (fun _ => rfl) (fun x162 ls e161 h160 hl => ?_)
                  refine lv_goto (tgt := 58) hx hb dX12_rounds_105 (by decide) ?_
                  have hm163 : 8 - x162.toInt < (n_52 : Int) := by
                    have := (h22).1; have := (h22).2; have := (h160).1; have := (h160).2; have := (h126).1; have := (h126).2; omega
                  exact ih_52 x162 M157 R53 J156 H locs _ (iv_mono h160 (by decide) (by decide)) hm163 hS hl
            have hm164 : 8 - (0 : Int32).toInt < (((9 : Nat) : Int) : Int) := by
              have := (h22).1; have := (h22).2; have : (0 : Int32).toInt = 0 := (by decide); omega
            exact W58_52 9 0 M41 R42 J43 H locs _ (iv_mono (iv_c (c := 0) (n := 0) (by decide)) (by decide) (by decide)) hm164 hS hl
      have hm165 : 301 - (1 : Int32).toInt < (((301 : Nat) : Int) : Int) := by
        have := (h22).1; have := (h22).2; have : (1 : Int32).toInt = 1 := (by decide); omega
      exact W49_41 301 1 M37 Ra J36 H locs _ (iv_mono (iv_c (c := 1) (n := 1) (by decide)) (by decide) (by decide)) hm165 hS hl
    · have q166 : x17.toInt = 0 := ti_eq c19
      have h167 : iv 0 0 x17 := ⟨by have := (h_x17).1; have := ((iv_c (c := 0) (n := 0) (by decide))).1; omega, by have := (h_x17).2; have := ((iv_c (c := 0) (n := 0) (by decide))).2; omega⟩
      refine lv_aload_n hx hb dX12_rounds_21 rfl (lv_at hl 0 rfl) ?_
      refine lv_iload_n hx hb dX12_rounds_22 rfl (lv_at hl 1 rfl) ?_
      refine lv_iconst (v := 3) hx hb dX12_rounds_23 (by decide) ?_
      refine lv_isub hx hb dX12_rounds_24 ?_
      refine lv_topi (fun x170 e169 => ?_)
      have h168 := iv_any x170
      refine tw_goi hS (md_runV (As := [.int x170]) (rest := []) hx hb hml hown hW hK hT hS.1 (t_X12_isMember l D cy tx base Z K N Ma Ra J13 hS.2.1 a0 hz_a0 hk_a0 x170 h168) s_X12_319 ⟨rfl, rfl, ⟨Nat.le_of_ble_eq_true rfl, Nat.le_of_ble_eq_true rfl⟩, ⟨Nat.le_of_ble_eq_true rfl, Nat.le_of_ble_eq_true rfl⟩⟩ hz_a0 hk_a0 (by decide) rfl rfl hl.1 rfl (Nat.le_of_ble_eq_true rfl) dX12_rounds_25) rfl rfl (fun x177 H locs M174 R175 J173 hS f171 g172 E176 => ?_)
      have eM174 := Fr.nil f171 rfl
      subst eM174
      have eR175 := Fr.nil g172 rfl
      subst eR175
      obtain ⟨h_x177, p178⟩ := E176
      refine lv_if_ne (tgt := 33) hx hb dX12_rounds_28 (by decide) (fun c179 => ?_) (fun c179 => ?_)
      · have q180 : ¬ x177.toInt = 0 := ti_ne c179
        have h181 : iv 1 1 x177 := ⟨by have := (h_x177).1; have := ((iv_c (c := 0) (n := 0) (by decide))).1; have := ((iv_c (c := 0) (n := 0) (by decide))).2; omega, by have := (h_x177).2; have := ((iv_c (c := 0) (n := 0) (by decide))).1; have := ((iv_c (c := 0) (n := 0) (by decide))).2; omega⟩
        have h182 : iv 0 9 x170 := ⟨by have := (p178 c179).1; have := (h168).1; omega, by have := (p178 c179).2; have := (h168).2; omega⟩
        have h183 := rd_what e169 h182
        refine lv_aload_n hx hb dX12_rounds_33 rfl (lv_at hl 0 rfl) ?_
        refine tw_gov hS (md_runV (As := []) (rest := []) hx hb hml hown hW hK hT hS.1 (t_X12_begins l D cy tx base Z K N Ma Ra J173 hS.2.1 a0 hz_a0 hk_a0 b1 k2 x5 k4 (iv_mono h10 (by decide) (by decide))) s_X12_393 ⟨rfl, rfl, ⟨Nat.le_of_ble_eq_true rfl, Nat.le_of_ble_eq_true rfl⟩, ⟨Nat.le_of_ble_eq_true rfl, Nat.le_of_ble_eq_true rfl⟩⟩ hz_a0 hk_a0 (by decide) rfl rfl hl.1 rfl (Nat.le_of_ble_eq_true rfl) dX12_rounds_34) rfl rfl (fun H locs M187 R188 J186 hS f184 g185 E189 => ?_)
        have eR188 := Fr.nil g185 rfl
        subst eR188
        have p190 := E189
        have k191 : M187 a0 30 = x5 := p190
        refine lv_aload_n hx hb dX12_rounds_37 rfl (lv_at hl 0 rfl) ?_
        refine lv_iconst (v := 0) hx hb dX12_rounds_38 (by decide) ?_
        refine tw_puti hx hb hW hown hK hS f_X12_407_11 hz_a0 hk_a0 rfl rfl (lo := (-2147483648)) (hi := 2147483647) rfl (iv_mono (iv_c (c := 0) (n := 0) (by decide)) (by decide) (by decide)) rfl dX12_rounds_39 (fun H locs M194 hS k192 f193 => ?_)
        refine lv_aload_n hx hb dX12_rounds_42 rfl (lv_at hl 0 rfl) ?_
        refine lv_iconst (v := 0) hx hb dX12_rounds_43 (by decide) ?_
        refine tw_gov hS (md_runV (As := [.int 0]) (rest := []) hx hb hml hown hW hK hT hS.1 (t_X12_keepsDay l D cy tx base Z K N M194 Ra J186 hS.2.1 a0 hz_a0 hk_a0 0 (iv_mono (iv_c (c := 0) (n := 0) (by decide)) (by decide) (by decide))) s_X12_478 ⟨rfl, rfl, ⟨Nat.le_of_ble_eq_true rfl, Nat.le_of_ble_eq_true rfl⟩, ⟨Nat.le_of_ble_eq_true rfl, Nat.le_of_ble_eq_true rfl⟩⟩ hz_a0 hk_a0 (by decide) rfl rfl hl.1 rfl (Nat.le_of_ble_eq_true rfl) dX12_rounds_44) rfl rfl (fun H locs M198 R199 J197 hS f195 g196 E200 => ?_)
        have eR199 := Fr.nil g196 rfl
        subst eR199
        refine lv_iconst (v := 1) hx hb dX12_rounds_47 (by decide) ?_
        refine lv_istore_n (lv' := [(2, .int 1), (0, .ref (base + a0)), (1, .int a1)]) hx hb dX12_rounds_48 rfl hl (by decide) rfl (fun ls hl => ?_)
        have W49_202 : ∀ (n_202 : Nat) (x201 : Int32) (M202 : MT) (R203 : RT) (J204 : JT) (H : Heap) (locs : List Loc) (ls : Array Slot) (h_x201 : iv 1 301 x201) (hm_202 : 301 - x201.toInt < (n_202 : Int)) (hS : SB D cy base Z K N Lt_X12_rounds LRt_X12_rounds Ma Ra M202 R203 J204 s H locs) (hl : lv_has ls 4 [(2, .int x201), (0, .ref (base + a0)), (1, .int a1)]), W p l e (md_rm 5 0 0) s m args below meth c H locs 0 0 Q (F0 m 49 ls []) := by
          intro n_202
          induction n_202 with
          | zero =>
            intro x201 M202 R203 J204 H locs ls h_x201 hm_202 hS hl
            exfalso
            have := (h183).1; have := (h183).2; have := (h_x201).1; have := (h_x201).2; omega
          | succ n_202 ih_202 =>
            intro x201 M202 R203 J204 H locs ls h_x201 hm_202 hS hl
            have f205 := hS.2.2.1
            have g206 := hS.2.2.2
            refine lv_iload_n hx hb dX12_rounds_49 rfl (lv_at hl 0 rfl) ?_
            refine lv_sipush (v := 300) hx hb dX12_rounds_50 (by decide) ?_
            refine lv_icmp_gt (tgt := 210) hx hb dX12_rounds_53 (by decide) (fun c207 => ?_) (fun c207 => ?_)
            · have q208 : 300 < x201.toInt := ti_lt c207
              have h209 : iv 301 301 x201 := iv_gtL (y := 300) h_x201 (iv_c (c := 300) (n := 300) (by decide)) q208 (by decide)
              refine lv_bipush (v := (-2)) hx hb dX12_rounds_210 (by decide) ?_
              exact tw_endi hx hb hr hlocks hK hT hS hQ ((iv_mono (iv_c (c := (-2)) (n := (-2)) (by decide)) (by decide) (by decide))) dX12_rounds_212
            · have q210 : x201.toInt ≤ 300 := ti_nlt c207
              have h211 : iv 1 300 x201 := iv_leL (y := 300) h_x201 (iv_c (c := 300) (n := 300) (by decide)) q210 (by decide)
              refine lv_iconst (v := 0) hx hb dX12_rounds_56 (by decide) ?_
              refine lv_istore_n (lv' := [(3, .int 0), (2, .int x201), (0, .ref (base + a0)), (1, .int a1)]) hx hb dX12_rounds_57 rfl hl (by decide) rfl (fun ls hl => ?_)
              have W58_213 : ∀ (n_213 : Nat) (x212 : Int32) (M213 : MT) (R214 : RT) (J215 : JT) (H : Heap) (locs : List Loc) (ls : Array Slot) (h_x212 : iv 0 8 x212) (hm_213 : 8 - x212.toInt < (n_213 : Int)) (hS : SB D cy base Z K N Lt_X12_rounds LRt_X12_rounds Ma Ra M213 R214 J215 s H locs) (hl : lv_has ls 4 [(3, .int x212), (2, .int x201), (0, .ref (base + a0)), (1, .int a1)]), W p l e (md_rm 5 0 0) s m args below meth c H locs 0 0 Q (F0 m 58 ls []) := by
                intro n_213
                induction n_213 with
                | zero =>
                  intro x212 M213 R214 J215 H locs ls h_x212 hm_213 hS hl
                  exfalso
                  have := (h183).1; have := (h183).2; have := (h_x212).1; have := (h_x212).2; omega
                | succ n_213 ih_213 =>
                  intro x212 M213 R214 J215 H locs ls h_x212 hm_213 hS hl
                  have f216 := hS.2.2.1
                  have g217 := hS.2.2.2
                  refine lv_iload_n hx hb dX12_rounds_58 rfl (lv_at hl 0 rfl) ?_
                  refine lv_aload_n hx hb dX12_rounds_59 rfl (lv_at hl 2 rfl) ?_
                  refine tw_geti hx hb hW hown hK hS f_X12_351_11 hz_a0 hk_a0 (lo := 0) (hi := 8) rfl dX12_rounds_60 (fun x220 k219 h218 => ?_)
                  refine lv_icmp_ge (tgt := 108) hx hb dX12_rounds_63 (by decide) (fun c221 => ?_) (fun c221 => ?_)
                  · have q222 : x220.toInt ≤ x212.toInt := ti_le c221
                    refine lv_aload_n hx hb dX12_rounds_108 rfl (lv_at hl 2 rfl) ?_
                    refine lv_iload_n hx hb dX12_rounds_109 rfl (lv_at hl 1 rfl) ?_
                    refine tw_gov hS (md_runV (As := [.int x201]) (rest := []) hx hb hml hown hW hK hT hS.1 (t_X12_keepsDay l D cy tx base Z K N M213 R214 J215 hS.2.1 a0 hz_a0 hk_a0 x201 (iv_mono h211 (by decide) (by decide))) s_X12_478 ⟨rfl, rfl, ⟨Nat.le_of_ble_eq_true rfl, Nat.le_of_ble_eq_true rfl⟩, ⟨Nat.le_of_ble_eq_true rfl, Nat.le_of_ble_eq_true rfl⟩⟩ hz_a0 hk_a0 (by decide) rfl rfl hl.1 rfl (Nat.le_of_ble_eq_true rfl) dX12_rounds_110) rfl rfl (fun H locs M226 R227 J225 hS f223 g224 E228 => ?_)
                    have eR227 := Fr.nil g224 rfl
                    subst eR227
                    refine lv_iconst (v := 0) hx hb dX12_rounds_113 (by decide) ?_
                    refine lv_istore_n (lv' := [(3, .int 0), (2, .int x201), (0, .ref (base + a0)), (1, .int a1)]) hx hb dX12_rounds_114 rfl hl (by decide) rfl (fun ls hl => ?_)
                    have W115_230 : ∀ (n_230 : Nat) (x229 : Int32) (M230 : MT) (R231 : RT) (J232 : JT) (H : Heap) (locs : List Loc) (ls : Array Slot) (h_x229 : iv 0 300 x229) (hm_230 : 300 - x229.toInt < (n_230 : Int)) (hS : SB D cy base Z K N Lt_X12_rounds LRt_X12_rounds Ma Ra M230 R231 J232 s H locs) (hl : lv_has ls 4 [(3, .int x229), (2, .int x201), (0, .ref (base + a0)), (1, .int a1)]), W p l e (md_rm 5 0 0) s m args below meth c H locs 0 0 Q (F0 m 115 ls []) := by
                      intro n_230
                      induction n_230 with
                      | zero =>
                        intro x229 M230 R231 J232 H locs ls h_x229 hm_230 hS hl
                        exfalso
                        have := (h183).1; have := (h183).2; have := (h_x229).1; have := (h_x229).2; omega
                      | succ n_230 ih_230 =>
                        intro x229 M230 R231 J232 H locs ls h_x229 hm_230 hS hl
                        have f233 := hS.2.2.1
                        have g234 := hS.2.2.2
                        refine lv_iload_n hx hb dX12_rounds_115 rfl (lv_at hl 0 rfl) ?_
                        refine lv_iload_n hx hb dX12_rounds_116 rfl (lv_at hl 1 rfl) ?_
                        refine lv_icmp_ge (tgt := 204) hx hb dX12_rounds_117 (by decide) (fun c235 => ?_) (fun c235 => ?_)
                        · have q236 : x201.toInt ≤ x229.toInt := ti_le c235
                          have h237 : iv 1 300 x229 := iv_geL (y := x201) h_x229 h211 q236 (by decide)
                          refine tw_iinc (lv' := fun x240 => [(2, .int x240), (3, .int x229), (0, .ref (base + a0)), (1, .int a1)]) (lo := 2) (hi := 301) hx hb dX12_rounds_204 hl (k := 1) rfl h211 (by decide) ⟨by decide, by decide⟩ ⟨by decide, by decide⟩ (by decide) (fun _ => rfl) (fun x240 ls e239 h238 hl => ?_)
                          refine lv_goto (tgt := 49) hx hb dX12_rounds_207 (by decide) ?_
                          have hm241 : 301 - x240.toInt < (n_202 : Int) := by
                            have := (h183).1; have := (h183).2; have := (h211).1; have := (h211).2; have := (h238).1; have := (h238).2; omega
                          exact ih_202 x240 M230 R231 J232 H locs _ (iv_mono h238 (by decide) (by decide)) hm241 hS (lv_sub hl [0, 2, 3] rfl)
                        · have q242 : x229.toInt < x201.toInt := ti_nle c235
                          have h243 : iv 0 299 x229 := iv_ltL (y := x201) h_x229 h211 q242 (by decide)
                          refine lv_aload_n hx hb dX12_rounds_120 rfl (lv_at hl 2 rfl) ?_
                          refine lv_iload_n hx hb dX12_rounds_121 rfl (lv_at hl 1 rfl) ?_
                          refine lv_iload_n hx hb dX12_rounds_122 rfl (lv_at hl 0 rfl) ?_
                          refine tw_goi hS (md_runV (As := [.int x201, .int x229]) (rest := []) hx hb hml hown hW hK hT hS.1 (t_X12_isAgain l D cy tx base Z K N M230 R231 J232 hS.2.1 a0 hz_a0 hk_a0 x201 h211 x229 (iv_mono h243 (by decide) (by decide))) s_X12_481 ⟨rfl, rfl, ⟨Nat.le_of_ble_eq_true rfl, Nat.le_of_ble_eq_true rfl⟩, ⟨Nat.le_of_ble_eq_true rfl, Nat.le_of_ble_eq_true rfl⟩⟩ hz_a0 hk_a0 (by decide) rfl rfl hl.1 rfl (Nat.le_of_ble_eq_true rfl) dX12_rounds_123) rfl rfl (fun x250 H locs M247 R248 J246 hS f244 g245 E249 => ?_)
                          have eM247 := Fr.nil f244 rfl
                          subst eM247
                          have eR248 := Fr.nil g245 rfl
                          subst eR248
                          have h_x250 := E249
                          refine lv_if_ne (tgt := 132) hx hb dX12_rounds_126 (by decide) (fun c251 => ?_) (fun c251 => ?_)
                          · have q252 : ¬ x250.toInt = 0 := ti_ne c251
                            have h253 : iv 1 1 x250 := ⟨by have := (h_x250).1; have := ((iv_c (c := 0) (n := 0) (by decide))).1; have := ((iv_c (c := 0) (n := 0) (by decide))).2; omega, by have := (h_x250).2; have := ((iv_c (c := 0) (n := 0) (by decide))).1; have := ((iv_c (c := 0) (n := 0) (by decide))).2; omega⟩
                            refine lv_iload_n hx hb dX12_rounds_132 rfl (lv_at hl 3 rfl) ?_
                            refine lv_iconst (v := 3) hx hb dX12_rounds_133 (by decide) ?_
                            refine lv_icmp_ge (tgt := 170) hx hb dX12_rounds_134 (by decide) (fun c254 => ?_) (fun c254 => False.elim (by have q : a1.toInt < 3 := ti_nle c254; have := (h183).1; have := (h183).2; omega))
                            have q255 : 3 ≤ a1.toInt := ti_le c254
                            refine lv_aload_n hx hb dX12_rounds_170 rfl (lv_at hl 2 rfl) ?_
                            refine tw_getr hx hb hW hown hK hS f_X12_96_11 hz_a0 hk_a0 (t := 14) (n := 3010) rfl dX12_rounds_171 (fun b256 k257 hz_b256 hk_b256 hn_b256 => ?_)
                            have hn_b256 := hn_b256 (by decide)
                            refine lv_bipush (v := 10) hx hb dX12_rounds_174 (by decide) ?_
                            refine lv_iload_n hx hb dX12_rounds_176 rfl (lv_at hl 1 rfl) ?_
                            refine tw_icmul (k := 10) (lo := 10) (hi := 3000) hx hb (by decide) h211 (by decide) ⟨by decide, by decide⟩ ⟨by decide, by decide⟩ dX12_rounds_177 (fun x260 e259 h258 => ?_)
                            refine lv_iload_n hx hb dX12_rounds_178 rfl (lv_at hl 3 rfl) ?_
                            refine tw_iadd (lo := 13) (hi := 3012) hx hb h258 h183 ⟨by decide, by decide⟩ ⟨by decide, by decide⟩ dX12_rounds_179 (fun x263 e262 h261 => ?_)
                            refine lv_iconst (v := 3) hx hb dX12_rounds_180 (by decide) ?_
                            refine tw_isub (lo := 10) (hi := 3009) hx hb h261 (iv_c (c := 3) (n := 3) (by decide)) ⟨by decide, by decide⟩ ⟨by decide, by decide⟩ dX12_rounds_181 (fun x266 e265 h264 => ?_)
                            have e265 : x266.toInt = x263.toInt - 3 := e265
                            refine tw_iald hx hb hK hS hz_b256 hk_b256 (Or.inl rfl) hn_b256 (lo := (-2147483648)) (hi := 2147483647) h264 ⟨by decide, by decide⟩ rg_u14 dX12_rounds_182 (fun x269 k268 h267 => ?_)
                            refine lv_aload_n hx hb dX12_rounds_183 rfl (lv_at hl 2 rfl) ?_
                            refine tw_getrk hx hb hW hown hK hS f_X12_96_11 hz_a0 hk_a0 (b := b256) k257 dX12_rounds_184 ?_
                            refine lv_bipush (v := 10) hx hb dX12_rounds_187 (by decide) ?_
                            refine lv_iload_n hx hb dX12_rounds_189 rfl (lv_at hl 0 rfl) ?_
                            refine tw_icmul (k := 10) (lo := 0) (hi := 2990) hx hb (by decide) h243 (by decide) ⟨by decide, by decide⟩ ⟨by decide, by decide⟩ dX12_rounds_190 (fun x272 e271 h270 => ?_)
                            refine lv_iload_n hx hb dX12_rounds_191 rfl (lv_at hl 3 rfl) ?_
                            refine tw_iadd (lo := 3) (hi := 3002) hx hb h270 h183 ⟨by decide, by decide⟩ ⟨by decide, by decide⟩ dX12_rounds_192 (fun x275 e274 h273 => ?_)
                            refine lv_iconst (v := 3) hx hb dX12_rounds_193 (by decide) ?_
                            refine tw_isub (lo := 0) (hi := 2999) hx hb h273 (iv_c (c := 3) (n := 3) (by decide)) ⟨by decide, by decide⟩ ⟨by decide, by decide⟩ dX12_rounds_194 (fun x278 e277 h276 => ?_)
                            have e277 : x278.toInt = x275.toInt - 3 := e277
                            refine tw_iald hx hb hK hS hz_b256 hk_b256 (Or.inl rfl) hn_b256 (lo := (-2147483648)) (hi := 2147483647) h276 ⟨by decide, by decide⟩ rg_u14 dX12_rounds_195 (fun x281 k280 h279 => ?_)
                            refine lv_isub hx hb dX12_rounds_196 ?_
                            refine tw_top (fun x283 => ?_)
                            have h282 := iv_any x283
                            exact tw_endi hx hb hr hlocks hK hT hS hQ (h282) dX12_rounds_197
                          · have q284 : x250.toInt = 0 := ti_eq c251
                            have h285 : iv 0 0 x250 := ⟨by have := (h_x250).1; have := ((iv_c (c := 0) (n := 0) (by decide))).1; omega, by have := (h_x250).2; have := ((iv_c (c := 0) (n := 0) (by decide))).2; omega⟩
                            refine lv_goto (tgt := 198) hx hb dX12_rounds_129 (by decide) ?_
                            refine tw_iinc (lv' := fun x288 => [(3, .int x288), (2, .int x201), (0, .ref (base + a0)), (1, .int a1)]) (lo := 1) (hi := 300) hx hb dX12_rounds_198 hl (k := 0) rfl h243 (by decide) ⟨by decide, by decide⟩ ⟨by decide, by decide⟩ (by decide) (fun _ => rfl) (fun x288 ls e287 h286 hl => ?_)
                            refine lv_goto (tgt := 115) hx hb dX12_rounds_201 (by decide) ?_
                            have hm289 : 300 - x288.toInt < (n_230 : Int) := by
                              have := (h183).1; have := (h183).2; have := (h243).1; have := (h243).2; have := (h286).1; have := (h286).2; omega
                            exact ih_230 x288 M230 R231 J246 H locs _ (iv_mono h286 (by decide) (by decide)) hm289 hS hl
                    have hm290 : 300 - (0 : Int32).toInt < (((301 : Nat) : Int) : Int) := by
                      have := (h183).1; have := (h183).2; have : (0 : Int32).toInt = 0 := (by decide); omega
                    exact W115_230 301 0 M226 R214 J225 H locs _ (iv_mono (iv_c (c := 0) (n := 0) (by decide)) (by decide) (by decide)) hm290 hS hl
                  · have q291 : x212.toInt < x220.toInt := ti_nle c221
                    have h292 : iv 0 7 x212 := iv_ltL (y := x220) h_x212 h218 q291 (by decide)
                    have h293 : iv 1 8 x220 := iv_gtL (y := x212) h218 h_x212 q291 (by decide)
                    refine lv_aload_n hx hb dX12_rounds_66 rfl (lv_at hl 2 rfl) ?_
                    refine lv_aload_n hx hb dX12_rounds_67 rfl (lv_at hl 2 rfl) ?_
                    have k294 : R214 a0 25 = some b1 := (Fr.kp (k := 25) g217 hk_a0 rfl).trans k2
                    refine tw_getrk hx hb hW hown hK hS f_X12_45_11 hz_a0 hk_a0 (b := b1) k294 dX12_rounds_68 ?_
                    refine lv_iconst (v := 3) hx hb dX12_rounds_71 (by decide) ?_
                    refine tw_iald hx hb hK hS hz_b1 hk_b1 (Or.inr (by decide)) hn_b1 (lo := (-2147483648)) (hi := 2147483647) (iv_c (c := 3) (n := 3) (by decide)) ⟨by decide, by decide⟩ (rg_c (k0 := 3) rfl rfl rfl) dX12_rounds_72 (fun x297 k296 h295 => ?_)
                    refine tw_puti hx hb hW hown hK hS f_X12_348_11 hz_a0 hk_a0 rfl rfl (lo := (-2147483648)) (hi := 2147483647) rfl h295 rfl dX12_rounds_73 (fun H locs M300 hS k298 f299 => ?_)
                    refine lv_aload_n hx hb dX12_rounds_76 rfl (lv_at hl 2 rfl) ?_
                    refine lv_aload_n hx hb dX12_rounds_77 rfl (lv_at hl 2 rfl) ?_
                    refine tw_getr hx hb hW hown hK hS f_X12_54_11 hz_a0 hk_a0 (t := 31) (n := 8) rfl dX12_rounds_78 (fun b301 k302 hz_b301 hk_b301 hn_b301 => ?_)
                    have hn_b301 := hn_b301 (by decide)
                    refine lv_iload_n hx hb dX12_rounds_81 rfl (lv_at hl 0 rfl) ?_
                    refine tw_iald hx hb hK hS hz_b301 hk_b301 (Or.inr (by decide)) hn_b301 (lo := 0) (hi := 11) h292 ⟨by decide, by decide⟩ rg_u31 dX12_rounds_82 (fun x305 k304 h303 => ?_)
                    refine lv_iload_n hx hb dX12_rounds_83 rfl (lv_at hl 0 rfl) ?_
                    refine tw_gov hS (md_runV (As := [.int x305, .int x212]) (rest := []) hx hb hml hown hW hK hT hS.1 (t_X12_asks l D cy tx base Z K N M300 R214 J215 hS.2.1 a0 hz_a0 hk_a0 x305 h303 x212 (iv_mono h292 (by decide) (by decide)) (Codes.fr co_a0 hTy hz_a0 hk_a0 hS.2.2.1 hS.2.2.2 rfl)) s_X12_396 ⟨rfl, rfl, ⟨Nat.le_of_ble_eq_true rfl, Nat.le_of_ble_eq_true rfl⟩, ⟨Nat.le_of_ble_eq_true rfl, Nat.le_of_ble_eq_true rfl⟩⟩ hz_a0 hk_a0 (by decide) rfl rfl hl.1 rfl (Nat.le_of_ble_eq_true rfl) dX12_rounds_84) rfl rfl (fun H locs M309 R310 J308 hS f306 g307 E311 => ?_)
                    have eR310 := Fr.nil g307 rfl
                    subst eR310
                    refine lv_aload_n hx hb dX12_rounds_87 rfl (lv_at hl 2 rfl) ?_
                    refine lv_iconst (v := 0) hx hb dX12_rounds_88 (by decide) ?_
                    refine lv_aload_n hx hb dX12_rounds_89 rfl (lv_at hl 2 rfl) ?_
                    refine tw_getrk hx hb hW hown hK hS f_X12_54_11 hz_a0 hk_a0 (b := b301) k302 dX12_rounds_90 ?_
                    refine lv_iload_n hx hb dX12_rounds_93 rfl (lv_at hl 0 rfl) ?_
                    have k312 : M309 b301 x212.toNatClampNeg = x305 := (Fr.kpa f306 hk_b301 rfl x212.toNatClampNeg).trans k304
                    refine tw_ialk hx hb hK hS hz_b301 hk_b301 (Or.inr (by decide)) hn_b301 h292 ⟨by decide, by decide⟩ (v := x305) k312 dX12_rounds_94 ?_
                    refine lv_aload_n hx hb dX12_rounds_95 rfl (lv_at hl 2 rfl) ?_
                    refine tw_goi hS (md_runV (As := []) (rest := [.int x305, .int 0, .ref (base + a0)]) hx hb hml hown hW hK hT hS.1 (t_X12_settles_ l D cy tx base Z K N M309 R214 J308 hS.2.1 a0 hz_a0 hk_a0) s_X12_399 ⟨rfl, rfl, ⟨Nat.le_of_ble_eq_true rfl, Nat.le_of_ble_eq_true rfl⟩, ⟨Nat.le_of_ble_eq_true rfl, Nat.le_of_ble_eq_true rfl⟩⟩ hz_a0 hk_a0 (by decide) rfl rfl hl.1 rfl (Nat.le_of_ble_eq_true rfl) dX12_rounds_96) rfl rfl (fun x319 H locs M316 R317 J315 hS f313 g314 E318 => ?_)
                    have eR317 := Fr.nil g314 rfl
                    subst eR317
                    have h_x319 := E318
                    refine tw_gov hS (md_runV (As := [.int 0, .int x305, .int x319]) (rest := []) hx hb hml hown hW hK hT hS.1 (t_X12_counts l D cy tx base Z K N M316 R214 J315 hS.2.1 a0 hz_a0 hk_a0 0 (iv_mono (iv_c (c := 0) (n := 0) (by decide)) (by decide) (by decide)) x305 h303 x319 h_x319) s_X12_413 ⟨rfl, rfl, ⟨Nat.le_of_ble_eq_true rfl, Nat.le_of_ble_eq_true rfl⟩, ⟨Nat.le_of_ble_eq_true rfl, Nat.le_of_ble_eq_true rfl⟩⟩ hz_a0 hk_a0 (by decide) rfl rfl hl.1 rfl (Nat.le_of_ble_eq_true rfl) dX12_rounds_99) rfl rfl (fun H locs M323 R324 J322 hS f320 g321 E325 => ?_)
                    have eR324 := Fr.nil g321 rfl
                    subst eR324
                    refine tw_iinc (lv' := fun x328 => [(3, .int x328), (2, .int x201), (0, .ref (base + a0)), (1, .int a1)]) (lo := 1) (hi := 8) hx hb dX12_rounds_102 hl (k := 0) rfl h292 (by decide) ⟨by decide, by decide⟩ ⟨by decide, by decide⟩ (by decide) (fun _ => rfl) (fun x328 ls e327 h326 hl => ?_)
                    refine lv_goto (tgt := 58) hx hb dX12_rounds_105 (by decide) ?_
                    have hm329 : 8 - x328.toInt < (n_213 : Int) := by
                      have := (h183).1; have := (h183).2; have := (h292).1; have := (h292).2; have := (h326).1; have := (h326).2; omega
                    exact ih_213 x328 M323 R214 J322 H locs _ (iv_mono h326 (by decide) (by decide)) hm329 hS hl
              have hm330 : 8 - (0 : Int32).toInt < (((9 : Nat) : Int) : Int) := by
                have := (h183).1; have := (h183).2; have : (0 : Int32).toInt = 0 := (by decide); omega
              exact W58_213 9 0 M202 R203 J204 H locs _ (iv_mono (iv_c (c := 0) (n := 0) (by decide)) (by decide) (by decide)) hm330 hS hl
        have hm331 : 301 - (1 : Int32).toInt < (((301 : Nat) : Int) : Int) := by
          have := (h183).1; have := (h183).2; have : (1 : Int32).toInt = 1 := (by decide); omega
        exact W49_202 301 1 M198 Ra J197 H locs _ (iv_mono (iv_c (c := 1) (n := 1) (by decide)) (by decide) (by decide)) hm331 hS hl
      · have q332 : x177.toInt = 0 := ti_eq c179
        have h333 : iv 0 0 x177 := ⟨by have := (h_x177).1; have := ((iv_c (c := 0) (n := 0) (by decide))).1; omega, by have := (h_x177).2; have := ((iv_c (c := 0) (n := 0) (by decide))).2; omega⟩
        refine lv_iconst (v := (-1)) hx hb dX12_rounds_31 (by decide) ?_
        exact tw_endi hx hb hr hlocks hK hT hS hQ ((iv_mono (iv_c (c := (-1)) (n := (-1)) (by decide)) (by decide) (by decide))) dX12_rounds_32
