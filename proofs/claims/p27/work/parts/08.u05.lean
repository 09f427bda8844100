def Lt_X12_tested : WL := [(12, 13, 16), (12, 17, 19), (12, 21, 22), (14, 0, 2000000), (25, 0, 2000000), (26, 0, 2000000)]
def LRt_X12_tested : WL := []
set_option maxRecDepth 100000 in
set_option maxHeartbeats 4000000 in
theorem t_X12_tested (l : Launch) (D : va_G) (cy : Nat → ClassId) (tx : (Nat → Nat) × (Nat → Nat)) (base Z : Nat) (K N : Nat → Nat) (Ma : MT) (Ra : RT) (Ja : JT) (hTy : Ty Z K N Ma Ra) (a0 : Nat) (hz_a0 : a0 < Z) (hk_a0 : K a0 = 12) (tb : Nat) (k_tb : Ra a0 0 = some tb) (nx : Int32) (k_nx : Ma a0 13 = nx) (h_nx : iv 0 400 nx) (tp : Int32) (k_tp : Ma a0 1 = tp) (h_tp : iv 0 400 tp) (hnt : nx.toInt ≤ tp.toInt) (lg : Nat) (k_lg : Ra a0 4 = some lg) (sg : Nat) (k_sg : Ra a0 3 = some sg) (tx : Int32) (k_tx : Ma a0 16 = tx) (h_tx : iv 0 5 tx) (le : Int32) (k_le : Ma lg tx.toNatClampNeg = le) (h_le : iv 0 400 le) (md : Int32) (k_md : Ma a0 17 = md) (h_md : iv 0 60 md) (op : Nat) (k_op : Ra a0 20 = some op) (hle : le.toInt ≤ nx.toInt) : Met l yX12_tested [Cond.code yX12_tested cX12_tested 3 (some .boolean)] (md_rm 9 0 0) (va_Pc [.ref (base + a0)] (md_U D cy tx base Z K N Ma Ra Ja)) (mQi D cy tx base (fun r u => TP Z K N Lt_X12_tested LRt_X12_tested Ma Ra u ∧ (iv 0 1 r ∧ ((∃ x0 : Int32, u.2.2.2.1 a0 13 = x0 ∧ iv 0 400 x0 ∧ nx.toInt ≤ x0.toInt ∧ x0.toInt ≤ tp.toInt) ∧ (∀ j, j < 400 * tx.toNatClampNeg + le.toNatClampNeg → u.2.2.2.1 sg j = Ma sg j) ∧ (¬ r = 0 → ∃ x0 x2 : Int32, u.2.2.2.1 a0 13 = x0 ∧ u.2.2.2.1 lg tx.toNatClampNeg = x2 ∧ iv 0 400 x2 ∧ le.toInt ≤ x2.toInt ∧ x2.toInt ≤ x0.toInt ∧ SEG u.2.2.2.1 sg tx.toNatClampNeg le.toNatClampNeg x2.toNatClampNeg 1))))) 0 0 (fun q => base ≤ q) := by
  refine tw_ofW (L := Lt_X12_tested) (LR := LRt_X12_tested) (by decide) (Nat.le_of_ble_eq_true rfl) hTy ?_
  intro p e s m args below meth c Q ls hx hb hr hlocks hown hml hW hK hT hS hQ hl
  have hl : lv_has ls 3 [(0, .ref (base + a0))] := hl
  obtain ⟨hz_tb, hk_tb, hn_tb⟩ := hTy.refn hz_a0 hk_a0 (show rtR 12 0 = (13, 400, 0) from rfl) k_tb
  have hn_tb := hn_tb (by decide)
  obtain ⟨hz_lg, hk_lg, hn_lg⟩ := hTy.refn hz_a0 hk_a0 (show rtR 12 4 = (26, 7, 0) from rfl) k_lg
  have hn_lg := hn_lg (by decide)
  obtain ⟨hz_sg, hk_sg, hn_sg⟩ := hTy.refn hz_a0 hk_a0 (show rtR 12 3 = (25, 2400, 0) from rfl) k_sg
  have hn_sg := hn_sg (by decide)
  obtain ⟨hz_op, hk_op, hn_op⟩ := hTy.refn hz_a0 hk_a0 (show rtR 12 20 = (14, 400, 0) from rfl) k_op
  have hn_op := hn_op (by decide)
  refine lv_aload_n hx hb dX12_tested_0 rfl (lv_at hl 0 rfl) ?_
  refine lv_iconst (v := 0) hx hb dX12_tested_1 (by decide) ?_
  refine tw_puti hx hb hW hown hK hS f_X12_188_11 hz_a0 hk_a0 rfl rfl (lo := 0) (hi := 400) rfl (iv_mono (iv_c (c := 0) (n := 0) (by decide)) (by decide) (by decide)) rfl dX12_tested_2 (fun H locs M3 hS k1 f2 => ?_)
  refine lv_aload_n hx hb dX12_tested_5 rfl (lv_at hl 0 rfl) ?_
  refine lv_iconst (v := 0) hx hb dX12_tested_6 (by decide) ?_
  refine tw_puti hx hb hW hown hK hS f_X12_185_11 hz_a0 hk_a0 rfl rfl (lo := (-2147483648)) (hi := 2147483647) rfl (iv_mono (iv_c (c := 0) (n := 0) (by decide)) (by decide) (by decide)) rfl dX12_tested_7 (fun H locs M6 hS k4 f5 => ?_)
  refine lv_iconst (v := 1) hx hb dX12_tested_10 (by decide) ?_
  refine lv_istore_n (lv' := [(1, .int 1), (0, .ref (base + a0))]) hx hb dX12_tested_11 rfl hl (by decide) rfl (fun ls hl => ?_)
  have W12_8 : ∀ (n_8 : Nat) (x7 : Int32) (x13 : Int32) (x15 : Int32) (x17 : Int32) (x19 : Int32) (M8 : MT) (R9 : RT) (J10 : JT) (H : Heap) (locs : List Loc) (ls : Array Slot) (h_x7 : iv 0 1 x7) (h_x13 : iv 0 400 x13) (k14 : M8 a0 13 = x13) (h_x15 : iv 0 400 x15) (k16 : M8 a0 21 = x15) (h_x17 : iv 0 400 x17) (k18 : M8 lg tx.toNatClampNeg = x17) (h_x19 : iv 0 60 x19) (k20 : M8 a0 17 = x19) (w0_8 : nx.toInt ≤ x13.toInt ∧ x13.toInt ≤ tp.toInt ∧ x17.toInt + x15.toInt ≤ x13.toInt ∧ le.toInt ≤ x17.toInt) (w1_8 : (x7.toInt = 1 ∧ SEG M8 sg tx.toNatClampNeg le.toNatClampNeg x17.toNatClampNeg (nbo M8 op x15.toNatClampNeg) ∧ ((nbo M8 op x15.toNatClampNeg : Nat) : Int) ≤ x19.toInt) ∨ (x7.toInt = 0 ∧ SEG M8 sg tx.toNatClampNeg le.toNatClampNeg x17.toNatClampNeg (nbo M8 op x15.toNatClampNeg + 1) ∧ ((nbo M8 op x15.toNatClampNeg + 1 : Nat) : Int) ≤ x19.toInt)) (w2_8 : ∀ j, j < 400 * tx.toNatClampNeg + le.toNatClampNeg → M8 sg j = Ma sg j) (w3_8 : opK M8 op x15.toNatClampNeg) (hm_8 : 2 * (400 - x13.toInt) + x7.toInt < (n_8 : Int)) (hS : SB D cy base Z K N Lt_X12_tested LRt_X12_tested Ma Ra M8 R9 J10 s H locs) (hl : lv_has ls 3 [(1, .int x7), (0, .ref (base + a0))]), W p l e (md_rm 9 0 0) s m args below meth c H locs 0 0 Q (F0 m 12 ls []) := by
    intro n_8
    induction n_8 with
    | zero =>
      intro x7 x13 x15 x17 x19 M8 R9 J10 H locs ls h_x7 h_x13 k14 h_x15 k16 h_x17 k18 h_x19 k20 w0_8 w1_8 w2_8 w3_8 hm_8 hS hl
      exfalso
      have := (h_le).1; have := (h_le).2; have := (h_md).1; have := (h_md).2; have := (h_nx).1; have := (h_nx).2; have := (h_tp).1; have := (h_tp).2; have := (h_tx).1; have := (h_tx).2; have := (h_x13).1; have := (h_x13).2; have := (h_x15).1; have := (h_x15).2; have := (h_x17).1; have := (h_x17).2; have := (h_x19).1; have := (h_x19).2; have := (h_x7).1; have := (h_x7).2; omega
    | succ n_8 ih_8 =>
      intro x7 x13 x15 x17 x19 M8 R9 J10 H locs ls h_x7 h_x13 k14 h_x15 k16 h_x17 k18 h_x19 k20 w0_8 w1_8 w2_8 w3_8 hm_8 hS hl
      have f11 := hS.2.2.1
      have g12 := hS.2.2.2
      refine lv_iload_n hx hb dX12_tested_12 rfl (lv_at hl 0 rfl) ?_
      refine lv_if_eq (tgt := 112) hx hb dX12_tested_13 (by decide) (fun c21 => ?_) (fun c21 => ?_)
      · have q22 : x7.toInt = 0 := ti_eq c21
        have h23 : iv 0 0 x7 := ⟨by have := (h_x7).1; have := ((iv_c (c := 0) (n := 0) (by decide))).1; omega, by have := (h_x7).2; have := ((iv_c (c := 0) (n := 0) (by decide))).2; omega⟩
        obtain ⟨-, zg23, zb23⟩ := w1_8.resolve_left (fun q => by have := q.1; omega)
        refine lv_aload_n hx hb dX12_tested_112 rfl (lv_at hl 1 rfl) ?_
        have k24 : R9 a0 20 = some op := (Fr.kp (k := 20) g12 hk_a0 rfl).trans k_op
        refine tw_goi hS (md_runV (As := []) (rest := []) hx hb hml hown hW hK hT hS.1 (t_X12_isInside l D cy tx base Z K N M8 R9 J10 hS.2.1 a0 hz_a0 hk_a0 op k24 x15 k16 (iv_mono h_x15 (by decide) (by decide))) s_X12_230 ⟨rfl, rfl, ⟨Nat.le_of_ble_eq_true rfl, Nat.le_of_ble_eq_true rfl⟩, ⟨Nat.le_of_ble_eq_true rfl, Nat.le_of_ble_eq_true rfl⟩⟩ hz_a0 hk_a0 (by decide) rfl rfl hl.1 rfl (Nat.le_of_ble_eq_true rfl) dX12_tested_113) rfl rfl (fun x31 H locs M28 R29 J27 hS f25 g26 E30 => ?_)
        have eM28 := Fr.nil f25 rfl
        subst eM28
        have eR29 := Fr.nil g26 rfl
        subst eR29
        obtain ⟨h_x31, p32⟩ := E30
        refine lv_if_eq (tgt := 134) hx hb dX12_tested_116 (by decide) (fun c33 => ?_) (fun c33 => ?_)
        · have q34 : x31.toInt = 0 := ti_eq c33
          have z35 := p32.1 c33
          have h36 : iv 0 0 x31 := ⟨by have := (h_x31).1; have := ((iv_c (c := 0) (n := 0) (by decide))).1; omega, by have := (h_x31).2; have := ((iv_c (c := 0) (n := 0) (by decide))).2; omega⟩
          refine lv_aload_n hx hb dX12_tested_134 rfl (lv_at hl 1 rfl) ?_
          refine lv_iconst (v := 1) hx hb dX12_tested_135 (by decide) ?_
          have k37 : R9 a0 4 = some lg := (Fr.kp (k := 4) g12 hk_a0 rfl).trans k_lg
          have k38 : R9 a0 3 = some sg := (Fr.kp (k := 3) g12 hk_a0 rfl).trans k_sg
          have k39 : M8 a0 16 = tx := (Fr.kp (k := 16) f11 hk_a0 rfl).trans k_tx
          have k40 : R9 a0 20 = some op := (Fr.kp (k := 20) g12 hk_a0 rfl).trans k_op
          have q41 : ((le.toNatClampNeg : Nat) : Int) ≤ x17.toInt := by
            have := (h_le).1; have := (h_le).2; have := (h_md).1; have := (h_md).2; have := (h_nx).1; have := (h_nx).2; have := (h_tp).1; have := (h_tp).2; have := (h_tx).1; have := (h_tx).2; have := (h_x13).1; have := (h_x13).2; have := (h_x15).1; have := (h_x15).2; have := (h_x17).1; have := (h_x17).2; have := (h_x19).1; have := (h_x19).2; have := (h23).1; have := (h23).2; omega
          have q42 : ((nbo M8 op x15.toNatClampNeg + 1 : Nat) : Int) ≤ x19.toInt := by
            have := (h_le).1; have := (h_le).2; have := (h_md).1; have := (h_md).2; have := (h_nx).1; have := (h_nx).2; have := (h_tp).1; have := (h_tp).2; have := (h_tx).1; have := (h_tx).2; have := (h_x13).1; have := (h_x13).2; have := (h_x15).1; have := (h_x15).2; have := (h_x17).1; have := (h_x17).2; have := (h_x19).1; have := (h_x19).2; have := (h23).1; have := (h23).2; omega
          have q43 : x17.toInt + x15.toInt ≤ x13.toInt := by
            have := (h_le).1; have := (h_le).2; have := (h_md).1; have := (h_md).2; have := (h_nx).1; have := (h_nx).2; have := (h_tp).1; have := (h_tp).2; have := (h_tx).1; have := (h_tx).2; have := (h_x13).1; have := (h_x13).2; have := (h_x15).1; have := (h_x15).2; have := (h_x17).1; have := (h_x17).2; have := (h_x19).1; have := (h_x19).2; have := (h23).1; have := (h23).2; omega
          refine tw_gov hS (md_runV (As := [.int 1]) (rest := []) hx hb hml hown hW hK hT hS.1 (t_X12_settles l D cy tx base Z K N M8 R9 J27 hS.2.1 a0 hz_a0 hk_a0 1 (iv_mono (iv_c (c := 1) (n := 1) (by decide)) (by decide) (by decide)) x13 k14 (iv_mono h_x13 (by decide) (by decide)) lg k37 sg k38 tx k39 (iv_mono h_tx (by decide) (by decide)) x17 k18 (iv_mono h_x17 (by decide) (by decide)) x19 k20 (iv_mono h_x19 (by decide) (by decide)) op k40 x15 k16 (iv_mono h_x15 (by decide) (by decide)) (le.toNatClampNeg) (nbo M8 op x15.toNatClampNeg + 1) zg23 q41 q42 q43 w3_8 rfl) s_X12_227 ⟨rfl, rfl, ⟨Nat.le_of_ble_eq_true rfl, Nat.le_of_ble_eq_true rfl⟩, ⟨Nat.le_of_ble_eq_true rfl, Nat.le_of_ble_eq_true rfl⟩⟩ hz_a0 hk_a0 (by decide) rfl rfl hl.1 rfl (Nat.le_of_ble_eq_true rfl) dX12_tested_136) rfl rfl (fun H locs M47 R48 J46 hS f44 g45 E49 => ?_)
          have eR48 := Fr.nil g45 rfl
          subst eR48
          have p50 := E49
          obtain ⟨x53, x54, k55, k56, h51, h52, zr50, zg50, zf50, zz50, zl50⟩ := p50
          have k55 : M47 a0 21 = x53 := k55
          have k56 : M47 lg tx.toNatClampNeg = x54 := k56
          have zw50 := ti_cl (x := le) (by have := h_le.1; omega); have zy50 := ti_cl (x := x17) (by have := (h_x17).1; omega)
          have z57 : ∀ j, j < 400 * tx.toNatClampNeg + le.toNatClampNeg → M47 sg j = Ma sg j := fun j hj => (zf50 j (by omega)).trans (w2_8 j hj)
          have zb50 := ti_cl (x := x53) (by have := (h51).1; omega); have zc50 := ti_cl (x := x15) (by have := (h_x15).1; omega)
          have z61 : nbo M47 op x53.toNatClampNeg = nbo M8 op x53.toNatClampNeg := nbo_to _ (fun j _ => Fr.kpa f44 hk_op rfl j)
          have z58 : SEG M47 sg tx.toNatClampNeg le.toNatClampNeg x54.toNatClampNeg (nbo M47 op x53.toNatClampNeg + 1) := SEG.cast zg50 rfl (by rw [z61])
          have z59 : opK M47 op x53.toNatClampNeg := opK.to (opK.less w3_8 (by omega)) (fun j _ => Fr.kpa f44 hk_op rfl j)
          have zm50 := nbo_mono (M := M8) (op := op) x15.toNatClampNeg x53.toNatClampNeg (by omega)
          have q60 : ((nbo M47 op x53.toNatClampNeg + 1 : Nat) : Int) ≤ x19.toInt := by rw [z61]; have := zb23; omega
          refine lv_iconst (v := 1) hx hb dX12_tested_139 (by decide) ?_
          have k62 : M47 a0 13 = x13 := (Fr.kp (k := 13) f44 hk_a0 rfl).trans k14
          have q63 : nx.toInt ≤ x13.toInt ∧ x13.toInt ≤ tp.toInt := by
            have := (h_le).1; have := (h_le).2; have := (h_md).1; have := (h_md).2; have := (h_nx).1; have := (h_nx).2; have := (h_tp).1; have := (h_tp).2; have := (h_tx).1; have := (h_tx).2; have := (h_x13).1; have := (h_x13).2; have := (h_x15).1; have := (h_x15).2; have := (h_x17).1; have := (h_x17).2; have := (h_x19).1; have := (h_x19).2; have := (h51).1; have := (h51).2; have := (h52).1; have := (h52).2; have := (h23).1; have := (h23).2; omega
          have zp50 : x53.toInt = 0 := by rcases zl50 with q | q | ⟨k, q1, q2⟩; · exact q; · exact absurd (by decide) q; · exact absurd q2 (z35 k (by omega))
          have z64 : SEG M47 sg tx.toNatClampNeg le.toNatClampNeg x54.toNatClampNeg 1 := SEG.cast z58 rfl (by rw [show x53.toNatClampNeg = 0 by omega]; rfl)
          have q65 : le.toInt ≤ x54.toInt ∧ x54.toInt ≤ x13.toInt := by
            have := (h_le).1; have := (h_le).2; have := (h_md).1; have := (h_md).2; have := (h_nx).1; have := (h_nx).2; have := (h_tp).1; have := (h_tp).2; have := (h_tx).1; have := (h_tx).2; have := (h_x13).1; have := (h_x13).2; have := (h_x15).1; have := (h_x15).2; have := (h_x17).1; have := (h_x17).2; have := (h_x19).1; have := (h_x19).2; have := (h51).1; have := (h51).2; have := (h52).1; have := (h52).2; have := (h23).1; have := (h23).2; omega
          exact tw_endz hx hb hr hlocks hK hT hS hQ rfl (⟨(iv_mono (iv_c (c := 1) (n := 1) (by decide)) (by decide) (by decide)), ⟨⟨x13, k62, h_x13, q63.1, q63.2⟩, z57, fun _ => ⟨x13, x54, k62, k56, h52, q65.1, q65.2, z64⟩⟩⟩) dX12_tested_140
        · have q66 : ¬ x31.toInt = 0 := ti_ne c33
          have h67 : iv 1 1 x31 := ⟨by have := (h_x31).1; have := ((iv_c (c := 0) (n := 0) (by decide))).1; have := ((iv_c (c := 0) (n := 0) (by decide))).2; omega, by have := (h_x31).2; have := ((iv_c (c := 0) (n := 0) (by decide))).1; have := ((iv_c (c := 0) (n := 0) (by decide))).2; omega⟩
          have z68 := p32.2 c33
          refine lv_aload_n hx hb dX12_tested_119 rfl (lv_at hl 1 rfl) ?_
          have k69 : R9 a0 0 = some tb := (Fr.kp (k := 0) g12 hk_a0 rfl).trans k_tb
          have k70 : M8 a0 1 = tp := (Fr.kp (k := 1) f11 hk_a0 rfl).trans k_tp
          have q71 : x13.toInt ≤ tp.toInt := by
            have := (h_le).1; have := (h_le).2; have := (h_md).1; have := (h_md).2; have := (h_nx).1; have := (h_nx).2; have := (h_tp).1; have := (h_tp).2; have := (h_tx).1; have := (h_tx).2; have := (h_x13).1; have := (h_x13).2; have := (h_x15).1; have := (h_x15).2; have := (h_x17).1; have := (h_x17).2; have := (h_x19).1; have := (h_x19).2; have := (h23).1; have := (h23).2; omega
          refine tw_goi hS (md_runV (As := []) (rest := []) hx hb hml hown hW hK hT hS.1 (t_X12_see l D cy tx base Z K N M8 R9 J27 hS.2.1 a0 hz_a0 hk_a0 tb k69 x13 k14 (iv_mono h_x13 (by decide) (by decide)) tp k70 (iv_mono h_tp (by decide) (by decide)) q71) s_X12_130 ⟨rfl, rfl, ⟨Nat.le_of_ble_eq_true rfl, Nat.le_of_ble_eq_true rfl⟩, ⟨Nat.le_of_ble_eq_true rfl, Nat.le_of_ble_eq_true rfl⟩⟩ hz_a0 hk_a0 (by decide) rfl rfl hl.1 rfl (Nat.le_of_ble_eq_true rfl) dX12_tested_120) rfl rfl (fun x78 H locs M75 R76 J74 hS f72 g73 E77 => ?_)
          have eR76 := Fr.nil g73 rfl
          subst eR76
          obtain ⟨h_x78, p79⟩ := E77
          obtain ⟨x82, k80, h81, q83, z84⟩ := p79
          have k80 : M75 a0 13 = x82 := k80
          refine lv_pop hx hb dX12_tested_123 rfl ?_
          refine lv_aload_n hx hb dX12_tested_124 rfl (lv_at hl 1 rfl) ?_
          refine lv_iconst (v := 0) hx hb dX12_tested_125 (by decide) ?_
          refine lv_aload_n hx hb dX12_tested_126 rfl (lv_at hl 1 rfl) ?_
          refine tw_getk hx hb hW hown hK hS f_X12_127_11 hz_a0 hk_a0 (v := x82) k80 dX12_tested_127 ?_
          refine tw_goi hS (md_runV (As := [.int 0, .int x82]) (rest := []) hx hb hml hown hW hK hT hS.1 (t_X12_fails l D cy tx base Z K N M75 R9 J74 hS.2.1 a0 hz_a0 hk_a0 0 (iv_mono (iv_c (c := 0) (n := 0) (by decide)) (by decide) (by decide)) x82 h81) s_X12_148 ⟨rfl, rfl, ⟨Nat.le_of_ble_eq_true rfl, Nat.le_of_ble_eq_true rfl⟩, ⟨Nat.le_of_ble_eq_true rfl, Nat.le_of_ble_eq_true rfl⟩⟩ hz_a0 hk_a0 (by decide) rfl rfl hl.1 rfl (Nat.le_of_ble_eq_true rfl) dX12_tested_130) rfl rfl (fun x92 H locs M89 R90 J88 hS f86 g87 E91 => ?_)
          have eR90 := Fr.nil g87 rfl
          subst eR90
          have h_x92 := E91
          have k93 : M89 a0 13 = x82 := (Fr.kp (k := 13) f86 hk_a0 rfl).trans k80
          have q94 : nx.toInt ≤ x82.toInt ∧ x82.toInt ≤ tp.toInt := by
            have := (h_le).1; have := (h_le).2; have := (h_md).1; have := (h_md).2; have := (h_nx).1; have := (h_nx).2; have := (h_tp).1; have := (h_tp).2; have := (h_tx).1; have := (h_tx).2; have := (h_x13).1; have := (h_x13).2; have := (h_x15).1; have := (h_x15).2; have := (h_x17).1; have := (h_x17).2; have := (h_x19).1; have := (h_x19).2; have := (h23).1; have := (h23).2; have := (h_x78).1; have := (h_x78).2; have := (h81).1; have := (h81).2; omega
          exact tw_endz hx hb hr hlocks hK hT hS hQ (nar_b (iv_mono h_x92 (by decide) (by decide))) (⟨(iv_mono h_x92 (by decide) (by decide)), ⟨⟨x82, k93, h81, q94.1, q94.2⟩, (fun j hj => (Fr.kpa f86 hk_sg rfl j).trans ((fun j hj => (Fr.kpa f72 hk_sg rfl j).trans (w2_8 j hj)) j hj)), (fun h => absurd (iv0 h_x92) h)⟩⟩) dX12_tested_133
      · have q95 : ¬ x7.toInt = 0 := ti_ne c21
        have h96 : iv 1 1 x7 := ⟨by have := (h_x7).1; have := ((iv_c (c := 0) (n := 0) (by decide))).1; have := ((iv_c (c := 0) (n := 0) (by decide))).2; omega, by have := (h_x7).2; have := ((iv_c (c := 0) (n := 0) (by decide))).1; have := ((iv_c (c := 0) (n := 0) (by decide))).2; omega⟩
        refine lv_aload_n hx hb dX12_tested_16 rfl (lv_at hl 1 rfl) ?_
        obtain ⟨-, zg96, zb96⟩ := w1_8.resolve_right (fun q => by have := q.1; omega)
        have k97 : R9 a0 0 = some tb := (Fr.kp (k := 0) g12 hk_a0 rfl).trans k_tb
        have k98 : M8 a0 1 = tp := (Fr.kp (k := 1) f11 hk_a0 rfl).trans k_tp
        have q99 : x13.toInt ≤ tp.toInt := by
          have := (h_le).1; have := (h_le).2; have := (h_md).1; have := (h_md).2; have := (h_nx).1; have := (h_nx).2; have := (h_tp).1; have := (h_tp).2; have := (h_tx).1; have := (h_tx).2; have := (h_x13).1; have := (h_x13).2; have := (h_x15).1; have := (h_x15).2; have := (h_x17).1; have := (h_x17).2; have := (h_x19).1; have := (h_x19).2; have := (h96).1; have := (h96).2; omega
        have k100 : R9 a0 4 = some lg := (Fr.kp (k := 4) g12 hk_a0 rfl).trans k_lg
        have k101 : R9 a0 3 = some sg := (Fr.kp (k := 3) g12 hk_a0 rfl).trans k_sg
        have k102 : M8 a0 16 = tx := (Fr.kp (k := 16) f11 hk_a0 rfl).trans k_tx
        have k103 : R9 a0 20 = some op := (Fr.kp (k := 20) g12 hk_a0 rfl).trans k_op
        have q104 : ((le.toNatClampNeg : Nat) : Int) ≤ x17.toInt := by
          have := (h_le).1; have := (h_le).2; have := (h_md).1; have := (h_md).2; have := (h_nx).1; have := (h_nx).2; have := (h_tp).1; have := (h_tp).2; have := (h_tx).1; have := (h_tx).2; have := (h_x13).1; have := (h_x13).2; have := (h_x15).1; have := (h_x15).2; have := (h_x17).1; have := (h_x17).2; have := (h_x19).1; have := (h_x19).2; have := (h96).1; have := (h96).2; omega
        have q105 : ((nbo M8 op x15.toNatClampNeg : Nat) : Int) ≤ x19.toInt := by
          have := (h_le).1; have := (h_le).2; have := (h_md).1; have := (h_md).2; have := (h_nx).1; have := (h_nx).2; have := (h_tp).1; have := (h_tp).2; have := (h_tx).1; have := (h_tx).2; have := (h_x13).1; have := (h_x13).2; have := (h_x15).1; have := (h_x15).2; have := (h_x17).1; have := (h_x17).2; have := (h_x19).1; have := (h_x19).2; have := (h96).1; have := (h96).2; omega
        have q106 : x17.toInt + x15.toInt ≤ x13.toInt := by
          have := (h_le).1; have := (h_le).2; have := (h_md).1; have := (h_md).2; have := (h_nx).1; have := (h_nx).2; have := (h_tp).1; have := (h_tp).2; have := (h_tx).1; have := (h_tx).2; have := (h_x13).1; have := (h_x13).2; have := (h_x15).1; have := (h_x15).2; have := (h_x17).1; have := (h_x17).2; have := (h_x19).1; have := (h_x19).2; have := (h96).1; have := (h96).2; omega
        refine tw_goi hS (md_runV (As := []) (rest := []) hx hb hml hown hW hK hT hS.1 (t_X12_fact l D cy tx base Z K N M8 R9 J10 hS.2.1 a0 hz_a0 hk_a0 tb k97 x13 k14 (iv_mono h_x13 (by decide) (by decide)) tp k98 (iv_mono h_tp (by decide) (by decide)) q99 lg k100 sg k101 tx k102 (iv_mono h_tx (by decide) (by decide)) x17 k18 (iv_mono h_x17 (by decide) (by decide)) x19 k20 (iv_mono h_x19 (by decide) (by decide)) op k103 x15 k16 (iv_mono h_x15 (by decide) (by decide)) (le.toNatClampNeg) (nbo M8 op x15.toNatClampNeg) zg96 q104 q105 q106 w3_8 rfl) s_X12_233 ⟨rfl, rfl, ⟨Nat.le_of_ble_eq_true rfl, Nat.le_of_ble_eq_true rfl⟩, ⟨Nat.le_of_ble_eq_true rfl, Nat.le_of_ble_eq_true rfl⟩⟩ hz_a0 hk_a0 (by decide) rfl rfl hl.1 rfl (Nat.le_of_ble_eq_true rfl) dX12_tested_17) rfl rfl (fun x113 H locs M110 R111 J109 hS f107 g108 E112 => ?_)
        have eR111 := Fr.nil g108 rfl
        subst eR111
        obtain ⟨h_x113, p114⟩ := E112
        obtain ⟨⟨x116, k117, h115, zu114, zv114⟩, zf114, zc114⟩ := p114
        have k117 : M110 a0 13 = x116 := k117
        have zw114 := ti_cl (x := le) (by have := h_le.1; omega); have zy114 := ti_cl (x := x17) (by have := (h_x17).1; omega)
        have z118 : ∀ j, j < 400 * tx.toNatClampNeg + le.toNatClampNeg → M110 sg j = Ma sg j := fun j hj => (zf114 j (by omega)).trans (w2_8 j hj)
        refine lv_if_ne (tgt := 25) hx hb dX12_tested_20 (by decide) (fun c119 => ?_) (fun c119 => ?_)
        · have q120 : ¬ x113.toInt = 0 := ti_ne c119
          have h121 : iv 1 1 x113 := ⟨by have := (h_x113).1; have := ((iv_c (c := 0) (n := 0) (by decide))).1; have := ((iv_c (c := 0) (n := 0) (by decide))).2; omega, by have := (h_x113).2; have := ((iv_c (c := 0) (n := 0) (by decide))).1; have := ((iv_c (c := 0) (n := 0) (by decide))).2; omega⟩
          obtain ⟨x125, x126, x127, x132, k128, k129, k130, k133, h122, h123, h124, zr121, zg121, zn121, zo121⟩ := zc114 c119
          have k128 : M110 a0 13 = x125 := k128
          have k129 : M110 a0 21 = x126 := k129
          have k130 : M110 lg tx.toNatClampNeg = x127 := k130
          have k133 : M110 a0 17 = x132 := k133
          have h131 : iv 0 60 x132 := by rw [← k133]; exact hS.2.1.int hz_a0 hk_a0 (show rgI 12 17 = (0, 60) from rfl)
          have z134 : SEG M110 sg tx.toNatClampNeg le.toNatClampNeg x127.toNatClampNeg (nbo M110 op x126.toNatClampNeg + 1) := SEG.cast zg121 rfl (by rw [zn121])
          have q135 : ((nbo M110 op x126.toNatClampNeg + 1 : Nat) : Int) ≤ x132.toInt := by rw [zn121]; exact zr121.2.2.2.2
          refine lv_aload_n hx hb dX12_tested_25 rfl (lv_at hl 1 rfl) ?_
          have k136 : R9 a0 0 = some tb := (Fr.kp (k := 0) g12 hk_a0 rfl).trans k_tb
          have k137 : M110 a0 1 = tp := ((Fr.kp (k := 1) f107 hk_a0 rfl).trans (Fr.kp (k := 1) f11 hk_a0 rfl)).trans k_tp
          have q138 : x125.toInt ≤ tp.toInt := by
            have := (h_le).1; have := (h_le).2; have := (h_md).1; have := (h_md).2; have := (h_nx).1; have := (h_nx).2; have := (h_tp).1; have := (h_tp).2; have := (h_tx).1; have := (h_tx).2; have := (h115).1; have := (h115).2; have := (h122).1; have := (h122).2; have := (h123).1; have := (h123).2; have := (h124).1; have := (h124).2; have := (h_x13).1; have := (h_x13).2; have := (h_x15).1; have := (h_x15).2; have := (h_x17).1; have := (h_x17).2; have := (h_x19).1; have := (h_x19).2; have := (h96).1; have := (h96).2; omega
          have k139 : R9 a0 4 = some lg := (Fr.kp (k := 4) g12 hk_a0 rfl).trans k_lg
          have k140 : R9 a0 3 = some sg := (Fr.kp (k := 3) g12 hk_a0 rfl).trans k_sg
          have k141 : M110 a0 16 = tx := ((Fr.kp (k := 16) f107 hk_a0 rfl).trans (Fr.kp (k := 16) f11 hk_a0 rfl)).trans k_tx
          have k142 : R9 a0 20 = some op := (Fr.kp (k := 20) g12 hk_a0 rfl).trans k_op
          have q143 : ((le.toNatClampNeg : Nat) : Int) ≤ x127.toInt := by
            have := (h_le).1; have := (h_le).2; have := (h_md).1; have := (h_md).2; have := (h_nx).1; have := (h_nx).2; have := (h_tp).1; have := (h_tp).2; have := (h_tx).1; have := (h_tx).2; have := (h115).1; have := (h115).2; have := (h122).1; have := (h122).2; have := (h123).1; have := (h123).2; have := (h124).1; have := (h124).2; have := (h_x13).1; have := (h_x13).2; have := (h_x15).1; have := (h_x15).2; have := (h_x17).1; have := (h_x17).2; have := (h_x19).1; have := (h_x19).2; have := (h96).1; have := (h96).2; omega
          have q144 : ((nbo M110 op x126.toNatClampNeg + 1 : Nat) : Int) ≤ x132.toInt := by
            have := (h_le).1; have := (h_le).2; have := (h_md).1; have := (h_md).2; have := (h_nx).1; have := (h_nx).2; have := (h_tp).1; have := (h_tp).2; have := (h_tx).1; have := (h_tx).2; have := (h115).1; have := (h115).2; have := (h122).1; have := (h122).2; have := (h123).1; have := (h123).2; have := (h124).1; have := (h124).2; have := (h_x13).1; have := (h_x13).2; have := (h131).1; have := (h131).2; have := (h_x15).1; have := (h_x15).2; have := (h_x17).1; have := (h_x17).2; have := (h_x19).1; have := (h_x19).2; have := (h96).1; have := (h96).2; omega
          have q145 : x127.toInt + x126.toInt ≤ x125.toInt := by
            have := (h_le).1; have := (h_le).2; have := (h_md).1; have := (h_md).2; have := (h_nx).1; have := (h_nx).2; have := (h_tp).1; have := (h_tp).2; have := (h_tx).1; have := (h_tx).2; have := (h115).1; have := (h115).2; have := (h122).1; have := (h122).2; have := (h123).1; have := (h123).2; have := (h124).1; have := (h124).2; have := (h_x13).1; have := (h_x13).2; have := (h_x15).1; have := (h_x15).2; have := (h_x17).1; have := (h_x17).2; have := (h_x19).1; have := (h_x19).2; have := (h96).1; have := (h96).2; omega
          refine tw_gov hS (md_runV (As := []) (rest := []) hx hb hml hown hW hK hT hS.1 (t_X12_closes l D cy tx base Z K N M110 R9 J109 hS.2.1 a0 hz_a0 hk_a0 tb k136 x125 k128 (iv_mono h122 (by decide) (by decide)) tp k137 (iv_mono h_tp (by decide) (by decide)) q138 lg k139 sg k140 tx k141 (iv_mono h_tx (by decide) (by decide)) x127 k130 (iv_mono h124 (by decide) (by decide)) x132 k133 (iv_mono h131 (by decide) (by decide)) op k142 x126 k129 (iv_mono h123 (by decide) (by decide)) (le.toNatClampNeg) (nbo M110 op x126.toNatClampNeg + 1) z134 q143 q144 q145 zo121 rfl) s_X12_236 ⟨rfl, rfl, ⟨Nat.le_of_ble_eq_true rfl, Nat.le_of_ble_eq_true rfl⟩, ⟨Nat.le_of_ble_eq_true rfl, Nat.le_of_ble_eq_true rfl⟩⟩ hz_a0 hk_a0 (by decide) rfl rfl hl.1 rfl (Nat.le_of_ble_eq_true rfl) dX12_tested_26) rfl rfl (fun H locs M149 R150 J148 hS f146 g147 E151 => ?_)
          have eR150 := Fr.nil g147 rfl
          subst eR150
          have p152 := E151
          obtain ⟨x156, x157, x158, k159, k160, k161, h153, h154, h155, zr152, zg152, zf152⟩ := p152
          have k159 : M149 a0 13 = x156 := k159
          have k160 : M149 a0 21 = x157 := k160
          have k161 : M149 lg tx.toNatClampNeg = x158 := k161
          have zw152 := ti_cl (x := le) (by have := h_le.1; omega); have zy152 := ti_cl (x := x127) (by have := (h124).1; omega)
          have z162 : ∀ j, j < 400 * tx.toNatClampNeg + le.toNatClampNeg → M149 sg j = Ma sg j := fun j hj => (zf152 j (by omega)).trans (z118 j hj)
          have zb152 := ti_cl (x := x157) (by have := (h154).1; omega); have zc152 := ti_cl (x := x126) (by have := (h123).1; omega)
          have z166 : nbo M149 op x157.toNatClampNeg = nbo M110 op x157.toNatClampNeg := nbo_to _ (fun j _ => Fr.kpa f146 hk_op rfl j)
          have z163 : SEG M149 sg tx.toNatClampNeg le.toNatClampNeg x158.toNatClampNeg (nbo M149 op x157.toNatClampNeg + 1) := SEG.cast zg152 rfl (by rw [z166])
          have z164 : opK M149 op x157.toNatClampNeg := opK.to (opK.less zo121 (by omega)) (fun j _ => Fr.kpa f146 hk_op rfl j)
          have zm152 := nbo_mono (M := M110) (op := op) x126.toNatClampNeg x157.toNatClampNeg (by omega)
          have q165 : ((nbo M149 op x157.toNatClampNeg + 1 : Nat) : Int) ≤ x132.toInt := by rw [z166]; have := q135; omega
          refine lv_aload_n hx hb dX12_tested_29 rfl (lv_at hl 1 rfl) ?_
          refine lv_ldc2 hx hb hown (hW _ w_7_127 rfl) dX12_tested_30 ?_
          have k167 : R9 a0 0 = some tb := (Fr.kp (k := 0) g12 hk_a0 rfl).trans k_tb
          have k168 : M149 a0 1 = tp := ((Fr.kp (k := 1) f146 hk_a0 rfl).trans ((Fr.kp (k := 1) f107 hk_a0 rfl).trans (Fr.kp (k := 1) f11 hk_a0 rfl))).trans k_tp
          have q169 : x156.toInt ≤ tp.toInt := by
            have := (h_le).1; have := (h_le).2; have := (h_md).1; have := (h_md).2; have := (h_nx).1; have := (h_nx).2; have := (h_tp).1; have := (h_tp).2; have := (h_tx).1; have := (h_tx).2; have := (h115).1; have := (h115).2; have := (h122).1; have := (h122).2; have := (h123).1; have := (h123).2; have := (h124).1; have := (h124).2; have := (h_x13).1; have := (h_x13).2; have := (h_x15).1; have := (h_x15).2; have := (h153).1; have := (h153).2; have := (h154).1; have := (h154).2; have := (h155).1; have := (h155).2; have := (h_x17).1; have := (h_x17).2; have := (h_x19).1; have := (h_x19).2; have := (h96).1; have := (h96).2; omega
          refine tw_goi hS (md_runV (As := [.long 6385252]) (rest := []) hx hb hml hown hW hK hT hS.1 (t_X12_isWord l D cy tx base Z K N M149 R9 J148 hS.2.1 a0 hz_a0 hk_a0 (6385252) tb k167 x156 k159 (iv_mono h153 (by decide) (by decide)) tp k168 (iv_mono h_tp (by decide) (by decide)) q169) s_X12_138 ⟨rfl, rfl, ⟨Nat.le_of_ble_eq_true rfl, Nat.le_of_ble_eq_true rfl⟩, ⟨Nat.le_of_ble_eq_true rfl, Nat.le_of_ble_eq_true rfl⟩⟩ hz_a0 hk_a0 (by decide) rfl rfl hl.1 rfl (Nat.le_of_ble_eq_true rfl) dX12_tested_33) rfl rfl (fun x176 H locs M173 R174 J172 hS f170 g171 E175 => ?_)
          have eR174 := Fr.nil g171 rfl
          subst eR174
          obtain ⟨h_x176, p177⟩ := E175
          obtain ⟨x180, k178, h179, q181, z182, z183⟩ := p177
          have k178 : M173 a0 13 = x180 := k178
          have z184 : ¬ x176 = 0 → chF 97 122 Ma tb x180 tp := fun h => chF.rf (chF.fr (z183 h) f170 hk_tb rfl) hS.2.2.1 hk_tb rfl
          refine lv_if_ne (tgt := 49) hx hb dX12_tested_36 (by decide) (fun c185 => ?_) (fun c185 => ?_)
          · have q186 : ¬ x176.toInt = 0 := ti_ne c185
            have h187 : iv 1 1 x176 := ⟨by have := (h_x176).1; have := ((iv_c (c := 0) (n := 0) (by decide))).1; have := ((iv_c (c := 0) (n := 0) (by decide))).2; omega, by have := (h_x176).2; have := ((iv_c (c := 0) (n := 0) (by decide))).1; have := ((iv_c (c := 0) (n := 0) (by decide))).2; omega⟩
            have z188 := z184 c185
            have q189 := z188.1
            refine lv_iconst (v := 1) hx hb dX12_tested_49 (by decide) ?_
            refine lv_goto (tgt := 54) hx hb dX12_tested_50 (by decide) ?_
            refine lv_istore_n (lv' := [(1, .int 1), (0, .ref (base + a0))]) hx hb dX12_tested_54 rfl hl (by decide) rfl (fun ls hl => ?_)
            refine lv_iload_n hx hb dX12_tested_55 rfl (lv_at hl 0 rfl) ?_
            refine lv_if_eq (tgt := 12) hx hb dX12_tested_56 (by decide) (fun h => absurd h (by decide)) (fun _ => ?_)
            refine lv_aload_n hx hb dX12_tested_59 rfl (lv_at hl 1 rfl) ?_
            refine lv_ldc2 hx hb hown (hW _ w_7_127 rfl) dX12_tested_60 ?_
            have k190 : R9 a0 0 = some tb := (Fr.kp (k := 0) g12 hk_a0 rfl).trans k_tb
            have k191 : M173 a0 1 = tp := ((Fr.kp (k := 1) f170 hk_a0 rfl).trans ((Fr.kp (k := 1) f146 hk_a0 rfl).trans ((Fr.kp (k := 1) f107 hk_a0 rfl).trans (Fr.kp (k := 1) f11 hk_a0 rfl)))).trans k_tp
            have q192 : x180.toInt ≤ tp.toInt := by
              have := (h_le).1; have := (h_le).2; have := (h_md).1; have := (h_md).2; have := (h_nx).1; have := (h_nx).2; have := (h_tp).1; have := (h_tp).2; have := (h_tx).1; have := (h_tx).2; have := (h115).1; have := (h115).2; have := (h122).1; have := (h122).2; have := (h123).1; have := (h123).2; have := (h124).1; have := (h124).2; have := (h_x13).1; have := (h_x13).2; have := (h_x15).1; have := (h_x15).2; have := (h153).1; have := (h153).2; have := (h154).1; have := (h154).2; have := (h155).1; have := (h155).2; have := (h_x17).1; have := (h_x17).2; have := (h187).1; have := (h187).2; have := (h179).1; have := (h179).2; have := (h_x19).1; have := (h_x19).2; have := (h96).1; have := (h96).2; omega
            refine tw_goi hS (md_runV (As := [.long 6385252]) (rest := []) hx hb hml hown hW hK hT hS.1 (t_X12_isWord l D cy tx base Z K N M173 R9 J172 hS.2.1 a0 hz_a0 hk_a0 (6385252) tb k190 x180 k178 (iv_mono h179 (by decide) (by decide)) tp k191 (iv_mono h_tp (by decide) (by decide)) q192) s_X12_138 ⟨rfl, rfl, ⟨Nat.le_of_ble_eq_true rfl, Nat.le_of_ble_eq_true rfl⟩, ⟨Nat.le_of_ble_eq_true rfl, Nat.le_of_ble_eq_true rfl⟩⟩ hz_a0 hk_a0 (by decide) rfl rfl hl.1 rfl (Nat.le_of_ble_eq_true rfl) dX12_tested_63) rfl rfl (fun x199 H locs M196 R197 J195 hS f193 g194 E198 => ?_)
            have eR197 := Fr.nil g194 rfl
            subst eR197
            obtain ⟨h_x199, p200⟩ := E198
            obtain ⟨x203, k201, h202, q204, z205, z206⟩ := p200
            have k201 : M196 a0 13 = x203 := k201
            have z207 : chF 97 122 Ma tb x203 tp := z188.at (z205 97 122 (by decide) (chF.rf (chF.fr z188 hS.2.2.1 hk_tb rfl) f193 hk_tb rfl))
            have z208 : ¬ x199 = 0 → chF 97 122 Ma tb x203 tp := fun h => chF.rf (chF.fr (z206 h) f193 hk_tb rfl) hS.2.2.1 hk_tb rfl
            refine lv_if_eq (tgt := 74) hx hb dX12_tested_66 (by decide) (fun c209 => ?_) (fun c209 => ?_)
            · have q210 : x199.toInt = 0 := ti_eq c209
              have h211 : iv 0 0 x199 := ⟨by have := (h_x199).1; have := ((iv_c (c := 0) (n := 0) (by decide))).1; omega, by have := (h_x199).2; have := ((iv_c (c := 0) (n := 0) (by decide))).2; omega⟩
              refine lv_bipush (v := 13) hx hb dX12_tested_74 (by decide) ?_
              refine lv_istore_n (lv' := [(2, .int 13), (1, .int 1), (0, .ref (base + a0))]) hx hb dX12_tested_76 rfl hl (by decide) rfl (fun ls hl => ?_)
              refine lv_aload_n hx hb dX12_tested_77 rfl (lv_at hl 2 rfl) ?_
              have k212 : R9 a0 0 = some tb := (Fr.kp (k := 0) g12 hk_a0 rfl).trans k_tb
              have k213 : M196 a0 1 = tp := ((Fr.kp (k := 1) f193 hk_a0 rfl).trans ((Fr.kp (k := 1) f170 hk_a0 rfl).trans ((Fr.kp (k := 1) f146 hk_a0 rfl).trans ((Fr.kp (k := 1) f107 hk_a0 rfl).trans (Fr.kp (k := 1) f11 hk_a0 rfl))))).trans k_tp
              have q214 : x203.toInt ≤ tp.toInt := by
                have := (h_le).1; have := (h_le).2; have := (h_md).1; have := (h_md).2; have := (h_nx).1; have := (h_nx).2; have := (h_tp).1; have := (h_tp).2; have := (h_tx).1; have := (h_tx).2; have := (h115).1; have := (h115).2; have := (h122).1; have := (h122).2; have := (h123).1; have := (h123).2; have := (h124).1; have := (h124).2; have := (h_x13).1; have := (h_x13).2; have := (h_x15).1; have := (h_x15).2; have := (h153).1; have := (h153).2; have := (h154).1; have := (h154).2; have := (h155).1; have := (h155).2; have := (h_x17).1; have := (h_x17).2; have := (h187).1; have := (h187).2; have := (h179).1; have := (h179).2; have := (h_x19).1; have := (h_x19).2; have := (h211).1; have := (h211).2; have := (h202).1; have := (h202).2; have := (h96).1; have := (h96).2; omega
              refine tw_gov hS (md_runV (As := []) (rest := []) hx hb hml hown hW hK hT hS.1 (t_X12_passWord l D cy tx base Z K N M196 R9 J195 hS.2.1 a0 hz_a0 hk_a0 tb k212 x203 k201 (iv_mono h202 (by decide) (by decide)) tp k213 (iv_mono h_tp (by decide) (by decide)) q214) s_X12_142 ⟨rfl, rfl, ⟨Nat.le_of_ble_eq_true rfl, Nat.le_of_ble_eq_true rfl⟩, ⟨Nat.le_of_ble_eq_true rfl, Nat.le_of_ble_eq_true rfl⟩⟩ hz_a0 hk_a0 (by decide) rfl rfl hl.1 rfl (Nat.le_of_ble_eq_true rfl) dX12_tested_78) rfl rfl (fun H locs M218 R219 J217 hS f215 g216 E220 => ?_)
              have eR219 := Fr.nil g216 rfl
              subst eR219
              have p221 := E220
              obtain ⟨x224, k222, h223, q225, z227⟩ := p221
              have k222 : M218 a0 13 = x224 := k222
              have q228 := z227 (chF.rf (chF.fr z207 hS.2.2.1 hk_tb rfl) f215 hk_tb rfl)
              refine lv_aload_n hx hb dX12_tested_81 rfl (lv_at hl 2 rfl) ?_
              refine lv_iload_n hx hb dX12_tested_82 rfl (lv_at hl 0 rfl) ?_
              refine tw_goi hS (md_runS (As := [.int 13]) (rest := [.ref (base + a0)]) hx hb hml hown hW hK hT hS.1 (t_X12_strength l D cy tx base Z K N M218 R9 J217 hS.2.1 13 (iv_mono (iv_c (c := 13) (n := 13) (by decide)) (by decide) (by decide))) s_X12_191 ⟨rfl, rfl, ⟨Nat.le_of_ble_eq_true rfl, Nat.le_of_ble_eq_true rfl⟩, ⟨Nat.le_of_ble_eq_true rfl, Nat.le_of_ble_eq_true rfl⟩⟩ rfl hl.1 rfl (Nat.le_of_ble_eq_true rfl) dX12_tested_83) rfl rfl (fun x235 H locs M232 R233 J231 hS f229 g230 E234 => ?_)
              have eM232 := Fr.nil f229 rfl
              subst eM232
              have eR233 := Fr.nil g230 rfl
              subst eR233
              obtain ⟨h_x235, p236⟩ := E234
              have q237 : (13 : Int32).toInt = 13 := (by decide)
              have z240 : nbo M218 op x157.toNatClampNeg = nbo M149 op x157.toNatClampNeg := ((nbo_to _ (fun j _ => Fr.kpa f215 hk_op rfl j)).trans ((nbo_to _ (fun j _ => Fr.kpa f193 hk_op rfl j)).trans (nbo_to _ (fun j _ => Fr.kpa f170 hk_op rfl j))))
              have z238 : SEG M218 sg tx.toNatClampNeg le.toNatClampNeg x158.toNatClampNeg (nbo M218 op x157.toNatClampNeg + 1) := SEG.cast (SEG.to (SEG.to (SEG.to z163 (fun j _ _ => Fr.kpa f170 hk_sg rfl j)) (fun j _ _ => Fr.kpa f193 hk_sg rfl j)) (fun j _ _ => Fr.kpa f215 hk_sg rfl j)) rfl (by rw [z240])
              have z239 : opK M218 op x157.toNatClampNeg := (opK.to (opK.to (opK.to z164 (fun j _ => Fr.kpa f170 hk_op rfl j)) (fun j _ => Fr.kpa f193 hk_op rfl j)) (fun j _ => Fr.kpa f215 hk_op rfl j))
              have q241 : ((nbo M218 op x157.toNatClampNeg + 1 : Nat) : Int) ≤ x132.toInt := by rw [z240]; exact q165
              have h242 : iv 1 3 x235 := by
                have := (h_le).1; have := (h_le).2; have := (h_md).1; have := (h_md).2; have := (h_nx).1; have := (h_nx).2; have := (h_tp).1; have := (h_tp).2; have := (h_tx).1; have := (h_tx).2; have := (h_x235).1; have := (h_x235).2; exact ⟨by omega, by omega⟩
              have k243 : R9 a0 4 = some lg := (Fr.kp (k := 4) g12 hk_a0 rfl).trans k_lg
              have k244 : R9 a0 3 = some sg := (Fr.kp (k := 3) g12 hk_a0 rfl).trans k_sg
              have k245 : M218 a0 16 = tx := ((Fr.kp (k := 16) f215 hk_a0 rfl).trans ((Fr.kp (k := 16) f193 hk_a0 rfl).trans ((Fr.kp (k := 16) f170 hk_a0 rfl).trans ((Fr.kp (k := 16) f146 hk_a0 rfl).trans ((Fr.kp (k := 16) f107 hk_a0 rfl).trans (Fr.kp (k := 16) f11 hk_a0 rfl)))))).trans k_tx
              have k246 : M218 lg tx.toNatClampNeg = x158 := ((Fr.kpa f215 hk_lg rfl tx.toNatClampNeg).trans ((Fr.kpa f193 hk_lg rfl tx.toNatClampNeg).trans (Fr.kpa f170 hk_lg rfl tx.toNatClampNeg))).trans k161
              have k247 : M218 a0 17 = x132 := ((Fr.kp (k := 17) f215 hk_a0 rfl).trans ((Fr.kp (k := 17) f193 hk_a0 rfl).trans ((Fr.kp (k := 17) f170 hk_a0 rfl).trans (Fr.kp (k := 17) f146 hk_a0 rfl)))).trans k133
              have k248 : R9 a0 20 = some op := (Fr.kp (k := 20) g12 hk_a0 rfl).trans k_op
              have k249 : M218 a0 21 = x157 := ((Fr.kp (k := 21) f215 hk_a0 rfl).trans ((Fr.kp (k := 21) f193 hk_a0 rfl).trans (Fr.kp (k := 21) f170 hk_a0 rfl))).trans k160
              have q250 : ((le.toNatClampNeg : Nat) : Int) ≤ x158.toInt := by
                have := (h_le).1; have := (h_le).2; have := (h_md).1; have := (h_md).2; have := (h_nx).1; have := (h_nx).2; have := (h_tp).1; have := (h_tp).2; have := (h_tx).1; have := (h_tx).2; have := (h115).1; have := (h115).2; have := (h122).1; have := (h122).2; have := (h123).1; have := (h123).2; have := (h124).1; have := (h124).2; have := (h_x13).1; have := (h_x13).2; have := (h_x15).1; have := (h_x15).2; have := (h153).1; have := (h153).2; have := (h154).1; have := (h154).2; have := (h155).1; have := (h155).2; have := (h_x17).1; have := (h_x17).2; have := (h179).1; have := (h179).2; have := (h_x19).1; have := (h_x19).2; have := (h202).1; have := (h202).2; have := (h223).1; have := (h223).2; have := (h96).1; have := (h96).2; omega
              have q251 : ((nbo M218 op x157.toNatClampNeg + 1 : Nat) : Int) ≤ x132.toInt := by
                have := (h_le).1; have := (h_le).2; have := (h_md).1; have := (h_md).2; have := (h_nx).1; have := (h_nx).2; have := (h_tp).1; have := (h_tp).2; have := (h_tx).1; have := (h_tx).2; have := (h115).1; have := (h115).2; have := (h122).1; have := (h122).2; have := (h123).1; have := (h123).2; have := (h124).1; have := (h124).2; have := (h_x13).1; have := (h_x13).2; have := (h131).1; have := (h131).2; have := (h_x15).1; have := (h_x15).2; have := (h153).1; have := (h153).2; have := (h154).1; have := (h154).2; have := (h155).1; have := (h155).2; have := (h_x17).1; have := (h_x17).2; have := (h179).1; have := (h179).2; have := (h_x19).1; have := (h_x19).2; have := (h202).1; have := (h202).2; have := (h223).1; have := (h223).2; have := (h96).1; have := (h96).2; omega
              have q252 : x158.toInt + x157.toInt ≤ x224.toInt := by
                have := (h_le).1; have := (h_le).2; have := (h_md).1; have := (h_md).2; have := (h_nx).1; have := (h_nx).2; have := (h_tp).1; have := (h_tp).2; have := (h_tx).1; have := (h_tx).2; have := (h115).1; have := (h115).2; have := (h122).1; have := (h122).2; have := (h123).1; have := (h123).2; have := (h124).1; have := (h124).2; have := (h_x13).1; have := (h_x13).2; have := (h_x15).1; have := (h_x15).2; have := (h153).1; have := (h153).2; have := (h154).1; have := (h154).2; have := (h155).1; have := (h155).2; have := (h_x17).1; have := (h_x17).2; have := (h187).1; have := (h187).2; have := (h179).1; have := (h179).2; have := (h_x19).1; have := (h_x19).2; have := (h211).1; have := (h211).2; have := (h202).1; have := (h202).2; have := (h223).1; have := (h223).2; have := (h96).1; have := (h96).2; omega
              refine tw_gov hS (md_runV (As := [.int x235]) (rest := []) hx hb hml hown hW hK hT hS.1 (t_X12_settles l D cy tx base Z K N M218 R9 J231 hS.2.1 a0 hz_a0 hk_a0 x235 h242 x224 k222 (iv_mono h223 (by decide) (by decide)) lg k243 sg k244 tx k245 (iv_mono h_tx (by decide) (by decide)) x158 k246 (iv_mono h155 (by decide) (by decide)) x132 k247 (iv_mono h131 (by decide) (by decide)) op k248 x157 k249 (iv_mono h154 (by decide) (by decide)) (le.toNatClampNeg) (nbo M218 op x157.toNatClampNeg + 1) z238 q250 q251 q252 z239 rfl) s_X12_227 ⟨rfl, rfl, ⟨Nat.le_of_ble_eq_true rfl, Nat.le_of_ble_eq_true rfl⟩, ⟨Nat.le_of_ble_eq_true rfl, Nat.le_of_ble_eq_true rfl⟩⟩ hz_a0 hk_a0 (by decide) rfl rfl hl.1 rfl (Nat.le_of_ble_eq_true rfl) dX12_tested_86) rfl rfl (fun H locs M256 R257 J255 hS f253 g254 E258 => ?_)
              have eR257 := Fr.nil g254 rfl
              subst eR257
              have p259 := E258
              obtain ⟨x262, x263, k264, k265, h260, h261, zr259, zg259, zf259, zz259, zl259⟩ := p259
              have k264 : M256 a0 21 = x262 := k264
              have k265 : M256 lg tx.toNatClampNeg = x263 := k265
              have zw259 := ti_cl (x := le) (by have := h_le.1; omega); have zy259 := ti_cl (x := x158) (by have := (h155).1; omega)
              have z266 : ∀ j, j < 400 * tx.toNatClampNeg + le.toNatClampNeg → M256 sg j = Ma sg j := fun j hj => (zf259 j (by omega)).trans ((fun j hj => (Fr.kpa f215 hk_sg rfl j).trans ((fun j hj => (Fr.kpa f193 hk_sg rfl j).trans ((fun j hj => (Fr.kpa f170 hk_sg rfl j).trans (z162 j hj)) j hj)) j hj)) j hj)
              have zb259 := ti_cl (x := x262) (by have := (h260).1; omega); have zc259 := ti_cl (x := x157) (by have := (h154).1; omega)
              have z270 : nbo M256 op x262.toNatClampNeg = nbo M218 op x262.toNatClampNeg := nbo_to _ (fun j _ => Fr.kpa f253 hk_op rfl j)
              have z267 : SEG M256 sg tx.toNatClampNeg le.toNatClampNeg x263.toNatClampNeg (nbo M256 op x262.toNatClampNeg + 1) := SEG.cast zg259 rfl (by rw [z270])
              have z268 : opK M256 op x262.toNatClampNeg := opK.to (opK.less z239 (by omega)) (fun j _ => Fr.kpa f253 hk_op rfl j)
              have zm259 := nbo_mono (M := M218) (op := op) x157.toNatClampNeg x262.toNatClampNeg (by omega)
              have q269 : ((nbo M256 op x262.toNatClampNeg + 1 : Nat) : Int) ≤ x132.toInt := by rw [z270]; have := q241; omega
              refine lv_aload_n hx hb dX12_tested_89 rfl (lv_at hl 2 rfl) ?_
              have k271 : R9 a0 20 = some op := (Fr.kp (k := 20) g12 hk_a0 rfl).trans k_op
              refine tw_getrk hx hb hW hown hK hS f_X12_35_11 hz_a0 hk_a0 (b := op) k271 dX12_tested_90 ?_
              refine lv_aload_n hx hb dX12_tested_93 rfl (lv_at hl 2 rfl) ?_
              refine tw_getk hx hb hW hown hK hS f_X12_188_11 hz_a0 hk_a0 (v := x262) k264 dX12_tested_94 ?_
              refine lv_iload_n hx hb dX12_tested_97 rfl (lv_at hl 0 rfl) ?_
              have h272 : iv 0 399 x262 := by
                have := (h_le).1; have := (h_le).2; have := (h_md).1; have := (h_md).2; have := (h_nx).1; have := (h_nx).2; have := (h_tp).1; have := (h_tp).2; have := (h_tx).1; have := (h_tx).2; have := (h115).1; have := (h115).2; have := (h122).1; have := (h122).2; have := (h123).1; have := (h123).2; have := (h124).1; have := (h124).2; have := (h_x13).1; have := (h_x13).2; have := (h_x15).1; have := (h_x15).2; have := (h153).1; have := (h153).2; have := (h154).1; have := (h154).2; have := (h155).1; have := (h155).2; have := (h_x17).1; have := (h_x17).2; have := (h179).1; have := (h179).2; have := (h_x19).1; have := (h_x19).2; have := (h202).1; have := (h202).2; have := (h223).1; have := (h223).2; have := (h260).1; have := (h260).2; have := (h261).1; have := (h261).2; have := (h96).1; have := (h96).2; exact ⟨by omega, by omega⟩
              refine tw_iasx hx hb hK hS hz_op hk_op (Or.inl rfl) hn_op h272 ⟨by decide, by decide⟩ (iv_any _) (jl := 0) (jh := 1999999) ⟨by decide, by decide⟩ rfl dX12_tested_98 (fun H locs M276 hS k273 f274 e275 => ?_)
              have k277 : M276 a0 21 = x262 := (Fr.kp (k := 21) f274 hk_a0 rfl).trans k264
              refine lv_aload_n hx hb dX12_tested_99 rfl (lv_at hl 2 rfl) ?_
              refine lv_dup hx hb dX12_tested_100 rfl ?_
              refine tw_getk hx hb hW hown hK hS f_X12_188_11 hz_a0 hk_a0 (v := x262) k277 dX12_tested_101 ?_
              refine lv_iconst (v := 1) hx hb dX12_tested_104 (by decide) ?_
              refine tw_iadd (lo := 1) (hi := 400) hx hb h272 (iv_c (c := 1) (n := 1) (by decide)) ⟨by decide, by decide⟩ ⟨by decide, by decide⟩ dX12_tested_105 (fun x280 e279 h278 => ?_)
              have e279 : x280.toInt = x262.toInt + 1 := e279
              refine tw_puti hx hb hW hown hK hS f_X12_188_11 hz_a0 hk_a0 rfl rfl (lo := 0) (hi := 400) rfl (iv_mono h278 (by decide) (by decide)) rfl dX12_tested_106 (fun H locs M283 hS k281 f282 => ?_)
              have za283 := ti_cl (x := x262) (by have := (h272).1; omega); have zb283 := ti_cl (x := x280) (by have := (h278).1; omega)
              have zo283 : ∀ j, j < x262.toNatClampNeg → M283 op j = M256 op j := fun j hj => (Fr.kpa f282 hk_op rfl j).trans (by rw [e275]; exact u2_nk (by omega))
              have zv283 : M283 op x262.toNatClampNeg = 13 := (Fr.kpa f282 hk_op rfl _).trans (by rw [e275]; exact u2_same)
              have zn283 : nbo M283 op x280.toNatClampNeg = nbo M256 op x262.toNatClampNeg + 1 := by rw [nbo_two (x := x262.toNatClampNeg) (by omega) (by rw [zv283]; decide), nbo_to _ zo283]
              have z284 : SEG M283 sg tx.toNatClampNeg le.toNatClampNeg x263.toNatClampNeg (nbo M283 op x280.toNatClampNeg) := SEG.cast (SEG.to (SEG.to z267 (fun j _ _ => Fr.kpa f274 hk_sg rfl j)) (fun j _ _ => Fr.kpa f282 hk_sg rfl j)) rfl (by rw [zn283])
              have z285 : opK M283 op x280.toNatClampNeg := fun j hj => by by_cases q : j = x262.toNatClampNeg; · rw [q, zv283]; decide; · rw [zo283 j (by omega)]; exact z268 j (by omega)
              have q286 : ((nbo M283 op x280.toNatClampNeg : Nat) : Int) ≤ x132.toInt := by rw [zn283]; exact q269
              refine lv_goto (tgt := 12) hx hb dX12_tested_109 (by decide) ?_
              have k287 : M283 a0 13 = x224 := ((Fr.kp (k := 13) f282 hk_a0 rfl).trans ((Fr.kp (k := 13) f274 hk_a0 rfl).trans (Fr.kp (k := 13) f253 hk_a0 rfl))).trans k222
              have k288 : M283 lg tx.toNatClampNeg = x263 := ((Fr.kpa f282 hk_lg rfl tx.toNatClampNeg).trans (Fr.kpa f274 hk_lg rfl tx.toNatClampNeg)).trans k265
              have k289 : M283 a0 17 = x132 := ((Fr.kp (k := 17) f282 hk_a0 rfl).trans ((Fr.kp (k := 17) f274 hk_a0 rfl).trans (Fr.kp (k := 17) f253 hk_a0 rfl))).trans k247
              have w290 : nx.toInt ≤ x224.toInt ∧ x224.toInt ≤ tp.toInt ∧ x263.toInt + x280.toInt ≤ x224.toInt ∧ le.toInt ≤ x263.toInt := by
                have := (h_le).1; have := (h_le).2; have := (h_md).1; have := (h_md).2; have := (h_nx).1; have := (h_nx).2; have := (h_tp).1; have := (h_tp).2; have := (h_tx).1; have := (h_tx).2; have := (h115).1; have := (h115).2; have := (h122).1; have := (h122).2; have := (h123).1; have := (h123).2; have := (h124).1; have := (h124).2; have := (h_x13).1; have := (h_x13).2; have := (h_x15).1; have := (h_x15).2; have := (h153).1; have := (h153).2; have := (h154).1; have := (h154).2; have := (h155).1; have := (h155).2; have := (h_x17).1; have := (h_x17).2; have := (h187).1; have := (h187).2; have := (h179).1; have := (h179).2; have := (h_x19).1; have := (h_x19).2; have := (h211).1; have := (h211).2; have := (h202).1; have := (h202).2; have := (h223).1; have := (h223).2; have := (h272).1; have := (h272).2; have := (h261).1; have := (h261).2; have := (h278).1; have := (h278).2; have := (h96).1; have := (h96).2; omega
              have w291 : ((1 : Int32).toInt = 1 ∧ SEG M283 sg tx.toNatClampNeg le.toNatClampNeg x263.toNatClampNeg (nbo M283 op x280.toNatClampNeg) ∧ ((nbo M283 op x280.toNatClampNeg : Nat) : Int) ≤ x132.toInt) ∨ ((1 : Int32).toInt = 0 ∧ SEG M283 sg tx.toNatClampNeg le.toNatClampNeg x263.toNatClampNeg (nbo M283 op x280.toNatClampNeg + 1) ∧ ((nbo M283 op x280.toNatClampNeg + 1 : Nat) : Int) ≤ x132.toInt) := Or.inl ⟨by decide, z284, q286⟩
              have w292 : ∀ j, j < 400 * tx.toNatClampNeg + le.toNatClampNeg → M283 sg j = Ma sg j := (fun j hj => (Fr.kpa f282 hk_sg rfl j).trans ((fun j hj => (Fr.kpa f274 hk_sg rfl j).trans (z266 j hj)) j hj))
              have w293 : opK M283 op x280.toNatClampNeg := z285
              have hm294 : 2 * (400 - x224.toInt) + (1 : Int32).toInt < (n_8 : Int) := by
                have := (h_le).1; have := (h_le).2; have := (h_md).1; have := (h_md).2; have := (h_nx).1; have := (h_nx).2; have := (h_tp).1; have := (h_tp).2; have := (h_tx).1; have := (h_tx).2; have := (h115).1; have := (h115).2; have := (h122).1; have := (h122).2; have := (h123).1; have := (h123).2; have := (h124).1; have := (h124).2; have := (h_x13).1; have := (h_x13).2; have := (h_x15).1; have := (h_x15).2; have := (h153).1; have := (h153).2; have := (h154).1; have := (h154).2; have := (h155).1; have := (h155).2; have := (h_x17).1; have := (h_x17).2; have := (h187).1; have := (h187).2; have := (h179).1; have := (h179).2; have := (h_x19).1; have := (h_x19).2; have := (h211).1; have := (h211).2; have := (h202).1; have := (h202).2; have := (h223).1; have := (h223).2; have := (h272).1; have := (h272).2; have := (h261).1; have := (h261).2; have := (h96).1; have := (h96).2; have : (1 : Int32).toInt = 1 := (by decide); omega
              exact ih_8 1 x224 x280 x263 x132 M283 R9 J255 H locs _ (iv_mono (iv_c (c := 1) (n := 1) (by decide)) (by decide) (by decide)) h223 k287 (iv_mono h278 (by decide) (by decide)) k281 h261 k288 h131 k289 w290 w291 w292 w293 hm294 hS (lv_sub hl [1, 2] rfl)
            · have q295 : ¬ x199.toInt = 0 := ti_ne c209
              have h296 : iv 1 1 x199 := ⟨by have := (h_x199).1; have := ((iv_c (c := 0) (n := 0) (by decide))).1; have := ((iv_c (c := 0) (n := 0) (by decide))).2; omega, by have := (h_x199).2; have := ((iv_c (c := 0) (n := 0) (by decide))).1; have := ((iv_c (c := 0) (n := 0) (by decide))).2; omega⟩
              have z297 := z208 c209
              have q298 := z297.1
              refine lv_bipush (v := 12) hx hb dX12_tested_69 (by decide) ?_
              refine lv_goto (tgt := 76) hx hb dX12_tested_71 (by decide) ?_
              refine lv_istore_n (lv' := [(2, .int 12), (1, .int 1), (0, .ref (base + a0))]) hx hb dX12_tested_76 rfl hl (by decide) rfl (fun ls hl => ?_)
              refine lv_aload_n hx hb dX12_tested_77 rfl (lv_at hl 2 rfl) ?_
              have k299 : R9 a0 0 = some tb := (Fr.kp (k := 0) g12 hk_a0 rfl).trans k_tb
              have k300 : M196 a0 1 = tp := ((Fr.kp (k := 1) f193 hk_a0 rfl).trans ((Fr.kp (k := 1) f170 hk_a0 rfl).trans ((Fr.kp (k := 1) f146 hk_a0 rfl).trans ((Fr.kp (k := 1) f107 hk_a0 rfl).trans (Fr.kp (k := 1) f11 hk_a0 rfl))))).trans k_tp
              have q301 : x203.toInt ≤ tp.toInt := by
                have := (h_le).1; have := (h_le).2; have := (h_md).1; have := (h_md).2; have := (h_nx).1; have := (h_nx).2; have := (h_tp).1; have := (h_tp).2; have := (h_tx).1; have := (h_tx).2; have := (h115).1; have := (h115).2; have := (h122).1; have := (h122).2; have := (h123).1; have := (h123).2; have := (h124).1; have := (h124).2; have := (h_x13).1; have := (h_x13).2; have := (h_x15).1; have := (h_x15).2; have := (h153).1; have := (h153).2; have := (h154).1; have := (h154).2; have := (h155).1; have := (h155).2; have := (h_x17).1; have := (h_x17).2; have := (h187).1; have := (h187).2; have := (h179).1; have := (h179).2; have := (h_x19).1; have := (h_x19).2; have := (h296).1; have := (h296).2; have := (h202).1; have := (h202).2; have := (h96).1; have := (h96).2; omega
              refine tw_gov hS (md_runV (As := []) (rest := []) hx hb hml hown hW hK hT hS.1 (t_X12_passWord l D cy tx base Z K N M196 R9 J195 hS.2.1 a0 hz_a0 hk_a0 tb k299 x203 k201 (iv_mono h202 (by decide) (by decide)) tp k300 (iv_mono h_tp (by decide) (by decide)) q301) s_X12_142 ⟨rfl, rfl, ⟨Nat.le_of_ble_eq_true rfl, Nat.le_of_ble_eq_true rfl⟩, ⟨Nat.le_of_ble_eq_true rfl, Nat.le_of_ble_eq_true rfl⟩⟩ hz_a0 hk_a0 (by decide) rfl rfl hl.1 rfl (Nat.le_of_ble_eq_true rfl) dX12_tested_78) rfl rfl (fun H locs M305 R306 J304 hS f302 g303 E307 => ?_)
              have eR306 := Fr.nil g303 rfl
              subst eR306
              have p308 := E307
              obtain ⟨x311, k309, h310, q312, z314⟩ := p308
              have k309 : M305 a0 13 = x311 := k309
              have q315 := z314 (chF.rf (chF.fr z297 hS.2.2.1 hk_tb rfl) f302 hk_tb rfl)
              refine lv_aload_n hx hb dX12_tested_81 rfl (lv_at hl 2 rfl) ?_
              refine lv_iload_n hx hb dX12_tested_82 rfl (lv_at hl 0 rfl) ?_
              refine tw_goi hS (md_runS (As := [.int 12]) (rest := [.ref (base + a0)]) hx hb hml hown hW hK hT hS.1 (t_X12_strength l D cy tx base Z K N M305 R9 J304 hS.2.1 12 (iv_mono (iv_c (c := 12) (n := 12) (by decide)) (by decide) (by decide))) s_X12_191 ⟨rfl, rfl, ⟨Nat.le_of_ble_eq_true rfl, Nat.le_of_ble_eq_true rfl⟩, ⟨Nat.le_of_ble_eq_true rfl, Nat.le_of_ble_eq_true rfl⟩⟩ rfl hl.1 rfl (Nat.le_of_ble_eq_true rfl) dX12_tested_83) rfl rfl (fun x322 H locs M319 R320 J318 hS f316 g317 E321 => ?_)
              have eM319 := Fr.nil f316 rfl
              subst eM319
              have eR320 := Fr.nil g317 rfl
              subst eR320
              obtain ⟨h_x322, p323⟩ := E321
              have q324 : (12 : Int32).toInt = 12 := (by decide)
              have z327 : nbo M305 op x157.toNatClampNeg = nbo M149 op x157.toNatClampNeg := ((nbo_to _ (fun j _ => Fr.kpa f302 hk_op rfl j)).trans ((nbo_to _ (fun j _ => Fr.kpa f193 hk_op rfl j)).trans (nbo_to _ (fun j _ => Fr.kpa f170 hk_op rfl j))))
              have z325 : SEG M305 sg tx.toNatClampNeg le.toNatClampNeg x158.toNatClampNeg (nbo M305 op x157.toNatClampNeg + 1) := SEG.cast (SEG.to (SEG.to (SEG.to z163 (fun j _ _ => Fr.kpa f170 hk_sg rfl j)) (fun j _ _ => Fr.kpa f193 hk_sg rfl j)) (fun j _ _ => Fr.kpa f302 hk_sg rfl j)) rfl (by rw [z327])
              have z326 : opK M305 op x157.toNatClampNeg := (opK.to (opK.to (opK.to z164 (fun j _ => Fr.kpa f170 hk_op rfl j)) (fun j _ => Fr.kpa f193 hk_op rfl j)) (fun j _ => Fr.kpa f302 hk_op rfl j))
              have q328 : ((nbo M305 op x157.toNatClampNeg + 1 : Nat) : Int) ≤ x132.toInt := by rw [z327]; exact q165
              have h329 : iv 1 3 x322 := by
                have := (h_le).1; have := (h_le).2; have := (h_md).1; have := (h_md).2; have := (h_nx).1; have := (h_nx).2; have := (h_tp).1; have := (h_tp).2; have := (h_tx).1; have := (h_tx).2; have := (h_x322).1; have := (h_x322).2; exact ⟨by omega, by omega⟩
              have k330 : R9 a0 4 = some lg := (Fr.kp (k := 4) g12 hk_a0 rfl).trans k_lg
              have k331 : R9 a0 3 = some sg := (Fr.kp (k := 3) g12 hk_a0 rfl).trans k_sg
              have k332 : M305 a0 16 = tx := ((Fr.kp (k := 16) f302 hk_a0 rfl).trans ((Fr.kp (k := 16) f193 hk_a0 rfl).trans ((Fr.kp (k := 16) f170 hk_a0 rfl).trans ((Fr.kp (k := 16) f146 hk_a0 rfl).trans ((Fr.kp (k := 16) f107 hk_a0 rfl).trans (Fr.kp (k := 16) f11 hk_a0 rfl)))))).trans k_tx
              have k333 : M305 lg tx.toNatClampNeg = x158 := ((Fr.kpa f302 hk_lg rfl tx.toNatClampNeg).trans ((Fr.kpa f193 hk_lg rfl tx.toNatClampNeg).trans (Fr.kpa f170 hk_lg rfl tx.toNatClampNeg))).trans k161
              have k334 : M305 a0 17 = x132 := ((Fr.kp (k := 17) f302 hk_a0 rfl).trans ((Fr.kp (k := 17) f193 hk_a0 rfl).trans ((Fr.kp (k := 17) f170 hk_a0 rfl).trans (Fr.kp (k := 17) f146 hk_a0 rfl)))).trans k133
              have k335 : R9 a0 20 = some op := (Fr.kp (k := 20) g12 hk_a0 rfl).trans k_op
              have k336 : M305 a0 21 = x157 := ((Fr.kp (k := 21) f302 hk_a0 rfl).trans ((Fr.kp (k := 21) f193 hk_a0 rfl).trans (Fr.kp (k := 21) f170 hk_a0 rfl))).trans k160
              have q337 : ((le.toNatClampNeg : Nat) : Int) ≤ x158.toInt := by
                have := (h_le).1; have := (h_le).2; have := (h_md).1; have := (h_md).2; have := (h_nx).1; have := (h_nx).2; have := (h_tp).1; have := (h_tp).2; have := (h_tx).1; have := (h_tx).2; have := (h115).1; have := (h115).2; have := (h122).1; have := (h122).2; have := (h123).1; have := (h123).2; have := (h124).1; have := (h124).2; have := (h_x13).1; have := (h_x13).2; have := (h_x15).1; have := (h_x15).2; have := (h153).1; have := (h153).2; have := (h154).1; have := (h154).2; have := (h155).1; have := (h155).2; have := (h_x17).1; have := (h_x17).2; have := (h179).1; have := (h179).2; have := (h_x19).1; have := (h_x19).2; have := (h202).1; have := (h202).2; have := (h310).1; have := (h310).2; have := (h96).1; have := (h96).2; omega
              have q338 : ((nbo M305 op x157.toNatClampNeg + 1 : Nat) : Int) ≤ x132.toInt := by
                have := (h_le).1; have := (h_le).2; have := (h_md).1; have := (h_md).2; have := (h_nx).1; have := (h_nx).2; have := (h_tp).1; have := (h_tp).2; have := (h_tx).1; have := (h_tx).2; have := (h115).1; have := (h115).2; have := (h122).1; have := (h122).2; have := (h123).1; have := (h123).2; have := (h124).1; have := (h124).2; have := (h_x13).1; have := (h_x13).2; have := (h131).1; have := (h131).2; have := (h_x15).1; have := (h_x15).2; have := (h153).1; have := (h153).2; have := (h154).1; have := (h154).2; have := (h155).1; have := (h155).2; have := (h_x17).1; have := (h_x17).2; have := (h179).1; have := (h179).2; have := (h_x19).1; have := (h_x19).2; have := (h202).1; have := (h202).2; have := (h310).1; have := (h310).2; have := (h96).1; have := (h96).2; omega
              have q339 : x158.toInt + x157.toInt ≤ x311.toInt := by
                have := (h_le).1; have := (h_le).2; have := (h_md).1; have := (h_md).2; have := (h_nx).1; have := (h_nx).2; have := (h_tp).1; have := (h_tp).2; have := (h_tx).1; have := (h_tx).2; have := (h115).1; have := (h115).2; have := (h122).1; have := (h122).2; have := (h123).1; have := (h123).2; have := (h124).1; have := (h124).2; have := (h_x13).1; have := (h_x13).2; have := (h_x15).1; have := (h_x15).2; have := (h153).1; have := (h153).2; have := (h154).1; have := (h154).2; have := (h155).1; have := (h155).2; have := (h_x17).1; have := (h_x17).2; have := (h187).1; have := (h187).2; have := (h179).1; have := (h179).2; have := (h_x19).1; have := (h_x19).2; have := (h296).1; have := (h296).2; have := (h202).1; have := (h202).2; have := (h310).1; have := (h310).2; have := (h96).1; have := (h96).2; omega
              refine tw_gov hS (md_runV (As := [.int x322]) (rest := []) hx hb hml hown hW hK hT hS.1 (t_X12_settles l D cy tx base Z K N M305 R9 J318 hS.2.1 a0 hz_a0 hk_a0 x322 h329 x311 k309 (iv_mono h310 (by decide) (by decide)) lg k330 sg k331 tx k332 (iv_mono h_tx (by decide) (by decide)) x158 k333 (iv_mono h155 (by decide) (by decide)) x132 k334 (iv_mono h131 (by decide) (by decide)) op k335 x157 k336 (iv_mono h154 (by decide) (by decide)) (le.toNatClampNeg) (nbo M305 op x157.toNatClampNeg + 1) z325 q337 q338 q339 z326 rfl) s_X12_227 ⟨rfl, rfl, ⟨Nat.le_of_ble_eq_true rfl, Nat.le_of_ble_eq_true rfl⟩, ⟨Nat.le_of_ble_eq_true rfl, Nat.le_of_ble_eq_true rfl⟩⟩ hz_a0 hk_a0 (by decide) rfl rfl hl.1 rfl (Nat.le_of_ble_eq_true rfl) dX12_tested_86) rfl rfl (fun H locs M343 R344 J342 hS f340 g341 E345 => ?_)
              have eR344 := Fr.nil g341 rfl
              subst eR344
              have p346 := E345
              obtain ⟨x349, x350, k351, k352, h347, h348, zr346, zg346, zf346, zz346, zl346⟩ := p346
              have k351 : M343 a0 21 = x349 := k351
              have k352 : M343 lg tx.toNatClampNeg = x350 := k352
              have zw346 := ti_cl (x := le) (by have := h_le.1; omega); have zy346 := ti_cl (x := x158) (by have := (h155).1; omega)
              have z353 : ∀ j, j < 400 * tx.toNatClampNeg + le.toNatClampNeg → M343 sg j = Ma sg j := fun j hj => (zf346 j (by omega)).trans ((fun j hj => (Fr.kpa f302 hk_sg rfl j).trans ((fun j hj => (Fr.kpa f193 hk_sg rfl j).trans ((fun j hj => (Fr.kpa f170 hk_sg rfl j).trans (z162 j hj)) j hj)) j hj)) j hj)
              have zb346 := ti_cl (x := x349) (by have := (h347).1; omega); have zc346 := ti_cl (x := x157) (by have := (h154).1; omega)
              have z357 : nbo M343 op x349.toNatClampNeg = nbo M305 op x349.toNatClampNeg := nbo_to _ (fun j _ => Fr.kpa f340 hk_op rfl j)
              have z354 : SEG M343 sg tx.toNatClampNeg le.toNatClampNeg x350.toNatClampNeg (nbo M343 op x349.toNatClampNeg + 1) := SEG.cast zg346 rfl (by rw [z357])
              have z355 : opK M343 op x349.toNatClampNeg := opK.to (opK.less z326 (by omega)) (fun j _ => Fr.kpa f340 hk_op rfl j)
              have zm346 := nbo_mono (M := M305) (op := op) x157.toNatClampNeg x349.toNatClampNeg (by omega)
              have q356 : ((nbo M343 op x349.toNatClampNeg + 1 : Nat) : Int) ≤ x132.toInt := by rw [z357]; have := q328; omega
              refine lv_aload_n hx hb dX12_tested_89 rfl (lv_at hl 2 rfl) ?_
              have k358 : R9 a0 20 = some op := (Fr.kp (k := 20) g12 hk_a0 rfl).trans k_op
              refine tw_getrk hx hb hW hown hK hS f_X12_35_11 hz_a0 hk_a0 (b := op) k358 dX12_tested_90 ?_
              refine lv_aload_n hx hb dX12_tested_93 rfl (lv_at hl 2 rfl) ?_
              refine tw_getk hx hb hW hown hK hS f_X12_188_11 hz_a0 hk_a0 (v := x349) k351 dX12_tested_94 ?_
              refine lv_iload_n hx hb dX12_tested_97 rfl (lv_at hl 0 rfl) ?_
              have h359 : iv 0 399 x349 := by
                have := (h_le).1; have := (h_le).2; have := (h_md).1; have := (h_md).2; have := (h_nx).1; have := (h_nx).2; have := (h_tp).1; have := (h_tp).2; have := (h_tx).1; have := (h_tx).2; have := (h115).1; have := (h115).2; have := (h122).1; have := (h122).2; have := (h123).1; have := (h123).2; have := (h124).1; have := (h124).2; have := (h_x13).1; have := (h_x13).2; have := (h_x15).1; have := (h_x15).2; have := (h153).1; have := (h153).2; have := (h154).1; have := (h154).2; have := (h155).1; have := (h155).2; have := (h_x17).1; have := (h_x17).2; have := (h179).1; have := (h179).2; have := (h_x19).1; have := (h_x19).2; have := (h202).1; have := (h202).2; have := (h310).1; have := (h310).2; have := (h347).1; have := (h347).2; have := (h348).1; have := (h348).2; have := (h96).1; have := (h96).2; exact ⟨by omega, by omega⟩
              refine tw_iasx hx hb hK hS hz_op hk_op (Or.inl rfl) hn_op h359 ⟨by decide, by decide⟩ (iv_any _) (jl := 0) (jh := 1999999) ⟨by decide, by decide⟩ rfl dX12_tested_98 (fun H locs M363 hS k360 f361 e362 => ?_)
              have k364 : M363 a0 21 = x349 := (Fr.kp (k := 21) f361 hk_a0 rfl).trans k351
              refine lv_aload_n hx hb dX12_tested_99 rfl (lv_at hl 2 rfl) ?_
              refine lv_dup hx hb dX12_tested_100 rfl ?_
              refine tw_getk hx hb hW hown hK hS f_X12_188_11 hz_a0 hk_a0 (v := x349) k364 dX12_tested_101 ?_
              refine lv_iconst (v := 1) hx hb dX12_tested_104 (by decide) ?_
              refine tw_iadd (lo := 1) (hi := 400) hx hb h359 (iv_c (c := 1) (n := 1) (by decide)) ⟨by decide, by decide⟩ ⟨by decide, by decide⟩ dX12_tested_105 (fun x367 e366 h365 => ?_)
              have e366 : x367.toInt = x349.toInt + 1 := e366
              refine tw_puti hx hb hW hown hK hS f_X12_188_11 hz_a0 hk_a0 rfl rfl (lo := 0) (hi := 400) rfl (iv_mono h365 (by decide) (by decide)) rfl dX12_tested_106 (fun H locs M370 hS k368 f369 => ?_)
              have za370 := ti_cl (x := x349) (by have := (h359).1; omega); have zb370 := ti_cl (x := x367) (by have := (h365).1; omega)
              have zo370 : ∀ j, j < x349.toNatClampNeg → M370 op j = M343 op j := fun j hj => (Fr.kpa f369 hk_op rfl j).trans (by rw [e362]; exact u2_nk (by omega))
              have zv370 : M370 op x349.toNatClampNeg = 12 := (Fr.kpa f369 hk_op rfl _).trans (by rw [e362]; exact u2_same)
              have zn370 : nbo M370 op x367.toNatClampNeg = nbo M343 op x349.toNatClampNeg + 1 := by rw [nbo_two (x := x349.toNatClampNeg) (by omega) (by rw [zv370]; decide), nbo_to _ zo370]
              have z371 : SEG M370 sg tx.toNatClampNeg le.toNatClampNeg x350.toNatClampNeg (nbo M370 op x367.toNatClampNeg) := SEG.cast (SEG.to (SEG.to z354 (fun j _ _ => Fr.kpa f361 hk_sg rfl j)) (fun j _ _ => Fr.kpa f369 hk_sg rfl j)) rfl (by rw [zn370])
              have z372 : opK M370 op x367.toNatClampNeg := fun j hj => by by_cases q : j = x349.toNatClampNeg; · rw [q, zv370]; decide; · rw [zo370 j (by omega)]; exact z355 j (by omega)
              have q373 : ((nbo M370 op x367.toNatClampNeg : Nat) : Int) ≤ x132.toInt := by rw [zn370]; exact q356
              refine lv_goto (tgt := 12) hx hb dX12_tested_109 (by decide) ?_
              have k374 : M370 a0 13 = x311 := ((Fr.kp (k := 13) f369 hk_a0 rfl).trans ((Fr.kp (k := 13) f361 hk_a0 rfl).trans (Fr.kp (k := 13) f340 hk_a0 rfl))).trans k309
              have k375 : M370 lg tx.toNatClampNeg = x350 := ((Fr.kpa f369 hk_lg rfl tx.toNatClampNeg).trans (Fr.kpa f361 hk_lg rfl tx.toNatClampNeg)).trans k352
              have k376 : M370 a0 17 = x132 := ((Fr.kp (k := 17) f369 hk_a0 rfl).trans ((Fr.kp (k := 17) f361 hk_a0 rfl).trans (Fr.kp (k := 17) f340 hk_a0 rfl))).trans k334
              have w377 : nx.toInt ≤ x311.toInt ∧ x311.toInt ≤ tp.toInt ∧ x350.toInt + x367.toInt ≤ x311.toInt ∧ le.toInt ≤ x350.toInt := by
                have := (h_le).1; have := (h_le).2; have := (h_md).1; have := (h_md).2; have := (h_nx).1; have := (h_nx).2; have := (h_tp).1; have := (h_tp).2; have := (h_tx).1; have := (h_tx).2; have := (h115).1; have := (h115).2; have := (h122).1; have := (h122).2; have := (h123).1; have := (h123).2; have := (h124).1; have := (h124).2; have := (h_x13).1; have := (h_x13).2; have := (h_x15).1; have := (h_x15).2; have := (h153).1; have := (h153).2; have := (h154).1; have := (h154).2; have := (h155).1; have := (h155).2; have := (h_x17).1; have := (h_x17).2; have := (h187).1; have := (h187).2; have := (h179).1; have := (h179).2; have := (h_x19).1; have := (h_x19).2; have := (h296).1; have := (h296).2; have := (h202).1; have := (h202).2; have := (h310).1; have := (h310).2; have := (h359).1; have := (h359).2; have := (h348).1; have := (h348).2; have := (h365).1; have := (h365).2; have := (h96).1; have := (h96).2; omega
              have w378 : ((1 : Int32).toInt = 1 ∧ SEG M370 sg tx.toNatClampNeg le.toNatClampNeg x350.toNatClampNeg (nbo M370 op x367.toNatClampNeg) ∧ ((nbo M370 op x367.toNatClampNeg : Nat) : Int) ≤ x132.toInt) ∨ ((1 : Int32).toInt = 0 ∧ SEG M370 sg tx.toNatClampNeg le.toNatClampNeg x350.toNatClampNeg (nbo M370 op x367.toNatClampNeg + 1) ∧ ((nbo M370 op x367.toNatClampNeg + 1 : Nat) : Int) ≤ x132.toInt) := Or.inl ⟨by decide, z371, q373⟩
              have w379 : ∀ j, j < 400 * tx.toNatClampNeg + le.toNatClampNeg → M370 sg j = Ma sg j := (fun j hj => (Fr.kpa f369 hk_sg rfl j).trans ((fun j hj => (Fr.kpa f361 hk_sg rfl j).trans (z353 j hj)) j hj))
              have w380 : opK M370 op x367.toNatClampNeg := z372
              have hm381 : 2 * (400 - x311.toInt) + (1 : Int32).toInt < (n_8 : Int) := by
                have := (h_le).1; have := (h_le).2; have := (h_md).1; have := (h_md).2; have := (h_nx).1; have := (h_nx).2; have := (h_tp).1; have := (h_tp).2; have := (h_tx).1; have := (h_tx).2; have := (h115).1; have := (h115).2; have := (h122).1; have := (h122).2; have := (h123).1; have := (h123).2; have := (h124).1; have := (h124).2; have := (h_x13).1; have := (h_x13).2; have := (h_x15).1; have := (h_x15).2; have := (h153).1; have := (h153).2; have := (h154).1; have := (h154).2; have := (h155).1; have := (h155).2; have := (h_x17).1; have := (h_x17).2; have := (h187).1; have := (h187).2; have := (h179).1; have := (h179).2; have := (h_x19).1; have := (h_x19).2; have := (h296).1; have := (h296).2; have := (h202).1; have := (h202).2; have := (h310).1; have := (h310).2; have := (h359).1; have := (h359).2; have := (h348).1; have := (h348).2; have := (h96).1; have := (h96).2; have : (1 : Int32).toInt = 1 := (by decide); omega
              exact ih_8 1 x311 x367 x350 x132 M370 R9 J342 H locs _ (iv_mono (iv_c (c := 1) (n := 1) (by decide)) (by decide) (by decide)) h310 k374 (iv_mono h365 (by decide) (by decide)) k368 h348 k375 h131 k376 w377 w378 w379 w380 hm381 hS (lv_sub hl [1, 2] rfl)
          · have q382 : x176.toInt = 0 := ti_eq c185
            have h383 : iv 0 0 x176 := ⟨by have := (h_x176).1; have := ((iv_c (c := 0) (n := 0) (by decide))).1; omega, by have := (h_x176).2; have := ((iv_c (c := 0) (n := 0) (by decide))).2; omega⟩
            refine lv_aload_n hx hb dX12_tested_39 rfl (lv_at hl 1 rfl) ?_
            refine lv_ldc2 hx hb hown (hW _ w_7_128 rfl) dX12_tested_40 ?_
            have k384 : R9 a0 0 = some tb := (Fr.kp (k := 0) g12 hk_a0 rfl).trans k_tb
            have k385 : M173 a0 1 = tp := ((Fr.kp (k := 1) f170 hk_a0 rfl).trans ((Fr.kp (k := 1) f146 hk_a0 rfl).trans ((Fr.kp (k := 1) f107 hk_a0 rfl).trans (Fr.kp (k := 1) f11 hk_a0 rfl)))).trans k_tp
            have q386 : x180.toInt ≤ tp.toInt := by
              have := (h_le).1; have := (h_le).2; have := (h_md).1; have := (h_md).2; have := (h_nx).1; have := (h_nx).2; have := (h_tp).1; have := (h_tp).2; have := (h_tx).1; have := (h_tx).2; have := (h115).1; have := (h115).2; have := (h122).1; have := (h122).2; have := (h123).1; have := (h123).2; have := (h124).1; have := (h124).2; have := (h_x13).1; have := (h_x13).2; have := (h_x15).1; have := (h_x15).2; have := (h153).1; have := (h153).2; have := (h154).1; have := (h154).2; have := (h155).1; have := (h155).2; have := (h_x17).1; have := (h_x17).2; have := (h383).1; have := (h383).2; have := (h179).1; have := (h179).2; have := (h_x19).1; have := (h_x19).2; have := (h96).1; have := (h96).2; omega
            refine tw_goi hS (md_runV (As := [.long 28530]) (rest := []) hx hb hml hown hW hK hT hS.1 (t_X12_isWord l D cy tx base Z K N M173 R9 J172 hS.2.1 a0 hz_a0 hk_a0 (28530) tb k384 x180 k178 (iv_mono h179 (by decide) (by decide)) tp k385 (iv_mono h_tp (by decide) (by decide)) q386) s_X12_138 ⟨rfl, rfl, ⟨Nat.le_of_ble_eq_true rfl, Nat.le_of_ble_eq_true rfl⟩, ⟨Nat.le_of_ble_eq_true rfl, Nat.le_of_ble_eq_true rfl⟩⟩ hz_a0 hk_a0 (by decide) rfl rfl hl.1 rfl (Nat.le_of_ble_eq_true rfl) dX12_tested_43) rfl rfl (fun x393 H locs M390 R391 J389 hS f387 g388 E392 => ?_)
            have eR391 := Fr.nil g388 rfl
            subst eR391
            obtain ⟨h_x393, p394⟩ := E392
            obtain ⟨x397, k395, h396, q398, z399, z400⟩ := p394
            have k395 : M390 a0 13 = x397 := k395
            have z401 : ¬ x393 = 0 → chF 97 122 Ma tb x397 tp := fun h => chF.rf (chF.fr (z400 h) f387 hk_tb rfl) hS.2.2.1 hk_tb rfl
            refine lv_if_eq (tgt := 53) hx hb dX12_tested_46 (by decide) (fun c402 => ?_) (fun c402 => ?_)
            · have q403 : x393.toInt = 0 := ti_eq c402
              have h404 : iv 0 0 x393 := ⟨by have := (h_x393).1; have := ((iv_c (c := 0) (n := 0) (by decide))).1; omega, by have := (h_x393).2; have := ((iv_c (c := 0) (n := 0) (by decide))).2; omega⟩
              refine lv_iconst (v := 0) hx hb dX12_tested_53 (by decide) ?_
              refine lv_istore_n (lv' := [(1, .int 0), (0, .ref (base + a0))]) hx hb dX12_tested_54 rfl hl (by decide) rfl (fun ls hl => ?_)
              refine lv_iload_n hx hb dX12_tested_55 rfl (lv_at hl 0 rfl) ?_
              refine lv_if_eq (tgt := 12) hx hb dX12_tested_56 (by decide) (fun _ => ?_) (fun h => absurd h (by decide))
              have k405 : M390 a0 21 = x157 := ((Fr.kp (k := 21) f387 hk_a0 rfl).trans (Fr.kp (k := 21) f170 hk_a0 rfl)).trans k160
              have k406 : M390 lg tx.toNatClampNeg = x158 := ((Fr.kpa f387 hk_lg rfl tx.toNatClampNeg).trans (Fr.kpa f170 hk_lg rfl tx.toNatClampNeg)).trans k161
              have k407 : M390 a0 17 = x132 := ((Fr.kp (k := 17) f387 hk_a0 rfl).trans ((Fr.kp (k := 17) f170 hk_a0 rfl).trans (Fr.kp (k := 17) f146 hk_a0 rfl))).trans k133
              have w408 : nx.toInt ≤ x397.toInt ∧ x397.toInt ≤ tp.toInt ∧ x158.toInt + x157.toInt ≤ x397.toInt ∧ le.toInt ≤ x158.toInt := by
                have := (h_le).1; have := (h_le).2; have := (h_md).1; have := (h_md).2; have := (h_nx).1; have := (h_nx).2; have := (h_tp).1; have := (h_tp).2; have := (h_tx).1; have := (h_tx).2; have := (h115).1; have := (h115).2; have := (h122).1; have := (h122).2; have := (h123).1; have := (h123).2; have := (h124).1; have := (h124).2; have := (h_x13).1; have := (h_x13).2; have := (h_x15).1; have := (h_x15).2; have := (h153).1; have := (h153).2; have := (h154).1; have := (h154).2; have := (h155).1; have := (h155).2; have := (h_x17).1; have := (h_x17).2; have := (h383).1; have := (h383).2; have := (h179).1; have := (h179).2; have := (h_x19).1; have := (h_x19).2; have := (h404).1; have := (h404).2; have := (h396).1; have := (h396).2; have := (h96).1; have := (h96).2; omega
              have z412 : nbo M390 op x157.toNatClampNeg = nbo M149 op x157.toNatClampNeg := ((nbo_to _ (fun j _ => Fr.kpa f387 hk_op rfl j)).trans (nbo_to _ (fun j _ => Fr.kpa f170 hk_op rfl j)))
              have z410 : SEG M390 sg tx.toNatClampNeg le.toNatClampNeg x158.toNatClampNeg (nbo M390 op x157.toNatClampNeg + 1) := SEG.cast (SEG.to (SEG.to z163 (fun j _ _ => Fr.kpa f170 hk_sg rfl j)) (fun j _ _ => Fr.kpa f387 hk_sg rfl j)) rfl (by rw [z412])
              have z411 : opK M390 op x157.toNatClampNeg := (opK.to (opK.to z164 (fun j _ => Fr.kpa f170 hk_op rfl j)) (fun j _ => Fr.kpa f387 hk_op rfl j))
              have q413 : ((nbo M390 op x157.toNatClampNeg + 1 : Nat) : Int) ≤ x132.toInt := by rw [z412]; exact q165
              have w409 : ((0 : Int32).toInt = 1 ∧ SEG M390 sg tx.toNatClampNeg le.toNatClampNeg x158.toNatClampNeg (nbo M390 op x157.toNatClampNeg) ∧ ((nbo M390 op x157.toNatClampNeg : Nat) : Int) ≤ x132.toInt) ∨ ((0 : Int32).toInt = 0 ∧ SEG M390 sg tx.toNatClampNeg le.toNatClampNeg x158.toNatClampNeg (nbo M390 op x157.toNatClampNeg + 1) ∧ ((nbo M390 op x157.toNatClampNeg + 1 : Nat) : Int) ≤ x132.toInt) := Or.inr ⟨by decide, z410, q413⟩
              have w414 : ∀ j, j < 400 * tx.toNatClampNeg + le.toNatClampNeg → M390 sg j = Ma sg j := (fun j hj => (Fr.kpa f387 hk_sg rfl j).trans ((fun j hj => (Fr.kpa f170 hk_sg rfl j).trans (z162 j hj)) j hj))
              have w415 : opK M390 op x157.toNatClampNeg := z411
              have hm416 : 2 * (400 - x397.toInt) + (0 : Int32).toInt < (n_8 : Int) := by
                have := (h_le).1; have := (h_le).2; have := (h_md).1; have := (h_md).2; have := (h_nx).1; have := (h_nx).2; have := (h_tp).1; have := (h_tp).2; have := (h_tx).1; have := (h_tx).2; have := (h115).1; have := (h115).2; have := (h122).1; have := (h122).2; have := (h123).1; have := (h123).2; have := (h124).1; have := (h124).2; have := (h_x13).1; have := (h_x13).2; have := (h_x15).1; have := (h_x15).2; have := (h153).1; have := (h153).2; have := (h154).1; have := (h154).2; have := (h155).1; have := (h155).2; have := (h_x17).1; have := (h_x17).2; have := (h383).1; have := (h383).2; have := (h179).1; have := (h179).2; have := (h_x19).1; have := (h_x19).2; have := (h404).1; have := (h404).2; have := (h396).1; have := (h396).2; have := (h96).1; have := (h96).2; have : (0 : Int32).toInt = 0 := (by decide); omega
              exact ih_8 0 x397 x157 x158 x132 M390 R9 J389 H locs _ (iv_mono (iv_c (c := 0) (n := 0) (by decide)) (by decide) (by decide)) h396 k395 h154 k405 h155 k406 h131 k407 w408 w409 w414 w415 hm416 hS hl
            · have q417 : ¬ x393.toInt = 0 := ti_ne c402
              have h418 : iv 1 1 x393 := ⟨by have := (h_x393).1; have := ((iv_c (c := 0) (n := 0) (by decide))).1; have := ((iv_c (c := 0) (n := 0) (by decide))).2; omega, by have := (h_x393).2; have := ((iv_c (c := 0) (n := 0) (by decide))).1; have := ((iv_c (c := 0) (n := 0) (by decide))).2; omega⟩
              have z419 := z401 c402
              have q420 := z419.1
              refine lv_iconst (v := 1) hx hb dX12_tested_49 (by decide) ?_
              refine lv_goto (tgt := 54) hx hb dX12_tested_50 (by decide) ?_
              refine lv_istore_n (lv' := [(1, .int 1), (0, .ref (base + a0))]) hx hb dX12_tested_54 rfl hl (by decide) rfl (fun ls hl => ?_)
              refine lv_iload_n hx hb dX12_tested_55 rfl (lv_at hl 0 rfl) ?_
              refine lv_if_eq (tgt := 12) hx hb dX12_tested_56 (by decide) (fun h => absurd h (by decide)) (fun _ => ?_)
              refine lv_aload_n hx hb dX12_tested_59 rfl (lv_at hl 1 rfl) ?_
              refine lv_ldc2 hx hb hown (hW _ w_7_127 rfl) dX12_tested_60 ?_
              have k421 : R9 a0 0 = some tb := (Fr.kp (k := 0) g12 hk_a0 rfl).trans k_tb
              have k422 : M390 a0 1 = tp := ((Fr.kp (k := 1) f387 hk_a0 rfl).trans ((Fr.kp (k := 1) f170 hk_a0 rfl).trans ((Fr.kp (k := 1) f146 hk_a0 rfl).trans ((Fr.kp (k := 1) f107 hk_a0 rfl).trans (Fr.kp (k := 1) f11 hk_a0 rfl))))).trans k_tp
              have q423 : x397.toInt ≤ tp.toInt := by
                have := (h_le).1; have := (h_le).2; have := (h_md).1; have := (h_md).2; have := (h_nx).1; have := (h_nx).2; have := (h_tp).1; have := (h_tp).2; have := (h_tx).1; have := (h_tx).2; have := (h115).1; have := (h115).2; have := (h122).1; have := (h122).2; have := (h123).1; have := (h123).2; have := (h124).1; have := (h124).2; have := (h_x13).1; have := (h_x13).2; have := (h_x15).1; have := (h_x15).2; have := (h153).1; have := (h153).2; have := (h154).1; have := (h154).2; have := (h155).1; have := (h155).2; have := (h_x17).1; have := (h_x17).2; have := (h383).1; have := (h383).2; have := (h179).1; have := (h179).2; have := (h_x19).1; have := (h_x19).2; have := (h418).1; have := (h418).2; have := (h396).1; have := (h396).2; have := (h96).1; have := (h96).2; omega
              refine tw_goi hS (md_runV (As := [.long 6385252]) (rest := []) hx hb hml hown hW hK hT hS.1 (t_X12_isWord l D cy tx base Z K N M390 R9 J389 hS.2.1 a0 hz_a0 hk_a0 (6385252) tb k421 x397 k395 (iv_mono h396 (by decide) (by decide)) tp k422 (iv_mono h_tp (by decide) (by decide)) q423) s_X12_138 ⟨rfl, rfl, ⟨Nat.le_of_ble_eq_true rfl, Nat.le_of_ble_eq_true rfl⟩, ⟨Nat.le_of_ble_eq_true rfl, Nat.le_of_ble_eq_true rfl⟩⟩ hz_a0 hk_a0 (by decide) rfl rfl hl.1 rfl (Nat.le_of_ble_eq_true rfl) dX12_tested_63) rfl rfl (fun x430 H locs M427 R428 J426 hS f424 g425 E429 => ?_)
              have eR428 := Fr.nil g425 rfl
              subst eR428
              obtain ⟨h_x430, p431⟩ := E429
              obtain ⟨x434, k432, h433, q435, z436, z437⟩ := p431
              have k432 : M427 a0 13 = x434 := k432
              have z438 : chF 97 122 Ma tb x434 tp := z419.at (z436 97 122 (by decide) (chF.rf (chF.fr z419 hS.2.2.1 hk_tb rfl) f424 hk_tb rfl))
              have z439 : ¬ x430 = 0 → chF 97 122 Ma tb x434 tp := fun h => chF.rf (chF.fr (z437 h) f424 hk_tb rfl) hS.2.2.1 hk_tb rfl
              refine lv_if_eq (tgt := 74) hx hb dX12_tested_66 (by decide) (fun c440 => ?_) (fun c440 => ?_)
              · have q441 : x430.toInt = 0 := ti_eq c440
                have h442 : iv 0 0 x430 := ⟨by have := (h_x430).1; have := ((iv_c (c := 0) (n := 0) (by decide))).1; omega, by have := (h_x430).2; have := ((iv_c (c := 0) (n := 0) (by decide))).2; omega⟩
                refine lv_bipush (v := 13) hx hb dX12_tested_74 (by decide) ?_
                refine lv_istore_n (lv' := [(2, .int 13), (1, .int 1), (0, .ref (base + a0))]) hx hb dX12_tested_76 rfl hl (by decide) rfl (fun ls hl => ?_)
                refine lv_aload_n hx hb dX12_tested_77 rfl (lv_at hl 2 rfl) ?_
                have k443 : R9 a0 0 = some tb := (Fr.kp (k := 0) g12 hk_a0 rfl).trans k_tb
                have k444 : M427 a0 1 = tp := ((Fr.kp (k := 1) f424 hk_a0 rfl).trans ((Fr.kp (k := 1) f387 hk_a0 rfl).trans ((Fr.kp (k := 1) f170 hk_a0 rfl).trans ((Fr.kp (k := 1) f146 hk_a0 rfl).trans ((Fr.kp (k := 1) f107 hk_a0 rfl).trans (Fr.kp (k := 1) f11 hk_a0 rfl)))))).trans k_tp
                have q445 : x434.toInt ≤ tp.toInt := by
                  have := (h_le).1; have := (h_le).2; have := (h_md).1; have := (h_md).2; have := (h_nx).1; have := (h_nx).2; have := (h_tp).1; have := (h_tp).2; have := (h_tx).1; have := (h_tx).2; have := (h115).1; have := (h115).2; have := (h122).1; have := (h122).2; have := (h123).1; have := (h123).2; have := (h124).1; have := (h124).2; have := (h_x13).1; have := (h_x13).2; have := (h_x15).1; have := (h_x15).2; have := (h153).1; have := (h153).2; have := (h154).1; have := (h154).2; have := (h155).1; have := (h155).2; have := (h_x17).1; have := (h_x17).2; have := (h383).1; have := (h383).2; have := (h179).1; have := (h179).2; have := (h_x19).1; have := (h_x19).2; have := (h418).1; have := (h418).2; have := (h396).1; have := (h396).2; have := (h442).1; have := (h442).2; have := (h433).1; have := (h433).2; have := (h96).1; have := (h96).2; omega
                refine tw_gov hS (md_runV (As := []) (rest := []) hx hb hml hown hW hK hT hS.1 (t_X12_passWord l D cy tx base Z K N M427 R9 J426 hS.2.1 a0 hz_a0 hk_a0 tb k443 x434 k432 (iv_mono h433 (by decide) (by decide)) tp k444 (iv_mono h_tp (by decide) (by decide)) q445) s_X12_142 ⟨rfl, rfl, ⟨Nat.le_of_ble_eq_true rfl, Nat.le_of_ble_eq_true rfl⟩, ⟨Nat.le_of_ble_eq_true rfl, Nat.le_of_ble_eq_true rfl⟩⟩ hz_a0 hk_a0 (by decide) rfl rfl hl.1 rfl (Nat.le_of_ble_eq_true rfl) dX12_tested_78) rfl rfl (fun H locs M449 R450 J448 hS f446 g447 E451 => ?_)
                have eR450 := Fr.nil g447 rfl
                subst eR450
                have p452 := E451
                obtain ⟨x455, k453, h454, q456, z458⟩ := p452
                have k453 : M449 a0 13 = x455 := k453
                have q459 := z458 (chF.rf (chF.fr z438 hS.2.2.1 hk_tb rfl) f446 hk_tb rfl)
                refine lv_aload_n hx hb dX12_tested_81 rfl (lv_at hl 2 rfl) ?_
                refine lv_iload_n hx hb dX12_tested_82 rfl (lv_at hl 0 rfl) ?_
                refine tw_goi hS (md_runS (As := [.int 13]) (rest := [.ref (base + a0)]) hx hb hml hown hW hK hT hS.1 (t_X12_strength l D cy tx base Z K N M449 R9 J448 hS.2.1 13 (iv_mono (iv_c (c := 13) (n := 13) (by decide)) (by decide) (by decide))) s_X12_191 ⟨rfl, rfl, ⟨Nat.le_of_ble_eq_true rfl, Nat.le_of_ble_eq_true rfl⟩, ⟨Nat.le_of_ble_eq_true rfl, Nat.le_of_ble_eq_true rfl⟩⟩ rfl hl.1 rfl (Nat.le_of_ble_eq_true rfl) dX12_tested_83) rfl rfl (fun x466 H locs M463 R464 J462 hS f460 g461 E465 => ?_)
                have eM463 := Fr.nil f460 rfl
                subst eM463
                have eR464 := Fr.nil g461 rfl
                subst eR464
                obtain ⟨h_x466, p467⟩ := E465
                have q468 : (13 : Int32).toInt = 13 := (by decide)
                have z471 : nbo M449 op x157.toNatClampNeg = nbo M149 op x157.toNatClampNeg := ((nbo_to _ (fun j _ => Fr.kpa f446 hk_op rfl j)).trans ((nbo_to _ (fun j _ => Fr.kpa f424 hk_op rfl j)).trans ((nbo_to _ (fun j _ => Fr.kpa f387 hk_op rfl j)).trans (nbo_to _ (fun j _ => Fr.kpa f170 hk_op rfl j)))))
                have z469 : SEG M449 sg tx.toNatClampNeg le.toNatClampNeg x158.toNatClampNeg (nbo M449 op x157.toNatClampNeg + 1) := SEG.cast (SEG.to (SEG.to (SEG.to (SEG.to z163 (fun j _ _ => Fr.kpa f170 hk_sg rfl j)) (fun j _ _ => Fr.kpa f387 hk_sg rfl j)) (fun j _ _ => Fr.kpa f424 hk_sg rfl j)) (fun j _ _ => Fr.kpa f446 hk_sg rfl j)) rfl (by rw [z471])
                have z470 : opK M449 op x157.toNatClampNeg := (opK.to (opK.to (opK.to (opK.to z164 (fun j _ => Fr.kpa f170 hk_op rfl j)) (fun j _ => Fr.kpa f387 hk_op rfl j)) (fun j _ => Fr.kpa f424 hk_op rfl j)) (fun j _ => Fr.kpa f446 hk_op rfl j))
                have q472 : ((nbo M449 op x157.toNatClampNeg + 1 : Nat) : Int) ≤ x132.toInt := by rw [z471]; exact q165
                have h473 : iv 1 3 x466 := by
                  have := (h_le).1; have := (h_le).2; have := (h_md).1; have := (h_md).2; have := (h_nx).1; have := (h_nx).2; have := (h_tp).1; have := (h_tp).2; have := (h_tx).1; have := (h_tx).2; have := (h_x466).1; have := (h_x466).2; exact ⟨by omega, by omega⟩
                have k474 : R9 a0 4 = some lg := (Fr.kp (k := 4) g12 hk_a0 rfl).trans k_lg
                have k475 : R9 a0 3 = some sg := (Fr.kp (k := 3) g12 hk_a0 rfl).trans k_sg
                have k476 : M449 a0 16 = tx := ((Fr.kp (k := 16) f446 hk_a0 rfl).trans ((Fr.kp (k := 16) f424 hk_a0 rfl).trans ((Fr.kp (k := 16) f387 hk_a0 rfl).trans ((Fr.kp (k := 16) f170 hk_a0 rfl).trans ((Fr.kp (k := 16) f146 hk_a0 rfl).trans ((Fr.kp (k := 16) f107 hk_a0 rfl).trans (Fr.kp (k := 16) f11 hk_a0 rfl))))))).trans k_tx
                have k477 : M449 lg tx.toNatClampNeg = x158 := ((Fr.kpa f446 hk_lg rfl tx.toNatClampNeg).trans ((Fr.kpa f424 hk_lg rfl tx.toNatClampNeg).trans ((Fr.kpa f387 hk_lg rfl tx.toNatClampNeg).trans (Fr.kpa f170 hk_lg rfl tx.toNatClampNeg)))).trans k161
                have k478 : M449 a0 17 = x132 := ((Fr.kp (k := 17) f446 hk_a0 rfl).trans ((Fr.kp (k := 17) f424 hk_a0 rfl).trans ((Fr.kp (k := 17) f387 hk_a0 rfl).trans ((Fr.kp (k := 17) f170 hk_a0 rfl).trans (Fr.kp (k := 17) f146 hk_a0 rfl))))).trans k133
                have k479 : R9 a0 20 = some op := (Fr.kp (k := 20) g12 hk_a0 rfl).trans k_op
                have k480 : M449 a0 21 = x157 := ((Fr.kp (k := 21) f446 hk_a0 rfl).trans ((Fr.kp (k := 21) f424 hk_a0 rfl).trans ((Fr.kp (k := 21) f387 hk_a0 rfl).trans (Fr.kp (k := 21) f170 hk_a0 rfl)))).trans k160
                have q481 : ((le.toNatClampNeg : Nat) : Int) ≤ x158.toInt := by
                  have := (h_le).1; have := (h_le).2; have := (h_md).1; have := (h_md).2; have := (h_nx).1; have := (h_nx).2; have := (h_tp).1; have := (h_tp).2; have := (h_tx).1; have := (h_tx).2; have := (h115).1; have := (h115).2; have := (h122).1; have := (h122).2; have := (h123).1; have := (h123).2; have := (h124).1; have := (h124).2; have := (h_x13).1; have := (h_x13).2; have := (h_x15).1; have := (h_x15).2; have := (h153).1; have := (h153).2; have := (h154).1; have := (h154).2; have := (h155).1; have := (h155).2; have := (h_x17).1; have := (h_x17).2; have := (h179).1; have := (h179).2; have := (h_x19).1; have := (h_x19).2; have := (h396).1; have := (h396).2; have := (h433).1; have := (h433).2; have := (h454).1; have := (h454).2; have := (h96).1; have := (h96).2; omega
                have q482 : ((nbo M449 op x157.toNatClampNeg + 1 : Nat) : Int) ≤ x132.toInt := by
                  have := (h_le).1; have := (h_le).2; have := (h_md).1; have := (h_md).2; have := (h_nx).1; have := (h_nx).2; have := (h_tp).1; have := (h_tp).2; have := (h_tx).1; have := (h_tx).2; have := (h115).1; have := (h115).2; have := (h122).1; have := (h122).2; have := (h123).1; have := (h123).2; have := (h124).1; have := (h124).2; have := (h_x13).1; have := (h_x13).2; have := (h131).1; have := (h131).2; have := (h_x15).1; have := (h_x15).2; have := (h153).1; have := (h153).2; have := (h154).1; have := (h154).2; have := (h155).1; have := (h155).2; have := (h_x17).1; have := (h_x17).2; have := (h179).1; have := (h179).2; have := (h_x19).1; have := (h_x19).2; have := (h396).1; have := (h396).2; have := (h433).1; have := (h433).2; have := (h454).1; have := (h454).2; have := (h96).1; have := (h96).2; omega
                have q483 : x158.toInt + x157.toInt ≤ x455.toInt := by
                  have := (h_le).1; have := (h_le).2; have := (h_md).1; have := (h_md).2; have := (h_nx).1; have := (h_nx).2; have := (h_tp).1; have := (h_tp).2; have := (h_tx).1; have := (h_tx).2; have := (h115).1; have := (h115).2; have := (h122).1; have := (h122).2; have := (h123).1; have := (h123).2; have := (h124).1; have := (h124).2; have := (h_x13).1; have := (h_x13).2; have := (h_x15).1; have := (h_x15).2; have := (h153).1; have := (h153).2; have := (h154).1; have := (h154).2; have := (h155).1; have := (h155).2; have := (h_x17).1; have := (h_x17).2; have := (h383).1; have := (h383).2; have := (h179).1; have := (h179).2; have := (h_x19).1; have := (h_x19).2; have := (h418).1; have := (h418).2; have := (h396).1; have := (h396).2; have := (h442).1; have := (h442).2; have := (h433).1; have := (h433).2; have := (h454).1; have := (h454).2; have := (h96).1; have := (h96).2; omega
                refine tw_gov hS (md_runV (As := [.int x466]) (rest := []) hx hb hml hown hW hK hT hS.1 (t_X12_settles l D cy tx base Z K N M449 R9 J462 hS.2.1 a0 hz_a0 hk_a0 x466 h473 x455 k453 (iv_mono h454 (by decide) (by decide)) lg k474 sg k475 tx k476 (iv_mono h_tx (by decide) (by decide)) x158 k477 (iv_mono h155 (by decide) (by decide)) x132 k478 (iv_mono h131 (by decide) (by decide)) op k479 x157 k480 (iv_mono h154 (by decide) (by decide)) (le.toNatClampNeg) (nbo M449 op x157.toNatClampNeg + 1) z469 q481 q482 q483 z470 rfl) s_X12_227 ⟨rfl, rfl, ⟨Nat.le_of_ble_eq_true rfl, Nat.le_of_ble_eq_true rfl⟩, ⟨Nat.le_of_ble_eq_true rfl, Nat.le_of_ble_eq_true rfl⟩⟩ hz_a0 hk_a0 (by decide) rfl rfl hl.1 rfl (Nat.le_of_ble_eq_true rfl) dX12_tested_86) rfl rfl (fun H locs M487 R488 J486 hS f484 g485 E489 => ?_)
                have eR488 := Fr.nil g485 rfl
                subst eR488
                have p490 := E489
                obtain ⟨x493, x494, k495, k496, h491, h492, zr490, zg490, zf490, zz490, zl490⟩ := p490
                have k495 : M487 a0 21 = x493 := k495
                have k496 : M487 lg tx.toNatClampNeg = x494 := k496
                have zw490 := ti_cl (x := le) (by have := h_le.1; omega); have zy490 := ti_cl (x := x158) (by have := (h155).1; omega)
                have z497 : ∀ j, j < 400 * tx.toNatClampNeg + le.toNatClampNeg → M487 sg j = Ma sg j := fun j hj => (zf490 j (by omega)).trans ((fun j hj => (Fr.kpa f446 hk_sg rfl j).trans ((fun j hj => (Fr.kpa f424 hk_sg rfl j).trans ((fun j hj => (Fr.kpa f387 hk_sg rfl j).trans ((fun j hj => (Fr.kpa f170 hk_sg rfl j).trans (z162 j hj)) j hj)) j hj)) j hj)) j hj)
                have zb490 := ti_cl (x := x493) (by have := (h491).1; omega); have zc490 := ti_cl (x := x157) (by have := (h154).1; omega)
                have z501 : nbo M487 op x493.toNatClampNeg = nbo M449 op x493.toNatClampNeg := nbo_to _ (fun j _ => Fr.kpa f484 hk_op rfl j)
                have z498 : SEG M487 sg tx.toNatClampNeg le.toNatClampNeg x494.toNatClampNeg (nbo M487 op x493.toNatClampNeg + 1) := SEG.cast zg490 rfl (by rw [z501])
                have z499 : opK M487 op x493.toNatClampNeg := opK.to (opK.less z470 (by omega)) (fun j _ => Fr.kpa f484 hk_op rfl j)
                have zm490 := nbo_mono (M := M449) (op := op) x157.toNatClampNeg x493.toNatClampNeg (by omega)
                have q500 : ((nbo M487 op x493.toNatClampNeg + 1 : Nat) : Int) ≤ x132.toInt := by rw [z501]; have := q472; omega
                refine lv_aload_n hx hb dX12_tested_89 rfl (lv_at hl 2 rfl) ?_
                have k502 : R9 a0 20 = some op := (Fr.kp (k := 20) g12 hk_a0 rfl).trans k_op
                refine tw_getrk hx hb hW hown hK hS f_X12_35_11 hz_a0 hk_a0 (b := op) k502 dX12_tested_90 ?_
                refine lv_aload_n hx hb dX12_tested_93 rfl (lv_at hl 2 rfl) ?_
                refine tw_getk hx hb hW hown hK hS f_X12_188_11 hz_a0 hk_a0 (v := x493) k495 dX12_tested_94 ?_
                refine lv_iload_n hx hb dX12_tested_97 rfl (lv_at hl 0 rfl) ?_
                have h503 : iv 0 399 x493 := by
                  have := (h_le).1; have := (h_le).2; have := (h_md).1; have := (h_md).2; have := (h_nx).1; have := (h_nx).2; have := (h_tp).1; have := (h_tp).2; have := (h_tx).1; have := (h_tx).2; have := (h115).1; have := (h115).2; have := (h122).1; have := (h122).2; have := (h123).1; have := (h123).2; have := (h124).1; have := (h124).2; have := (h_x13).1; have := (h_x13).2; have := (h_x15).1; have := (h_x15).2; have := (h153).1; have := (h153).2; have := (h154).1; have := (h154).2; have := (h155).1; have := (h155).2; have := (h_x17).1; have := (h_x17).2; have := (h179).1; have := (h179).2; have := (h_x19).1; have := (h_x19).2; have := (h396).1; have := (h396).2; have := (h433).1; have := (h433).2; have := (h454).1; have := (h454).2; have := (h491).1; have := (h491).2; have := (h492).1; have := (h492).2; have := (h96).1; have := (h96).2; exact ⟨by omega, by omega⟩
                refine tw_iasx hx hb hK hS hz_op hk_op (Or.inl rfl) hn_op h503 ⟨by decide, by decide⟩ (iv_any _) (jl := 0) (jh := 1999999) ⟨by decide, by decide⟩ rfl dX12_tested_98 (fun H locs M507 hS k504 f505 e506 => ?_)
                have k508 : M507 a0 21 = x493 := (Fr.kp (k := 21) f505 hk_a0 rfl).trans k495
                refine lv_aload_n hx hb dX12_tested_99 rfl (lv_at hl 2 rfl) ?_
                refine lv_dup hx hb dX12_tested_100 rfl ?_
                refine tw_getk hx hb hW hown hK hS f_X12_188_11 hz_a0 hk_a0 (v := x493) k508 dX12_tested_101 ?_
                refine lv_iconst (v := 1) hx hb dX12_tested_104 (by decide) ?_
                refine tw_iadd (lo := 1) (hi := 400) hx hb h503 (iv_c (c := 1) (n := 1) (by decide)) ⟨by decide, by decide⟩ ⟨by decide, by decide⟩ dX12_tested_105 (fun x511 e510 h509 => ?_)
                have e510 : x511.toInt = x493.toInt + 1 := e510
                refine tw_puti hx hb hW hown hK hS f_X12_188_11 hz_a0 hk_a0 rfl rfl (lo := 0) (hi := 400) rfl (iv_mono h509 (by decide) (by decide)) rfl dX12_tested_106 (fun H locs M514 hS k512 f513 => ?_)
                have za514 := ti_cl (x := x493) (by have := (h503).1; omega); have zb514 := ti_cl (x := x511) (by have := (h509).1; omega)
                have zo514 : ∀ j, j < x493.toNatClampNeg → M514 op j = M487 op j := fun j hj => (Fr.kpa f513 hk_op rfl j).trans (by rw [e506]; exact u2_nk (by omega))
                have zv514 : M514 op x493.toNatClampNeg = 13 := (Fr.kpa f513 hk_op rfl _).trans (by rw [e506]; exact u2_same)
                have zn514 : nbo M514 op x511.toNatClampNeg = nbo M487 op x493.toNatClampNeg + 1 := by rw [nbo_two (x := x493.toNatClampNeg) (by omega) (by rw [zv514]; decide), nbo_to _ zo514]
                have z515 : SEG M514 sg tx.toNatClampNeg le.toNatClampNeg x494.toNatClampNeg (nbo M514 op x511.toNatClampNeg) := SEG.cast (SEG.to (SEG.to z498 (fun j _ _ => Fr.kpa f505 hk_sg rfl j)) (fun j _ _ => Fr.kpa f513 hk_sg rfl j)) rfl (by rw [zn514])
                have z516 : opK M514 op x511.toNatClampNeg := fun j hj => by by_cases q : j = x493.toNatClampNeg; · rw [q, zv514]; decide; · rw [zo514 j (by omega)]; exact z499 j (by omega)
                have q517 : ((nbo M514 op x511.toNatClampNeg : Nat) : Int) ≤ x132.toInt := by rw [zn514]; exact q500
                refine lv_goto (tgt := 12) hx hb dX12_tested_109 (by decide) ?_
                have k518 : M514 a0 13 = x455 := ((Fr.kp (k := 13) f513 hk_a0 rfl).trans ((Fr.kp (k := 13) f505 hk_a0 rfl).trans (Fr.kp (k := 13) f484 hk_a0 rfl))).trans k453
                have k519 : M514 lg tx.toNatClampNeg = x494 := ((Fr.kpa f513 hk_lg rfl tx.toNatClampNeg).trans (Fr.kpa f505 hk_lg rfl tx.toNatClampNeg)).trans k496
                have k520 : M514 a0 17 = x132 := ((Fr.kp (k := 17) f513 hk_a0 rfl).trans ((Fr.kp (k := 17) f505 hk_a0 rfl).trans (Fr.kp (k := 17) f484 hk_a0 rfl))).trans k478
                have w521 : nx.toInt ≤ x455.toInt ∧ x455.toInt ≤ tp.toInt ∧ x494.toInt + x511.toInt ≤ x455.toInt ∧ le.toInt ≤ x494.toInt := by
                  have := (h_le).1; have := (h_le).2; have := (h_md).1; have := (h_md).2; have := (h_nx).1; have := (h_nx).2; have := (h_tp).1; have := (h_tp).2; have := (h_tx).1; have := (h_tx).2; have := (h115).1; have := (h115).2; have := (h122).1; have := (h122).2; have := (h123).1; have := (h123).2; have := (h124).1; have := (h124).2; have := (h_x13).1; have := (h_x13).2; have := (h_x15).1; have := (h_x15).2; have := (h153).1; have := (h153).2; have := (h154).1; have := (h154).2; have := (h155).1; have := (h155).2; have := (h_x17).1; have := (h_x17).2; have := (h383).1; have := (h383).2; have := (h179).1; have := (h179).2; have := (h_x19).1; have := (h_x19).2; have := (h418).1; have := (h418).2; have := (h396).1; have := (h396).2; have := (h442).1; have := (h442).2; have := (h433).1; have := (h433).2; have := (h454).1; have := (h454).2; have := (h503).1; have := (h503).2; have := (h492).1; have := (h492).2; have := (h509).1; have := (h509).2; have := (h96).1; have := (h96).2; omega
                have w522 : ((1 : Int32).toInt = 1 ∧ SEG M514 sg tx.toNatClampNeg le.toNatClampNeg x494.toNatClampNeg (nbo M514 op x511.toNatClampNeg) ∧ ((nbo M514 op x511.toNatClampNeg : Nat) : Int) ≤ x132.toInt) ∨ ((1 : Int32).toInt = 0 ∧ SEG M514 sg tx.toNatClampNeg le.toNatClampNeg x494.toNatClampNeg (nbo M514 op x511.toNatClampNeg + 1) ∧ ((nbo M514 op x511.toNatClampNeg + 1 : Nat) : Int) ≤ x132.toInt) := Or.inl ⟨by decide, z515, q517⟩
                have w523 : ∀ j, j < 400 * tx.toNatClampNeg + le.toNatClampNeg → M514 sg j = Ma sg j := (fun j hj => (Fr.kpa f513 hk_sg rfl j).trans ((fun j hj => (Fr.kpa f505 hk_sg rfl j).trans (z497 j hj)) j hj))
                have w524 : opK M514 op x511.toNatClampNeg := z516
                have hm525 : 2 * (400 - x455.toInt) + (1 : Int32).toInt < (n_8 : Int) := by
                  have := (h_le).1; have := (h_le).2; have := (h_md).1; have := (h_md).2; have := (h_nx).1; have := (h_nx).2; have := (h_tp).1; have := (h_tp).2; have := (h_tx).1; have := (h_tx).2; have := (h115).1; have := (h115).2; have := (h122).1; have := (h122).2; have := (h123).1; have := (h123).2; have := (h124).1; have := (h124).2; have := (h_x13).1; have := (h_x13).2; have := (h_x15).1; have := (h_x15).2; have := (h153).1; have := (h153).2; have := (h154).1; have := (h154).2; have := (h155).1; have := (h155).2; have := (h_x17).1; have := (h_x17).2; have := (h383).1; have := (h383).2; have := (h179).1; have := (h179).2; have := (h_x19).1; have := (h_x19).2; have := (h418).1; have := (h418).2; have := (h396).1; have := (h396).2; have := (h442).1; have := (h442).2; have := (h433).1; have := (h433).2; have := (h454).1; have := (h454).2; have := (h503).1; have := (h503).2; have := (h492).1; have := (h492).2; have := (h96).1; have := (h96).2; have : (1 : Int32).toInt = 1 := (by decide); omega
                exact ih_8 1 x455 x511 x494 x132 M514 R9 J486 H locs _ (iv_mono (iv_c (c := 1) (n := 1) (by decide)) (by decide) (by decide)) h454 k518 (iv_mono h509 (by decide) (by decide)) k512 h492 k519 h131 k520 w521 w522 w523 w524 hm525 hS (lv_sub hl [1, 2] rfl)
              · have q526 : ¬ x430.toInt = 0 := ti_ne c440
                have h527 : iv 1 1 x430 := ⟨by have := (h_x430).1; have := ((iv_c (c := 0) (n := 0) (by decide))).1; have := ((iv_c (c := 0) (n := 0) (by decide))).2; omega, by have := (h_x430).2; have := ((iv_c (c := 0) (n := 0) (by decide))).1; have := ((iv_c (c := 0) (n := 0) (by decide))).2; omega⟩
                have z528 := z439 c440
                have q529 := z528.1
                refine lv_bipush (v := 12) hx hb dX12_tested_69 (by decide) ?_
                refine lv_goto (tgt := 76) hx hb dX12_tested_71 (by decide) ?_
                refine lv_istore_n (lv' := [(2, .int 12), (1, .int 1), (0, .ref (base + a0))]) hx hb dX12_tested_76 rfl hl (by decide) rfl (fun ls hl => ?_)
                refine lv_aload_n hx hb dX12_tested_77 rfl (lv_at hl 2 rfl) ?_
                have k530 : R9 a0 0 = some tb := (Fr.kp (k := 0) g12 hk_a0 rfl).trans k_tb
                have k531 : M427 a0 1 = tp := ((Fr.kp (k := 1) f424 hk_a0 rfl).trans ((Fr.kp (k := 1) f387 hk_a0 rfl).trans ((Fr.kp (k := 1) f170 hk_a0 rfl).trans ((Fr.kp (k := 1) f146 hk_a0 rfl).trans ((Fr.kp (k := 1) f107 hk_a0 rfl).trans (Fr.kp (k := 1) f11 hk_a0 rfl)))))).trans k_tp
                have q532 : x434.toInt ≤ tp.toInt := by
                  have := (h_le).1; have := (h_le).2; have := (h_md).1; have := (h_md).2; have := (h_nx).1; have := (h_nx).2; have := (h_tp).1; have := (h_tp).2; have := (h_tx).1; have := (h_tx).2; have := (h115).1; have := (h115).2; have := (h122).1; have := (h122).2; have := (h123).1; have := (h123).2; have := (h124).1; have := (h124).2; have := (h_x13).1; have := (h_x13).2; have := (h_x15).1; have := (h_x15).2; have := (h153).1; have := (h153).2; have := (h154).1; have := (h154).2; have := (h155).1; have := (h155).2; have := (h_x17).1; have := (h_x17).2; have := (h383).1; have := (h383).2; have := (h179).1; have := (h179).2; have := (h_x19).1; have := (h_x19).2; have := (h418).1; have := (h418).2; have := (h396).1; have := (h396).2; have := (h527).1; have := (h527).2; have := (h433).1; have := (h433).2; have := (h96).1; have := (h96).2; omega
                refine tw_gov hS (md_runV (As := []) (rest := []) hx hb hml hown hW hK hT hS.1 (t_X12_passWord l D cy tx base Z K N M427 R9 J426 hS.2.1 a0 hz_a0 hk_a0 tb k530 x434 k432 (iv_mono h433 (by decide) (by decide)) tp k531 (iv_mono h_tp (by decide) (by decide)) q532) s_X12_142 ⟨rfl, rfl, ⟨Nat.le_of_ble_eq_true rfl, Nat.le_of_ble_eq_true rfl⟩, ⟨Nat.le_of_ble_eq_true rfl, Nat.le_of_ble_eq_true rfl⟩⟩ hz_a0 hk_a0 (by decide) rfl rfl hl.1 rfl (Nat.le_of_ble_eq_true rfl) dX12_tested_78) rfl rfl (fun H locs M536 R537 J535 hS f533 g534 E538 => ?_)
                have eR537 := Fr.nil g534 rfl
                subst eR537
                have p539 := E538
                obtain ⟨x542, k540, h541, q543, z545⟩ := p539
                have k540 : M536 a0 13 = x542 := k540
                have q546 := z545 (chF.rf (chF.fr z528 hS.2.2.1 hk_tb rfl) f533 hk_tb rfl)
                refine lv_aload_n hx hb dX12_tested_81 rfl (lv_at hl 2 rfl) ?_
                refine lv_iload_n hx hb dX12_tested_82 rfl (lv_at hl 0 rfl) ?_
                refine tw_goi hS (md_runS (As := [.int 12]) (rest := [.ref (base + a0)]) hx hb hml hown hW hK hT hS.1 (t_X12_strength l D cy tx base Z K N M536 R9 J535 hS.2.1 12 (iv_mono (iv_c (c := 12) (n := 12) (by decide)) (by decide) (by decide))) s_X12_191 ⟨rfl, rfl, ⟨Nat.le_of_ble_eq_true rfl, Nat.le_of_ble_eq_true rfl⟩, ⟨Nat.le_of_ble_eq_true rfl, Nat.le_of_ble_eq_true rfl⟩⟩ rfl hl.1 rfl (Nat.le_of_ble_eq_true rfl) dX12_tested_83) rfl rfl (fun x553 H locs M550 R551 J549 hS f547 g548 E552 => ?_)
                have eM550 := Fr.nil f547 rfl
                subst eM550
                have eR551 := Fr.nil g548 rfl
                subst eR551
                obtain ⟨h_x553, p554⟩ := E552
                have q555 : (12 : Int32).toInt = 12 := (by decide)
                have z558 : nbo M536 op x157.toNatClampNeg = nbo M149 op x157.toNatClampNeg := ((nbo_to _ (fun j _ => Fr.kpa f533 hk_op rfl j)).trans ((nbo_to _ (fun j _ => Fr.kpa f424 hk_op rfl j)).trans ((nbo_to _ (fun j _ => Fr.kpa f387 hk_op rfl j)).trans (nbo_to _ (fun j _ => Fr.kpa f170 hk_op rfl j)))))
                have z556 : SEG M536 sg tx.toNatClampNeg le.toNatClampNeg x158.toNatClampNeg (nbo M536 op x157.toNatClampNeg + 1) := SEG.cast (SEG.to (SEG.to (SEG.to (SEG.to z163 (fun j _ _ => Fr.kpa f170 hk_sg rfl j)) (fun j _ _ => Fr.kpa f387 hk_sg rfl j)) (fun j _ _ => Fr.kpa f424 hk_sg rfl j)) (fun j _ _ => Fr.kpa f533 hk_sg rfl j)) rfl (by rw [z558])
                have z557 : opK M536 op x157.toNatClampNeg := (opK.to (opK.to (opK.to (opK.to z164 (fun j _ => Fr.kpa f170 hk_op rfl j)) (fun j _ => Fr.kpa f387 hk_op rfl j)) (fun j _ => Fr.kpa f424 hk_op rfl j)) (fun j _ => Fr.kpa f533 hk_op rfl j))
                have q559 : ((nbo M536 op x157.toNatClampNeg + 1 : Nat) : Int) ≤ x132.toInt := by rw [z558]; exact q165
                have h560 : iv 1 3 x553 := by
                  have := (h_le).1; have := (h_le).2; have := (h_md).1; have := (h_md).2; have := (h_nx).1; have := (h_nx).2; have := (h_tp).1; have := (h_tp).2; have := (h_tx).1; have := (h_tx).2; have := (h_x553).1; have := (h_x553).2; exact ⟨by omega, by omega⟩
                have k561 : R9 a0 4 = some lg := (Fr.kp (k := 4) g12 hk_a0 rfl).trans k_lg
                have k562 : R9 a0 3 = some sg := (Fr.kp (k := 3) g12 hk_a0 rfl).trans k_sg
                have k563 : M536 a0 16 = tx := ((Fr.kp (k := 16) f533 hk_a0 rfl).trans ((Fr.kp (k := 16) f424 hk_a0 rfl).trans ((Fr.kp (k := 16) f387 hk_a0 rfl).trans ((Fr.kp (k := 16) f170 hk_a0 rfl).trans ((Fr.kp (k := 16) f146 hk_a0 rfl).trans ((Fr.kp (k := 16) f107 hk_a0 rfl).trans (Fr.kp (k := 16) f11 hk_a0 rfl))))))).trans k_tx
                have k564 : M536 lg tx.toNatClampNeg = x158 := ((Fr.kpa f533 hk_lg rfl tx.toNatClampNeg).trans ((Fr.kpa f424 hk_lg rfl tx.toNatClampNeg).trans ((Fr.kpa f387 hk_lg rfl tx.toNatClampNeg).trans (Fr.kpa f170 hk_lg rfl tx.toNatClampNeg)))).trans k161
                have k565 : M536 a0 17 = x132 := ((Fr.kp (k := 17) f533 hk_a0 rfl).trans ((Fr.kp (k := 17) f424 hk_a0 rfl).trans ((Fr.kp (k := 17) f387 hk_a0 rfl).trans ((Fr.kp (k := 17) f170 hk_a0 rfl).trans (Fr.kp (k := 17) f146 hk_a0 rfl))))).trans k133
                have k566 : R9 a0 20 = some op := (Fr.kp (k := 20) g12 hk_a0 rfl).trans k_op
                have k567 : M536 a0 21 = x157 := ((Fr.kp (k := 21) f533 hk_a0 rfl).trans ((Fr.kp (k := 21) f424 hk_a0 rfl).trans ((Fr.kp (k := 21) f387 hk_a0 rfl).trans (Fr.kp (k := 21) f170 hk_a0 rfl)))).trans k160
                have q568 : ((le.toNatClampNeg : Nat) : Int) ≤ x158.toInt := by
                  have := (h_le).1; have := (h_le).2; have := (h_md).1; have := (h_md).2; have := (h_nx).1; have := (h_nx).2; have := (h_tp).1; have := (h_tp).2; have := (h_tx).1; have := (h_tx).2; have := (h115).1; have := (h115).2; have := (h122).1; have := (h122).2; have := (h123).1; have := (h123).2; have := (h124).1; have := (h124).2; have := (h_x13).1; have := (h_x13).2; have := (h_x15).1; have := (h_x15).2; have := (h153).1; have := (h153).2; have := (h154).1; have := (h154).2; have := (h155).1; have := (h155).2; have := (h_x17).1; have := (h_x17).2; have := (h179).1; have := (h179).2; have := (h_x19).1; have := (h_x19).2; have := (h396).1; have := (h396).2; have := (h433).1; have := (h433).2; have := (h541).1; have := (h541).2; have := (h96).1; have := (h96).2; omega
                have q569 : ((nbo M536 op x157.toNatClampNeg + 1 : Nat) : Int) ≤ x132.toInt := by
                  have := (h_le).1; have := (h_le).2; have := (h_md).1; have := (h_md).2; have := (h_nx).1; have := (h_nx).2; have := (h_tp).1; have := (h_tp).2; have := (h_tx).1; have := (h_tx).2; have := (h115).1; have := (h115).2; have := (h122).1; have := (h122).2; have := (h123).1; have := (h123).2; have := (h124).1; have := (h124).2; have := (h_x13).1; have := (h_x13).2; have := (h131).1; have := (h131).2; have := (h_x15).1; have := (h_x15).2; have := (h153).1; have := (h153).2; have := (h154).1; have := (h154).2; have := (h155).1; have := (h155).2; have := (h_x17).1; have := (h_x17).2; have := (h179).1; have := (h179).2; have := (h_x19).1; have := (h_x19).2; have := (h396).1; have := (h396).2; have := (h433).1; have := (h433).2; have := (h541).1; have := (h541).2; have := (h96).1; have := (h96).2; omega
                have q570 : x158.toInt + x157.toInt ≤ x542.toInt := by
                  have := (h_le).1; have := (h_le).2; have := (h_md).1; have := (h_md).2; have := (h_nx).1; have := (h_nx).2; have := (h_tp).1; have := (h_tp).2; have := (h_tx).1; have := (h_tx).2; have := (h115).1; have := (h115).2; have := (h122).1; have := (h122).2; have := (h123).1; have := (h123).2; have := (h124).1; have := (h124).2; have := (h_x13).1; have := (h_x13).2; have := (h_x15).1; have := (h_x15).2; have := (h153).1; have := (h153).2; have := (h154).1; have := (h154).2; have := (h155).1; have := (h155).2; have := (h_x17).1; have := (h_x17).2; have := (h383).1; have := (h383).2; have := (h179).1; have := (h179).2; have := (h_x19).1; have := (h_x19).2; have := (h418).1; have := (h418).2; have := (h396).1; have := (h396).2; have := (h527).1; have := (h527).2; have := (h433).1; have := (h433).2; have := (h541).1; have := (h541).2; have := (h96).1; have := (h96).2; omega
                refine tw_gov hS (md_runV (As := [.int x553]) (rest := []) hx hb hml hown hW hK hT hS.1 (t_X12_settles l D cy tx base Z K N M536 R9 J549 hS.2.1 a0 hz_a0 hk_a0 x553 h560 x542 k540 (iv_mono h541 (by decide) (by decide)) lg k561 sg k562 tx k563 (iv_mono h_tx (by decide) (by decide)) x158 k564 (iv_mono h155 (by decide) (by decide)) x132 k565 (iv_mono h131 (by decide) (by decide)) op k566 x157 k567 (iv_mono h154 (by decide) (by decide)) (le.toNatClampNeg) (nbo M536 op x157.toNatClampNeg + 1) z556 q568 q569 q570 z557 rfl) s_X12_227 ⟨rfl, rfl, ⟨Nat.le_of_ble_eq_true rfl, Nat.le_of_ble_eq_true rfl⟩, ⟨Nat.le_of_ble_eq_true rfl, Nat.le_of_ble_eq_true rfl⟩⟩ hz_a0 hk_a0 (by decide) rfl rfl hl.1 rfl (Nat.le_of_ble_eq_true rfl) dX12_tested_86) rfl rfl (fun H locs M574 R575 J573 hS f571 g572 E576 => ?_)
                have eR575 := Fr.nil g572 rfl
                subst eR575
                have p577 := E576
                obtain ⟨x580, x581, k582, k583, h578, h579, zr577, zg577, zf577, zz577, zl577⟩ := p577
                have k582 : M574 a0 21 = x580 := k582
                have k583 : M574 lg tx.toNatClampNeg = x581 := k583
                have zw577 := ti_cl (x := le) (by have := h_le.1; omega); have zy577 := ti_cl (x := x158) (by have := (h155).1; omega)
                have z584 : ∀ j, j < 400 * tx.toNatClampNeg + le.toNatClampNeg → M574 sg j = Ma sg j := fun j hj => (zf577 j (by omega)).trans ((fun j hj => (Fr.kpa f533 hk_sg rfl j).trans ((fun j hj => (Fr.kpa f424 hk_sg rfl j).trans ((fun j hj => (Fr.kpa f387 hk_sg rfl j).trans ((fun j hj => (Fr.kpa f170 hk_sg rfl j).trans (z162 j hj)) j hj)) j hj)) j hj)) j hj)
                have zb577 := ti_cl (x := x580) (by have := (h578).1; omega); have zc577 := ti_cl (x := x157) (by have := (h154).1; omega)
                have z588 : nbo M574 op x580.toNatClampNeg = nbo M536 op x580.toNatClampNeg := nbo_to _ (fun j _ => Fr.kpa f571 hk_op rfl j)
                have z585 : SEG M574 sg tx.toNatClampNeg le.toNatClampNeg x581.toNatClampNeg (nbo M574 op x580.toNatClampNeg + 1) := SEG.cast zg577 rfl (by rw [z588])
                have z586 : opK M574 op x580.toNatClampNeg := opK.to (opK.less z557 (by omega)) (fun j _ => Fr.kpa f571 hk_op rfl j)
                have zm577 := nbo_mono (M := M536) (op := op) x157.toNatClampNeg x580.toNatClampNeg (by omega)
                have q587 : ((nbo M574 op x580.toNatClampNeg + 1 : Nat) : Int) ≤ x132.toInt := by rw [z588]; have := q559; omega
                refine lv_aload_n hx hb dX12_tested_89 rfl (lv_at hl 2 rfl) ?_
                have k589 : R9 a0 20 = some op := (Fr.kp (k := 20) g12 hk_a0 rfl).trans k_op
                refine tw_getrk hx hb hW hown hK hS f_X12_35_11 hz_a0 hk_a0 (b := op) k589 dX12_tested_90 ?_
                refine lv_aload_n hx hb dX12_tested_93 rfl (lv_at hl 2 rfl) ?_
                refine tw_getk hx hb hW hown hK hS f_X12_188_11 hz_a0 hk_a0 (v := x580) k582 dX12_tested_94 ?_
                refine lv_iload_n hx hb dX12_tested_97 rfl (lv_at hl 0 rfl) ?_
                have h590 : iv 0 399 x580 := by
                  have := (h_le).1; have := (h_le).2; have := (h_md).1; have := (h_md).2; have := (h_nx).1; have := (h_nx).2; have := (h_tp).1; have := (h_tp).2; have := (h_tx).1; have := (h_tx).2; have := (h115).1; have := (h115).2; have := (h122).1; have := (h122).2; have := (h123).1; have := (h123).2; have := (h124).1; have := (h124).2; have := (h_x13).1; have := (h_x13).2; have := (h_x15).1; have := (h_x15).2; have := (h153).1; have := (h153).2; have := (h154).1; have := (h154).2; have := (h155).1; have := (h155).2; have := (h_x17).1; have := (h_x17).2; have := (h179).1; have := (h179).2; have := (h_x19).1; have := (h_x19).2; have := (h396).1; have := (h396).2; have := (h433).1; have := (h433).2; have := (h541).1; have := (h541).2; have := (h578).1; have := (h578).2; have := (h579).1; have := (h579).2; have := (h96).1; have := (h96).2; exact ⟨by omega, by omega⟩
                refine tw_iasx hx hb hK hS hz_op hk_op (Or.inl rfl) hn_op h590 ⟨by decide, by decide⟩ (iv_any _) (jl := 0) (jh := 1999999) ⟨by decide, by decide⟩ rfl dX12_tested_98 (fun H locs M594 hS k591 f592 e593 => ?_)
                have k595 : M594 a0 21 = x580 := (Fr.kp (k := 21) f592 hk_a0 rfl).trans k582
                refine lv_aload_n hx hb dX12_tested_99 rfl (lv_at hl 2 rfl) ?_
                refine lv_dup hx hb dX12_tested_100 rfl ?_
                refine tw_getk hx hb hW hown hK hS f_X12_188_11 hz_a0 hk_a0 (v := x580) k595 dX12_tested_101 ?_
                refine lv_iconst (v := 1) hx hb dX12_tested_104 (by decide) ?_
                refine tw_iadd (lo := 1) (hi := 400) hx hb h590 (iv_c (c := 1) (n := 1) (by decide)) ⟨by decide, by decide⟩ ⟨by decide, by decide⟩ dX12_tested_105 (fun x598 e597 h596 => ?_)
                have e597 : x598.toInt = x580.toInt + 1 := e597
                refine tw_puti hx hb hW hown hK hS f_X12_188_11 hz_a0 hk_a0 rfl rfl (lo := 0) (hi := 400) rfl (iv_mono h596 (by decide) (by decide)) rfl dX12_tested_106 (fun H locs M601 hS k599 f600 => ?_)
                have za601 := ti_cl (x := x580) (by have := (h590).1; omega); have zb601 := ti_cl (x := x598) (by have := (h596).1; omega)
                have zo601 : ∀ j, j < x580.toNatClampNeg → M601 op j = M574 op j := fun j hj => (Fr.kpa f600 hk_op rfl j).trans (by rw [e593]; exact u2_nk (by omega))
                have zv601 : M601 op x580.toNatClampNeg = 12 := (Fr.kpa f600 hk_op rfl _).trans (by rw [e593]; exact u2_same)
                have zn601 : nbo M601 op x598.toNatClampNeg = nbo M574 op x580.toNatClampNeg + 1 := by rw [nbo_two (x := x580.toNatClampNeg) (by omega) (by rw [zv601]; decide), nbo_to _ zo601]
                have z602 : SEG M601 sg tx.toNatClampNeg le.toNatClampNeg x581.toNatClampNeg (nbo M601 op x598.toNatClampNeg) := SEG.cast (SEG.to (SEG.to z585 (fun j _ _ => Fr.kpa f592 hk_sg rfl j)) (fun j _ _ => Fr.kpa f600 hk_sg rfl j)) rfl (by rw [zn601])
                have z603 : opK M601 op x598.toNatClampNeg := fun j hj => by by_cases q : j = x580.toNatClampNeg; · rw [q, zv601]; decide; · rw [zo601 j (by omega)]; exact z586 j (by omega)
                have q604 : ((nbo M601 op x598.toNatClampNeg : Nat) : Int) ≤ x132.toInt := by rw [zn601]; exact q587
                refine lv_goto (tgt := 12) hx hb dX12_tested_109 (by decide) ?_
                have k605 : M601 a0 13 = x542 := ((Fr.kp (k := 13) f600 hk_a0 rfl).trans ((Fr.kp (k := 13) f592 hk_a0 rfl).trans (Fr.kp (k := 13) f571 hk_a0 rfl))).trans k540
                have k606 : M601 lg tx.toNatClampNeg = x581 := ((Fr.kpa f600 hk_lg rfl tx.toNatClampNeg).trans (Fr.kpa f592 hk_lg rfl tx.toNatClampNeg)).trans k583
                have k607 : M601 a0 17 = x132 := ((Fr.kp (k := 17) f600 hk_a0 rfl).trans ((Fr.kp (k := 17) f592 hk_a0 rfl).trans (Fr.kp (k := 17) f571 hk_a0 rfl))).trans k565
                have w608 : nx.toInt ≤ x542.toInt ∧ x542.toInt ≤ tp.toInt ∧ x581.toInt + x598.toInt ≤ x542.toInt ∧ le.toInt ≤ x581.toInt := by
                  have := (h_le).1; have := (h_le).2; have := (h_md).1; have := (h_md).2; have := (h_nx).1; have := (h_nx).2; have := (h_tp).1; have := (h_tp).2; have := (h_tx).1; have := (h_tx).2; have := (h115).1; have := (h115).2; have := (h122).1; have := (h122).2; have := (h123).1; have := (h123).2; have := (h124).1; have := (h124).2; have := (h_x13).1; have := (h_x13).2; have := (h_x15).1; have := (h_x15).2; have := (h153).1; have := (h153).2; have := (h154).1; have := (h154).2; have := (h155).1; have := (h155).2; have := (h_x17).1; have := (h_x17).2; have := (h383).1; have := (h383).2; have := (h179).1; have := (h179).2; have := (h_x19).1; have := (h_x19).2; have := (h418).1; have := (h418).2; have := (h396).1; have := (h396).2; have := (h527).1; have := (h527).2; have := (h433).1; have := (h433).2; have := (h541).1; have := (h541).2; have := (h590).1; have := (h590).2; have := (h579).1; have := (h579).2; have := (h596).1; have := (h596).2; have := (h96).1; have := (h96).2; omega
                have w609 : ((1 : Int32).toInt = 1 ∧ SEG M601 sg tx.toNatClampNeg le.toNatClampNeg x581.toNatClampNeg (nbo M601 op x598.toNatClampNeg) ∧ ((nbo M601 op x598.toNatClampNeg : Nat) : Int) ≤ x132.toInt) ∨ ((1 : Int32).toInt = 0 ∧ SEG M601 sg tx.toNatClampNeg le.toNatClampNeg x581.toNatClampNeg (nbo M601 op x598.toNatClampNeg + 1) ∧ ((nbo M601 op x598.toNatClampNeg + 1 : Nat) : Int) ≤ x132.toInt) := Or.inl ⟨by decide, z602, q604⟩
                have w610 : ∀ j, j < 400 * tx.toNatClampNeg + le.toNatClampNeg → M601 sg j = Ma sg j := (fun j hj => (Fr.kpa f600 hk_sg rfl j).trans ((fun j hj => (Fr.kpa f592 hk_sg rfl j).trans (z584 j hj)) j hj))
                have w611 : opK M601 op x598.toNatClampNeg := z603
                have hm612 : 2 * (400 - x542.toInt) + (1 : Int32).toInt < (n_8 : Int) := by
                  have := (h_le).1; have := (h_le).2; have := (h_md).1; have := (h_md).2; have := (h_nx).1; have := (h_nx).2; have := (h_tp).1; have := (h_tp).2; have := (h_tx).1; have := (h_tx).2; have := (h115).1; have := (h115).2; have := (h122).1; have := (h122).2; have := (h123).1; have := (h123).2; have := (h124).1; have := (h124).2; have := (h_x13).1; have := (h_x13).2; have := (h_x15).1; have := (h_x15).2; have := (h153).1; have := (h153).2; have := (h154).1; have := (h154).2; have := (h155).1; have := (h155).2; have := (h_x17).1; have := (h_x17).2; have := (h383).1; have := (h383).2; have := (h179).1; have := (h179).2; have := (h_x19).1; have := (h_x19).2; have := (h418).1; have := (h418).2; have := (h396).1; have := (h396).2; have := (h527).1; have := (h527).2; have := (h433).1; have := (h433).2; have := (h541).1; have := (h541).2; have := (h590).1; have := (h590).2; have := (h579).1; have := (h579).2; have := (h96).1; have := (h96).2; have : (1 : Int32).toInt = 1 := (by decide); omega
                exact ih_8 1 x542 x598 x581 x132 M601 R9 J573 H locs _ (iv_mono (iv_c (c := 1) (n := 1) (by decide)) (by decide) (by decide)) h541 k605 (iv_mono h596 (by decide) (by decide)) k599 h579 k606 h131 k607 w608 w609 w610 w611 hm612 hS (lv_sub hl [1, 2] rfl)
        · have q613 : x113.toInt = 0 := ti_eq c119
          have h614 : iv 0 0 x113 := ⟨by have := (h_x113).1; have := ((iv_c (c := 0) (n := 0) (by decide))).1; omega, by have := (h_x113).2; have := ((iv_c (c := 0) (n := 0) (by decide))).2; omega⟩
          refine lv_iconst (v := 0) hx hb dX12_tested_23 (by decide) ?_
          have q615 : nx.toInt ≤ x116.toInt ∧ x116.toInt ≤ tp.toInt := by
            have := (h_le).1; have := (h_le).2; have := (h_md).1; have := (h_md).2; have := (h_nx).1; have := (h_nx).2; have := (h_tp).1; have := (h_tp).2; have := (h_tx).1; have := (h_tx).2; have := (h115).1; have := (h115).2; have := (h_x13).1; have := (h_x13).2; have := (h_x15).1; have := (h_x15).2; have := (h_x17).1; have := (h_x17).2; have := (h_x19).1; have := (h_x19).2; have := (h96).1; have := (h96).2; omega
          exact tw_endz hx hb hr hlocks hK hT hS hQ rfl (⟨(iv_mono (iv_c (c := 0) (n := 0) (by decide)) (by decide) (by decide)), ⟨⟨x116, k117, h115, q615.1, q615.2⟩, z118, (fun h => absurd rfl h)⟩⟩) dX12_tested_24
  have k616 : M6 a0 13 = nx := ((Fr.kp (k := 13) f5 hk_a0 rfl).trans (Fr.kp (k := 13) f2 hk_a0 rfl)).trans k_nx
  have k617 : M6 a0 21 = 0 := (Fr.kp (k := 21) f5 hk_a0 rfl).trans k1
  have k618 : M6 lg tx.toNatClampNeg = le := ((Fr.kpa f5 hk_lg rfl tx.toNatClampNeg).trans (Fr.kpa f2 hk_lg rfl tx.toNatClampNeg)).trans k_le
  have k619 : M6 a0 17 = md := ((Fr.kp (k := 17) f5 hk_a0 rfl).trans (Fr.kp (k := 17) f2 hk_a0 rfl)).trans k_md
  have w620 : nx.toInt ≤ nx.toInt ∧ nx.toInt ≤ tp.toInt ∧ le.toInt + (0 : Int32).toInt ≤ nx.toInt ∧ le.toInt ≤ le.toInt := by
    have := (h_le).1; have := (h_le).2; have := (h_md).1; have := (h_md).2; have := (h_nx).1; have := (h_nx).2; have := (h_tp).1; have := (h_tp).2; have := (h_tx).1; have := (h_tx).2; have : (0 : Int32).toInt = 0 := (by decide); omega
  have w621 : ((1 : Int32).toInt = 1 ∧ SEG M6 sg tx.toNatClampNeg le.toNatClampNeg le.toNatClampNeg (nbo M6 op (0 : Int32).toNatClampNeg) ∧ ((nbo M6 op (0 : Int32).toNatClampNeg : Nat) : Int) ≤ md.toInt) ∨ ((1 : Int32).toInt = 0 ∧ SEG M6 sg tx.toNatClampNeg le.toNatClampNeg le.toNatClampNeg (nbo M6 op (0 : Int32).toNatClampNeg + 1) ∧ ((nbo M6 op (0 : Int32).toNatClampNeg + 1 : Nat) : Int) ≤ md.toInt) := Or.inl ⟨by decide, SEG.new, by have := h_md.1; show ((0 : Nat) : Int) ≤ _; omega⟩
  have w622 : ∀ j, j < 400 * tx.toNatClampNeg + le.toNatClampNeg → M6 sg j = Ma sg j := (fun j hj => (Fr.kpa f5 hk_sg rfl j).trans ((fun j hj => (Fr.kpa f2 hk_sg rfl j).trans ((fun j _ => rfl) j hj)) j hj))
  have w623 : opK M6 op (0 : Int32).toNatClampNeg := fun j hj => absurd hj (by have : (0 : Int32).toNatClampNeg = 0 := (by decide); omega)
  have hm624 : 2 * (400 - nx.toInt) + (1 : Int32).toInt < (((802 : Nat) : Int) : Int) := by
    have := (h_le).1; have := (h_le).2; have := (h_md).1; have := (h_md).2; have := (h_nx).1; have := (h_nx).2; have := (h_tp).1; have := (h_tp).2; have := (h_tx).1; have := (h_tx).2; have : (1 : Int32).toInt = 1 := (by decide); omega
  exact W12_8 802 1 nx 0 le md M6 Ra Ja H locs _ (iv_mono (iv_c (c := 1) (n := 1) (by decide)) (by decide) (by decide)) h_nx k616 (iv_mono (iv_c (c := 0) (n := 0) (by decide)) (by decide) (by decide)) k617 h_le k618 h_md k619 w620 w621 w622 w623 hm624 hS hl
