def Lt_X12_tested : WL := [(12, 13, 16), (12, 17, 19), (12, 21, 22), (14, 0, 2000000), (25, 0, 2000000), (26, 0, 2000000)]
def LRt_X12_tested : WL := []
set_option maxRecDepth 100000 in
set_option maxHeartbeats 4000000 in
theorem t_X12_tested (l : Launch) (D : va_G) (cy : Nat → ClassId) (tx : (Nat → Nat) × (Nat → Nat)) (base Z : Nat) (K N : Nat → Nat) (Ma : MT) (Ra : RT) (Ja : JT) (hTy : Ty Z K N Ma Ra) (a0 : Nat) (hz_a0 : a0 < Z) (hk_a0 : K a0 = 12) (tb : Nat) (k_tb : Ra a0 0 = some tb) (nx : Int32) (k_nx : Ma a0 13 = nx) (h_nx : iv 0 400 nx) (tp : Int32) (k_tp : Ma a0 1 = tp) (h_tp : iv 0 400 tp) (hnt : nx.toInt ≤ tp.toInt) (lg : Nat) (k_lg : Ra a0 4 = some lg) (sg : Nat) (k_sg : Ra a0 3 = some sg) (tq : Int32) (k_tq : Ma a0 16 = tq) (h_tq : iv 0 5 tq) (le : Int32) (k_le : Ma lg tq.toNatClampNeg = le) (h_le : iv 0 400 le) (md : Int32) (k_md : Ma a0 17 = md) (h_md : iv 0 60 md) (op : Nat) (k_op : Ra a0 20 = some op) (hle : le.toInt ≤ nx.toInt) : Met l yX12_tested [Cond.code yX12_tested cX12_tested 3 (some .boolean)] (md_rm 9 0 0) (va_Pc [.ref (base + a0)] (md_U D cy tx base Z K N Ma Ra Ja)) (mQi D cy tx base (fun r u => TP Z K N Lt_X12_tested LRt_X12_tested Ma Ra u ∧ (iv 0 1 r ∧ ((∃ x0 : Int32, u.2.2.2.1 a0 13 = x0 ∧ iv 0 400 x0 ∧ nx.toInt ≤ x0.toInt ∧ x0.toInt ≤ tp.toInt) ∧ (∀ j, j < 400 * tq.toNatClampNeg + le.toNatClampNeg → u.2.2.2.1 sg j = Ma sg j) ∧ (¬ r = 0 → ∃ x0 x2 : Int32, u.2.2.2.1 a0 13 = x0 ∧ u.2.2.2.1 lg tq.toNatClampNeg = x2 ∧ iv 0 400 x2 ∧ le.toInt ≤ x2.toInt ∧ x2.toInt ≤ x0.toInt ∧ SEG u.2.2.2.1 sg tq.toNatClampNeg le.toNatClampNeg x2.toNatClampNeg 1)) ∧ (r = 0 → ¬ (u.2.2.2.1 a0 14).toInt = 0)))) 0 0 (fun q => base ≤ q) := by
  refine tw_ofW (L := Lt_X12_tested) (LR := LRt_X12_tested) (by decide) (Nat.le_of_ble_eq_true rfl) hTy ?_
  intro p e s m args below meth c Q ls hx hb hr hlocks hown hml hW hK hT hS hQ hl
  have hl : lv_has ls 3 [(0, .ref (base + a0))] := hl
  obtain ⟨hz_tb, hk_tb, hn_tb⟩ := hTy.refn hz_a0 hk_a0 (show rtR 12 0 = (13, 400, 0) from rfl) k_tb
  have hn_tb := hn_tb (by decide)
  obtain ⟨hz_lg, hk_lg, hn_lg⟩ := hTy.refn hz_a0 hk_a0 (show rtR 12 4 = (26, 7, 0) from rfl) k_lg
  have hn_lg := hn_lg (by decide)
  obtain ⟨hz_sg, hk_sg, hn_sg⟩ := hTy.refn hz_a0 hk_a0 (show rtR 12 3 = (25, 2400, 0) from rfl) k_sg
  have hn_sg := hn_sg (by decide)
  obtain ⟨hz_op, hk_op, hn_op⟩ := hTy.refn hz_a0 hk_a0 (show rtR 12 20 = (14, 400, 0) from rfl) k_op
  have hn_op := hn_op (by decide)
  refine lv_aload_n hx hb dX12_tested_0 rfl (lv_at hl 0 rfl) ?_
  refine lv_iconst (v := 0) hx hb dX12_tested_1 (by decide) ?_
  refine tw_puti hx hb hW hown hK hS f_X12_188_11 hz_a0 hk_a0 rfl rfl (lo := 0) (hi := 400) rfl (iv_mono (iv_c (c := 0) (n := 0) (by decide)) (by decide) (by decide)) rfl dX12_tested_2 (fun H locs M3 hS k1 f2 => ?_)
  refine lv_aload_n hx hb dX12_tested_5 rfl (lv_at hl 0 rfl) ?_
  refine lv_iconst (v := 0) hx hb dX12_tested_6 (by decide) ?_
  refine tw_puti hx hb hW hown hK hS f_X12_185_11 hz_a0 hk_a0 rfl rfl (lo := (-2147483648)) (hi := 2147483647) rfl (iv_mono (iv_c (c := 0) (n := 0) (by decide)) (by decide) (by decide)) rfl dX12_tested_7 (fun H locs M6 hS k4 f5 => ?_)
  refine lv_iconst (v := 1) hx hb dX12_tested_10 (by decide) ?_
  refine lv_istore_n (lv' := [(1, .int 1), (0, .ref (base + a0))]) hx hb dX12_tested_11 rfl hl (by decide) rfl (fun ls hl => ?_)
  have W12_8 : ∀ (n_8 : Nat) (x7 : Int32) (x13 : Int32) (x15 : Int32) (x17 : Int32) (x19 : Int32) (M8 : MT) (R9 : RT) (J10 : JT) (H : Heap) (locs : List Loc) (ls : Array Slot) (h_x7 : iv 0 1 x7) (h_x13 : iv 0 400 x13) (k14 : M8 a0 13 = x13) (h_x15 : iv 0 400 x15) (k16 : M8 a0 21 = x15) (h_x17 : iv 0 400 x17) (k18 : M8 lg tq.toNatClampNeg = x17) (h_x19 : iv 0 60 x19) (k20 : M8 a0 17 = x19) (w0_8 : nx.toInt ≤ x13.toInt ∧ x13.toInt ≤ tp.toInt ∧ x17.toInt + x15.toInt ≤ x13.toInt ∧ le.toInt ≤ x17.toInt) (w1_8 : (x7.toInt = 1 ∧ SEG M8 sg tq.toNatClampNeg le.toNatClampNeg x17.toNatClampNeg (nbo M8 op x15.toNatClampNeg) ∧ ((nbo M8 op x15.toNatClampNeg : Nat) : Int) ≤ x19.toInt) ∨ (x7.toInt = 0 ∧ SEG M8 sg tq.toNatClampNeg le.toNatClampNeg x17.toNatClampNeg (nbo M8 op x15.toNatClampNeg + 1) ∧ ((nbo M8 op x15.toNatClampNeg + 1 : Nat) : Int) ≤ x19.toInt)) (w2_8 : ∀ j, j < 400 * tq.toNatClampNeg + le.toNatClampNeg → M8 sg j = Ma sg j) (w3_8 : opK M8 op x15.toNatClampNeg) (hm_8 : 2 * (400 - x13.toInt) + x7.toInt < (n_8 : Int)) (hS : SB D cy base Z K N Lt_X12_tested LRt_X12_tested Ma Ra M8 R9 J10 s H locs) (hl : lv_has ls 3 [(1, .int x7), (0, .ref (base + a0))]), W p l e (md_rm 9 0 0) s m args below meth c H locs 0 0 Q (F0 m 12 ls []) := by
    intro n_8
    induction n_8 with
    | zero =>
      intro x7 x13 x15 x17 x19 M8 R9 J10 H locs ls h_x7 h_x13 k14 h_x15 k16 h_x17 k18 h_x19 k20 w0_8 w1_8 w2_8 w3_8 hm_8 hS hl
      exfalso
      have := (h_le).1; have := (h_le).2; have := (h_md).1; have := (h_md).2; have := (h_nx).1; have := (h_nx).2; have := (h_tp).1; have := (h_tp).2; have := (h_tq).1; have := (h_tq).2; have := (h_x13).1; have := (h_x13).2; have := (h_x15).1; have := (h_x15).2; have := (h_x17).1; have := (h_x17).2; have := (h_x19).1; have := (h_x19).2; have := (h_x7).1; have := (h_x7).2; omega
    | succ n_8 ih_8 =>
      intro x7 x13 x15 x17 x19 M8 R9 J10 H locs ls h_x7 h_x13 k14 h_x15 k16 h_x17 k18 h_x19 k20 w0_8 w1_8 w2_8 w3_8 hm_8 hS hl
      have f11 := hS.2.2.1
      have g12 := hS.2.2.2
      refine lv_iload_n hx hb dX12_tested_12 rfl (lv_at hl 0 rfl) ?_
      refine lv_if_eq (tgt := 112) hx hb dX12_tested_13 (by decide) (fun c21 => ?_) (fun c21 => ?_)
      · have q22 : x7.toInt = 0 := ti_eq c21
        have h23 : iv 0 0 x7 := ⟨by have := (h_x7).1; have := ((iv_c (c := 0) (n := 0) (by decide))).1; omega, by have := (h_x7).2; have := ((iv_c (c := 0) (n := 0) (by decide))).2; omega⟩
        obtain ⟨-, zg23, zb23⟩ := w1_8.resolve_left (fun q => by have := q.1; omega)
        refine lv_aload_n hx hb dX12_tested_112 rfl (lv_at hl 1 rfl) ?_
        have k24 : R9 a0 20 = some op := (Fr.kp (k := 20) g12 hk_a0 rfl).trans k_op
        refine tw_goi hS (md_runV (As := []) (rest := []) hx hb hml hown hW hK hT hS.1 (t_X12_isInside l D cy tx base Z K N M8 R9 J10 hS.2.1 a0 hz_a0 hk_a0 op k24 x15 k16 (iv_mono h_x15 (by decide) (by decide))) s_X12_230 ⟨rfl, rfl, ⟨Nat.le_of_ble_eq_true rfl, Nat.le_of_ble_eq_true rfl⟩, ⟨Nat.le_of_ble_eq_true rfl, Nat.le_of_ble_eq_true rfl⟩⟩ hz_a0 hk_a0 (by decide) rfl rfl hl.1 rfl (Nat.le_of_ble_eq_true rfl) dX12_tested_113) rfl rfl (fun x31 H locs M28 R29 J27 hS f25 g26 E30 => ?_)
        have eM28 := Fr.nil f25 rfl
        subst eM28
        have eR29 := Fr.nil g26 rfl
        subst eR29
        obtain ⟨h_x31, p32⟩ := E30
        refine lv_if_eq (tgt := 134) hx hb dX12_tested_116 (by decide) (fun c33 => ?_) (fun c33 => ?_)
        · have q34 : x31.toInt = 0 := ti_eq c33
          have z35 := p32.1 c33
          have h36 : iv 0 0 x31 := ⟨by have := (h_x31).1; have := ((iv_c (c := 0) (n := 0) (by decide))).1; omega, by have := (h_x31).2; have := ((iv_c (c := 0) (n := 0) (by decide))).2; omega⟩
          refine lv_aload_n hx hb dX12_tested_134 rfl (lv_at hl 1 rfl) ?_
          refine lv_iconst (v := 1) hx hb dX12_tested_135 (by decide) ?_
          have k37 : R9 a0 4 = some lg := (Fr.kp (k := 4) g12 hk_a0 rfl).trans k_lg
          have k38 : R9 a0 3 = some sg := (Fr.kp (k := 3) g12 hk_a0 rfl).trans k_sg
          have k39 : M8 a0 16 = tq := (Fr.kp (k := 16) f11 hk_a0 rfl).trans k_tq
          have k40 : R9 a0 20 = some op := (Fr.kp (k := 20) g12 hk_a0 rfl).trans k_op
          have q41 : ((le.toNatClampNeg : Nat) : Int) ≤ x17.toInt := by
            have := (h_le).1; have := (h_le).2; have := (h_md).1; have := (h_md).2; have := (h_nx).1; have := (h_nx).2; have := (h_tp).1; have := (h_tp).2; have := (h_tq).1; have := (h_tq).2; have := (h_x13).1; have := (h_x13).2; have := (h_x15).1; have := (h_x15).2; have := (h_x17).1; have := (h_x17).2; have := (h_x19).1; have := (h_x19).2; have := (h23).1; have := (h23).2; have := ti_cl (x := le) (by omega); omega
          have q42 : ((nbo M8 op x15.toNatClampNeg + 1 : Nat) : Int) ≤ x19.toInt := by
            have := (h_le).1; have := (h_le).2; have := (h_md).1; have := (h_md).2; have := (h_nx).1; have := (h_nx).2; have := (h_tp).1; have := (h_tp).2; have := (h_tq).1; have := (h_tq).2; have := (h_x13).1; have := (h_x13).2; have := (h_x15).1; have := (h_x15).2; have := (h_x17).1; have := (h_x17).2; have := (h_x19).1; have := (h_x19).2; have := (h23).1; have := (h23).2; omega
          have q43 : x17.toInt + x15.toInt ≤ x13.toInt := by
            have := (h_le).1; have := (h_le).2; have := (h_md).1; have := (h_md).2; have := (h_nx).1; have := (h_nx).2; have := (h_tp).1; have := (h_tp).2; have := (h_tq).1; have := (h_tq).2; have := (h_x13).1; have := (h_x13).2; have := (h_x15).1; have := (h_x15).2; have := (h_x17).1; have := (h_x17).2; have := (h_x19).1; have := (h_x19).2; have := (h23).1; have := (h23).2; omega
          refine tw_gov hS (md_runV (As := [.int 1]) (rest := []) hx hb hml hown hW hK hT hS.1 (t_X12_settles l D cy tx base Z K N M8 R9 J27 hS.2.1 a0 hz_a0 hk_a0 1 (iv_mono (iv_c (c := 1) (n := 1) (by decide)) (by decide) (by decide)) x13 k14 (iv_mono h_x13 (by decide) (by decide)) lg k37 sg k38 tq k39 (iv_mono h_tq (by decide) (by decide)) x17 k18 (iv_mono h_x17 (by decide) (by decide)) x19 k20 (iv_mono h_x19 (by decide) (by decide)) op k40 x15 k16 (iv_mono h_x15 (by decide) (by decide)) (le.toNatClampNeg) (nbo M8 op x15.toNatClampNeg + 1) zg23 q41 q42 q43 w3_8 rfl) s_X12_227 ⟨rfl, rfl, ⟨Nat.le_of_ble_eq_true rfl, Nat.le_of_ble_eq_true rfl⟩, ⟨Nat.le_of_ble_eq_true rfl, Nat.le_of_ble_eq_true rfl⟩⟩ hz_a0 hk_a0 (by decide) rfl rfl hl.1 rfl (Nat.le_of_ble_eq_true rfl) dX12_tested_136) rfl rfl (fun H locs M47 R48 J46 hS f44 g45 E49 => ?_)
          have eR48 := Fr.nil g45 rfl
          subst eR48
          have p50 := E49
          clear E49
          obtain ⟨x53, x54, k55, k56, h51, h52, zr50, zg50, zf50, zz50, zl50⟩ := p50
          have k55 : M47 a0 21 = x53 := k55
          have k56 : M47 lg tq.toNatClampNeg = x54 := k56
          have zw50 := ti_cl (x := le) (by have := h_le.1; omega); have zy50 := ti_cl (x := x17) (by have := (h_x17).1; omega)
          have z57 : ∀ j, j < 400 * tq.toNatClampNeg + le.toNatClampNeg → M47 sg j = Ma sg j := fun j hj => (zf50 j (by omega)).trans (w2_8 j hj)
          have zb50 := ti_cl (x := x53) (by have := (h51).1; omega); have zc50 := ti_cl (x := x15) (by have := (h_x15).1; omega)
          have z61 : nbo M47 op x53.toNatClampNeg = nbo M8 op x53.toNatClampNeg := nbo_to _ (fun j _ => Fr.kpa f44 hk_op rfl j)
          have z58 : SEG M47 sg tq.toNatClampNeg le.toNatClampNeg x54.toNatClampNeg (nbo M47 op x53.toNatClampNeg + 1) := SEG.cast zg50 rfl (by rw [z61])
          have z59 : opK M47 op x53.toNatClampNeg := opK.to (opK.less w3_8 (by omega)) (fun j _ => Fr.kpa f44 hk_op rfl j)
          have zm50 := nbo_mono (M := M8) (op := op) x15.toNatClampNeg x53.toNatClampNeg (by omega)
          have q60 : ((nbo M47 op x53.toNatClampNeg + 1 : Nat) : Int) ≤ x19.toInt := by rw [z61]; have := zb23; omega
          refine lv_iconst (v := 1) hx hb dX12_tested_139 (by decide) ?_
          have k62 : M47 a0 13 = x13 := (Fr.kp (k := 13) f44 hk_a0 rfl).trans k14
          have q63 : nx.toInt ≤ x13.toInt ∧ x13.toInt ≤ tp.toInt := by
            have := (h_le).1; have := (h_le).2; have := (h_md).1; have := (h_md).2; have := (h_nx).1; have := (h_nx).2; have := (h_tp).1; have := (h_tp).2; have := (h_tq).1; have := (h_tq).2; have := (h_x13).1; have := (h_x13).2; have := (h_x15).1; have := (h_x15).2; have := (h_x17).1; have := (h_x17).2; have := (h_x19).1; have := (h_x19).2; have := (h51).1; have := (h51).2; have := (h52).1; have := (h52).2; have := (h23).1; have := (h23).2; exact ⟨by omega, by omega⟩
          have zp50 : x53.toInt = 0 := by rcases zl50 with q | q | ⟨k, q1, q2⟩; (· exact q); (· exact absurd (by decide) q); (· exact absurd q2 (z35 k (by omega)))
          have z64 : SEG M47 sg tq.toNatClampNeg le.toNatClampNeg x54.toNatClampNeg 1 := SEG.cast z58 rfl (by rw [show x53.toNatClampNeg = 0 by omega]; rfl)
          have q65 : le.toInt ≤ x54.toInt ∧ x54.toInt ≤ x13.toInt := by
            have := (h_le).1; have := (h_le).2; have := (h_md).1; have := (h_md).2; have := (h_nx).1; have := (h_nx).2; have := (h_tp).1; have := (h_tp).2; have := (h_tq).1; have := (h_tq).2; have := (h_x13).1; have := (h_x13).2; have := (h_x15).1; have := (h_x15).2; have := (h_x17).1; have := (h_x17).2; have := (h_x19).1; have := (h_x19).2; have := (h51).1; have := (h51).2; have := (h52).1; have := (h52).2; have := (h23).1; have := (h23).2; exact ⟨by omega, by omega⟩
          exact tw_endz hx hb hr hlocks hK hT hS hQ rfl (⟨(iv_mono (iv_c (c := 1) (n := 1) (by decide)) (by decide) (by decide)), ⟨⟨x13, k62, h_x13, q63.1, q63.2⟩, z57, fun _ => ⟨x13, x54, k62, k56, h52, q65.1, q65.2, z64⟩⟩, (fun h => absurd h (by decide))⟩) dX12_tested_140
        · have q66 : ¬ x31.toInt = 0 := ti_ne c33
          have h67 : iv 1 1 x31 := ⟨by have := (h_x31).1; have := ((iv_c (c := 0) (n := 0) (by decide))).1; have := ((iv_c (c := 0) (n := 0) (by decide))).2; omega, by have := (h_x31).2; have := ((iv_c (c := 0) (n := 0) (by decide))).1; have := ((iv_c (c := 0) (n := 0) (by decide))).2; omega⟩
          have z68 := p32.2 c33
          refine lv_aload_n hx hb dX12_tested_119 rfl (lv_at hl 1 rfl) ?_
          have k69 : R9 a0 0 = some tb := (Fr.kp (k := 0) g12 hk_a0 rfl).trans k_tb
          have k70 : M8 a0 1 = tp := (Fr.kp (k := 1) f11 hk_a0 rfl).trans k_tp
          have q71 : x13.toInt ≤ tp.toInt := by
            have := (h_le).1; have := (h_le).2; have := (h_md).1; have := (h_md).2; have := (h_nx).1; have := (h_nx).2; have := (h_tp).1; have := (h_tp).2; have := (h_tq).1; have := (h_tq).2; have := (h_x13).1; have := (h_x13).2; have := (h_x15).1; have := (h_x15).2; have := (h_x17).1; have := (h_x17).2; have := (h_x19).1; have := (h_x19).2; have := (h23).1; have := (h23).2; omega
          refine tw_goi hS (md_runV (As := []) (rest := []) hx hb hml hown hW hK hT hS.1 (t_X12_see l D cy tx base Z K N M8 R9 J27 hS.2.1 a0 hz_a0 hk_a0 tb k69 x13 k14 (iv_mono h_x13 (by decide) (by decide)) tp k70 (iv_mono h_tp (by decide) (by decide)) q71) s_X12_130 ⟨rfl, rfl, ⟨Nat.le_of_ble_eq_true rfl, Nat.le_of_ble_eq_true rfl⟩, ⟨Nat.le_of_ble_eq_true rfl, Nat.le_of_ble_eq_true rfl⟩⟩ hz_a0 hk_a0 (by decide) rfl rfl hl.1 rfl (Nat.le_of_ble_eq_true rfl) dX12_tested_120) rfl rfl (fun x78 H locs M75 R76 J74 hS f72 g73 E77 => ?_)
          have eR76 := Fr.nil g73 rfl
          subst eR76
          obtain ⟨h_x78, p79⟩ := E77
          obtain ⟨x82, k80, h81, q83, z84, z85⟩ := p79
          have k80 : M75 a0 13 = x82 := k80
          have z85 : ∀ j : Nat, j = x82.toNatClampNeg → x78.toInt = -1 ∨ ¬ (M75 tb j).toInt = 32 := z85
          refine lv_pop hx hb dX12_tested_123 rfl ?_
          refine lv_aload_n hx hb dX12_tested_124 rfl (lv_at hl 1 rfl) ?_
          refine lv_iconst (v := 0) hx hb dX12_tested_125 (by decide) ?_
          refine lv_aload_n hx hb dX12_tested_126 rfl (lv_at hl 1 rfl) ?_
          refine tw_getk hx hb hW hown hK hS f_X12_127_11 hz_a0 hk_a0 (v := x82) k80 dX12_tested_127 ?_
          refine tw_goi hS (md_runV (As := [.int 0, .int x82]) (rest := []) hx hb hml hown hW hK hT hS.1 (t_X12_fails l D cy tx base Z K N M75 R9 J74 hS.2.1 a0 hz_a0 hk_a0 0 (iv_mono (iv_c (c := 0) (n := 0) (by decide)) (by decide) (by decide)) x82 h81) s_X12_148 ⟨rfl, rfl, ⟨Nat.le_of_ble_eq_true rfl, Nat.le_of_ble_eq_true rfl⟩, ⟨Nat.le_of_ble_eq_true rfl, Nat.le_of_ble_eq_true rfl⟩⟩ hz_a0 hk_a0 (by decide) rfl rfl hl.1 rfl (Nat.le_of_ble_eq_true rfl) dX12_tested_130) rfl rfl (fun x92 H locs M89 R90 J88 hS f86 g87 E91 => ?_)
          have eR90 := Fr.nil g87 rfl
          subst eR90
          obtain ⟨h_x92, p93⟩ := E91
          have z94 : x92 = 0 → ¬ (M89 a0 14).toInt = 0 := p93
          have z95 := z94 (iv0 h_x92)
          have k96 : M89 a0 13 = x82 := (Fr.kp (k := 13) f86 hk_a0 rfl).trans k80
          have q97 : nx.toInt ≤ x82.toInt ∧ x82.toInt ≤ tp.toInt := by
            have := (h_le).1; have := (h_le).2; have := (h_md).1; have := (h_md).2; have := (h_nx).1; have := (h_nx).2; have := (h_tp).1; have := (h_tp).2; have := (h_tq).1; have := (h_tq).2; have := (h_x13).1; have := (h_x13).2; have := (h_x15).1; have := (h_x15).2; have := (h_x17).1; have := (h_x17).2; have := (h_x19).1; have := (h_x19).2; have := (h23).1; have := (h23).2; have := (h_x78).1; have := (h_x78).2; have := (h81).1; have := (h81).2; exact ⟨by omega, by omega⟩
          exact tw_endz hx hb hr hlocks hK hT hS hQ (nar_b (iv_mono h_x92 (by decide) (by decide))) (⟨(iv_mono h_x92 (by decide) (by decide)), ⟨⟨x82, k96, h81, q97.1, q97.2⟩, (fun j hj => (Fr.kpa f86 hk_sg rfl j).trans ((fun j hj => (Fr.kpa f72 hk_sg rfl j).trans (w2_8 j hj)) j hj)), (fun h => absurd (iv0 h_x92) h)⟩, (fun _ => (show ¬ (M89 a0 14).toInt = 0 from z95))⟩) dX12_tested_133
      · have q98 : ¬ x7.toInt = 0 := ti_ne c21
        have h99 : iv 1 1 x7 := ⟨by have := (h_x7).1; have := ((iv_c (c := 0) (n := 0) (by decide))).1; have := ((iv_c (c := 0) (n := 0) (by decide))).2; omega, by have := (h_x7).2; have := ((iv_c (c := 0) (n := 0) (by decide))).1; have := ((iv_c (c := 0) (n := 0) (by decide))).2; omega⟩
        refine lv_aload_n hx hb dX12_tested_16 rfl (lv_at hl 1 rfl) ?_
        obtain ⟨-, zg99, zb99⟩ := w1_8.resolve_right (fun q => by have := q.1; omega)
        have k100 : R9 a0 0 = some tb := (Fr.kp (k := 0) g12 hk_a0 rfl).trans k_tb
        have k101 : M8 a0 1 = tp := (Fr.kp (k := 1) f11 hk_a0 rfl).trans k_tp
        have q102 : x13.toInt ≤ tp.toInt := by
          have := (h_le).1; have := (h_le).2; have := (h_md).1; have := (h_md).2; have := (h_nx).1; have := (h_nx).2; have := (h_tp).1; have := (h_tp).2; have := (h_tq).1; have := (h_tq).2; have := (h_x13).1; have := (h_x13).2; have := (h_x15).1; have := (h_x15).2; have := (h_x17).1; have := (h_x17).2; have := (h_x19).1; have := (h_x19).2; have := (h99).1; have := (h99).2; omega
        have k103 : R9 a0 4 = some lg := (Fr.kp (k := 4) g12 hk_a0 rfl).trans k_lg
        have k104 : R9 a0 3 = some sg := (Fr.kp (k := 3) g12 hk_a0 rfl).trans k_sg
        have k105 : M8 a0 16 = tq := (Fr.kp (k := 16) f11 hk_a0 rfl).trans k_tq
        have k106 : R9 a0 20 = some op := (Fr.kp (k := 20) g12 hk_a0 rfl).trans k_op
        have q107 : ((le.toNatClampNeg : Nat) : Int) ≤ x17.toInt := by
          have := (h_le).1; have := (h_le).2; have := (h_md).1; have := (h_md).2; have := (h_nx).1; have := (h_nx).2; have := (h_tp).1; have := (h_tp).2; have := (h_tq).1; have := (h_tq).2; have := (h_x13).1; have := (h_x13).2; have := (h_x15).1; have := (h_x15).2; have := (h_x17).1; have := (h_x17).2; have := (h_x19).1; have := (h_x19).2; have := (h99).1; have := (h99).2; have := ti_cl (x := le) (by omega); omega
        have q108 : ((nbo M8 op x15.toNatClampNeg : Nat) : Int) ≤ x19.toInt := by
          have := (h_le).1; have := (h_le).2; have := (h_md).1; have := (h_md).2; have := (h_nx).1; have := (h_nx).2; have := (h_tp).1; have := (h_tp).2; have := (h_tq).1; have := (h_tq).2; have := (h_x13).1; have := (h_x13).2; have := (h_x15).1; have := (h_x15).2; have := (h_x17).1; have := (h_x17).2; have := (h_x19).1; have := (h_x19).2; have := (h99).1; have := (h99).2; omega
        have q109 : x17.toInt + x15.toInt ≤ x13.toInt := by
          have := (h_le).1; have := (h_le).2; have := (h_md).1; have := (h_md).2; have := (h_nx).1; have := (h_nx).2; have := (h_tp).1; have := (h_tp).2; have := (h_tq).1; have := (h_tq).2; have := (h_x13).1; have := (h_x13).2; have := (h_x15).1; have := (h_x15).2; have := (h_x17).1; have := (h_x17).2; have := (h_x19).1; have := (h_x19).2; have := (h99).1; have := (h99).2; omega
        refine tw_goi hS (md_runV (As := []) (rest := []) hx hb hml hown hW hK hT hS.1 (t_X12_fact l D cy tx base Z K N M8 R9 J10 hS.2.1 a0 hz_a0 hk_a0 tb k100 x13 k14 (iv_mono h_x13 (by decide) (by decide)) tp k101 (iv_mono h_tp (by decide) (by decide)) q102 lg k103 sg k104 tq k105 (iv_mono h_tq (by decide) (by decide)) x17 k18 (iv_mono h_x17 (by decide) (by decide)) x19 k20 (iv_mono h_x19 (by decide) (by decide)) op k106 x15 k16 (iv_mono h_x15 (by decide) (by decide)) (le.toNatClampNeg) (nbo M8 op x15.toNatClampNeg) zg99 q107 q108 q109 w3_8 rfl) s_X12_233 ⟨rfl, rfl, ⟨Nat.le_of_ble_eq_true rfl, Nat.le_of_ble_eq_true rfl⟩, ⟨Nat.le_of_ble_eq_true rfl, Nat.le_of_ble_eq_true rfl⟩⟩ hz_a0 hk_a0 (by decide) rfl rfl hl.1 rfl (Nat.le_of_ble_eq_true rfl) dX12_tested_17) rfl rfl (fun x116 H locs M113 R114 J112 hS f110 g111 E115 => ?_)
        have eR114 := Fr.nil g111 rfl
        subst eR114
        obtain ⟨h_x116, p117, p118⟩ := E115
        obtain ⟨⟨x120, k121, h119, zu118, zv118⟩, zf118, zc118⟩ := p117
        have k121 : M113 a0 13 = x120 := k121
        have zw118 := ti_cl (x := le) (by have := h_le.1; omega); have zy118 := ti_cl (x := x17) (by have := (h_x17).1; omega)
        have z122 : ∀ j, j < 400 * tq.toNatClampNeg + le.toNatClampNeg → M113 sg j = Ma sg j := fun j hj => (zf118 j (by omega)).trans (w2_8 j hj)
        have z123 : x116 = 0 → ¬ (M113 a0 14).toInt = 0 := p118
        refine lv_if_ne (tgt := 25) hx hb dX12_tested_20 (by decide) (fun c124 => ?_) (fun c124 => ?_)
        · have q125 : ¬ x116.toInt = 0 := ti_ne c124
          have h126 : iv 1 1 x116 := ⟨by have := (h_x116).1; have := ((iv_c (c := 0) (n := 0) (by decide))).1; have := ((iv_c (c := 0) (n := 0) (by decide))).2; omega, by have := (h_x116).2; have := ((iv_c (c := 0) (n := 0) (by decide))).1; have := ((iv_c (c := 0) (n := 0) (by decide))).2; omega⟩
          obtain ⟨x130, x131, x132, x137, k133, k134, k135, k138, h127, h128, h129, zr126, zg126, zn126, zo126⟩ := zc118 c124
          have k133 : M113 a0 13 = x130 := k133
          have k134 : M113 a0 21 = x131 := k134
          have k135 : M113 lg tq.toNatClampNeg = x132 := k135
          have k138 : M113 a0 17 = x137 := k138
          have h136 : iv 0 60 x137 := by rw [← k138]; exact hS.2.1.int hz_a0 hk_a0 (show rgI 12 17 = (0, 60) from rfl)
          have z139 : SEG M113 sg tq.toNatClampNeg le.toNatClampNeg x132.toNatClampNeg (nbo M113 op x131.toNatClampNeg + 1) := SEG.cast zg126 rfl (by rw [zn126])
          have q140 : ((nbo M113 op x131.toNatClampNeg + 1 : Nat) : Int) ≤ x137.toInt := by rw [zn126]; exact zr126.2.2.2.2
          refine lv_aload_n hx hb dX12_tested_25 rfl (lv_at hl 1 rfl) ?_
          have k141 : R9 a0 0 = some tb := (Fr.kp (k := 0) g12 hk_a0 rfl).trans k_tb
          have k142 : M113 a0 1 = tp := ((Fr.kp (k := 1) f110 hk_a0 rfl).trans (Fr.kp (k := 1) f11 hk_a0 rfl)).trans k_tp
          have q143 : x130.toInt ≤ tp.toInt := by
            have := (h_le).1; have := (h_le).2; have := (h_md).1; have := (h_md).2; have := (h_nx).1; have := (h_nx).2; have := (h_tp).1; have := (h_tp).2; have := (h_tq).1; have := (h_tq).2; have := (h119).1; have := (h119).2; have := (h_x13).1; have := (h_x13).2; have := (h127).1; have := (h127).2; have := (h128).1; have := (h128).2; have := (h129).1; have := (h129).2; have := (h_x15).1; have := (h_x15).2; have := (h_x17).1; have := (h_x17).2; have := (h_x19).1; have := (h_x19).2; have := (h99).1; have := (h99).2; omega
          have k144 : R9 a0 4 = some lg := (Fr.kp (k := 4) g12 hk_a0 rfl).trans k_lg
          have k145 : R9 a0 3 = some sg := (Fr.kp (k := 3) g12 hk_a0 rfl).trans k_sg
          have k146 : M113 a0 16 = tq := ((Fr.kp (k := 16) f110 hk_a0 rfl).trans (Fr.kp (k := 16) f11 hk_a0 rfl)).trans k_tq
          have k147 : R9 a0 20 = some op := (Fr.kp (k := 20) g12 hk_a0 rfl).trans k_op
          have q148 : ((le.toNatClampNeg : Nat) : Int) ≤ x132.toInt := by
            have := (h_le).1; have := (h_le).2; have := (h_md).1; have := (h_md).2; have := (h_nx).1; have := (h_nx).2; have := (h_tp).1; have := (h_tp).2; have := (h_tq).1; have := (h_tq).2; have := (h119).1; have := (h119).2; have := (h_x13).1; have := (h_x13).2; have := (h127).1; have := (h127).2; have := (h128).1; have := (h128).2; have := (h129).1; have := (h129).2; have := (h_x15).1; have := (h_x15).2; have := (h_x17).1; have := (h_x17).2; have := (h_x19).1; have := (h_x19).2; have := (h99).1; have := (h99).2; have := ti_cl (x := le) (by omega); omega
          have q149 : ((nbo M113 op x131.toNatClampNeg + 1 : Nat) : Int) ≤ x137.toInt := by
            have := (h_le).1; have := (h_le).2; have := (h_md).1; have := (h_md).2; have := (h_nx).1; have := (h_nx).2; have := (h_tp).1; have := (h_tp).2; have := (h_tq).1; have := (h_tq).2; have := (h119).1; have := (h119).2; have := (h_x13).1; have := (h_x13).2; have := (h127).1; have := (h127).2; have := (h128).1; have := (h128).2; have := (h129).1; have := (h129).2; have := (h136).1; have := (h136).2; have := (h_x15).1; have := (h_x15).2; have := (h_x17).1; have := (h_x17).2; have := (h_x19).1; have := (h_x19).2; have := (h99).1; have := (h99).2; omega
          have q150 : x132.toInt + x131.toInt ≤ x130.toInt := by
            have := (h_le).1; have := (h_le).2; have := (h_md).1; have := (h_md).2; have := (h_nx).1; have := (h_nx).2; have := (h_tp).1; have := (h_tp).2; have := (h_tq).1; have := (h_tq).2; have := (h119).1; have := (h119).2; have := (h_x13).1; have := (h_x13).2; have := (h127).1; have := (h127).2; have := (h128).1; have := (h128).2; have := (h129).1; have := (h129).2; have := (h_x15).1; have := (h_x15).2; have := (h_x17).1; have := (h_x17).2; have := (h_x19).1; have := (h_x19).2; have := (h99).1; have := (h99).2; omega
          refine tw_gov hS (md_runV (As := []) (rest := []) hx hb hml hown hW hK hT hS.1 (t_X12_closes l D cy tx base Z K N M113 R9 J112 hS.2.1 a0 hz_a0 hk_a0 tb k141 x130 k133 (iv_mono h127 (by decide) (by decide)) tp k142 (iv_mono h_tp (by decide) (by decide)) q143 lg k144 sg k145 tq k146 (iv_mono h_tq (by decide) (by decide)) x132 k135 (iv_mono h129 (by decide) (by decide)) x137 k138 (iv_mono h136 (by decide) (by decide)) op k147 x131 k134 (iv_mono h128 (by decide) (by decide)) (le.toNatClampNeg) (nbo M113 op x131.toNatClampNeg + 1) z139 q148 q149 q150 zo126 rfl) s_X12_236 ⟨rfl, rfl, ⟨Nat.le_of_ble_eq_true rfl, Nat.le_of_ble_eq_true rfl⟩, ⟨Nat.le_of_ble_eq_true rfl, Nat.le_of_ble_eq_true rfl⟩⟩ hz_a0 hk_a0 (by decide) rfl rfl hl.1 rfl (Nat.le_of_ble_eq_true rfl) dX12_tested_26) rfl rfl (fun H locs M154 R155 J153 hS f151 g152 E156 => ?_)
          have eR155 := Fr.nil g152 rfl
          subst eR155
          have p157 := E156
          clear E156
          obtain ⟨x161, x162, x163, k164, k165, k166, h158, h159, h160, zr157, zg157, zf157⟩ := p157
          have k164 : M154 a0 13 = x161 := k164
          have k165 : M154 a0 21 = x162 := k165
          have k166 : M154 lg tq.toNatClampNeg = x163 := k166
          have zw157 := ti_cl (x := le) (by have := h_le.1; omega); have zy157 := ti_cl (x := x132) (by have := (h129).1; omega)
          have z167 : ∀ j, j < 400 * tq.toNatClampNeg + le.toNatClampNeg → M154 sg j = Ma sg j := fun j hj => (zf157 j (by omega)).trans (z122 j hj)
          have zb157 := ti_cl (x := x162) (by have := (h159).1; omega); have zc157 := ti_cl (x := x131) (by have := (h128).1; omega)
          have z171 : nbo M154 op x162.toNatClampNeg = nbo M113 op x162.toNatClampNeg := nbo_to _ (fun j _ => Fr.kpa f151 hk_op rfl j)
          have z168 : SEG M154 sg tq.toNatClampNeg le.toNatClampNeg x163.toNatClampNeg (nbo M154 op x162.toNatClampNeg + 1) := SEG.cast zg157 rfl (by rw [z171])
          have z169 : opK M154 op x162.toNatClampNeg := opK.to (opK.less zo126 (by omega)) (fun j _ => Fr.kpa f151 hk_op rfl j)
          have zm157 := nbo_mono (M := M113) (op := op) x131.toNatClampNeg x162.toNatClampNeg (by omega)
          have q170 : ((nbo M154 op x162.toNatClampNeg + 1 : Nat) : Int) ≤ x137.toInt := by rw [z171]; have := q140; omega
          refine lv_aload_n hx hb dX12_tested_29 rfl (lv_at hl 1 rfl) ?_
          refine lv_ldc2 hx hb hown (hW _ w_7_127 rfl) dX12_tested_30 ?_
          have k172 : R9 a0 0 = some tb := (Fr.kp (k := 0) g12 hk_a0 rfl).trans k_tb
          have k173 : M154 a0 1 = tp := ((Fr.kp (k := 1) f151 hk_a0 rfl).trans ((Fr.kp (k := 1) f110 hk_a0 rfl).trans (Fr.kp (k := 1) f11 hk_a0 rfl))).trans k_tp
          have q174 : x161.toInt ≤ tp.toInt := by
            have := (h_le).1; have := (h_le).2; have := (h_md).1; have := (h_md).2; have := (h_nx).1; have := (h_nx).2; have := (h_tp).1; have := (h_tp).2; have := (h_tq).1; have := (h_tq).2; have := (h119).1; have := (h119).2; have := (h_x13).1; have := (h_x13).2; have := (h127).1; have := (h127).2; have := (h128).1; have := (h128).2; have := (h129).1; have := (h129).2; have := (h_x15).1; have := (h_x15).2; have := (h158).1; have := (h158).2; have := (h159).1; have := (h159).2; have := (h160).1; have := (h160).2; have := (h_x17).1; have := (h_x17).2; have := (h_x19).1; have := (h_x19).2; have := (h99).1; have := (h99).2; omega
          refine tw_goi hS (md_runV (As := [.long 6385252]) (rest := []) hx hb hml hown hW hK hT hS.1 (t_X12_isWord l D cy tx base Z K N M154 R9 J153 hS.2.1 a0 hz_a0 hk_a0 (6385252) tb k172 x161 k164 (iv_mono h158 (by decide) (by decide)) tp k173 (iv_mono h_tp (by decide) (by decide)) q174) s_X12_138 ⟨rfl, rfl, ⟨Nat.le_of_ble_eq_true rfl, Nat.le_of_ble_eq_true rfl⟩, ⟨Nat.le_of_ble_eq_true rfl, Nat.le_of_ble_eq_true rfl⟩⟩ hz_a0 hk_a0 (by decide) rfl rfl hl.1 rfl (Nat.le_of_ble_eq_true rfl) dX12_tested_33) rfl rfl (fun x181 H locs M178 R179 J177 hS f175 g176 E180 => ?_)
          have eR179 := Fr.nil g176 rfl
          subst eR179
          obtain ⟨h_x181, p182⟩ := E180
          obtain ⟨x185, k183, h184, q186, z187, z188⟩ := p182
          have k183 : M178 a0 13 = x185 := k183
          have z189 : ¬ x181 = 0 → chF 97 122 Ma tb x185 tp := fun h => chF.rf (chF.fr (z188 h) f175 hk_tb rfl) hS.2.2.1 hk_tb rfl
          refine lv_if_ne (tgt := 49) hx hb dX12_tested_36 (by decide) (fun c190 => ?_) (fun c190 => ?_)
          · have q191 : ¬ x181.toInt = 0 := ti_ne c190
            have h192 : iv 1 1 x181 := ⟨by have := (h_x181).1; have := ((iv_c (c := 0) (n := 0) (by decide))).1; have := ((iv_c (c := 0) (n := 0) (by decide))).2; omega, by have := (h_x181).2; have := ((iv_c (c := 0) (n := 0) (by decide))).1; have := ((iv_c (c := 0) (n := 0) (by decide))).2; omega⟩
            have z193 := z189 c190
            have q194 := z193.1
            refine lv_iconst (v := 1) hx hb dX12_tested_49 (by decide) ?_
            refine lv_goto (tgt := 54) hx hb dX12_tested_50 (by decide) ?_
            refine lv_istore_n (lv' := [(1, .int 1), (0, .ref (base + a0))]) hx hb dX12_tested_54 rfl hl (by decide) rfl (fun ls hl => ?_)
            refine lv_iload_n hx hb dX12_tested_55 rfl (lv_at hl 0 rfl) ?_
            refine lv_if_eq (tgt := 12) hx hb dX12_tested_56 (by decide) (fun h => absurd h (by decide)) (fun _ => ?_)
            refine lv_aload_n hx hb dX12_tested_59 rfl (lv_at hl 1 rfl) ?_
            refine lv_ldc2 hx hb hown (hW _ w_7_127 rfl) dX12_tested_60 ?_
            have k195 : R9 a0 0 = some tb := (Fr.kp (k := 0) g12 hk_a0 rfl).trans k_tb
            have k196 : M178 a0 1 = tp := ((Fr.kp (k := 1) f175 hk_a0 rfl).trans ((Fr.kp (k := 1) f151 hk_a0 rfl).trans ((Fr.kp (k := 1) f110 hk_a0 rfl).trans (Fr.kp (k := 1) f11 hk_a0 rfl)))).trans k_tp
            have q197 : x185.toInt ≤ tp.toInt := by
              have := (h_le).1; have := (h_le).2; have := (h_md).1; have := (h_md).2; have := (h_nx).1; have := (h_nx).2; have := (h_tp).1; have := (h_tp).2; have := (h_tq).1; have := (h_tq).2; have := (h119).1; have := (h119).2; have := (h_x13).1; have := (h_x13).2; have := (h127).1; have := (h127).2; have := (h128).1; have := (h128).2; have := (h129).1; have := (h129).2; have := (h_x15).1; have := (h_x15).2; have := (h158).1; have := (h158).2; have := (h159).1; have := (h159).2; have := (h160).1; have := (h160).2; have := (h_x17).1; have := (h_x17).2; have := (h192).1; have := (h192).2; have := (h184).1; have := (h184).2; have := (h_x19).1; have := (h_x19).2; have := (h99).1; have := (h99).2; omega
            refine tw_goi hS (md_runV (As := [.long 6385252]) (rest := []) hx hb hml hown hW hK hT hS.1 (t_X12_isWord l D cy tx base Z K N M178 R9 J177 hS.2.1 a0 hz_a0 hk_a0 (6385252) tb k195 x185 k183 (iv_mono h184 (by decide) (by decide)) tp k196 (iv_mono h_tp (by decide) (by decide)) q197) s_X12_138 ⟨rfl, rfl, ⟨Nat.le_of_ble_eq_true rfl, Nat.le_of_ble_eq_true rfl⟩, ⟨Nat.le_of_ble_eq_true rfl, Nat.le_of_ble_eq_true rfl⟩⟩ hz_a0 hk_a0 (by decide) rfl rfl hl.1 rfl (Nat.le_of_ble_eq_true rfl) dX12_tested_63) rfl rfl (fun x204 H locs M201 R202 J200 hS f198 g199 E203 => ?_)
            have eR202 := Fr.nil g199 rfl
            subst eR202
            obtain ⟨h_x204, p205⟩ := E203
            obtain ⟨x208, k206, h207, q209, z210, z211⟩ := p205
            have k206 : M201 a0 13 = x208 := k206
            have zNz212 := chF.rf (chF.fr z193 hS.2.2.1 hk_tb rfl) f198 hk_tb rfl
            have z212 : chF 97 122 Ma tb x208 tp := z193.at (z210 _ rfl ⟨zNz212.1, fun e => by have := zNz212.2.1; omega⟩)
            have z213 : ¬ x204 = 0 → chF 97 122 Ma tb x208 tp := fun h => chF.rf (chF.fr (z211 h) f198 hk_tb rfl) hS.2.2.1 hk_tb rfl
            refine lv_if_eq (tgt := 74) hx hb dX12_tested_66 (by decide) (fun c214 => ?_) (fun c214 => ?_)
            · have q215 : x204.toInt = 0 := ti_eq c214
              have h216 : iv 0 0 x204 := ⟨by have := (h_x204).1; have := ((iv_c (c := 0) (n := 0) (by decide))).1; omega, by have := (h_x204).2; have := ((iv_c (c := 0) (n := 0) (by decide))).2; omega⟩
              refine lv_bipush (v := 13) hx hb dX12_tested_74 (by decide) ?_
              refine lv_istore_n (lv' := [(2, .int 13), (1, .int 1), (0, .ref (base + a0))]) hx hb dX12_tested_76 rfl hl (by decide) rfl (fun ls hl => ?_)
              refine lv_aload_n hx hb dX12_tested_77 rfl (lv_at hl 2 rfl) ?_
              have k217 : R9 a0 0 = some tb := (Fr.kp (k := 0) g12 hk_a0 rfl).trans k_tb
              have k218 : M201 a0 1 = tp := ((Fr.kp (k := 1) f198 hk_a0 rfl).trans ((Fr.kp (k := 1) f175 hk_a0 rfl).trans ((Fr.kp (k := 1) f151 hk_a0 rfl).trans ((Fr.kp (k := 1) f110 hk_a0 rfl).trans (Fr.kp (k := 1) f11 hk_a0 rfl))))).trans k_tp
              have q219 : x208.toInt ≤ tp.toInt := by
                have := (h_le).1; have := (h_le).2; have := (h_md).1; have := (h_md).2; have := (h_nx).1; have := (h_nx).2; have := (h_tp).1; have := (h_tp).2; have := (h_tq).1; have := (h_tq).2; have := (h119).1; have := (h119).2; have := (h_x13).1; have := (h_x13).2; have := (h127).1; have := (h127).2; have := (h128).1; have := (h128).2; have := (h129).1; have := (h129).2; have := (h_x15).1; have := (h_x15).2; have := (h158).1; have := (h158).2; have := (h159).1; have := (h159).2; have := (h160).1; have := (h160).2; have := (h_x17).1; have := (h_x17).2; have := (h192).1; have := (h192).2; have := (h184).1; have := (h184).2; have := (h_x19).1; have := (h_x19).2; have := (h216).1; have := (h216).2; have := (h207).1; have := (h207).2; have := (h99).1; have := (h99).2; omega
              refine tw_gov hS (md_runV (As := []) (rest := []) hx hb hml hown hW hK hT hS.1 (t_X12_passWord l D cy tx base Z K N M201 R9 J200 hS.2.1 a0 hz_a0 hk_a0 tb k217 x208 k206 (iv_mono h207 (by decide) (by decide)) tp k218 (iv_mono h_tp (by decide) (by decide)) q219) s_X12_142 ⟨rfl, rfl, ⟨Nat.le_of_ble_eq_true rfl, Nat.le_of_ble_eq_true rfl⟩, ⟨Nat.le_of_ble_eq_true rfl, Nat.le_of_ble_eq_true rfl⟩⟩ hz_a0 hk_a0 (by decide) rfl rfl hl.1 rfl (Nat.le_of_ble_eq_true rfl) dX12_tested_78) rfl rfl (fun H locs M223 R224 J222 hS f220 g221 E225 => ?_)
              have eR224 := Fr.nil g221 rfl
              subst eR224
              have p226 := E225
              clear E225
              obtain ⟨x229, k227, h228, q230, z232⟩ := p226
              have k227 : M223 a0 13 = x229 := k227
              have q233 := z232 (chF.rf (chF.fr z212 hS.2.2.1 hk_tb rfl) f220 hk_tb rfl)
              refine lv_aload_n hx hb dX12_tested_81 rfl (lv_at hl 2 rfl) ?_
              refine lv_iload_n hx hb dX12_tested_82 rfl (lv_at hl 0 rfl) ?_
              refine tw_goi hS (md_runS (As := [.int 13]) (rest := [.ref (base + a0)]) hx hb hml hown hW hK hT hS.1 (t_X12_strength l D cy tx base Z K N M223 R9 J222 hS.2.1 13 (iv_mono (iv_c (c := 13) (n := 13) (by decide)) (by decide) (by decide))) s_X12_191 ⟨rfl, rfl, ⟨Nat.le_of_ble_eq_true rfl, Nat.le_of_ble_eq_true rfl⟩, ⟨Nat.le_of_ble_eq_true rfl, Nat.le_of_ble_eq_true rfl⟩⟩ rfl hl.1 rfl (Nat.le_of_ble_eq_true rfl) dX12_tested_83) rfl rfl (fun x240 H locs M237 R238 J236 hS f234 g235 E239 => ?_)
              have eM237 := Fr.nil f234 rfl
              subst eM237
              have eR238 := Fr.nil g235 rfl
              subst eR238
              obtain ⟨h_x240, p241⟩ := E239
              have q242 : (13 : Int32).toInt = 13 := (by decide)
              have z245 : nbo M223 op x162.toNatClampNeg = nbo M154 op x162.toNatClampNeg := ((nbo_to _ (fun j _ => Fr.kpa f220 hk_op rfl j)).trans ((nbo_to _ (fun j _ => Fr.kpa f198 hk_op rfl j)).trans (nbo_to _ (fun j _ => Fr.kpa f175 hk_op rfl j))))
              have z243 : SEG M223 sg tq.toNatClampNeg le.toNatClampNeg x163.toNatClampNeg (nbo M223 op x162.toNatClampNeg + 1) := SEG.cast (SEG.to (SEG.to (SEG.to z168 (fun j _ _ => Fr.kpa f175 hk_sg rfl j)) (fun j _ _ => Fr.kpa f198 hk_sg rfl j)) (fun j _ _ => Fr.kpa f220 hk_sg rfl j)) rfl (by rw [z245])
              have z244 : opK M223 op x162.toNatClampNeg := (opK.to (opK.to (opK.to z169 (fun j _ => Fr.kpa f175 hk_op rfl j)) (fun j _ => Fr.kpa f198 hk_op rfl j)) (fun j _ => Fr.kpa f220 hk_op rfl j))
              have q246 : ((nbo M223 op x162.toNatClampNeg + 1 : Nat) : Int) ≤ x137.toInt := by rw [z245]; exact q170
              have h247 : iv 1 3 x240 := by
                have := (h_le).1; have := (h_le).2; have := (h_md).1; have := (h_md).2; have := (h_nx).1; have := (h_nx).2; have := (h_tp).1; have := (h_tp).2; have := (h_tq).1; have := (h_tq).2; have := (h_x240).1; have := (h_x240).2; exact ⟨by omega, by omega⟩
              have k248 : R9 a0 4 = some lg := (Fr.kp (k := 4) g12 hk_a0 rfl).trans k_lg
              have k249 : R9 a0 3 = some sg := (Fr.kp (k := 3) g12 hk_a0 rfl).trans k_sg
              have k250 : M223 a0 16 = tq := ((Fr.kp (k := 16) f220 hk_a0 rfl).trans ((Fr.kp (k := 16) f198 hk_a0 rfl).trans ((Fr.kp (k := 16) f175 hk_a0 rfl).trans ((Fr.kp (k := 16) f151 hk_a0 rfl).trans ((Fr.kp (k := 16) f110 hk_a0 rfl).trans (Fr.kp (k := 16) f11 hk_a0 rfl)))))).trans k_tq
              have k251 : M223 lg tq.toNatClampNeg = x163 := ((Fr.kpa f220 hk_lg rfl tq.toNatClampNeg).trans ((Fr.kpa f198 hk_lg rfl tq.toNatClampNeg).trans (Fr.kpa f175 hk_lg rfl tq.toNatClampNeg))).trans k166
              have k252 : M223 a0 17 = x137 := ((Fr.kp (k := 17) f220 hk_a0 rfl).trans ((Fr.kp (k := 17) f198 hk_a0 rfl).trans ((Fr.kp (k := 17) f175 hk_a0 rfl).trans (Fr.kp (k := 17) f151 hk_a0 rfl)))).trans k138
              have k253 : R9 a0 20 = some op := (Fr.kp (k := 20) g12 hk_a0 rfl).trans k_op
              have k254 : M223 a0 21 = x162 := ((Fr.kp (k := 21) f220 hk_a0 rfl).trans ((Fr.kp (k := 21) f198 hk_a0 rfl).trans (Fr.kp (k := 21) f175 hk_a0 rfl))).trans k165
              have q255 : ((le.toNatClampNeg : Nat) : Int) ≤ x163.toInt := by
                have := (h_le).1; have := (h_le).2; have := (h_md).1; have := (h_md).2; have := (h_nx).1; have := (h_nx).2; have := (h_tp).1; have := (h_tp).2; have := (h_tq).1; have := (h_tq).2; have := (h119).1; have := (h119).2; have := (h_x13).1; have := (h_x13).2; have := (h127).1; have := (h127).2; have := (h128).1; have := (h128).2; have := (h129).1; have := (h129).2; have := (h_x15).1; have := (h_x15).2; have := (h158).1; have := (h158).2; have := (h159).1; have := (h159).2; have := (h160).1; have := (h160).2; have := (h_x17).1; have := (h_x17).2; have := (h184).1; have := (h184).2; have := (h_x19).1; have := (h_x19).2; have := (h207).1; have := (h207).2; have := (h228).1; have := (h228).2; have := (h99).1; have := (h99).2; have := ti_cl (x := le) (by omega); omega
              have q256 : ((nbo M223 op x162.toNatClampNeg + 1 : Nat) : Int) ≤ x137.toInt := by
                have := (h_le).1; have := (h_le).2; have := (h_md).1; have := (h_md).2; have := (h_nx).1; have := (h_nx).2; have := (h_tp).1; have := (h_tp).2; have := (h_tq).1; have := (h_tq).2; have := (h119).1; have := (h119).2; have := (h_x13).1; have := (h_x13).2; have := (h127).1; have := (h127).2; have := (h128).1; have := (h128).2; have := (h129).1; have := (h129).2; have := (h136).1; have := (h136).2; have := (h_x15).1; have := (h_x15).2; have := (h158).1; have := (h158).2; have := (h159).1; have := (h159).2; have := (h160).1; have := (h160).2; have := (h_x17).1; have := (h_x17).2; have := (h184).1; have := (h184).2; have := (h_x19).1; have := (h_x19).2; have := (h207).1; have := (h207).2; have := (h228).1; have := (h228).2; have := (h99).1; have := (h99).2; omega
              have q257 : x163.toInt + x162.toInt ≤ x229.toInt := by
                have := (h_le).1; have := (h_le).2; have := (h_md).1; have := (h_md).2; have := (h_nx).1; have := (h_nx).2; have := (h_tp).1; have := (h_tp).2; have := (h_tq).1; have := (h_tq).2; have := (h119).1; have := (h119).2; have := (h_x13).1; have := (h_x13).2; have := (h127).1; have := (h127).2; have := (h128).1; have := (h128).2; have := (h129).1; have := (h129).2; have := (h_x15).1; have := (h_x15).2; have := (h158).1; have := (h158).2; have := (h159).1; have := (h159).2; have := (h160).1; have := (h160).2; have := (h_x17).1; have := (h_x17).2; have := (h192).1; have := (h192).2; have := (h184).1; have := (h184).2; have := (h_x19).1; have := (h_x19).2; have := (h216).1; have := (h216).2; have := (h207).1; have := (h207).2; have := (h228).1; have := (h228).2; have := (h99).1; have := (h99).2; omega
              refine tw_gov hS (md_runV (As := [.int x240]) (rest := []) hx hb hml hown hW hK hT hS.1 (t_X12_settles l D cy tx base Z K N M223 R9 J236 hS.2.1 a0 hz_a0 hk_a0 x240 h247 x229 k227 (iv_mono h228 (by decide) (by decide)) lg k248 sg k249 tq k250 (iv_mono h_tq (by decide) (by decide)) x163 k251 (iv_mono h160 (by decide) (by decide)) x137 k252 (iv_mono h136 (by decide) (by decide)) op k253 x162 k254 (iv_mono h159 (by decide) (by decide)) (le.toNatClampNeg) (nbo M223 op x162.toNatClampNeg + 1) z243 q255 q256 q257 z244 rfl) s_X12_227 ⟨rfl, rfl, ⟨Nat.le_of_ble_eq_true rfl, Nat.le_of_ble_eq_true rfl⟩, ⟨Nat.le_of_ble_eq_true rfl, Nat.le_of_ble_eq_true rfl⟩⟩ hz_a0 hk_a0 (by decide) rfl rfl hl.1 rfl (Nat.le_of_ble_eq_true rfl) dX12_tested_86) rfl rfl (fun H locs M261 R262 J260 hS f258 g259 E263 => ?_)
              have eR262 := Fr.nil g259 rfl
              subst eR262
              have p264 := E263
              clear E263
              obtain ⟨x267, x268, k269, k270, h265, h266, zr264, zg264, zf264, zz264, zl264⟩ := p264
              have k269 : M261 a0 21 = x267 := k269
              have k270 : M261 lg tq.toNatClampNeg = x268 := k270
              have zw264 := ti_cl (x := le) (by have := h_le.1; omega); have zy264 := ti_cl (x := x163) (by have := (h160).1; omega)
              have z271 : ∀ j, j < 400 * tq.toNatClampNeg + le.toNatClampNeg → M261 sg j = Ma sg j := fun j hj => (zf264 j (by omega)).trans ((fun j hj => (Fr.kpa f220 hk_sg rfl j).trans ((fun j hj => (Fr.kpa f198 hk_sg rfl j).trans ((fun j hj => (Fr.kpa f175 hk_sg rfl j).trans (z167 j hj)) j hj)) j hj)) j hj)
              have zb264 := ti_cl (x := x267) (by have := (h265).1; omega); have zc264 := ti_cl (x := x162) (by have := (h159).1; omega)
              have z275 : nbo M261 op x267.toNatClampNeg = nbo M223 op x267.toNatClampNeg := nbo_to _ (fun j _ => Fr.kpa f258 hk_op rfl j)
              have z272 : SEG M261 sg tq.toNatClampNeg le.toNatClampNeg x268.toNatClampNeg (nbo M261 op x267.toNatClampNeg + 1) := SEG.cast zg264 rfl (by rw [z275])
              have z273 : opK M261 op x267.toNatClampNeg := opK.to (opK.less z244 (by omega)) (fun j _ => Fr.kpa f258 hk_op rfl j)
              have zm264 := nbo_mono (M := M223) (op := op) x162.toNatClampNeg x267.toNatClampNeg (by omega)
              have q274 : ((nbo M261 op x267.toNatClampNeg + 1 : Nat) : Int) ≤ x137.toInt := by rw [z275]; have := q246; omega
              refine lv_aload_n hx hb dX12_tested_89 rfl (lv_at hl 2 rfl) ?_
              have k276 : R9 a0 20 = some op := (Fr.kp (k := 20) g12 hk_a0 rfl).trans k_op
              refine tw_getrk hx hb hW hown hK hS f_X12_35_11 hz_a0 hk_a0 (b := op) k276 dX12_tested_90 ?_
              refine lv_aload_n hx hb dX12_tested_93 rfl (lv_at hl 2 rfl) ?_
              refine tw_getk hx hb hW hown hK hS f_X12_188_11 hz_a0 hk_a0 (v := x267) k269 dX12_tested_94 ?_
              refine lv_iload_n hx hb dX12_tested_97 rfl (lv_at hl 0 rfl) ?_
              have h277 : iv 0 399 x267 := by
                have := (h_le).1; have := (h_le).2; have := (h_md).1; have := (h_md).2; have := (h_nx).1; have := (h_nx).2; have := (h_tp).1; have := (h_tp).2; have := (h_tq).1; have := (h_tq).2; have := (h119).1; have := (h119).2; have := (h_x13).1; have := (h_x13).2; have := (h127).1; have := (h127).2; have := (h128).1; have := (h128).2; have := (h129).1; have := (h129).2; have := (h_x15).1; have := (h_x15).2; have := (h158).1; have := (h158).2; have := (h159).1; have := (h159).2; have := (h160).1; have := (h160).2; have := (h_x17).1; have := (h_x17).2; have := (h184).1; have := (h184).2; have := (h_x19).1; have := (h_x19).2; have := (h207).1; have := (h207).2; have := (h228).1; have := (h228).2; have := (h265).1; have := (h265).2; have := (h266).1; have := (h266).2; have := (h99).1; have := (h99).2; exact ⟨by omega, by omega⟩
              refine tw_iasx hx hb hK hS hz_op hk_op (Or.inl rfl) hn_op h277 ⟨by decide, by decide⟩ (iv_any _) (jl := 0) (jh := 1999999) ⟨by decide, by decide⟩ rfl dX12_tested_98 (fun H locs M281 hS k278 f279 e280 => ?_)
              have k282 : M281 a0 21 = x267 := (Fr.kp (k := 21) f279 hk_a0 rfl).trans k269
              refine lv_aload_n hx hb dX12_tested_99 rfl (lv_at hl 2 rfl) ?_
              refine lv_dup hx hb dX12_tested_100 rfl ?_
              refine tw_getk hx hb hW hown hK hS f_X12_188_11 hz_a0 hk_a0 (v := x267) k282 dX12_tested_101 ?_
              refine lv_iconst (v := 1) hx hb dX12_tested_104 (by decide) ?_
              refine tw_iadd (lo := 1) (hi := 400) hx hb h277 (iv_c (c := 1) (n := 1) (by decide)) ⟨by decide, by decide⟩ ⟨by decide, by decide⟩ dX12_tested_105 (fun x285 e284 h283 => ?_)
              have e284 : x285.toInt = x267.toInt + 1 := e284
              refine tw_puti hx hb hW hown hK hS f_X12_188_11 hz_a0 hk_a0 rfl rfl (lo := 0) (hi := 400) rfl (iv_mono h283 (by decide) (by decide)) rfl dX12_tested_106 (fun H locs M288 hS k286 f287 => ?_)
              have za288 := ti_cl (x := x267) (by have := (h277).1; omega); have zb288 := ti_cl (x := x285) (by have := (h283).1; omega)
              have zo288 : ∀ j, j < x267.toNatClampNeg → M288 op j = M261 op j := fun j hj => (Fr.kpa f287 hk_op rfl j).trans (by rw [e280]; exact u2_nk (by omega))
              have zv288 : M288 op x267.toNatClampNeg = 13 := (Fr.kpa f287 hk_op rfl _).trans (by rw [e280]; exact u2_same)
              have zn288 : nbo M288 op x285.toNatClampNeg = nbo M261 op x267.toNatClampNeg + 1 := by rw [nbo_two (x := x267.toNatClampNeg) (by omega) (by rw [zv288]; decide), nbo_to _ zo288]
              have z289 : SEG M288 sg tq.toNatClampNeg le.toNatClampNeg x268.toNatClampNeg (nbo M288 op x285.toNatClampNeg) := SEG.cast (SEG.to (SEG.to z272 (fun j _ _ => Fr.kpa f279 hk_sg rfl j)) (fun j _ _ => Fr.kpa f287 hk_sg rfl j)) rfl (by rw [zn288])
              have z290 : opK M288 op x285.toNatClampNeg := fun j hj => by by_cases q : j = x267.toNatClampNeg; (· rw [q, zv288]; decide); (· rw [zo288 j (by omega)]; exact z273 j (by omega))
              have q291 : ((nbo M288 op x285.toNatClampNeg : Nat) : Int) ≤ x137.toInt := by rw [zn288]; exact q274
              refine lv_goto (tgt := 12) hx hb dX12_tested_109 (by decide) ?_
              have k292 : M288 a0 13 = x229 := ((Fr.kp (k := 13) f287 hk_a0 rfl).trans ((Fr.kp (k := 13) f279 hk_a0 rfl).trans (Fr.kp (k := 13) f258 hk_a0 rfl))).trans k227
              have k293 : M288 lg tq.toNatClampNeg = x268 := ((Fr.kpa f287 hk_lg rfl tq.toNatClampNeg).trans (Fr.kpa f279 hk_lg rfl tq.toNatClampNeg)).trans k270
              have k294 : M288 a0 17 = x137 := ((Fr.kp (k := 17) f287 hk_a0 rfl).trans ((Fr.kp (k := 17) f279 hk_a0 rfl).trans (Fr.kp (k := 17) f258 hk_a0 rfl))).trans k252
              have w295 : nx.toInt ≤ x229.toInt ∧ x229.toInt ≤ tp.toInt ∧ x268.toInt + x285.toInt ≤ x229.toInt ∧ le.toInt ≤ x268.toInt := by
                have := (h_le).1; have := (h_le).2; have := (h_md).1; have := (h_md).2; have := (h_nx).1; have := (h_nx).2; have := (h_tp).1; have := (h_tp).2; have := (h_tq).1; have := (h_tq).2; have := (h119).1; have := (h119).2; have := (h_x13).1; have := (h_x13).2; have := (h127).1; have := (h127).2; have := (h128).1; have := (h128).2; have := (h129).1; have := (h129).2; have := (h_x15).1; have := (h_x15).2; have := (h158).1; have := (h158).2; have := (h159).1; have := (h159).2; have := (h160).1; have := (h160).2; have := (h_x17).1; have := (h_x17).2; have := (h192).1; have := (h192).2; have := (h184).1; have := (h184).2; have := (h_x19).1; have := (h_x19).2; have := (h216).1; have := (h216).2; have := (h207).1; have := (h207).2; have := (h228).1; have := (h228).2; have := (h277).1; have := (h277).2; have := (h266).1; have := (h266).2; have := (h283).1; have := (h283).2; have := (h99).1; have := (h99).2; exact ⟨by omega, by omega, by omega, by omega⟩
              have w296 : ((1 : Int32).toInt = 1 ∧ SEG M288 sg tq.toNatClampNeg le.toNatClampNeg x268.toNatClampNeg (nbo M288 op x285.toNatClampNeg) ∧ ((nbo M288 op x285.toNatClampNeg : Nat) : Int) ≤ x137.toInt) ∨ ((1 : Int32).toInt = 0 ∧ SEG M288 sg tq.toNatClampNeg le.toNatClampNeg x268.toNatClampNeg (nbo M288 op x285.toNatClampNeg + 1) ∧ ((nbo M288 op x285.toNatClampNeg + 1 : Nat) : Int) ≤ x137.toInt) := Or.inl ⟨by decide, z289, q291⟩
              have w297 : ∀ j, j < 400 * tq.toNatClampNeg + le.toNatClampNeg → M288 sg j = Ma sg j := (fun j hj => (Fr.kpa f287 hk_sg rfl j).trans ((fun j hj => (Fr.kpa f279 hk_sg rfl j).trans (z271 j hj)) j hj))
              have w298 : opK M288 op x285.toNatClampNeg := z290
              have hm299 : 2 * (400 - x229.toInt) + (1 : Int32).toInt < (n_8 : Int) := by
                have := (h_le).1; have := (h_le).2; have := (h_md).1; have := (h_md).2; have := (h_nx).1; have := (h_nx).2; have := (h_tp).1; have := (h_tp).2; have := (h_tq).1; have := (h_tq).2; have := (h119).1; have := (h119).2; have := (h_x13).1; have := (h_x13).2; have := (h127).1; have := (h127).2; have := (h128).1; have := (h128).2; have := (h129).1; have := (h129).2; have := (h_x15).1; have := (h_x15).2; have := (h158).1; have := (h158).2; have := (h159).1; have := (h159).2; have := (h160).1; have := (h160).2; have := (h_x17).1; have := (h_x17).2; have := (h192).1; have := (h192).2; have := (h184).1; have := (h184).2; have := (h_x19).1; have := (h_x19).2; have := (h216).1; have := (h216).2; have := (h207).1; have := (h207).2; have := (h228).1; have := (h228).2; have := (h277).1; have := (h277).2; have := (h266).1; have := (h266).2; have := (h99).1; have := (h99).2; have : (1 : Int32).toInt = 1 := (by decide); omega
              exact ih_8 1 x229 x285 x268 x137 M288 R9 J260 H locs _ (iv_mono (iv_c (c := 1) (n := 1) (by decide)) (by decide) (by decide)) h228 k292 (iv_mono h283 (by decide) (by decide)) k286 h266 k293 h136 k294 w295 w296 w297 w298 hm299 hS (lv_sub hl [1, 2] rfl)
            · have q300 : ¬ x204.toInt = 0 := ti_ne c214
              have h301 : iv 1 1 x204 := ⟨by have := (h_x204).1; have := ((iv_c (c := 0) (n := 0) (by decide))).1; have := ((iv_c (c := 0) (n := 0) (by decide))).2; omega, by have := (h_x204).2; have := ((iv_c (c := 0) (n := 0) (by decide))).1; have := ((iv_c (c := 0) (n := 0) (by decide))).2; omega⟩
              have z302 := z213 c214
              have q303 := z302.1
              refine lv_bipush (v := 12) hx hb dX12_tested_69 (by decide) ?_
              refine lv_goto (tgt := 76) hx hb dX12_tested_71 (by decide) ?_
              refine lv_istore_n (lv' := [(2, .int 12), (1, .int 1), (0, .ref (base + a0))]) hx hb dX12_tested_76 rfl hl (by decide) rfl (fun ls hl => ?_)
              refine lv_aload_n hx hb dX12_tested_77 rfl (lv_at hl 2 rfl) ?_
              have k304 : R9 a0 0 = some tb := (Fr.kp (k := 0) g12 hk_a0 rfl).trans k_tb
              have k305 : M201 a0 1 = tp := ((Fr.kp (k := 1) f198 hk_a0 rfl).trans ((Fr.kp (k := 1) f175 hk_a0 rfl).trans ((Fr.kp (k := 1) f151 hk_a0 rfl).trans ((Fr.kp (k := 1) f110 hk_a0 rfl).trans (Fr.kp (k := 1) f11 hk_a0 rfl))))).trans k_tp
              have q306 : x208.toInt ≤ tp.toInt := by
                have := (h_le).1; have := (h_le).2; have := (h_md).1; have := (h_md).2; have := (h_nx).1; have := (h_nx).2; have := (h_tp).1; have := (h_tp).2; have := (h_tq).1; have := (h_tq).2; have := (h119).1; have := (h119).2; have := (h_x13).1; have := (h_x13).2; have := (h127).1; have := (h127).2; have := (h128).1; have := (h128).2; have := (h129).1; have := (h129).2; have := (h_x15).1; have := (h_x15).2; have := (h158).1; have := (h158).2; have := (h159).1; have := (h159).2; have := (h160).1; have := (h160).2; have := (h_x17).1; have := (h_x17).2; have := (h192).1; have := (h192).2; have := (h184).1; have := (h184).2; have := (h_x19).1; have := (h_x19).2; have := (h301).1; have := (h301).2; have := (h207).1; have := (h207).2; have := (h99).1; have := (h99).2; omega
              refine tw_gov hS (md_runV (As := []) (rest := []) hx hb hml hown hW hK hT hS.1 (t_X12_passWord l D cy tx base Z K N M201 R9 J200 hS.2.1 a0 hz_a0 hk_a0 tb k304 x208 k206 (iv_mono h207 (by decide) (by decide)) tp k305 (iv_mono h_tp (by decide) (by decide)) q306) s_X12_142 ⟨rfl, rfl, ⟨Nat.le_of_ble_eq_true rfl, Nat.le_of_ble_eq_true rfl⟩, ⟨Nat.le_of_ble_eq_true rfl, Nat.le_of_ble_eq_true rfl⟩⟩ hz_a0 hk_a0 (by decide) rfl rfl hl.1 rfl (Nat.le_of_ble_eq_true rfl) dX12_tested_78) rfl rfl (fun H locs M310 R311 J309 hS f307 g308 E312 => ?_)
              have eR311 := Fr.nil g308 rfl
              subst eR311
              have p313 := E312
              clear E312
              obtain ⟨x316, k314, h315, q317, z319⟩ := p313
              have k314 : M310 a0 13 = x316 := k314
              have q320 := z319 (chF.rf (chF.fr z302 hS.2.2.1 hk_tb rfl) f307 hk_tb rfl)
              refine lv_aload_n hx hb dX12_tested_81 rfl (lv_at hl 2 rfl) ?_
              refine lv_iload_n hx hb dX12_tested_82 rfl (lv_at hl 0 rfl) ?_
              refine tw_goi hS (md_runS (As := [.int 12]) (rest := [.ref (base + a0)]) hx hb hml hown hW hK hT hS.1 (t_X12_strength l D cy tx base Z K N M310 R9 J309 hS.2.1 12 (iv_mono (iv_c (c := 12) (n := 12) (by decide)) (by decide) (by decide))) s_X12_191 ⟨rfl, rfl, ⟨Nat.le_of_ble_eq_true rfl, Nat.le_of_ble_eq_true rfl⟩, ⟨Nat.le_of_ble_eq_true rfl, Nat.le_of_ble_eq_true rfl⟩⟩ rfl hl.1 rfl (Nat.le_of_ble_eq_true rfl) dX12_tested_83) rfl rfl (fun x327 H locs M324 R325 J323 hS f321 g322 E326 => ?_)
              have eM324 := Fr.nil f321 rfl
              subst eM324
              have eR325 := Fr.nil g322 rfl
              subst eR325
              obtain ⟨h_x327, p328⟩ := E326
              have q329 : (12 : Int32).toInt = 12 := (by decide)
              have z332 : nbo M310 op x162.toNatClampNeg = nbo M154 op x162.toNatClampNeg := ((nbo_to _ (fun j _ => Fr.kpa f307 hk_op rfl j)).trans ((nbo_to _ (fun j _ => Fr.kpa f198 hk_op rfl j)).trans (nbo_to _ (fun j _ => Fr.kpa f175 hk_op rfl j))))
              have z330 : SEG M310 sg tq.toNatClampNeg le.toNatClampNeg x163.toNatClampNeg (nbo M310 op x162.toNatClampNeg + 1) := SEG.cast (SEG.to (SEG.to (SEG.to z168 (fun j _ _ => Fr.kpa f175 hk_sg rfl j)) (fun j _ _ => Fr.kpa f198 hk_sg rfl j)) (fun j _ _ => Fr.kpa f307 hk_sg rfl j)) rfl (by rw [z332])
              have z331 : opK M310 op x162.toNatClampNeg := (opK.to (opK.to (opK.to z169 (fun j _ => Fr.kpa f175 hk_op rfl j)) (fun j _ => Fr.kpa f198 hk_op rfl j)) (fun j _ => Fr.kpa f307 hk_op rfl j))
              have q333 : ((nbo M310 op x162.toNatClampNeg + 1 : Nat) : Int) ≤ x137.toInt := by rw [z332]; exact q170
              have h334 : iv 1 3 x327 := by
                have := (h_le).1; have := (h_le).2; have := (h_md).1; have := (h_md).2; have := (h_nx).1; have := (h_nx).2; have := (h_tp).1; have := (h_tp).2; have := (h_tq).1; have := (h_tq).2; have := (h_x327).1; have := (h_x327).2; exact ⟨by omega, by omega⟩
              have k335 : R9 a0 4 = some lg := (Fr.kp (k := 4) g12 hk_a0 rfl).trans k_lg
              have k336 : R9 a0 3 = some sg := (Fr.kp (k := 3) g12 hk_a0 rfl).trans k_sg
              have k337 : M310 a0 16 = tq := ((Fr.kp (k := 16) f307 hk_a0 rfl).trans ((Fr.kp (k := 16) f198 hk_a0 rfl).trans ((Fr.kp (k := 16) f175 hk_a0 rfl).trans ((Fr.kp (k := 16) f151 hk_a0 rfl).trans ((Fr.kp (k := 16) f110 hk_a0 rfl).trans (Fr.kp (k := 16) f11 hk_a0 rfl)))))).trans k_tq
              have k338 : M310 lg tq.toNatClampNeg = x163 := ((Fr.kpa f307 hk_lg rfl tq.toNatClampNeg).trans ((Fr.kpa f198 hk_lg rfl tq.toNatClampNeg).trans (Fr.kpa f175 hk_lg rfl tq.toNatClampNeg))).trans k166
              have k339 : M310 a0 17 = x137 := ((Fr.kp (k := 17) f307 hk_a0 rfl).trans ((Fr.kp (k := 17) f198 hk_a0 rfl).trans ((Fr.kp (k := 17) f175 hk_a0 rfl).trans (Fr.kp (k := 17) f151 hk_a0 rfl)))).trans k138
              have k340 : R9 a0 20 = some op := (Fr.kp (k := 20) g12 hk_a0 rfl).trans k_op
              have k341 : M310 a0 21 = x162 := ((Fr.kp (k := 21) f307 hk_a0 rfl).trans ((Fr.kp (k := 21) f198 hk_a0 rfl).trans (Fr.kp (k := 21) f175 hk_a0 rfl))).trans k165
              have q342 : ((le.toNatClampNeg : Nat) : Int) ≤ x163.toInt := by
                have := (h_le).1; have := (h_le).2; have := (h_md).1; have := (h_md).2; have := (h_nx).1; have := (h_nx).2; have := (h_tp).1; have := (h_tp).2; have := (h_tq).1; have := (h_tq).2; have := (h119).1; have := (h119).2; have := (h_x13).1; have := (h_x13).2; have := (h127).1; have := (h127).2; have := (h128).1; have := (h128).2; have := (h129).1; have := (h129).2; have := (h_x15).1; have := (h_x15).2; have := (h158).1; have := (h158).2; have := (h159).1; have := (h159).2; have := (h160).1; have := (h160).2; have := (h_x17).1; have := (h_x17).2; have := (h184).1; have := (h184).2; have := (h_x19).1; have := (h_x19).2; have := (h207).1; have := (h207).2; have := (h315).1; have := (h315).2; have := (h99).1; have := (h99).2; have := ti_cl (x := le) (by omega); omega
              have q343 : ((nbo M310 op x162.toNatClampNeg + 1 : Nat) : Int) ≤ x137.toInt := by
                have := (h_le).1; have := (h_le).2; have := (h_md).1; have := (h_md).2; have := (h_nx).1; have := (h_nx).2; have := (h_tp).1; have := (h_tp).2; have := (h_tq).1; have := (h_tq).2; have := (h119).1; have := (h119).2; have := (h_x13).1; have := (h_x13).2; have := (h127).1; have := (h127).2; have := (h128).1; have := (h128).2; have := (h129).1; have := (h129).2; have := (h136).1; have := (h136).2; have := (h_x15).1; have := (h_x15).2; have := (h158).1; have := (h158).2; have := (h159).1; have := (h159).2; have := (h160).1; have := (h160).2; have := (h_x17).1; have := (h_x17).2; have := (h184).1; have := (h184).2; have := (h_x19).1; have := (h_x19).2; have := (h207).1; have := (h207).2; have := (h315).1; have := (h315).2; have := (h99).1; have := (h99).2; omega
              have q344 : x163.toInt + x162.toInt ≤ x316.toInt := by
                have := (h_le).1; have := (h_le).2; have := (h_md).1; have := (h_md).2; have := (h_nx).1; have := (h_nx).2; have := (h_tp).1; have := (h_tp).2; have := (h_tq).1; have := (h_tq).2; have := (h119).1; have := (h119).2; have := (h_x13).1; have := (h_x13).2; have := (h127).1; have := (h127).2; have := (h128).1; have := (h128).2; have := (h129).1; have := (h129).2; have := (h_x15).1; have := (h_x15).2; have := (h158).1; have := (h158).2; have := (h159).1; have := (h159).2; have := (h160).1; have := (h160).2; have := (h_x17).1; have := (h_x17).2; have := (h192).1; have := (h192).2; have := (h184).1; have := (h184).2; have := (h_x19).1; have := (h_x19).2; have := (h301).1; have := (h301).2; have := (h207).1; have := (h207).2; have := (h315).1; have := (h315).2; have := (h99).1; have := (h99).2; omega
              refine tw_gov hS (md_runV (As := [.int x327]) (rest := []) hx hb hml hown hW hK hT hS.1 (t_X12_settles l D cy tx base Z K N M310 R9 J323 hS.2.1 a0 hz_a0 hk_a0 x327 h334 x316 k314 (iv_mono h315 (by decide) (by decide)) lg k335 sg k336 tq k337 (iv_mono h_tq (by decide) (by decide)) x163 k338 (iv_mono h160 (by decide) (by decide)) x137 k339 (iv_mono h136 (by decide) (by decide)) op k340 x162 k341 (iv_mono h159 (by decide) (by decide)) (le.toNatClampNeg) (nbo M310 op x162.toNatClampNeg + 1) z330 q342 q343 q344 z331 rfl) s_X12_227 ⟨rfl, rfl, ⟨Nat.le_of_ble_eq_true rfl, Nat.le_of_ble_eq_true rfl⟩, ⟨Nat.le_of_ble_eq_true rfl, Nat.le_of_ble_eq_true rfl⟩⟩ hz_a0 hk_a0 (by decide) rfl rfl hl.1 rfl (Nat.le_of_ble_eq_true rfl) dX12_tested_86) rfl rfl (fun H locs M348 R349 J347 hS f345 g346 E350 => ?_)
              have eR349 := Fr.nil g346 rfl
              subst eR349
              have p351 := E350
              clear E350
              obtain ⟨x354, x355, k356, k357, h352, h353, zr351, zg351, zf351, zz351, zl351⟩ := p351
              have k356 : M348 a0 21 = x354 := k356
              have k357 : M348 lg tq.toNatClampNeg = x355 := k357
              have zw351 := ti_cl (x := le) (by have := h_le.1; omega); have zy351 := ti_cl (x := x163) (by have := (h160).1; omega)
              have z358 : ∀ j, j < 400 * tq.toNatClampNeg + le.toNatClampNeg → M348 sg j = Ma sg j := fun j hj => (zf351 j (by omega)).trans ((fun j hj => (Fr.kpa f307 hk_sg rfl j).trans ((fun j hj => (Fr.kpa f198 hk_sg rfl j).trans ((fun j hj => (Fr.kpa f175 hk_sg rfl j).trans (z167 j hj)) j hj)) j hj)) j hj)
              have zb351 := ti_cl (x := x354) (by have := (h352).1; omega); have zc351 := ti_cl (x := x162) (by have := (h159).1; omega)
              have z362 : nbo M348 op x354.toNatClampNeg = nbo M310 op x354.toNatClampNeg := nbo_to _ (fun j _ => Fr.kpa f345 hk_op rfl j)
              have z359 : SEG M348 sg tq.toNatClampNeg le.toNatClampNeg x355.toNatClampNeg (nbo M348 op x354.toNatClampNeg + 1) := SEG.cast zg351 rfl (by rw [z362])
              have z360 : opK M348 op x354.toNatClampNeg := opK.to (opK.less z331 (by omega)) (fun j _ => Fr.kpa f345 hk_op rfl j)
              have zm351 := nbo_mono (M := M310) (op := op) x162.toNatClampNeg x354.toNatClampNeg (by omega)
              have q361 : ((nbo M348 op x354.toNatClampNeg + 1 : Nat) : Int) ≤ x137.toInt := by rw [z362]; have := q333; omega
              refine lv_aload_n hx hb dX12_tested_89 rfl (lv_at hl 2 rfl) ?_
              have k363 : R9 a0 20 = some op := (Fr.kp (k := 20) g12 hk_a0 rfl).trans k_op
              refine tw_getrk hx hb hW hown hK hS f_X12_35_11 hz_a0 hk_a0 (b := op) k363 dX12_tested_90 ?_
              refine lv_aload_n hx hb dX12_tested_93 rfl (lv_at hl 2 rfl) ?_
              refine tw_getk hx hb hW hown hK hS f_X12_188_11 hz_a0 hk_a0 (v := x354) k356 dX12_tested_94 ?_
              refine lv_iload_n hx hb dX12_tested_97 rfl (lv_at hl 0 rfl) ?_
              have h364 : iv 0 399 x354 := by
                have := (h_le).1; have := (h_le).2; have := (h_md).1; have := (h_md).2; have := (h_nx).1; have := (h_nx).2; have := (h_tp).1; have := (h_tp).2; have := (h_tq).1; have := (h_tq).2; have := (h119).1; have := (h119).2; have := (h_x13).1; have := (h_x13).2; have := (h127).1; have := (h127).2; have := (h128).1; have := (h128).2; have := (h129).1; have := (h129).2; have := (h_x15).1; have := (h_x15).2; have := (h158).1; have := (h158).2; have := (h159).1; have := (h159).2; have := (h160).1; have := (h160).2; have := (h_x17).1; have := (h_x17).2; have := (h184).1; have := (h184).2; have := (h_x19).1; have := (h_x19).2; have := (h207).1; have := (h207).2; have := (h315).1; have := (h315).2; have := (h352).1; have := (h352).2; have := (h353).1; have := (h353).2; have := (h99).1; have := (h99).2; exact ⟨by omega, by omega⟩
              refine tw_iasx hx hb hK hS hz_op hk_op (Or.inl rfl) hn_op h364 ⟨by decide, by decide⟩ (iv_any _) (jl := 0) (jh := 1999999) ⟨by decide, by decide⟩ rfl dX12_tested_98 (fun H locs M368 hS k365 f366 e367 => ?_)
              have k369 : M368 a0 21 = x354 := (Fr.kp (k := 21) f366 hk_a0 rfl).trans k356
              refine lv_aload_n hx hb dX12_tested_99 rfl (lv_at hl 2 rfl) ?_
              refine lv_dup hx hb dX12_tested_100 rfl ?_
              refine tw_getk hx hb hW hown hK hS f_X12_188_11 hz_a0 hk_a0 (v := x354) k369 dX12_tested_101 ?_
              refine lv_iconst (v := 1) hx hb dX12_tested_104 (by decide) ?_
              refine tw_iadd (lo := 1) (hi := 400) hx hb h364 (iv_c (c := 1) (n := 1) (by decide)) ⟨by decide, by decide⟩ ⟨by decide, by decide⟩ dX12_tested_105 (fun x372 e371 h370 => ?_)
              have e371 : x372.toInt = x354.toInt + 1 := e371
              refine tw_puti hx hb hW hown hK hS f_X12_188_11 hz_a0 hk_a0 rfl rfl (lo := 0) (hi := 400) rfl (iv_mono h370 (by decide) (by decide)) rfl dX12_tested_106 (fun H locs M375 hS k373 f374 => ?_)
              have za375 := ti_cl (x := x354) (by have := (h364).1; omega); have zb375 := ti_cl (x := x372) (by have := (h370).1; omega)
              have zo375 : ∀ j, j < x354.toNatClampNeg → M375 op j = M348 op j := fun j hj => (Fr.kpa f374 hk_op rfl j).trans (by rw [e367]; exact u2_nk (by omega))
              have zv375 : M375 op x354.toNatClampNeg = 12 := (Fr.kpa f374 hk_op rfl _).trans (by rw [e367]; exact u2_same)
              have zn375 : nbo M375 op x372.toNatClampNeg = nbo M348 op x354.toNatClampNeg + 1 := by rw [nbo_two (x := x354.toNatClampNeg) (by omega) (by rw [zv375]; decide), nbo_to _ zo375]
              have z376 : SEG M375 sg tq.toNatClampNeg le.toNatClampNeg x355.toNatClampNeg (nbo M375 op x372.toNatClampNeg) := SEG.cast (SEG.to (SEG.to z359 (fun j _ _ => Fr.kpa f366 hk_sg rfl j)) (fun j _ _ => Fr.kpa f374 hk_sg rfl j)) rfl (by rw [zn375])
              have z377 : opK M375 op x372.toNatClampNeg := fun j hj => by by_cases q : j = x354.toNatClampNeg; (· rw [q, zv375]; decide); (· rw [zo375 j (by omega)]; exact z360 j (by omega))
              have q378 : ((nbo M375 op x372.toNatClampNeg : Nat) : Int) ≤ x137.toInt := by rw [zn375]; exact q361
              refine lv_goto (tgt := 12) hx hb dX12_tested_109 (by decide) ?_
              have k379 : M375 a0 13 = x316 := ((Fr.kp (k := 13) f374 hk_a0 rfl).trans ((Fr.kp (k := 13) f366 hk_a0 rfl).trans (Fr.kp (k := 13) f345 hk_a0 rfl))).trans k314
              have k380 : M375 lg tq.toNatClampNeg = x355 := ((Fr.kpa f374 hk_lg rfl tq.toNatClampNeg).trans (Fr.kpa f366 hk_lg rfl tq.toNatClampNeg)).trans k357
              have k381 : M375 a0 17 = x137 := ((Fr.kp (k := 17) f374 hk_a0 rfl).trans ((Fr.kp (k := 17) f366 hk_a0 rfl).trans (Fr.kp (k := 17) f345 hk_a0 rfl))).trans k339
              have w382 : nx.toInt ≤ x316.toInt ∧ x316.toInt ≤ tp.toInt ∧ x355.toInt + x372.toInt ≤ x316.toInt ∧ le.toInt ≤ x355.toInt := by
                have := (h_le).1; have := (h_le).2; have := (h_md).1; have := (h_md).2; have := (h_nx).1; have := (h_nx).2; have := (h_tp).1; have := (h_tp).2; have := (h_tq).1; have := (h_tq).2; have := (h119).1; have := (h119).2; have := (h_x13).1; have := (h_x13).2; have := (h127).1; have := (h127).2; have := (h128).1; have := (h128).2; have := (h129).1; have := (h129).2; have := (h_x15).1; have := (h_x15).2; have := (h158).1; have := (h158).2; have := (h159).1; have := (h159).2; have := (h160).1; have := (h160).2; have := (h_x17).1; have := (h_x17).2; have := (h192).1; have := (h192).2; have := (h184).1; have := (h184).2; have := (h_x19).1; have := (h_x19).2; have := (h301).1; have := (h301).2; have := (h207).1; have := (h207).2; have := (h315).1; have := (h315).2; have := (h364).1; have := (h364).2; have := (h353).1; have := (h353).2; have := (h370).1; have := (h370).2; have := (h99).1; have := (h99).2; exact ⟨by omega, by omega, by omega, by omega⟩
              have w383 : ((1 : Int32).toInt = 1 ∧ SEG M375 sg tq.toNatClampNeg le.toNatClampNeg x355.toNatClampNeg (nbo M375 op x372.toNatClampNeg) ∧ ((nbo M375 op x372.toNatClampNeg : Nat) : Int) ≤ x137.toInt) ∨ ((1 : Int32).toInt = 0 ∧ SEG M375 sg tq.toNatClampNeg le.toNatClampNeg x355.toNatClampNeg (nbo M375 op x372.toNatClampNeg + 1) ∧ ((nbo M375 op x372.toNatClampNeg + 1 : Nat) : Int) ≤ x137.toInt) := Or.inl ⟨by decide, z376, q378⟩
              have w384 : ∀ j, j < 400 * tq.toNatClampNeg + le.toNatClampNeg → M375 sg j = Ma sg j := (fun j hj => (Fr.kpa f374 hk_sg rfl j).trans ((fun j hj => (Fr.kpa f366 hk_sg rfl j).trans (z358 j hj)) j hj))
              have w385 : opK M375 op x372.toNatClampNeg := z377
              have hm386 : 2 * (400 - x316.toInt) + (1 : Int32).toInt < (n_8 : Int) := by
                have := (h_le).1; have := (h_le).2; have := (h_md).1; have := (h_md).2; have := (h_nx).1; have := (h_nx).2; have := (h_tp).1; have := (h_tp).2; have := (h_tq).1; have := (h_tq).2; have := (h119).1; have := (h119).2; have := (h_x13).1; have := (h_x13).2; have := (h127).1; have := (h127).2; have := (h128).1; have := (h128).2; have := (h129).1; have := (h129).2; have := (h_x15).1; have := (h_x15).2; have := (h158).1; have := (h158).2; have := (h159).1; have := (h159).2; have := (h160).1; have := (h160).2; have := (h_x17).1; have := (h_x17).2; have := (h192).1; have := (h192).2; have := (h184).1; have := (h184).2; have := (h_x19).1; have := (h_x19).2; have := (h301).1; have := (h301).2; have := (h207).1; have := (h207).2; have := (h315).1; have := (h315).2; have := (h364).1; have := (h364).2; have := (h353).1; have := (h353).2; have := (h99).1; have := (h99).2; have : (1 : Int32).toInt = 1 := (by decide); omega
              exact ih_8 1 x316 x372 x355 x137 M375 R9 J347 H locs _ (iv_mono (iv_c (c := 1) (n := 1) (by decide)) (by decide) (by decide)) h315 k379 (iv_mono h370 (by decide) (by decide)) k373 h353 k380 h136 k381 w382 w383 w384 w385 hm386 hS (lv_sub hl [1, 2] rfl)
          · have q387 : x181.toInt = 0 := ti_eq c190
            have h388 : iv 0 0 x181 := ⟨by have := (h_x181).1; have := ((iv_c (c := 0) (n := 0) (by decide))).1; omega, by have := (h_x181).2; have := ((iv_c (c := 0) (n := 0) (by decide))).2; omega⟩
            refine lv_aload_n hx hb dX12_tested_39 rfl (lv_at hl 1 rfl) ?_
            refine lv_ldc2 hx hb hown (hW _ w_7_128 rfl) dX12_tested_40 ?_
            have k389 : R9 a0 0 = some tb := (Fr.kp (k := 0) g12 hk_a0 rfl).trans k_tb
            have k390 : M178 a0 1 = tp := ((Fr.kp (k := 1) f175 hk_a0 rfl).trans ((Fr.kp (k := 1) f151 hk_a0 rfl).trans ((Fr.kp (k := 1) f110 hk_a0 rfl).trans (Fr.kp (k := 1) f11 hk_a0 rfl)))).trans k_tp
            have q391 : x185.toInt ≤ tp.toInt := by
              have := (h_le).1; have := (h_le).2; have := (h_md).1; have := (h_md).2; have := (h_nx).1; have := (h_nx).2; have := (h_tp).1; have := (h_tp).2; have := (h_tq).1; have := (h_tq).2; have := (h119).1; have := (h119).2; have := (h_x13).1; have := (h_x13).2; have := (h127).1; have := (h127).2; have := (h128).1; have := (h128).2; have := (h129).1; have := (h129).2; have := (h_x15).1; have := (h_x15).2; have := (h158).1; have := (h158).2; have := (h159).1; have := (h159).2; have := (h160).1; have := (h160).2; have := (h_x17).1; have := (h_x17).2; have := (h388).1; have := (h388).2; have := (h184).1; have := (h184).2; have := (h_x19).1; have := (h_x19).2; have := (h99).1; have := (h99).2; omega
            refine tw_goi hS (md_runV (As := [.long 28530]) (rest := []) hx hb hml hown hW hK hT hS.1 (t_X12_isWord l D cy tx base Z K N M178 R9 J177 hS.2.1 a0 hz_a0 hk_a0 (28530) tb k389 x185 k183 (iv_mono h184 (by decide) (by decide)) tp k390 (iv_mono h_tp (by decide) (by decide)) q391) s_X12_138 ⟨rfl, rfl, ⟨Nat.le_of_ble_eq_true rfl, Nat.le_of_ble_eq_true rfl⟩, ⟨Nat.le_of_ble_eq_true rfl, Nat.le_of_ble_eq_true rfl⟩⟩ hz_a0 hk_a0 (by decide) rfl rfl hl.1 rfl (Nat.le_of_ble_eq_true rfl) dX12_tested_43) rfl rfl (fun x398 H locs M395 R396 J394 hS f392 g393 E397 => ?_)
            have eR396 := Fr.nil g393 rfl
            subst eR396
            obtain ⟨h_x398, p399⟩ := E397
            obtain ⟨x402, k400, h401, q403, z404, z405⟩ := p399
            have k400 : M395 a0 13 = x402 := k400
            have z406 : ¬ x398 = 0 → chF 97 122 Ma tb x402 tp := fun h => chF.rf (chF.fr (z405 h) f392 hk_tb rfl) hS.2.2.1 hk_tb rfl
            refine lv_if_eq (tgt := 53) hx hb dX12_tested_46 (by decide) (fun c407 => ?_) (fun c407 => ?_)
            · have q408 : x398.toInt = 0 := ti_eq c407
              have h409 : iv 0 0 x398 := ⟨by have := (h_x398).1; have := ((iv_c (c := 0) (n := 0) (by decide))).1; omega, by have := (h_x398).2; have := ((iv_c (c := 0) (n := 0) (by decide))).2; omega⟩
              refine lv_iconst (v := 0) hx hb dX12_tested_53 (by decide) ?_
              refine lv_istore_n (lv' := [(1, .int 0), (0, .ref (base + a0))]) hx hb dX12_tested_54 rfl hl (by decide) rfl (fun ls hl => ?_)
              refine lv_iload_n hx hb dX12_tested_55 rfl (lv_at hl 0 rfl) ?_
              refine lv_if_eq (tgt := 12) hx hb dX12_tested_56 (by decide) (fun _ => ?_) (fun h => absurd h (by decide))
              have k410 : M395 a0 21 = x162 := ((Fr.kp (k := 21) f392 hk_a0 rfl).trans (Fr.kp (k := 21) f175 hk_a0 rfl)).trans k165
              have k411 : M395 lg tq.toNatClampNeg = x163 := ((Fr.kpa f392 hk_lg rfl tq.toNatClampNeg).trans (Fr.kpa f175 hk_lg rfl tq.toNatClampNeg)).trans k166
              have k412 : M395 a0 17 = x137 := ((Fr.kp (k := 17) f392 hk_a0 rfl).trans ((Fr.kp (k := 17) f175 hk_a0 rfl).trans (Fr.kp (k := 17) f151 hk_a0 rfl))).trans k138
              have w413 : nx.toInt ≤ x402.toInt ∧ x402.toInt ≤ tp.toInt ∧ x163.toInt + x162.toInt ≤ x402.toInt ∧ le.toInt ≤ x163.toInt := by
                have := (h_le).1; have := (h_le).2; have := (h_md).1; have := (h_md).2; have := (h_nx).1; have := (h_nx).2; have := (h_tp).1; have := (h_tp).2; have := (h_tq).1; have := (h_tq).2; have := (h119).1; have := (h119).2; have := (h_x13).1; have := (h_x13).2; have := (h127).1; have := (h127).2; have := (h128).1; have := (h128).2; have := (h129).1; have := (h129).2; have := (h_x15).1; have := (h_x15).2; have := (h158).1; have := (h158).2; have := (h159).1; have := (h159).2; have := (h160).1; have := (h160).2; have := (h_x17).1; have := (h_x17).2; have := (h388).1; have := (h388).2; have := (h184).1; have := (h184).2; have := (h_x19).1; have := (h_x19).2; have := (h409).1; have := (h409).2; have := (h401).1; have := (h401).2; have := (h99).1; have := (h99).2; exact ⟨by omega, by omega, by omega, by omega⟩
              have z417 : nbo M395 op x162.toNatClampNeg = nbo M154 op x162.toNatClampNeg := ((nbo_to _ (fun j _ => Fr.kpa f392 hk_op rfl j)).trans (nbo_to _ (fun j _ => Fr.kpa f175 hk_op rfl j)))
              have z415 : SEG M395 sg tq.toNatClampNeg le.toNatClampNeg x163.toNatClampNeg (nbo M395 op x162.toNatClampNeg + 1) := SEG.cast (SEG.to (SEG.to z168 (fun j _ _ => Fr.kpa f175 hk_sg rfl j)) (fun j _ _ => Fr.kpa f392 hk_sg rfl j)) rfl (by rw [z417])
              have z416 : opK M395 op x162.toNatClampNeg := (opK.to (opK.to z169 (fun j _ => Fr.kpa f175 hk_op rfl j)) (fun j _ => Fr.kpa f392 hk_op rfl j))
              have q418 : ((nbo M395 op x162.toNatClampNeg + 1 : Nat) : Int) ≤ x137.toInt := by rw [z417]; exact q170
              have w414 : ((0 : Int32).toInt = 1 ∧ SEG M395 sg tq.toNatClampNeg le.toNatClampNeg x163.toNatClampNeg (nbo M395 op x162.toNatClampNeg) ∧ ((nbo M395 op x162.toNatClampNeg : Nat) : Int) ≤ x137.toInt) ∨ ((0 : Int32).toInt = 0 ∧ SEG M395 sg tq.toNatClampNeg le.toNatClampNeg x163.toNatClampNeg (nbo M395 op x162.toNatClampNeg + 1) ∧ ((nbo M395 op x162.toNatClampNeg + 1 : Nat) : Int) ≤ x137.toInt) := Or.inr ⟨by decide, z415, q418⟩
              have w419 : ∀ j, j < 400 * tq.toNatClampNeg + le.toNatClampNeg → M395 sg j = Ma sg j := (fun j hj => (Fr.kpa f392 hk_sg rfl j).trans ((fun j hj => (Fr.kpa f175 hk_sg rfl j).trans (z167 j hj)) j hj))
              have w420 : opK M395 op x162.toNatClampNeg := z416
              have hm421 : 2 * (400 - x402.toInt) + (0 : Int32).toInt < (n_8 : Int) := by
                have := (h_le).1; have := (h_le).2; have := (h_md).1; have := (h_md).2; have := (h_nx).1; have := (h_nx).2; have := (h_tp).1; have := (h_tp).2; have := (h_tq).1; have := (h_tq).2; have := (h119).1; have := (h119).2; have := (h_x13).1; have := (h_x13).2; have := (h127).1; have := (h127).2; have := (h128).1; have := (h128).2; have := (h129).1; have := (h129).2; have := (h_x15).1; have := (h_x15).2; have := (h158).1; have := (h158).2; have := (h159).1; have := (h159).2; have := (h160).1; have := (h160).2; have := (h_x17).1; have := (h_x17).2; have := (h388).1; have := (h388).2; have := (h184).1; have := (h184).2; have := (h_x19).1; have := (h_x19).2; have := (h409).1; have := (h409).2; have := (h401).1; have := (h401).2; have := (h99).1; have := (h99).2; have : (0 : Int32).toInt = 0 := (by decide); omega
              exact ih_8 0 x402 x162 x163 x137 M395 R9 J394 H locs _ (iv_mono (iv_c (c := 0) (n := 0) (by decide)) (by decide) (by decide)) h401 k400 h159 k410 h160 k411 h136 k412 w413 w414 w419 w420 hm421 hS hl
            · have q422 : ¬ x398.toInt = 0 := ti_ne c407
              have h423 : iv 1 1 x398 := ⟨by have := (h_x398).1; have := ((iv_c (c := 0) (n := 0) (by decide))).1; have := ((iv_c (c := 0) (n := 0) (by decide))).2; omega, by have := (h_x398).2; have := ((iv_c (c := 0) (n := 0) (by decide))).1; have := ((iv_c (c := 0) (n := 0) (by decide))).2; omega⟩
              have z424 := z406 c407
              have q425 := z424.1
              refine lv_iconst (v := 1) hx hb dX12_tested_49 (by decide) ?_
              refine lv_goto (tgt := 54) hx hb dX12_tested_50 (by decide) ?_
              refine lv_istore_n (lv' := [(1, .int 1), (0, .ref (base + a0))]) hx hb dX12_tested_54 rfl hl (by decide) rfl (fun ls hl => ?_)
              refine lv_iload_n hx hb dX12_tested_55 rfl (lv_at hl 0 rfl) ?_
              refine lv_if_eq (tgt := 12) hx hb dX12_tested_56 (by decide) (fun h => absurd h (by decide)) (fun _ => ?_)
              refine lv_aload_n hx hb dX12_tested_59 rfl (lv_at hl 1 rfl) ?_
              refine lv_ldc2 hx hb hown (hW _ w_7_127 rfl) dX12_tested_60 ?_
              have k426 : R9 a0 0 = some tb := (Fr.kp (k := 0) g12 hk_a0 rfl).trans k_tb
              have k427 : M395 a0 1 = tp := ((Fr.kp (k := 1) f392 hk_a0 rfl).trans ((Fr.kp (k := 1) f175 hk_a0 rfl).trans ((Fr.kp (k := 1) f151 hk_a0 rfl).trans ((Fr.kp (k := 1) f110 hk_a0 rfl).trans (Fr.kp (k := 1) f11 hk_a0 rfl))))).trans k_tp
              have q428 : x402.toInt ≤ tp.toInt := by
                have := (h_le).1; have := (h_le).2; have := (h_md).1; have := (h_md).2; have := (h_nx).1; have := (h_nx).2; have := (h_tp).1; have := (h_tp).2; have := (h_tq).1; have := (h_tq).2; have := (h119).1; have := (h119).2; have := (h_x13).1; have := (h_x13).2; have := (h127).1; have := (h127).2; have := (h128).1; have := (h128).2; have := (h129).1; have := (h129).2; have := (h_x15).1; have := (h_x15).2; have := (h158).1; have := (h158).2; have := (h159).1; have := (h159).2; have := (h160).1; have := (h160).2; have := (h_x17).1; have := (h_x17).2; have := (h388).1; have := (h388).2; have := (h184).1; have := (h184).2; have := (h_x19).1; have := (h_x19).2; have := (h423).1; have := (h423).2; have := (h401).1; have := (h401).2; have := (h99).1; have := (h99).2; omega
              refine tw_goi hS (md_runV (As := [.long 6385252]) (rest := []) hx hb hml hown hW hK hT hS.1 (t_X12_isWord l D cy tx base Z K N M395 R9 J394 hS.2.1 a0 hz_a0 hk_a0 (6385252) tb k426 x402 k400 (iv_mono h401 (by decide) (by decide)) tp k427 (iv_mono h_tp (by decide) (by decide)) q428) s_X12_138 ⟨rfl, rfl, ⟨Nat.le_of_ble_eq_true rfl, Nat.le_of_ble_eq_true rfl⟩, ⟨Nat.le_of_ble_eq_true rfl, Nat.le_of_ble_eq_true rfl⟩⟩ hz_a0 hk_a0 (by decide) rfl rfl hl.1 rfl (Nat.le_of_ble_eq_true rfl) dX12_tested_63) rfl rfl (fun x435 H locs M432 R433 J431 hS f429 g430 E434 => ?_)
              have eR433 := Fr.nil g430 rfl
              subst eR433
              obtain ⟨h_x435, p436⟩ := E434
              obtain ⟨x439, k437, h438, q440, z441, z442⟩ := p436
              have k437 : M432 a0 13 = x439 := k437
              have zNz443 := chF.rf (chF.fr z424 hS.2.2.1 hk_tb rfl) f429 hk_tb rfl
              have z443 : chF 97 122 Ma tb x439 tp := z424.at (z441 _ rfl ⟨zNz443.1, fun e => by have := zNz443.2.1; omega⟩)
              have z444 : ¬ x435 = 0 → chF 97 122 Ma tb x439 tp := fun h => chF.rf (chF.fr (z442 h) f429 hk_tb rfl) hS.2.2.1 hk_tb rfl
              refine lv_if_eq (tgt := 74) hx hb dX12_tested_66 (by decide) (fun c445 => ?_) (fun c445 => ?_)
              · have q446 : x435.toInt = 0 := ti_eq c445
                have h447 : iv 0 0 x435 := ⟨by have := (h_x435).1; have := ((iv_c (c := 0) (n := 0) (by decide))).1; omega, by have := (h_x435).2; have := ((iv_c (c := 0) (n := 0) (by decide))).2; omega⟩
                refine lv_bipush (v := 13) hx hb dX12_tested_74 (by decide) ?_
                refine lv_istore_n (lv' := [(2, .int 13), (1, .int 1), (0, .ref (base + a0))]) hx hb dX12_tested_76 rfl hl (by decide) rfl (fun ls hl => ?_)
                refine lv_aload_n hx hb dX12_tested_77 rfl (lv_at hl 2 rfl) ?_
                have k448 : R9 a0 0 = some tb := (Fr.kp (k := 0) g12 hk_a0 rfl).trans k_tb
                have k449 : M432 a0 1 = tp := ((Fr.kp (k := 1) f429 hk_a0 rfl).trans ((Fr.kp (k := 1) f392 hk_a0 rfl).trans ((Fr.kp (k := 1) f175 hk_a0 rfl).trans ((Fr.kp (k := 1) f151 hk_a0 rfl).trans ((Fr.kp (k := 1) f110 hk_a0 rfl).trans (Fr.kp (k := 1) f11 hk_a0 rfl)))))).trans k_tp
                have q450 : x439.toInt ≤ tp.toInt := by
                  have := (h_le).1; have := (h_le).2; have := (h_md).1; have := (h_md).2; have := (h_nx).1; have := (h_nx).2; have := (h_tp).1; have := (h_tp).2; have := (h_tq).1; have := (h_tq).2; have := (h119).1; have := (h119).2; have := (h_x13).1; have := (h_x13).2; have := (h127).1; have := (h127).2; have := (h128).1; have := (h128).2; have := (h129).1; have := (h129).2; have := (h_x15).1; have := (h_x15).2; have := (h158).1; have := (h158).2; have := (h159).1; have := (h159).2; have := (h160).1; have := (h160).2; have := (h_x17).1; have := (h_x17).2; have := (h388).1; have := (h388).2; have := (h184).1; have := (h184).2; have := (h_x19).1; have := (h_x19).2; have := (h423).1; have := (h423).2; have := (h401).1; have := (h401).2; have := (h447).1; have := (h447).2; have := (h438).1; have := (h438).2; have := (h99).1; have := (h99).2; omega
                refine tw_gov hS (md_runV (As := []) (rest := []) hx hb hml hown hW hK hT hS.1 (t_X12_passWord l D cy tx base Z K N M432 R9 J431 hS.2.1 a0 hz_a0 hk_a0 tb k448 x439 k437 (iv_mono h438 (by decide) (by decide)) tp k449 (iv_mono h_tp (by decide) (by decide)) q450) s_X12_142 ⟨rfl, rfl, ⟨Nat.le_of_ble_eq_true rfl, Nat.le_of_ble_eq_true rfl⟩, ⟨Nat.le_of_ble_eq_true rfl, Nat.le_of_ble_eq_true rfl⟩⟩ hz_a0 hk_a0 (by decide) rfl rfl hl.1 rfl (Nat.le_of_ble_eq_true rfl) dX12_tested_78) rfl rfl (fun H locs M454 R455 J453 hS f451 g452 E456 => ?_)
                have eR455 := Fr.nil g452 rfl
                subst eR455
                have p457 := E456
                clear E456
                obtain ⟨x460, k458, h459, q461, z463⟩ := p457
                have k458 : M454 a0 13 = x460 := k458
                have q464 := z463 (chF.rf (chF.fr z443 hS.2.2.1 hk_tb rfl) f451 hk_tb rfl)
                refine lv_aload_n hx hb dX12_tested_81 rfl (lv_at hl 2 rfl) ?_
                refine lv_iload_n hx hb dX12_tested_82 rfl (lv_at hl 0 rfl) ?_
                refine tw_goi hS (md_runS (As := [.int 13]) (rest := [.ref (base + a0)]) hx hb hml hown hW hK hT hS.1 (t_X12_strength l D cy tx base Z K N M454 R9 J453 hS.2.1 13 (iv_mono (iv_c (c := 13) (n := 13) (by decide)) (by decide) (by decide))) s_X12_191 ⟨rfl, rfl, ⟨Nat.le_of_ble_eq_true rfl, Nat.le_of_ble_eq_true rfl⟩, ⟨Nat.le_of_ble_eq_true rfl, Nat.le_of_ble_eq_true rfl⟩⟩ rfl hl.1 rfl (Nat.le_of_ble_eq_true rfl) dX12_tested_83) rfl rfl (fun x471 H locs M468 R469 J467 hS f465 g466 E470 => ?_)
                have eM468 := Fr.nil f465 rfl
                subst eM468
                have eR469 := Fr.nil g466 rfl
                subst eR469
                obtain ⟨h_x471, p472⟩ := E470
                have q473 : (13 : Int32).toInt = 13 := (by decide)
                have z476 : nbo M454 op x162.toNatClampNeg = nbo M154 op x162.toNatClampNeg := ((nbo_to _ (fun j _ => Fr.kpa f451 hk_op rfl j)).trans ((nbo_to _ (fun j _ => Fr.kpa f429 hk_op rfl j)).trans ((nbo_to _ (fun j _ => Fr.kpa f392 hk_op rfl j)).trans (nbo_to _ (fun j _ => Fr.kpa f175 hk_op rfl j)))))
                have z474 : SEG M454 sg tq.toNatClampNeg le.toNatClampNeg x163.toNatClampNeg (nbo M454 op x162.toNatClampNeg + 1) := SEG.cast (SEG.to (SEG.to (SEG.to (SEG.to z168 (fun j _ _ => Fr.kpa f175 hk_sg rfl j)) (fun j _ _ => Fr.kpa f392 hk_sg rfl j)) (fun j _ _ => Fr.kpa f429 hk_sg rfl j)) (fun j _ _ => Fr.kpa f451 hk_sg rfl j)) rfl (by rw [z476])
                have z475 : opK M454 op x162.toNatClampNeg := (opK.to (opK.to (opK.to (opK.to z169 (fun j _ => Fr.kpa f175 hk_op rfl j)) (fun j _ => Fr.kpa f392 hk_op rfl j)) (fun j _ => Fr.kpa f429 hk_op rfl j)) (fun j _ => Fr.kpa f451 hk_op rfl j))
                have q477 : ((nbo M454 op x162.toNatClampNeg + 1 : Nat) : Int) ≤ x137.toInt := by rw [z476]; exact q170
                have h478 : iv 1 3 x471 := by
                  have := (h_le).1; have := (h_le).2; have := (h_md).1; have := (h_md).2; have := (h_nx).1; have := (h_nx).2; have := (h_tp).1; have := (h_tp).2; have := (h_tq).1; have := (h_tq).2; have := (h_x471).1; have := (h_x471).2; exact ⟨by omega, by omega⟩
                have k479 : R9 a0 4 = some lg := (Fr.kp (k := 4) g12 hk_a0 rfl).trans k_lg
                have k480 : R9 a0 3 = some sg := (Fr.kp (k := 3) g12 hk_a0 rfl).trans k_sg
                have k481 : M454 a0 16 = tq := ((Fr.kp (k := 16) f451 hk_a0 rfl).trans ((Fr.kp (k := 16) f429 hk_a0 rfl).trans ((Fr.kp (k := 16) f392 hk_a0 rfl).trans ((Fr.kp (k := 16) f175 hk_a0 rfl).trans ((Fr.kp (k := 16) f151 hk_a0 rfl).trans ((Fr.kp (k := 16) f110 hk_a0 rfl).trans (Fr.kp (k := 16) f11 hk_a0 rfl))))))).trans k_tq
                have k482 : M454 lg tq.toNatClampNeg = x163 := ((Fr.kpa f451 hk_lg rfl tq.toNatClampNeg).trans ((Fr.kpa f429 hk_lg rfl tq.toNatClampNeg).trans ((Fr.kpa f392 hk_lg rfl tq.toNatClampNeg).trans (Fr.kpa f175 hk_lg rfl tq.toNatClampNeg)))).trans k166
                have k483 : M454 a0 17 = x137 := ((Fr.kp (k := 17) f451 hk_a0 rfl).trans ((Fr.kp (k := 17) f429 hk_a0 rfl).trans ((Fr.kp (k := 17) f392 hk_a0 rfl).trans ((Fr.kp (k := 17) f175 hk_a0 rfl).trans (Fr.kp (k := 17) f151 hk_a0 rfl))))).trans k138
                have k484 : R9 a0 20 = some op := (Fr.kp (k := 20) g12 hk_a0 rfl).trans k_op
                have k485 : M454 a0 21 = x162 := ((Fr.kp (k := 21) f451 hk_a0 rfl).trans ((Fr.kp (k := 21) f429 hk_a0 rfl).trans ((Fr.kp (k := 21) f392 hk_a0 rfl).trans (Fr.kp (k := 21) f175 hk_a0 rfl)))).trans k165
                have q486 : ((le.toNatClampNeg : Nat) : Int) ≤ x163.toInt := by
                  have := (h_le).1; have := (h_le).2; have := (h_md).1; have := (h_md).2; have := (h_nx).1; have := (h_nx).2; have := (h_tp).1; have := (h_tp).2; have := (h_tq).1; have := (h_tq).2; have := (h119).1; have := (h119).2; have := (h_x13).1; have := (h_x13).2; have := (h127).1; have := (h127).2; have := (h128).1; have := (h128).2; have := (h129).1; have := (h129).2; have := (h_x15).1; have := (h_x15).2; have := (h158).1; have := (h158).2; have := (h159).1; have := (h159).2; have := (h160).1; have := (h160).2; have := (h_x17).1; have := (h_x17).2; have := (h184).1; have := (h184).2; have := (h_x19).1; have := (h_x19).2; have := (h401).1; have := (h401).2; have := (h438).1; have := (h438).2; have := (h459).1; have := (h459).2; have := (h99).1; have := (h99).2; have := ti_cl (x := le) (by omega); omega
                have q487 : ((nbo M454 op x162.toNatClampNeg + 1 : Nat) : Int) ≤ x137.toInt := by
                  have := (h_le).1; have := (h_le).2; have := (h_md).1; have := (h_md).2; have := (h_nx).1; have := (h_nx).2; have := (h_tp).1; have := (h_tp).2; have := (h_tq).1; have := (h_tq).2; have := (h119).1; have := (h119).2; have := (h_x13).1; have := (h_x13).2; have := (h127).1; have := (h127).2; have := (h128).1; have := (h128).2; have := (h129).1; have := (h129).2; have := (h136).1; have := (h136).2; have := (h_x15).1; have := (h_x15).2; have := (h158).1; have := (h158).2; have := (h159).1; have := (h159).2; have := (h160).1; have := (h160).2; have := (h_x17).1; have := (h_x17).2; have := (h184).1; have := (h184).2; have := (h_x19).1; have := (h_x19).2; have := (h401).1; have := (h401).2; have := (h438).1; have := (h438).2; have := (h459).1; have := (h459).2; have := (h99).1; have := (h99).2; omega
                have q488 : x163.toInt + x162.toInt ≤ x460.toInt := by
                  have := (h_le).1; have := (h_le).2; have := (h_md).1; have := (h_md).2; have := (h_nx).1; have := (h_nx).2; have := (h_tp).1; have := (h_tp).2; have := (h_tq).1; have := (h_tq).2; have := (h119).1; have := (h119).2; have := (h_x13).1; have := (h_x13).2; have := (h127).1; have := (h127).2; have := (h128).1; have := (h128).2; have := (h129).1; have := (h129).2; have := (h_x15).1; have := (h_x15).2; have := (h158).1; have := (h158).2; have := (h159).1; have := (h159).2; have := (h160).1; have := (h160).2; have := (h_x17).1; have := (h_x17).2; have := (h388).1; have := (h388).2; have := (h184).1; have := (h184).2; have := (h_x19).1; have := (h_x19).2; have := (h423).1; have := (h423).2; have := (h401).1; have := (h401).2; have := (h447).1; have := (h447).2; have := (h438).1; have := (h438).2; have := (h459).1; have := (h459).2; have := (h99).1; have := (h99).2; omega
                refine tw_gov hS (md_runV (As := [.int x471]) (rest := []) hx hb hml hown hW hK hT hS.1 (t_X12_settles l D cy tx base Z K N M454 R9 J467 hS.2.1 a0 hz_a0 hk_a0 x471 h478 x460 k458 (iv_mono h459 (by decide) (by decide)) lg k479 sg k480 tq k481 (iv_mono h_tq (by decide) (by decide)) x163 k482 (iv_mono h160 (by decide) (by decide)) x137 k483 (iv_mono h136 (by decide) (by decide)) op k484 x162 k485 (iv_mono h159 (by decide) (by decide)) (le.toNatClampNeg) (nbo M454 op x162.toNatClampNeg + 1) z474 q486 q487 q488 z475 rfl) s_X12_227 ⟨rfl, rfl, ⟨Nat.le_of_ble_eq_true rfl, Nat.le_of_ble_eq_true rfl⟩, ⟨Nat.le_of_ble_eq_true rfl, Nat.le_of_ble_eq_true rfl⟩⟩ hz_a0 hk_a0 (by decide) rfl rfl hl.1 rfl (Nat.le_of_ble_eq_true rfl) dX12_tested_86) rfl rfl (fun H locs M492 R493 J491 hS f489 g490 E494 => ?_)
                have eR493 := Fr.nil g490 rfl
                subst eR493
                have p495 := E494
                clear E494
                obtain ⟨x498, x499, k500, k501, h496, h497, zr495, zg495, zf495, zz495, zl495⟩ := p495
                have k500 : M492 a0 21 = x498 := k500
                have k501 : M492 lg tq.toNatClampNeg = x499 := k501
                have zw495 := ti_cl (x := le) (by have := h_le.1; omega); have zy495 := ti_cl (x := x163) (by have := (h160).1; omega)
                have z502 : ∀ j, j < 400 * tq.toNatClampNeg + le.toNatClampNeg → M492 sg j = Ma sg j := fun j hj => (zf495 j (by omega)).trans ((fun j hj => (Fr.kpa f451 hk_sg rfl j).trans ((fun j hj => (Fr.kpa f429 hk_sg rfl j).trans ((fun j hj => (Fr.kpa f392 hk_sg rfl j).trans ((fun j hj => (Fr.kpa f175 hk_sg rfl j).trans (z167 j hj)) j hj)) j hj)) j hj)) j hj)
                have zb495 := ti_cl (x := x498) (by have := (h496).1; omega); have zc495 := ti_cl (x := x162) (by have := (h159).1; omega)
                have z506 : nbo M492 op x498.toNatClampNeg = nbo M454 op x498.toNatClampNeg := nbo_to _ (fun j _ => Fr.kpa f489 hk_op rfl j)
                have z503 : SEG M492 sg tq.toNatClampNeg le.toNatClampNeg x499.toNatClampNeg (nbo M492 op x498.toNatClampNeg + 1) := SEG.cast zg495 rfl (by rw [z506])
                have z504 : opK M492 op x498.toNatClampNeg := opK.to (opK.less z475 (by omega)) (fun j _ => Fr.kpa f489 hk_op rfl j)
                have zm495 := nbo_mono (M := M454) (op := op) x162.toNatClampNeg x498.toNatClampNeg (by omega)
                have q505 : ((nbo M492 op x498.toNatClampNeg + 1 : Nat) : Int) ≤ x137.toInt := by rw [z506]; have := q477; omega
                refine lv_aload_n hx hb dX12_tested_89 rfl (lv_at hl 2 rfl) ?_
                have k507 : R9 a0 20 = some op := (Fr.kp (k := 20) g12 hk_a0 rfl).trans k_op
                refine tw_getrk hx hb hW hown hK hS f_X12_35_11 hz_a0 hk_a0 (b := op) k507 dX12_tested_90 ?_
                refine lv_aload_n hx hb dX12_tested_93 rfl (lv_at hl 2 rfl) ?_
                refine tw_getk hx hb hW hown hK hS f_X12_188_11 hz_a0 hk_a0 (v := x498) k500 dX12_tested_94 ?_
                refine lv_iload_n hx hb dX12_tested_97 rfl (lv_at hl 0 rfl) ?_
                have h508 : iv 0 399 x498 := by
                  have := (h_le).1; have := (h_le).2; have := (h_md).1; have := (h_md).2; have := (h_nx).1; have := (h_nx).2; have := (h_tp).1; have := (h_tp).2; have := (h_tq).1; have := (h_tq).2; have := (h119).1; have := (h119).2; have := (h_x13).1; have := (h_x13).2; have := (h127).1; have := (h127).2; have := (h128).1; have := (h128).2; have := (h129).1; have := (h129).2; have := (h_x15).1; have := (h_x15).2; have := (h158).1; have := (h158).2; have := (h159).1; have := (h159).2; have := (h160).1; have := (h160).2; have := (h_x17).1; have := (h_x17).2; have := (h184).1; have := (h184).2; have := (h_x19).1; have := (h_x19).2; have := (h401).1; have := (h401).2; have := (h438).1; have := (h438).2; have := (h459).1; have := (h459).2; have := (h496).1; have := (h496).2; have := (h497).1; have := (h497).2; have := (h99).1; have := (h99).2; exact ⟨by omega, by omega⟩
                refine tw_iasx hx hb hK hS hz_op hk_op (Or.inl rfl) hn_op h508 ⟨by decide, by decide⟩ (iv_any _) (jl := 0) (jh := 1999999) ⟨by decide, by decide⟩ rfl dX12_tested_98 (fun H locs M512 hS k509 f510 e511 => ?_)
                have k513 : M512 a0 21 = x498 := (Fr.kp (k := 21) f510 hk_a0 rfl).trans k500
                refine lv_aload_n hx hb dX12_tested_99 rfl (lv_at hl 2 rfl) ?_
                refine lv_dup hx hb dX12_tested_100 rfl ?_
                refine tw_getk hx hb hW hown hK hS f_X12_188_11 hz_a0 hk_a0 (v := x498) k513 dX12_tested_101 ?_
                refine lv_iconst (v := 1) hx hb dX12_tested_104 (by decide) ?_
                refine tw_iadd (lo := 1) (hi := 400) hx hb h508 (iv_c (c := 1) (n := 1) (by decide)) ⟨by decide, by decide⟩ ⟨by decide, by decide⟩ dX12_tested_105 (fun x516 e515 h514 => ?_)
                have e515 : x516.toInt = x498.toInt + 1 := e515
                refine tw_puti hx hb hW hown hK hS f_X12_188_11 hz_a0 hk_a0 rfl rfl (lo := 0) (hi := 400) rfl (iv_mono h514 (by decide) (by decide)) rfl dX12_tested_106 (fun H locs M519 hS k517 f518 => ?_)
                have za519 := ti_cl (x := x498) (by have := (h508).1; omega); have zb519 := ti_cl (x := x516) (by have := (h514).1; omega)
                have zo519 : ∀ j, j < x498.toNatClampNeg → M519 op j = M492 op j := fun j hj => (Fr.kpa f518 hk_op rfl j).trans (by rw [e511]; exact u2_nk (by omega))
                have zv519 : M519 op x498.toNatClampNeg = 13 := (Fr.kpa f518 hk_op rfl _).trans (by rw [e511]; exact u2_same)
                have zn519 : nbo M519 op x516.toNatClampNeg = nbo M492 op x498.toNatClampNeg + 1 := by rw [nbo_two (x := x498.toNatClampNeg) (by omega) (by rw [zv519]; decide), nbo_to _ zo519]
                have z520 : SEG M519 sg tq.toNatClampNeg le.toNatClampNeg x499.toNatClampNeg (nbo M519 op x516.toNatClampNeg) := SEG.cast (SEG.to (SEG.to z503 (fun j _ _ => Fr.kpa f510 hk_sg rfl j)) (fun j _ _ => Fr.kpa f518 hk_sg rfl j)) rfl (by rw [zn519])
                have z521 : opK M519 op x516.toNatClampNeg := fun j hj => by by_cases q : j = x498.toNatClampNeg; (· rw [q, zv519]; decide); (· rw [zo519 j (by omega)]; exact z504 j (by omega))
                have q522 : ((nbo M519 op x516.toNatClampNeg : Nat) : Int) ≤ x137.toInt := by rw [zn519]; exact q505
                refine lv_goto (tgt := 12) hx hb dX12_tested_109 (by decide) ?_
                have k523 : M519 a0 13 = x460 := ((Fr.kp (k := 13) f518 hk_a0 rfl).trans ((Fr.kp (k := 13) f510 hk_a0 rfl).trans (Fr.kp (k := 13) f489 hk_a0 rfl))).trans k458
                have k524 : M519 lg tq.toNatClampNeg = x499 := ((Fr.kpa f518 hk_lg rfl tq.toNatClampNeg).trans (Fr.kpa f510 hk_lg rfl tq.toNatClampNeg)).trans k501
                have k525 : M519 a0 17 = x137 := ((Fr.kp (k := 17) f518 hk_a0 rfl).trans ((Fr.kp (k := 17) f510 hk_a0 rfl).trans (Fr.kp (k := 17) f489 hk_a0 rfl))).trans k483
                have w526 : nx.toInt ≤ x460.toInt ∧ x460.toInt ≤ tp.toInt ∧ x499.toInt + x516.toInt ≤ x460.toInt ∧ le.toInt ≤ x499.toInt := by
                  have := (h_le).1; have := (h_le).2; have := (h_md).1; have := (h_md).2; have := (h_nx).1; have := (h_nx).2; have := (h_tp).1; have := (h_tp).2; have := (h_tq).1; have := (h_tq).2; have := (h119).1; have := (h119).2; have := (h_x13).1; have := (h_x13).2; have := (h127).1; have := (h127).2; have := (h128).1; have := (h128).2; have := (h129).1; have := (h129).2; have := (h_x15).1; have := (h_x15).2; have := (h158).1; have := (h158).2; have := (h159).1; have := (h159).2; have := (h160).1; have := (h160).2; have := (h_x17).1; have := (h_x17).2; have := (h388).1; have := (h388).2; have := (h184).1; have := (h184).2; have := (h_x19).1; have := (h_x19).2; have := (h423).1; have := (h423).2; have := (h401).1; have := (h401).2; have := (h447).1; have := (h447).2; have := (h438).1; have := (h438).2; have := (h459).1; have := (h459).2; have := (h508).1; have := (h508).2; have := (h497).1; have := (h497).2; have := (h514).1; have := (h514).2; have := (h99).1; have := (h99).2; exact ⟨by omega, by omega, by omega, by omega⟩
                have w527 : ((1 : Int32).toInt = 1 ∧ SEG M519 sg tq.toNatClampNeg le.toNatClampNeg x499.toNatClampNeg (nbo M519 op x516.toNatClampNeg) ∧ ((nbo M519 op x516.toNatClampNeg : Nat) : Int) ≤ x137.toInt) ∨ ((1 : Int32).toInt = 0 ∧ SEG M519 sg tq.toNatClampNeg le.toNatClampNeg x499.toNatClampNeg (nbo M519 op x516.toNatClampNeg + 1) ∧ ((nbo M519 op x516.toNatClampNeg + 1 : Nat) : Int) ≤ x137.toInt) := Or.inl ⟨by decide, z520, q522⟩
                have w528 : ∀ j, j < 400 * tq.toNatClampNeg + le.toNatClampNeg → M519 sg j = Ma sg j := (fun j hj => (Fr.kpa f518 hk_sg rfl j).trans ((fun j hj => (Fr.kpa f510 hk_sg rfl j).trans (z502 j hj)) j hj))
                have w529 : opK M519 op x516.toNatClampNeg := z521
                have hm530 : 2 * (400 - x460.toInt) + (1 : Int32).toInt < (n_8 : Int) := by
                  have := (h_le).1; have := (h_le).2; have := (h_md).1; have := (h_md).2; have := (h_nx).1; have := (h_nx).2; have := (h_tp).1; have := (h_tp).2; have := (h_tq).1; have := (h_tq).2; have := (h119).1; have := (h119).2; have := (h_x13).1; have := (h_x13).2; have := (h127).1; have := (h127).2; have := (h128).1; have := (h128).2; have := (h129).1; have := (h129).2; have := (h_x15).1; have := (h_x15).2; have := (h158).1; have := (h158).2; have := (h159).1; have := (h159).2; have := (h160).1; have := (h160).2; have := (h_x17).1; have := (h_x17).2; have := (h388).1; have := (h388).2; have := (h184).1; have := (h184).2; have := (h_x19).1; have := (h_x19).2; have := (h423).1; have := (h423).2; have := (h401).1; have := (h401).2; have := (h447).1; have := (h447).2; have := (h438).1; have := (h438).2; have := (h459).1; have := (h459).2; have := (h508).1; have := (h508).2; have := (h497).1; have := (h497).2; have := (h99).1; have := (h99).2; have : (1 : Int32).toInt = 1 := (by decide); omega
                exact ih_8 1 x460 x516 x499 x137 M519 R9 J491 H locs _ (iv_mono (iv_c (c := 1) (n := 1) (by decide)) (by decide) (by decide)) h459 k523 (iv_mono h514 (by decide) (by decide)) k517 h497 k524 h136 k525 w526 w527 w528 w529 hm530 hS (lv_sub hl [1, 2] rfl)
              · have q531 : ¬ x435.toInt = 0 := ti_ne c445
                have h532 : iv 1 1 x435 := ⟨by have := (h_x435).1; have := ((iv_c (c := 0) (n := 0) (by decide))).1; have := ((iv_c (c := 0) (n := 0) (by decide))).2; omega, by have := (h_x435).2; have := ((iv_c (c := 0) (n := 0) (by decide))).1; have := ((iv_c (c := 0) (n := 0) (by decide))).2; omega⟩
                have z533 := z444 c445
                have q534 := z533.1
                refine lv_bipush (v := 12) hx hb dX12_tested_69 (by decide) ?_
                refine lv_goto (tgt := 76) hx hb dX12_tested_71 (by decide) ?_
                refine lv_istore_n (lv' := [(2, .int 12), (1, .int 1), (0, .ref (base + a0))]) hx hb dX12_tested_76 rfl hl (by decide) rfl (fun ls hl => ?_)
                refine lv_aload_n hx hb dX12_tested_77 rfl (lv_at hl 2 rfl) ?_
                have k535 : R9 a0 0 = some tb := (Fr.kp (k := 0) g12 hk_a0 rfl).trans k_tb
                have k536 : M432 a0 1 = tp := ((Fr.kp (k := 1) f429 hk_a0 rfl).trans ((Fr.kp (k := 1) f392 hk_a0 rfl).trans ((Fr.kp (k := 1) f175 hk_a0 rfl).trans ((Fr.kp (k := 1) f151 hk_a0 rfl).trans ((Fr.kp (k := 1) f110 hk_a0 rfl).trans (Fr.kp (k := 1) f11 hk_a0 rfl)))))).trans k_tp
                have q537 : x439.toInt ≤ tp.toInt := by
                  have := (h_le).1; have := (h_le).2; have := (h_md).1; have := (h_md).2; have := (h_nx).1; have := (h_nx).2; have := (h_tp).1; have := (h_tp).2; have := (h_tq).1; have := (h_tq).2; have := (h119).1; have := (h119).2; have := (h_x13).1; have := (h_x13).2; have := (h127).1; have := (h127).2; have := (h128).1; have := (h128).2; have := (h129).1; have := (h129).2; have := (h_x15).1; have := (h_x15).2; have := (h158).1; have := (h158).2; have := (h159).1; have := (h159).2; have := (h160).1; have := (h160).2; have := (h_x17).1; have := (h_x17).2; have := (h388).1; have := (h388).2; have := (h184).1; have := (h184).2; have := (h_x19).1; have := (h_x19).2; have := (h423).1; have := (h423).2; have := (h401).1; have := (h401).2; have := (h532).1; have := (h532).2; have := (h438).1; have := (h438).2; have := (h99).1; have := (h99).2; omega
                refine tw_gov hS (md_runV (As := []) (rest := []) hx hb hml hown hW hK hT hS.1 (t_X12_passWord l D cy tx base Z K N M432 R9 J431 hS.2.1 a0 hz_a0 hk_a0 tb k535 x439 k437 (iv_mono h438 (by decide) (by decide)) tp k536 (iv_mono h_tp (by decide) (by decide)) q537) s_X12_142 ⟨rfl, rfl, ⟨Nat.le_of_ble_eq_true rfl, Nat.le_of_ble_eq_true rfl⟩, ⟨Nat.le_of_ble_eq_true rfl, Nat.le_of_ble_eq_true rfl⟩⟩ hz_a0 hk_a0 (by decide) rfl rfl hl.1 rfl (Nat.le_of_ble_eq_true rfl) dX12_tested_78) rfl rfl (fun H locs M541 R542 J540 hS f538 g539 E543 => ?_)
                have eR542 := Fr.nil g539 rfl
                subst eR542
                have p544 := E543
                clear E543
                obtain ⟨x547, k545, h546, q548, z550⟩ := p544
                have k545 : M541 a0 13 = x547 := k545
                have q551 := z550 (chF.rf (chF.fr z533 hS.2.2.1 hk_tb rfl) f538 hk_tb rfl)
                refine lv_aload_n hx hb dX12_tested_81 rfl (lv_at hl 2 rfl) ?_
                refine lv_iload_n hx hb dX12_tested_82 rfl (lv_at hl 0 rfl) ?_
                refine tw_goi hS (md_runS (As := [.int 12]) (rest := [.ref (base + a0)]) hx hb hml hown hW hK hT hS.1 (t_X12_strength l D cy tx base Z K N M541 R9 J540 hS.2.1 12 (iv_mono (iv_c (c := 12) (n := 12) (by decide)) (by decide) (by decide))) s_X12_191 ⟨rfl, rfl, ⟨Nat.le_of_ble_eq_true rfl, Nat.le_of_ble_eq_true rfl⟩, ⟨Nat.le_of_ble_eq_true rfl, Nat.le_of_ble_eq_true rfl⟩⟩ rfl hl.1 rfl (Nat.le_of_ble_eq_true rfl) dX12_tested_83) rfl rfl (fun x558 H locs M555 R556 J554 hS f552 g553 E557 => ?_)
                have eM555 := Fr.nil f552 rfl
                subst eM555
                have eR556 := Fr.nil g553 rfl
                subst eR556
                obtain ⟨h_x558, p559⟩ := E557
                have q560 : (12 : Int32).toInt = 12 := (by decide)
                have z563 : nbo M541 op x162.toNatClampNeg = nbo M154 op x162.toNatClampNeg := ((nbo_to _ (fun j _ => Fr.kpa f538 hk_op rfl j)).trans ((nbo_to _ (fun j _ => Fr.kpa f429 hk_op rfl j)).trans ((nbo_to _ (fun j _ => Fr.kpa f392 hk_op rfl j)).trans (nbo_to _ (fun j _ => Fr.kpa f175 hk_op rfl j)))))
                have z561 : SEG M541 sg tq.toNatClampNeg le.toNatClampNeg x163.toNatClampNeg (nbo M541 op x162.toNatClampNeg + 1) := SEG.cast (SEG.to (SEG.to (SEG.to (SEG.to z168 (fun j _ _ => Fr.kpa f175 hk_sg rfl j)) (fun j _ _ => Fr.kpa f392 hk_sg rfl j)) (fun j _ _ => Fr.kpa f429 hk_sg rfl j)) (fun j _ _ => Fr.kpa f538 hk_sg rfl j)) rfl (by rw [z563])
                have z562 : opK M541 op x162.toNatClampNeg := (opK.to (opK.to (opK.to (opK.to z169 (fun j _ => Fr.kpa f175 hk_op rfl j)) (fun j _ => Fr.kpa f392 hk_op rfl j)) (fun j _ => Fr.kpa f429 hk_op rfl j)) (fun j _ => Fr.kpa f538 hk_op rfl j))
                have q564 : ((nbo M541 op x162.toNatClampNeg + 1 : Nat) : Int) ≤ x137.toInt := by rw [z563]; exact q170
                have h565 : iv 1 3 x558 := by
                  have := (h_le).1; have := (h_le).2; have := (h_md).1; have := (h_md).2; have := (h_nx).1; have := (h_nx).2; have := (h_tp).1; have := (h_tp).2; have := (h_tq).1; have := (h_tq).2; have := (h_x558).1; have := (h_x558).2; exact ⟨by omega, by omega⟩
                have k566 : R9 a0 4 = some lg := (Fr.kp (k := 4) g12 hk_a0 rfl).trans k_lg
                have k567 : R9 a0 3 = some sg := (Fr.kp (k := 3) g12 hk_a0 rfl).trans k_sg
                have k568 : M541 a0 16 = tq := ((Fr.kp (k := 16) f538 hk_a0 rfl).trans ((Fr.kp (k := 16) f429 hk_a0 rfl).trans ((Fr.kp (k := 16) f392 hk_a0 rfl).trans ((Fr.kp (k := 16) f175 hk_a0 rfl).trans ((Fr.kp (k := 16) f151 hk_a0 rfl).trans ((Fr.kp (k := 16) f110 hk_a0 rfl).trans (Fr.kp (k := 16) f11 hk_a0 rfl))))))).trans k_tq
                have k569 : M541 lg tq.toNatClampNeg = x163 := ((Fr.kpa f538 hk_lg rfl tq.toNatClampNeg).trans ((Fr.kpa f429 hk_lg rfl tq.toNatClampNeg).trans ((Fr.kpa f392 hk_lg rfl tq.toNatClampNeg).trans (Fr.kpa f175 hk_lg rfl tq.toNatClampNeg)))).trans k166
                have k570 : M541 a0 17 = x137 := ((Fr.kp (k := 17) f538 hk_a0 rfl).trans ((Fr.kp (k := 17) f429 hk_a0 rfl).trans ((Fr.kp (k := 17) f392 hk_a0 rfl).trans ((Fr.kp (k := 17) f175 hk_a0 rfl).trans (Fr.kp (k := 17) f151 hk_a0 rfl))))).trans k138
                have k571 : R9 a0 20 = some op := (Fr.kp (k := 20) g12 hk_a0 rfl).trans k_op
                have k572 : M541 a0 21 = x162 := ((Fr.kp (k := 21) f538 hk_a0 rfl).trans ((Fr.kp (k := 21) f429 hk_a0 rfl).trans ((Fr.kp (k := 21) f392 hk_a0 rfl).trans (Fr.kp (k := 21) f175 hk_a0 rfl)))).trans k165
                have q573 : ((le.toNatClampNeg : Nat) : Int) ≤ x163.toInt := by
                  have := (h_le).1; have := (h_le).2; have := (h_md).1; have := (h_md).2; have := (h_nx).1; have := (h_nx).2; have := (h_tp).1; have := (h_tp).2; have := (h_tq).1; have := (h_tq).2; have := (h119).1; have := (h119).2; have := (h_x13).1; have := (h_x13).2; have := (h127).1; have := (h127).2; have := (h128).1; have := (h128).2; have := (h129).1; have := (h129).2; have := (h_x15).1; have := (h_x15).2; have := (h158).1; have := (h158).2; have := (h159).1; have := (h159).2; have := (h160).1; have := (h160).2; have := (h_x17).1; have := (h_x17).2; have := (h184).1; have := (h184).2; have := (h_x19).1; have := (h_x19).2; have := (h401).1; have := (h401).2; have := (h438).1; have := (h438).2; have := (h546).1; have := (h546).2; have := (h99).1; have := (h99).2; have := ti_cl (x := le) (by omega); omega
                have q574 : ((nbo M541 op x162.toNatClampNeg + 1 : Nat) : Int) ≤ x137.toInt := by
                  have := (h_le).1; have := (h_le).2; have := (h_md).1; have := (h_md).2; have := (h_nx).1; have := (h_nx).2; have := (h_tp).1; have := (h_tp).2; have := (h_tq).1; have := (h_tq).2; have := (h119).1; have := (h119).2; have := (h_x13).1; have := (h_x13).2; have := (h127).1; have := (h127).2; have := (h128).1; have := (h128).2; have := (h129).1; have := (h129).2; have := (h136).1; have := (h136).2; have := (h_x15).1; have := (h_x15).2; have := (h158).1; have := (h158).2; have := (h159).1; have := (h159).2; have := (h160).1; have := (h160).2; have := (h_x17).1; have := (h_x17).2; have := (h184).1; have := (h184).2; have := (h_x19).1; have := (h_x19).2; have := (h401).1; have := (h401).2; have := (h438).1; have := (h438).2; have := (h546).1; have := (h546).2; have := (h99).1; have := (h99).2; omega
                have q575 : x163.toInt + x162.toInt ≤ x547.toInt := by
                  have := (h_le).1; have := (h_le).2; have := (h_md).1; have := (h_md).2; have := (h_nx).1; have := (h_nx).2; have := (h_tp).1; have := (h_tp).2; have := (h_tq).1; have := (h_tq).2; have := (h119).1; have := (h119).2; have := (h_x13).1; have := (h_x13).2; have := (h127).1; have := (h127).2; have := (h128).1; have := (h128).2; have := (h129).1; have := (h129).2; have := (h_x15).1; have := (h_x15).2; have := (h158).1; have := (h158).2; have := (h159).1; have := (h159).2; have := (h160).1; have := (h160).2; have := (h_x17).1; have := (h_x17).2; have := (h388).1; have := (h388).2; have := (h184).1; have := (h184).2; have := (h_x19).1; have := (h_x19).2; have := (h423).1; have := (h423).2; have := (h401).1; have := (h401).2; have := (h532).1; have := (h532).2; have := (h438).1; have := (h438).2; have := (h546).1; have := (h546).2; have := (h99).1; have := (h99).2; omega
                refine tw_gov hS (md_runV (As := [.int x558]) (rest := []) hx hb hml hown hW hK hT hS.1 (t_X12_settles l D cy tx base Z K N M541 R9 J554 hS.2.1 a0 hz_a0 hk_a0 x558 h565 x547 k545 (iv_mono h546 (by decide) (by decide)) lg k566 sg k567 tq k568 (iv_mono h_tq (by decide) (by decide)) x163 k569 (iv_mono h160 (by decide) (by decide)) x137 k570 (iv_mono h136 (by decide) (by decide)) op k571 x162 k572 (iv_mono h159 (by decide) (by decide)) (le.toNatClampNeg) (nbo M541 op x162.toNatClampNeg + 1) z561 q573 q574 q575 z562 rfl) s_X12_227 ⟨rfl, rfl, ⟨Nat.le_of_ble_eq_true rfl, Nat.le_of_ble_eq_true rfl⟩, ⟨Nat.le_of_ble_eq_true rfl, Nat.le_of_ble_eq_true rfl⟩⟩ hz_a0 hk_a0 (by decide) rfl rfl hl.1 rfl (Nat.le_of_ble_eq_true rfl) dX12_tested_86) rfl rfl (fun H locs M579 R580 J578 hS f576 g577 E581 => ?_)
                have eR580 := Fr.nil g577 rfl
                subst eR580
                have p582 := E581
                clear E581
                obtain ⟨x585, x586, k587, k588, h583, h584, zr582, zg582, zf582, zz582, zl582⟩ := p582
                have k587 : M579 a0 21 = x585 := k587
                have k588 : M579 lg tq.toNatClampNeg = x586 := k588
                have zw582 := ti_cl (x := le) (by have := h_le.1; omega); have zy582 := ti_cl (x := x163) (by have := (h160).1; omega)
                have z589 : ∀ j, j < 400 * tq.toNatClampNeg + le.toNatClampNeg → M579 sg j = Ma sg j := fun j hj => (zf582 j (by omega)).trans ((fun j hj => (Fr.kpa f538 hk_sg rfl j).trans ((fun j hj => (Fr.kpa f429 hk_sg rfl j).trans ((fun j hj => (Fr.kpa f392 hk_sg rfl j).trans ((fun j hj => (Fr.kpa f175 hk_sg rfl j).trans (z167 j hj)) j hj)) j hj)) j hj)) j hj)
                have zb582 := ti_cl (x := x585) (by have := (h583).1; omega); have zc582 := ti_cl (x := x162) (by have := (h159).1; omega)
                have z593 : nbo M579 op x585.toNatClampNeg = nbo M541 op x585.toNatClampNeg := nbo_to _ (fun j _ => Fr.kpa f576 hk_op rfl j)
                have z590 : SEG M579 sg tq.toNatClampNeg le.toNatClampNeg x586.toNatClampNeg (nbo M579 op x585.toNatClampNeg + 1) := SEG.cast zg582 rfl (by rw [z593])
                have z591 : opK M579 op x585.toNatClampNeg := opK.to (opK.less z562 (by omega)) (fun j _ => Fr.kpa f576 hk_op rfl j)
                have zm582 := nbo_mono (M := M541) (op := op) x162.toNatClampNeg x585.toNatClampNeg (by omega)
                have q592 : ((nbo M579 op x585.toNatClampNeg + 1 : Nat) : Int) ≤ x137.toInt := by rw [z593]; have := q564; omega
                refine lv_aload_n hx hb dX12_tested_89 rfl (lv_at hl 2 rfl) ?_
                have k594 : R9 a0 20 = some op := (Fr.kp (k := 20) g12 hk_a0 rfl).trans k_op
                refine tw_getrk hx hb hW hown hK hS f_X12_35_11 hz_a0 hk_a0 (b := op) k594 dX12_tested_90 ?_
                refine lv_aload_n hx hb dX12_tested_93 rfl (lv_at hl 2 rfl) ?_
                refine tw_getk hx hb hW hown hK hS f_X12_188_11 hz_a0 hk_a0 (v := x585) k587 dX12_tested_94 ?_
                refine lv_iload_n hx hb dX12_tested_97 rfl (lv_at hl 0 rfl) ?_
                have h595 : iv 0 399 x585 := by
                  have := (h_le).1; have := (h_le).2; have := (h_md).1; have := (h_md).2; have := (h_nx).1; have := (h_nx).2; have := (h_tp).1; have := (h_tp).2; have := (h_tq).1; have := (h_tq).2; have := (h119).1; have := (h119).2; have := (h_x13).1; have := (h_x13).2; have := (h127).1; have := (h127).2; have := (h128).1; have := (h128).2; have := (h129).1; have := (h129).2; have := (h_x15).1; have := (h_x15).2; have := (h158).1; have := (h158).2; have := (h159).1; have := (h159).2; have := (h160).1; have := (h160).2; have := (h_x17).1; have := (h_x17).2; have := (h184).1; have := (h184).2; have := (h_x19).1; have := (h_x19).2; have := (h401).1; have := (h401).2; have := (h438).1; have := (h438).2; have := (h546).1; have := (h546).2; have := (h583).1; have := (h583).2; have := (h584).1; have := (h584).2; have := (h99).1; have := (h99).2; exact ⟨by omega, by omega⟩
                refine tw_iasx hx hb hK hS hz_op hk_op (Or.inl rfl) hn_op h595 ⟨by decide, by decide⟩ (iv_any _) (jl := 0) (jh := 1999999) ⟨by decide, by decide⟩ rfl dX12_tested_98 (fun H locs M599 hS k596 f597 e598 => ?_)
                have k600 : M599 a0 21 = x585 := (Fr.kp (k := 21) f597 hk_a0 rfl).trans k587
                refine lv_aload_n hx hb dX12_tested_99 rfl (lv_at hl 2 rfl) ?_
                refine lv_dup hx hb dX12_tested_100 rfl ?_
                refine tw_getk hx hb hW hown hK hS f_X12_188_11 hz_a0 hk_a0 (v := x585) k600 dX12_tested_101 ?_
                refine lv_iconst (v := 1) hx hb dX12_tested_104 (by decide) ?_
                refine tw_iadd (lo := 1) (hi := 400) hx hb h595 (iv_c (c := 1) (n := 1) (by decide)) ⟨by decide, by decide⟩ ⟨by decide, by decide⟩ dX12_tested_105 (fun x603 e602 h601 => ?_)
                have e602 : x603.toInt = x585.toInt + 1 := e602
                refine tw_puti hx hb hW hown hK hS f_X12_188_11 hz_a0 hk_a0 rfl rfl (lo := 0) (hi := 400) rfl (iv_mono h601 (by decide) (by decide)) rfl dX12_tested_106 (fun H locs M606 hS k604 f605 => ?_)
                have za606 := ti_cl (x := x585) (by have := (h595).1; omega); have zb606 := ti_cl (x := x603) (by have := (h601).1; omega)
                have zo606 : ∀ j, j < x585.toNatClampNeg → M606 op j = M579 op j := fun j hj => (Fr.kpa f605 hk_op rfl j).trans (by rw [e598]; exact u2_nk (by omega))
                have zv606 : M606 op x585.toNatClampNeg = 12 := (Fr.kpa f605 hk_op rfl _).trans (by rw [e598]; exact u2_same)
                have zn606 : nbo M606 op x603.toNatClampNeg = nbo M579 op x585.toNatClampNeg + 1 := by rw [nbo_two (x := x585.toNatClampNeg) (by omega) (by rw [zv606]; decide), nbo_to _ zo606]
                have z607 : SEG M606 sg tq.toNatClampNeg le.toNatClampNeg x586.toNatClampNeg (nbo M606 op x603.toNatClampNeg) := SEG.cast (SEG.to (SEG.to z590 (fun j _ _ => Fr.kpa f597 hk_sg rfl j)) (fun j _ _ => Fr.kpa f605 hk_sg rfl j)) rfl (by rw [zn606])
                have z608 : opK M606 op x603.toNatClampNeg := fun j hj => by by_cases q : j = x585.toNatClampNeg; (· rw [q, zv606]; decide); (· rw [zo606 j (by omega)]; exact z591 j (by omega))
                have q609 : ((nbo M606 op x603.toNatClampNeg : Nat) : Int) ≤ x137.toInt := by rw [zn606]; exact q592
                refine lv_goto (tgt := 12) hx hb dX12_tested_109 (by decide) ?_
                have k610 : M606 a0 13 = x547 := ((Fr.kp (k := 13) f605 hk_a0 rfl).trans ((Fr.kp (k := 13) f597 hk_a0 rfl).trans (Fr.kp (k := 13) f576 hk_a0 rfl))).trans k545
                have k611 : M606 lg tq.toNatClampNeg = x586 := ((Fr.kpa f605 hk_lg rfl tq.toNatClampNeg).trans (Fr.kpa f597 hk_lg rfl tq.toNatClampNeg)).trans k588
                have k612 : M606 a0 17 = x137 := ((Fr.kp (k := 17) f605 hk_a0 rfl).trans ((Fr.kp (k := 17) f597 hk_a0 rfl).trans (Fr.kp (k := 17) f576 hk_a0 rfl))).trans k570
                have w613 : nx.toInt ≤ x547.toInt ∧ x547.toInt ≤ tp.toInt ∧ x586.toInt + x603.toInt ≤ x547.toInt ∧ le.toInt ≤ x586.toInt := by
                  have := (h_le).1; have := (h_le).2; have := (h_md).1; have := (h_md).2; have := (h_nx).1; have := (h_nx).2; have := (h_tp).1; have := (h_tp).2; have := (h_tq).1; have := (h_tq).2; have := (h119).1; have := (h119).2; have := (h_x13).1; have := (h_x13).2; have := (h127).1; have := (h127).2; have := (h128).1; have := (h128).2; have := (h129).1; have := (h129).2; have := (h_x15).1; have := (h_x15).2; have := (h158).1; have := (h158).2; have := (h159).1; have := (h159).2; have := (h160).1; have := (h160).2; have := (h_x17).1; have := (h_x17).2; have := (h388).1; have := (h388).2; have := (h184).1; have := (h184).2; have := (h_x19).1; have := (h_x19).2; have := (h423).1; have := (h423).2; have := (h401).1; have := (h401).2; have := (h532).1; have := (h532).2; have := (h438).1; have := (h438).2; have := (h546).1; have := (h546).2; have := (h595).1; have := (h595).2; have := (h584).1; have := (h584).2; have := (h601).1; have := (h601).2; have := (h99).1; have := (h99).2; exact ⟨by omega, by omega, by omega, by omega⟩
                have w614 : ((1 : Int32).toInt = 1 ∧ SEG M606 sg tq.toNatClampNeg le.toNatClampNeg x586.toNatClampNeg (nbo M606 op x603.toNatClampNeg) ∧ ((nbo M606 op x603.toNatClampNeg : Nat) : Int) ≤ x137.toInt) ∨ ((1 : Int32).toInt = 0 ∧ SEG M606 sg tq.toNatClampNeg le.toNatClampNeg x586.toNatClampNeg (nbo M606 op x603.toNatClampNeg + 1) ∧ ((nbo M606 op x603.toNatClampNeg + 1 : Nat) : Int) ≤ x137.toInt) := Or.inl ⟨by decide, z607, q609⟩
                have w615 : ∀ j, j < 400 * tq.toNatClampNeg + le.toNatClampNeg → M606 sg j = Ma sg j := (fun j hj => (Fr.kpa f605 hk_sg rfl j).trans ((fun j hj => (Fr.kpa f597 hk_sg rfl j).trans (z589 j hj)) j hj))
                have w616 : opK M606 op x603.toNatClampNeg := z608
                have hm617 : 2 * (400 - x547.toInt) + (1 : Int32).toInt < (n_8 : Int) := by
                  have := (h_le).1; have := (h_le).2; have := (h_md).1; have := (h_md).2; have := (h_nx).1; have := (h_nx).2; have := (h_tp).1; have := (h_tp).2; have := (h_tq).1; have := (h_tq).2; have := (h119).1; have := (h119).2; have := (h_x13).1; have := (h_x13).2; have := (h127).1; have := (h127).2; have := (h128).1; have := (h128).2; have := (h129).1; have := (h129).2; have := (h_x15).1; have := (h_x15).2; have := (h158).1; have := (h158).2; have := (h159).1; have := (h159).2; have := (h160).1; have := (h160).2; have := (h_x17).1; have := (h_x17).2; have := (h388).1; have := (h388).2; have := (h184).1; have := (h184).2; have := (h_x19).1; have := (h_x19).2; have := (h423).1; have := (h423).2; have := (h401).1; have := (h401).2; have := (h532).1; have := (h532).2; have := (h438).1; have := (h438).2; have := (h546).1; have := (h546).2; have := (h595).1; have := (h595).2; have := (h584).1; have := (h584).2; have := (h99).1; have := (h99).2; have : (1 : Int32).toInt = 1 := (by decide); omega
                exact ih_8 1 x547 x603 x586 x137 M606 R9 J578 H locs _ (iv_mono (iv_c (c := 1) (n := 1) (by decide)) (by decide) (by decide)) h546 k610 (iv_mono h601 (by decide) (by decide)) k604 h584 k611 h136 k612 w613 w614 w615 w616 hm617 hS (lv_sub hl [1, 2] rfl)
        · have q618 : x116.toInt = 0 := ti_eq c124
          have z619 := z123 c124
          have h620 : iv 0 0 x116 := ⟨by have := (h_x116).1; have := ((iv_c (c := 0) (n := 0) (by decide))).1; omega, by have := (h_x116).2; have := ((iv_c (c := 0) (n := 0) (by decide))).2; omega⟩
          refine lv_iconst (v := 0) hx hb dX12_tested_23 (by decide) ?_
          have q621 : nx.toInt ≤ x120.toInt ∧ x120.toInt ≤ tp.toInt := by
            have := (h_le).1; have := (h_le).2; have := (h_md).1; have := (h_md).2; have := (h_nx).1; have := (h_nx).2; have := (h_tp).1; have := (h_tp).2; have := (h_tq).1; have := (h_tq).2; have := (h119).1; have := (h119).2; have := (h_x13).1; have := (h_x13).2; have := (h_x15).1; have := (h_x15).2; have := (h_x17).1; have := (h_x17).2; have := (h_x19).1; have := (h_x19).2; have := (h99).1; have := (h99).2; exact ⟨by omega, by omega⟩
          exact tw_endz hx hb hr hlocks hK hT hS hQ rfl (⟨(iv_mono (iv_c (c := 0) (n := 0) (by decide)) (by decide) (by decide)), ⟨⟨x120, k121, h119, q621.1, q621.2⟩, z122, (fun h => absurd rfl h)⟩, (fun _ => (show ¬ (M113 a0 14).toInt = 0 from z619))⟩) dX12_tested_24
  have k622 : M6 a0 13 = nx := ((Fr.kp (k := 13) f5 hk_a0 rfl).trans (Fr.kp (k := 13) f2 hk_a0 rfl)).trans k_nx
  have k623 : M6 a0 21 = 0 := (Fr.kp (k := 21) f5 hk_a0 rfl).trans k1
  have k624 : M6 lg tq.toNatClampNeg = le := ((Fr.kpa f5 hk_lg rfl tq.toNatClampNeg).trans (Fr.kpa f2 hk_lg rfl tq.toNatClampNeg)).trans k_le
  have k625 : M6 a0 17 = md := ((Fr.kp (k := 17) f5 hk_a0 rfl).trans (Fr.kp (k := 17) f2 hk_a0 rfl)).trans k_md
  have w626 : nx.toInt ≤ nx.toInt ∧ nx.toInt ≤ tp.toInt ∧ le.toInt + (0 : Int32).toInt ≤ nx.toInt ∧ le.toInt ≤ le.toInt := by
    have := (h_le).1; have := (h_le).2; have := (h_md).1; have := (h_md).2; have := (h_nx).1; have := (h_nx).2; have := (h_tp).1; have := (h_tp).2; have := (h_tq).1; have := (h_tq).2; have : (0 : Int32).toInt = 0 := (by decide); exact ⟨by omega, by omega, by omega, by omega⟩
  have w627 : ((1 : Int32).toInt = 1 ∧ SEG M6 sg tq.toNatClampNeg le.toNatClampNeg le.toNatClampNeg (nbo M6 op (0 : Int32).toNatClampNeg) ∧ ((nbo M6 op (0 : Int32).toNatClampNeg : Nat) : Int) ≤ md.toInt) ∨ ((1 : Int32).toInt = 0 ∧ SEG M6 sg tq.toNatClampNeg le.toNatClampNeg le.toNatClampNeg (nbo M6 op (0 : Int32).toNatClampNeg + 1) ∧ ((nbo M6 op (0 : Int32).toNatClampNeg + 1 : Nat) : Int) ≤ md.toInt) := Or.inl ⟨by decide, SEG.new, by have := h_md.1; show ((0 : Nat) : Int) ≤ _; omega⟩
  have w628 : ∀ j, j < 400 * tq.toNatClampNeg + le.toNatClampNeg → M6 sg j = Ma sg j := (fun j hj => (Fr.kpa f5 hk_sg rfl j).trans ((fun j hj => (Fr.kpa f2 hk_sg rfl j).trans ((fun j _ => rfl) j hj)) j hj))
  have w629 : opK M6 op (0 : Int32).toNatClampNeg := fun j hj => absurd hj (by have : (0 : Int32).toNatClampNeg = 0 := (by decide); omega)
  have hm630 : 2 * (400 - nx.toInt) + (1 : Int32).toInt < (((802 : Nat) : Int) : Int) := by
    have := (h_le).1; have := (h_le).2; have := (h_md).1; have := (h_md).2; have := (h_nx).1; have := (h_nx).2; have := (h_tp).1; have := (h_tp).2; have := (h_tq).1; have := (h_tq).2; have : (1 : Int32).toInt = 1 := (by decide); omega
  exact W12_8 802 1 nx 0 le md M6 Ra Ja H locs _ (iv_mono (iv_c (c := 1) (n := 1) (by decide)) (by decide) (by decide)) h_nx k622 (iv_mono (iv_c (c := 0) (n := 0) (by decide)) (by decide) (by decide)) k623 h_le k624 h_md k625 w626 w627 w628 w629 hm630 hS hl
