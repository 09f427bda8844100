def Lt_X12_compare : WL := [(12, 13, 16), (12, 17, 18), (25, 0, 2000000), (26, 0, 2000000)]
def LRt_X12_compare : WL := []
set_option maxRecDepth 100000 in
set_option maxHeartbeats 4000000 in
theorem t_X12_compare (l : Launch) (D : va_G) (cy : Nat → ClassId) (tx : (Nat → Nat) × (Nat → Nat)) (base Z : Nat) (K N : Nat → Nat) (Ma : MT) (Ra : RT) (Ja : JT) (hTy : Ty Z K N Ma Ra) (a0 : Nat) (hz_a0 : a0 < Z) (hk_a0 : K a0 = 12) (tb : Nat) (k_tb : Ra a0 0 = some tb) (nx : Int32) (k_nx : Ma a0 13 = nx) (h_nx : iv 0 400 nx) (tp : Int32) (k_tp : Ma a0 1 = tp) (h_tp : iv 0 400 tp) (hnt : nx.toInt ≤ tp.toInt) (lg : Nat) (k_lg : Ra a0 4 = some lg) (sg : Nat) (k_sg : Ra a0 3 = some sg) (tx : Int32) (k_tx : Ma a0 16 = tx) (h_tx : iv 0 5 tx) (le : Int32) (k_le : Ma lg tx.toNatClampNeg = le) (h_le : iv 0 400 le) (md : Int32) (k_md : Ma a0 17 = md) (h_md : iv 0 60 md) (sb : Nat) (sh : Nat) (hseg : SEG Ma sg tx.toNatClampNeg sb le.toNatClampNeg sh) (hsb : (sb : Int) ≤ le.toInt) (hsh : (sh : Int) ≤ md.toInt) (hle : le.toInt ≤ nx.toInt) : Met l yX12_compare [Cond.code yX12_compare cX12_compare 5 (some .boolean)] (md_rm 7 0 0) (va_Pc [.ref (base + a0)] (md_U D cy tx base Z K N Ma Ra Ja)) (mQi D cy tx base (fun r u => TP Z K N Lt_X12_compare LRt_X12_compare Ma Ra u ∧ (iv 0 1 r ∧ ((∀ j, j < 400 * tx.toNatClampNeg + le.toNatClampNeg → u.2.2.2.1 sg j = Ma sg j) ∧ (∃ x0 : Int32, u.2.2.2.1 a0 13 = x0 ∧ iv 0 400 x0 ∧ nx.toInt ≤ x0.toInt ∧ x0.toInt ≤ tp.toInt) ∧ (¬ r = 0 → ∃ x0 x1 x2 : Int32, u.2.2.2.1 a0 13 = x0 ∧ u.2.2.2.1 lg tx.toNatClampNeg = x1 ∧ u.2.2.2.1 a0 17 = x2 ∧ iv 0 400 x1 ∧ le.toInt ≤ x1.toInt ∧ x1.toInt - le.toInt ≤ x0.toInt - nx.toInt ∧ ((sh + 1 : Nat) : Int) ≤ x2.toInt ∧ SEG u.2.2.2.1 sg tx.toNatClampNeg sb x1.toNatClampNeg (sh + 1)))))) 0 0 (fun q => base ≤ q) := by
  refine tw_ofW (L := Lt_X12_compare) (LR := LRt_X12_compare) (by decide) (Nat.le_of_ble_eq_true rfl) hTy ?_
  intro p e s m args below meth c Q ls hx hb hr hlocks hown hml hW hK hT hS hQ hl
  have hl : lv_has ls 5 [(0, .ref (base + a0))] := hl
  obtain ⟨hz_tb, hk_tb, hn_tb⟩ := hTy.refn hz_a0 hk_a0 (show rtR 12 0 = (13, 400, 0) from rfl) k_tb
  have hn_tb := hn_tb (by decide)
  obtain ⟨hz_lg, hk_lg, hn_lg⟩ := hTy.refn hz_a0 hk_a0 (show rtR 12 4 = (26, 7, 0) from rfl) k_lg
  have hn_lg := hn_lg (by decide)
  obtain ⟨hz_sg, hk_sg, hn_sg⟩ := hTy.refn hz_a0 hk_a0 (show rtR 12 3 = (25, 2400, 0) from rfl) k_sg
  have hn_sg := hn_sg (by decide)
  refine lv_aload_n hx hb dX12_compare_0 rfl (lv_at hl 0 rfl) ?_
  have q1 : nx.toInt ≤ tp.toInt := by
    have := (h_le).1; have := (h_le).2; have := (h_md).1; have := (h_md).2; have := (h_nx).1; have := (h_nx).2; have := (h_tp).1; have := (h_tp).2; have := (h_tx).1; have := (h_tx).2; omega
  have q2 : ((sb : Nat) : Int) ≤ le.toInt := by
    have := (h_le).1; have := (h_le).2; have := (h_md).1; have := (h_md).2; have := (h_nx).1; have := (h_nx).2; have := (h_tp).1; have := (h_tp).2; have := (h_tx).1; have := (h_tx).2; omega
  have q3 : ((sh : Nat) : Int) ≤ md.toInt := by
    have := (h_le).1; have := (h_le).2; have := (h_md).1; have := (h_md).2; have := (h_nx).1; have := (h_nx).2; have := (h_tp).1; have := (h_tp).2; have := (h_tx).1; have := (h_tx).2; omega
  have q4 : le.toInt ≤ nx.toInt := by
    have := (h_le).1; have := (h_le).2; have := (h_md).1; have := (h_md).2; have := (h_nx).1; have := (h_nx).2; have := (h_tp).1; have := (h_tp).2; have := (h_tx).1; have := (h_tx).2; omega
  refine tw_goi hS (md_runV (As := []) (rest := []) hx hb hml hown hW hK hT hS.1 (t_X12_sum l D cy tx base Z K N Ma Ra Ja hS.2.1 a0 hz_a0 hk_a0 tb k_tb nx k_nx (iv_mono h_nx (by decide) (by decide)) tp k_tp (iv_mono h_tp (by decide) (by decide)) q1 lg k_lg sg k_sg tx k_tx (iv_mono h_tx (by decide) (by decide)) le k_le (iv_mono h_le (by decide) (by decide)) md k_md (iv_mono h_md (by decide) (by decide)) (sb) (sh) hseg q2 q3 q4) s_X12_216 ⟨rfl, rfl, ⟨Nat.le_of_ble_eq_true rfl, Nat.le_of_ble_eq_true rfl⟩, ⟨Nat.le_of_ble_eq_true rfl, Nat.le_of_ble_eq_true rfl⟩⟩ hz_a0 hk_a0 (by decide) rfl rfl hl.1 rfl (Nat.le_of_ble_eq_true rfl) dX12_compare_1) rfl rfl (fun x11 H locs M8 R9 J7 hS f5 g6 E10 => ?_)
  have eR9 := Fr.nil g6 rfl
  subst eR9
  obtain ⟨h_x11, p12⟩ := E10
  obtain ⟨zf12, ⟨x14, k15, h13, zu12, zv12⟩, zc12⟩ := p12
  have k15 : M8 a0 13 = x14 := k15
  have zw12 := ti_cl (x := le) (by have := h_le.1; omega); have zy12 := ti_cl (x := le) (by have := (h_le).1; omega)
  have z16 : ∀ j, j < 400 * tx.toNatClampNeg + le.toNatClampNeg → M8 sg j = Ma sg j := fun j hj => (zf12 j (by omega)).trans ((fun j _ => rfl) j hj)
  refine lv_if_ne (tgt := 9) hx hb dX12_compare_4 (by decide) (fun c17 => ?_) (fun c17 => ?_)
  · have q18 : ¬ x11.toInt = 0 := ti_ne c17
    have h19 : iv 1 1 x11 := ⟨by have := (h_x11).1; have := ((iv_c (c := 0) (n := 0) (by decide))).1; have := ((iv_c (c := 0) (n := 0) (by decide))).2; omega, by have := (h_x11).2; have := ((iv_c (c := 0) (n := 0) (by decide))).1; have := ((iv_c (c := 0) (n := 0) (by decide))).2; omega⟩
    obtain ⟨x26, x22, x23, k27, k24, k25, h20, za19, zb19, zd19, z28⟩ := zc12 c17
    have ze19 : x26 = x14 := k27.symm.trans k15
    rw [ze19] at zb19
    have k24 : M8 lg tx.toNatClampNeg = x22 := k24
    have k25 : M8 a0 17 = x23 := k25
    have h21 : iv 0 60 x23 := by rw [← k25]; exact hS.2.1.int hz_a0 hk_a0 (show rgI 12 17 = (0, 60) from rfl)
    refine lv_aload_n hx hb dX12_compare_9 rfl (lv_at hl 0 rfl) ?_
    have k29 : M8 a0 1 = tp := (Fr.kp (k := 1) f5 hk_a0 rfl).trans k_tp
    have q30 : x14.toInt ≤ tp.toInt := by
      have := (h_le).1; have := (h_le).2; have := (h_md).1; have := (h_md).2; have := (h_nx).1; have := (h_nx).2; have := (h_tp).1; have := (h_tp).2; have := (h_tx).1; have := (h_tx).2; have := (h13).1; have := (h13).2; have := (h20).1; have := (h20).2; omega
    refine tw_goi hS (md_runV (As := []) (rest := []) hx hb hml hown hW hK hT hS.1 (t_X12_see l D cy tx base Z K N M8 Ra J7 hS.2.1 a0 hz_a0 hk_a0 tb k_tb x14 k15 (iv_mono h13 (by decide) (by decide)) tp k29 (iv_mono h_tp (by decide) (by decide)) q30) s_X12_130 ⟨rfl, rfl, ⟨Nat.le_of_ble_eq_true rfl, Nat.le_of_ble_eq_true rfl⟩, ⟨Nat.le_of_ble_eq_true rfl, Nat.le_of_ble_eq_true rfl⟩⟩ hz_a0 hk_a0 (by decide) rfl rfl hl.1 rfl (Nat.le_of_ble_eq_true rfl) dX12_compare_10) rfl rfl (fun x37 H locs M34 R35 J33 hS f31 g32 E36 => ?_)
    have eR35 := Fr.nil g32 rfl
    subst eR35
    obtain ⟨h_x37, p38⟩ := E36
    obtain ⟨x41, k39, h40, q42, z43⟩ := p38
    have k39 : M34 a0 13 = x41 := k39
    refine lv_istore_n (lv' := [(1, .int x37), (0, .ref (base + a0))]) hx hb dX12_compare_13 rfl hl (by decide) rfl (fun ls hl => ?_)
    refine lv_aload_n hx hb dX12_compare_14 rfl (lv_at hl 1 rfl) ?_
    refine tw_getk hx hb hW hown hK hS f_X12_127_11 hz_a0 hk_a0 (v := x41) k39 dX12_compare_15 ?_
    refine lv_istore_n (lv' := [(2, .int x41), (1, .int x37), (0, .ref (base + a0))]) hx hb dX12_compare_18 rfl hl (by decide) rfl (fun ls hl => ?_)
    refine lv_iload_n hx hb dX12_compare_19 rfl (lv_at hl 1 rfl) ?_
    refine lv_bipush (v := 60) hx hb dX12_compare_20 (by decide) ?_
    refine lv_icmp_eq (tgt := 44) hx hb dX12_compare_22 (by decide) (fun c45 => ?_) (fun c45 => ?_)
    · have q46 : x37.toInt = 60 := ti_eq c45
      have h47 : iv 60 60 x37 := ⟨by have := (h_x37).1; have := ((iv_c (c := 60) (n := 60) (by decide))).1; omega, by have := (h_x37).2; have := ((iv_c (c := 60) (n := 60) (by decide))).2; omega⟩
      refine lv_aload_n hx hb dX12_compare_44 rfl (lv_at hl 2 rfl) ?_
      refine lv_dup hx hb dX12_compare_45 rfl ?_
      refine tw_getk hx hb hW hown hK hS f_X12_127_11 hz_a0 hk_a0 (v := x41) k39 dX12_compare_46 ?_
      refine lv_iconst (v := 1) hx hb dX12_compare_49 (by decide) ?_
      refine tw_iadd (lo := 1) (hi := 401) hx hb h40 (iv_c (c := 1) (n := 1) (by decide)) ⟨by decide, by decide⟩ ⟨by decide, by decide⟩ dX12_compare_50 (fun x50 e49 h48 => ?_)
      have e49 : x50.toInt = x41.toInt + 1 := e49
      have h53 : iv 0 400 x50 := by
        have := (h_le).1; have := (h_le).2; have := (h_md).1; have := (h_md).2; have := (h_nx).1; have := (h_nx).2; have := (h_tp).1; have := (h_tp).2; have := (h_tx).1; have := (h_tx).2; have := (h13).1; have := (h13).2; have := (h20).1; have := (h20).2; have := (h47).1; have := (h47).2; have := (h40).1; have := (h40).2; have := (h48).1; have := (h48).2; exact ⟨by omega, by omega⟩
      refine tw_puti hx hb hW hown hK hS f_X12_127_11 hz_a0 hk_a0 rfl rfl (lo := 0) (hi := 400) rfl h53 rfl dX12_compare_51 (fun H locs M54 hS k51 f52 => ?_)
      refine lv_iload_n hx hb dX12_compare_54 rfl (lv_at hl 1 rfl) ?_
      refine lv_bipush (v := 61) hx hb dX12_compare_55 (by decide) ?_
      refine lv_icmp_eq (tgt := 89) hx hb dX12_compare_57 (by decide) (fun c55 => False.elim (by have q : x37.toInt = 61 := ti_eq c55; have := (h47).1; have := (h47).2; omega)) (fun c55 => ?_)
      have q56 : ¬ x37.toInt = 61 := ti_ne c55
      refine lv_aload_n hx hb dX12_compare_60 rfl (lv_at hl 2 rfl) ?_
      refine tw_getk hx hb hW hown hK hS f_X12_127_11 hz_a0 hk_a0 (v := x50) k51 dX12_compare_61 ?_
      refine lv_aload_n hx hb dX12_compare_64 rfl (lv_at hl 2 rfl) ?_
      have k57 : M54 a0 1 = tp := ((Fr.kp (k := 1) f52 hk_a0 rfl).trans ((Fr.kp (k := 1) f31 hk_a0 rfl).trans (Fr.kp (k := 1) f5 hk_a0 rfl))).trans k_tp
      refine tw_getk hx hb hW hown hK hS f_X12_116_11 hz_a0 hk_a0 (v := tp) k57 dX12_compare_65 ?_
      refine lv_icmp_ge (tgt := 89) hx hb dX12_compare_68 (by decide) (fun c58 => ?_) (fun c58 => ?_)
      · have q59 : tp.toInt ≤ x50.toInt := ti_le c58
        refine lv_iconst (v := 0) hx hb dX12_compare_89 (by decide) ?_
        refine lv_istore_n (lv' := [(3, .int 0), (2, .int x41), (1, .int x37), (0, .ref (base + a0))]) hx hb dX12_compare_90 rfl hl (by decide) rfl (fun ls hl => ?_)
        refine lv_iload_n hx hb dX12_compare_91 rfl (lv_at hl 0 rfl) ?_
        refine lv_if_eq (tgt := 105) hx hb dX12_compare_92 (by decide) (fun _ => ?_) (fun h => absurd h (by decide))
        refine lv_aload_n hx hb dX12_compare_105 rfl (lv_at hl 3 rfl) ?_
        refine lv_iload_n hx hb dX12_compare_106 rfl (lv_at hl 1 rfl) ?_
        have k60 : M54 a0 17 = x23 := ((Fr.kp (k := 17) f52 hk_a0 rfl).trans (Fr.kp (k := 17) f31 hk_a0 rfl)).trans k25
        refine tw_goi hS (md_runV (As := [.int x41]) (rest := []) hx hb hml hown hW hK hT hS.1 (t_X12_makes l D cy tx base Z K N M54 Ra J33 hS.2.1 a0 hz_a0 hk_a0 x41 h40 x23 k60 (iv_mono h21 (by decide) (by decide))) s_X12_203 ⟨rfl, rfl, ⟨Nat.le_of_ble_eq_true rfl, Nat.le_of_ble_eq_true rfl⟩, ⟨Nat.le_of_ble_eq_true rfl, Nat.le_of_ble_eq_true rfl⟩⟩ hz_a0 hk_a0 (by decide) rfl rfl hl.1 rfl (Nat.le_of_ble_eq_true rfl) dX12_compare_107) rfl rfl (fun x67 H locs M64 R65 J63 hS f61 g62 E66 => ?_)
        have eR65 := Fr.nil g62 rfl
        subst eR65
        obtain ⟨h_x67, p68⟩ := E66
        obtain ⟨x70, k71, h69, q72⟩ := p68
        have k71 : M64 a0 17 = x70 := k71
        refine lv_if_ne (tgt := 115) hx hb dX12_compare_110 (by decide) (fun c73 => ?_) (fun c73 => ?_)
        · have q74 : ¬ x67.toInt = 0 := ti_ne c73
          have h75 : iv 1 1 x67 := ⟨by have := (h_x67).1; have := ((iv_c (c := 0) (n := 0) (by decide))).1; have := ((iv_c (c := 0) (n := 0) (by decide))).2; omega, by have := (h_x67).2; have := ((iv_c (c := 0) (n := 0) (by decide))).1; have := ((iv_c (c := 0) (n := 0) (by decide))).2; omega⟩
          refine lv_iload_n hx hb dX12_compare_115 rfl (lv_at hl 2 rfl) ?_
          refine lv_bipush (v := 60) hx hb dX12_compare_116 (by decide) ?_
          refine lv_icmp_ne (tgt := 133) hx hb dX12_compare_118 (by decide) (fun c76 => False.elim (by have q : ¬ x37.toInt = 60 := ti_ne c76; have := (h47).1; have := (h47).2; omega)) (fun c76 => ?_)
          have q77 : x37.toInt = 60 := ti_eq c76
          refine lv_iload_n hx hb dX12_compare_121 rfl (lv_at hl 0 rfl) ?_
          refine lv_if_eq (tgt := 129) hx hb dX12_compare_122 (by decide) (fun _ => ?_) (fun h => absurd h (by decide))
          refine lv_iconst (v := 0) hx hb dX12_compare_129 (by decide) ?_
          refine lv_goto (tgt := 152) hx hb dX12_compare_130 (by decide) ?_
          refine lv_istore (lv' := [(4, .int 0), (3, .int 0), (2, .int x41), (1, .int x37), (0, .ref (base + a0))]) hx hb dX12_compare_152 hl (by decide) rfl (fun ls hl => ?_)
          refine lv_aload_n hx hb dX12_compare_154 rfl (lv_at hl 4 rfl) ?_
          have k78 : M64 a0 13 = x50 := (Fr.kp (k := 13) f61 hk_a0 rfl).trans k51
          have h79 : iv 0 400 x50 := by
            have := (h_le).1; have := (h_le).2; have := (h_md).1; have := (h_md).2; have := (h_nx).1; have := (h_nx).2; have := (h_tp).1; have := (h_tp).2; have := (h_tx).1; have := (h_tx).2; have := (h13).1; have := (h13).2; have := (h20).1; have := (h20).2; have := (h47).1; have := (h47).2; have := (h40).1; have := (h40).2; have := (h48).1; have := (h48).2; exact ⟨by omega, by omega⟩
          have k80 : M64 a0 1 = tp := ((Fr.kp (k := 1) f61 hk_a0 rfl).trans ((Fr.kp (k := 1) f52 hk_a0 rfl).trans ((Fr.kp (k := 1) f31 hk_a0 rfl).trans (Fr.kp (k := 1) f5 hk_a0 rfl)))).trans k_tp
          have q81 : x50.toInt ≤ tp.toInt := by
            have := (h_le).1; have := (h_le).2; have := (h_md).1; have := (h_md).2; have := (h_nx).1; have := (h_nx).2; have := (h_tp).1; have := (h_tp).2; have := (h_tx).1; have := (h_tx).2; have := (h13).1; have := (h13).2; have := (h20).1; have := (h20).2; have := (h47).1; have := (h47).2; have := (h40).1; have := (h40).2; have := (h48).1; have := (h48).2; omega
          have k82 : M64 a0 16 = tx := ((Fr.kp (k := 16) f61 hk_a0 rfl).trans ((Fr.kp (k := 16) f52 hk_a0 rfl).trans ((Fr.kp (k := 16) f31 hk_a0 rfl).trans (Fr.kp (k := 16) f5 hk_a0 rfl)))).trans k_tx
          have k83 : M64 lg tx.toNatClampNeg = x22 := ((Fr.kpa f61 hk_lg rfl tx.toNatClampNeg).trans ((Fr.kpa f52 hk_lg rfl tx.toNatClampNeg).trans (Fr.kpa f31 hk_lg rfl tx.toNatClampNeg))).trans k24
          have q84 : ((sb : Nat) : Int) ≤ x22.toInt := by
            have := (h_le).1; have := (h_le).2; have := (h_md).1; have := (h_md).2; have := (h_nx).1; have := (h_nx).2; have := (h_tp).1; have := (h_tp).2; have := (h_tx).1; have := (h_tx).2; have := (h13).1; have := (h13).2; have := (h20).1; have := (h20).2; have := (h40).1; have := (h40).2; omega
          have q85 : ((sh + 1 : Nat) : Int) ≤ x70.toInt := by
            have := (h_le).1; have := (h_le).2; have := (h_md).1; have := (h_md).2; have := (h_nx).1; have := (h_nx).2; have := (h_tp).1; have := (h_tp).2; have := (h_tx).1; have := (h_tx).2; have := (h21).1; have := (h21).2; have := (h69).1; have := (h69).2; omega
          have q86 : x22.toInt ≤ x50.toInt := by
            have := (h_le).1; have := (h_le).2; have := (h_md).1; have := (h_md).2; have := (h_nx).1; have := (h_nx).2; have := (h_tp).1; have := (h_tp).2; have := (h_tx).1; have := (h_tx).2; have := (h13).1; have := (h13).2; have := (h20).1; have := (h20).2; have := (h47).1; have := (h47).2; have := (h40).1; have := (h40).2; have := (h48).1; have := (h48).2; omega
          refine tw_goi hS (md_runV (As := []) (rest := []) hx hb hml hown hW hK hT hS.1 (t_X12_sum l D cy tx base Z K N M64 Ra J63 hS.2.1 a0 hz_a0 hk_a0 tb k_tb x50 k78 h79 tp k80 (iv_mono h_tp (by decide) (by decide)) q81 lg k_lg sg k_sg tx k82 (iv_mono h_tx (by decide) (by decide)) x22 k83 (iv_mono h20 (by decide) (by decide)) x70 k71 (iv_mono h69 (by decide) (by decide)) (sb) (sh + 1) (SEG.to (SEG.to (SEG.to z28 (fun j _ _ => Fr.kpa f31 hk_sg rfl j)) (fun j _ _ => Fr.kpa f52 hk_sg rfl j)) (fun j _ _ => Fr.kpa f61 hk_sg rfl j)) q84 q85 q86) s_X12_216 ⟨rfl, rfl, ⟨Nat.le_of_ble_eq_true rfl, Nat.le_of_ble_eq_true rfl⟩, ⟨Nat.le_of_ble_eq_true rfl, Nat.le_of_ble_eq_true rfl⟩⟩ hz_a0 hk_a0 (by decide) rfl rfl hl.1 rfl (Nat.le_of_ble_eq_true rfl) dX12_compare_155) rfl rfl (fun x93 H locs M90 R91 J89 hS f87 g88 E92 => ?_)
          have eR91 := Fr.nil g88 rfl
          subst eR91
          obtain ⟨h_x93, p94⟩ := E92
          obtain ⟨zf94, ⟨x96, k97, h95, zu94, zv94⟩, zc94⟩ := p94
          have k97 : M90 a0 13 = x96 := k97
          have zw94 := ti_cl (x := le) (by have := h_le.1; omega); have zy94 := ti_cl (x := x22) (by have := (h20).1; omega)
          have z98 : ∀ j, j < 400 * tx.toNatClampNeg + le.toNatClampNeg → M90 sg j = Ma sg j := fun j hj => (zf94 j (by omega)).trans ((fun j hj => (Fr.kpa f61 hk_sg rfl j).trans ((fun j hj => (Fr.kpa f52 hk_sg rfl j).trans ((fun j hj => (Fr.kpa f31 hk_sg rfl j).trans (z16 j hj)) j hj)) j hj)) j hj)
          refine lv_if_ne (tgt := 163) hx hb dX12_compare_158 (by decide) (fun c99 => ?_) (fun c99 => ?_)
          · have q100 : ¬ x93.toInt = 0 := ti_ne c99
            have h101 : iv 1 1 x93 := ⟨by have := (h_x93).1; have := ((iv_c (c := 0) (n := 0) (by decide))).1; have := ((iv_c (c := 0) (n := 0) (by decide))).2; omega, by have := (h_x93).2; have := ((iv_c (c := 0) (n := 0) (by decide))).1; have := ((iv_c (c := 0) (n := 0) (by decide))).2; omega⟩
            obtain ⟨x108, x104, x105, k109, k106, k107, h102, za101, zb101, zd101, z110⟩ := zc94 c99
            have ze101 : x108 = x96 := k109.symm.trans k97
            rw [ze101] at zb101
            have k106 : M90 lg tx.toNatClampNeg = x104 := k106
            have k107 : M90 a0 17 = x105 := k107
            have h103 : iv 0 60 x105 := by rw [← k107]; exact hS.2.1.int hz_a0 hk_a0 (show rgI 12 17 = (0, 60) from rfl)
            have z111 : SEG M90 sg tx.toNatClampNeg sb x104.toNatClampNeg (sh + 2) := SEG.cast z110 rfl (by omega)
            refine lv_aload_n hx hb dX12_compare_163 rfl (lv_at hl 4 rfl) ?_
            refine lv_bipush (v := 6) hx hb dX12_compare_164 (by decide) ?_
            refine lv_iload hx hb dX12_compare_166 (lv_at hl 0 rfl) ?_
            refine lv_iadd hx hb dX12_compare_168 ?_
            refine md_top (y := 6) (by decide) ?_
            refine lv_iconst (v := 0) hx hb dX12_compare_169 (by decide) ?_
            have k112 : M90 a0 16 = tx := ((Fr.kp (k := 16) f87 hk_a0 rfl).trans ((Fr.kp (k := 16) f61 hk_a0 rfl).trans ((Fr.kp (k := 16) f52 hk_a0 rfl).trans ((Fr.kp (k := 16) f31 hk_a0 rfl).trans (Fr.kp (k := 16) f5 hk_a0 rfl))))).trans k_tx
            have h113 : iv 0 399 x104 := by
              have := (h_le).1; have := (h_le).2; have := (h_md).1; have := (h_md).2; have := (h_nx).1; have := (h_nx).2; have := (h_tp).1; have := (h_tp).2; have := (h_tx).1; have := (h_tx).2; have := (h102).1; have := (h102).2; have := (h13).1; have := (h13).2; have := (h20).1; have := (h20).2; have := (h47).1; have := (h47).2; have := (h40).1; have := (h40).2; have := (h48).1; have := (h48).2; have := (h95).1; have := (h95).2; exact ⟨by omega, by omega⟩
            refine tw_gov hS (md_runV (As := [.int 6, .int 0]) (rest := []) hx hb hml hown hW hK hT hS.1 (t_X12_puts l D cy tx base Z K N M90 Ra J89 hS.2.1 a0 hz_a0 hk_a0 6 (iv_mono (iv_c (c := 6) (n := 6) (by decide)) (by decide) (by decide)) 0 (iv_mono (iv_c (c := 0) (n := 0) (by decide)) (by decide) (by decide)) sg k_sg lg k_lg tx k112 (iv_mono h_tx (by decide) (by decide)) x104 k106 h113) s_X12_195 ⟨rfl, rfl, ⟨Nat.le_of_ble_eq_true rfl, Nat.le_of_ble_eq_true rfl⟩, ⟨Nat.le_of_ble_eq_true rfl, Nat.le_of_ble_eq_true rfl⟩⟩ hz_a0 hk_a0 (by decide) rfl rfl hl.1 rfl (Nat.le_of_ble_eq_true rfl) dX12_compare_170) rfl rfl (fun H locs M117 R118 J116 hS f114 g115 E119 => ?_)
            have eR118 := Fr.nil g115 rfl
            subst eR118
            have p120 := E119
            obtain ⟨x121, x123, zc120, zd120, zo120, k124, h122, zl120⟩ := p120
            have k124 : M117 lg tx.toNatClampNeg = x123 := k124
            have zt120 := ti_cl (x := tx) (by have := h_tx.1; omega); have zn120 := ti_cl (x := x104) (by have := (h102).1; omega); have zm120 := ti_cl (x := x123) (by have := (h122).1; omega)
            have q125 : (6 : Int32).toInt = 6 := (by decide)
            have q126 : (0 : Int32).toInt = 0 := (by decide)
            have k127 : M117 a0 17 = x105 := (Fr.kp (k := 17) f114 hk_a0 rfl).trans k107
            have zs120 := stp_two (h := sh + 2) (show x121.toInt = (6 : Int32).toInt + 16 * 0 by omega) (by have := ((iv_c (c := 6) (n := 6) (by decide))).1; have := ((iv_c (c := 6) (n := 6) (by decide))).2; have := ((iv_c (c := 0) (n := 0) (by decide))).1; have := ((iv_c (c := 0) (n := 0) (by decide))).2; omega) (by omega)
            have z128 : SEG M117 sg tx.toNatClampNeg sb x123.toNatClampNeg (sh + 1) := SEG.cast (SEG.ext z111 (by omega) zd120 zo120 zs120) (by omega) (by omega)
            have zw120 := ti_cl (x := le) (by have := h_le.1; omega)
            have z129 : ∀ j, j < 400 * tx.toNatClampNeg + le.toNatClampNeg → M117 sg j = Ma sg j := fun j hj => (zo120 j (by omega)).trans (z98 j hj)
            refine lv_iconst (v := 1) hx hb dX12_compare_173 (by decide) ?_
            have k130 : M117 a0 13 = x96 := (Fr.kp (k := 13) f114 hk_a0 rfl).trans k97
            have q131 : nx.toInt ≤ x96.toInt ∧ x96.toInt ≤ tp.toInt := by
              have := (h_le).1; have := (h_le).2; have := (h_md).1; have := (h_md).2; have := (h_nx).1; have := (h_nx).2; have := (h_tp).1; have := (h_tp).2; have := (h_tx).1; have := (h_tx).2; have := (h102).1; have := (h102).2; have := (h122).1; have := (h122).2; have := (h13).1; have := (h13).2; have := (h20).1; have := (h20).2; have := (h47).1; have := (h47).2; have := (h40).1; have := (h40).2; have := (h48).1; have := (h48).2; have := (h95).1; have := (h95).2; omega
            have q132 : le.toInt ≤ x123.toInt ∧ x123.toInt - le.toInt ≤ x96.toInt - nx.toInt ∧ ((sh + 1 : Nat) : Int) ≤ x105.toInt := by
              have := (h_le).1; have := (h_le).2; have := (h_md).1; have := (h_md).2; have := (h_nx).1; have := (h_nx).2; have := (h_tp).1; have := (h_tp).2; have := (h_tx).1; have := (h_tx).2; have := (h102).1; have := (h102).2; have := (h103).1; have := (h103).2; have := (h122).1; have := (h122).2; have := (h13).1; have := (h13).2; have := (h20).1; have := (h20).2; have := (h47).1; have := (h47).2; have := (h40).1; have := (h40).2; have := (h48).1; have := (h48).2; have := (h95).1; have := (h95).2; omega
            exact tw_endz hx hb hr hlocks hK hT hS hQ rfl (⟨(iv_mono (iv_c (c := 1) (n := 1) (by decide)) (by decide) (by decide)), ⟨z129, ⟨x96, k130, h95, q131.1, q131.2⟩, fun _ => ⟨x96, x123, x105, k130, k124, k127, (iv_mono h122 (by decide) (by decide)), q132.1, q132.2.1, q132.2.2, z128⟩⟩⟩) dX12_compare_174
          · have q133 : x93.toInt = 0 := ti_eq c99
            have h134 : iv 0 0 x93 := ⟨by have := (h_x93).1; have := ((iv_c (c := 0) (n := 0) (by decide))).1; omega, by have := (h_x93).2; have := ((iv_c (c := 0) (n := 0) (by decide))).2; omega⟩
            refine lv_iconst (v := 0) hx hb dX12_compare_161 (by decide) ?_
            have q135 : nx.toInt ≤ x96.toInt ∧ x96.toInt ≤ tp.toInt := by
              have := (h_le).1; have := (h_le).2; have := (h_md).1; have := (h_md).2; have := (h_nx).1; have := (h_nx).2; have := (h_tp).1; have := (h_tp).2; have := (h_tx).1; have := (h_tx).2; have := (h13).1; have := (h13).2; have := (h20).1; have := (h20).2; have := (h47).1; have := (h47).2; have := (h40).1; have := (h40).2; have := (h48).1; have := (h48).2; have := (h95).1; have := (h95).2; omega
            exact tw_endz hx hb hr hlocks hK hT hS hQ rfl (⟨(iv_mono (iv_c (c := 0) (n := 0) (by decide)) (by decide) (by decide)), ⟨z98, ⟨x96, k97, h95, q135.1, q135.2⟩, (fun h => absurd rfl h)⟩⟩) dX12_compare_162
        · have q136 : x67.toInt = 0 := ti_eq c73
          have h137 : iv 0 0 x67 := ⟨by have := (h_x67).1; have := ((iv_c (c := 0) (n := 0) (by decide))).1; omega, by have := (h_x67).2; have := ((iv_c (c := 0) (n := 0) (by decide))).2; omega⟩
          refine lv_iconst (v := 0) hx hb dX12_compare_113 (by decide) ?_
          have k138 : M64 a0 13 = x50 := (Fr.kp (k := 13) f61 hk_a0 rfl).trans k51
          have q139 : nx.toInt ≤ x50.toInt ∧ x50.toInt ≤ tp.toInt := by
            have := (h_le).1; have := (h_le).2; have := (h_md).1; have := (h_md).2; have := (h_nx).1; have := (h_nx).2; have := (h_tp).1; have := (h_tp).2; have := (h_tx).1; have := (h_tx).2; have := (h13).1; have := (h13).2; have := (h20).1; have := (h20).2; have := (h47).1; have := (h47).2; have := (h40).1; have := (h40).2; have := (h48).1; have := (h48).2; omega
          exact tw_endz hx hb hr hlocks hK hT hS hQ rfl (⟨(iv_mono (iv_c (c := 0) (n := 0) (by decide)) (by decide) (by decide)), ⟨(fun j hj => (Fr.kpa f61 hk_sg rfl j).trans ((fun j hj => (Fr.kpa f52 hk_sg rfl j).trans ((fun j hj => (Fr.kpa f31 hk_sg rfl j).trans (z16 j hj)) j hj)) j hj)), ⟨x50, k138, (iv_mono h48 (by decide) (by decide)), q139.1, q139.2⟩, (fun h => absurd rfl h)⟩⟩) dX12_compare_114
      · have q140 : x50.toInt < tp.toInt := ti_nle c58
        have h141 : iv 1 399 x50 := iv_ltL (y := tp) h48 h_tp q140 (by decide)
        have h142 : iv 2 400 tp := iv_gtL (y := x50) h_tp h48 q140 (by decide)
        refine lv_aload_n hx hb dX12_compare_71 rfl (lv_at hl 2 rfl) ?_
        refine tw_getrk hx hb hW hown hK hS f_X12_7_11 hz_a0 hk_a0 (b := tb) k_tb dX12_compare_72 ?_
        refine lv_aload_n hx hb dX12_compare_75 rfl (lv_at hl 2 rfl) ?_
        refine tw_getk hx hb hW hown hK hS f_X12_127_11 hz_a0 hk_a0 (v := x50) k51 dX12_compare_76 ?_
        refine tw_bald hx hb hK hS hz_tb hk_tb hn_tb h141 ⟨by decide, by decide⟩ dX12_compare_79 (fun x145 k144 => ?_)
        have h143 := iv_any x145
        refine lv_bipush (v := 61) hx hb dX12_compare_80 (by decide) ?_
        refine lv_icmp_ne (tgt := 89) hx hb dX12_compare_82 (by decide) (fun c146 => ?_) (fun c146 => ?_)
        · have q147 : ¬ x145.toInt = 61 := ti_ne c146
          refine lv_iconst (v := 0) hx hb dX12_compare_89 (by decide) ?_
          refine lv_istore_n (lv' := [(3, .int 0), (2, .int x41), (1, .int x37), (0, .ref (base + a0))]) hx hb dX12_compare_90 rfl hl (by decide) rfl (fun ls hl => ?_)
          refine lv_iload_n hx hb dX12_compare_91 rfl (lv_at hl 0 rfl) ?_
          refine lv_if_eq (tgt := 105) hx hb dX12_compare_92 (by decide) (fun _ => ?_) (fun h => absurd h (by decide))
          refine lv_aload_n hx hb dX12_compare_105 rfl (lv_at hl 3 rfl) ?_
          refine lv_iload_n hx hb dX12_compare_106 rfl (lv_at hl 1 rfl) ?_
          have k148 : M54 a0 17 = x23 := ((Fr.kp (k := 17) f52 hk_a0 rfl).trans (Fr.kp (k := 17) f31 hk_a0 rfl)).trans k25
          refine tw_goi hS (md_runV (As := [.int x41]) (rest := []) hx hb hml hown hW hK hT hS.1 (t_X12_makes l D cy tx base Z K N M54 Ra J33 hS.2.1 a0 hz_a0 hk_a0 x41 h40 x23 k148 (iv_mono h21 (by decide) (by decide))) s_X12_203 ⟨rfl, rfl, ⟨Nat.le_of_ble_eq_true rfl, Nat.le_of_ble_eq_true rfl⟩, ⟨Nat.le_of_ble_eq_true rfl, Nat.le_of_ble_eq_true rfl⟩⟩ hz_a0 hk_a0 (by decide) rfl rfl hl.1 rfl (Nat.le_of_ble_eq_true rfl) dX12_compare_107) rfl rfl (fun x155 H locs M152 R153 J151 hS f149 g150 E154 => ?_)
          have eR153 := Fr.nil g150 rfl
          subst eR153
          obtain ⟨h_x155, p156⟩ := E154
          obtain ⟨x158, k159, h157, q160⟩ := p156
          have k159 : M152 a0 17 = x158 := k159
          refine lv_if_ne (tgt := 115) hx hb dX12_compare_110 (by decide) (fun c161 => ?_) (fun c161 => ?_)
          · have q162 : ¬ x155.toInt = 0 := ti_ne c161
            have h163 : iv 1 1 x155 := ⟨by have := (h_x155).1; have := ((iv_c (c := 0) (n := 0) (by decide))).1; have := ((iv_c (c := 0) (n := 0) (by decide))).2; omega, by have := (h_x155).2; have := ((iv_c (c := 0) (n := 0) (by decide))).1; have := ((iv_c (c := 0) (n := 0) (by decide))).2; omega⟩
            refine lv_iload_n hx hb dX12_compare_115 rfl (lv_at hl 2 rfl) ?_
            refine lv_bipush (v := 60) hx hb dX12_compare_116 (by decide) ?_
            refine lv_icmp_ne (tgt := 133) hx hb dX12_compare_118 (by decide) (fun c164 => False.elim (by have q : ¬ x37.toInt = 60 := ti_ne c164; have := (h47).1; have := (h47).2; omega)) (fun c164 => ?_)
            have q165 : x37.toInt = 60 := ti_eq c164
            refine lv_iload_n hx hb dX12_compare_121 rfl (lv_at hl 0 rfl) ?_
            refine lv_if_eq (tgt := 129) hx hb dX12_compare_122 (by decide) (fun _ => ?_) (fun h => absurd h (by decide))
            refine lv_iconst (v := 0) hx hb dX12_compare_129 (by decide) ?_
            refine lv_goto (tgt := 152) hx hb dX12_compare_130 (by decide) ?_
            refine lv_istore (lv' := [(4, .int 0), (3, .int 0), (2, .int x41), (1, .int x37), (0, .ref (base + a0))]) hx hb dX12_compare_152 hl (by decide) rfl (fun ls hl => ?_)
            refine lv_aload_n hx hb dX12_compare_154 rfl (lv_at hl 4 rfl) ?_
            have k166 : M152 a0 13 = x50 := (Fr.kp (k := 13) f149 hk_a0 rfl).trans k51
            have k167 : M152 a0 1 = tp := ((Fr.kp (k := 1) f149 hk_a0 rfl).trans ((Fr.kp (k := 1) f52 hk_a0 rfl).trans ((Fr.kp (k := 1) f31 hk_a0 rfl).trans (Fr.kp (k := 1) f5 hk_a0 rfl)))).trans k_tp
            have q168 : x50.toInt ≤ tp.toInt := by
              have := (h_le).1; have := (h_le).2; have := (h_md).1; have := (h_md).2; have := (h_nx).1; have := (h_nx).2; have := (h142).1; have := (h142).2; have := (h_tx).1; have := (h_tx).2; have := (h13).1; have := (h13).2; have := (h20).1; have := (h20).2; have := (h47).1; have := (h47).2; have := (h40).1; have := (h40).2; have := (h141).1; have := (h141).2; omega
            have k169 : M152 a0 16 = tx := ((Fr.kp (k := 16) f149 hk_a0 rfl).trans ((Fr.kp (k := 16) f52 hk_a0 rfl).trans ((Fr.kp (k := 16) f31 hk_a0 rfl).trans (Fr.kp (k := 16) f5 hk_a0 rfl)))).trans k_tx
            have k170 : M152 lg tx.toNatClampNeg = x22 := ((Fr.kpa f149 hk_lg rfl tx.toNatClampNeg).trans ((Fr.kpa f52 hk_lg rfl tx.toNatClampNeg).trans (Fr.kpa f31 hk_lg rfl tx.toNatClampNeg))).trans k24
            have q171 : ((sb : Nat) : Int) ≤ x22.toInt := by
              have := (h_le).1; have := (h_le).2; have := (h_md).1; have := (h_md).2; have := (h_nx).1; have := (h_nx).2; have := (h142).1; have := (h142).2; have := (h_tx).1; have := (h_tx).2; have := (h13).1; have := (h13).2; have := (h20).1; have := (h20).2; have := (h40).1; have := (h40).2; omega
            have q172 : ((sh + 1 : Nat) : Int) ≤ x158.toInt := by
              have := (h_le).1; have := (h_le).2; have := (h_md).1; have := (h_md).2; have := (h_nx).1; have := (h_nx).2; have := (h142).1; have := (h142).2; have := (h_tx).1; have := (h_tx).2; have := (h157).1; have := (h157).2; have := (h21).1; have := (h21).2; omega
            have q173 : x22.toInt ≤ x50.toInt := by
              have := (h_le).1; have := (h_le).2; have := (h_md).1; have := (h_md).2; have := (h_nx).1; have := (h_nx).2; have := (h142).1; have := (h142).2; have := (h_tx).1; have := (h_tx).2; have := (h13).1; have := (h13).2; have := (h20).1; have := (h20).2; have := (h47).1; have := (h47).2; have := (h40).1; have := (h40).2; have := (h141).1; have := (h141).2; omega
            refine tw_goi hS (md_runV (As := []) (rest := []) hx hb hml hown hW hK hT hS.1 (t_X12_sum l D cy tx base Z K N M152 Ra J151 hS.2.1 a0 hz_a0 hk_a0 tb k_tb x50 k166 (iv_mono h141 (by decide) (by decide)) tp k167 (iv_mono h142 (by decide) (by decide)) q168 lg k_lg sg k_sg tx k169 (iv_mono h_tx (by decide) (by decide)) x22 k170 (iv_mono h20 (by decide) (by decide)) x158 k159 (iv_mono h157 (by decide) (by decide)) (sb) (sh + 1) (SEG.to (SEG.to (SEG.to z28 (fun j _ _ => Fr.kpa f31 hk_sg rfl j)) (fun j _ _ => Fr.kpa f52 hk_sg rfl j)) (fun j _ _ => Fr.kpa f149 hk_sg rfl j)) q171 q172 q173) s_X12_216 ⟨rfl, rfl, ⟨Nat.le_of_ble_eq_true rfl, Nat.le_of_ble_eq_true rfl⟩, ⟨Nat.le_of_ble_eq_true rfl, Nat.le_of_ble_eq_true rfl⟩⟩ hz_a0 hk_a0 (by decide) rfl rfl hl.1 rfl (Nat.le_of_ble_eq_true rfl) dX12_compare_155) rfl rfl (fun x180 H locs M177 R178 J176 hS f174 g175 E179 => ?_)
            have eR178 := Fr.nil g175 rfl
            subst eR178
            obtain ⟨h_x180, p181⟩ := E179
            obtain ⟨zf181, ⟨x183, k184, h182, zu181, zv181⟩, zc181⟩ := p181
            have k184 : M177 a0 13 = x183 := k184
            have zw181 := ti_cl (x := le) (by have := h_le.1; omega); have zy181 := ti_cl (x := x22) (by have := (h20).1; omega)
            have z185 : ∀ j, j < 400 * tx.toNatClampNeg + le.toNatClampNeg → M177 sg j = Ma sg j := fun j hj => (zf181 j (by omega)).trans ((fun j hj => (Fr.kpa f149 hk_sg rfl j).trans ((fun j hj => (Fr.kpa f52 hk_sg rfl j).trans ((fun j hj => (Fr.kpa f31 hk_sg rfl j).trans (z16 j hj)) j hj)) j hj)) j hj)
            refine lv_if_ne (tgt := 163) hx hb dX12_compare_158 (by decide) (fun c186 => ?_) (fun c186 => ?_)
            · have q187 : ¬ x180.toInt = 0 := ti_ne c186
              have h188 : iv 1 1 x180 := ⟨by have := (h_x180).1; have := ((iv_c (c := 0) (n := 0) (by decide))).1; have := ((iv_c (c := 0) (n := 0) (by decide))).2; omega, by have := (h_x180).2; have := ((iv_c (c := 0) (n := 0) (by decide))).1; have := ((iv_c (c := 0) (n := 0) (by decide))).2; omega⟩
              obtain ⟨x195, x191, x192, k196, k193, k194, h189, za188, zb188, zd188, z197⟩ := zc181 c186
              have ze188 : x195 = x183 := k196.symm.trans k184
              rw [ze188] at zb188
              have k193 : M177 lg tx.toNatClampNeg = x191 := k193
              have k194 : M177 a0 17 = x192 := k194
              have h190 : iv 0 60 x192 := by rw [← k194]; exact hS.2.1.int hz_a0 hk_a0 (show rgI 12 17 = (0, 60) from rfl)
              have z198 : SEG M177 sg tx.toNatClampNeg sb x191.toNatClampNeg (sh + 2) := SEG.cast z197 rfl (by omega)
              refine lv_aload_n hx hb dX12_compare_163 rfl (lv_at hl 4 rfl) ?_
              refine lv_bipush (v := 6) hx hb dX12_compare_164 (by decide) ?_
              refine lv_iload hx hb dX12_compare_166 (lv_at hl 0 rfl) ?_
              refine lv_iadd hx hb dX12_compare_168 ?_
              refine md_top (y := 6) (by decide) ?_
              refine lv_iconst (v := 0) hx hb dX12_compare_169 (by decide) ?_
              have k199 : M177 a0 16 = tx := ((Fr.kp (k := 16) f174 hk_a0 rfl).trans ((Fr.kp (k := 16) f149 hk_a0 rfl).trans ((Fr.kp (k := 16) f52 hk_a0 rfl).trans ((Fr.kp (k := 16) f31 hk_a0 rfl).trans (Fr.kp (k := 16) f5 hk_a0 rfl))))).trans k_tx
              have h200 : iv 0 399 x191 := by
                have := (h_le).1; have := (h_le).2; have := (h_md).1; have := (h_md).2; have := (h_nx).1; have := (h_nx).2; have := (h142).1; have := (h142).2; have := (h_tx).1; have := (h_tx).2; have := (h13).1; have := (h13).2; have := (h182).1; have := (h182).2; have := (h189).1; have := (h189).2; have := (h20).1; have := (h20).2; have := (h47).1; have := (h47).2; have := (h40).1; have := (h40).2; have := (h141).1; have := (h141).2; exact ⟨by omega, by omega⟩
              refine tw_gov hS (md_runV (As := [.int 6, .int 0]) (rest := []) hx hb hml hown hW hK hT hS.1 (t_X12_puts l D cy tx base Z K N M177 Ra J176 hS.2.1 a0 hz_a0 hk_a0 6 (iv_mono (iv_c (c := 6) (n := 6) (by decide)) (by decide) (by decide)) 0 (iv_mono (iv_c (c := 0) (n := 0) (by decide)) (by decide) (by decide)) sg k_sg lg k_lg tx k199 (iv_mono h_tx (by decide) (by decide)) x191 k193 h200) s_X12_195 ⟨rfl, rfl, ⟨Nat.le_of_ble_eq_true rfl, Nat.le_of_ble_eq_true rfl⟩, ⟨Nat.le_of_ble_eq_true rfl, Nat.le_of_ble_eq_true rfl⟩⟩ hz_a0 hk_a0 (by decide) rfl rfl hl.1 rfl (Nat.le_of_ble_eq_true rfl) dX12_compare_170) rfl rfl (fun H locs M204 R205 J203 hS f201 g202 E206 => ?_)
              have eR205 := Fr.nil g202 rfl
              subst eR205
              have p207 := E206
              obtain ⟨x208, x210, zc207, zd207, zo207, k211, h209, zl207⟩ := p207
              have k211 : M204 lg tx.toNatClampNeg = x210 := k211
              have zt207 := ti_cl (x := tx) (by have := h_tx.1; omega); have zn207 := ti_cl (x := x191) (by have := (h189).1; omega); have zm207 := ti_cl (x := x210) (by have := (h209).1; omega)
              have q212 : (6 : Int32).toInt = 6 := (by decide)
              have q213 : (0 : Int32).toInt = 0 := (by decide)
              have k214 : M204 a0 17 = x192 := (Fr.kp (k := 17) f201 hk_a0 rfl).trans k194
              have zs207 := stp_two (h := sh + 2) (show x208.toInt = (6 : Int32).toInt + 16 * 0 by omega) (by have := ((iv_c (c := 6) (n := 6) (by decide))).1; have := ((iv_c (c := 6) (n := 6) (by decide))).2; have := ((iv_c (c := 0) (n := 0) (by decide))).1; have := ((iv_c (c := 0) (n := 0) (by decide))).2; omega) (by omega)
              have z215 : SEG M204 sg tx.toNatClampNeg sb x210.toNatClampNeg (sh + 1) := SEG.cast (SEG.ext z198 (by omega) zd207 zo207 zs207) (by omega) (by omega)
              have zw207 := ti_cl (x := le) (by have := h_le.1; omega)
              have z216 : ∀ j, j < 400 * tx.toNatClampNeg + le.toNatClampNeg → M204 sg j = Ma sg j := fun j hj => (zo207 j (by omega)).trans (z185 j hj)
              refine lv_iconst (v := 1) hx hb dX12_compare_173 (by decide) ?_
              have k217 : M204 a0 13 = x183 := (Fr.kp (k := 13) f201 hk_a0 rfl).trans k184
              have q218 : nx.toInt ≤ x183.toInt ∧ x183.toInt ≤ tp.toInt := by
                have := (h_le).1; have := (h_le).2; have := (h_md).1; have := (h_md).2; have := (h_nx).1; have := (h_nx).2; have := (h142).1; have := (h142).2; have := (h_tx).1; have := (h_tx).2; have := (h13).1; have := (h13).2; have := (h182).1; have := (h182).2; have := (h189).1; have := (h189).2; have := (h209).1; have := (h209).2; have := (h20).1; have := (h20).2; have := (h47).1; have := (h47).2; have := (h40).1; have := (h40).2; have := (h141).1; have := (h141).2; omega
              have q219 : le.toInt ≤ x210.toInt ∧ x210.toInt - le.toInt ≤ x183.toInt - nx.toInt ∧ ((sh + 1 : Nat) : Int) ≤ x192.toInt := by
                have := (h_le).1; have := (h_le).2; have := (h_md).1; have := (h_md).2; have := (h_nx).1; have := (h_nx).2; have := (h142).1; have := (h142).2; have := (h_tx).1; have := (h_tx).2; have := (h13).1; have := (h13).2; have := (h182).1; have := (h182).2; have := (h189).1; have := (h189).2; have := (h190).1; have := (h190).2; have := (h209).1; have := (h209).2; have := (h20).1; have := (h20).2; have := (h47).1; have := (h47).2; have := (h40).1; have := (h40).2; have := (h141).1; have := (h141).2; omega
              exact tw_endz hx hb hr hlocks hK hT hS hQ rfl (⟨(iv_mono (iv_c (c := 1) (n := 1) (by decide)) (by decide) (by decide)), ⟨z216, ⟨x183, k217, h182, q218.1, q218.2⟩, fun _ => ⟨x183, x210, x192, k217, k211, k214, (iv_mono h209 (by decide) (by decide)), q219.1, q219.2.1, q219.2.2, z215⟩⟩⟩) dX12_compare_174
            · have q220 : x180.toInt = 0 := ti_eq c186
              have h221 : iv 0 0 x180 := ⟨by have := (h_x180).1; have := ((iv_c (c := 0) (n := 0) (by decide))).1; omega, by have := (h_x180).2; have := ((iv_c (c := 0) (n := 0) (by decide))).2; omega⟩
              refine lv_iconst (v := 0) hx hb dX12_compare_161 (by decide) ?_
              have q222 : nx.toInt ≤ x183.toInt ∧ x183.toInt ≤ tp.toInt := by
                have := (h_le).1; have := (h_le).2; have := (h_md).1; have := (h_md).2; have := (h_nx).1; have := (h_nx).2; have := (h142).1; have := (h142).2; have := (h_tx).1; have := (h_tx).2; have := (h13).1; have := (h13).2; have := (h182).1; have := (h182).2; have := (h20).1; have := (h20).2; have := (h47).1; have := (h47).2; have := (h40).1; have := (h40).2; have := (h141).1; have := (h141).2; omega
              exact tw_endz hx hb hr hlocks hK hT hS hQ rfl (⟨(iv_mono (iv_c (c := 0) (n := 0) (by decide)) (by decide) (by decide)), ⟨z185, ⟨x183, k184, h182, q222.1, q222.2⟩, (fun h => absurd rfl h)⟩⟩) dX12_compare_162
          · have q223 : x155.toInt = 0 := ti_eq c161
            have h224 : iv 0 0 x155 := ⟨by have := (h_x155).1; have := ((iv_c (c := 0) (n := 0) (by decide))).1; omega, by have := (h_x155).2; have := ((iv_c (c := 0) (n := 0) (by decide))).2; omega⟩
            refine lv_iconst (v := 0) hx hb dX12_compare_113 (by decide) ?_
            have k225 : M152 a0 13 = x50 := (Fr.kp (k := 13) f149 hk_a0 rfl).trans k51
            have q226 : nx.toInt ≤ x50.toInt ∧ x50.toInt ≤ tp.toInt := by
              have := (h_le).1; have := (h_le).2; have := (h_md).1; have := (h_md).2; have := (h_nx).1; have := (h_nx).2; have := (h142).1; have := (h142).2; have := (h_tx).1; have := (h_tx).2; have := (h13).1; have := (h13).2; have := (h20).1; have := (h20).2; have := (h47).1; have := (h47).2; have := (h40).1; have := (h40).2; have := (h141).1; have := (h141).2; omega
            exact tw_endz hx hb hr hlocks hK hT hS hQ rfl (⟨(iv_mono (iv_c (c := 0) (n := 0) (by decide)) (by decide) (by decide)), ⟨(fun j hj => (Fr.kpa f149 hk_sg rfl j).trans ((fun j hj => (Fr.kpa f52 hk_sg rfl j).trans ((fun j hj => (Fr.kpa f31 hk_sg rfl j).trans (z16 j hj)) j hj)) j hj)), ⟨x50, k225, (iv_mono h141 (by decide) (by decide)), q226.1, q226.2⟩, (fun h => absurd rfl h)⟩⟩) dX12_compare_114
        · have q227 : x145.toInt = 61 := ti_eq c146
          have h228 : iv 61 61 x145 := ⟨by have := (h143).1; have := ((iv_c (c := 61) (n := 61) (by decide))).1; omega, by have := (h143).2; have := ((iv_c (c := 61) (n := 61) (by decide))).2; omega⟩
          refine lv_iconst (v := 1) hx hb dX12_compare_85 (by decide) ?_
          refine lv_goto (tgt := 90) hx hb dX12_compare_86 (by decide) ?_
          refine lv_istore_n (lv' := [(3, .int 1), (2, .int x41), (1, .int x37), (0, .ref (base + a0))]) hx hb dX12_compare_90 rfl hl (by decide) rfl (fun ls hl => ?_)
          refine lv_iload_n hx hb dX12_compare_91 rfl (lv_at hl 0 rfl) ?_
          refine lv_if_eq (tgt := 105) hx hb dX12_compare_92 (by decide) (fun h => absurd h (by decide)) (fun _ => ?_)
          refine lv_aload_n hx hb dX12_compare_95 rfl (lv_at hl 3 rfl) ?_
          refine lv_dup hx hb dX12_compare_96 rfl ?_
          refine tw_getk hx hb hW hown hK hS f_X12_127_11 hz_a0 hk_a0 (v := x50) k51 dX12_compare_97 ?_
          refine lv_iconst (v := 1) hx hb dX12_compare_100 (by decide) ?_
          refine tw_iadd (lo := 2) (hi := 400) hx hb h141 (iv_c (c := 1) (n := 1) (by decide)) ⟨by decide, by decide⟩ ⟨by decide, by decide⟩ dX12_compare_101 (fun x231 e230 h229 => ?_)
          have e230 : x231.toInt = x50.toInt + 1 := e230
          refine tw_puti hx hb hW hown hK hS f_X12_127_11 hz_a0 hk_a0 rfl rfl (lo := 0) (hi := 400) rfl (iv_mono h229 (by decide) (by decide)) rfl dX12_compare_102 (fun H locs M234 hS k232 f233 => ?_)
          refine lv_aload_n hx hb dX12_compare_105 rfl (lv_at hl 3 rfl) ?_
          refine lv_iload_n hx hb dX12_compare_106 rfl (lv_at hl 1 rfl) ?_
          have k235 : M234 a0 17 = x23 := ((Fr.kp (k := 17) f233 hk_a0 rfl).trans ((Fr.kp (k := 17) f52 hk_a0 rfl).trans (Fr.kp (k := 17) f31 hk_a0 rfl))).trans k25
          refine tw_goi hS (md_runV (As := [.int x41]) (rest := []) hx hb hml hown hW hK hT hS.1 (t_X12_makes l D cy tx base Z K N M234 Ra J33 hS.2.1 a0 hz_a0 hk_a0 x41 h40 x23 k235 (iv_mono h21 (by decide) (by decide))) s_X12_203 ⟨rfl, rfl, ⟨Nat.le_of_ble_eq_true rfl, Nat.le_of_ble_eq_true rfl⟩, ⟨Nat.le_of_ble_eq_true rfl, Nat.le_of_ble_eq_true rfl⟩⟩ hz_a0 hk_a0 (by decide) rfl rfl hl.1 rfl (Nat.le_of_ble_eq_true rfl) dX12_compare_107) rfl rfl (fun x242 H locs M239 R240 J238 hS f236 g237 E241 => ?_)
          have eR240 := Fr.nil g237 rfl
          subst eR240
          obtain ⟨h_x242, p243⟩ := E241
          obtain ⟨x245, k246, h244, q247⟩ := p243
          have k246 : M239 a0 17 = x245 := k246
          refine lv_if_ne (tgt := 115) hx hb dX12_compare_110 (by decide) (fun c248 => ?_) (fun c248 => ?_)
          · have q249 : ¬ x242.toInt = 0 := ti_ne c248
            have h250 : iv 1 1 x242 := ⟨by have := (h_x242).1; have := ((iv_c (c := 0) (n := 0) (by decide))).1; have := ((iv_c (c := 0) (n := 0) (by decide))).2; omega, by have := (h_x242).2; have := ((iv_c (c := 0) (n := 0) (by decide))).1; have := ((iv_c (c := 0) (n := 0) (by decide))).2; omega⟩
            refine lv_iload_n hx hb dX12_compare_115 rfl (lv_at hl 2 rfl) ?_
            refine lv_bipush (v := 60) hx hb dX12_compare_116 (by decide) ?_
            refine lv_icmp_ne (tgt := 133) hx hb dX12_compare_118 (by decide) (fun c251 => False.elim (by have q : ¬ x37.toInt = 60 := ti_ne c251; have := (h47).1; have := (h47).2; omega)) (fun c251 => ?_)
            have q252 : x37.toInt = 60 := ti_eq c251
            refine lv_iload_n hx hb dX12_compare_121 rfl (lv_at hl 0 rfl) ?_
            refine lv_if_eq (tgt := 129) hx hb dX12_compare_122 (by decide) (fun h => absurd h (by decide)) (fun _ => ?_)
            refine lv_iconst (v := 1) hx hb dX12_compare_125 (by decide) ?_
            refine lv_goto (tgt := 152) hx hb dX12_compare_126 (by decide) ?_
            refine lv_istore (lv' := [(4, .int 1), (3, .int 1), (2, .int x41), (1, .int x37), (0, .ref (base + a0))]) hx hb dX12_compare_152 hl (by decide) rfl (fun ls hl => ?_)
            refine lv_aload_n hx hb dX12_compare_154 rfl (lv_at hl 4 rfl) ?_
            have k253 : M239 a0 13 = x231 := (Fr.kp (k := 13) f236 hk_a0 rfl).trans k232
            have k254 : M239 a0 1 = tp := ((Fr.kp (k := 1) f236 hk_a0 rfl).trans ((Fr.kp (k := 1) f233 hk_a0 rfl).trans ((Fr.kp (k := 1) f52 hk_a0 rfl).trans ((Fr.kp (k := 1) f31 hk_a0 rfl).trans (Fr.kp (k := 1) f5 hk_a0 rfl))))).trans k_tp
            have q255 : x231.toInt ≤ tp.toInt := by
              have := (h_le).1; have := (h_le).2; have := (h_md).1; have := (h_md).2; have := (h_nx).1; have := (h_nx).2; have := (h142).1; have := (h142).2; have := (h_tx).1; have := (h_tx).2; have := (h13).1; have := (h13).2; have := (h20).1; have := (h20).2; have := (h229).1; have := (h229).2; have := (h47).1; have := (h47).2; have := (h40).1; have := (h40).2; have := (h141).1; have := (h141).2; omega
            have k256 : M239 a0 16 = tx := ((Fr.kp (k := 16) f236 hk_a0 rfl).trans ((Fr.kp (k := 16) f233 hk_a0 rfl).trans ((Fr.kp (k := 16) f52 hk_a0 rfl).trans ((Fr.kp (k := 16) f31 hk_a0 rfl).trans (Fr.kp (k := 16) f5 hk_a0 rfl))))).trans k_tx
            have k257 : M239 lg tx.toNatClampNeg = x22 := ((Fr.kpa f236 hk_lg rfl tx.toNatClampNeg).trans ((Fr.kpa f233 hk_lg rfl tx.toNatClampNeg).trans ((Fr.kpa f52 hk_lg rfl tx.toNatClampNeg).trans (Fr.kpa f31 hk_lg rfl tx.toNatClampNeg)))).trans k24
            have q258 : ((sb : Nat) : Int) ≤ x22.toInt := by
              have := (h_le).1; have := (h_le).2; have := (h_md).1; have := (h_md).2; have := (h_nx).1; have := (h_nx).2; have := (h142).1; have := (h142).2; have := (h_tx).1; have := (h_tx).2; have := (h13).1; have := (h13).2; have := (h20).1; have := (h20).2; have := (h40).1; have := (h40).2; omega
            have q259 : ((sh + 1 : Nat) : Int) ≤ x245.toInt := by
              have := (h_le).1; have := (h_le).2; have := (h_md).1; have := (h_md).2; have := (h_nx).1; have := (h_nx).2; have := (h142).1; have := (h142).2; have := (h_tx).1; have := (h_tx).2; have := (h21).1; have := (h21).2; have := (h244).1; have := (h244).2; omega
            have q260 : x22.toInt ≤ x231.toInt := by
              have := (h_le).1; have := (h_le).2; have := (h_md).1; have := (h_md).2; have := (h_nx).1; have := (h_nx).2; have := (h142).1; have := (h142).2; have := (h_tx).1; have := (h_tx).2; have := (h13).1; have := (h13).2; have := (h20).1; have := (h20).2; have := (h229).1; have := (h229).2; have := (h47).1; have := (h47).2; have := (h40).1; have := (h40).2; have := (h141).1; have := (h141).2; omega
            refine tw_goi hS (md_runV (As := []) (rest := []) hx hb hml hown hW hK hT hS.1 (t_X12_sum l D cy tx base Z K N M239 Ra J238 hS.2.1 a0 hz_a0 hk_a0 tb k_tb x231 k253 (iv_mono h229 (by decide) (by decide)) tp k254 (iv_mono h142 (by decide) (by decide)) q255 lg k_lg sg k_sg tx k256 (iv_mono h_tx (by decide) (by decide)) x22 k257 (iv_mono h20 (by decide) (by decide)) x245 k246 (iv_mono h244 (by decide) (by decide)) (sb) (sh + 1) (SEG.to (SEG.to (SEG.to (SEG.to z28 (fun j _ _ => Fr.kpa f31 hk_sg rfl j)) (fun j _ _ => Fr.kpa f52 hk_sg rfl j)) (fun j _ _ => Fr.kpa f233 hk_sg rfl j)) (fun j _ _ => Fr.kpa f236 hk_sg rfl j)) q258 q259 q260) s_X12_216 ⟨rfl, rfl, ⟨Nat.le_of_ble_eq_true rfl, Nat.le_of_ble_eq_true rfl⟩, ⟨Nat.le_of_ble_eq_true rfl, Nat.le_of_ble_eq_true rfl⟩⟩ hz_a0 hk_a0 (by decide) rfl rfl hl.1 rfl (Nat.le_of_ble_eq_true rfl) dX12_compare_155) rfl rfl (fun x267 H locs M264 R265 J263 hS f261 g262 E266 => ?_)
            have eR265 := Fr.nil g262 rfl
            subst eR265
            obtain ⟨h_x267, p268⟩ := E266
            obtain ⟨zf268, ⟨x270, k271, h269, zu268, zv268⟩, zc268⟩ := p268
            have k271 : M264 a0 13 = x270 := k271
            have zw268 := ti_cl (x := le) (by have := h_le.1; omega); have zy268 := ti_cl (x := x22) (by have := (h20).1; omega)
            have z272 : ∀ j, j < 400 * tx.toNatClampNeg + le.toNatClampNeg → M264 sg j = Ma sg j := fun j hj => (zf268 j (by omega)).trans ((fun j hj => (Fr.kpa f236 hk_sg rfl j).trans ((fun j hj => (Fr.kpa f233 hk_sg rfl j).trans ((fun j hj => (Fr.kpa f52 hk_sg rfl j).trans ((fun j hj => (Fr.kpa f31 hk_sg rfl j).trans (z16 j hj)) j hj)) j hj)) j hj)) j hj)
            refine lv_if_ne (tgt := 163) hx hb dX12_compare_158 (by decide) (fun c273 => ?_) (fun c273 => ?_)
            · have q274 : ¬ x267.toInt = 0 := ti_ne c273
              have h275 : iv 1 1 x267 := ⟨by have := (h_x267).1; have := ((iv_c (c := 0) (n := 0) (by decide))).1; have := ((iv_c (c := 0) (n := 0) (by decide))).2; omega, by have := (h_x267).2; have := ((iv_c (c := 0) (n := 0) (by decide))).1; have := ((iv_c (c := 0) (n := 0) (by decide))).2; omega⟩
              obtain ⟨x282, x278, x279, k283, k280, k281, h276, za275, zb275, zd275, z284⟩ := zc268 c273
              have ze275 : x282 = x270 := k283.symm.trans k271
              rw [ze275] at zb275
              have k280 : M264 lg tx.toNatClampNeg = x278 := k280
              have k281 : M264 a0 17 = x279 := k281
              have h277 : iv 0 60 x279 := by rw [← k281]; exact hS.2.1.int hz_a0 hk_a0 (show rgI 12 17 = (0, 60) from rfl)
              have z285 : SEG M264 sg tx.toNatClampNeg sb x278.toNatClampNeg (sh + 2) := SEG.cast z284 rfl (by omega)
              refine lv_aload_n hx hb dX12_compare_163 rfl (lv_at hl 4 rfl) ?_
              refine lv_bipush (v := 6) hx hb dX12_compare_164 (by decide) ?_
              refine lv_iload hx hb dX12_compare_166 (lv_at hl 0 rfl) ?_
              refine lv_iadd hx hb dX12_compare_168 ?_
              refine md_top (y := 7) (by decide) ?_
              refine lv_iconst (v := 0) hx hb dX12_compare_169 (by decide) ?_
              have k286 : M264 a0 16 = tx := ((Fr.kp (k := 16) f261 hk_a0 rfl).trans ((Fr.kp (k := 16) f236 hk_a0 rfl).trans ((Fr.kp (k := 16) f233 hk_a0 rfl).trans ((Fr.kp (k := 16) f52 hk_a0 rfl).trans ((Fr.kp (k := 16) f31 hk_a0 rfl).trans (Fr.kp (k := 16) f5 hk_a0 rfl)))))).trans k_tx
              have h287 : iv 0 399 x278 := by
                have := (h_le).1; have := (h_le).2; have := (h_md).1; have := (h_md).2; have := (h_nx).1; have := (h_nx).2; have := (h142).1; have := (h142).2; have := (h_tx).1; have := (h_tx).2; have := (h13).1; have := (h13).2; have := (h20).1; have := (h20).2; have := (h229).1; have := (h229).2; have := (h269).1; have := (h269).2; have := (h276).1; have := (h276).2; have := (h47).1; have := (h47).2; have := (h40).1; have := (h40).2; have := (h141).1; have := (h141).2; exact ⟨by omega, by omega⟩
              refine tw_gov hS (md_runV (As := [.int 7, .int 0]) (rest := []) hx hb hml hown hW hK hT hS.1 (t_X12_puts l D cy tx base Z K N M264 Ra J263 hS.2.1 a0 hz_a0 hk_a0 7 (iv_mono (iv_c (c := 7) (n := 7) (by decide)) (by decide) (by decide)) 0 (iv_mono (iv_c (c := 0) (n := 0) (by decide)) (by decide) (by decide)) sg k_sg lg k_lg tx k286 (iv_mono h_tx (by decide) (by decide)) x278 k280 h287) s_X12_195 ⟨rfl, rfl, ⟨Nat.le_of_ble_eq_true rfl, Nat.le_of_ble_eq_true rfl⟩, ⟨Nat.le_of_ble_eq_true rfl, Nat.le_of_ble_eq_true rfl⟩⟩ hz_a0 hk_a0 (by decide) rfl rfl hl.1 rfl (Nat.le_of_ble_eq_true rfl) dX12_compare_170) rfl rfl (fun H locs M291 R292 J290 hS f288 g289 E293 => ?_)
              have eR292 := Fr.nil g289 rfl
              subst eR292
              have p294 := E293
              obtain ⟨x295, x297, zc294, zd294, zo294, k298, h296, zl294⟩ := p294
              have k298 : M291 lg tx.toNatClampNeg = x297 := k298
              have zt294 := ti_cl (x := tx) (by have := h_tx.1; omega); have zn294 := ti_cl (x := x278) (by have := (h276).1; omega); have zm294 := ti_cl (x := x297) (by have := (h296).1; omega)
              have q299 : (7 : Int32).toInt = 7 := (by decide)
              have q300 : (0 : Int32).toInt = 0 := (by decide)
              have k301 : M291 a0 17 = x279 := (Fr.kp (k := 17) f288 hk_a0 rfl).trans k281
              have zs294 := stp_two (h := sh + 2) (show x295.toInt = (7 : Int32).toInt + 16 * 0 by omega) (by have := ((iv_c (c := 7) (n := 7) (by decide))).1; have := ((iv_c (c := 7) (n := 7) (by decide))).2; have := ((iv_c (c := 0) (n := 0) (by decide))).1; have := ((iv_c (c := 0) (n := 0) (by decide))).2; omega) (by omega)
              have z302 : SEG M291 sg tx.toNatClampNeg sb x297.toNatClampNeg (sh + 1) := SEG.cast (SEG.ext z285 (by omega) zd294 zo294 zs294) (by omega) (by omega)
              have zw294 := ti_cl (x := le) (by have := h_le.1; omega)
              have z303 : ∀ j, j < 400 * tx.toNatClampNeg + le.toNatClampNeg → M291 sg j = Ma sg j := fun j hj => (zo294 j (by omega)).trans (z272 j hj)
              refine lv_iconst (v := 1) hx hb dX12_compare_173 (by decide) ?_
              have k304 : M291 a0 13 = x270 := (Fr.kp (k := 13) f288 hk_a0 rfl).trans k271
              have q305 : nx.toInt ≤ x270.toInt ∧ x270.toInt ≤ tp.toInt := by
                have := (h_le).1; have := (h_le).2; have := (h_md).1; have := (h_md).2; have := (h_nx).1; have := (h_nx).2; have := (h142).1; have := (h142).2; have := (h_tx).1; have := (h_tx).2; have := (h13).1; have := (h13).2; have := (h20).1; have := (h20).2; have := (h229).1; have := (h229).2; have := (h269).1; have := (h269).2; have := (h276).1; have := (h276).2; have := (h296).1; have := (h296).2; have := (h47).1; have := (h47).2; have := (h40).1; have := (h40).2; have := (h141).1; have := (h141).2; omega
              have q306 : le.toInt ≤ x297.toInt ∧ x297.toInt - le.toInt ≤ x270.toInt - nx.toInt ∧ ((sh + 1 : Nat) : Int) ≤ x279.toInt := by
                have := (h_le).1; have := (h_le).2; have := (h_md).1; have := (h_md).2; have := (h_nx).1; have := (h_nx).2; have := (h142).1; have := (h142).2; have := (h_tx).1; have := (h_tx).2; have := (h13).1; have := (h13).2; have := (h20).1; have := (h20).2; have := (h229).1; have := (h229).2; have := (h269).1; have := (h269).2; have := (h276).1; have := (h276).2; have := (h277).1; have := (h277).2; have := (h296).1; have := (h296).2; have := (h47).1; have := (h47).2; have := (h40).1; have := (h40).2; have := (h141).1; have := (h141).2; omega
              exact tw_endz hx hb hr hlocks hK hT hS hQ rfl (⟨(iv_mono (iv_c (c := 1) (n := 1) (by decide)) (by decide) (by decide)), ⟨z303, ⟨x270, k304, h269, q305.1, q305.2⟩, fun _ => ⟨x270, x297, x279, k304, k298, k301, (iv_mono h296 (by decide) (by decide)), q306.1, q306.2.1, q306.2.2, z302⟩⟩⟩) dX12_compare_174
            · have q307 : x267.toInt = 0 := ti_eq c273
              have h308 : iv 0 0 x267 := ⟨by have := (h_x267).1; have := ((iv_c (c := 0) (n := 0) (by decide))).1; omega, by have := (h_x267).2; have := ((iv_c (c := 0) (n := 0) (by decide))).2; omega⟩
              refine lv_iconst (v := 0) hx hb dX12_compare_161 (by decide) ?_
              have q309 : nx.toInt ≤ x270.toInt ∧ x270.toInt ≤ tp.toInt := by
                have := (h_le).1; have := (h_le).2; have := (h_md).1; have := (h_md).2; have := (h_nx).1; have := (h_nx).2; have := (h142).1; have := (h142).2; have := (h_tx).1; have := (h_tx).2; have := (h13).1; have := (h13).2; have := (h20).1; have := (h20).2; have := (h229).1; have := (h229).2; have := (h269).1; have := (h269).2; have := (h47).1; have := (h47).2; have := (h40).1; have := (h40).2; have := (h141).1; have := (h141).2; omega
              exact tw_endz hx hb hr hlocks hK hT hS hQ rfl (⟨(iv_mono (iv_c (c := 0) (n := 0) (by decide)) (by decide) (by decide)), ⟨z272, ⟨x270, k271, h269, q309.1, q309.2⟩, (fun h => absurd rfl h)⟩⟩) dX12_compare_162
          · have q310 : x242.toInt = 0 := ti_eq c248
            have h311 : iv 0 0 x242 := ⟨by have := (h_x242).1; have := ((iv_c (c := 0) (n := 0) (by decide))).1; omega, by have := (h_x242).2; have := ((iv_c (c := 0) (n := 0) (by decide))).2; omega⟩
            refine lv_iconst (v := 0) hx hb dX12_compare_113 (by decide) ?_
            have k312 : M239 a0 13 = x231 := (Fr.kp (k := 13) f236 hk_a0 rfl).trans k232
            have q313 : nx.toInt ≤ x231.toInt ∧ x231.toInt ≤ tp.toInt := by
              have := (h_le).1; have := (h_le).2; have := (h_md).1; have := (h_md).2; have := (h_nx).1; have := (h_nx).2; have := (h142).1; have := (h142).2; have := (h_tx).1; have := (h_tx).2; have := (h13).1; have := (h13).2; have := (h20).1; have := (h20).2; have := (h229).1; have := (h229).2; have := (h47).1; have := (h47).2; have := (h40).1; have := (h40).2; have := (h141).1; have := (h141).2; omega
            exact tw_endz hx hb hr hlocks hK hT hS hQ rfl (⟨(iv_mono (iv_c (c := 0) (n := 0) (by decide)) (by decide) (by decide)), ⟨(fun j hj => (Fr.kpa f236 hk_sg rfl j).trans ((fun j hj => (Fr.kpa f233 hk_sg rfl j).trans ((fun j hj => (Fr.kpa f52 hk_sg rfl j).trans ((fun j hj => (Fr.kpa f31 hk_sg rfl j).trans (z16 j hj)) j hj)) j hj)) j hj)), ⟨x231, k312, (iv_mono h229 (by decide) (by decide)), q313.1, q313.2⟩, (fun h => absurd rfl h)⟩⟩) dX12_compare_114
    · have q314 : ¬ x37.toInt = 60 := ti_ne c45
      refine lv_iload_n hx hb dX12_compare_25 rfl (lv_at hl 1 rfl) ?_
      refine lv_bipush (v := 61) hx hb dX12_compare_26 (by decide) ?_
      refine lv_icmp_eq (tgt := 44) hx hb dX12_compare_28 (by decide) (fun c315 => ?_) (fun c315 => ?_)
      · have q316 : x37.toInt = 61 := ti_eq c315
        have h317 : iv 61 61 x37 := ⟨by have := (h_x37).1; have := ((iv_c (c := 61) (n := 61) (by decide))).1; omega, by have := (h_x37).2; have := ((iv_c (c := 61) (n := 61) (by decide))).2; omega⟩
        refine lv_aload_n hx hb dX12_compare_44 rfl (lv_at hl 2 rfl) ?_
        refine lv_dup hx hb dX12_compare_45 rfl ?_
        refine tw_getk hx hb hW hown hK hS f_X12_127_11 hz_a0 hk_a0 (v := x41) k39 dX12_compare_46 ?_
        refine lv_iconst (v := 1) hx hb dX12_compare_49 (by decide) ?_
        refine tw_iadd (lo := 1) (hi := 401) hx hb h40 (iv_c (c := 1) (n := 1) (by decide)) ⟨by decide, by decide⟩ ⟨by decide, by decide⟩ dX12_compare_50 (fun x320 e319 h318 => ?_)
        have e319 : x320.toInt = x41.toInt + 1 := e319
        have h323 : iv 0 400 x320 := by
          have := (h_le).1; have := (h_le).2; have := (h_md).1; have := (h_md).2; have := (h_nx).1; have := (h_nx).2; have := (h_tp).1; have := (h_tp).2; have := (h_tx).1; have := (h_tx).2; have := (h13).1; have := (h13).2; have := (h20).1; have := (h20).2; have := (h318).1; have := (h318).2; have := (h317).1; have := (h317).2; have := (h40).1; have := (h40).2; exact ⟨by omega, by omega⟩
        refine tw_puti hx hb hW hown hK hS f_X12_127_11 hz_a0 hk_a0 rfl rfl (lo := 0) (hi := 400) rfl h323 rfl dX12_compare_51 (fun H locs M324 hS k321 f322 => ?_)
        refine lv_iload_n hx hb dX12_compare_54 rfl (lv_at hl 1 rfl) ?_
        refine lv_bipush (v := 61) hx hb dX12_compare_55 (by decide) ?_
        refine lv_icmp_eq (tgt := 89) hx hb dX12_compare_57 (by decide) (fun c325 => ?_) (fun c325 => False.elim (by have q : ¬ x37.toInt = 61 := ti_ne c325; have := (h317).1; have := (h317).2; omega))
        have q326 : x37.toInt = 61 := ti_eq c325
        refine lv_iconst (v := 0) hx hb dX12_compare_89 (by decide) ?_
        refine lv_istore_n (lv' := [(3, .int 0), (2, .int x41), (1, .int x37), (0, .ref (base + a0))]) hx hb dX12_compare_90 rfl hl (by decide) rfl (fun ls hl => ?_)
        refine lv_iload_n hx hb dX12_compare_91 rfl (lv_at hl 0 rfl) ?_
        refine lv_if_eq (tgt := 105) hx hb dX12_compare_92 (by decide) (fun _ => ?_) (fun h => absurd h (by decide))
        refine lv_aload_n hx hb dX12_compare_105 rfl (lv_at hl 3 rfl) ?_
        refine lv_iload_n hx hb dX12_compare_106 rfl (lv_at hl 1 rfl) ?_
        have k327 : M324 a0 17 = x23 := ((Fr.kp (k := 17) f322 hk_a0 rfl).trans (Fr.kp (k := 17) f31 hk_a0 rfl)).trans k25
        refine tw_goi hS (md_runV (As := [.int x41]) (rest := []) hx hb hml hown hW hK hT hS.1 (t_X12_makes l D cy tx base Z K N M324 Ra J33 hS.2.1 a0 hz_a0 hk_a0 x41 h40 x23 k327 (iv_mono h21 (by decide) (by decide))) s_X12_203 ⟨rfl, rfl, ⟨Nat.le_of_ble_eq_true rfl, Nat.le_of_ble_eq_true rfl⟩, ⟨Nat.le_of_ble_eq_true rfl, Nat.le_of_ble_eq_true rfl⟩⟩ hz_a0 hk_a0 (by decide) rfl rfl hl.1 rfl (Nat.le_of_ble_eq_true rfl) dX12_compare_107) rfl rfl (fun x334 H locs M331 R332 J330 hS f328 g329 E333 => ?_)
        have eR332 := Fr.nil g329 rfl
        subst eR332
        obtain ⟨h_x334, p335⟩ := E333
        obtain ⟨x337, k338, h336, q339⟩ := p335
        have k338 : M331 a0 17 = x337 := k338
        refine lv_if_ne (tgt := 115) hx hb dX12_compare_110 (by decide) (fun c340 => ?_) (fun c340 => ?_)
        · have q341 : ¬ x334.toInt = 0 := ti_ne c340
          have h342 : iv 1 1 x334 := ⟨by have := (h_x334).1; have := ((iv_c (c := 0) (n := 0) (by decide))).1; have := ((iv_c (c := 0) (n := 0) (by decide))).2; omega, by have := (h_x334).2; have := ((iv_c (c := 0) (n := 0) (by decide))).1; have := ((iv_c (c := 0) (n := 0) (by decide))).2; omega⟩
          refine lv_iload_n hx hb dX12_compare_115 rfl (lv_at hl 2 rfl) ?_
          refine lv_bipush (v := 60) hx hb dX12_compare_116 (by decide) ?_
          refine lv_icmp_ne (tgt := 133) hx hb dX12_compare_118 (by decide) (fun c343 => ?_) (fun c343 => False.elim (by have q : x37.toInt = 60 := ti_eq c343; have := (h317).1; have := (h317).2; omega))
          have q344 : ¬ x37.toInt = 60 := ti_ne c343
          refine lv_iload_n hx hb dX12_compare_133 rfl (lv_at hl 2 rfl) ?_
          refine lv_bipush (v := 61) hx hb dX12_compare_134 (by decide) ?_
          refine lv_icmp_ne (tgt := 143) hx hb dX12_compare_136 (by decide) (fun c345 => False.elim (by have q : ¬ x37.toInt = 61 := ti_ne c345; have := (h317).1; have := (h317).2; omega)) (fun c345 => ?_)
          have q346 : x37.toInt = 61 := ti_eq c345
          refine lv_iconst (v := 2) hx hb dX12_compare_139 (by decide) ?_
          refine lv_goto (tgt := 152) hx hb dX12_compare_140 (by decide) ?_
          refine lv_istore (lv' := [(4, .int 2), (3, .int 0), (2, .int x41), (1, .int x37), (0, .ref (base + a0))]) hx hb dX12_compare_152 hl (by decide) rfl (fun ls hl => ?_)
          refine lv_aload_n hx hb dX12_compare_154 rfl (lv_at hl 4 rfl) ?_
          have k347 : M331 a0 13 = x320 := (Fr.kp (k := 13) f328 hk_a0 rfl).trans k321
          have h348 : iv 0 400 x320 := by
            have := (h_le).1; have := (h_le).2; have := (h_md).1; have := (h_md).2; have := (h_nx).1; have := (h_nx).2; have := (h_tp).1; have := (h_tp).2; have := (h_tx).1; have := (h_tx).2; have := (h13).1; have := (h13).2; have := (h20).1; have := (h20).2; have := (h318).1; have := (h318).2; have := (h317).1; have := (h317).2; have := (h40).1; have := (h40).2; exact ⟨by omega, by omega⟩
          have k349 : M331 a0 1 = tp := ((Fr.kp (k := 1) f328 hk_a0 rfl).trans ((Fr.kp (k := 1) f322 hk_a0 rfl).trans ((Fr.kp (k := 1) f31 hk_a0 rfl).trans (Fr.kp (k := 1) f5 hk_a0 rfl)))).trans k_tp
          have q350 : x320.toInt ≤ tp.toInt := by
            have := (h_le).1; have := (h_le).2; have := (h_md).1; have := (h_md).2; have := (h_nx).1; have := (h_nx).2; have := (h_tp).1; have := (h_tp).2; have := (h_tx).1; have := (h_tx).2; have := (h13).1; have := (h13).2; have := (h20).1; have := (h20).2; have := (h318).1; have := (h318).2; have := (h317).1; have := (h317).2; have := (h40).1; have := (h40).2; omega
          have k351 : M331 a0 16 = tx := ((Fr.kp (k := 16) f328 hk_a0 rfl).trans ((Fr.kp (k := 16) f322 hk_a0 rfl).trans ((Fr.kp (k := 16) f31 hk_a0 rfl).trans (Fr.kp (k := 16) f5 hk_a0 rfl)))).trans k_tx
          have k352 : M331 lg tx.toNatClampNeg = x22 := ((Fr.kpa f328 hk_lg rfl tx.toNatClampNeg).trans ((Fr.kpa f322 hk_lg rfl tx.toNatClampNeg).trans (Fr.kpa f31 hk_lg rfl tx.toNatClampNeg))).trans k24
          have q353 : ((sb : Nat) : Int) ≤ x22.toInt := by
            have := (h_le).1; have := (h_le).2; have := (h_md).1; have := (h_md).2; have := (h_nx).1; have := (h_nx).2; have := (h_tp).1; have := (h_tp).2; have := (h_tx).1; have := (h_tx).2; have := (h13).1; have := (h13).2; have := (h20).1; have := (h20).2; have := (h40).1; have := (h40).2; omega
          have q354 : ((sh + 1 : Nat) : Int) ≤ x337.toInt := by
            have := (h_le).1; have := (h_le).2; have := (h_md).1; have := (h_md).2; have := (h_nx).1; have := (h_nx).2; have := (h_tp).1; have := (h_tp).2; have := (h_tx).1; have := (h_tx).2; have := (h21).1; have := (h21).2; have := (h336).1; have := (h336).2; omega
          have q355 : x22.toInt ≤ x320.toInt := by
            have := (h_le).1; have := (h_le).2; have := (h_md).1; have := (h_md).2; have := (h_nx).1; have := (h_nx).2; have := (h_tp).1; have := (h_tp).2; have := (h_tx).1; have := (h_tx).2; have := (h13).1; have := (h13).2; have := (h20).1; have := (h20).2; have := (h318).1; have := (h318).2; have := (h317).1; have := (h317).2; have := (h40).1; have := (h40).2; omega
          refine tw_goi hS (md_runV (As := []) (rest := []) hx hb hml hown hW hK hT hS.1 (t_X12_sum l D cy tx base Z K N M331 Ra J330 hS.2.1 a0 hz_a0 hk_a0 tb k_tb x320 k347 h348 tp k349 (iv_mono h_tp (by decide) (by decide)) q350 lg k_lg sg k_sg tx k351 (iv_mono h_tx (by decide) (by decide)) x22 k352 (iv_mono h20 (by decide) (by decide)) x337 k338 (iv_mono h336 (by decide) (by decide)) (sb) (sh + 1) (SEG.to (SEG.to (SEG.to z28 (fun j _ _ => Fr.kpa f31 hk_sg rfl j)) (fun j _ _ => Fr.kpa f322 hk_sg rfl j)) (fun j _ _ => Fr.kpa f328 hk_sg rfl j)) q353 q354 q355) s_X12_216 ⟨rfl, rfl, ⟨Nat.le_of_ble_eq_true rfl, Nat.le_of_ble_eq_true rfl⟩, ⟨Nat.le_of_ble_eq_true rfl, Nat.le_of_ble_eq_true rfl⟩⟩ hz_a0 hk_a0 (by decide) rfl rfl hl.1 rfl (Nat.le_of_ble_eq_true rfl) dX12_compare_155) rfl rfl (fun x362 H locs M359 R360 J358 hS f356 g357 E361 => ?_)
          have eR360 := Fr.nil g357 rfl
          subst eR360
          obtain ⟨h_x362, p363⟩ := E361
          obtain ⟨zf363, ⟨x365, k366, h364, zu363, zv363⟩, zc363⟩ := p363
          have k366 : M359 a0 13 = x365 := k366
          have zw363 := ti_cl (x := le) (by have := h_le.1; omega); have zy363 := ti_cl (x := x22) (by have := (h20).1; omega)
          have z367 : ∀ j, j < 400 * tx.toNatClampNeg + le.toNatClampNeg → M359 sg j = Ma sg j := fun j hj => (zf363 j (by omega)).trans ((fun j hj => (Fr.kpa f328 hk_sg rfl j).trans ((fun j hj => (Fr.kpa f322 hk_sg rfl j).trans ((fun j hj => (Fr.kpa f31 hk_sg rfl j).trans (z16 j hj)) j hj)) j hj)) j hj)
          refine lv_if_ne (tgt := 163) hx hb dX12_compare_158 (by decide) (fun c368 => ?_) (fun c368 => ?_)
          · have q369 : ¬ x362.toInt = 0 := ti_ne c368
            have h370 : iv 1 1 x362 := ⟨by have := (h_x362).1; have := ((iv_c (c := 0) (n := 0) (by decide))).1; have := ((iv_c (c := 0) (n := 0) (by decide))).2; omega, by have := (h_x362).2; have := ((iv_c (c := 0) (n := 0) (by decide))).1; have := ((iv_c (c := 0) (n := 0) (by decide))).2; omega⟩
            obtain ⟨x377, x373, x374, k378, k375, k376, h371, za370, zb370, zd370, z379⟩ := zc363 c368
            have ze370 : x377 = x365 := k378.symm.trans k366
            rw [ze370] at zb370
            have k375 : M359 lg tx.toNatClampNeg = x373 := k375
            have k376 : M359 a0 17 = x374 := k376
            have h372 : iv 0 60 x374 := by rw [← k376]; exact hS.2.1.int hz_a0 hk_a0 (show rgI 12 17 = (0, 60) from rfl)
            have z380 : SEG M359 sg tx.toNatClampNeg sb x373.toNatClampNeg (sh + 2) := SEG.cast z379 rfl (by omega)
            refine lv_aload_n hx hb dX12_compare_163 rfl (lv_at hl 4 rfl) ?_
            refine lv_bipush (v := 6) hx hb dX12_compare_164 (by decide) ?_
            refine lv_iload hx hb dX12_compare_166 (lv_at hl 0 rfl) ?_
            refine lv_iadd hx hb dX12_compare_168 ?_
            refine md_top (y := 8) (by decide) ?_
            refine lv_iconst (v := 0) hx hb dX12_compare_169 (by decide) ?_
            have k381 : M359 a0 16 = tx := ((Fr.kp (k := 16) f356 hk_a0 rfl).trans ((Fr.kp (k := 16) f328 hk_a0 rfl).trans ((Fr.kp (k := 16) f322 hk_a0 rfl).trans ((Fr.kp (k := 16) f31 hk_a0 rfl).trans (Fr.kp (k := 16) f5 hk_a0 rfl))))).trans k_tx
            have h382 : iv 0 399 x373 := by
              have := (h_le).1; have := (h_le).2; have := (h_md).1; have := (h_md).2; have := (h_nx).1; have := (h_nx).2; have := (h_tp).1; have := (h_tp).2; have := (h_tx).1; have := (h_tx).2; have := (h13).1; have := (h13).2; have := (h20).1; have := (h20).2; have := (h318).1; have := (h318).2; have := (h364).1; have := (h364).2; have := (h317).1; have := (h317).2; have := (h371).1; have := (h371).2; have := (h40).1; have := (h40).2; exact ⟨by omega, by omega⟩
            refine tw_gov hS (md_runV (As := [.int 8, .int 0]) (rest := []) hx hb hml hown hW hK hT hS.1 (t_X12_puts l D cy tx base Z K N M359 Ra J358 hS.2.1 a0 hz_a0 hk_a0 8 (iv_mono (iv_c (c := 8) (n := 8) (by decide)) (by decide) (by decide)) 0 (iv_mono (iv_c (c := 0) (n := 0) (by decide)) (by decide) (by decide)) sg k_sg lg k_lg tx k381 (iv_mono h_tx (by decide) (by decide)) x373 k375 h382) s_X12_195 ⟨rfl, rfl, ⟨Nat.le_of_ble_eq_true rfl, Nat.le_of_ble_eq_true rfl⟩, ⟨Nat.le_of_ble_eq_true rfl, Nat.le_of_ble_eq_true rfl⟩⟩ hz_a0 hk_a0 (by decide) rfl rfl hl.1 rfl (Nat.le_of_ble_eq_true rfl) dX12_compare_170) rfl rfl (fun H locs M386 R387 J385 hS f383 g384 E388 => ?_)
            have eR387 := Fr.nil g384 rfl
            subst eR387
            have p389 := E388
            obtain ⟨x390, x392, zc389, zd389, zo389, k393, h391, zl389⟩ := p389
            have k393 : M386 lg tx.toNatClampNeg = x392 := k393
            have zt389 := ti_cl (x := tx) (by have := h_tx.1; omega); have zn389 := ti_cl (x := x373) (by have := (h371).1; omega); have zm389 := ti_cl (x := x392) (by have := (h391).1; omega)
            have q394 : (8 : Int32).toInt = 8 := (by decide)
            have q395 : (0 : Int32).toInt = 0 := (by decide)
            have k396 : M386 a0 17 = x374 := (Fr.kp (k := 17) f383 hk_a0 rfl).trans k376
            have zs389 := stp_two (h := sh + 2) (show x390.toInt = (8 : Int32).toInt + 16 * 0 by omega) (by have := ((iv_c (c := 8) (n := 8) (by decide))).1; have := ((iv_c (c := 8) (n := 8) (by decide))).2; have := ((iv_c (c := 0) (n := 0) (by decide))).1; have := ((iv_c (c := 0) (n := 0) (by decide))).2; omega) (by omega)
            have z397 : SEG M386 sg tx.toNatClampNeg sb x392.toNatClampNeg (sh + 1) := SEG.cast (SEG.ext z380 (by omega) zd389 zo389 zs389) (by omega) (by omega)
            have zw389 := ti_cl (x := le) (by have := h_le.1; omega)
            have z398 : ∀ j, j < 400 * tx.toNatClampNeg + le.toNatClampNeg → M386 sg j = Ma sg j := fun j hj => (zo389 j (by omega)).trans (z367 j hj)
            refine lv_iconst (v := 1) hx hb dX12_compare_173 (by decide) ?_
            have k399 : M386 a0 13 = x365 := (Fr.kp (k := 13) f383 hk_a0 rfl).trans k366
            have q400 : nx.toInt ≤ x365.toInt ∧ x365.toInt ≤ tp.toInt := by
              have := (h_le).1; have := (h_le).2; have := (h_md).1; have := (h_md).2; have := (h_nx).1; have := (h_nx).2; have := (h_tp).1; have := (h_tp).2; have := (h_tx).1; have := (h_tx).2; have := (h13).1; have := (h13).2; have := (h20).1; have := (h20).2; have := (h318).1; have := (h318).2; have := (h364).1; have := (h364).2; have := (h317).1; have := (h317).2; have := (h371).1; have := (h371).2; have := (h391).1; have := (h391).2; have := (h40).1; have := (h40).2; omega
            have q401 : le.toInt ≤ x392.toInt ∧ x392.toInt - le.toInt ≤ x365.toInt - nx.toInt ∧ ((sh + 1 : Nat) : Int) ≤ x374.toInt := by
              have := (h_le).1; have := (h_le).2; have := (h_md).1; have := (h_md).2; have := (h_nx).1; have := (h_nx).2; have := (h_tp).1; have := (h_tp).2; have := (h_tx).1; have := (h_tx).2; have := (h13).1; have := (h13).2; have := (h20).1; have := (h20).2; have := (h318).1; have := (h318).2; have := (h364).1; have := (h364).2; have := (h317).1; have := (h317).2; have := (h371).1; have := (h371).2; have := (h372).1; have := (h372).2; have := (h391).1; have := (h391).2; have := (h40).1; have := (h40).2; omega
            exact tw_endz hx hb hr hlocks hK hT hS hQ rfl (⟨(iv_mono (iv_c (c := 1) (n := 1) (by decide)) (by decide) (by decide)), ⟨z398, ⟨x365, k399, h364, q400.1, q400.2⟩, fun _ => ⟨x365, x392, x374, k399, k393, k396, (iv_mono h391 (by decide) (by decide)), q401.1, q401.2.1, q401.2.2, z397⟩⟩⟩) dX12_compare_174
          · have q402 : x362.toInt = 0 := ti_eq c368
            have h403 : iv 0 0 x362 := ⟨by have := (h_x362).1; have := ((iv_c (c := 0) (n := 0) (by decide))).1; omega, by have := (h_x362).2; have := ((iv_c (c := 0) (n := 0) (by decide))).2; omega⟩
            refine lv_iconst (v := 0) hx hb dX12_compare_161 (by decide) ?_
            have q404 : nx.toInt ≤ x365.toInt ∧ x365.toInt ≤ tp.toInt := by
              have := (h_le).1; have := (h_le).2; have := (h_md).1; have := (h_md).2; have := (h_nx).1; have := (h_nx).2; have := (h_tp).1; have := (h_tp).2; have := (h_tx).1; have := (h_tx).2; have := (h13).1; have := (h13).2; have := (h20).1; have := (h20).2; have := (h318).1; have := (h318).2; have := (h364).1; have := (h364).2; have := (h317).1; have := (h317).2; have := (h40).1; have := (h40).2; omega
            exact tw_endz hx hb hr hlocks hK hT hS hQ rfl (⟨(iv_mono (iv_c (c := 0) (n := 0) (by decide)) (by decide) (by decide)), ⟨z367, ⟨x365, k366, h364, q404.1, q404.2⟩, (fun h => absurd rfl h)⟩⟩) dX12_compare_162
        · have q405 : x334.toInt = 0 := ti_eq c340
          have h406 : iv 0 0 x334 := ⟨by have := (h_x334).1; have := ((iv_c (c := 0) (n := 0) (by decide))).1; omega, by have := (h_x334).2; have := ((iv_c (c := 0) (n := 0) (by decide))).2; omega⟩
          refine lv_iconst (v := 0) hx hb dX12_compare_113 (by decide) ?_
          have k407 : M331 a0 13 = x320 := (Fr.kp (k := 13) f328 hk_a0 rfl).trans k321
          have q408 : nx.toInt ≤ x320.toInt ∧ x320.toInt ≤ tp.toInt := by
            have := (h_le).1; have := (h_le).2; have := (h_md).1; have := (h_md).2; have := (h_nx).1; have := (h_nx).2; have := (h_tp).1; have := (h_tp).2; have := (h_tx).1; have := (h_tx).2; have := (h13).1; have := (h13).2; have := (h20).1; have := (h20).2; have := (h318).1; have := (h318).2; have := (h317).1; have := (h317).2; have := (h40).1; have := (h40).2; omega
          exact tw_endz hx hb hr hlocks hK hT hS hQ rfl (⟨(iv_mono (iv_c (c := 0) (n := 0) (by decide)) (by decide) (by decide)), ⟨(fun j hj => (Fr.kpa f328 hk_sg rfl j).trans ((fun j hj => (Fr.kpa f322 hk_sg rfl j).trans ((fun j hj => (Fr.kpa f31 hk_sg rfl j).trans (z16 j hj)) j hj)) j hj)), ⟨x320, k407, (iv_mono h318 (by decide) (by decide)), q408.1, q408.2⟩, (fun h => absurd rfl h)⟩⟩) dX12_compare_114
      · have q409 : ¬ x37.toInt = 61 := ti_ne c315
        refine lv_iload_n hx hb dX12_compare_31 rfl (lv_at hl 1 rfl) ?_
        refine lv_bipush (v := 62) hx hb dX12_compare_32 (by decide) ?_
        refine lv_icmp_eq (tgt := 44) hx hb dX12_compare_34 (by decide) (fun c410 => ?_) (fun c410 => ?_)
        · have q411 : x37.toInt = 62 := ti_eq c410
          have h412 : iv 62 62 x37 := ⟨by have := (h_x37).1; have := ((iv_c (c := 62) (n := 62) (by decide))).1; omega, by have := (h_x37).2; have := ((iv_c (c := 62) (n := 62) (by decide))).2; omega⟩
          refine lv_aload_n hx hb dX12_compare_44 rfl (lv_at hl 2 rfl) ?_
          refine lv_dup hx hb dX12_compare_45 rfl ?_
          refine tw_getk hx hb hW hown hK hS f_X12_127_11 hz_a0 hk_a0 (v := x41) k39 dX12_compare_46 ?_
          refine lv_iconst (v := 1) hx hb dX12_compare_49 (by decide) ?_
          refine tw_iadd (lo := 1) (hi := 401) hx hb h40 (iv_c (c := 1) (n := 1) (by decide)) ⟨by decide, by decide⟩ ⟨by decide, by decide⟩ dX12_compare_50 (fun x415 e414 h413 => ?_)
          have e414 : x415.toInt = x41.toInt + 1 := e414
          have h418 : iv 0 400 x415 := by
            have := (h_le).1; have := (h_le).2; have := (h_md).1; have := (h_md).2; have := (h_nx).1; have := (h_nx).2; have := (h_tp).1; have := (h_tp).2; have := (h_tx).1; have := (h_tx).2; have := (h13).1; have := (h13).2; have := (h20).1; have := (h20).2; have := (h412).1; have := (h412).2; have := (h40).1; have := (h40).2; have := (h413).1; have := (h413).2; exact ⟨by omega, by omega⟩
          refine tw_puti hx hb hW hown hK hS f_X12_127_11 hz_a0 hk_a0 rfl rfl (lo := 0) (hi := 400) rfl h418 rfl dX12_compare_51 (fun H locs M419 hS k416 f417 => ?_)
          refine lv_iload_n hx hb dX12_compare_54 rfl (lv_at hl 1 rfl) ?_
          refine lv_bipush (v := 61) hx hb dX12_compare_55 (by decide) ?_
          refine lv_icmp_eq (tgt := 89) hx hb dX12_compare_57 (by decide) (fun c420 => False.elim (by have q : x37.toInt = 61 := ti_eq c420; have := (h412).1; have := (h412).2; omega)) (fun c420 => ?_)
          have q421 : ¬ x37.toInt = 61 := ti_ne c420
          refine lv_aload_n hx hb dX12_compare_60 rfl (lv_at hl 2 rfl) ?_
          refine tw_getk hx hb hW hown hK hS f_X12_127_11 hz_a0 hk_a0 (v := x415) k416 dX12_compare_61 ?_
          refine lv_aload_n hx hb dX12_compare_64 rfl (lv_at hl 2 rfl) ?_
          have k422 : M419 a0 1 = tp := ((Fr.kp (k := 1) f417 hk_a0 rfl).trans ((Fr.kp (k := 1) f31 hk_a0 rfl).trans (Fr.kp (k := 1) f5 hk_a0 rfl))).trans k_tp
          refine tw_getk hx hb hW hown hK hS f_X12_116_11 hz_a0 hk_a0 (v := tp) k422 dX12_compare_65 ?_
          refine lv_icmp_ge (tgt := 89) hx hb dX12_compare_68 (by decide) (fun c423 => ?_) (fun c423 => ?_)
          · have q424 : tp.toInt ≤ x415.toInt := ti_le c423
            refine lv_iconst (v := 0) hx hb dX12_compare_89 (by decide) ?_
            refine lv_istore_n (lv' := [(3, .int 0), (2, .int x41), (1, .int x37), (0, .ref (base + a0))]) hx hb dX12_compare_90 rfl hl (by decide) rfl (fun ls hl => ?_)
            refine lv_iload_n hx hb dX12_compare_91 rfl (lv_at hl 0 rfl) ?_
            refine lv_if_eq (tgt := 105) hx hb dX12_compare_92 (by decide) (fun _ => ?_) (fun h => absurd h (by decide))
            refine lv_aload_n hx hb dX12_compare_105 rfl (lv_at hl 3 rfl) ?_
            refine lv_iload_n hx hb dX12_compare_106 rfl (lv_at hl 1 rfl) ?_
            have k425 : M419 a0 17 = x23 := ((Fr.kp (k := 17) f417 hk_a0 rfl).trans (Fr.kp (k := 17) f31 hk_a0 rfl)).trans k25
            refine tw_goi hS (md_runV (As := [.int x41]) (rest := []) hx hb hml hown hW hK hT hS.1 (t_X12_makes l D cy tx base Z K N M419 Ra J33 hS.2.1 a0 hz_a0 hk_a0 x41 h40 x23 k425 (iv_mono h21 (by decide) (by decide))) s_X12_203 ⟨rfl, rfl, ⟨Nat.le_of_ble_eq_true rfl, Nat.le_of_ble_eq_true rfl⟩, ⟨Nat.le_of_ble_eq_true rfl, Nat.le_of_ble_eq_true rfl⟩⟩ hz_a0 hk_a0 (by decide) rfl rfl hl.1 rfl (Nat.le_of_ble_eq_true rfl) dX12_compare_107) rfl rfl (fun x432 H locs M429 R430 J428 hS f426 g427 E431 => ?_)
            have eR430 := Fr.nil g427 rfl
            subst eR430
            obtain ⟨h_x432, p433⟩ := E431
            obtain ⟨x435, k436, h434, q437⟩ := p433
            have k436 : M429 a0 17 = x435 := k436
            refine lv_if_ne (tgt := 115) hx hb dX12_compare_110 (by decide) (fun c438 => ?_) (fun c438 => ?_)
            · have q439 : ¬ x432.toInt = 0 := ti_ne c438
              have h440 : iv 1 1 x432 := ⟨by have := (h_x432).1; have := ((iv_c (c := 0) (n := 0) (by decide))).1; have := ((iv_c (c := 0) (n := 0) (by decide))).2; omega, by have := (h_x432).2; have := ((iv_c (c := 0) (n := 0) (by decide))).1; have := ((iv_c (c := 0) (n := 0) (by decide))).2; omega⟩
              refine lv_iload_n hx hb dX12_compare_115 rfl (lv_at hl 2 rfl) ?_
              refine lv_bipush (v := 60) hx hb dX12_compare_116 (by decide) ?_
              refine lv_icmp_ne (tgt := 133) hx hb dX12_compare_118 (by decide) (fun c441 => ?_) (fun c441 => False.elim (by have q : x37.toInt = 60 := ti_eq c441; have := (h412).1; have := (h412).2; omega))
              have q442 : ¬ x37.toInt = 60 := ti_ne c441
              refine lv_iload_n hx hb dX12_compare_133 rfl (lv_at hl 2 rfl) ?_
              refine lv_bipush (v := 61) hx hb dX12_compare_134 (by decide) ?_
              refine lv_icmp_ne (tgt := 143) hx hb dX12_compare_136 (by decide) (fun c443 => ?_) (fun c443 => False.elim (by have q : x37.toInt = 61 := ti_eq c443; have := (h412).1; have := (h412).2; omega))
              have q444 : ¬ x37.toInt = 61 := ti_ne c443
              refine lv_iload_n hx hb dX12_compare_143 rfl (lv_at hl 0 rfl) ?_
              refine lv_if_eq (tgt := 151) hx hb dX12_compare_144 (by decide) (fun _ => ?_) (fun h => absurd h (by decide))
              refine lv_iconst (v := 4) hx hb dX12_compare_151 (by decide) ?_
              refine lv_istore (lv' := [(4, .int 4), (3, .int 0), (2, .int x41), (1, .int x37), (0, .ref (base + a0))]) hx hb dX12_compare_152 hl (by decide) rfl (fun ls hl => ?_)
              refine lv_aload_n hx hb dX12_compare_154 rfl (lv_at hl 4 rfl) ?_
              have k445 : M429 a0 13 = x415 := (Fr.kp (k := 13) f426 hk_a0 rfl).trans k416
              have h446 : iv 0 400 x415 := by
                have := (h_le).1; have := (h_le).2; have := (h_md).1; have := (h_md).2; have := (h_nx).1; have := (h_nx).2; have := (h_tp).1; have := (h_tp).2; have := (h_tx).1; have := (h_tx).2; have := (h13).1; have := (h13).2; have := (h20).1; have := (h20).2; have := (h412).1; have := (h412).2; have := (h40).1; have := (h40).2; have := (h413).1; have := (h413).2; exact ⟨by omega, by omega⟩
              have k447 : M429 a0 1 = tp := ((Fr.kp (k := 1) f426 hk_a0 rfl).trans ((Fr.kp (k := 1) f417 hk_a0 rfl).trans ((Fr.kp (k := 1) f31 hk_a0 rfl).trans (Fr.kp (k := 1) f5 hk_a0 rfl)))).trans k_tp
              have q448 : x415.toInt ≤ tp.toInt := by
                have := (h_le).1; have := (h_le).2; have := (h_md).1; have := (h_md).2; have := (h_nx).1; have := (h_nx).2; have := (h_tp).1; have := (h_tp).2; have := (h_tx).1; have := (h_tx).2; have := (h13).1; have := (h13).2; have := (h20).1; have := (h20).2; have := (h412).1; have := (h412).2; have := (h40).1; have := (h40).2; have := (h413).1; have := (h413).2; omega
              have k449 : M429 a0 16 = tx := ((Fr.kp (k := 16) f426 hk_a0 rfl).trans ((Fr.kp (k := 16) f417 hk_a0 rfl).trans ((Fr.kp (k := 16) f31 hk_a0 rfl).trans (Fr.kp (k := 16) f5 hk_a0 rfl)))).trans k_tx
              have k450 : M429 lg tx.toNatClampNeg = x22 := ((Fr.kpa f426 hk_lg rfl tx.toNatClampNeg).trans ((Fr.kpa f417 hk_lg rfl tx.toNatClampNeg).trans (Fr.kpa f31 hk_lg rfl tx.toNatClampNeg))).trans k24
              have q451 : ((sb : Nat) : Int) ≤ x22.toInt := by
                have := (h_le).1; have := (h_le).2; have := (h_md).1; have := (h_md).2; have := (h_nx).1; have := (h_nx).2; have := (h_tp).1; have := (h_tp).2; have := (h_tx).1; have := (h_tx).2; have := (h13).1; have := (h13).2; have := (h20).1; have := (h20).2; have := (h40).1; have := (h40).2; omega
              have q452 : ((sh + 1 : Nat) : Int) ≤ x435.toInt := by
                have := (h_le).1; have := (h_le).2; have := (h_md).1; have := (h_md).2; have := (h_nx).1; have := (h_nx).2; have := (h_tp).1; have := (h_tp).2; have := (h_tx).1; have := (h_tx).2; have := (h21).1; have := (h21).2; have := (h434).1; have := (h434).2; omega
              have q453 : x22.toInt ≤ x415.toInt := by
                have := (h_le).1; have := (h_le).2; have := (h_md).1; have := (h_md).2; have := (h_nx).1; have := (h_nx).2; have := (h_tp).1; have := (h_tp).2; have := (h_tx).1; have := (h_tx).2; have := (h13).1; have := (h13).2; have := (h20).1; have := (h20).2; have := (h412).1; have := (h412).2; have := (h40).1; have := (h40).2; have := (h413).1; have := (h413).2; omega
              refine tw_goi hS (md_runV (As := []) (rest := []) hx hb hml hown hW hK hT hS.1 (t_X12_sum l D cy tx base Z K N M429 Ra J428 hS.2.1 a0 hz_a0 hk_a0 tb k_tb x415 k445 h446 tp k447 (iv_mono h_tp (by decide) (by decide)) q448 lg k_lg sg k_sg tx k449 (iv_mono h_tx (by decide) (by decide)) x22 k450 (iv_mono h20 (by decide) (by decide)) x435 k436 (iv_mono h434 (by decide) (by decide)) (sb) (sh + 1) (SEG.to (SEG.to (SEG.to z28 (fun j _ _ => Fr.kpa f31 hk_sg rfl j)) (fun j _ _ => Fr.kpa f417 hk_sg rfl j)) (fun j _ _ => Fr.kpa f426 hk_sg rfl j)) q451 q452 q453) s_X12_216 ⟨rfl, rfl, ⟨Nat.le_of_ble_eq_true rfl, Nat.le_of_ble_eq_true rfl⟩, ⟨Nat.le_of_ble_eq_true rfl, Nat.le_of_ble_eq_true rfl⟩⟩ hz_a0 hk_a0 (by decide) rfl rfl hl.1 rfl (Nat.le_of_ble_eq_true rfl) dX12_compare_155) rfl rfl (fun x460 H locs M457 R458 J456 hS f454 g455 E459 => ?_)
              have eR458 := Fr.nil g455 rfl
              subst eR458
              obtain ⟨h_x460, p461⟩ := E459
              obtain ⟨zf461, ⟨x463, k464, h462, zu461, zv461⟩, zc461⟩ := p461
              have k464 : M457 a0 13 = x463 := k464
              have zw461 := ti_cl (x := le) (by have := h_le.1; omega); have zy461 := ti_cl (x := x22) (by have := (h20).1; omega)
              have z465 : ∀ j, j < 400 * tx.toNatClampNeg + le.toNatClampNeg → M457 sg j = Ma sg j := fun j hj => (zf461 j (by omega)).trans ((fun j hj => (Fr.kpa f426 hk_sg rfl j).trans ((fun j hj => (Fr.kpa f417 hk_sg rfl j).trans ((fun j hj => (Fr.kpa f31 hk_sg rfl j).trans (z16 j hj)) j hj)) j hj)) j hj)
              refine lv_if_ne (tgt := 163) hx hb dX12_compare_158 (by decide) (fun c466 => ?_) (fun c466 => ?_)
              · have q467 : ¬ x460.toInt = 0 := ti_ne c466
                have h468 : iv 1 1 x460 := ⟨by have := (h_x460).1; have := ((iv_c (c := 0) (n := 0) (by decide))).1; have := ((iv_c (c := 0) (n := 0) (by decide))).2; omega, by have := (h_x460).2; have := ((iv_c (c := 0) (n := 0) (by decide))).1; have := ((iv_c (c := 0) (n := 0) (by decide))).2; omega⟩
                obtain ⟨x475, x471, x472, k476, k473, k474, h469, za468, zb468, zd468, z477⟩ := zc461 c466
                have ze468 : x475 = x463 := k476.symm.trans k464
                rw [ze468] at zb468
                have k473 : M457 lg tx.toNatClampNeg = x471 := k473
                have k474 : M457 a0 17 = x472 := k474
                have h470 : iv 0 60 x472 := by rw [← k474]; exact hS.2.1.int hz_a0 hk_a0 (show rgI 12 17 = (0, 60) from rfl)
                have z478 : SEG M457 sg tx.toNatClampNeg sb x471.toNatClampNeg (sh + 2) := SEG.cast z477 rfl (by omega)
                refine lv_aload_n hx hb dX12_compare_163 rfl (lv_at hl 4 rfl) ?_
                refine lv_bipush (v := 6) hx hb dX12_compare_164 (by decide) ?_
                refine lv_iload hx hb dX12_compare_166 (lv_at hl 0 rfl) ?_
                refine lv_iadd hx hb dX12_compare_168 ?_
                refine md_top (y := 10) (by decide) ?_
                refine lv_iconst (v := 0) hx hb dX12_compare_169 (by decide) ?_
                have k479 : M457 a0 16 = tx := ((Fr.kp (k := 16) f454 hk_a0 rfl).trans ((Fr.kp (k := 16) f426 hk_a0 rfl).trans ((Fr.kp (k := 16) f417 hk_a0 rfl).trans ((Fr.kp (k := 16) f31 hk_a0 rfl).trans (Fr.kp (k := 16) f5 hk_a0 rfl))))).trans k_tx
                have h480 : iv 0 399 x471 := by
                  have := (h_le).1; have := (h_le).2; have := (h_md).1; have := (h_md).2; have := (h_nx).1; have := (h_nx).2; have := (h_tp).1; have := (h_tp).2; have := (h_tx).1; have := (h_tx).2; have := (h13).1; have := (h13).2; have := (h20).1; have := (h20).2; have := (h412).1; have := (h412).2; have := (h40).1; have := (h40).2; have := (h413).1; have := (h413).2; have := (h462).1; have := (h462).2; have := (h469).1; have := (h469).2; exact ⟨by omega, by omega⟩
                refine tw_gov hS (md_runV (As := [.int 10, .int 0]) (rest := []) hx hb hml hown hW hK hT hS.1 (t_X12_puts l D cy tx base Z K N M457 Ra J456 hS.2.1 a0 hz_a0 hk_a0 10 (iv_mono (iv_c (c := 10) (n := 10) (by decide)) (by decide) (by decide)) 0 (iv_mono (iv_c (c := 0) (n := 0) (by decide)) (by decide) (by decide)) sg k_sg lg k_lg tx k479 (iv_mono h_tx (by decide) (by decide)) x471 k473 h480) s_X12_195 ⟨rfl, rfl, ⟨Nat.le_of_ble_eq_true rfl, Nat.le_of_ble_eq_true rfl⟩, ⟨Nat.le_of_ble_eq_true rfl, Nat.le_of_ble_eq_true rfl⟩⟩ hz_a0 hk_a0 (by decide) rfl rfl hl.1 rfl (Nat.le_of_ble_eq_true rfl) dX12_compare_170) rfl rfl (fun H locs M484 R485 J483 hS f481 g482 E486 => ?_)
                have eR485 := Fr.nil g482 rfl
                subst eR485
                have p487 := E486
                obtain ⟨x488, x490, zc487, zd487, zo487, k491, h489, zl487⟩ := p487
                have k491 : M484 lg tx.toNatClampNeg = x490 := k491
                have zt487 := ti_cl (x := tx) (by have := h_tx.1; omega); have zn487 := ti_cl (x := x471) (by have := (h469).1; omega); have zm487 := ti_cl (x := x490) (by have := (h489).1; omega)
                have q492 : (10 : Int32).toInt = 10 := (by decide)
                have q493 : (0 : Int32).toInt = 0 := (by decide)
                have k494 : M484 a0 17 = x472 := (Fr.kp (k := 17) f481 hk_a0 rfl).trans k474
                have zs487 := stp_two (h := sh + 2) (show x488.toInt = (10 : Int32).toInt + 16 * 0 by omega) (by have := ((iv_c (c := 10) (n := 10) (by decide))).1; have := ((iv_c (c := 10) (n := 10) (by decide))).2; have := ((iv_c (c := 0) (n := 0) (by decide))).1; have := ((iv_c (c := 0) (n := 0) (by decide))).2; omega) (by omega)
                have z495 : SEG M484 sg tx.toNatClampNeg sb x490.toNatClampNeg (sh + 1) := SEG.cast (SEG.ext z478 (by omega) zd487 zo487 zs487) (by omega) (by omega)
                have zw487 := ti_cl (x := le) (by have := h_le.1; omega)
                have z496 : ∀ j, j < 400 * tx.toNatClampNeg + le.toNatClampNeg → M484 sg j = Ma sg j := fun j hj => (zo487 j (by omega)).trans (z465 j hj)
                refine lv_iconst (v := 1) hx hb dX12_compare_173 (by decide) ?_
                have k497 : M484 a0 13 = x463 := (Fr.kp (k := 13) f481 hk_a0 rfl).trans k464
                have q498 : nx.toInt ≤ x463.toInt ∧ x463.toInt ≤ tp.toInt := by
                  have := (h_le).1; have := (h_le).2; have := (h_md).1; have := (h_md).2; have := (h_nx).1; have := (h_nx).2; have := (h_tp).1; have := (h_tp).2; have := (h_tx).1; have := (h_tx).2; have := (h13).1; have := (h13).2; have := (h20).1; have := (h20).2; have := (h412).1; have := (h412).2; have := (h40).1; have := (h40).2; have := (h413).1; have := (h413).2; have := (h462).1; have := (h462).2; have := (h469).1; have := (h469).2; have := (h489).1; have := (h489).2; omega
                have q499 : le.toInt ≤ x490.toInt ∧ x490.toInt - le.toInt ≤ x463.toInt - nx.toInt ∧ ((sh + 1 : Nat) : Int) ≤ x472.toInt := by
                  have := (h_le).1; have := (h_le).2; have := (h_md).1; have := (h_md).2; have := (h_nx).1; have := (h_nx).2; have := (h_tp).1; have := (h_tp).2; have := (h_tx).1; have := (h_tx).2; have := (h13).1; have := (h13).2; have := (h20).1; have := (h20).2; have := (h412).1; have := (h412).2; have := (h40).1; have := (h40).2; have := (h413).1; have := (h413).2; have := (h462).1; have := (h462).2; have := (h469).1; have := (h469).2; have := (h470).1; have := (h470).2; have := (h489).1; have := (h489).2; omega
                exact tw_endz hx hb hr hlocks hK hT hS hQ rfl (⟨(iv_mono (iv_c (c := 1) (n := 1) (by decide)) (by decide) (by decide)), ⟨z496, ⟨x463, k497, h462, q498.1, q498.2⟩, fun _ => ⟨x463, x490, x472, k497, k491, k494, (iv_mono h489 (by decide) (by decide)), q499.1, q499.2.1, q499.2.2, z495⟩⟩⟩) dX12_compare_174
              · have q500 : x460.toInt = 0 := ti_eq c466
                have h501 : iv 0 0 x460 := ⟨by have := (h_x460).1; have := ((iv_c (c := 0) (n := 0) (by decide))).1; omega, by have := (h_x460).2; have := ((iv_c (c := 0) (n := 0) (by decide))).2; omega⟩
                refine lv_iconst (v := 0) hx hb dX12_compare_161 (by decide) ?_
                have q502 : nx.toInt ≤ x463.toInt ∧ x463.toInt ≤ tp.toInt := by
                  have := (h_le).1; have := (h_le).2; have := (h_md).1; have := (h_md).2; have := (h_nx).1; have := (h_nx).2; have := (h_tp).1; have := (h_tp).2; have := (h_tx).1; have := (h_tx).2; have := (h13).1; have := (h13).2; have := (h20).1; have := (h20).2; have := (h412).1; have := (h412).2; have := (h40).1; have := (h40).2; have := (h413).1; have := (h413).2; have := (h462).1; have := (h462).2; omega
                exact tw_endz hx hb hr hlocks hK hT hS hQ rfl (⟨(iv_mono (iv_c (c := 0) (n := 0) (by decide)) (by decide) (by decide)), ⟨z465, ⟨x463, k464, h462, q502.1, q502.2⟩, (fun h => absurd rfl h)⟩⟩) dX12_compare_162
            · have q503 : x432.toInt = 0 := ti_eq c438
              have h504 : iv 0 0 x432 := ⟨by have := (h_x432).1; have := ((iv_c (c := 0) (n := 0) (by decide))).1; omega, by have := (h_x432).2; have := ((iv_c (c := 0) (n := 0) (by decide))).2; omega⟩
              refine lv_iconst (v := 0) hx hb dX12_compare_113 (by decide) ?_
              have k505 : M429 a0 13 = x415 := (Fr.kp (k := 13) f426 hk_a0 rfl).trans k416
              have q506 : nx.toInt ≤ x415.toInt ∧ x415.toInt ≤ tp.toInt := by
                have := (h_le).1; have := (h_le).2; have := (h_md).1; have := (h_md).2; have := (h_nx).1; have := (h_nx).2; have := (h_tp).1; have := (h_tp).2; have := (h_tx).1; have := (h_tx).2; have := (h13).1; have := (h13).2; have := (h20).1; have := (h20).2; have := (h412).1; have := (h412).2; have := (h40).1; have := (h40).2; have := (h413).1; have := (h413).2; omega
              exact tw_endz hx hb hr hlocks hK hT hS hQ rfl (⟨(iv_mono (iv_c (c := 0) (n := 0) (by decide)) (by decide) (by decide)), ⟨(fun j hj => (Fr.kpa f426 hk_sg rfl j).trans ((fun j hj => (Fr.kpa f417 hk_sg rfl j).trans ((fun j hj => (Fr.kpa f31 hk_sg rfl j).trans (z16 j hj)) j hj)) j hj)), ⟨x415, k505, (iv_mono h413 (by decide) (by decide)), q506.1, q506.2⟩, (fun h => absurd rfl h)⟩⟩) dX12_compare_114
          · have q507 : x415.toInt < tp.toInt := ti_nle c423
            have h508 : iv 1 399 x415 := iv_ltL (y := tp) h413 h_tp q507 (by decide)
            have h509 : iv 2 400 tp := iv_gtL (y := x415) h_tp h413 q507 (by decide)
            refine lv_aload_n hx hb dX12_compare_71 rfl (lv_at hl 2 rfl) ?_
            refine tw_getrk hx hb hW hown hK hS f_X12_7_11 hz_a0 hk_a0 (b := tb) k_tb dX12_compare_72 ?_
            refine lv_aload_n hx hb dX12_compare_75 rfl (lv_at hl 2 rfl) ?_
            refine tw_getk hx hb hW hown hK hS f_X12_127_11 hz_a0 hk_a0 (v := x415) k416 dX12_compare_76 ?_
            refine tw_bald hx hb hK hS hz_tb hk_tb hn_tb h508 ⟨by decide, by decide⟩ dX12_compare_79 (fun x512 k511 => ?_)
            have h510 := iv_any x512
            refine lv_bipush (v := 61) hx hb dX12_compare_80 (by decide) ?_
            refine lv_icmp_ne (tgt := 89) hx hb dX12_compare_82 (by decide) (fun c513 => ?_) (fun c513 => ?_)
            · have q514 : ¬ x512.toInt = 61 := ti_ne c513
              refine lv_iconst (v := 0) hx hb dX12_compare_89 (by decide) ?_
              refine lv_istore_n (lv' := [(3, .int 0), (2, .int x41), (1, .int x37), (0, .ref (base + a0))]) hx hb dX12_compare_90 rfl hl (by decide) rfl (fun ls hl => ?_)
              refine lv_iload_n hx hb dX12_compare_91 rfl (lv_at hl 0 rfl) ?_
              refine lv_if_eq (tgt := 105) hx hb dX12_compare_92 (by decide) (fun _ => ?_) (fun h => absurd h (by decide))
              refine lv_aload_n hx hb dX12_compare_105 rfl (lv_at hl 3 rfl) ?_
              refine lv_iload_n hx hb dX12_compare_106 rfl (lv_at hl 1 rfl) ?_
              have k515 : M419 a0 17 = x23 := ((Fr.kp (k := 17) f417 hk_a0 rfl).trans (Fr.kp (k := 17) f31 hk_a0 rfl)).trans k25
              refine tw_goi hS (md_runV (As := [.int x41]) (rest := []) hx hb hml hown hW hK hT hS.1 (t_X12_makes l D cy tx base Z K N M419 Ra J33 hS.2.1 a0 hz_a0 hk_a0 x41 h40 x23 k515 (iv_mono h21 (by decide) (by decide))) s_X12_203 ⟨rfl, rfl, ⟨Nat.le_of_ble_eq_true rfl, Nat.le_of_ble_eq_true rfl⟩, ⟨Nat.le_of_ble_eq_true rfl, Nat.le_of_ble_eq_true rfl⟩⟩ hz_a0 hk_a0 (by decide) rfl rfl hl.1 rfl (Nat.le_of_ble_eq_true rfl) dX12_compare_107) rfl rfl (fun x522 H locs M519 R520 J518 hS f516 g517 E521 => ?_)
              have eR520 := Fr.nil g517 rfl
              subst eR520
              obtain ⟨h_x522, p523⟩ := E521
              obtain ⟨x525, k526, h524, q527⟩ := p523
              have k526 : M519 a0 17 = x525 := k526
              refine lv_if_ne (tgt := 115) hx hb dX12_compare_110 (by decide) (fun c528 => ?_) (fun c528 => ?_)
              · have q529 : ¬ x522.toInt = 0 := ti_ne c528
                have h530 : iv 1 1 x522 := ⟨by have := (h_x522).1; have := ((iv_c (c := 0) (n := 0) (by decide))).1; have := ((iv_c (c := 0) (n := 0) (by decide))).2; omega, by have := (h_x522).2; have := ((iv_c (c := 0) (n := 0) (by decide))).1; have := ((iv_c (c := 0) (n := 0) (by decide))).2; omega⟩
                refine lv_iload_n hx hb dX12_compare_115 rfl (lv_at hl 2 rfl) ?_
                refine lv_bipush (v := 60) hx hb dX12_compare_116 (by decide) ?_
                refine lv_icmp_ne (tgt := 133) hx hb dX12_compare_118 (by decide) (fun c531 => ?_) (fun c531 => False.elim (by have q : x37.toInt = 60 := ti_eq c531; have := (h412).1; have := (h412).2; omega))
                have q532 : ¬ x37.toInt = 60 := ti_ne c531
                refine lv_iload_n hx hb dX12_compare_133 rfl (lv_at hl 2 rfl) ?_
                refine lv_bipush (v := 61) hx hb dX12_compare_134 (by decide) ?_
                refine lv_icmp_ne (tgt := 143) hx hb dX12_compare_136 (by decide) (fun c533 => ?_) (fun c533 => False.elim (by have q : x37.toInt = 61 := ti_eq c533; have := (h412).1; have := (h412).2; omega))
                have q534 : ¬ x37.toInt = 61 := ti_ne c533
                refine lv_iload_n hx hb dX12_compare_143 rfl (lv_at hl 0 rfl) ?_
                refine lv_if_eq (tgt := 151) hx hb dX12_compare_144 (by decide) (fun _ => ?_) (fun h => absurd h (by decide))
                refine lv_iconst (v := 4) hx hb dX12_compare_151 (by decide) ?_
                refine lv_istore (lv' := [(4, .int 4), (3, .int 0), (2, .int x41), (1, .int x37), (0, .ref (base + a0))]) hx hb dX12_compare_152 hl (by decide) rfl (fun ls hl => ?_)
                refine lv_aload_n hx hb dX12_compare_154 rfl (lv_at hl 4 rfl) ?_
                have k535 : M519 a0 13 = x415 := (Fr.kp (k := 13) f516 hk_a0 rfl).trans k416
                have k536 : M519 a0 1 = tp := ((Fr.kp (k := 1) f516 hk_a0 rfl).trans ((Fr.kp (k := 1) f417 hk_a0 rfl).trans ((Fr.kp (k := 1) f31 hk_a0 rfl).trans (Fr.kp (k := 1) f5 hk_a0 rfl)))).trans k_tp
                have q537 : x415.toInt ≤ tp.toInt := by
                  have := (h_le).1; have := (h_le).2; have := (h_md).1; have := (h_md).2; have := (h_nx).1; have := (h_nx).2; have := (h509).1; have := (h509).2; have := (h_tx).1; have := (h_tx).2; have := (h13).1; have := (h13).2; have := (h20).1; have := (h20).2; have := (h412).1; have := (h412).2; have := (h40).1; have := (h40).2; have := (h508).1; have := (h508).2; omega
                have k538 : M519 a0 16 = tx := ((Fr.kp (k := 16) f516 hk_a0 rfl).trans ((Fr.kp (k := 16) f417 hk_a0 rfl).trans ((Fr.kp (k := 16) f31 hk_a0 rfl).trans (Fr.kp (k := 16) f5 hk_a0 rfl)))).trans k_tx
                have k539 : M519 lg tx.toNatClampNeg = x22 := ((Fr.kpa f516 hk_lg rfl tx.toNatClampNeg).trans ((Fr.kpa f417 hk_lg rfl tx.toNatClampNeg).trans (Fr.kpa f31 hk_lg rfl tx.toNatClampNeg))).trans k24
                have q540 : ((sb : Nat) : Int) ≤ x22.toInt := by
                  have := (h_le).1; have := (h_le).2; have := (h_md).1; have := (h_md).2; have := (h_nx).1; have := (h_nx).2; have := (h509).1; have := (h509).2; have := (h_tx).1; have := (h_tx).2; have := (h13).1; have := (h13).2; have := (h20).1; have := (h20).2; have := (h40).1; have := (h40).2; omega
                have q541 : ((sh + 1 : Nat) : Int) ≤ x525.toInt := by
                  have := (h_le).1; have := (h_le).2; have := (h_md).1; have := (h_md).2; have := (h_nx).1; have := (h_nx).2; have := (h509).1; have := (h509).2; have := (h_tx).1; have := (h_tx).2; have := (h21).1; have := (h21).2; have := (h524).1; have := (h524).2; omega
                have q542 : x22.toInt ≤ x415.toInt := by
                  have := (h_le).1; have := (h_le).2; have := (h_md).1; have := (h_md).2; have := (h_nx).1; have := (h_nx).2; have := (h509).1; have := (h509).2; have := (h_tx).1; have := (h_tx).2; have := (h13).1; have := (h13).2; have := (h20).1; have := (h20).2; have := (h412).1; have := (h412).2; have := (h40).1; have := (h40).2; have := (h508).1; have := (h508).2; omega
                refine tw_goi hS (md_runV (As := []) (rest := []) hx hb hml hown hW hK hT hS.1 (t_X12_sum l D cy tx base Z K N M519 Ra J518 hS.2.1 a0 hz_a0 hk_a0 tb k_tb x415 k535 (iv_mono h508 (by decide) (by decide)) tp k536 (iv_mono h509 (by decide) (by decide)) q537 lg k_lg sg k_sg tx k538 (iv_mono h_tx (by decide) (by decide)) x22 k539 (iv_mono h20 (by decide) (by decide)) x525 k526 (iv_mono h524 (by decide) (by decide)) (sb) (sh + 1) (SEG.to (SEG.to (SEG.to z28 (fun j _ _ => Fr.kpa f31 hk_sg rfl j)) (fun j _ _ => Fr.kpa f417 hk_sg rfl j)) (fun j _ _ => Fr.kpa f516 hk_sg rfl j)) q540 q541 q542) s_X12_216 ⟨rfl, rfl, ⟨Nat.le_of_ble_eq_true rfl, Nat.le_of_ble_eq_true rfl⟩, ⟨Nat.le_of_ble_eq_true rfl, Nat.le_of_ble_eq_true rfl⟩⟩ hz_a0 hk_a0 (by decide) rfl rfl hl.1 rfl (Nat.le_of_ble_eq_true rfl) dX12_compare_155) rfl rfl (fun x549 H locs M546 R547 J545 hS f543 g544 E548 => ?_)
                have eR547 := Fr.nil g544 rfl
                subst eR547
                obtain ⟨h_x549, p550⟩ := E548
                obtain ⟨zf550, ⟨x552, k553, h551, zu550, zv550⟩, zc550⟩ := p550
                have k553 : M546 a0 13 = x552 := k553
                have zw550 := ti_cl (x := le) (by have := h_le.1; omega); have zy550 := ti_cl (x := x22) (by have := (h20).1; omega)
                have z554 : ∀ j, j < 400 * tx.toNatClampNeg + le.toNatClampNeg → M546 sg j = Ma sg j := fun j hj => (zf550 j (by omega)).trans ((fun j hj => (Fr.kpa f516 hk_sg rfl j).trans ((fun j hj => (Fr.kpa f417 hk_sg rfl j).trans ((fun j hj => (Fr.kpa f31 hk_sg rfl j).trans (z16 j hj)) j hj)) j hj)) j hj)
                refine lv_if_ne (tgt := 163) hx hb dX12_compare_158 (by decide) (fun c555 => ?_) (fun c555 => ?_)
                · have q556 : ¬ x549.toInt = 0 := ti_ne c555
                  have h557 : iv 1 1 x549 := ⟨by have := (h_x549).1; have := ((iv_c (c := 0) (n := 0) (by decide))).1; have := ((iv_c (c := 0) (n := 0) (by decide))).2; omega, by have := (h_x549).2; have := ((iv_c (c := 0) (n := 0) (by decide))).1; have := ((iv_c (c := 0) (n := 0) (by decide))).2; omega⟩
                  obtain ⟨x564, x560, x561, k565, k562, k563, h558, za557, zb557, zd557, z566⟩ := zc550 c555
                  have ze557 : x564 = x552 := k565.symm.trans k553
                  rw [ze557] at zb557
                  have k562 : M546 lg tx.toNatClampNeg = x560 := k562
                  have k563 : M546 a0 17 = x561 := k563
                  have h559 : iv 0 60 x561 := by rw [← k563]; exact hS.2.1.int hz_a0 hk_a0 (show rgI 12 17 = (0, 60) from rfl)
                  have z567 : SEG M546 sg tx.toNatClampNeg sb x560.toNatClampNeg (sh + 2) := SEG.cast z566 rfl (by omega)
                  refine lv_aload_n hx hb dX12_compare_163 rfl (lv_at hl 4 rfl) ?_
                  refine lv_bipush (v := 6) hx hb dX12_compare_164 (by decide) ?_
                  refine lv_iload hx hb dX12_compare_166 (lv_at hl 0 rfl) ?_
                  refine lv_iadd hx hb dX12_compare_168 ?_
                  refine md_top (y := 10) (by decide) ?_
                  refine lv_iconst (v := 0) hx hb dX12_compare_169 (by decide) ?_
                  have k568 : M546 a0 16 = tx := ((Fr.kp (k := 16) f543 hk_a0 rfl).trans ((Fr.kp (k := 16) f516 hk_a0 rfl).trans ((Fr.kp (k := 16) f417 hk_a0 rfl).trans ((Fr.kp (k := 16) f31 hk_a0 rfl).trans (Fr.kp (k := 16) f5 hk_a0 rfl))))).trans k_tx
                  have h569 : iv 0 399 x560 := by
                    have := (h_le).1; have := (h_le).2; have := (h_md).1; have := (h_md).2; have := (h_nx).1; have := (h_nx).2; have := (h509).1; have := (h509).2; have := (h_tx).1; have := (h_tx).2; have := (h13).1; have := (h13).2; have := (h20).1; have := (h20).2; have := (h412).1; have := (h412).2; have := (h40).1; have := (h40).2; have := (h508).1; have := (h508).2; have := (h551).1; have := (h551).2; have := (h558).1; have := (h558).2; exact ⟨by omega, by omega⟩
                  refine tw_gov hS (md_runV (As := [.int 10, .int 0]) (rest := []) hx hb hml hown hW hK hT hS.1 (t_X12_puts l D cy tx base Z K N M546 Ra J545 hS.2.1 a0 hz_a0 hk_a0 10 (iv_mono (iv_c (c := 10) (n := 10) (by decide)) (by decide) (by decide)) 0 (iv_mono (iv_c (c := 0) (n := 0) (by decide)) (by decide) (by decide)) sg k_sg lg k_lg tx k568 (iv_mono h_tx (by decide) (by decide)) x560 k562 h569) s_X12_195 ⟨rfl, rfl, ⟨Nat.le_of_ble_eq_true rfl, Nat.le_of_ble_eq_true rfl⟩, ⟨Nat.le_of_ble_eq_true rfl, Nat.le_of_ble_eq_true rfl⟩⟩ hz_a0 hk_a0 (by decide) rfl rfl hl.1 rfl (Nat.le_of_ble_eq_true rfl) dX12_compare_170) rfl rfl (fun H locs M573 R574 J572 hS f570 g571 E575 => ?_)
                  have eR574 := Fr.nil g571 rfl
                  subst eR574
                  have p576 := E575
                  obtain ⟨x577, x579, zc576, zd576, zo576, k580, h578, zl576⟩ := p576
                  have k580 : M573 lg tx.toNatClampNeg = x579 := k580
                  have zt576 := ti_cl (x := tx) (by have := h_tx.1; omega); have zn576 := ti_cl (x := x560) (by have := (h558).1; omega); have zm576 := ti_cl (x := x579) (by have := (h578).1; omega)
                  have q581 : (10 : Int32).toInt = 10 := (by decide)
                  have q582 : (0 : Int32).toInt = 0 := (by decide)
                  have k583 : M573 a0 17 = x561 := (Fr.kp (k := 17) f570 hk_a0 rfl).trans k563
                  have zs576 := stp_two (h := sh + 2) (show x577.toInt = (10 : Int32).toInt + 16 * 0 by omega) (by have := ((iv_c (c := 10) (n := 10) (by decide))).1; have := ((iv_c (c := 10) (n := 10) (by decide))).2; have := ((iv_c (c := 0) (n := 0) (by decide))).1; have := ((iv_c (c := 0) (n := 0) (by decide))).2; omega) (by omega)
                  have z584 : SEG M573 sg tx.toNatClampNeg sb x579.toNatClampNeg (sh + 1) := SEG.cast (SEG.ext z567 (by omega) zd576 zo576 zs576) (by omega) (by omega)
                  have zw576 := ti_cl (x := le) (by have := h_le.1; omega)
                  have z585 : ∀ j, j < 400 * tx.toNatClampNeg + le.toNatClampNeg → M573 sg j = Ma sg j := fun j hj => (zo576 j (by omega)).trans (z554 j hj)
                  refine lv_iconst (v := 1) hx hb dX12_compare_173 (by decide) ?_
                  have k586 : M573 a0 13 = x552 := (Fr.kp (k := 13) f570 hk_a0 rfl).trans k553
                  have q587 : nx.toInt ≤ x552.toInt ∧ x552.toInt ≤ tp.toInt := by
                    have := (h_le).1; have := (h_le).2; have := (h_md).1; have := (h_md).2; have := (h_nx).1; have := (h_nx).2; have := (h509).1; have := (h509).2; have := (h_tx).1; have := (h_tx).2; have := (h13).1; have := (h13).2; have := (h20).1; have := (h20).2; have := (h412).1; have := (h412).2; have := (h40).1; have := (h40).2; have := (h508).1; have := (h508).2; have := (h551).1; have := (h551).2; have := (h558).1; have := (h558).2; have := (h578).1; have := (h578).2; omega
                  have q588 : le.toInt ≤ x579.toInt ∧ x579.toInt - le.toInt ≤ x552.toInt - nx.toInt ∧ ((sh + 1 : Nat) : Int) ≤ x561.toInt := by
                    have := (h_le).1; have := (h_le).2; have := (h_md).1; have := (h_md).2; have := (h_nx).1; have := (h_nx).2; have := (h509).1; have := (h509).2; have := (h_tx).1; have := (h_tx).2; have := (h13).1; have := (h13).2; have := (h20).1; have := (h20).2; have := (h412).1; have := (h412).2; have := (h40).1; have := (h40).2; have := (h508).1; have := (h508).2; have := (h551).1; have := (h551).2; have := (h558).1; have := (h558).2; have := (h559).1; have := (h559).2; have := (h578).1; have := (h578).2; omega
                  exact tw_endz hx hb hr hlocks hK hT hS hQ rfl (⟨(iv_mono (iv_c (c := 1) (n := 1) (by decide)) (by decide) (by decide)), ⟨z585, ⟨x552, k586, h551, q587.1, q587.2⟩, fun _ => ⟨x552, x579, x561, k586, k580, k583, (iv_mono h578 (by decide) (by decide)), q588.1, q588.2.1, q588.2.2, z584⟩⟩⟩) dX12_compare_174
                · have q589 : x549.toInt = 0 := ti_eq c555
                  have h590 : iv 0 0 x549 := ⟨by have := (h_x549).1; have := ((iv_c (c := 0) (n := 0) (by decide))).1; omega, by have := (h_x549).2; have := ((iv_c (c := 0) (n := 0) (by decide))).2; omega⟩
                  refine lv_iconst (v := 0) hx hb dX12_compare_161 (by decide) ?_
                  have q591 : nx.toInt ≤ x552.toInt ∧ x552.toInt ≤ tp.toInt := by
                    have := (h_le).1; have := (h_le).2; have := (h_md).1; have := (h_md).2; have := (h_nx).1; have := (h_nx).2; have := (h509).1; have := (h509).2; have := (h_tx).1; have := (h_tx).2; have := (h13).1; have := (h13).2; have := (h20).1; have := (h20).2; have := (h412).1; have := (h412).2; have := (h40).1; have := (h40).2; have := (h508).1; have := (h508).2; have := (h551).1; have := (h551).2; omega
                  exact tw_endz hx hb hr hlocks hK hT hS hQ rfl (⟨(iv_mono (iv_c (c := 0) (n := 0) (by decide)) (by decide) (by decide)), ⟨z554, ⟨x552, k553, h551, q591.1, q591.2⟩, (fun h => absurd rfl h)⟩⟩) dX12_compare_162
              · have q592 : x522.toInt = 0 := ti_eq c528
                have h593 : iv 0 0 x522 := ⟨by have := (h_x522).1; have := ((iv_c (c := 0) (n := 0) (by decide))).1; omega, by have := (h_x522).2; have := ((iv_c (c := 0) (n := 0) (by decide))).2; omega⟩
                refine lv_iconst (v := 0) hx hb dX12_compare_113 (by decide) ?_
                have k594 : M519 a0 13 = x415 := (Fr.kp (k := 13) f516 hk_a0 rfl).trans k416
                have q595 : nx.toInt ≤ x415.toInt ∧ x415.toInt ≤ tp.toInt := by
                  have := (h_le).1; have := (h_le).2; have := (h_md).1; have := (h_md).2; have := (h_nx).1; have := (h_nx).2; have := (h509).1; have := (h509).2; have := (h_tx).1; have := (h_tx).2; have := (h13).1; have := (h13).2; have := (h20).1; have := (h20).2; have := (h412).1; have := (h412).2; have := (h40).1; have := (h40).2; have := (h508).1; have := (h508).2; omega
                exact tw_endz hx hb hr hlocks hK hT hS hQ rfl (⟨(iv_mono (iv_c (c := 0) (n := 0) (by decide)) (by decide) (by decide)), ⟨(fun j hj => (Fr.kpa f516 hk_sg rfl j).trans ((fun j hj => (Fr.kpa f417 hk_sg rfl j).trans ((fun j hj => (Fr.kpa f31 hk_sg rfl j).trans (z16 j hj)) j hj)) j hj)), ⟨x415, k594, (iv_mono h508 (by decide) (by decide)), q595.1, q595.2⟩, (fun h => absurd rfl h)⟩⟩) dX12_compare_114
            · have q596 : x512.toInt = 61 := ti_eq c513
              have h597 : iv 61 61 x512 := ⟨by have := (h510).1; have := ((iv_c (c := 61) (n := 61) (by decide))).1; omega, by have := (h510).2; have := ((iv_c (c := 61) (n := 61) (by decide))).2; omega⟩
              refine lv_iconst (v := 1) hx hb dX12_compare_85 (by decide) ?_
              refine lv_goto (tgt := 90) hx hb dX12_compare_86 (by decide) ?_
              refine lv_istore_n (lv' := [(3, .int 1), (2, .int x41), (1, .int x37), (0, .ref (base + a0))]) hx hb dX12_compare_90 rfl hl (by decide) rfl (fun ls hl => ?_)
              refine lv_iload_n hx hb dX12_compare_91 rfl (lv_at hl 0 rfl) ?_
              refine lv_if_eq (tgt := 105) hx hb dX12_compare_92 (by decide) (fun h => absurd h (by decide)) (fun _ => ?_)
              refine lv_aload_n hx hb dX12_compare_95 rfl (lv_at hl 3 rfl) ?_
              refine lv_dup hx hb dX12_compare_96 rfl ?_
              refine tw_getk hx hb hW hown hK hS f_X12_127_11 hz_a0 hk_a0 (v := x415) k416 dX12_compare_97 ?_
              refine lv_iconst (v := 1) hx hb dX12_compare_100 (by decide) ?_
              refine tw_iadd (lo := 2) (hi := 400) hx hb h508 (iv_c (c := 1) (n := 1) (by decide)) ⟨by decide, by decide⟩ ⟨by decide, by decide⟩ dX12_compare_101 (fun x600 e599 h598 => ?_)
              have e599 : x600.toInt = x415.toInt + 1 := e599
              refine tw_puti hx hb hW hown hK hS f_X12_127_11 hz_a0 hk_a0 rfl rfl (lo := 0) (hi := 400) rfl (iv_mono h598 (by decide) (by decide)) rfl dX12_compare_102 (fun H locs M603 hS k601 f602 => ?_)
              refine lv_aload_n hx hb dX12_compare_105 rfl (lv_at hl 3 rfl) ?_
              refine lv_iload_n hx hb dX12_compare_106 rfl (lv_at hl 1 rfl) ?_
              have k604 : M603 a0 17 = x23 := ((Fr.kp (k := 17) f602 hk_a0 rfl).trans ((Fr.kp (k := 17) f417 hk_a0 rfl).trans (Fr.kp (k := 17) f31 hk_a0 rfl))).trans k25
              refine tw_goi hS (md_runV (As := [.int x41]) (rest := []) hx hb hml hown hW hK hT hS.1 (t_X12_makes l D cy tx base Z K N M603 Ra J33 hS.2.1 a0 hz_a0 hk_a0 x41 h40 x23 k604 (iv_mono h21 (by decide) (by decide))) s_X12_203 ⟨rfl, rfl, ⟨Nat.le_of_ble_eq_true rfl, Nat.le_of_ble_eq_true rfl⟩, ⟨Nat.le_of_ble_eq_true rfl, Nat.le_of_ble_eq_true rfl⟩⟩ hz_a0 hk_a0 (by decide) rfl rfl hl.1 rfl (Nat.le_of_ble_eq_true rfl) dX12_compare_107) rfl rfl (fun x611 H locs M608 R609 J607 hS f605 g606 E610 => ?_)
              have eR609 := Fr.nil g606 rfl
              subst eR609
              obtain ⟨h_x611, p612⟩ := E610
              obtain ⟨x614, k615, h613, q616⟩ := p612
              have k615 : M608 a0 17 = x614 := k615
              refine lv_if_ne (tgt := 115) hx hb dX12_compare_110 (by decide) (fun c617 => ?_) (fun c617 => ?_)
              · have q618 : ¬ x611.toInt = 0 := ti_ne c617
                have h619 : iv 1 1 x611 := ⟨by have := (h_x611).1; have := ((iv_c (c := 0) (n := 0) (by decide))).1; have := ((iv_c (c := 0) (n := 0) (by decide))).2; omega, by have := (h_x611).2; have := ((iv_c (c := 0) (n := 0) (by decide))).1; have := ((iv_c (c := 0) (n := 0) (by decide))).2; omega⟩
                refine lv_iload_n hx hb dX12_compare_115 rfl (lv_at hl 2 rfl) ?_
                refine lv_bipush (v := 60) hx hb dX12_compare_116 (by decide) ?_
                refine lv_icmp_ne (tgt := 133) hx hb dX12_compare_118 (by decide) (fun c620 => ?_) (fun c620 => False.elim (by have q : x37.toInt = 60 := ti_eq c620; have := (h412).1; have := (h412).2; omega))
                have q621 : ¬ x37.toInt = 60 := ti_ne c620
                refine lv_iload_n hx hb dX12_compare_133 rfl (lv_at hl 2 rfl) ?_
                refine lv_bipush (v := 61) hx hb dX12_compare_134 (by decide) ?_
                refine lv_icmp_ne (tgt := 143) hx hb dX12_compare_136 (by decide) (fun c622 => ?_) (fun c622 => False.elim (by have q : x37.toInt = 61 := ti_eq c622; have := (h412).1; have := (h412).2; omega))
                have q623 : ¬ x37.toInt = 61 := ti_ne c622
                refine lv_iload_n hx hb dX12_compare_143 rfl (lv_at hl 0 rfl) ?_
                refine lv_if_eq (tgt := 151) hx hb dX12_compare_144 (by decide) (fun h => absurd h (by decide)) (fun _ => ?_)
                refine lv_iconst (v := 3) hx hb dX12_compare_147 (by decide) ?_
                refine lv_goto (tgt := 152) hx hb dX12_compare_148 (by decide) ?_
                refine lv_istore (lv' := [(4, .int 3), (3, .int 1), (2, .int x41), (1, .int x37), (0, .ref (base + a0))]) hx hb dX12_compare_152 hl (by decide) rfl (fun ls hl => ?_)
                refine lv_aload_n hx hb dX12_compare_154 rfl (lv_at hl 4 rfl) ?_
                have k624 : M608 a0 13 = x600 := (Fr.kp (k := 13) f605 hk_a0 rfl).trans k601
                have k625 : M608 a0 1 = tp := ((Fr.kp (k := 1) f605 hk_a0 rfl).trans ((Fr.kp (k := 1) f602 hk_a0 rfl).trans ((Fr.kp (k := 1) f417 hk_a0 rfl).trans ((Fr.kp (k := 1) f31 hk_a0 rfl).trans (Fr.kp (k := 1) f5 hk_a0 rfl))))).trans k_tp
                have q626 : x600.toInt ≤ tp.toInt := by
                  have := (h_le).1; have := (h_le).2; have := (h_md).1; have := (h_md).2; have := (h_nx).1; have := (h_nx).2; have := (h509).1; have := (h509).2; have := (h_tx).1; have := (h_tx).2; have := (h13).1; have := (h13).2; have := (h20).1; have := (h20).2; have := (h412).1; have := (h412).2; have := (h40).1; have := (h40).2; have := (h508).1; have := (h508).2; have := (h598).1; have := (h598).2; omega
                have k627 : M608 a0 16 = tx := ((Fr.kp (k := 16) f605 hk_a0 rfl).trans ((Fr.kp (k := 16) f602 hk_a0 rfl).trans ((Fr.kp (k := 16) f417 hk_a0 rfl).trans ((Fr.kp (k := 16) f31 hk_a0 rfl).trans (Fr.kp (k := 16) f5 hk_a0 rfl))))).trans k_tx
                have k628 : M608 lg tx.toNatClampNeg = x22 := ((Fr.kpa f605 hk_lg rfl tx.toNatClampNeg).trans ((Fr.kpa f602 hk_lg rfl tx.toNatClampNeg).trans ((Fr.kpa f417 hk_lg rfl tx.toNatClampNeg).trans (Fr.kpa f31 hk_lg rfl tx.toNatClampNeg)))).trans k24
                have q629 : ((sb : Nat) : Int) ≤ x22.toInt := by
                  have := (h_le).1; have := (h_le).2; have := (h_md).1; have := (h_md).2; have := (h_nx).1; have := (h_nx).2; have := (h509).1; have := (h509).2; have := (h_tx).1; have := (h_tx).2; have := (h13).1; have := (h13).2; have := (h20).1; have := (h20).2; have := (h40).1; have := (h40).2; omega
                have q630 : ((sh + 1 : Nat) : Int) ≤ x614.toInt := by
                  have := (h_le).1; have := (h_le).2; have := (h_md).1; have := (h_md).2; have := (h_nx).1; have := (h_nx).2; have := (h509).1; have := (h509).2; have := (h_tx).1; have := (h_tx).2; have := (h21).1; have := (h21).2; have := (h613).1; have := (h613).2; omega
                have q631 : x22.toInt ≤ x600.toInt := by
                  have := (h_le).1; have := (h_le).2; have := (h_md).1; have := (h_md).2; have := (h_nx).1; have := (h_nx).2; have := (h509).1; have := (h509).2; have := (h_tx).1; have := (h_tx).2; have := (h13).1; have := (h13).2; have := (h20).1; have := (h20).2; have := (h412).1; have := (h412).2; have := (h40).1; have := (h40).2; have := (h508).1; have := (h508).2; have := (h598).1; have := (h598).2; omega
                refine tw_goi hS (md_runV (As := []) (rest := []) hx hb hml hown hW hK hT hS.1 (t_X12_sum l D cy tx base Z K N M608 Ra J607 hS.2.1 a0 hz_a0 hk_a0 tb k_tb x600 k624 (iv_mono h598 (by decide) (by decide)) tp k625 (iv_mono h509 (by decide) (by decide)) q626 lg k_lg sg k_sg tx k627 (iv_mono h_tx (by decide) (by decide)) x22 k628 (iv_mono h20 (by decide) (by decide)) x614 k615 (iv_mono h613 (by decide) (by decide)) (sb) (sh + 1) (SEG.to (SEG.to (SEG.to (SEG.to z28 (fun j _ _ => Fr.kpa f31 hk_sg rfl j)) (fun j _ _ => Fr.kpa f417 hk_sg rfl j)) (fun j _ _ => Fr.kpa f602 hk_sg rfl j)) (fun j _ _ => Fr.kpa f605 hk_sg rfl j)) q629 q630 q631) s_X12_216 ⟨rfl, rfl, ⟨Nat.le_of_ble_eq_true rfl, Nat.le_of_ble_eq_true rfl⟩, ⟨Nat.le_of_ble_eq_true rfl, Nat.le_of_ble_eq_true rfl⟩⟩ hz_a0 hk_a0 (by decide) rfl rfl hl.1 rfl (Nat.le_of_ble_eq_true rfl) dX12_compare_155) rfl rfl (fun x638 H locs M635 R636 J634 hS f632 g633 E637 => ?_)
                have eR636 := Fr.nil g633 rfl
                subst eR636
                obtain ⟨h_x638, p639⟩ := E637
                obtain ⟨zf639, ⟨x641, k642, h640, zu639, zv639⟩, zc639⟩ := p639
                have k642 : M635 a0 13 = x641 := k642
                have zw639 := ti_cl (x := le) (by have := h_le.1; omega); have zy639 := ti_cl (x := x22) (by have := (h20).1; omega)
                have z643 : ∀ j, j < 400 * tx.toNatClampNeg + le.toNatClampNeg → M635 sg j = Ma sg j := fun j hj => (zf639 j (by omega)).trans ((fun j hj => (Fr.kpa f605 hk_sg rfl j).trans ((fun j hj => (Fr.kpa f602 hk_sg rfl j).trans ((fun j hj => (Fr.kpa f417 hk_sg rfl j).trans ((fun j hj => (Fr.kpa f31 hk_sg rfl j).trans (z16 j hj)) j hj)) j hj)) j hj)) j hj)
                refine lv_if_ne (tgt := 163) hx hb dX12_compare_158 (by decide) (fun c644 => ?_) (fun c644 => ?_)
                · have q645 : ¬ x638.toInt = 0 := ti_ne c644
                  have h646 : iv 1 1 x638 := ⟨by have := (h_x638).1; have := ((iv_c (c := 0) (n := 0) (by decide))).1; have := ((iv_c (c := 0) (n := 0) (by decide))).2; omega, by have := (h_x638).2; have := ((iv_c (c := 0) (n := 0) (by decide))).1; have := ((iv_c (c := 0) (n := 0) (by decide))).2; omega⟩
                  obtain ⟨x653, x649, x650, k654, k651, k652, h647, za646, zb646, zd646, z655⟩ := zc639 c644
                  have ze646 : x653 = x641 := k654.symm.trans k642
                  rw [ze646] at zb646
                  have k651 : M635 lg tx.toNatClampNeg = x649 := k651
                  have k652 : M635 a0 17 = x650 := k652
                  have h648 : iv 0 60 x650 := by rw [← k652]; exact hS.2.1.int hz_a0 hk_a0 (show rgI 12 17 = (0, 60) from rfl)
                  have z656 : SEG M635 sg tx.toNatClampNeg sb x649.toNatClampNeg (sh + 2) := SEG.cast z655 rfl (by omega)
                  refine lv_aload_n hx hb dX12_compare_163 rfl (lv_at hl 4 rfl) ?_
                  refine lv_bipush (v := 6) hx hb dX12_compare_164 (by decide) ?_
                  refine lv_iload hx hb dX12_compare_166 (lv_at hl 0 rfl) ?_
                  refine lv_iadd hx hb dX12_compare_168 ?_
                  refine md_top (y := 9) (by decide) ?_
                  refine lv_iconst (v := 0) hx hb dX12_compare_169 (by decide) ?_
                  have k657 : M635 a0 16 = tx := ((Fr.kp (k := 16) f632 hk_a0 rfl).trans ((Fr.kp (k := 16) f605 hk_a0 rfl).trans ((Fr.kp (k := 16) f602 hk_a0 rfl).trans ((Fr.kp (k := 16) f417 hk_a0 rfl).trans ((Fr.kp (k := 16) f31 hk_a0 rfl).trans (Fr.kp (k := 16) f5 hk_a0 rfl)))))).trans k_tx
                  have h658 : iv 0 399 x649 := by
                    have := (h_le).1; have := (h_le).2; have := (h_md).1; have := (h_md).2; have := (h_nx).1; have := (h_nx).2; have := (h509).1; have := (h509).2; have := (h_tx).1; have := (h_tx).2; have := (h13).1; have := (h13).2; have := (h20).1; have := (h20).2; have := (h412).1; have := (h412).2; have := (h40).1; have := (h40).2; have := (h508).1; have := (h508).2; have := (h598).1; have := (h598).2; have := (h640).1; have := (h640).2; have := (h647).1; have := (h647).2; exact ⟨by omega, by omega⟩
                  refine tw_gov hS (md_runV (As := [.int 9, .int 0]) (rest := []) hx hb hml hown hW hK hT hS.1 (t_X12_puts l D cy tx base Z K N M635 Ra J634 hS.2.1 a0 hz_a0 hk_a0 9 (iv_mono (iv_c (c := 9) (n := 9) (by decide)) (by decide) (by decide)) 0 (iv_mono (iv_c (c := 0) (n := 0) (by decide)) (by decide) (by decide)) sg k_sg lg k_lg tx k657 (iv_mono h_tx (by decide) (by decide)) x649 k651 h658) s_X12_195 ⟨rfl, rfl, ⟨Nat.le_of_ble_eq_true rfl, Nat.le_of_ble_eq_true rfl⟩, ⟨Nat.le_of_ble_eq_true rfl, Nat.le_of_ble_eq_true rfl⟩⟩ hz_a0 hk_a0 (by decide) rfl rfl hl.1 rfl (Nat.le_of_ble_eq_true rfl) dX12_compare_170) rfl rfl (fun H locs M662 R663 J661 hS f659 g660 E664 => ?_)
                  have eR663 := Fr.nil g660 rfl
                  subst eR663
                  have p665 := E664
                  obtain ⟨x666, x668, zc665, zd665, zo665, k669, h667, zl665⟩ := p665
                  have k669 : M662 lg tx.toNatClampNeg = x668 := k669
                  have zt665 := ti_cl (x := tx) (by have := h_tx.1; omega); have zn665 := ti_cl (x := x649) (by have := (h647).1; omega); have zm665 := ti_cl (x := x668) (by have := (h667).1; omega)
                  have q670 : (9 : Int32).toInt = 9 := (by decide)
                  have q671 : (0 : Int32).toInt = 0 := (by decide)
                  have k672 : M662 a0 17 = x650 := (Fr.kp (k := 17) f659 hk_a0 rfl).trans k652
                  have zs665 := stp_two (h := sh + 2) (show x666.toInt = (9 : Int32).toInt + 16 * 0 by omega) (by have := ((iv_c (c := 9) (n := 9) (by decide))).1; have := ((iv_c (c := 9) (n := 9) (by decide))).2; have := ((iv_c (c := 0) (n := 0) (by decide))).1; have := ((iv_c (c := 0) (n := 0) (by decide))).2; omega) (by omega)
                  have z673 : SEG M662 sg tx.toNatClampNeg sb x668.toNatClampNeg (sh + 1) := SEG.cast (SEG.ext z656 (by omega) zd665 zo665 zs665) (by omega) (by omega)
                  have zw665 := ti_cl (x := le) (by have := h_le.1; omega)
                  have z674 : ∀ j, j < 400 * tx.toNatClampNeg + le.toNatClampNeg → M662 sg j = Ma sg j := fun j hj => (zo665 j (by omega)).trans (z643 j hj)
                  refine lv_iconst (v := 1) hx hb dX12_compare_173 (by decide) ?_
                  have k675 : M662 a0 13 = x641 := (Fr.kp (k := 13) f659 hk_a0 rfl).trans k642
                  have q676 : nx.toInt ≤ x641.toInt ∧ x641.toInt ≤ tp.toInt := by
                    have := (h_le).1; have := (h_le).2; have := (h_md).1; have := (h_md).2; have := (h_nx).1; have := (h_nx).2; have := (h509).1; have := (h509).2; have := (h_tx).1; have := (h_tx).2; have := (h13).1; have := (h13).2; have := (h20).1; have := (h20).2; have := (h412).1; have := (h412).2; have := (h40).1; have := (h40).2; have := (h508).1; have := (h508).2; have := (h598).1; have := (h598).2; have := (h640).1; have := (h640).2; have := (h647).1; have := (h647).2; have := (h667).1; have := (h667).2; omega
                  have q677 : le.toInt ≤ x668.toInt ∧ x668.toInt - le.toInt ≤ x641.toInt - nx.toInt ∧ ((sh + 1 : Nat) : Int) ≤ x650.toInt := by
                    have := (h_le).1; have := (h_le).2; have := (h_md).1; have := (h_md).2; have := (h_nx).1; have := (h_nx).2; have := (h509).1; have := (h509).2; have := (h_tx).1; have := (h_tx).2; have := (h13).1; have := (h13).2; have := (h20).1; have := (h20).2; have := (h412).1; have := (h412).2; have := (h40).1; have := (h40).2; have := (h508).1; have := (h508).2; have := (h598).1; have := (h598).2; have := (h640).1; have := (h640).2; have := (h647).1; have := (h647).2; have := (h648).1; have := (h648).2; have := (h667).1; have := (h667).2; omega
                  exact tw_endz hx hb hr hlocks hK hT hS hQ rfl (⟨(iv_mono (iv_c (c := 1) (n := 1) (by decide)) (by decide) (by decide)), ⟨z674, ⟨x641, k675, h640, q676.1, q676.2⟩, fun _ => ⟨x641, x668, x650, k675, k669, k672, (iv_mono h667 (by decide) (by decide)), q677.1, q677.2.1, q677.2.2, z673⟩⟩⟩) dX12_compare_174
                · have q678 : x638.toInt = 0 := ti_eq c644
                  have h679 : iv 0 0 x638 := ⟨by have := (h_x638).1; have := ((iv_c (c := 0) (n := 0) (by decide))).1; omega, by have := (h_x638).2; have := ((iv_c (c := 0) (n := 0) (by decide))).2; omega⟩
                  refine lv_iconst (v := 0) hx hb dX12_compare_161 (by decide) ?_
                  have q680 : nx.toInt ≤ x641.toInt ∧ x641.toInt ≤ tp.toInt := by
                    have := (h_le).1; have := (h_le).2; have := (h_md).1; have := (h_md).2; have := (h_nx).1; have := (h_nx).2; have := (h509).1; have := (h509).2; have := (h_tx).1; have := (h_tx).2; have := (h13).1; have := (h13).2; have := (h20).1; have := (h20).2; have := (h412).1; have := (h412).2; have := (h40).1; have := (h40).2; have := (h508).1; have := (h508).2; have := (h598).1; have := (h598).2; have := (h640).1; have := (h640).2; omega
                  exact tw_endz hx hb hr hlocks hK hT hS hQ rfl (⟨(iv_mono (iv_c (c := 0) (n := 0) (by decide)) (by decide) (by decide)), ⟨z643, ⟨x641, k642, h640, q680.1, q680.2⟩, (fun h => absurd rfl h)⟩⟩) dX12_compare_162
              · have q681 : x611.toInt = 0 := ti_eq c617
                have h682 : iv 0 0 x611 := ⟨by have := (h_x611).1; have := ((iv_c (c := 0) (n := 0) (by decide))).1; omega, by have := (h_x611).2; have := ((iv_c (c := 0) (n := 0) (by decide))).2; omega⟩
                refine lv_iconst (v := 0) hx hb dX12_compare_113 (by decide) ?_
                have k683 : M608 a0 13 = x600 := (Fr.kp (k := 13) f605 hk_a0 rfl).trans k601
                have q684 : nx.toInt ≤ x600.toInt ∧ x600.toInt ≤ tp.toInt := by
                  have := (h_le).1; have := (h_le).2; have := (h_md).1; have := (h_md).2; have := (h_nx).1; have := (h_nx).2; have := (h509).1; have := (h509).2; have := (h_tx).1; have := (h_tx).2; have := (h13).1; have := (h13).2; have := (h20).1; have := (h20).2; have := (h412).1; have := (h412).2; have := (h40).1; have := (h40).2; have := (h508).1; have := (h508).2; have := (h598).1; have := (h598).2; omega
                exact tw_endz hx hb hr hlocks hK hT hS hQ rfl (⟨(iv_mono (iv_c (c := 0) (n := 0) (by decide)) (by decide) (by decide)), ⟨(fun j hj => (Fr.kpa f605 hk_sg rfl j).trans ((fun j hj => (Fr.kpa f602 hk_sg rfl j).trans ((fun j hj => (Fr.kpa f417 hk_sg rfl j).trans ((fun j hj => (Fr.kpa f31 hk_sg rfl j).trans (z16 j hj)) j hj)) j hj)) j hj)), ⟨x600, k683, (iv_mono h598 (by decide) (by decide)), q684.1, q684.2⟩, (fun h => absurd rfl h)⟩⟩) dX12_compare_114
        · have q685 : ¬ x37.toInt = 62 := ti_ne c410
          refine lv_aload_n hx hb dX12_compare_37 rfl (lv_at hl 2 rfl) ?_
          refine lv_iconst (v := 0) hx hb dX12_compare_38 (by decide) ?_
          refine lv_iload_n hx hb dX12_compare_39 rfl (lv_at hl 0 rfl) ?_
          refine tw_goi hS (md_runV (As := [.int 0, .int x41]) (rest := []) hx hb hml hown hW hK hT hS.1 (t_X12_fails l D cy tx base Z K N M34 Ra J33 hS.2.1 a0 hz_a0 hk_a0 0 (iv_mono (iv_c (c := 0) (n := 0) (by decide)) (by decide) (by decide)) x41 h40) s_X12_148 ⟨rfl, rfl, ⟨Nat.le_of_ble_eq_true rfl, Nat.le_of_ble_eq_true rfl⟩, ⟨Nat.le_of_ble_eq_true rfl, Nat.le_of_ble_eq_true rfl⟩⟩ hz_a0 hk_a0 (by decide) rfl rfl hl.1 rfl (Nat.le_of_ble_eq_true rfl) dX12_compare_40) rfl rfl (fun x692 H locs M689 R690 J688 hS f686 g687 E691 => ?_)
          have eR690 := Fr.nil g687 rfl
          subst eR690
          have h_x692 := E691
          have k693 : M689 a0 13 = x41 := (Fr.kp (k := 13) f686 hk_a0 rfl).trans k39
          have q694 : nx.toInt ≤ x41.toInt ∧ x41.toInt ≤ tp.toInt := by
            have := (h_le).1; have := (h_le).2; have := (h_md).1; have := (h_md).2; have := (h_nx).1; have := (h_nx).2; have := (h_tp).1; have := (h_tp).2; have := (h_tx).1; have := (h_tx).2; have := (h13).1; have := (h13).2; have := (h20).1; have := (h20).2; have := (h_x37).1; have := (h_x37).2; have := (h40).1; have := (h40).2; omega
          exact tw_endz hx hb hr hlocks hK hT hS hQ (nar_b (iv_mono h_x692 (by decide) (by decide))) (⟨(iv_mono h_x692 (by decide) (by decide)), ⟨(fun j hj => (Fr.kpa f686 hk_sg rfl j).trans ((fun j hj => (Fr.kpa f31 hk_sg rfl j).trans (z16 j hj)) j hj)), ⟨x41, k693, h40, q694.1, q694.2⟩, (fun h => absurd (iv0 h_x692) h)⟩⟩) dX12_compare_43
  · have q695 : x11.toInt = 0 := ti_eq c17
    have h696 : iv 0 0 x11 := ⟨by have := (h_x11).1; have := ((iv_c (c := 0) (n := 0) (by decide))).1; omega, by have := (h_x11).2; have := ((iv_c (c := 0) (n := 0) (by decide))).2; omega⟩
    refine lv_iconst (v := 0) hx hb dX12_compare_7 (by decide) ?_
    have q697 : nx.toInt ≤ x14.toInt ∧ x14.toInt ≤ tp.toInt := by
      have := (h_le).1; have := (h_le).2; have := (h_md).1; have := (h_md).2; have := (h_nx).1; have := (h_nx).2; have := (h_tp).1; have := (h_tp).2; have := (h_tx).1; have := (h_tx).2; have := (h13).1; have := (h13).2; omega
    exact tw_endz hx hb hr hlocks hK hT hS hQ rfl (⟨(iv_mono (iv_c (c := 0) (n := 0) (by decide)) (by decide) (by decide)), ⟨z16, ⟨x14, k15, h13, q697.1, q697.2⟩, (fun h => absurd rfl h)⟩⟩) dX12_compare_8
def Lt_X12_opens : WL := [(12, 14, 15), (12, 18, 19), (12, 21, 22), (14, 0, 2000000)]
def LRt_X12_opens : WL := []
set_option maxRecDepth 100000 in
set_option maxHeartbeats 4000000 in
theorem t_X12_opens (l : Launch) (D : va_G) (cy : Nat → ClassId) (tx : (Nat → Nat) × (Nat → Nat)) (base Z : Nat) (K N : Nat → Nat) (Ma : MT) (Ra : RT) (Ja : JT) (hTy : Ty Z K N Ma Ra) (a0 : Nat) (hz_a0 : a0 < Z) (hk_a0 : K a0 = 12) (a1 : Int32) (h_a1 : iv 0 100 a1) (op : Nat) (k_op : Ra a0 20 = some op) (on : Int32) (k_on : Ma a0 21 = on) (h_on : iv 0 399 on) : Met l yX12_opens [Cond.code yX12_opens cX12_opens 2 (some .boolean)] (md_rm 2 0 0) (va_Pc [.ref (base + a0), .int a1] (md_U D cy tx base Z K N Ma Ra Ja)) (mQi D cy tx base (fun r u => TP Z K N Lt_X12_opens LRt_X12_opens Ma Ra u ∧ (iv 0 1 r ∧ (¬ r = 0 → ∃ x0 : Int32, u.2.2.2.1 a0 21 = x0 ∧ iv 1 400 x0 ∧ x0.toInt = on.toInt + 1 ∧ u.2.2.2.1 op on.toNatClampNeg = a1 ∧ (∀ j, j ≠ on.toNatClampNeg → u.2.2.2.1 op j = Ma op j))))) 0 0 (fun q => base ≤ q) := by
  refine tw_ofW (L := Lt_X12_opens) (LR := LRt_X12_opens) (by decide) (Nat.le_of_ble_eq_true rfl) hTy ?_
  intro p e s m args below meth c Q ls hx hb hr hlocks hown hml hW hK hT hS hQ hl
  have hl : lv_has ls 2 [(0, .ref (base + a0)), (1, .int a1)] := hl
  obtain ⟨hz_op, hk_op, hn_op⟩ := hTy.refn hz_a0 hk_a0 (show rtR 12 20 = (14, 400, 0) from rfl) k_op
  have hn_op := hn_op (by decide)
  refine lv_aload_n hx hb dX12_opens_0 rfl (lv_at hl 0 rfl) ?_
  refine tw_geti hx hb hW hown hK hS f_X12_185_11 hz_a0 hk_a0 (lo := (-2147483648)) (hi := 2147483647) rfl dX12_opens_1 (fun x3 k2 h1 => ?_)
  refine lv_bipush (v := 10) hx hb dX12_opens_4 (by decide) ?_
  refine lv_icmp_ne (tgt := 19) hx hb dX12_opens_6 (by decide) (fun c4 => ?_) (fun c4 => ?_)
  · have q5 : ¬ x3.toInt = 10 := ti_ne c4
    refine lv_aload_n hx hb dX12_opens_19 rfl (lv_at hl 0 rfl) ?_
    refine lv_dup hx hb dX12_opens_20 rfl ?_
    refine tw_getk hx hb hW hown hK hS f_X12_185_11 hz_a0 hk_a0 (v := x3) k2 dX12_opens_21 ?_
    refine lv_iconst (v := 1) hx hb dX12_opens_24 (by decide) ?_
    refine lv_iadd hx hb dX12_opens_25 ?_
    refine tw_top (fun x7 => ?_)
    have h6 := iv_any x7
    refine tw_puti hx hb hW hown hK hS f_X12_185_11 hz_a0 hk_a0 rfl rfl (lo := (-2147483648)) (hi := 2147483647) rfl h6 rfl dX12_opens_26 (fun H locs M10 hS k8 f9 => ?_)
    refine lv_aload_n hx hb dX12_opens_29 rfl (lv_at hl 0 rfl) ?_
    refine tw_getrk hx hb hW hown hK hS f_X12_35_11 hz_a0 hk_a0 (b := op) k_op dX12_opens_30 ?_
    refine lv_aload_n hx hb dX12_opens_33 rfl (lv_at hl 0 rfl) ?_
    have k11 : M10 a0 21 = on := (Fr.kp (k := 21) f9 hk_a0 rfl).trans k_on
    refine tw_getk hx hb hW hown hK hS f_X12_188_11 hz_a0 hk_a0 (v := on) k11 dX12_opens_34 ?_
    refine lv_iload_n hx hb dX12_opens_37 rfl (lv_at hl 1 rfl) ?_
    refine tw_iasx hx hb hK hS hz_op hk_op (Or.inl rfl) hn_op h_on ⟨by decide, by decide⟩ (iv_any _) (jl := 0) (jh := 1999999) ⟨by decide, by decide⟩ rfl dX12_opens_38 (fun H locs M15 hS k12 f13 e14 => ?_)
    refine lv_aload_n hx hb dX12_opens_39 rfl (lv_at hl 0 rfl) ?_
    refine lv_dup hx hb dX12_opens_40 rfl ?_
    have k16 : M15 a0 21 = on := ((Fr.kp (k := 21) f13 hk_a0 rfl).trans (Fr.kp (k := 21) f9 hk_a0 rfl)).trans k_on
    refine tw_getk hx hb hW hown hK hS f_X12_188_11 hz_a0 hk_a0 (v := on) k16 dX12_opens_41 ?_
    refine lv_iconst (v := 1) hx hb dX12_opens_44 (by decide) ?_
    refine tw_iadd (lo := 1) (hi := 400) hx hb h_on (iv_c (c := 1) (n := 1) (by decide)) ⟨by decide, by decide⟩ ⟨by decide, by decide⟩ dX12_opens_45 (fun x19 e18 h17 => ?_)
    have e18 : x19.toInt = on.toInt + 1 := e18
    refine tw_puti hx hb hW hown hK hS f_X12_188_11 hz_a0 hk_a0 rfl rfl (lo := 0) (hi := 400) rfl (iv_mono h17 (by decide) (by decide)) rfl dX12_opens_46 (fun H locs M22 hS k20 f21 => ?_)
    refine lv_iconst (v := 1) hx hb dX12_opens_49 (by decide) ?_
    exact tw_endz hx hb hr hlocks hK hT hS hQ rfl (⟨(iv_mono (iv_c (c := 1) (n := 1) (by decide)) (by decide) (by decide)), (fun _ => ⟨x19, k20, h17, by omega, by rw [Fr.kpa f21 hk_op rfl, e14]; exact u2_same, fun j hj => by rw [Fr.kpa f21 hk_op rfl, e14, u2_nk hj]; exact Fr.kpa f9 hk_op rfl j⟩)⟩) dX12_opens_50
  · have q23 : x3.toInt = 10 := ti_eq c4
    have h24 : iv 10 10 x3 := ⟨by have := (h1).1; have := ((iv_c (c := 10) (n := 10) (by decide))).1; omega, by have := (h1).2; have := ((iv_c (c := 10) (n := 10) (by decide))).2; omega⟩
    refine lv_aload_n hx hb dX12_opens_9 rfl (lv_at hl 0 rfl) ?_
    refine lv_iconst (v := 2) hx hb dX12_opens_10 (by decide) ?_
    refine lv_aload_n hx hb dX12_opens_11 rfl (lv_at hl 0 rfl) ?_
    refine tw_geti hx hb hW hown hK hS f_X12_127_11 hz_a0 hk_a0 (lo := 0) (hi := 400) rfl dX12_opens_12 (fun x27 k26 h25 => ?_)
    refine tw_goi hS (md_runV (As := [.int 2, .int x27]) (rest := []) hx hb hml hown hW hK hT hS.1 (t_X12_fails l D cy tx base Z K N Ma Ra Ja hS.2.1 a0 hz_a0 hk_a0 2 (iv_mono (iv_c (c := 2) (n := 2) (by decide)) (by decide) (by decide)) x27 h25) s_X12_148 ⟨rfl, rfl, ⟨Nat.le_of_ble_eq_true rfl, Nat.le_of_ble_eq_true rfl⟩, ⟨Nat.le_of_ble_eq_true rfl, Nat.le_of_ble_eq_true rfl⟩⟩ hz_a0 hk_a0 (by decide) rfl rfl hl.1 rfl (Nat.le_of_ble_eq_true rfl) dX12_opens_15) rfl rfl (fun x34 H locs M31 R32 J30 hS f28 g29 E33 => ?_)
    have eR32 := Fr.nil g29 rfl
    subst eR32
    have h_x34 := E33
    exact tw_endz hx hb hr hlocks hK hT hS hQ (nar_b (iv_mono h_x34 (by decide) (by decide))) (⟨(iv_mono h_x34 (by decide) (by decide)), (fun h => absurd (iv0 h_x34) h)⟩) dX12_opens_18
