def Lt_X12_term : WL := [(12, 13, 16), (12, 17, 18), (25, 0, 2000000), (26, 0, 2000000)]
def LRt_X12_term : WL := []
set_option maxRecDepth 100000 in
set_option maxHeartbeats 4000000 in
theorem t_X12_term (l : Launch) (D : va_G) (cy : Nat → ClassId) (tx : (Nat → Nat) × (Nat → Nat)) (base Z : Nat) (K N : Nat → Nat) (Ma : MT) (Ra : RT) (Ja : JT) (hTy : Ty Z K N Ma Ra) (a0 : Nat) (hz_a0 : a0 < Z) (hk_a0 : K a0 = 12) (tb : Nat) (k_tb : Ra a0 0 = some tb) (nx : Int32) (k_nx : Ma a0 13 = nx) (h_nx : iv 0 400 nx) (tp : Int32) (k_tp : Ma a0 1 = tp) (h_tp : iv 0 400 tp) (hnt : nx.toInt ≤ tp.toInt) (lg : Nat) (k_lg : Ra a0 4 = some lg) (sg : Nat) (k_sg : Ra a0 3 = some sg) (tx : Int32) (k_tx : Ma a0 16 = tx) (h_tx : iv 0 5 tx) (le : Int32) (k_le : Ma lg tx.toNatClampNeg = le) (h_le : iv 0 400 le) (md : Int32) (k_md : Ma a0 17 = md) (h_md : iv 0 60 md) (sb : Nat) (sh : Nat) (hseg : SEG Ma sg tx.toNatClampNeg sb le.toNatClampNeg sh) (hsb : (sb : Int) ≤ le.toInt) (hsh : (sh : Int) ≤ md.toInt) (hle : le.toInt ≤ nx.toInt) : Met l yX12_term [Cond.code yX12_term cX12_term 2 (some .boolean)] (md_rm 5 0 0) (va_Pc [.ref (base + a0)] (md_U D cy tx base Z K N Ma Ra Ja)) (mQi D cy tx base (fun r u => TP Z K N Lt_X12_term LRt_X12_term Ma Ra u ∧ (iv 0 1 r ∧ ((∀ j, j < 400 * tx.toNatClampNeg + le.toNatClampNeg → u.2.2.2.1 sg j = Ma sg j) ∧ (∃ x0 : Int32, u.2.2.2.1 a0 13 = x0 ∧ iv 0 400 x0 ∧ nx.toInt ≤ x0.toInt ∧ x0.toInt ≤ tp.toInt) ∧ (¬ r = 0 → ∃ x0 x1 x2 : Int32, u.2.2.2.1 a0 13 = x0 ∧ u.2.2.2.1 lg tx.toNatClampNeg = x1 ∧ u.2.2.2.1 a0 17 = x2 ∧ iv 0 400 x1 ∧ le.toInt ≤ x1.toInt ∧ x1.toInt - le.toInt ≤ x0.toInt - nx.toInt ∧ ((sh + 1 : Nat) : Int) ≤ x2.toInt ∧ SEG u.2.2.2.1 sg tx.toNatClampNeg sb x1.toNatClampNeg (sh + 1)))))) 0 0 (fun q => base ≤ q) := by
  refine tw_ofW (L := Lt_X12_term) (LR := LRt_X12_term) (by decide) (Nat.le_of_ble_eq_true rfl) hTy ?_
  intro p e s m args below meth c Q ls hx hb hr hlocks hown hml hW hK hT hS hQ hl
  have hl : lv_has ls 2 [(0, .ref (base + a0))] := hl
  obtain ⟨hz_tb, hk_tb, hn_tb⟩ := hTy.refn hz_a0 hk_a0 (show rtR 12 0 = (13, 400, 0) from rfl) k_tb
  have hn_tb := hn_tb (by decide)
  obtain ⟨hz_lg, hk_lg, hn_lg⟩ := hTy.refn hz_a0 hk_a0 (show rtR 12 4 = (26, 7, 0) from rfl) k_lg
  have hn_lg := hn_lg (by decide)
  obtain ⟨hz_sg, hk_sg, hn_sg⟩ := hTy.refn hz_a0 hk_a0 (show rtR 12 3 = (25, 2400, 0) from rfl) k_sg
  have hn_sg := hn_sg (by decide)
  refine lv_aload_n hx hb dX12_term_0 rfl (lv_at hl 0 rfl) ?_
  have q1 : nx.toInt ≤ tp.toInt := by
    have := (h_le).1; have := (h_le).2; have := (h_md).1; have := (h_md).2; have := (h_nx).1; have := (h_nx).2; have := (h_tp).1; have := (h_tp).2; have := (h_tx).1; have := (h_tx).2; omega
  have q2 : ((sb : Nat) : Int) ≤ le.toInt := by
    have := (h_le).1; have := (h_le).2; have := (h_md).1; have := (h_md).2; have := (h_nx).1; have := (h_nx).2; have := (h_tp).1; have := (h_tp).2; have := (h_tx).1; have := (h_tx).2; omega
  have q3 : ((sh : Nat) : Int) ≤ md.toInt := by
    have := (h_le).1; have := (h_le).2; have := (h_md).1; have := (h_md).2; have := (h_nx).1; have := (h_nx).2; have := (h_tp).1; have := (h_tp).2; have := (h_tx).1; have := (h_tx).2; omega
  have q4 : le.toInt ≤ nx.toInt := by
    have := (h_le).1; have := (h_le).2; have := (h_md).1; have := (h_md).2; have := (h_nx).1; have := (h_nx).2; have := (h_tp).1; have := (h_tp).2; have := (h_tx).1; have := (h_tx).2; omega
  refine tw_goi hS (md_runV (As := []) (rest := []) hx hb hml hown hW hK hT hS.1 (t_X12_value l D cy tx base Z K N Ma Ra Ja hS.2.1 a0 hz_a0 hk_a0 tb k_tb nx k_nx (iv_mono h_nx (by decide) (by decide)) tp k_tp (iv_mono h_tp (by decide) (by decide)) q1 lg k_lg sg k_sg tx k_tx (iv_mono h_tx (by decide) (by decide)) le k_le (iv_mono h_le (by decide) (by decide)) md k_md (iv_mono h_md (by decide) (by decide)) (sb) (sh) hseg q2 q3 q4) s_X12_209 ⟨rfl, rfl, ⟨Nat.le_of_ble_eq_true rfl, Nat.le_of_ble_eq_true rfl⟩, ⟨Nat.le_of_ble_eq_true rfl, Nat.le_of_ble_eq_true rfl⟩⟩ hz_a0 hk_a0 (by decide) rfl rfl hl.1 rfl (Nat.le_of_ble_eq_true rfl) dX12_term_1) rfl rfl (fun x11 H locs M8 R9 J7 hS f5 g6 E10 => ?_)
  have eR9 := Fr.nil g6 rfl
  subst eR9
  obtain ⟨h_x11, p12⟩ := E10
  obtain ⟨zf12, ⟨x14, k15, h13, zu12, zv12⟩, zc12⟩ := p12
  have k15 : M8 a0 13 = x14 := k15
  have zw12 := ti_cl (x := le) (by have := h_le.1; omega); have zy12 := ti_cl (x := le) (by have := (h_le).1; omega)
  have z16 : ∀ j, j < 400 * tx.toNatClampNeg + le.toNatClampNeg → M8 sg j = Ma sg j := fun j hj => (zf12 j (by omega)).trans ((fun j _ => rfl) j hj)
  refine lv_if_ne (tgt := 9) hx hb dX12_term_4 (by decide) (fun c17 => ?_) (fun c17 => ?_)
  · have q18 : ¬ x11.toInt = 0 := ti_ne c17
    have h19 : iv 1 1 x11 := ⟨by have := (h_x11).1; have := ((iv_c (c := 0) (n := 0) (by decide))).1; have := ((iv_c (c := 0) (n := 0) (by decide))).2; omega, by have := (h_x11).2; have := ((iv_c (c := 0) (n := 0) (by decide))).1; have := ((iv_c (c := 0) (n := 0) (by decide))).2; omega⟩
    obtain ⟨x26, x22, x23, k27, k24, k25, h20, za19, zb19, zd19, z28⟩ := zc12 c17
    have ze19 : x26 = x14 := k27.symm.trans k15
    rw [ze19] at zb19
    have k24 : M8 lg tx.toNatClampNeg = x22 := k24
    have k25 : M8 a0 17 = x23 := k25
    have h21 : iv 0 60 x23 := by rw [← k25]; exact hS.2.1.int hz_a0 hk_a0 (show rgI 12 17 = (0, 60) from rfl)
    have W9_29 : ∀ (n_29 : Nat) (x34 : Int32) (x36 : Int32) (x38 : Int32) (M29 : MT) (R30 : RT) (J31 : JT) (H : Heap) (locs : List Loc) (ls : Array Slot) (h_x34 : iv 0 400 x34) (k35 : M29 a0 13 = x34) (h_x36 : iv 0 60 x36) (k37 : M29 a0 17 = x36) (h_x38 : iv 0 400 x38) (k39 : M29 lg tx.toNatClampNeg = x38) (w0_29 : nx.toInt ≤ x34.toInt ∧ x34.toInt ≤ tp.toInt) (w1_29 : le.toInt ≤ x38.toInt ∧ x38.toInt - le.toInt ≤ x34.toInt - nx.toInt ∧ ((sh + 1 : Nat) : Int) ≤ x36.toInt) (w2_29 : SEG M29 sg tx.toNatClampNeg sb x38.toNatClampNeg (sh + 1)) (w3_29 : ∀ j, j < 400 * tx.toNatClampNeg + le.toNatClampNeg → M29 sg j = Ma sg j) (hm_29 : 400 - x34.toInt < (n_29 : Int)) (hS : SB D cy base Z K N Lt_X12_term LRt_X12_term Ma Ra M29 R30 J31 s H locs) (hl : lv_has ls 2 [(0, .ref (base + a0))]), W p l e (md_rm 5 0 0) s m args below meth c H locs 0 0 Q (F0 m 9 ls []) := by
      intro n_29
      induction n_29 with
      | zero =>
        intro x34 x36 x38 M29 R30 J31 H locs ls h_x34 k35 h_x36 k37 h_x38 k39 w0_29 w1_29 w2_29 w3_29 hm_29 hS hl
        exfalso
        have := (h_le).1; have := (h_le).2; have := (h_md).1; have := (h_md).2; have := (h_nx).1; have := (h_nx).2; have := (h_tp).1; have := (h_tp).2; have := (h_tx).1; have := (h_tx).2; have := (h13).1; have := (h13).2; have := (h20).1; have := (h20).2; have := (h_x34).1; have := (h_x34).2; have := (h_x36).1; have := (h_x36).2; have := (h_x38).1; have := (h_x38).2; omega
      | succ n_29 ih_29 =>
        intro x34 x36 x38 M29 R30 J31 H locs ls h_x34 k35 h_x36 k37 h_x38 k39 w0_29 w1_29 w2_29 w3_29 hm_29 hS hl
        have f32 := hS.2.2.1
        have g33 := hS.2.2.2
        refine lv_aload_n hx hb dX12_term_9 rfl (lv_at hl 0 rfl) ?_
        have k40 : R30 a0 0 = some tb := (Fr.kp (k := 0) g33 hk_a0 rfl).trans k_tb
        have k41 : M29 a0 1 = tp := (Fr.kp (k := 1) f32 hk_a0 rfl).trans k_tp
        have q42 : x34.toInt ≤ tp.toInt := by
          have := (h_le).1; have := (h_le).2; have := (h_md).1; have := (h_md).2; have := (h_nx).1; have := (h_nx).2; have := (h_tp).1; have := (h_tp).2; have := (h_tx).1; have := (h_tx).2; have := (h13).1; have := (h13).2; have := (h20).1; have := (h20).2; have := (h_x34).1; have := (h_x34).2; have := (h_x36).1; have := (h_x36).2; have := (h_x38).1; have := (h_x38).2; omega
        refine tw_goi hS (md_runV (As := []) (rest := []) hx hb hml hown hW hK hT hS.1 (t_X12_see l D cy tx base Z K N M29 R30 J31 hS.2.1 a0 hz_a0 hk_a0 tb k40 x34 k35 (iv_mono h_x34 (by decide) (by decide)) tp k41 (iv_mono h_tp (by decide) (by decide)) q42) s_X12_130 ⟨rfl, rfl, ⟨Nat.le_of_ble_eq_true rfl, Nat.le_of_ble_eq_true rfl⟩, ⟨Nat.le_of_ble_eq_true rfl, Nat.le_of_ble_eq_true rfl⟩⟩ hz_a0 hk_a0 (by decide) rfl rfl hl.1 rfl (Nat.le_of_ble_eq_true rfl) dX12_term_10) rfl rfl (fun x49 H locs M46 R47 J45 hS f43 g44 E48 => ?_)
        have eR47 := Fr.nil g44 rfl
        subst eR47
        obtain ⟨h_x49, p50⟩ := E48
        obtain ⟨x53, k51, h52, q54, z55⟩ := p50
        have k51 : M46 a0 13 = x53 := k51
        refine lv_bipush (v := 42) hx hb dX12_term_13 (by decide) ?_
        refine lv_icmp_eq (tgt := 27) hx hb dX12_term_15 (by decide) (fun c57 => ?_) (fun c57 => ?_)
        · have q58 : x49.toInt = 42 := ti_eq c57
          have h59 : iv 42 42 x49 := ⟨by have := (h_x49).1; have := ((iv_c (c := 42) (n := 42) (by decide))).1; omega, by have := (h_x49).2; have := ((iv_c (c := 42) (n := 42) (by decide))).2; omega⟩
          refine lv_aload_n hx hb dX12_term_27 rfl (lv_at hl 0 rfl) ?_
          have k60 : R30 a0 0 = some tb := (Fr.kp (k := 0) g33 hk_a0 rfl).trans k_tb
          refine tw_getrk hx hb hW hown hK hS f_X12_7_11 hz_a0 hk_a0 (b := tb) k60 dX12_term_28 ?_
          refine lv_aload_n hx hb dX12_term_31 rfl (lv_at hl 0 rfl) ?_
          refine tw_getk hx hb hW hown hK hS f_X12_127_11 hz_a0 hk_a0 (v := x53) k51 dX12_term_32 ?_
          have h61 : iv 0 399 x53 := by
            have := (h_le).1; have := (h_le).2; have := (h_md).1; have := (h_md).2; have := (h_nx).1; have := (h_nx).2; have := (h_tp).1; have := (h_tp).2; have := (h_tx).1; have := (h_tx).2; have := (h13).1; have := (h13).2; have := (h20).1; have := (h20).2; have := (h_x34).1; have := (h_x34).2; have := (h_x36).1; have := (h_x36).2; have := (h_x38).1; have := (h_x38).2; have := (h59).1; have := (h59).2; have := (h52).1; have := (h52).2; exact ⟨by omega, by omega⟩
          refine tw_bald hx hb hK hS hz_tb hk_tb hn_tb h61 ⟨by decide, by decide⟩ dX12_term_35 (fun x64 k63 => ?_)
          have h62 := iv_any x64
          refine lv_bipush (v := 42) hx hb dX12_term_36 (by decide) ?_
          refine lv_icmp_ne (tgt := 45) hx hb dX12_term_38 (by decide) (fun c65 => ?_) (fun c65 => ?_)
          · have q66 : ¬ x64.toInt = 42 := ti_ne c65
            refine lv_iconst (v := 5) hx hb dX12_term_45 (by decide) ?_
            refine lv_istore_n (lv' := [(1, .int 5), (0, .ref (base + a0))]) hx hb dX12_term_46 rfl hl (by decide) rfl (fun ls hl => ?_)
            refine lv_aload_n hx hb dX12_term_47 rfl (lv_at hl 1 rfl) ?_
            refine lv_dup hx hb dX12_term_48 rfl ?_
            refine tw_getk hx hb hW hown hK hS f_X12_127_11 hz_a0 hk_a0 (v := x53) k51 dX12_term_49 ?_
            refine lv_iconst (v := 1) hx hb dX12_term_52 (by decide) ?_
            refine tw_iadd (lo := 1) (hi := 400) hx hb h61 (iv_c (c := 1) (n := 1) (by decide)) ⟨by decide, by decide⟩ ⟨by decide, by decide⟩ dX12_term_53 (fun x69 e68 h67 => ?_)
            have e68 : x69.toInt = x53.toInt + 1 := e68
            refine tw_puti hx hb hW hown hK hS f_X12_127_11 hz_a0 hk_a0 rfl rfl (lo := 0) (hi := 400) rfl (iv_mono h67 (by decide) (by decide)) rfl dX12_term_54 (fun H locs M72 hS k70 f71 => ?_)
            refine lv_aload_n hx hb dX12_term_57 rfl (lv_at hl 1 rfl) ?_
            have k73 : R30 a0 0 = some tb := (Fr.kp (k := 0) g33 hk_a0 rfl).trans k_tb
            have k74 : M72 a0 1 = tp := ((Fr.kp (k := 1) f71 hk_a0 rfl).trans ((Fr.kp (k := 1) f43 hk_a0 rfl).trans (Fr.kp (k := 1) f32 hk_a0 rfl))).trans k_tp
            have q75 : x69.toInt ≤ tp.toInt := by
              have := (h_le).1; have := (h_le).2; have := (h_md).1; have := (h_md).2; have := (h_nx).1; have := (h_nx).2; have := (h_tp).1; have := (h_tp).2; have := (h_tx).1; have := (h_tx).2; have := (h13).1; have := (h13).2; have := (h20).1; have := (h20).2; have := (h_x34).1; have := (h_x34).2; have := (h_x36).1; have := (h_x36).2; have := (h_x38).1; have := (h_x38).2; have := (h59).1; have := (h59).2; have := (h61).1; have := (h61).2; have := (h67).1; have := (h67).2; omega
            have k76 : R30 a0 4 = some lg := (Fr.kp (k := 4) g33 hk_a0 rfl).trans k_lg
            have k77 : R30 a0 3 = some sg := (Fr.kp (k := 3) g33 hk_a0 rfl).trans k_sg
            have k78 : M72 a0 16 = tx := ((Fr.kp (k := 16) f71 hk_a0 rfl).trans ((Fr.kp (k := 16) f43 hk_a0 rfl).trans (Fr.kp (k := 16) f32 hk_a0 rfl))).trans k_tx
            have k79 : M72 lg tx.toNatClampNeg = x38 := ((Fr.kpa f71 hk_lg rfl tx.toNatClampNeg).trans (Fr.kpa f43 hk_lg rfl tx.toNatClampNeg)).trans k39
            have k80 : M72 a0 17 = x36 := ((Fr.kp (k := 17) f71 hk_a0 rfl).trans (Fr.kp (k := 17) f43 hk_a0 rfl)).trans k37
            have q81 : ((sb : Nat) : Int) ≤ x38.toInt := by
              have := (h_le).1; have := (h_le).2; have := (h_md).1; have := (h_md).2; have := (h_nx).1; have := (h_nx).2; have := (h_tp).1; have := (h_tp).2; have := (h_tx).1; have := (h_tx).2; have := (h13).1; have := (h13).2; have := (h20).1; have := (h20).2; have := (h_x34).1; have := (h_x34).2; have := (h_x36).1; have := (h_x36).2; have := (h_x38).1; have := (h_x38).2; have := (h61).1; have := (h61).2; omega
            have q82 : ((sh + 1 : Nat) : Int) ≤ x36.toInt := by
              have := (h_le).1; have := (h_le).2; have := (h_md).1; have := (h_md).2; have := (h_nx).1; have := (h_nx).2; have := (h_tp).1; have := (h_tp).2; have := (h_tx).1; have := (h_tx).2; have := (h13).1; have := (h13).2; have := (h20).1; have := (h20).2; have := (h_x34).1; have := (h_x34).2; have := (h_x36).1; have := (h_x36).2; have := (h_x38).1; have := (h_x38).2; have := (h61).1; have := (h61).2; omega
            have q83 : x38.toInt ≤ x69.toInt := by
              have := (h_le).1; have := (h_le).2; have := (h_md).1; have := (h_md).2; have := (h_nx).1; have := (h_nx).2; have := (h_tp).1; have := (h_tp).2; have := (h_tx).1; have := (h_tx).2; have := (h13).1; have := (h13).2; have := (h20).1; have := (h20).2; have := (h_x34).1; have := (h_x34).2; have := (h_x36).1; have := (h_x36).2; have := (h_x38).1; have := (h_x38).2; have := (h59).1; have := (h59).2; have := (h61).1; have := (h61).2; have := (h67).1; have := (h67).2; omega
            refine tw_goi hS (md_runV (As := []) (rest := []) hx hb hml hown hW hK hT hS.1 (t_X12_value l D cy tx base Z K N M72 R30 J45 hS.2.1 a0 hz_a0 hk_a0 tb k73 x69 k70 (iv_mono h67 (by decide) (by decide)) tp k74 (iv_mono h_tp (by decide) (by decide)) q75 lg k76 sg k77 tx k78 (iv_mono h_tx (by decide) (by decide)) x38 k79 (iv_mono h_x38 (by decide) (by decide)) x36 k80 (iv_mono h_x36 (by decide) (by decide)) (sb) (sh + 1) (SEG.to (SEG.to w2_29 (fun j _ _ => Fr.kpa f43 hk_sg rfl j)) (fun j _ _ => Fr.kpa f71 hk_sg rfl j)) q81 q82 q83) s_X12_209 ⟨rfl, rfl, ⟨Nat.le_of_ble_eq_true rfl, Nat.le_of_ble_eq_true rfl⟩, ⟨Nat.le_of_ble_eq_true rfl, Nat.le_of_ble_eq_true rfl⟩⟩ hz_a0 hk_a0 (by decide) rfl rfl hl.1 rfl (Nat.le_of_ble_eq_true rfl) dX12_term_58) rfl rfl (fun x90 H locs M87 R88 J86 hS f84 g85 E89 => ?_)
            have eR88 := Fr.nil g85 rfl
            subst eR88
            obtain ⟨h_x90, p91⟩ := E89
            obtain ⟨zf91, ⟨x93, k94, h92, zu91, zv91⟩, zc91⟩ := p91
            have k94 : M87 a0 13 = x93 := k94
            have zw91 := ti_cl (x := le) (by have := h_le.1; omega); have zy91 := ti_cl (x := x38) (by have := (h_x38).1; omega)
            have z95 : ∀ j, j < 400 * tx.toNatClampNeg + le.toNatClampNeg → M87 sg j = Ma sg j := fun j hj => (zf91 j (by omega)).trans ((fun j hj => (Fr.kpa f71 hk_sg rfl j).trans ((fun j hj => (Fr.kpa f43 hk_sg rfl j).trans (w3_29 j hj)) j hj)) j hj)
            refine lv_if_ne (tgt := 66) hx hb dX12_term_61 (by decide) (fun c96 => ?_) (fun c96 => ?_)
            · have q97 : ¬ x90.toInt = 0 := ti_ne c96
              have h98 : iv 1 1 x90 := ⟨by have := (h_x90).1; have := ((iv_c (c := 0) (n := 0) (by decide))).1; have := ((iv_c (c := 0) (n := 0) (by decide))).2; omega, by have := (h_x90).2; have := ((iv_c (c := 0) (n := 0) (by decide))).1; have := ((iv_c (c := 0) (n := 0) (by decide))).2; omega⟩
              obtain ⟨x105, x101, x102, k106, k103, k104, h99, za98, zb98, zd98, z107⟩ := zc91 c96
              have ze98 : x105 = x93 := k106.symm.trans k94
              rw [ze98] at zb98
              have k103 : M87 lg tx.toNatClampNeg = x101 := k103
              have k104 : M87 a0 17 = x102 := k104
              have h100 : iv 0 60 x102 := by rw [← k104]; exact hS.2.1.int hz_a0 hk_a0 (show rgI 12 17 = (0, 60) from rfl)
              have z108 : SEG M87 sg tx.toNatClampNeg sb x101.toNatClampNeg (sh + 2) := SEG.cast z107 rfl (by omega)
              refine lv_aload_n hx hb dX12_term_66 rfl (lv_at hl 1 rfl) ?_
              refine lv_iload_n hx hb dX12_term_67 rfl (lv_at hl 0 rfl) ?_
              refine lv_iconst (v := 0) hx hb dX12_term_68 (by decide) ?_
              have k109 : R30 a0 3 = some sg := (Fr.kp (k := 3) g33 hk_a0 rfl).trans k_sg
              have k110 : R30 a0 4 = some lg := (Fr.kp (k := 4) g33 hk_a0 rfl).trans k_lg
              have k111 : M87 a0 16 = tx := ((Fr.kp (k := 16) f84 hk_a0 rfl).trans ((Fr.kp (k := 16) f71 hk_a0 rfl).trans ((Fr.kp (k := 16) f43 hk_a0 rfl).trans (Fr.kp (k := 16) f32 hk_a0 rfl)))).trans k_tx
              have h112 : iv 0 399 x101 := by
                have := (h_le).1; have := (h_le).2; have := (h_md).1; have := (h_md).2; have := (h_nx).1; have := (h_nx).2; have := (h_tp).1; have := (h_tp).2; have := (h_tx).1; have := (h_tx).2; have := (h99).1; have := (h99).2; have := (h13).1; have := (h13).2; have := (h20).1; have := (h20).2; have := (h_x34).1; have := (h_x34).2; have := (h_x36).1; have := (h_x36).2; have := (h_x38).1; have := (h_x38).2; have := (h59).1; have := (h59).2; have := (h61).1; have := (h61).2; have := (h67).1; have := (h67).2; have := (h92).1; have := (h92).2; exact ⟨by omega, by omega⟩
              refine tw_gov hS (md_runV (As := [.int 5, .int 0]) (rest := []) hx hb hml hown hW hK hT hS.1 (t_X12_puts l D cy tx base Z K N M87 R30 J86 hS.2.1 a0 hz_a0 hk_a0 5 (iv_mono (iv_c (c := 5) (n := 5) (by decide)) (by decide) (by decide)) 0 (iv_mono (iv_c (c := 0) (n := 0) (by decide)) (by decide) (by decide)) sg k109 lg k110 tx k111 (iv_mono h_tx (by decide) (by decide)) x101 k103 h112) s_X12_195 ⟨rfl, rfl, ⟨Nat.le_of_ble_eq_true rfl, Nat.le_of_ble_eq_true rfl⟩, ⟨Nat.le_of_ble_eq_true rfl, Nat.le_of_ble_eq_true rfl⟩⟩ hz_a0 hk_a0 (by decide) rfl rfl hl.1 rfl (Nat.le_of_ble_eq_true rfl) dX12_term_69) rfl rfl (fun H locs M116 R117 J115 hS f113 g114 E118 => ?_)
              have eR117 := Fr.nil g114 rfl
              subst eR117
              have p119 := E118
              obtain ⟨x120, x122, zc119, zd119, zo119, k123, h121, zl119⟩ := p119
              have k123 : M116 lg tx.toNatClampNeg = x122 := k123
              have zt119 := ti_cl (x := tx) (by have := h_tx.1; omega); have zn119 := ti_cl (x := x101) (by have := (h99).1; omega); have zm119 := ti_cl (x := x122) (by have := (h121).1; omega)
              have q124 : (5 : Int32).toInt = 5 := (by decide)
              have q125 : (0 : Int32).toInt = 0 := (by decide)
              have k126 : M116 a0 17 = x102 := (Fr.kp (k := 17) f113 hk_a0 rfl).trans k104
              have zs119 := stp_two (h := sh + 2) (show x120.toInt = (5 : Int32).toInt + 16 * 0 by omega) (by have := ((iv_c (c := 5) (n := 5) (by decide))).1; have := ((iv_c (c := 5) (n := 5) (by decide))).2; have := ((iv_c (c := 0) (n := 0) (by decide))).1; have := ((iv_c (c := 0) (n := 0) (by decide))).2; omega) (by omega)
              have z127 : SEG M116 sg tx.toNatClampNeg sb x122.toNatClampNeg (sh + 1) := SEG.cast (SEG.ext z108 (by omega) zd119 zo119 zs119) (by omega) (by omega)
              have zw119 := ti_cl (x := le) (by have := h_le.1; omega)
              have z128 : ∀ j, j < 400 * tx.toNatClampNeg + le.toNatClampNeg → M116 sg j = Ma sg j := fun j hj => (zo119 j (by omega)).trans (z95 j hj)
              refine lv_goto (tgt := 9) hx hb dX12_term_72 (by decide) ?_
              have k129 : M116 a0 13 = x93 := (Fr.kp (k := 13) f113 hk_a0 rfl).trans k94
              have w130 : nx.toInt ≤ x93.toInt ∧ x93.toInt ≤ tp.toInt := by
                have := (h_le).1; have := (h_le).2; have := (h_md).1; have := (h_md).2; have := (h_nx).1; have := (h_nx).2; have := (h_tp).1; have := (h_tp).2; have := (h_tx).1; have := (h_tx).2; have := (h99).1; have := (h99).2; have := (h121).1; have := (h121).2; have := (h13).1; have := (h13).2; have := (h20).1; have := (h20).2; have := (h_x34).1; have := (h_x34).2; have := (h_x36).1; have := (h_x36).2; have := (h_x38).1; have := (h_x38).2; have := (h59).1; have := (h59).2; have := (h61).1; have := (h61).2; have := (h67).1; have := (h67).2; have := (h92).1; have := (h92).2; omega
              have w131 : le.toInt ≤ x122.toInt ∧ x122.toInt - le.toInt ≤ x93.toInt - nx.toInt ∧ ((sh + 1 : Nat) : Int) ≤ x102.toInt := by
                have := (h_le).1; have := (h_le).2; have := (h_md).1; have := (h_md).2; have := (h_nx).1; have := (h_nx).2; have := (h_tp).1; have := (h_tp).2; have := (h_tx).1; have := (h_tx).2; have := (h99).1; have := (h99).2; have := (h100).1; have := (h100).2; have := (h121).1; have := (h121).2; have := (h13).1; have := (h13).2; have := (h20).1; have := (h20).2; have := (h_x34).1; have := (h_x34).2; have := (h_x36).1; have := (h_x36).2; have := (h_x38).1; have := (h_x38).2; have := (h59).1; have := (h59).2; have := (h61).1; have := (h61).2; have := (h67).1; have := (h67).2; have := (h92).1; have := (h92).2; omega
              have w132 : SEG M116 sg tx.toNatClampNeg sb x122.toNatClampNeg (sh + 1) := z127
              have w133 : ∀ j, j < 400 * tx.toNatClampNeg + le.toNatClampNeg → M116 sg j = Ma sg j := z128
              have hm134 : 400 - x93.toInt < (n_29 : Int) := by
                have := (h_le).1; have := (h_le).2; have := (h_md).1; have := (h_md).2; have := (h_nx).1; have := (h_nx).2; have := (h_tp).1; have := (h_tp).2; have := (h_tx).1; have := (h_tx).2; have := (h99).1; have := (h99).2; have := (h121).1; have := (h121).2; have := (h13).1; have := (h13).2; have := (h20).1; have := (h20).2; have := (h_x34).1; have := (h_x34).2; have := (h_x36).1; have := (h_x36).2; have := (h_x38).1; have := (h_x38).2; have := (h59).1; have := (h59).2; have := (h61).1; have := (h61).2; have := (h67).1; have := (h67).2; have := (h92).1; have := (h92).2; omega
              exact ih_29 x93 x102 x122 M116 R30 J115 H locs _ h92 k129 h100 k126 (iv_mono h121 (by decide) (by decide)) k123 w130 w131 w132 w133 hm134 hS (lv_sub hl [1] rfl)
            · have q135 : x90.toInt = 0 := ti_eq c96
              have h136 : iv 0 0 x90 := ⟨by have := (h_x90).1; have := ((iv_c (c := 0) (n := 0) (by decide))).1; omega, by have := (h_x90).2; have := ((iv_c (c := 0) (n := 0) (by decide))).2; omega⟩
              refine lv_iconst (v := 0) hx hb dX12_term_64 (by decide) ?_
              have q137 : nx.toInt ≤ x93.toInt ∧ x93.toInt ≤ tp.toInt := by
                have := (h_le).1; have := (h_le).2; have := (h_md).1; have := (h_md).2; have := (h_nx).1; have := (h_nx).2; have := (h_tp).1; have := (h_tp).2; have := (h_tx).1; have := (h_tx).2; have := (h13).1; have := (h13).2; have := (h20).1; have := (h20).2; have := (h_x34).1; have := (h_x34).2; have := (h_x36).1; have := (h_x36).2; have := (h_x38).1; have := (h_x38).2; have := (h59).1; have := (h59).2; have := (h61).1; have := (h61).2; have := (h67).1; have := (h67).2; have := (h92).1; have := (h92).2; omega
              exact tw_endz hx hb hr hlocks hK hT hS hQ rfl (⟨(iv_mono (iv_c (c := 0) (n := 0) (by decide)) (by decide) (by decide)), ⟨z95, ⟨x93, k94, h92, q137.1, q137.2⟩, (fun h => absurd rfl h)⟩⟩) dX12_term_65
          · have q138 : x64.toInt = 42 := ti_eq c65
            have h139 : iv 42 42 x64 := ⟨by have := (h62).1; have := ((iv_c (c := 42) (n := 42) (by decide))).1; omega, by have := (h62).2; have := ((iv_c (c := 42) (n := 42) (by decide))).2; omega⟩
            refine lv_iconst (v := 4) hx hb dX12_term_41 (by decide) ?_
            refine lv_goto (tgt := 46) hx hb dX12_term_42 (by decide) ?_
            refine lv_istore_n (lv' := [(1, .int 4), (0, .ref (base + a0))]) hx hb dX12_term_46 rfl hl (by decide) rfl (fun ls hl => ?_)
            refine lv_aload_n hx hb dX12_term_47 rfl (lv_at hl 1 rfl) ?_
            refine lv_dup hx hb dX12_term_48 rfl ?_
            refine tw_getk hx hb hW hown hK hS f_X12_127_11 hz_a0 hk_a0 (v := x53) k51 dX12_term_49 ?_
            refine lv_iconst (v := 1) hx hb dX12_term_52 (by decide) ?_
            refine tw_iadd (lo := 1) (hi := 400) hx hb h61 (iv_c (c := 1) (n := 1) (by decide)) ⟨by decide, by decide⟩ ⟨by decide, by decide⟩ dX12_term_53 (fun x142 e141 h140 => ?_)
            have e141 : x142.toInt = x53.toInt + 1 := e141
            refine tw_puti hx hb hW hown hK hS f_X12_127_11 hz_a0 hk_a0 rfl rfl (lo := 0) (hi := 400) rfl (iv_mono h140 (by decide) (by decide)) rfl dX12_term_54 (fun H locs M145 hS k143 f144 => ?_)
            refine lv_aload_n hx hb dX12_term_57 rfl (lv_at hl 1 rfl) ?_
            have k146 : R30 a0 0 = some tb := (Fr.kp (k := 0) g33 hk_a0 rfl).trans k_tb
            have k147 : M145 a0 1 = tp := ((Fr.kp (k := 1) f144 hk_a0 rfl).trans ((Fr.kp (k := 1) f43 hk_a0 rfl).trans (Fr.kp (k := 1) f32 hk_a0 rfl))).trans k_tp
            have q148 : x142.toInt ≤ tp.toInt := by
              have := (h_le).1; have := (h_le).2; have := (h_md).1; have := (h_md).2; have := (h_nx).1; have := (h_nx).2; have := (h_tp).1; have := (h_tp).2; have := (h_tx).1; have := (h_tx).2; have := (h13).1; have := (h13).2; have := (h140).1; have := (h140).2; have := (h20).1; have := (h20).2; have := (h_x34).1; have := (h_x34).2; have := (h_x36).1; have := (h_x36).2; have := (h_x38).1; have := (h_x38).2; have := (h59).1; have := (h59).2; have := (h61).1; have := (h61).2; omega
            have k149 : R30 a0 4 = some lg := (Fr.kp (k := 4) g33 hk_a0 rfl).trans k_lg
            have k150 : R30 a0 3 = some sg := (Fr.kp (k := 3) g33 hk_a0 rfl).trans k_sg
            have k151 : M145 a0 16 = tx := ((Fr.kp (k := 16) f144 hk_a0 rfl).trans ((Fr.kp (k := 16) f43 hk_a0 rfl).trans (Fr.kp (k := 16) f32 hk_a0 rfl))).trans k_tx
            have k152 : M145 lg tx.toNatClampNeg = x38 := ((Fr.kpa f144 hk_lg rfl tx.toNatClampNeg).trans (Fr.kpa f43 hk_lg rfl tx.toNatClampNeg)).trans k39
            have k153 : M145 a0 17 = x36 := ((Fr.kp (k := 17) f144 hk_a0 rfl).trans (Fr.kp (k := 17) f43 hk_a0 rfl)).trans k37
            have q154 : ((sb : Nat) : Int) ≤ x38.toInt := by
              have := (h_le).1; have := (h_le).2; have := (h_md).1; have := (h_md).2; have := (h_nx).1; have := (h_nx).2; have := (h_tp).1; have := (h_tp).2; have := (h_tx).1; have := (h_tx).2; have := (h13).1; have := (h13).2; have := (h20).1; have := (h20).2; have := (h_x34).1; have := (h_x34).2; have := (h_x36).1; have := (h_x36).2; have := (h_x38).1; have := (h_x38).2; have := (h61).1; have := (h61).2; omega
            have q155 : ((sh + 1 : Nat) : Int) ≤ x36.toInt := by
              have := (h_le).1; have := (h_le).2; have := (h_md).1; have := (h_md).2; have := (h_nx).1; have := (h_nx).2; have := (h_tp).1; have := (h_tp).2; have := (h_tx).1; have := (h_tx).2; have := (h13).1; have := (h13).2; have := (h20).1; have := (h20).2; have := (h_x34).1; have := (h_x34).2; have := (h_x36).1; have := (h_x36).2; have := (h_x38).1; have := (h_x38).2; have := (h61).1; have := (h61).2; omega
            have q156 : x38.toInt ≤ x142.toInt := by
              have := (h_le).1; have := (h_le).2; have := (h_md).1; have := (h_md).2; have := (h_nx).1; have := (h_nx).2; have := (h_tp).1; have := (h_tp).2; have := (h_tx).1; have := (h_tx).2; have := (h13).1; have := (h13).2; have := (h140).1; have := (h140).2; have := (h20).1; have := (h20).2; have := (h_x34).1; have := (h_x34).2; have := (h_x36).1; have := (h_x36).2; have := (h_x38).1; have := (h_x38).2; have := (h59).1; have := (h59).2; have := (h61).1; have := (h61).2; omega
            refine tw_goi hS (md_runV (As := []) (rest := []) hx hb hml hown hW hK hT hS.1 (t_X12_value l D cy tx base Z K N M145 R30 J45 hS.2.1 a0 hz_a0 hk_a0 tb k146 x142 k143 (iv_mono h140 (by decide) (by decide)) tp k147 (iv_mono h_tp (by decide) (by decide)) q148 lg k149 sg k150 tx k151 (iv_mono h_tx (by decide) (by decide)) x38 k152 (iv_mono h_x38 (by decide) (by decide)) x36 k153 (iv_mono h_x36 (by decide) (by decide)) (sb) (sh + 1) (SEG.to (SEG.to w2_29 (fun j _ _ => Fr.kpa f43 hk_sg rfl j)) (fun j _ _ => Fr.kpa f144 hk_sg rfl j)) q154 q155 q156) s_X12_209 ⟨rfl, rfl, ⟨Nat.le_of_ble_eq_true rfl, Nat.le_of_ble_eq_true rfl⟩, ⟨Nat.le_of_ble_eq_true rfl, Nat.le_of_ble_eq_true rfl⟩⟩ hz_a0 hk_a0 (by decide) rfl rfl hl.1 rfl (Nat.le_of_ble_eq_true rfl) dX12_term_58) rfl rfl (fun x163 H locs M160 R161 J159 hS f157 g158 E162 => ?_)
            have eR161 := Fr.nil g158 rfl
            subst eR161
            obtain ⟨h_x163, p164⟩ := E162
            obtain ⟨zf164, ⟨x166, k167, h165, zu164, zv164⟩, zc164⟩ := p164
            have k167 : M160 a0 13 = x166 := k167
            have zw164 := ti_cl (x := le) (by have := h_le.1; omega); have zy164 := ti_cl (x := x38) (by have := (h_x38).1; omega)
            have z168 : ∀ j, j < 400 * tx.toNatClampNeg + le.toNatClampNeg → M160 sg j = Ma sg j := fun j hj => (zf164 j (by omega)).trans ((fun j hj => (Fr.kpa f144 hk_sg rfl j).trans ((fun j hj => (Fr.kpa f43 hk_sg rfl j).trans (w3_29 j hj)) j hj)) j hj)
            refine lv_if_ne (tgt := 66) hx hb dX12_term_61 (by decide) (fun c169 => ?_) (fun c169 => ?_)
            · have q170 : ¬ x163.toInt = 0 := ti_ne c169
              have h171 : iv 1 1 x163 := ⟨by have := (h_x163).1; have := ((iv_c (c := 0) (n := 0) (by decide))).1; have := ((iv_c (c := 0) (n := 0) (by decide))).2; omega, by have := (h_x163).2; have := ((iv_c (c := 0) (n := 0) (by decide))).1; have := ((iv_c (c := 0) (n := 0) (by decide))).2; omega⟩
              obtain ⟨x178, x174, x175, k179, k176, k177, h172, za171, zb171, zd171, z180⟩ := zc164 c169
              have ze171 : x178 = x166 := k179.symm.trans k167
              rw [ze171] at zb171
              have k176 : M160 lg tx.toNatClampNeg = x174 := k176
              have k177 : M160 a0 17 = x175 := k177
              have h173 : iv 0 60 x175 := by rw [← k177]; exact hS.2.1.int hz_a0 hk_a0 (show rgI 12 17 = (0, 60) from rfl)
              have z181 : SEG M160 sg tx.toNatClampNeg sb x174.toNatClampNeg (sh + 2) := SEG.cast z180 rfl (by omega)
              refine lv_aload_n hx hb dX12_term_66 rfl (lv_at hl 1 rfl) ?_
              refine lv_iload_n hx hb dX12_term_67 rfl (lv_at hl 0 rfl) ?_
              refine lv_iconst (v := 0) hx hb dX12_term_68 (by decide) ?_
              have k182 : R30 a0 3 = some sg := (Fr.kp (k := 3) g33 hk_a0 rfl).trans k_sg
              have k183 : R30 a0 4 = some lg := (Fr.kp (k := 4) g33 hk_a0 rfl).trans k_lg
              have k184 : M160 a0 16 = tx := ((Fr.kp (k := 16) f157 hk_a0 rfl).trans ((Fr.kp (k := 16) f144 hk_a0 rfl).trans ((Fr.kp (k := 16) f43 hk_a0 rfl).trans (Fr.kp (k := 16) f32 hk_a0 rfl)))).trans k_tx
              have h185 : iv 0 399 x174 := by
                have := (h_le).1; have := (h_le).2; have := (h_md).1; have := (h_md).2; have := (h_nx).1; have := (h_nx).2; have := (h_tp).1; have := (h_tp).2; have := (h_tx).1; have := (h_tx).2; have := (h13).1; have := (h13).2; have := (h140).1; have := (h140).2; have := (h165).1; have := (h165).2; have := (h172).1; have := (h172).2; have := (h20).1; have := (h20).2; have := (h_x34).1; have := (h_x34).2; have := (h_x36).1; have := (h_x36).2; have := (h_x38).1; have := (h_x38).2; have := (h59).1; have := (h59).2; have := (h61).1; have := (h61).2; exact ⟨by omega, by omega⟩
              refine tw_gov hS (md_runV (As := [.int 4, .int 0]) (rest := []) hx hb hml hown hW hK hT hS.1 (t_X12_puts l D cy tx base Z K N M160 R30 J159 hS.2.1 a0 hz_a0 hk_a0 4 (iv_mono (iv_c (c := 4) (n := 4) (by decide)) (by decide) (by decide)) 0 (iv_mono (iv_c (c := 0) (n := 0) (by decide)) (by decide) (by decide)) sg k182 lg k183 tx k184 (iv_mono h_tx (by decide) (by decide)) x174 k176 h185) s_X12_195 ⟨rfl, rfl, ⟨Nat.le_of_ble_eq_true rfl, Nat.le_of_ble_eq_true rfl⟩, ⟨Nat.le_of_ble_eq_true rfl, Nat.le_of_ble_eq_true rfl⟩⟩ hz_a0 hk_a0 (by decide) rfl rfl hl.1 rfl (Nat.le_of_ble_eq_true rfl) dX12_term_69) rfl rfl (fun H locs M189 R190 J188 hS f186 g187 E191 => ?_)
              have eR190 := Fr.nil g187 rfl
              subst eR190
              have p192 := E191
              obtain ⟨x193, x195, zc192, zd192, zo192, k196, h194, zl192⟩ := p192
              have k196 : M189 lg tx.toNatClampNeg = x195 := k196
              have zt192 := ti_cl (x := tx) (by have := h_tx.1; omega); have zn192 := ti_cl (x := x174) (by have := (h172).1; omega); have zm192 := ti_cl (x := x195) (by have := (h194).1; omega)
              have q197 : (4 : Int32).toInt = 4 := (by decide)
              have q198 : (0 : Int32).toInt = 0 := (by decide)
              have k199 : M189 a0 17 = x175 := (Fr.kp (k := 17) f186 hk_a0 rfl).trans k177
              have zs192 := stp_two (h := sh + 2) (show x193.toInt = (4 : Int32).toInt + 16 * 0 by omega) (by have := ((iv_c (c := 4) (n := 4) (by decide))).1; have := ((iv_c (c := 4) (n := 4) (by decide))).2; have := ((iv_c (c := 0) (n := 0) (by decide))).1; have := ((iv_c (c := 0) (n := 0) (by decide))).2; omega) (by omega)
              have z200 : SEG M189 sg tx.toNatClampNeg sb x195.toNatClampNeg (sh + 1) := SEG.cast (SEG.ext z181 (by omega) zd192 zo192 zs192) (by omega) (by omega)
              have zw192 := ti_cl (x := le) (by have := h_le.1; omega)
              have z201 : ∀ j, j < 400 * tx.toNatClampNeg + le.toNatClampNeg → M189 sg j = Ma sg j := fun j hj => (zo192 j (by omega)).trans (z168 j hj)
              refine lv_goto (tgt := 9) hx hb dX12_term_72 (by decide) ?_
              have k202 : M189 a0 13 = x166 := (Fr.kp (k := 13) f186 hk_a0 rfl).trans k167
              have w203 : nx.toInt ≤ x166.toInt ∧ x166.toInt ≤ tp.toInt := by
                have := (h_le).1; have := (h_le).2; have := (h_md).1; have := (h_md).2; have := (h_nx).1; have := (h_nx).2; have := (h_tp).1; have := (h_tp).2; have := (h_tx).1; have := (h_tx).2; have := (h13).1; have := (h13).2; have := (h140).1; have := (h140).2; have := (h165).1; have := (h165).2; have := (h172).1; have := (h172).2; have := (h194).1; have := (h194).2; have := (h20).1; have := (h20).2; have := (h_x34).1; have := (h_x34).2; have := (h_x36).1; have := (h_x36).2; have := (h_x38).1; have := (h_x38).2; have := (h59).1; have := (h59).2; have := (h61).1; have := (h61).2; omega
              have w204 : le.toInt ≤ x195.toInt ∧ x195.toInt - le.toInt ≤ x166.toInt - nx.toInt ∧ ((sh + 1 : Nat) : Int) ≤ x175.toInt := by
                have := (h_le).1; have := (h_le).2; have := (h_md).1; have := (h_md).2; have := (h_nx).1; have := (h_nx).2; have := (h_tp).1; have := (h_tp).2; have := (h_tx).1; have := (h_tx).2; have := (h13).1; have := (h13).2; have := (h140).1; have := (h140).2; have := (h165).1; have := (h165).2; have := (h172).1; have := (h172).2; have := (h173).1; have := (h173).2; have := (h194).1; have := (h194).2; have := (h20).1; have := (h20).2; have := (h_x34).1; have := (h_x34).2; have := (h_x36).1; have := (h_x36).2; have := (h_x38).1; have := (h_x38).2; have := (h59).1; have := (h59).2; have := (h61).1; have := (h61).2; omega
              have w205 : SEG M189 sg tx.toNatClampNeg sb x195.toNatClampNeg (sh + 1) := z200
              have w206 : ∀ j, j < 400 * tx.toNatClampNeg + le.toNatClampNeg → M189 sg j = Ma sg j := z201
              have hm207 : 400 - x166.toInt < (n_29 : Int) := by
                have := (h_le).1; have := (h_le).2; have := (h_md).1; have := (h_md).2; have := (h_nx).1; have := (h_nx).2; have := (h_tp).1; have := (h_tp).2; have := (h_tx).1; have := (h_tx).2; have := (h13).1; have := (h13).2; have := (h140).1; have := (h140).2; have := (h165).1; have := (h165).2; have := (h172).1; have := (h172).2; have := (h194).1; have := (h194).2; have := (h20).1; have := (h20).2; have := (h_x34).1; have := (h_x34).2; have := (h_x36).1; have := (h_x36).2; have := (h_x38).1; have := (h_x38).2; have := (h59).1; have := (h59).2; have := (h61).1; have := (h61).2; omega
              exact ih_29 x166 x175 x195 M189 R30 J188 H locs _ h165 k202 h173 k199 (iv_mono h194 (by decide) (by decide)) k196 w203 w204 w205 w206 hm207 hS (lv_sub hl [1] rfl)
            · have q208 : x163.toInt = 0 := ti_eq c169
              have h209 : iv 0 0 x163 := ⟨by have := (h_x163).1; have := ((iv_c (c := 0) (n := 0) (by decide))).1; omega, by have := (h_x163).2; have := ((iv_c (c := 0) (n := 0) (by decide))).2; omega⟩
              refine lv_iconst (v := 0) hx hb dX12_term_64 (by decide) ?_
              have q210 : nx.toInt ≤ x166.toInt ∧ x166.toInt ≤ tp.toInt := by
                have := (h_le).1; have := (h_le).2; have := (h_md).1; have := (h_md).2; have := (h_nx).1; have := (h_nx).2; have := (h_tp).1; have := (h_tp).2; have := (h_tx).1; have := (h_tx).2; have := (h13).1; have := (h13).2; have := (h140).1; have := (h140).2; have := (h165).1; have := (h165).2; have := (h20).1; have := (h20).2; have := (h_x34).1; have := (h_x34).2; have := (h_x36).1; have := (h_x36).2; have := (h_x38).1; have := (h_x38).2; have := (h59).1; have := (h59).2; have := (h61).1; have := (h61).2; omega
              exact tw_endz hx hb hr hlocks hK hT hS hQ rfl (⟨(iv_mono (iv_c (c := 0) (n := 0) (by decide)) (by decide) (by decide)), ⟨z168, ⟨x166, k167, h165, q210.1, q210.2⟩, (fun h => absurd rfl h)⟩⟩) dX12_term_65
        · have q211 : ¬ x49.toInt = 42 := ti_ne c57
          refine lv_aload_n hx hb dX12_term_18 rfl (lv_at hl 0 rfl) ?_
          have k212 : R30 a0 0 = some tb := (Fr.kp (k := 0) g33 hk_a0 rfl).trans k_tb
          have k213 : M46 a0 1 = tp := ((Fr.kp (k := 1) f43 hk_a0 rfl).trans (Fr.kp (k := 1) f32 hk_a0 rfl)).trans k_tp
          have q214 : x53.toInt ≤ tp.toInt := by
            have := (h_le).1; have := (h_le).2; have := (h_md).1; have := (h_md).2; have := (h_nx).1; have := (h_nx).2; have := (h_tp).1; have := (h_tp).2; have := (h_tx).1; have := (h_tx).2; have := (h13).1; have := (h13).2; have := (h20).1; have := (h20).2; have := (h_x34).1; have := (h_x34).2; have := (h_x36).1; have := (h_x36).2; have := (h_x38).1; have := (h_x38).2; have := (h_x49).1; have := (h_x49).2; have := (h52).1; have := (h52).2; omega
          refine tw_goi hS (md_runV (As := []) (rest := []) hx hb hml hown hW hK hT hS.1 (t_X12_see l D cy tx base Z K N M46 R30 J45 hS.2.1 a0 hz_a0 hk_a0 tb k212 x53 k51 (iv_mono h52 (by decide) (by decide)) tp k213 (iv_mono h_tp (by decide) (by decide)) q214) s_X12_130 ⟨rfl, rfl, ⟨Nat.le_of_ble_eq_true rfl, Nat.le_of_ble_eq_true rfl⟩, ⟨Nat.le_of_ble_eq_true rfl, Nat.le_of_ble_eq_true rfl⟩⟩ hz_a0 hk_a0 (by decide) rfl rfl hl.1 rfl (Nat.le_of_ble_eq_true rfl) dX12_term_19) rfl rfl (fun x221 H locs M218 R219 J217 hS f215 g216 E220 => ?_)
          have eR219 := Fr.nil g216 rfl
          subst eR219
          obtain ⟨h_x221, p222⟩ := E220
          obtain ⟨x225, k223, h224, q226, z227⟩ := p222
          have k223 : M218 a0 13 = x225 := k223
          refine lv_bipush (v := 47) hx hb dX12_term_22 (by decide) ?_
          refine lv_icmp_ne (tgt := 75) hx hb dX12_term_24 (by decide) (fun c229 => ?_) (fun c229 => ?_)
          · have q230 : ¬ x221.toInt = 47 := ti_ne c229
            refine lv_iconst (v := 1) hx hb dX12_term_75 (by decide) ?_
            have q231 : nx.toInt ≤ x225.toInt ∧ x225.toInt ≤ tp.toInt := by
              have := (h_le).1; have := (h_le).2; have := (h_md).1; have := (h_md).2; have := (h_nx).1; have := (h_nx).2; have := (h_tp).1; have := (h_tp).2; have := (h_tx).1; have := (h_tx).2; have := (h13).1; have := (h13).2; have := (h20).1; have := (h20).2; have := (h_x221).1; have := (h_x221).2; have := (h224).1; have := (h224).2; have := (h_x34).1; have := (h_x34).2; have := (h_x36).1; have := (h_x36).2; have := (h_x38).1; have := (h_x38).2; have := (h_x49).1; have := (h_x49).2; have := (h52).1; have := (h52).2; omega
            have k232 : M218 lg tx.toNatClampNeg = x38 := ((Fr.kpa f215 hk_lg rfl tx.toNatClampNeg).trans (Fr.kpa f43 hk_lg rfl tx.toNatClampNeg)).trans k39
            have k233 : M218 a0 17 = x36 := ((Fr.kp (k := 17) f215 hk_a0 rfl).trans (Fr.kp (k := 17) f43 hk_a0 rfl)).trans k37
            have q234 : le.toInt ≤ x38.toInt ∧ x38.toInt - le.toInt ≤ x225.toInt - nx.toInt ∧ ((sh + 1 : Nat) : Int) ≤ x36.toInt := by
              have := (h_le).1; have := (h_le).2; have := (h_md).1; have := (h_md).2; have := (h_nx).1; have := (h_nx).2; have := (h_tp).1; have := (h_tp).2; have := (h_tx).1; have := (h_tx).2; have := (h13).1; have := (h13).2; have := (h20).1; have := (h20).2; have := (h_x221).1; have := (h_x221).2; have := (h224).1; have := (h224).2; have := (h_x34).1; have := (h_x34).2; have := (h_x36).1; have := (h_x36).2; have := (h_x38).1; have := (h_x38).2; have := (h_x49).1; have := (h_x49).2; have := (h52).1; have := (h52).2; omega
            exact tw_endz hx hb hr hlocks hK hT hS hQ rfl (⟨(iv_mono (iv_c (c := 1) (n := 1) (by decide)) (by decide) (by decide)), ⟨(fun j hj => (Fr.kpa f215 hk_sg rfl j).trans ((fun j hj => (Fr.kpa f43 hk_sg rfl j).trans (w3_29 j hj)) j hj)), ⟨x225, k223, h224, q231.1, q231.2⟩, fun _ => ⟨x225, x38, x36, k223, k232, k233, h_x38, q234.1, q234.2.1, q234.2.2, (SEG.to (SEG.to w2_29 (fun j _ _ => Fr.kpa f43 hk_sg rfl j)) (fun j _ _ => Fr.kpa f215 hk_sg rfl j))⟩⟩⟩) dX12_term_76
          · have q235 : x221.toInt = 47 := ti_eq c229
            have h236 : iv 47 47 x221 := ⟨by have := (h_x221).1; have := ((iv_c (c := 47) (n := 47) (by decide))).1; omega, by have := (h_x221).2; have := ((iv_c (c := 47) (n := 47) (by decide))).2; omega⟩
            refine lv_aload_n hx hb dX12_term_27 rfl (lv_at hl 0 rfl) ?_
            have k237 : R30 a0 0 = some tb := (Fr.kp (k := 0) g33 hk_a0 rfl).trans k_tb
            refine tw_getrk hx hb hW hown hK hS f_X12_7_11 hz_a0 hk_a0 (b := tb) k237 dX12_term_28 ?_
            refine lv_aload_n hx hb dX12_term_31 rfl (lv_at hl 0 rfl) ?_
            refine tw_getk hx hb hW hown hK hS f_X12_127_11 hz_a0 hk_a0 (v := x225) k223 dX12_term_32 ?_
            have h238 : iv 0 399 x225 := by
              have := (h_le).1; have := (h_le).2; have := (h_md).1; have := (h_md).2; have := (h_nx).1; have := (h_nx).2; have := (h_tp).1; have := (h_tp).2; have := (h_tx).1; have := (h_tx).2; have := (h13).1; have := (h13).2; have := (h20).1; have := (h20).2; have := (h236).1; have := (h236).2; have := (h224).1; have := (h224).2; have := (h_x34).1; have := (h_x34).2; have := (h_x36).1; have := (h_x36).2; have := (h_x38).1; have := (h_x38).2; have := (h_x49).1; have := (h_x49).2; have := (h52).1; have := (h52).2; exact ⟨by omega, by omega⟩
            refine tw_bald hx hb hK hS hz_tb hk_tb hn_tb h238 ⟨by decide, by decide⟩ dX12_term_35 (fun x241 k240 => ?_)
            have h239 := iv_any x241
            refine lv_bipush (v := 42) hx hb dX12_term_36 (by decide) ?_
            refine lv_icmp_ne (tgt := 45) hx hb dX12_term_38 (by decide) (fun c242 => ?_) (fun c242 => ?_)
            · have q243 : ¬ x241.toInt = 42 := ti_ne c242
              refine lv_iconst (v := 5) hx hb dX12_term_45 (by decide) ?_
              refine lv_istore_n (lv' := [(1, .int 5), (0, .ref (base + a0))]) hx hb dX12_term_46 rfl hl (by decide) rfl (fun ls hl => ?_)
              refine lv_aload_n hx hb dX12_term_47 rfl (lv_at hl 1 rfl) ?_
              refine lv_dup hx hb dX12_term_48 rfl ?_
              refine tw_getk hx hb hW hown hK hS f_X12_127_11 hz_a0 hk_a0 (v := x225) k223 dX12_term_49 ?_
              refine lv_iconst (v := 1) hx hb dX12_term_52 (by decide) ?_
              refine tw_iadd (lo := 1) (hi := 400) hx hb h238 (iv_c (c := 1) (n := 1) (by decide)) ⟨by decide, by decide⟩ ⟨by decide, by decide⟩ dX12_term_53 (fun x246 e245 h244 => ?_)
              have e245 : x246.toInt = x225.toInt + 1 := e245
              refine tw_puti hx hb hW hown hK hS f_X12_127_11 hz_a0 hk_a0 rfl rfl (lo := 0) (hi := 400) rfl (iv_mono h244 (by decide) (by decide)) rfl dX12_term_54 (fun H locs M249 hS k247 f248 => ?_)
              refine lv_aload_n hx hb dX12_term_57 rfl (lv_at hl 1 rfl) ?_
              have k250 : R30 a0 0 = some tb := (Fr.kp (k := 0) g33 hk_a0 rfl).trans k_tb
              have k251 : M249 a0 1 = tp := ((Fr.kp (k := 1) f248 hk_a0 rfl).trans ((Fr.kp (k := 1) f215 hk_a0 rfl).trans ((Fr.kp (k := 1) f43 hk_a0 rfl).trans (Fr.kp (k := 1) f32 hk_a0 rfl)))).trans k_tp
              have q252 : x246.toInt ≤ tp.toInt := by
                have := (h_le).1; have := (h_le).2; have := (h_md).1; have := (h_md).2; have := (h_nx).1; have := (h_nx).2; have := (h_tp).1; have := (h_tp).2; have := (h_tx).1; have := (h_tx).2; have := (h13).1; have := (h13).2; have := (h20).1; have := (h20).2; have := (h236).1; have := (h236).2; have := (h238).1; have := (h238).2; have := (h244).1; have := (h244).2; have := (h_x34).1; have := (h_x34).2; have := (h_x36).1; have := (h_x36).2; have := (h_x38).1; have := (h_x38).2; have := (h_x49).1; have := (h_x49).2; have := (h52).1; have := (h52).2; omega
              have k253 : R30 a0 4 = some lg := (Fr.kp (k := 4) g33 hk_a0 rfl).trans k_lg
              have k254 : R30 a0 3 = some sg := (Fr.kp (k := 3) g33 hk_a0 rfl).trans k_sg
              have k255 : M249 a0 16 = tx := ((Fr.kp (k := 16) f248 hk_a0 rfl).trans ((Fr.kp (k := 16) f215 hk_a0 rfl).trans ((Fr.kp (k := 16) f43 hk_a0 rfl).trans (Fr.kp (k := 16) f32 hk_a0 rfl)))).trans k_tx
              have k256 : M249 lg tx.toNatClampNeg = x38 := ((Fr.kpa f248 hk_lg rfl tx.toNatClampNeg).trans ((Fr.kpa f215 hk_lg rfl tx.toNatClampNeg).trans (Fr.kpa f43 hk_lg rfl tx.toNatClampNeg))).trans k39
              have k257 : M249 a0 17 = x36 := ((Fr.kp (k := 17) f248 hk_a0 rfl).trans ((Fr.kp (k := 17) f215 hk_a0 rfl).trans (Fr.kp (k := 17) f43 hk_a0 rfl))).trans k37
              have q258 : ((sb : Nat) : Int) ≤ x38.toInt := by
                have := (h_le).1; have := (h_le).2; have := (h_md).1; have := (h_md).2; have := (h_nx).1; have := (h_nx).2; have := (h_tp).1; have := (h_tp).2; have := (h_tx).1; have := (h_tx).2; have := (h13).1; have := (h13).2; have := (h20).1; have := (h20).2; have := (h238).1; have := (h238).2; have := (h_x34).1; have := (h_x34).2; have := (h_x36).1; have := (h_x36).2; have := (h_x38).1; have := (h_x38).2; have := (h52).1; have := (h52).2; omega
              have q259 : ((sh + 1 : Nat) : Int) ≤ x36.toInt := by
                have := (h_le).1; have := (h_le).2; have := (h_md).1; have := (h_md).2; have := (h_nx).1; have := (h_nx).2; have := (h_tp).1; have := (h_tp).2; have := (h_tx).1; have := (h_tx).2; have := (h13).1; have := (h13).2; have := (h20).1; have := (h20).2; have := (h238).1; have := (h238).2; have := (h_x34).1; have := (h_x34).2; have := (h_x36).1; have := (h_x36).2; have := (h_x38).1; have := (h_x38).2; have := (h52).1; have := (h52).2; omega
              have q260 : x38.toInt ≤ x246.toInt := by
                have := (h_le).1; have := (h_le).2; have := (h_md).1; have := (h_md).2; have := (h_nx).1; have := (h_nx).2; have := (h_tp).1; have := (h_tp).2; have := (h_tx).1; have := (h_tx).2; have := (h13).1; have := (h13).2; have := (h20).1; have := (h20).2; have := (h236).1; have := (h236).2; have := (h238).1; have := (h238).2; have := (h244).1; have := (h244).2; have := (h_x34).1; have := (h_x34).2; have := (h_x36).1; have := (h_x36).2; have := (h_x38).1; have := (h_x38).2; have := (h_x49).1; have := (h_x49).2; have := (h52).1; have := (h52).2; omega
              refine tw_goi hS (md_runV (As := []) (rest := []) hx hb hml hown hW hK hT hS.1 (t_X12_value l D cy tx base Z K N M249 R30 J217 hS.2.1 a0 hz_a0 hk_a0 tb k250 x246 k247 (iv_mono h244 (by decide) (by decide)) tp k251 (iv_mono h_tp (by decide) (by decide)) q252 lg k253 sg k254 tx k255 (iv_mono h_tx (by decide) (by decide)) x38 k256 (iv_mono h_x38 (by decide) (by decide)) x36 k257 (iv_mono h_x36 (by decide) (by decide)) (sb) (sh + 1) (SEG.to (SEG.to (SEG.to w2_29 (fun j _ _ => Fr.kpa f43 hk_sg rfl j)) (fun j _ _ => Fr.kpa f215 hk_sg rfl j)) (fun j _ _ => Fr.kpa f248 hk_sg rfl j)) q258 q259 q260) s_X12_209 ⟨rfl, rfl, ⟨Nat.le_of_ble_eq_true rfl, Nat.le_of_ble_eq_true rfl⟩, ⟨Nat.le_of_ble_eq_true rfl, Nat.le_of_ble_eq_true rfl⟩⟩ hz_a0 hk_a0 (by decide) rfl rfl hl.1 rfl (Nat.le_of_ble_eq_true rfl) dX12_term_58) rfl rfl (fun x267 H locs M264 R265 J263 hS f261 g262 E266 => ?_)
              have eR265 := Fr.nil g262 rfl
              subst eR265
              obtain ⟨h_x267, p268⟩ := E266
              obtain ⟨zf268, ⟨x270, k271, h269, zu268, zv268⟩, zc268⟩ := p268
              have k271 : M264 a0 13 = x270 := k271
              have zw268 := ti_cl (x := le) (by have := h_le.1; omega); have zy268 := ti_cl (x := x38) (by have := (h_x38).1; omega)
              have z272 : ∀ j, j < 400 * tx.toNatClampNeg + le.toNatClampNeg → M264 sg j = Ma sg j := fun j hj => (zf268 j (by omega)).trans ((fun j hj => (Fr.kpa f248 hk_sg rfl j).trans ((fun j hj => (Fr.kpa f215 hk_sg rfl j).trans ((fun j hj => (Fr.kpa f43 hk_sg rfl j).trans (w3_29 j hj)) j hj)) j hj)) j hj)
              refine lv_if_ne (tgt := 66) hx hb dX12_term_61 (by decide) (fun c273 => ?_) (fun c273 => ?_)
              · have q274 : ¬ x267.toInt = 0 := ti_ne c273
                have h275 : iv 1 1 x267 := ⟨by have := (h_x267).1; have := ((iv_c (c := 0) (n := 0) (by decide))).1; have := ((iv_c (c := 0) (n := 0) (by decide))).2; omega, by have := (h_x267).2; have := ((iv_c (c := 0) (n := 0) (by decide))).1; have := ((iv_c (c := 0) (n := 0) (by decide))).2; omega⟩
                obtain ⟨x282, x278, x279, k283, k280, k281, h276, za275, zb275, zd275, z284⟩ := zc268 c273
                have ze275 : x282 = x270 := k283.symm.trans k271
                rw [ze275] at zb275
                have k280 : M264 lg tx.toNatClampNeg = x278 := k280
                have k281 : M264 a0 17 = x279 := k281
                have h277 : iv 0 60 x279 := by rw [← k281]; exact hS.2.1.int hz_a0 hk_a0 (show rgI 12 17 = (0, 60) from rfl)
                have z285 : SEG M264 sg tx.toNatClampNeg sb x278.toNatClampNeg (sh + 2) := SEG.cast z284 rfl (by omega)
                refine lv_aload_n hx hb dX12_term_66 rfl (lv_at hl 1 rfl) ?_
                refine lv_iload_n hx hb dX12_term_67 rfl (lv_at hl 0 rfl) ?_
                refine lv_iconst (v := 0) hx hb dX12_term_68 (by decide) ?_
                have k286 : R30 a0 3 = some sg := (Fr.kp (k := 3) g33 hk_a0 rfl).trans k_sg
                have k287 : R30 a0 4 = some lg := (Fr.kp (k := 4) g33 hk_a0 rfl).trans k_lg
                have k288 : M264 a0 16 = tx := ((Fr.kp (k := 16) f261 hk_a0 rfl).trans ((Fr.kp (k := 16) f248 hk_a0 rfl).trans ((Fr.kp (k := 16) f215 hk_a0 rfl).trans ((Fr.kp (k := 16) f43 hk_a0 rfl).trans (Fr.kp (k := 16) f32 hk_a0 rfl))))).trans k_tx
                have h289 : iv 0 399 x278 := by
                  have := (h_le).1; have := (h_le).2; have := (h_md).1; have := (h_md).2; have := (h_nx).1; have := (h_nx).2; have := (h_tp).1; have := (h_tp).2; have := (h_tx).1; have := (h_tx).2; have := (h13).1; have := (h13).2; have := (h20).1; have := (h20).2; have := (h236).1; have := (h236).2; have := (h238).1; have := (h238).2; have := (h244).1; have := (h244).2; have := (h269).1; have := (h269).2; have := (h276).1; have := (h276).2; have := (h_x34).1; have := (h_x34).2; have := (h_x36).1; have := (h_x36).2; have := (h_x38).1; have := (h_x38).2; have := (h_x49).1; have := (h_x49).2; have := (h52).1; have := (h52).2; exact ⟨by omega, by omega⟩
                refine tw_gov hS (md_runV (As := [.int 5, .int 0]) (rest := []) hx hb hml hown hW hK hT hS.1 (t_X12_puts l D cy tx base Z K N M264 R30 J263 hS.2.1 a0 hz_a0 hk_a0 5 (iv_mono (iv_c (c := 5) (n := 5) (by decide)) (by decide) (by decide)) 0 (iv_mono (iv_c (c := 0) (n := 0) (by decide)) (by decide) (by decide)) sg k286 lg k287 tx k288 (iv_mono h_tx (by decide) (by decide)) x278 k280 h289) s_X12_195 ⟨rfl, rfl, ⟨Nat.le_of_ble_eq_true rfl, Nat.le_of_ble_eq_true rfl⟩, ⟨Nat.le_of_ble_eq_true rfl, Nat.le_of_ble_eq_true rfl⟩⟩ hz_a0 hk_a0 (by decide) rfl rfl hl.1 rfl (Nat.le_of_ble_eq_true rfl) dX12_term_69) rfl rfl (fun H locs M293 R294 J292 hS f290 g291 E295 => ?_)
                have eR294 := Fr.nil g291 rfl
                subst eR294
                have p296 := E295
                obtain ⟨x297, x299, zc296, zd296, zo296, k300, h298, zl296⟩ := p296
                have k300 : M293 lg tx.toNatClampNeg = x299 := k300
                have zt296 := ti_cl (x := tx) (by have := h_tx.1; omega); have zn296 := ti_cl (x := x278) (by have := (h276).1; omega); have zm296 := ti_cl (x := x299) (by have := (h298).1; omega)
                have q301 : (5 : Int32).toInt = 5 := (by decide)
                have q302 : (0 : Int32).toInt = 0 := (by decide)
                have k303 : M293 a0 17 = x279 := (Fr.kp (k := 17) f290 hk_a0 rfl).trans k281
                have zs296 := stp_two (h := sh + 2) (show x297.toInt = (5 : Int32).toInt + 16 * 0 by omega) (by have := ((iv_c (c := 5) (n := 5) (by decide))).1; have := ((iv_c (c := 5) (n := 5) (by decide))).2; have := ((iv_c (c := 0) (n := 0) (by decide))).1; have := ((iv_c (c := 0) (n := 0) (by decide))).2; omega) (by omega)
                have z304 : SEG M293 sg tx.toNatClampNeg sb x299.toNatClampNeg (sh + 1) := SEG.cast (SEG.ext z285 (by omega) zd296 zo296 zs296) (by omega) (by omega)
                have zw296 := ti_cl (x := le) (by have := h_le.1; omega)
                have z305 : ∀ j, j < 400 * tx.toNatClampNeg + le.toNatClampNeg → M293 sg j = Ma sg j := fun j hj => (zo296 j (by omega)).trans (z272 j hj)
                refine lv_goto (tgt := 9) hx hb dX12_term_72 (by decide) ?_
                have k306 : M293 a0 13 = x270 := (Fr.kp (k := 13) f290 hk_a0 rfl).trans k271
                have w307 : nx.toInt ≤ x270.toInt ∧ x270.toInt ≤ tp.toInt := by
                  have := (h_le).1; have := (h_le).2; have := (h_md).1; have := (h_md).2; have := (h_nx).1; have := (h_nx).2; have := (h_tp).1; have := (h_tp).2; have := (h_tx).1; have := (h_tx).2; have := (h13).1; have := (h13).2; have := (h20).1; have := (h20).2; have := (h236).1; have := (h236).2; have := (h238).1; have := (h238).2; have := (h244).1; have := (h244).2; have := (h269).1; have := (h269).2; have := (h276).1; have := (h276).2; have := (h298).1; have := (h298).2; have := (h_x34).1; have := (h_x34).2; have := (h_x36).1; have := (h_x36).2; have := (h_x38).1; have := (h_x38).2; have := (h_x49).1; have := (h_x49).2; have := (h52).1; have := (h52).2; omega
                have w308 : le.toInt ≤ x299.toInt ∧ x299.toInt - le.toInt ≤ x270.toInt - nx.toInt ∧ ((sh + 1 : Nat) : Int) ≤ x279.toInt := by
                  have := (h_le).1; have := (h_le).2; have := (h_md).1; have := (h_md).2; have := (h_nx).1; have := (h_nx).2; have := (h_tp).1; have := (h_tp).2; have := (h_tx).1; have := (h_tx).2; have := (h13).1; have := (h13).2; have := (h20).1; have := (h20).2; have := (h236).1; have := (h236).2; have := (h238).1; have := (h238).2; have := (h244).1; have := (h244).2; have := (h269).1; have := (h269).2; have := (h276).1; have := (h276).2; have := (h277).1; have := (h277).2; have := (h298).1; have := (h298).2; have := (h_x34).1; have := (h_x34).2; have := (h_x36).1; have := (h_x36).2; have := (h_x38).1; have := (h_x38).2; have := (h_x49).1; have := (h_x49).2; have := (h52).1; have := (h52).2; omega
                have w309 : SEG M293 sg tx.toNatClampNeg sb x299.toNatClampNeg (sh + 1) := z304
                have w310 : ∀ j, j < 400 * tx.toNatClampNeg + le.toNatClampNeg → M293 sg j = Ma sg j := z305
                have hm311 : 400 - x270.toInt < (n_29 : Int) := by
                  have := (h_le).1; have := (h_le).2; have := (h_md).1; have := (h_md).2; have := (h_nx).1; have := (h_nx).2; have := (h_tp).1; have := (h_tp).2; have := (h_tx).1; have := (h_tx).2; have := (h13).1; have := (h13).2; have := (h20).1; have := (h20).2; have := (h236).1; have := (h236).2; have := (h238).1; have := (h238).2; have := (h244).1; have := (h244).2; have := (h269).1; have := (h269).2; have := (h276).1; have := (h276).2; have := (h298).1; have := (h298).2; have := (h_x34).1; have := (h_x34).2; have := (h_x36).1; have := (h_x36).2; have := (h_x38).1; have := (h_x38).2; have := (h_x49).1; have := (h_x49).2; have := (h52).1; have := (h52).2; omega
                exact ih_29 x270 x279 x299 M293 R30 J292 H locs _ h269 k306 h277 k303 (iv_mono h298 (by decide) (by decide)) k300 w307 w308 w309 w310 hm311 hS (lv_sub hl [1] rfl)
              · have q312 : x267.toInt = 0 := ti_eq c273
                have h313 : iv 0 0 x267 := ⟨by have := (h_x267).1; have := ((iv_c (c := 0) (n := 0) (by decide))).1; omega, by have := (h_x267).2; have := ((iv_c (c := 0) (n := 0) (by decide))).2; omega⟩
                refine lv_iconst (v := 0) hx hb dX12_term_64 (by decide) ?_
                have q314 : nx.toInt ≤ x270.toInt ∧ x270.toInt ≤ tp.toInt := by
                  have := (h_le).1; have := (h_le).2; have := (h_md).1; have := (h_md).2; have := (h_nx).1; have := (h_nx).2; have := (h_tp).1; have := (h_tp).2; have := (h_tx).1; have := (h_tx).2; have := (h13).1; have := (h13).2; have := (h20).1; have := (h20).2; have := (h236).1; have := (h236).2; have := (h238).1; have := (h238).2; have := (h244).1; have := (h244).2; have := (h269).1; have := (h269).2; have := (h_x34).1; have := (h_x34).2; have := (h_x36).1; have := (h_x36).2; have := (h_x38).1; have := (h_x38).2; have := (h_x49).1; have := (h_x49).2; have := (h52).1; have := (h52).2; omega
                exact tw_endz hx hb hr hlocks hK hT hS hQ rfl (⟨(iv_mono (iv_c (c := 0) (n := 0) (by decide)) (by decide) (by decide)), ⟨z272, ⟨x270, k271, h269, q314.1, q314.2⟩, (fun h => absurd rfl h)⟩⟩) dX12_term_65
            · have q315 : x241.toInt = 42 := ti_eq c242
              have h316 : iv 42 42 x241 := ⟨by have := (h239).1; have := ((iv_c (c := 42) (n := 42) (by decide))).1; omega, by have := (h239).2; have := ((iv_c (c := 42) (n := 42) (by decide))).2; omega⟩
              refine lv_iconst (v := 4) hx hb dX12_term_41 (by decide) ?_
              refine lv_goto (tgt := 46) hx hb dX12_term_42 (by decide) ?_
              refine lv_istore_n (lv' := [(1, .int 4), (0, .ref (base + a0))]) hx hb dX12_term_46 rfl hl (by decide) rfl (fun ls hl => ?_)
              refine lv_aload_n hx hb dX12_term_47 rfl (lv_at hl 1 rfl) ?_
              refine lv_dup hx hb dX12_term_48 rfl ?_
              refine tw_getk hx hb hW hown hK hS f_X12_127_11 hz_a0 hk_a0 (v := x225) k223 dX12_term_49 ?_
              refine lv_iconst (v := 1) hx hb dX12_term_52 (by decide) ?_
              refine tw_iadd (lo := 1) (hi := 400) hx hb h238 (iv_c (c := 1) (n := 1) (by decide)) ⟨by decide, by decide⟩ ⟨by decide, by decide⟩ dX12_term_53 (fun x319 e318 h317 => ?_)
              have e318 : x319.toInt = x225.toInt + 1 := e318
              refine tw_puti hx hb hW hown hK hS f_X12_127_11 hz_a0 hk_a0 rfl rfl (lo := 0) (hi := 400) rfl (iv_mono h317 (by decide) (by decide)) rfl dX12_term_54 (fun H locs M322 hS k320 f321 => ?_)
              refine lv_aload_n hx hb dX12_term_57 rfl (lv_at hl 1 rfl) ?_
              have k323 : R30 a0 0 = some tb := (Fr.kp (k := 0) g33 hk_a0 rfl).trans k_tb
              have k324 : M322 a0 1 = tp := ((Fr.kp (k := 1) f321 hk_a0 rfl).trans ((Fr.kp (k := 1) f215 hk_a0 rfl).trans ((Fr.kp (k := 1) f43 hk_a0 rfl).trans (Fr.kp (k := 1) f32 hk_a0 rfl)))).trans k_tp
              have q325 : x319.toInt ≤ tp.toInt := by
                have := (h_le).1; have := (h_le).2; have := (h_md).1; have := (h_md).2; have := (h_nx).1; have := (h_nx).2; have := (h_tp).1; have := (h_tp).2; have := (h_tx).1; have := (h_tx).2; have := (h13).1; have := (h13).2; have := (h20).1; have := (h20).2; have := (h236).1; have := (h236).2; have := (h238).1; have := (h238).2; have := (h317).1; have := (h317).2; have := (h_x34).1; have := (h_x34).2; have := (h_x36).1; have := (h_x36).2; have := (h_x38).1; have := (h_x38).2; have := (h_x49).1; have := (h_x49).2; have := (h52).1; have := (h52).2; omega
              have k326 : R30 a0 4 = some lg := (Fr.kp (k := 4) g33 hk_a0 rfl).trans k_lg
              have k327 : R30 a0 3 = some sg := (Fr.kp (k := 3) g33 hk_a0 rfl).trans k_sg
              have k328 : M322 a0 16 = tx := ((Fr.kp (k := 16) f321 hk_a0 rfl).trans ((Fr.kp (k := 16) f215 hk_a0 rfl).trans ((Fr.kp (k := 16) f43 hk_a0 rfl).trans (Fr.kp (k := 16) f32 hk_a0 rfl)))).trans k_tx
              have k329 : M322 lg tx.toNatClampNeg = x38 := ((Fr.kpa f321 hk_lg rfl tx.toNatClampNeg).trans ((Fr.kpa f215 hk_lg rfl tx.toNatClampNeg).trans (Fr.kpa f43 hk_lg rfl tx.toNatClampNeg))).trans k39
              have k330 : M322 a0 17 = x36 := ((Fr.kp (k := 17) f321 hk_a0 rfl).trans ((Fr.kp (k := 17) f215 hk_a0 rfl).trans (Fr.kp (k := 17) f43 hk_a0 rfl))).trans k37
              have q331 : ((sb : Nat) : Int) ≤ x38.toInt := by
                have := (h_le).1; have := (h_le).2; have := (h_md).1; have := (h_md).2; have := (h_nx).1; have := (h_nx).2; have := (h_tp).1; have := (h_tp).2; have := (h_tx).1; have := (h_tx).2; have := (h13).1; have := (h13).2; have := (h20).1; have := (h20).2; have := (h238).1; have := (h238).2; have := (h_x34).1; have := (h_x34).2; have := (h_x36).1; have := (h_x36).2; have := (h_x38).1; have := (h_x38).2; have := (h52).1; have := (h52).2; omega
              have q332 : ((sh + 1 : Nat) : Int) ≤ x36.toInt := by
                have := (h_le).1; have := (h_le).2; have := (h_md).1; have := (h_md).2; have := (h_nx).1; have := (h_nx).2; have := (h_tp).1; have := (h_tp).2; have := (h_tx).1; have := (h_tx).2; have := (h13).1; have := (h13).2; have := (h20).1; have := (h20).2; have := (h238).1; have := (h238).2; have := (h_x34).1; have := (h_x34).2; have := (h_x36).1; have := (h_x36).2; have := (h_x38).1; have := (h_x38).2; have := (h52).1; have := (h52).2; omega
              have q333 : x38.toInt ≤ x319.toInt := by
                have := (h_le).1; have := (h_le).2; have := (h_md).1; have := (h_md).2; have := (h_nx).1; have := (h_nx).2; have := (h_tp).1; have := (h_tp).2; have := (h_tx).1; have := (h_tx).2; have := (h13).1; have := (h13).2; have := (h20).1; have := (h20).2; have := (h236).1; have := (h236).2; have := (h238).1; have := (h238).2; have := (h317).1; have := (h317).2; have := (h_x34).1; have := (h_x34).2; have := (h_x36).1; have := (h_x36).2; have := (h_x38).1; have := (h_x38).2; have := (h_x49).1; have := (h_x49).2; have := (h52).1; have := (h52).2; omega
              refine tw_goi hS (md_runV (As := []) (rest := []) hx hb hml hown hW hK hT hS.1 (t_X12_value l D cy tx base Z K N M322 R30 J217 hS.2.1 a0 hz_a0 hk_a0 tb k323 x319 k320 (iv_mono h317 (by decide) (by decide)) tp k324 (iv_mono h_tp (by decide) (by decide)) q325 lg k326 sg k327 tx k328 (iv_mono h_tx (by decide) (by decide)) x38 k329 (iv_mono h_x38 (by decide) (by decide)) x36 k330 (iv_mono h_x36 (by decide) (by decide)) (sb) (sh + 1) (SEG.to (SEG.to (SEG.to w2_29 (fun j _ _ => Fr.kpa f43 hk_sg rfl j)) (fun j _ _ => Fr.kpa f215 hk_sg rfl j)) (fun j _ _ => Fr.kpa f321 hk_sg rfl j)) q331 q332 q333) s_X12_209 ⟨rfl, rfl, ⟨Nat.le_of_ble_eq_true rfl, Nat.le_of_ble_eq_true rfl⟩, ⟨Nat.le_of_ble_eq_true rfl, Nat.le_of_ble_eq_true rfl⟩⟩ hz_a0 hk_a0 (by decide) rfl rfl hl.1 rfl (Nat.le_of_ble_eq_true rfl) dX12_term_58) rfl rfl (fun x340 H locs M337 R338 J336 hS f334 g335 E339 => ?_)
              have eR338 := Fr.nil g335 rfl
              subst eR338
              obtain ⟨h_x340, p341⟩ := E339
              obtain ⟨zf341, ⟨x343, k344, h342, zu341, zv341⟩, zc341⟩ := p341
              have k344 : M337 a0 13 = x343 := k344
              have zw341 := ti_cl (x := le) (by have := h_le.1; omega); have zy341 := ti_cl (x := x38) (by have := (h_x38).1; omega)
              have z345 : ∀ j, j < 400 * tx.toNatClampNeg + le.toNatClampNeg → M337 sg j = Ma sg j := fun j hj => (zf341 j (by omega)).trans ((fun j hj => (Fr.kpa f321 hk_sg rfl j).trans ((fun j hj => (Fr.kpa f215 hk_sg rfl j).trans ((fun j hj => (Fr.kpa f43 hk_sg rfl j).trans (w3_29 j hj)) j hj)) j hj)) j hj)
              refine lv_if_ne (tgt := 66) hx hb dX12_term_61 (by decide) (fun c346 => ?_) (fun c346 => ?_)
              · have q347 : ¬ x340.toInt = 0 := ti_ne c346
                have h348 : iv 1 1 x340 := ⟨by have := (h_x340).1; have := ((iv_c (c := 0) (n := 0) (by decide))).1; have := ((iv_c (c := 0) (n := 0) (by decide))).2; omega, by have := (h_x340).2; have := ((iv_c (c := 0) (n := 0) (by decide))).1; have := ((iv_c (c := 0) (n := 0) (by decide))).2; omega⟩
                obtain ⟨x355, x351, x352, k356, k353, k354, h349, za348, zb348, zd348, z357⟩ := zc341 c346
                have ze348 : x355 = x343 := k356.symm.trans k344
                rw [ze348] at zb348
                have k353 : M337 lg tx.toNatClampNeg = x351 := k353
                have k354 : M337 a0 17 = x352 := k354
                have h350 : iv 0 60 x352 := by rw [← k354]; exact hS.2.1.int hz_a0 hk_a0 (show rgI 12 17 = (0, 60) from rfl)
                have z358 : SEG M337 sg tx.toNatClampNeg sb x351.toNatClampNeg (sh + 2) := SEG.cast z357 rfl (by omega)
                refine lv_aload_n hx hb dX12_term_66 rfl (lv_at hl 1 rfl) ?_
                refine lv_iload_n hx hb dX12_term_67 rfl (lv_at hl 0 rfl) ?_
                refine lv_iconst (v := 0) hx hb dX12_term_68 (by decide) ?_
                have k359 : R30 a0 3 = some sg := (Fr.kp (k := 3) g33 hk_a0 rfl).trans k_sg
                have k360 : R30 a0 4 = some lg := (Fr.kp (k := 4) g33 hk_a0 rfl).trans k_lg
                have k361 : M337 a0 16 = tx := ((Fr.kp (k := 16) f334 hk_a0 rfl).trans ((Fr.kp (k := 16) f321 hk_a0 rfl).trans ((Fr.kp (k := 16) f215 hk_a0 rfl).trans ((Fr.kp (k := 16) f43 hk_a0 rfl).trans (Fr.kp (k := 16) f32 hk_a0 rfl))))).trans k_tx
                have h362 : iv 0 399 x351 := by
                  have := (h_le).1; have := (h_le).2; have := (h_md).1; have := (h_md).2; have := (h_nx).1; have := (h_nx).2; have := (h_tp).1; have := (h_tp).2; have := (h_tx).1; have := (h_tx).2; have := (h13).1; have := (h13).2; have := (h20).1; have := (h20).2; have := (h236).1; have := (h236).2; have := (h238).1; have := (h238).2; have := (h317).1; have := (h317).2; have := (h_x34).1; have := (h_x34).2; have := (h342).1; have := (h342).2; have := (h349).1; have := (h349).2; have := (h_x36).1; have := (h_x36).2; have := (h_x38).1; have := (h_x38).2; have := (h_x49).1; have := (h_x49).2; have := (h52).1; have := (h52).2; exact ⟨by omega, by omega⟩
                refine tw_gov hS (md_runV (As := [.int 4, .int 0]) (rest := []) hx hb hml hown hW hK hT hS.1 (t_X12_puts l D cy tx base Z K N M337 R30 J336 hS.2.1 a0 hz_a0 hk_a0 4 (iv_mono (iv_c (c := 4) (n := 4) (by decide)) (by decide) (by decide)) 0 (iv_mono (iv_c (c := 0) (n := 0) (by decide)) (by decide) (by decide)) sg k359 lg k360 tx k361 (iv_mono h_tx (by decide) (by decide)) x351 k353 h362) s_X12_195 ⟨rfl, rfl, ⟨Nat.le_of_ble_eq_true rfl, Nat.le_of_ble_eq_true rfl⟩, ⟨Nat.le_of_ble_eq_true rfl, Nat.le_of_ble_eq_true rfl⟩⟩ hz_a0 hk_a0 (by decide) rfl rfl hl.1 rfl (Nat.le_of_ble_eq_true rfl) dX12_term_69) rfl rfl (fun H locs M366 R367 J365 hS f363 g364 E368 => ?_)
                have eR367 := Fr.nil g364 rfl
                subst eR367
                have p369 := E368
                obtain ⟨x370, x372, zc369, zd369, zo369, k373, h371, zl369⟩ := p369
                have k373 : M366 lg tx.toNatClampNeg = x372 := k373
                have zt369 := ti_cl (x := tx) (by have := h_tx.1; omega); have zn369 := ti_cl (x := x351) (by have := (h349).1; omega); have zm369 := ti_cl (x := x372) (by have := (h371).1; omega)
                have q374 : (4 : Int32).toInt = 4 := (by decide)
                have q375 : (0 : Int32).toInt = 0 := (by decide)
                have k376 : M366 a0 17 = x352 := (Fr.kp (k := 17) f363 hk_a0 rfl).trans k354
                have zs369 := stp_two (h := sh + 2) (show x370.toInt = (4 : Int32).toInt + 16 * 0 by omega) (by have := ((iv_c (c := 4) (n := 4) (by decide))).1; have := ((iv_c (c := 4) (n := 4) (by decide))).2; have := ((iv_c (c := 0) (n := 0) (by decide))).1; have := ((iv_c (c := 0) (n := 0) (by decide))).2; omega) (by omega)
                have z377 : SEG M366 sg tx.toNatClampNeg sb x372.toNatClampNeg (sh + 1) := SEG.cast (SEG.ext z358 (by omega) zd369 zo369 zs369) (by omega) (by omega)
                have zw369 := ti_cl (x := le) (by have := h_le.1; omega)
                have z378 : ∀ j, j < 400 * tx.toNatClampNeg + le.toNatClampNeg → M366 sg j = Ma sg j := fun j hj => (zo369 j (by omega)).trans (z345 j hj)
                refine lv_goto (tgt := 9) hx hb dX12_term_72 (by decide) ?_
                have k379 : M366 a0 13 = x343 := (Fr.kp (k := 13) f363 hk_a0 rfl).trans k344
                have w380 : nx.toInt ≤ x343.toInt ∧ x343.toInt ≤ tp.toInt := by
                  have := (h_le).1; have := (h_le).2; have := (h_md).1; have := (h_md).2; have := (h_nx).1; have := (h_nx).2; have := (h_tp).1; have := (h_tp).2; have := (h_tx).1; have := (h_tx).2; have := (h13).1; have := (h13).2; have := (h20).1; have := (h20).2; have := (h236).1; have := (h236).2; have := (h238).1; have := (h238).2; have := (h317).1; have := (h317).2; have := (h_x34).1; have := (h_x34).2; have := (h342).1; have := (h342).2; have := (h349).1; have := (h349).2; have := (h_x36).1; have := (h_x36).2; have := (h371).1; have := (h371).2; have := (h_x38).1; have := (h_x38).2; have := (h_x49).1; have := (h_x49).2; have := (h52).1; have := (h52).2; omega
                have w381 : le.toInt ≤ x372.toInt ∧ x372.toInt - le.toInt ≤ x343.toInt - nx.toInt ∧ ((sh + 1 : Nat) : Int) ≤ x352.toInt := by
                  have := (h_le).1; have := (h_le).2; have := (h_md).1; have := (h_md).2; have := (h_nx).1; have := (h_nx).2; have := (h_tp).1; have := (h_tp).2; have := (h_tx).1; have := (h_tx).2; have := (h13).1; have := (h13).2; have := (h20).1; have := (h20).2; have := (h236).1; have := (h236).2; have := (h238).1; have := (h238).2; have := (h317).1; have := (h317).2; have := (h_x34).1; have := (h_x34).2; have := (h342).1; have := (h342).2; have := (h349).1; have := (h349).2; have := (h350).1; have := (h350).2; have := (h_x36).1; have := (h_x36).2; have := (h371).1; have := (h371).2; have := (h_x38).1; have := (h_x38).2; have := (h_x49).1; have := (h_x49).2; have := (h52).1; have := (h52).2; omega
                have w382 : SEG M366 sg tx.toNatClampNeg sb x372.toNatClampNeg (sh + 1) := z377
                have w383 : ∀ j, j < 400 * tx.toNatClampNeg + le.toNatClampNeg → M366 sg j = Ma sg j := z378
                have hm384 : 400 - x343.toInt < (n_29 : Int) := by
                  have := (h_le).1; have := (h_le).2; have := (h_md).1; have := (h_md).2; have := (h_nx).1; have := (h_nx).2; have := (h_tp).1; have := (h_tp).2; have := (h_tx).1; have := (h_tx).2; have := (h13).1; have := (h13).2; have := (h20).1; have := (h20).2; have := (h236).1; have := (h236).2; have := (h238).1; have := (h238).2; have := (h317).1; have := (h317).2; have := (h_x34).1; have := (h_x34).2; have := (h342).1; have := (h342).2; have := (h349).1; have := (h349).2; have := (h_x36).1; have := (h_x36).2; have := (h371).1; have := (h371).2; have := (h_x38).1; have := (h_x38).2; have := (h_x49).1; have := (h_x49).2; have := (h52).1; have := (h52).2; omega
                exact ih_29 x343 x352 x372 M366 R30 J365 H locs _ h342 k379 h350 k376 (iv_mono h371 (by decide) (by decide)) k373 w380 w381 w382 w383 hm384 hS (lv_sub hl [1] rfl)
              · have q385 : x340.toInt = 0 := ti_eq c346
                have h386 : iv 0 0 x340 := ⟨by have := (h_x340).1; have := ((iv_c (c := 0) (n := 0) (by decide))).1; omega, by have := (h_x340).2; have := ((iv_c (c := 0) (n := 0) (by decide))).2; omega⟩
                refine lv_iconst (v := 0) hx hb dX12_term_64 (by decide) ?_
                have q387 : nx.toInt ≤ x343.toInt ∧ x343.toInt ≤ tp.toInt := by
                  have := (h_le).1; have := (h_le).2; have := (h_md).1; have := (h_md).2; have := (h_nx).1; have := (h_nx).2; have := (h_tp).1; have := (h_tp).2; have := (h_tx).1; have := (h_tx).2; have := (h13).1; have := (h13).2; have := (h20).1; have := (h20).2; have := (h236).1; have := (h236).2; have := (h238).1; have := (h238).2; have := (h317).1; have := (h317).2; have := (h_x34).1; have := (h_x34).2; have := (h342).1; have := (h342).2; have := (h_x36).1; have := (h_x36).2; have := (h_x38).1; have := (h_x38).2; have := (h_x49).1; have := (h_x49).2; have := (h52).1; have := (h52).2; omega
                exact tw_endz hx hb hr hlocks hK hT hS hQ rfl (⟨(iv_mono (iv_c (c := 0) (n := 0) (by decide)) (by decide) (by decide)), ⟨z345, ⟨x343, k344, h342, q387.1, q387.2⟩, (fun h => absurd rfl h)⟩⟩) dX12_term_65
    have w388 : nx.toInt ≤ x14.toInt ∧ x14.toInt ≤ tp.toInt := by
      have := (h_le).1; have := (h_le).2; have := (h_md).1; have := (h_md).2; have := (h_nx).1; have := (h_nx).2; have := (h_tp).1; have := (h_tp).2; have := (h_tx).1; have := (h_tx).2; have := (h13).1; have := (h13).2; have := (h20).1; have := (h20).2; omega
    have w389 : le.toInt ≤ x22.toInt ∧ x22.toInt - le.toInt ≤ x14.toInt - nx.toInt ∧ ((sh + 1 : Nat) : Int) ≤ x23.toInt := by
      have := (h_le).1; have := (h_le).2; have := (h_md).1; have := (h_md).2; have := (h_nx).1; have := (h_nx).2; have := (h_tp).1; have := (h_tp).2; have := (h_tx).1; have := (h_tx).2; have := (h13).1; have := (h13).2; have := (h20).1; have := (h20).2; have := (h21).1; have := (h21).2; omega
    have w390 : SEG M8 sg tx.toNatClampNeg sb x22.toNatClampNeg (sh + 1) := z28
    have w391 : ∀ j, j < 400 * tx.toNatClampNeg + le.toNatClampNeg → M8 sg j = Ma sg j := z16
    have hm392 : 400 - x14.toInt < (((401 : Nat) : Int) : Int) := by
      have := (h_le).1; have := (h_le).2; have := (h_md).1; have := (h_md).2; have := (h_nx).1; have := (h_nx).2; have := (h_tp).1; have := (h_tp).2; have := (h_tx).1; have := (h_tx).2; have := (h13).1; have := (h13).2; have := (h20).1; have := (h20).2; omega
    exact W9_29 401 x14 x23 x22 M8 Ra J7 H locs _ h13 k15 h21 k25 h20 k24 w388 w389 w390 w391 hm392 hS hl
  · have q393 : x11.toInt = 0 := ti_eq c17
    have h394 : iv 0 0 x11 := ⟨by have := (h_x11).1; have := ((iv_c (c := 0) (n := 0) (by decide))).1; omega, by have := (h_x11).2; have := ((iv_c (c := 0) (n := 0) (by decide))).2; omega⟩
    refine lv_iconst (v := 0) hx hb dX12_term_7 (by decide) ?_
    have q395 : nx.toInt ≤ x14.toInt ∧ x14.toInt ≤ tp.toInt := by
      have := (h_le).1; have := (h_le).2; have := (h_md).1; have := (h_md).2; have := (h_nx).1; have := (h_nx).2; have := (h_tp).1; have := (h_tp).2; have := (h_tx).1; have := (h_tx).2; have := (h13).1; have := (h13).2; omega
    exact tw_endz hx hb hr hlocks hK hT hS hQ rfl (⟨(iv_mono (iv_c (c := 0) (n := 0) (by decide)) (by decide) (by decide)), ⟨z16, ⟨x14, k15, h13, q395.1, q395.2⟩, (fun h => absurd rfl h)⟩⟩) dX12_term_8
def Lt_X12_sum : WL := [(12, 13, 16), (12, 17, 18), (25, 0, 2000000), (26, 0, 2000000)]
def LRt_X12_sum : WL := []
set_option maxRecDepth 100000 in
set_option maxHeartbeats 4000000 in
theorem t_X12_sum (l : Launch) (D : va_G) (cy : Nat → ClassId) (tx : (Nat → Nat) × (Nat → Nat)) (base Z : Nat) (K N : Nat → Nat) (Ma : MT) (Ra : RT) (Ja : JT) (hTy : Ty Z K N Ma Ra) (a0 : Nat) (hz_a0 : a0 < Z) (hk_a0 : K a0 = 12) (tb : Nat) (k_tb : Ra a0 0 = some tb) (nx : Int32) (k_nx : Ma a0 13 = nx) (h_nx : iv 0 400 nx) (tp : Int32) (k_tp : Ma a0 1 = tp) (h_tp : iv 0 400 tp) (hnt : nx.toInt ≤ tp.toInt) (lg : Nat) (k_lg : Ra a0 4 = some lg) (sg : Nat) (k_sg : Ra a0 3 = some sg) (tx : Int32) (k_tx : Ma a0 16 = tx) (h_tx : iv 0 5 tx) (le : Int32) (k_le : Ma lg tx.toNatClampNeg = le) (h_le : iv 0 400 le) (md : Int32) (k_md : Ma a0 17 = md) (h_md : iv 0 60 md) (sb : Nat) (sh : Nat) (hseg : SEG Ma sg tx.toNatClampNeg sb le.toNatClampNeg sh) (hsb : (sb : Int) ≤ le.toInt) (hsh : (sh : Int) ≤ md.toInt) (hle : le.toInt ≤ nx.toInt) : Met l yX12_sum [Cond.code yX12_sum cX12_sum 2 (some .boolean)] (md_rm 6 0 0) (va_Pc [.ref (base + a0)] (md_U D cy tx base Z K N Ma Ra Ja)) (mQi D cy tx base (fun r u => TP Z K N Lt_X12_sum LRt_X12_sum Ma Ra u ∧ (iv 0 1 r ∧ ((∀ j, j < 400 * tx.toNatClampNeg + le.toNatClampNeg → u.2.2.2.1 sg j = Ma sg j) ∧ (∃ x0 : Int32, u.2.2.2.1 a0 13 = x0 ∧ iv 0 400 x0 ∧ nx.toInt ≤ x0.toInt ∧ x0.toInt ≤ tp.toInt) ∧ (¬ r = 0 → ∃ x0 x1 x2 : Int32, u.2.2.2.1 a0 13 = x0 ∧ u.2.2.2.1 lg tx.toNatClampNeg = x1 ∧ u.2.2.2.1 a0 17 = x2 ∧ iv 0 400 x1 ∧ le.toInt ≤ x1.toInt ∧ x1.toInt - le.toInt ≤ x0.toInt - nx.toInt ∧ ((sh + 1 : Nat) : Int) ≤ x2.toInt ∧ SEG u.2.2.2.1 sg tx.toNatClampNeg sb x1.toNatClampNeg (sh + 1)))))) 0 0 (fun q => base ≤ q) := by
  refine tw_ofW (L := Lt_X12_sum) (LR := LRt_X12_sum) (by decide) (Nat.le_of_ble_eq_true rfl) hTy ?_
  intro p e s m args below meth c Q ls hx hb hr hlocks hown hml hW hK hT hS hQ hl
  have hl : lv_has ls 2 [(0, .ref (base + a0))] := hl
  obtain ⟨hz_tb, hk_tb, hn_tb⟩ := hTy.refn hz_a0 hk_a0 (show rtR 12 0 = (13, 400, 0) from rfl) k_tb
  have hn_tb := hn_tb (by decide)
  obtain ⟨hz_lg, hk_lg, hn_lg⟩ := hTy.refn hz_a0 hk_a0 (show rtR 12 4 = (26, 7, 0) from rfl) k_lg
  have hn_lg := hn_lg (by decide)
  obtain ⟨hz_sg, hk_sg, hn_sg⟩ := hTy.refn hz_a0 hk_a0 (show rtR 12 3 = (25, 2400, 0) from rfl) k_sg
  have hn_sg := hn_sg (by decide)
  refine lv_aload_n hx hb dX12_sum_0 rfl (lv_at hl 0 rfl) ?_
  have q1 : nx.toInt ≤ tp.toInt := by
    have := (h_le).1; have := (h_le).2; have := (h_md).1; have := (h_md).2; have := (h_nx).1; have := (h_nx).2; have := (h_tp).1; have := (h_tp).2; have := (h_tx).1; have := (h_tx).2; omega
  have q2 : ((sb : Nat) : Int) ≤ le.toInt := by
    have := (h_le).1; have := (h_le).2; have := (h_md).1; have := (h_md).2; have := (h_nx).1; have := (h_nx).2; have := (h_tp).1; have := (h_tp).2; have := (h_tx).1; have := (h_tx).2; omega
  have q3 : ((sh : Nat) : Int) ≤ md.toInt := by
    have := (h_le).1; have := (h_le).2; have := (h_md).1; have := (h_md).2; have := (h_nx).1; have := (h_nx).2; have := (h_tp).1; have := (h_tp).2; have := (h_tx).1; have := (h_tx).2; omega
  have q4 : le.toInt ≤ nx.toInt := by
    have := (h_le).1; have := (h_le).2; have := (h_md).1; have := (h_md).2; have := (h_nx).1; have := (h_nx).2; have := (h_tp).1; have := (h_tp).2; have := (h_tx).1; have := (h_tx).2; omega
  refine tw_goi hS (md_runV (As := []) (rest := []) hx hb hml hown hW hK hT hS.1 (t_X12_term l D cy tx base Z K N Ma Ra Ja hS.2.1 a0 hz_a0 hk_a0 tb k_tb nx k_nx (iv_mono h_nx (by decide) (by decide)) tp k_tp (iv_mono h_tp (by decide) (by decide)) q1 lg k_lg sg k_sg tx k_tx (iv_mono h_tx (by decide) (by decide)) le k_le (iv_mono h_le (by decide) (by decide)) md k_md (iv_mono h_md (by decide) (by decide)) (sb) (sh) hseg q2 q3 q4) s_X12_213 ⟨rfl, rfl, ⟨Nat.le_of_ble_eq_true rfl, Nat.le_of_ble_eq_true rfl⟩, ⟨Nat.le_of_ble_eq_true rfl, Nat.le_of_ble_eq_true rfl⟩⟩ hz_a0 hk_a0 (by decide) rfl rfl hl.1 rfl (Nat.le_of_ble_eq_true rfl) dX12_sum_1) rfl rfl (fun x11 H locs M8 R9 J7 hS f5 g6 E10 => ?_)
  have eR9 := Fr.nil g6 rfl
  subst eR9
  obtain ⟨h_x11, p12⟩ := E10
  obtain ⟨zf12, ⟨x14, k15, h13, zu12, zv12⟩, zc12⟩ := p12
  have k15 : M8 a0 13 = x14 := k15
  have zw12 := ti_cl (x := le) (by have := h_le.1; omega); have zy12 := ti_cl (x := le) (by have := (h_le).1; omega)
  have z16 : ∀ j, j < 400 * tx.toNatClampNeg + le.toNatClampNeg → M8 sg j = Ma sg j := fun j hj => (zf12 j (by omega)).trans ((fun j _ => rfl) j hj)
  refine lv_if_ne (tgt := 9) hx hb dX12_sum_4 (by decide) (fun c17 => ?_) (fun c17 => ?_)
  · have q18 : ¬ x11.toInt = 0 := ti_ne c17
    have h19 : iv 1 1 x11 := ⟨by have := (h_x11).1; have := ((iv_c (c := 0) (n := 0) (by decide))).1; have := ((iv_c (c := 0) (n := 0) (by decide))).2; omega, by have := (h_x11).2; have := ((iv_c (c := 0) (n := 0) (by decide))).1; have := ((iv_c (c := 0) (n := 0) (by decide))).2; omega⟩
    obtain ⟨x26, x22, x23, k27, k24, k25, h20, za19, zb19, zd19, z28⟩ := zc12 c17
    have ze19 : x26 = x14 := k27.symm.trans k15
    rw [ze19] at zb19
    have k24 : M8 lg tx.toNatClampNeg = x22 := k24
    have k25 : M8 a0 17 = x23 := k25
    have h21 : iv 0 60 x23 := by rw [← k25]; exact hS.2.1.int hz_a0 hk_a0 (show rgI 12 17 = (0, 60) from rfl)
    have W9_29 : ∀ (n_29 : Nat) (x34 : Int32) (x36 : Int32) (x38 : Int32) (M29 : MT) (R30 : RT) (J31 : JT) (H : Heap) (locs : List Loc) (ls : Array Slot) (h_x34 : iv 0 400 x34) (k35 : M29 a0 13 = x34) (h_x36 : iv 0 60 x36) (k37 : M29 a0 17 = x36) (h_x38 : iv 0 400 x38) (k39 : M29 lg tx.toNatClampNeg = x38) (w0_29 : nx.toInt ≤ x34.toInt ∧ x34.toInt ≤ tp.toInt) (w1_29 : le.toInt ≤ x38.toInt ∧ x38.toInt - le.toInt ≤ x34.toInt - nx.toInt ∧ ((sh + 1 : Nat) : Int) ≤ x36.toInt) (w2_29 : SEG M29 sg tx.toNatClampNeg sb x38.toNatClampNeg (sh + 1)) (w3_29 : ∀ j, j < 400 * tx.toNatClampNeg + le.toNatClampNeg → M29 sg j = Ma sg j) (hm_29 : 400 - x34.toInt < (n_29 : Int)) (hS : SB D cy base Z K N Lt_X12_sum LRt_X12_sum Ma Ra M29 R30 J31 s H locs) (hl : lv_has ls 2 [(0, .ref (base + a0))]), W p l e (md_rm 6 0 0) s m args below meth c H locs 0 0 Q (F0 m 9 ls []) := by
      intro n_29
      induction n_29 with
      | zero =>
        intro x34 x36 x38 M29 R30 J31 H locs ls h_x34 k35 h_x36 k37 h_x38 k39 w0_29 w1_29 w2_29 w3_29 hm_29 hS hl
        exfalso
        have := (h_le).1; have := (h_le).2; have := (h_md).1; have := (h_md).2; have := (h_nx).1; have := (h_nx).2; have := (h_tp).1; have := (h_tp).2; have := (h_tx).1; have := (h_tx).2; have := (h13).1; have := (h13).2; have := (h20).1; have := (h20).2; have := (h_x34).1; have := (h_x34).2; have := (h_x36).1; have := (h_x36).2; have := (h_x38).1; have := (h_x38).2; omega
      | succ n_29 ih_29 =>
        intro x34 x36 x38 M29 R30 J31 H locs ls h_x34 k35 h_x36 k37 h_x38 k39 w0_29 w1_29 w2_29 w3_29 hm_29 hS hl
        have f32 := hS.2.2.1
        have g33 := hS.2.2.2
        refine lv_aload_n hx hb dX12_sum_9 rfl (lv_at hl 0 rfl) ?_
        have k40 : R30 a0 0 = some tb := (Fr.kp (k := 0) g33 hk_a0 rfl).trans k_tb
        have k41 : M29 a0 1 = tp := (Fr.kp (k := 1) f32 hk_a0 rfl).trans k_tp
        have q42 : x34.toInt ≤ tp.toInt := by
          have := (h_le).1; have := (h_le).2; have := (h_md).1; have := (h_md).2; have := (h_nx).1; have := (h_nx).2; have := (h_tp).1; have := (h_tp).2; have := (h_tx).1; have := (h_tx).2; have := (h13).1; have := (h13).2; have := (h20).1; have := (h20).2; have := (h_x34).1; have := (h_x34).2; have := (h_x36).1; have := (h_x36).2; have := (h_x38).1; have := (h_x38).2; omega
        refine tw_goi hS (md_runV (As := []) (rest := []) hx hb hml hown hW hK hT hS.1 (t_X12_see l D cy tx base Z K N M29 R30 J31 hS.2.1 a0 hz_a0 hk_a0 tb k40 x34 k35 (iv_mono h_x34 (by decide) (by decide)) tp k41 (iv_mono h_tp (by decide) (by decide)) q42) s_X12_130 ⟨rfl, rfl, ⟨Nat.le_of_ble_eq_true rfl, Nat.le_of_ble_eq_true rfl⟩, ⟨Nat.le_of_ble_eq_true rfl, Nat.le_of_ble_eq_true rfl⟩⟩ hz_a0 hk_a0 (by decide) rfl rfl hl.1 rfl (Nat.le_of_ble_eq_true rfl) dX12_sum_10) rfl rfl (fun x49 H locs M46 R47 J45 hS f43 g44 E48 => ?_)
        have eR47 := Fr.nil g44 rfl
        subst eR47
        obtain ⟨h_x49, p50⟩ := E48
        obtain ⟨x53, k51, h52, q54, z55⟩ := p50
        have k51 : M46 a0 13 = x53 := k51
        refine lv_bipush (v := 43) hx hb dX12_sum_13 (by decide) ?_
        refine lv_icmp_eq (tgt := 27) hx hb dX12_sum_15 (by decide) (fun c57 => ?_) (fun c57 => ?_)
        · have q58 : x49.toInt = 43 := ti_eq c57
          have h59 : iv 43 43 x49 := ⟨by have := (h_x49).1; have := ((iv_c (c := 43) (n := 43) (by decide))).1; omega, by have := (h_x49).2; have := ((iv_c (c := 43) (n := 43) (by decide))).2; omega⟩
          refine lv_aload_n hx hb dX12_sum_27 rfl (lv_at hl 0 rfl) ?_
          have k60 : R30 a0 0 = some tb := (Fr.kp (k := 0) g33 hk_a0 rfl).trans k_tb
          refine tw_getrk hx hb hW hown hK hS f_X12_7_11 hz_a0 hk_a0 (b := tb) k60 dX12_sum_28 ?_
          refine lv_aload_n hx hb dX12_sum_31 rfl (lv_at hl 0 rfl) ?_
          refine tw_getk hx hb hW hown hK hS f_X12_127_11 hz_a0 hk_a0 (v := x53) k51 dX12_sum_32 ?_
          have h61 : iv 0 399 x53 := by
            have := (h_le).1; have := (h_le).2; have := (h_md).1; have := (h_md).2; have := (h_nx).1; have := (h_nx).2; have := (h_tp).1; have := (h_tp).2; have := (h_tx).1; have := (h_tx).2; have := (h13).1; have := (h13).2; have := (h20).1; have := (h20).2; have := (h_x34).1; have := (h_x34).2; have := (h_x36).1; have := (h_x36).2; have := (h_x38).1; have := (h_x38).2; have := (h59).1; have := (h59).2; have := (h52).1; have := (h52).2; exact ⟨by omega, by omega⟩
          refine tw_bald hx hb hK hS hz_tb hk_tb hn_tb h61 ⟨by decide, by decide⟩ dX12_sum_35 (fun x64 k63 => ?_)
          have h62 := iv_any x64
          refine lv_bipush (v := 43) hx hb dX12_sum_36 (by decide) ?_
          refine lv_icmp_ne (tgt := 45) hx hb dX12_sum_38 (by decide) (fun c65 => ?_) (fun c65 => ?_)
          · have q66 : ¬ x64.toInt = 43 := ti_ne c65
            refine lv_iconst (v := 3) hx hb dX12_sum_45 (by decide) ?_
            refine lv_istore_n (lv' := [(1, .int 3), (0, .ref (base + a0))]) hx hb dX12_sum_46 rfl hl (by decide) rfl (fun ls hl => ?_)
            refine lv_aload_n hx hb dX12_sum_47 rfl (lv_at hl 1 rfl) ?_
            refine lv_dup hx hb dX12_sum_48 rfl ?_
            refine tw_getk hx hb hW hown hK hS f_X12_127_11 hz_a0 hk_a0 (v := x53) k51 dX12_sum_49 ?_
            refine lv_iconst (v := 1) hx hb dX12_sum_52 (by decide) ?_
            refine tw_iadd (lo := 1) (hi := 400) hx hb h61 (iv_c (c := 1) (n := 1) (by decide)) ⟨by decide, by decide⟩ ⟨by decide, by decide⟩ dX12_sum_53 (fun x69 e68 h67 => ?_)
            have e68 : x69.toInt = x53.toInt + 1 := e68
            refine tw_puti hx hb hW hown hK hS f_X12_127_11 hz_a0 hk_a0 rfl rfl (lo := 0) (hi := 400) rfl (iv_mono h67 (by decide) (by decide)) rfl dX12_sum_54 (fun H locs M72 hS k70 f71 => ?_)
            refine lv_aload_n hx hb dX12_sum_57 rfl (lv_at hl 1 rfl) ?_
            have k73 : R30 a0 0 = some tb := (Fr.kp (k := 0) g33 hk_a0 rfl).trans k_tb
            have k74 : M72 a0 1 = tp := ((Fr.kp (k := 1) f71 hk_a0 rfl).trans ((Fr.kp (k := 1) f43 hk_a0 rfl).trans (Fr.kp (k := 1) f32 hk_a0 rfl))).trans k_tp
            have q75 : x69.toInt ≤ tp.toInt := by
              have := (h_le).1; have := (h_le).2; have := (h_md).1; have := (h_md).2; have := (h_nx).1; have := (h_nx).2; have := (h_tp).1; have := (h_tp).2; have := (h_tx).1; have := (h_tx).2; have := (h13).1; have := (h13).2; have := (h20).1; have := (h20).2; have := (h_x34).1; have := (h_x34).2; have := (h_x36).1; have := (h_x36).2; have := (h_x38).1; have := (h_x38).2; have := (h59).1; have := (h59).2; have := (h61).1; have := (h61).2; have := (h67).1; have := (h67).2; omega
            have k76 : R30 a0 4 = some lg := (Fr.kp (k := 4) g33 hk_a0 rfl).trans k_lg
            have k77 : R30 a0 3 = some sg := (Fr.kp (k := 3) g33 hk_a0 rfl).trans k_sg
            have k78 : M72 a0 16 = tx := ((Fr.kp (k := 16) f71 hk_a0 rfl).trans ((Fr.kp (k := 16) f43 hk_a0 rfl).trans (Fr.kp (k := 16) f32 hk_a0 rfl))).trans k_tx
            have k79 : M72 lg tx.toNatClampNeg = x38 := ((Fr.kpa f71 hk_lg rfl tx.toNatClampNeg).trans (Fr.kpa f43 hk_lg rfl tx.toNatClampNeg)).trans k39
            have k80 : M72 a0 17 = x36 := ((Fr.kp (k := 17) f71 hk_a0 rfl).trans (Fr.kp (k := 17) f43 hk_a0 rfl)).trans k37
            have q81 : ((sb : Nat) : Int) ≤ x38.toInt := by
              have := (h_le).1; have := (h_le).2; have := (h_md).1; have := (h_md).2; have := (h_nx).1; have := (h_nx).2; have := (h_tp).1; have := (h_tp).2; have := (h_tx).1; have := (h_tx).2; have := (h13).1; have := (h13).2; have := (h20).1; have := (h20).2; have := (h_x34).1; have := (h_x34).2; have := (h_x36).1; have := (h_x36).2; have := (h_x38).1; have := (h_x38).2; have := (h61).1; have := (h61).2; omega
            have q82 : ((sh + 1 : Nat) : Int) ≤ x36.toInt := by
              have := (h_le).1; have := (h_le).2; have := (h_md).1; have := (h_md).2; have := (h_nx).1; have := (h_nx).2; have := (h_tp).1; have := (h_tp).2; have := (h_tx).1; have := (h_tx).2; have := (h13).1; have := (h13).2; have := (h20).1; have := (h20).2; have := (h_x34).1; have := (h_x34).2; have := (h_x36).1; have := (h_x36).2; have := (h_x38).1; have := (h_x38).2; have := (h61).1; have := (h61).2; omega
            have q83 : x38.toInt ≤ x69.toInt := by
              have := (h_le).1; have := (h_le).2; have := (h_md).1; have := (h_md).2; have := (h_nx).1; have := (h_nx).2; have := (h_tp).1; have := (h_tp).2; have := (h_tx).1; have := (h_tx).2; have := (h13).1; have := (h13).2; have := (h20).1; have := (h20).2; have := (h_x34).1; have := (h_x34).2; have := (h_x36).1; have := (h_x36).2; have := (h_x38).1; have := (h_x38).2; have := (h59).1; have := (h59).2; have := (h61).1; have := (h61).2; have := (h67).1; have := (h67).2; omega
            refine tw_goi hS (md_runV (As := []) (rest := []) hx hb hml hown hW hK hT hS.1 (t_X12_term l D cy tx base Z K N M72 R30 J45 hS.2.1 a0 hz_a0 hk_a0 tb k73 x69 k70 (iv_mono h67 (by decide) (by decide)) tp k74 (iv_mono h_tp (by decide) (by decide)) q75 lg k76 sg k77 tx k78 (iv_mono h_tx (by decide) (by decide)) x38 k79 (iv_mono h_x38 (by decide) (by decide)) x36 k80 (iv_mono h_x36 (by decide) (by decide)) (sb) (sh + 1) (SEG.to (SEG.to w2_29 (fun j _ _ => Fr.kpa f43 hk_sg rfl j)) (fun j _ _ => Fr.kpa f71 hk_sg rfl j)) q81 q82 q83) s_X12_213 ⟨rfl, rfl, ⟨Nat.le_of_ble_eq_true rfl, Nat.le_of_ble_eq_true rfl⟩, ⟨Nat.le_of_ble_eq_true rfl, Nat.le_of_ble_eq_true rfl⟩⟩ hz_a0 hk_a0 (by decide) rfl rfl hl.1 rfl (Nat.le_of_ble_eq_true rfl) dX12_sum_58) rfl rfl (fun x90 H locs M87 R88 J86 hS f84 g85 E89 => ?_)
            have eR88 := Fr.nil g85 rfl
            subst eR88
            obtain ⟨h_x90, p91⟩ := E89
            obtain ⟨zf91, ⟨x93, k94, h92, zu91, zv91⟩, zc91⟩ := p91
            have k94 : M87 a0 13 = x93 := k94
            have zw91 := ti_cl (x := le) (by have := h_le.1; omega); have zy91 := ti_cl (x := x38) (by have := (h_x38).1; omega)
            have z95 : ∀ j, j < 400 * tx.toNatClampNeg + le.toNatClampNeg → M87 sg j = Ma sg j := fun j hj => (zf91 j (by omega)).trans ((fun j hj => (Fr.kpa f71 hk_sg rfl j).trans ((fun j hj => (Fr.kpa f43 hk_sg rfl j).trans (w3_29 j hj)) j hj)) j hj)
            refine lv_if_ne (tgt := 66) hx hb dX12_sum_61 (by decide) (fun c96 => ?_) (fun c96 => ?_)
            · have q97 : ¬ x90.toInt = 0 := ti_ne c96
              have h98 : iv 1 1 x90 := ⟨by have := (h_x90).1; have := ((iv_c (c := 0) (n := 0) (by decide))).1; have := ((iv_c (c := 0) (n := 0) (by decide))).2; omega, by have := (h_x90).2; have := ((iv_c (c := 0) (n := 0) (by decide))).1; have := ((iv_c (c := 0) (n := 0) (by decide))).2; omega⟩
              obtain ⟨x105, x101, x102, k106, k103, k104, h99, za98, zb98, zd98, z107⟩ := zc91 c96
              have ze98 : x105 = x93 := k106.symm.trans k94
              rw [ze98] at zb98
              have k103 : M87 lg tx.toNatClampNeg = x101 := k103
              have k104 : M87 a0 17 = x102 := k104
              have h100 : iv 0 60 x102 := by rw [← k104]; exact hS.2.1.int hz_a0 hk_a0 (show rgI 12 17 = (0, 60) from rfl)
              have z108 : SEG M87 sg tx.toNatClampNeg sb x101.toNatClampNeg (sh + 2) := SEG.cast z107 rfl (by omega)
              refine lv_aload_n hx hb dX12_sum_66 rfl (lv_at hl 1 rfl) ?_
              refine lv_iload_n hx hb dX12_sum_67 rfl (lv_at hl 0 rfl) ?_
              refine lv_iconst (v := 0) hx hb dX12_sum_68 (by decide) ?_
              have k109 : R30 a0 3 = some sg := (Fr.kp (k := 3) g33 hk_a0 rfl).trans k_sg
              have k110 : R30 a0 4 = some lg := (Fr.kp (k := 4) g33 hk_a0 rfl).trans k_lg
              have k111 : M87 a0 16 = tx := ((Fr.kp (k := 16) f84 hk_a0 rfl).trans ((Fr.kp (k := 16) f71 hk_a0 rfl).trans ((Fr.kp (k := 16) f43 hk_a0 rfl).trans (Fr.kp (k := 16) f32 hk_a0 rfl)))).trans k_tx
              have h112 : iv 0 399 x101 := by
                have := (h_le).1; have := (h_le).2; have := (h_md).1; have := (h_md).2; have := (h_nx).1; have := (h_nx).2; have := (h_tp).1; have := (h_tp).2; have := (h_tx).1; have := (h_tx).2; have := (h99).1; have := (h99).2; have := (h13).1; have := (h13).2; have := (h20).1; have := (h20).2; have := (h_x34).1; have := (h_x34).2; have := (h_x36).1; have := (h_x36).2; have := (h_x38).1; have := (h_x38).2; have := (h59).1; have := (h59).2; have := (h61).1; have := (h61).2; have := (h67).1; have := (h67).2; have := (h92).1; have := (h92).2; exact ⟨by omega, by omega⟩
              refine tw_gov hS (md_runV (As := [.int 3, .int 0]) (rest := []) hx hb hml hown hW hK hT hS.1 (t_X12_puts l D cy tx base Z K N M87 R30 J86 hS.2.1 a0 hz_a0 hk_a0 3 (iv_mono (iv_c (c := 3) (n := 3) (by decide)) (by decide) (by decide)) 0 (iv_mono (iv_c (c := 0) (n := 0) (by decide)) (by decide) (by decide)) sg k109 lg k110 tx k111 (iv_mono h_tx (by decide) (by decide)) x101 k103 h112) s_X12_195 ⟨rfl, rfl, ⟨Nat.le_of_ble_eq_true rfl, Nat.le_of_ble_eq_true rfl⟩, ⟨Nat.le_of_ble_eq_true rfl, Nat.le_of_ble_eq_true rfl⟩⟩ hz_a0 hk_a0 (by decide) rfl rfl hl.1 rfl (Nat.le_of_ble_eq_true rfl) dX12_sum_69) rfl rfl (fun H locs M116 R117 J115 hS f113 g114 E118 => ?_)
              have eR117 := Fr.nil g114 rfl
              subst eR117
              have p119 := E118
              obtain ⟨x120, x122, zc119, zd119, zo119, k123, h121, zl119⟩ := p119
              have k123 : M116 lg tx.toNatClampNeg = x122 := k123
              have zt119 := ti_cl (x := tx) (by have := h_tx.1; omega); have zn119 := ti_cl (x := x101) (by have := (h99).1; omega); have zm119 := ti_cl (x := x122) (by have := (h121).1; omega)
              have q124 : (3 : Int32).toInt = 3 := (by decide)
              have q125 : (0 : Int32).toInt = 0 := (by decide)
              have k126 : M116 a0 17 = x102 := (Fr.kp (k := 17) f113 hk_a0 rfl).trans k104
              have zs119 := stp_two (h := sh + 2) (show x120.toInt = (3 : Int32).toInt + 16 * 0 by omega) (by have := ((iv_c (c := 3) (n := 3) (by decide))).1; have := ((iv_c (c := 3) (n := 3) (by decide))).2; have := ((iv_c (c := 0) (n := 0) (by decide))).1; have := ((iv_c (c := 0) (n := 0) (by decide))).2; omega) (by omega)
              have z127 : SEG M116 sg tx.toNatClampNeg sb x122.toNatClampNeg (sh + 1) := SEG.cast (SEG.ext z108 (by omega) zd119 zo119 zs119) (by omega) (by omega)
              have zw119 := ti_cl (x := le) (by have := h_le.1; omega)
              have z128 : ∀ j, j < 400 * tx.toNatClampNeg + le.toNatClampNeg → M116 sg j = Ma sg j := fun j hj => (zo119 j (by omega)).trans (z95 j hj)
              refine lv_goto (tgt := 9) hx hb dX12_sum_72 (by decide) ?_
              have k129 : M116 a0 13 = x93 := (Fr.kp (k := 13) f113 hk_a0 rfl).trans k94
              have w130 : nx.toInt ≤ x93.toInt ∧ x93.toInt ≤ tp.toInt := by
                have := (h_le).1; have := (h_le).2; have := (h_md).1; have := (h_md).2; have := (h_nx).1; have := (h_nx).2; have := (h_tp).1; have := (h_tp).2; have := (h_tx).1; have := (h_tx).2; have := (h99).1; have := (h99).2; have := (h121).1; have := (h121).2; have := (h13).1; have := (h13).2; have := (h20).1; have := (h20).2; have := (h_x34).1; have := (h_x34).2; have := (h_x36).1; have := (h_x36).2; have := (h_x38).1; have := (h_x38).2; have := (h59).1; have := (h59).2; have := (h61).1; have := (h61).2; have := (h67).1; have := (h67).2; have := (h92).1; have := (h92).2; omega
              have w131 : le.toInt ≤ x122.toInt ∧ x122.toInt - le.toInt ≤ x93.toInt - nx.toInt ∧ ((sh + 1 : Nat) : Int) ≤ x102.toInt := by
                have := (h_le).1; have := (h_le).2; have := (h_md).1; have := (h_md).2; have := (h_nx).1; have := (h_nx).2; have := (h_tp).1; have := (h_tp).2; have := (h_tx).1; have := (h_tx).2; have := (h99).1; have := (h99).2; have := (h100).1; have := (h100).2; have := (h121).1; have := (h121).2; have := (h13).1; have := (h13).2; have := (h20).1; have := (h20).2; have := (h_x34).1; have := (h_x34).2; have := (h_x36).1; have := (h_x36).2; have := (h_x38).1; have := (h_x38).2; have := (h59).1; have := (h59).2; have := (h61).1; have := (h61).2; have := (h67).1; have := (h67).2; have := (h92).1; have := (h92).2; omega
              have w132 : SEG M116 sg tx.toNatClampNeg sb x122.toNatClampNeg (sh + 1) := z127
              have w133 : ∀ j, j < 400 * tx.toNatClampNeg + le.toNatClampNeg → M116 sg j = Ma sg j := z128
              have hm134 : 400 - x93.toInt < (n_29 : Int) := by
                have := (h_le).1; have := (h_le).2; have := (h_md).1; have := (h_md).2; have := (h_nx).1; have := (h_nx).2; have := (h_tp).1; have := (h_tp).2; have := (h_tx).1; have := (h_tx).2; have := (h99).1; have := (h99).2; have := (h121).1; have := (h121).2; have := (h13).1; have := (h13).2; have := (h20).1; have := (h20).2; have := (h_x34).1; have := (h_x34).2; have := (h_x36).1; have := (h_x36).2; have := (h_x38).1; have := (h_x38).2; have := (h59).1; have := (h59).2; have := (h61).1; have := (h61).2; have := (h67).1; have := (h67).2; have := (h92).1; have := (h92).2; omega
              exact ih_29 x93 x102 x122 M116 R30 J115 H locs _ h92 k129 h100 k126 (iv_mono h121 (by decide) (by decide)) k123 w130 w131 w132 w133 hm134 hS (lv_sub hl [1] rfl)
            · have q135 : x90.toInt = 0 := ti_eq c96
              have h136 : iv 0 0 x90 := ⟨by have := (h_x90).1; have := ((iv_c (c := 0) (n := 0) (by decide))).1; omega, by have := (h_x90).2; have := ((iv_c (c := 0) (n := 0) (by decide))).2; omega⟩
              refine lv_iconst (v := 0) hx hb dX12_sum_64 (by decide) ?_
              have q137 : nx.toInt ≤ x93.toInt ∧ x93.toInt ≤ tp.toInt := by
                have := (h_le).1; have := (h_le).2; have := (h_md).1; have := (h_md).2; have := (h_nx).1; have := (h_nx).2; have := (h_tp).1; have := (h_tp).2; have := (h_tx).1; have := (h_tx).2; have := (h13).1; have := (h13).2; have := (h20).1; have := (h20).2; have := (h_x34).1; have := (h_x34).2; have := (h_x36).1; have := (h_x36).2; have := (h_x38).1; have := (h_x38).2; have := (h59).1; have := (h59).2; have := (h61).1; have := (h61).2; have := (h67).1; have := (h67).2; have := (h92).1; have := (h92).2; omega
              exact tw_endz hx hb hr hlocks hK hT hS hQ rfl (⟨(iv_mono (iv_c (c := 0) (n := 0) (by decide)) (by decide) (by decide)), ⟨z95, ⟨x93, k94, h92, q137.1, q137.2⟩, (fun h => absurd rfl h)⟩⟩) dX12_sum_65
          · have q138 : x64.toInt = 43 := ti_eq c65
            have h139 : iv 43 43 x64 := ⟨by have := (h62).1; have := ((iv_c (c := 43) (n := 43) (by decide))).1; omega, by have := (h62).2; have := ((iv_c (c := 43) (n := 43) (by decide))).2; omega⟩
            refine lv_iconst (v := 2) hx hb dX12_sum_41 (by decide) ?_
            refine lv_goto (tgt := 46) hx hb dX12_sum_42 (by decide) ?_
            refine lv_istore_n (lv' := [(1, .int 2), (0, .ref (base + a0))]) hx hb dX12_sum_46 rfl hl (by decide) rfl (fun ls hl => ?_)
            refine lv_aload_n hx hb dX12_sum_47 rfl (lv_at hl 1 rfl) ?_
            refine lv_dup hx hb dX12_sum_48 rfl ?_
            refine tw_getk hx hb hW hown hK hS f_X12_127_11 hz_a0 hk_a0 (v := x53) k51 dX12_sum_49 ?_
            refine lv_iconst (v := 1) hx hb dX12_sum_52 (by decide) ?_
            refine tw_iadd (lo := 1) (hi := 400) hx hb h61 (iv_c (c := 1) (n := 1) (by decide)) ⟨by decide, by decide⟩ ⟨by decide, by decide⟩ dX12_sum_53 (fun x142 e141 h140 => ?_)
            have e141 : x142.toInt = x53.toInt + 1 := e141
            refine tw_puti hx hb hW hown hK hS f_X12_127_11 hz_a0 hk_a0 rfl rfl (lo := 0) (hi := 400) rfl (iv_mono h140 (by decide) (by decide)) rfl dX12_sum_54 (fun H locs M145 hS k143 f144 => ?_)
            refine lv_aload_n hx hb dX12_sum_57 rfl (lv_at hl 1 rfl) ?_
            have k146 : R30 a0 0 = some tb := (Fr.kp (k := 0) g33 hk_a0 rfl).trans k_tb
            have k147 : M145 a0 1 = tp := ((Fr.kp (k := 1) f144 hk_a0 rfl).trans ((Fr.kp (k := 1) f43 hk_a0 rfl).trans (Fr.kp (k := 1) f32 hk_a0 rfl))).trans k_tp
            have q148 : x142.toInt ≤ tp.toInt := by
              have := (h_le).1; have := (h_le).2; have := (h_md).1; have := (h_md).2; have := (h_nx).1; have := (h_nx).2; have := (h_tp).1; have := (h_tp).2; have := (h_tx).1; have := (h_tx).2; have := (h13).1; have := (h13).2; have := (h140).1; have := (h140).2; have := (h20).1; have := (h20).2; have := (h_x34).1; have := (h_x34).2; have := (h_x36).1; have := (h_x36).2; have := (h_x38).1; have := (h_x38).2; have := (h59).1; have := (h59).2; have := (h61).1; have := (h61).2; omega
            have k149 : R30 a0 4 = some lg := (Fr.kp (k := 4) g33 hk_a0 rfl).trans k_lg
            have k150 : R30 a0 3 = some sg := (Fr.kp (k := 3) g33 hk_a0 rfl).trans k_sg
            have k151 : M145 a0 16 = tx := ((Fr.kp (k := 16) f144 hk_a0 rfl).trans ((Fr.kp (k := 16) f43 hk_a0 rfl).trans (Fr.kp (k := 16) f32 hk_a0 rfl))).trans k_tx
            have k152 : M145 lg tx.toNatClampNeg = x38 := ((Fr.kpa f144 hk_lg rfl tx.toNatClampNeg).trans (Fr.kpa f43 hk_lg rfl tx.toNatClampNeg)).trans k39
            have k153 : M145 a0 17 = x36 := ((Fr.kp (k := 17) f144 hk_a0 rfl).trans (Fr.kp (k := 17) f43 hk_a0 rfl)).trans k37
            have q154 : ((sb : Nat) : Int) ≤ x38.toInt := by
              have := (h_le).1; have := (h_le).2; have := (h_md).1; have := (h_md).2; have := (h_nx).1; have := (h_nx).2; have := (h_tp).1; have := (h_tp).2; have := (h_tx).1; have := (h_tx).2; have := (h13).1; have := (h13).2; have := (h20).1; have := (h20).2; have := (h_x34).1; have := (h_x34).2; have := (h_x36).1; have := (h_x36).2; have := (h_x38).1; have := (h_x38).2; have := (h61).1; have := (h61).2; omega
            have q155 : ((sh + 1 : Nat) : Int) ≤ x36.toInt := by
              have := (h_le).1; have := (h_le).2; have := (h_md).1; have := (h_md).2; have := (h_nx).1; have := (h_nx).2; have := (h_tp).1; have := (h_tp).2; have := (h_tx).1; have := (h_tx).2; have := (h13).1; have := (h13).2; have := (h20).1; have := (h20).2; have := (h_x34).1; have := (h_x34).2; have := (h_x36).1; have := (h_x36).2; have := (h_x38).1; have := (h_x38).2; have := (h61).1; have := (h61).2; omega
            have q156 : x38.toInt ≤ x142.toInt := by
              have := (h_le).1; have := (h_le).2; have := (h_md).1; have := (h_md).2; have := (h_nx).1; have := (h_nx).2; have := (h_tp).1; have := (h_tp).2; have := (h_tx).1; have := (h_tx).2; have := (h13).1; have := (h13).2; have := (h140).1; have := (h140).2; have := (h20).1; have := (h20).2; have := (h_x34).1; have := (h_x34).2; have := (h_x36).1; have := (h_x36).2; have := (h_x38).1; have := (h_x38).2; have := (h59).1; have := (h59).2; have := (h61).1; have := (h61).2; omega
            refine tw_goi hS (md_runV (As := []) (rest := []) hx hb hml hown hW hK hT hS.1 (t_X12_term l D cy tx base Z K N M145 R30 J45 hS.2.1 a0 hz_a0 hk_a0 tb k146 x142 k143 (iv_mono h140 (by decide) (by decide)) tp k147 (iv_mono h_tp (by decide) (by decide)) q148 lg k149 sg k150 tx k151 (iv_mono h_tx (by decide) (by decide)) x38 k152 (iv_mono h_x38 (by decide) (by decide)) x36 k153 (iv_mono h_x36 (by decide) (by decide)) (sb) (sh + 1) (SEG.to (SEG.to w2_29 (fun j _ _ => Fr.kpa f43 hk_sg rfl j)) (fun j _ _ => Fr.kpa f144 hk_sg rfl j)) q154 q155 q156) s_X12_213 ⟨rfl, rfl, ⟨Nat.le_of_ble_eq_true rfl, Nat.le_of_ble_eq_true rfl⟩, ⟨Nat.le_of_ble_eq_true rfl, Nat.le_of_ble_eq_true rfl⟩⟩ hz_a0 hk_a0 (by decide) rfl rfl hl.1 rfl (Nat.le_of_ble_eq_true rfl) dX12_sum_58) rfl rfl (fun x163 H locs M160 R161 J159 hS f157 g158 E162 => ?_)
            have eR161 := Fr.nil g158 rfl
            subst eR161
            obtain ⟨h_x163, p164⟩ := E162
            obtain ⟨zf164, ⟨x166, k167, h165, zu164, zv164⟩, zc164⟩ := p164
            have k167 : M160 a0 13 = x166 := k167
            have zw164 := ti_cl (x := le) (by have := h_le.1; omega); have zy164 := ti_cl (x := x38) (by have := (h_x38).1; omega)
            have z168 : ∀ j, j < 400 * tx.toNatClampNeg + le.toNatClampNeg → M160 sg j = Ma sg j := fun j hj => (zf164 j (by omega)).trans ((fun j hj => (Fr.kpa f144 hk_sg rfl j).trans ((fun j hj => (Fr.kpa f43 hk_sg rfl j).trans (w3_29 j hj)) j hj)) j hj)
            refine lv_if_ne (tgt := 66) hx hb dX12_sum_61 (by decide) (fun c169 => ?_) (fun c169 => ?_)
            · have q170 : ¬ x163.toInt = 0 := ti_ne c169
              have h171 : iv 1 1 x163 := ⟨by have := (h_x163).1; have := ((iv_c (c := 0) (n := 0) (by decide))).1; have := ((iv_c (c := 0) (n := 0) (by decide))).2; omega, by have := (h_x163).2; have := ((iv_c (c := 0) (n := 0) (by decide))).1; have := ((iv_c (c := 0) (n := 0) (by decide))).2; omega⟩
              obtain ⟨x178, x174, x175, k179, k176, k177, h172, za171, zb171, zd171, z180⟩ := zc164 c169
              have ze171 : x178 = x166 := k179.symm.trans k167
              rw [ze171] at zb171
              have k176 : M160 lg tx.toNatClampNeg = x174 := k176
              have k177 : M160 a0 17 = x175 := k177
              have h173 : iv 0 60 x175 := by rw [← k177]; exact hS.2.1.int hz_a0 hk_a0 (show rgI 12 17 = (0, 60) from rfl)
              have z181 : SEG M160 sg tx.toNatClampNeg sb x174.toNatClampNeg (sh + 2) := SEG.cast z180 rfl (by omega)
              refine lv_aload_n hx hb dX12_sum_66 rfl (lv_at hl 1 rfl) ?_
              refine lv_iload_n hx hb dX12_sum_67 rfl (lv_at hl 0 rfl) ?_
              refine lv_iconst (v := 0) hx hb dX12_sum_68 (by decide) ?_
              have k182 : R30 a0 3 = some sg := (Fr.kp (k := 3) g33 hk_a0 rfl).trans k_sg
              have k183 : R30 a0 4 = some lg := (Fr.kp (k := 4) g33 hk_a0 rfl).trans k_lg
              have k184 : M160 a0 16 = tx := ((Fr.kp (k := 16) f157 hk_a0 rfl).trans ((Fr.kp (k := 16) f144 hk_a0 rfl).trans ((Fr.kp (k := 16) f43 hk_a0 rfl).trans (Fr.kp (k := 16) f32 hk_a0 rfl)))).trans k_tx
              have h185 : iv 0 399 x174 := by
                have := (h_le).1; have := (h_le).2; have := (h_md).1; have := (h_md).2; have := (h_nx).1; have := (h_nx).2; have := (h_tp).1; have := (h_tp).2; have := (h_tx).1; have := (h_tx).2; have := (h13).1; have := (h13).2; have := (h140).1; have := (h140).2; have := (h165).1; have := (h165).2; have := (h172).1; have := (h172).2; have := (h20).1; have := (h20).2; have := (h_x34).1; have := (h_x34).2; have := (h_x36).1; have := (h_x36).2; have := (h_x38).1; have := (h_x38).2; have := (h59).1; have := (h59).2; have := (h61).1; have := (h61).2; exact ⟨by omega, by omega⟩
              refine tw_gov hS (md_runV (As := [.int 2, .int 0]) (rest := []) hx hb hml hown hW hK hT hS.1 (t_X12_puts l D cy tx base Z K N M160 R30 J159 hS.2.1 a0 hz_a0 hk_a0 2 (iv_mono (iv_c (c := 2) (n := 2) (by decide)) (by decide) (by decide)) 0 (iv_mono (iv_c (c := 0) (n := 0) (by decide)) (by decide) (by decide)) sg k182 lg k183 tx k184 (iv_mono h_tx (by decide) (by decide)) x174 k176 h185) s_X12_195 ⟨rfl, rfl, ⟨Nat.le_of_ble_eq_true rfl, Nat.le_of_ble_eq_true rfl⟩, ⟨Nat.le_of_ble_eq_true rfl, Nat.le_of_ble_eq_true rfl⟩⟩ hz_a0 hk_a0 (by decide) rfl rfl hl.1 rfl (Nat.le_of_ble_eq_true rfl) dX12_sum_69) rfl rfl (fun H locs M189 R190 J188 hS f186 g187 E191 => ?_)
              have eR190 := Fr.nil g187 rfl
              subst eR190
              have p192 := E191
              obtain ⟨x193, x195, zc192, zd192, zo192, k196, h194, zl192⟩ := p192
              have k196 : M189 lg tx.toNatClampNeg = x195 := k196
              have zt192 := ti_cl (x := tx) (by have := h_tx.1; omega); have zn192 := ti_cl (x := x174) (by have := (h172).1; omega); have zm192 := ti_cl (x := x195) (by have := (h194).1; omega)
              have q197 : (2 : Int32).toInt = 2 := (by decide)
              have q198 : (0 : Int32).toInt = 0 := (by decide)
              have k199 : M189 a0 17 = x175 := (Fr.kp (k := 17) f186 hk_a0 rfl).trans k177
              have zs192 := stp_two (h := sh + 2) (show x193.toInt = (2 : Int32).toInt + 16 * 0 by omega) (by have := ((iv_c (c := 2) (n := 2) (by decide))).1; have := ((iv_c (c := 2) (n := 2) (by decide))).2; have := ((iv_c (c := 0) (n := 0) (by decide))).1; have := ((iv_c (c := 0) (n := 0) (by decide))).2; omega) (by omega)
              have z200 : SEG M189 sg tx.toNatClampNeg sb x195.toNatClampNeg (sh + 1) := SEG.cast (SEG.ext z181 (by omega) zd192 zo192 zs192) (by omega) (by omega)
              have zw192 := ti_cl (x := le) (by have := h_le.1; omega)
              have z201 : ∀ j, j < 400 * tx.toNatClampNeg + le.toNatClampNeg → M189 sg j = Ma sg j := fun j hj => (zo192 j (by omega)).trans (z168 j hj)
              refine lv_goto (tgt := 9) hx hb dX12_sum_72 (by decide) ?_
              have k202 : M189 a0 13 = x166 := (Fr.kp (k := 13) f186 hk_a0 rfl).trans k167
              have w203 : nx.toInt ≤ x166.toInt ∧ x166.toInt ≤ tp.toInt := by
                have := (h_le).1; have := (h_le).2; have := (h_md).1; have := (h_md).2; have := (h_nx).1; have := (h_nx).2; have := (h_tp).1; have := (h_tp).2; have := (h_tx).1; have := (h_tx).2; have := (h13).1; have := (h13).2; have := (h140).1; have := (h140).2; have := (h165).1; have := (h165).2; have := (h172).1; have := (h172).2; have := (h194).1; have := (h194).2; have := (h20).1; have := (h20).2; have := (h_x34).1; have := (h_x34).2; have := (h_x36).1; have := (h_x36).2; have := (h_x38).1; have := (h_x38).2; have := (h59).1; have := (h59).2; have := (h61).1; have := (h61).2; omega
              have w204 : le.toInt ≤ x195.toInt ∧ x195.toInt - le.toInt ≤ x166.toInt - nx.toInt ∧ ((sh + 1 : Nat) : Int) ≤ x175.toInt := by
                have := (h_le).1; have := (h_le).2; have := (h_md).1; have := (h_md).2; have := (h_nx).1; have := (h_nx).2; have := (h_tp).1; have := (h_tp).2; have := (h_tx).1; have := (h_tx).2; have := (h13).1; have := (h13).2; have := (h140).1; have := (h140).2; have := (h165).1; have := (h165).2; have := (h172).1; have := (h172).2; have := (h173).1; have := (h173).2; have := (h194).1; have := (h194).2; have := (h20).1; have := (h20).2; have := (h_x34).1; have := (h_x34).2; have := (h_x36).1; have := (h_x36).2; have := (h_x38).1; have := (h_x38).2; have := (h59).1; have := (h59).2; have := (h61).1; have := (h61).2; omega
              have w205 : SEG M189 sg tx.toNatClampNeg sb x195.toNatClampNeg (sh + 1) := z200
              have w206 : ∀ j, j < 400 * tx.toNatClampNeg + le.toNatClampNeg → M189 sg j = Ma sg j := z201
              have hm207 : 400 - x166.toInt < (n_29 : Int) := by
                have := (h_le).1; have := (h_le).2; have := (h_md).1; have := (h_md).2; have := (h_nx).1; have := (h_nx).2; have := (h_tp).1; have := (h_tp).2; have := (h_tx).1; have := (h_tx).2; have := (h13).1; have := (h13).2; have := (h140).1; have := (h140).2; have := (h165).1; have := (h165).2; have := (h172).1; have := (h172).2; have := (h194).1; have := (h194).2; have := (h20).1; have := (h20).2; have := (h_x34).1; have := (h_x34).2; have := (h_x36).1; have := (h_x36).2; have := (h_x38).1; have := (h_x38).2; have := (h59).1; have := (h59).2; have := (h61).1; have := (h61).2; omega
              exact ih_29 x166 x175 x195 M189 R30 J188 H locs _ h165 k202 h173 k199 (iv_mono h194 (by decide) (by decide)) k196 w203 w204 w205 w206 hm207 hS (lv_sub hl [1] rfl)
            · have q208 : x163.toInt = 0 := ti_eq c169
              have h209 : iv 0 0 x163 := ⟨by have := (h_x163).1; have := ((iv_c (c := 0) (n := 0) (by decide))).1; omega, by have := (h_x163).2; have := ((iv_c (c := 0) (n := 0) (by decide))).2; omega⟩
              refine lv_iconst (v := 0) hx hb dX12_sum_64 (by decide) ?_
              have q210 : nx.toInt ≤ x166.toInt ∧ x166.toInt ≤ tp.toInt := by
                have := (h_le).1; have := (h_le).2; have := (h_md).1; have := (h_md).2; have := (h_nx).1; have := (h_nx).2; have := (h_tp).1; have := (h_tp).2; have := (h_tx).1; have := (h_tx).2; have := (h13).1; have := (h13).2; have := (h140).1; have := (h140).2; have := (h165).1; have := (h165).2; have := (h20).1; have := (h20).2; have := (h_x34).1; have := (h_x34).2; have := (h_x36).1; have := (h_x36).2; have := (h_x38).1; have := (h_x38).2; have := (h59).1; have := (h59).2; have := (h61).1; have := (h61).2; omega
              exact tw_endz hx hb hr hlocks hK hT hS hQ rfl (⟨(iv_mono (iv_c (c := 0) (n := 0) (by decide)) (by decide) (by decide)), ⟨z168, ⟨x166, k167, h165, q210.1, q210.2⟩, (fun h => absurd rfl h)⟩⟩) dX12_sum_65
        · have q211 : ¬ x49.toInt = 43 := ti_ne c57
          refine lv_aload_n hx hb dX12_sum_18 rfl (lv_at hl 0 rfl) ?_
          have k212 : R30 a0 0 = some tb := (Fr.kp (k := 0) g33 hk_a0 rfl).trans k_tb
          have k213 : M46 a0 1 = tp := ((Fr.kp (k := 1) f43 hk_a0 rfl).trans (Fr.kp (k := 1) f32 hk_a0 rfl)).trans k_tp
          have q214 : x53.toInt ≤ tp.toInt := by
            have := (h_le).1; have := (h_le).2; have := (h_md).1; have := (h_md).2; have := (h_nx).1; have := (h_nx).2; have := (h_tp).1; have := (h_tp).2; have := (h_tx).1; have := (h_tx).2; have := (h13).1; have := (h13).2; have := (h20).1; have := (h20).2; have := (h_x34).1; have := (h_x34).2; have := (h_x36).1; have := (h_x36).2; have := (h_x38).1; have := (h_x38).2; have := (h_x49).1; have := (h_x49).2; have := (h52).1; have := (h52).2; omega
          refine tw_goi hS (md_runV (As := []) (rest := []) hx hb hml hown hW hK hT hS.1 (t_X12_see l D cy tx base Z K N M46 R30 J45 hS.2.1 a0 hz_a0 hk_a0 tb k212 x53 k51 (iv_mono h52 (by decide) (by decide)) tp k213 (iv_mono h_tp (by decide) (by decide)) q214) s_X12_130 ⟨rfl, rfl, ⟨Nat.le_of_ble_eq_true rfl, Nat.le_of_ble_eq_true rfl⟩, ⟨Nat.le_of_ble_eq_true rfl, Nat.le_of_ble_eq_true rfl⟩⟩ hz_a0 hk_a0 (by decide) rfl rfl hl.1 rfl (Nat.le_of_ble_eq_true rfl) dX12_sum_19) rfl rfl (fun x221 H locs M218 R219 J217 hS f215 g216 E220 => ?_)
          have eR219 := Fr.nil g216 rfl
          subst eR219
          obtain ⟨h_x221, p222⟩ := E220
          obtain ⟨x225, k223, h224, q226, z227⟩ := p222
          have k223 : M218 a0 13 = x225 := k223
          refine lv_bipush (v := 45) hx hb dX12_sum_22 (by decide) ?_
          refine lv_icmp_ne (tgt := 75) hx hb dX12_sum_24 (by decide) (fun c229 => ?_) (fun c229 => ?_)
          · have q230 : ¬ x221.toInt = 45 := ti_ne c229
            refine lv_iconst (v := 1) hx hb dX12_sum_75 (by decide) ?_
            have q231 : nx.toInt ≤ x225.toInt ∧ x225.toInt ≤ tp.toInt := by
              have := (h_le).1; have := (h_le).2; have := (h_md).1; have := (h_md).2; have := (h_nx).1; have := (h_nx).2; have := (h_tp).1; have := (h_tp).2; have := (h_tx).1; have := (h_tx).2; have := (h13).1; have := (h13).2; have := (h20).1; have := (h20).2; have := (h_x221).1; have := (h_x221).2; have := (h224).1; have := (h224).2; have := (h_x34).1; have := (h_x34).2; have := (h_x36).1; have := (h_x36).2; have := (h_x38).1; have := (h_x38).2; have := (h_x49).1; have := (h_x49).2; have := (h52).1; have := (h52).2; omega
            have k232 : M218 lg tx.toNatClampNeg = x38 := ((Fr.kpa f215 hk_lg rfl tx.toNatClampNeg).trans (Fr.kpa f43 hk_lg rfl tx.toNatClampNeg)).trans k39
            have k233 : M218 a0 17 = x36 := ((Fr.kp (k := 17) f215 hk_a0 rfl).trans (Fr.kp (k := 17) f43 hk_a0 rfl)).trans k37
            have q234 : le.toInt ≤ x38.toInt ∧ x38.toInt - le.toInt ≤ x225.toInt - nx.toInt ∧ ((sh + 1 : Nat) : Int) ≤ x36.toInt := by
              have := (h_le).1; have := (h_le).2; have := (h_md).1; have := (h_md).2; have := (h_nx).1; have := (h_nx).2; have := (h_tp).1; have := (h_tp).2; have := (h_tx).1; have := (h_tx).2; have := (h13).1; have := (h13).2; have := (h20).1; have := (h20).2; have := (h_x221).1; have := (h_x221).2; have := (h224).1; have := (h224).2; have := (h_x34).1; have := (h_x34).2; have := (h_x36).1; have := (h_x36).2; have := (h_x38).1; have := (h_x38).2; have := (h_x49).1; have := (h_x49).2; have := (h52).1; have := (h52).2; omega
            exact tw_endz hx hb hr hlocks hK hT hS hQ rfl (⟨(iv_mono (iv_c (c := 1) (n := 1) (by decide)) (by decide) (by decide)), ⟨(fun j hj => (Fr.kpa f215 hk_sg rfl j).trans ((fun j hj => (Fr.kpa f43 hk_sg rfl j).trans (w3_29 j hj)) j hj)), ⟨x225, k223, h224, q231.1, q231.2⟩, fun _ => ⟨x225, x38, x36, k223, k232, k233, h_x38, q234.1, q234.2.1, q234.2.2, (SEG.to (SEG.to w2_29 (fun j _ _ => Fr.kpa f43 hk_sg rfl j)) (fun j _ _ => Fr.kpa f215 hk_sg rfl j))⟩⟩⟩) dX12_sum_76
          · have q235 : x221.toInt = 45 := ti_eq c229
            have h236 : iv 45 45 x221 := ⟨by have := (h_x221).1; have := ((iv_c (c := 45) (n := 45) (by decide))).1; omega, by have := (h_x221).2; have := ((iv_c (c := 45) (n := 45) (by decide))).2; omega⟩
            refine lv_aload_n hx hb dX12_sum_27 rfl (lv_at hl 0 rfl) ?_
            have k237 : R30 a0 0 = some tb := (Fr.kp (k := 0) g33 hk_a0 rfl).trans k_tb
            refine tw_getrk hx hb hW hown hK hS f_X12_7_11 hz_a0 hk_a0 (b := tb) k237 dX12_sum_28 ?_
            refine lv_aload_n hx hb dX12_sum_31 rfl (lv_at hl 0 rfl) ?_
            refine tw_getk hx hb hW hown hK hS f_X12_127_11 hz_a0 hk_a0 (v := x225) k223 dX12_sum_32 ?_
            have h238 : iv 0 399 x225 := by
              have := (h_le).1; have := (h_le).2; have := (h_md).1; have := (h_md).2; have := (h_nx).1; have := (h_nx).2; have := (h_tp).1; have := (h_tp).2; have := (h_tx).1; have := (h_tx).2; have := (h13).1; have := (h13).2; have := (h20).1; have := (h20).2; have := (h236).1; have := (h236).2; have := (h224).1; have := (h224).2; have := (h_x34).1; have := (h_x34).2; have := (h_x36).1; have := (h_x36).2; have := (h_x38).1; have := (h_x38).2; have := (h_x49).1; have := (h_x49).2; have := (h52).1; have := (h52).2; exact ⟨by omega, by omega⟩
            refine tw_bald hx hb hK hS hz_tb hk_tb hn_tb h238 ⟨by decide, by decide⟩ dX12_sum_35 (fun x241 k240 => ?_)
            have h239 := iv_any x241
            refine lv_bipush (v := 43) hx hb dX12_sum_36 (by decide) ?_
            refine lv_icmp_ne (tgt := 45) hx hb dX12_sum_38 (by decide) (fun c242 => ?_) (fun c242 => ?_)
            · have q243 : ¬ x241.toInt = 43 := ti_ne c242
              refine lv_iconst (v := 3) hx hb dX12_sum_45 (by decide) ?_
              refine lv_istore_n (lv' := [(1, .int 3), (0, .ref (base + a0))]) hx hb dX12_sum_46 rfl hl (by decide) rfl (fun ls hl => ?_)
              refine lv_aload_n hx hb dX12_sum_47 rfl (lv_at hl 1 rfl) ?_
              refine lv_dup hx hb dX12_sum_48 rfl ?_
              refine tw_getk hx hb hW hown hK hS f_X12_127_11 hz_a0 hk_a0 (v := x225) k223 dX12_sum_49 ?_
              refine lv_iconst (v := 1) hx hb dX12_sum_52 (by decide) ?_
              refine tw_iadd (lo := 1) (hi := 400) hx hb h238 (iv_c (c := 1) (n := 1) (by decide)) ⟨by decide, by decide⟩ ⟨by decide, by decide⟩ dX12_sum_53 (fun x246 e245 h244 => ?_)
              have e245 : x246.toInt = x225.toInt + 1 := e245
              refine tw_puti hx hb hW hown hK hS f_X12_127_11 hz_a0 hk_a0 rfl rfl (lo := 0) (hi := 400) rfl (iv_mono h244 (by decide) (by decide)) rfl dX12_sum_54 (fun H locs M249 hS k247 f248 => ?_)
              refine lv_aload_n hx hb dX12_sum_57 rfl (lv_at hl 1 rfl) ?_
              have k250 : R30 a0 0 = some tb := (Fr.kp (k := 0) g33 hk_a0 rfl).trans k_tb
              have k251 : M249 a0 1 = tp := ((Fr.kp (k := 1) f248 hk_a0 rfl).trans ((Fr.kp (k := 1) f215 hk_a0 rfl).trans ((Fr.kp (k := 1) f43 hk_a0 rfl).trans (Fr.kp (k := 1) f32 hk_a0 rfl)))).trans k_tp
              have q252 : x246.toInt ≤ tp.toInt := by
                have := (h_le).1; have := (h_le).2; have := (h_md).1; have := (h_md).2; have := (h_nx).1; have := (h_nx).2; have := (h_tp).1; have := (h_tp).2; have := (h_tx).1; have := (h_tx).2; have := (h13).1; have := (h13).2; have := (h20).1; have := (h20).2; have := (h236).1; have := (h236).2; have := (h238).1; have := (h238).2; have := (h244).1; have := (h244).2; have := (h_x34).1; have := (h_x34).2; have := (h_x36).1; have := (h_x36).2; have := (h_x38).1; have := (h_x38).2; have := (h_x49).1; have := (h_x49).2; have := (h52).1; have := (h52).2; omega
              have k253 : R30 a0 4 = some lg := (Fr.kp (k := 4) g33 hk_a0 rfl).trans k_lg
              have k254 : R30 a0 3 = some sg := (Fr.kp (k := 3) g33 hk_a0 rfl).trans k_sg
              have k255 : M249 a0 16 = tx := ((Fr.kp (k := 16) f248 hk_a0 rfl).trans ((Fr.kp (k := 16) f215 hk_a0 rfl).trans ((Fr.kp (k := 16) f43 hk_a0 rfl).trans (Fr.kp (k := 16) f32 hk_a0 rfl)))).trans k_tx
              have k256 : M249 lg tx.toNatClampNeg = x38 := ((Fr.kpa f248 hk_lg rfl tx.toNatClampNeg).trans ((Fr.kpa f215 hk_lg rfl tx.toNatClampNeg).trans (Fr.kpa f43 hk_lg rfl tx.toNatClampNeg))).trans k39
              have k257 : M249 a0 17 = x36 := ((Fr.kp (k := 17) f248 hk_a0 rfl).trans ((Fr.kp (k := 17) f215 hk_a0 rfl).trans (Fr.kp (k := 17) f43 hk_a0 rfl))).trans k37
              have q258 : ((sb : Nat) : Int) ≤ x38.toInt := by
                have := (h_le).1; have := (h_le).2; have := (h_md).1; have := (h_md).2; have := (h_nx).1; have := (h_nx).2; have := (h_tp).1; have := (h_tp).2; have := (h_tx).1; have := (h_tx).2; have := (h13).1; have := (h13).2; have := (h20).1; have := (h20).2; have := (h238).1; have := (h238).2; have := (h_x34).1; have := (h_x34).2; have := (h_x36).1; have := (h_x36).2; have := (h_x38).1; have := (h_x38).2; have := (h52).1; have := (h52).2; omega
              have q259 : ((sh + 1 : Nat) : Int) ≤ x36.toInt := by
                have := (h_le).1; have := (h_le).2; have := (h_md).1; have := (h_md).2; have := (h_nx).1; have := (h_nx).2; have := (h_tp).1; have := (h_tp).2; have := (h_tx).1; have := (h_tx).2; have := (h13).1; have := (h13).2; have := (h20).1; have := (h20).2; have := (h238).1; have := (h238).2; have := (h_x34).1; have := (h_x34).2; have := (h_x36).1; have := (h_x36).2; have := (h_x38).1; have := (h_x38).2; have := (h52).1; have := (h52).2; omega
              have q260 : x38.toInt ≤ x246.toInt := by
                have := (h_le).1; have := (h_le).2; have := (h_md).1; have := (h_md).2; have := (h_nx).1; have := (h_nx).2; have := (h_tp).1; have := (h_tp).2; have := (h_tx).1; have := (h_tx).2; have := (h13).1; have := (h13).2; have := (h20).1; have := (h20).2; have := (h236).1; have := (h236).2; have := (h238).1; have := (h238).2; have := (h244).1; have := (h244).2; have := (h_x34).1; have := (h_x34).2; have := (h_x36).1; have := (h_x36).2; have := (h_x38).1; have := (h_x38).2; have := (h_x49).1; have := (h_x49).2; have := (h52).1; have := (h52).2; omega
              refine tw_goi hS (md_runV (As := []) (rest := []) hx hb hml hown hW hK hT hS.1 (t_X12_term l D cy tx base Z K N M249 R30 J217 hS.2.1 a0 hz_a0 hk_a0 tb k250 x246 k247 (iv_mono h244 (by decide) (by decide)) tp k251 (iv_mono h_tp (by decide) (by decide)) q252 lg k253 sg k254 tx k255 (iv_mono h_tx (by decide) (by decide)) x38 k256 (iv_mono h_x38 (by decide) (by decide)) x36 k257 (iv_mono h_x36 (by decide) (by decide)) (sb) (sh + 1) (SEG.to (SEG.to (SEG.to w2_29 (fun j _ _ => Fr.kpa f43 hk_sg rfl j)) (fun j _ _ => Fr.kpa f215 hk_sg rfl j)) (fun j _ _ => Fr.kpa f248 hk_sg rfl j)) q258 q259 q260) s_X12_213 ⟨rfl, rfl, ⟨Nat.le_of_ble_eq_true rfl, Nat.le_of_ble_eq_true rfl⟩, ⟨Nat.le_of_ble_eq_true rfl, Nat.le_of_ble_eq_true rfl⟩⟩ hz_a0 hk_a0 (by decide) rfl rfl hl.1 rfl (Nat.le_of_ble_eq_true rfl) dX12_sum_58) rfl rfl (fun x267 H locs M264 R265 J263 hS f261 g262 E266 => ?_)
              have eR265 := Fr.nil g262 rfl
              subst eR265
              obtain ⟨h_x267, p268⟩ := E266
              obtain ⟨zf268, ⟨x270, k271, h269, zu268, zv268⟩, zc268⟩ := p268
              have k271 : M264 a0 13 = x270 := k271
              have zw268 := ti_cl (x := le) (by have := h_le.1; omega); have zy268 := ti_cl (x := x38) (by have := (h_x38).1; omega)
              have z272 : ∀ j, j < 400 * tx.toNatClampNeg + le.toNatClampNeg → M264 sg j = Ma sg j := fun j hj => (zf268 j (by omega)).trans ((fun j hj => (Fr.kpa f248 hk_sg rfl j).trans ((fun j hj => (Fr.kpa f215 hk_sg rfl j).trans ((fun j hj => (Fr.kpa f43 hk_sg rfl j).trans (w3_29 j hj)) j hj)) j hj)) j hj)
              refine lv_if_ne (tgt := 66) hx hb dX12_sum_61 (by decide) (fun c273 => ?_) (fun c273 => ?_)
              · have q274 : ¬ x267.toInt = 0 := ti_ne c273
                have h275 : iv 1 1 x267 := ⟨by have := (h_x267).1; have := ((iv_c (c := 0) (n := 0) (by decide))).1; have := ((iv_c (c := 0) (n := 0) (by decide))).2; omega, by have := (h_x267).2; have := ((iv_c (c := 0) (n := 0) (by decide))).1; have := ((iv_c (c := 0) (n := 0) (by decide))).2; omega⟩
                obtain ⟨x282, x278, x279, k283, k280, k281, h276, za275, zb275, zd275, z284⟩ := zc268 c273
                have ze275 : x282 = x270 := k283.symm.trans k271
                rw [ze275] at zb275
                have k280 : M264 lg tx.toNatClampNeg = x278 := k280
                have k281 : M264 a0 17 = x279 := k281
                have h277 : iv 0 60 x279 := by rw [← k281]; exact hS.2.1.int hz_a0 hk_a0 (show rgI 12 17 = (0, 60) from rfl)
                have z285 : SEG M264 sg tx.toNatClampNeg sb x278.toNatClampNeg (sh + 2) := SEG.cast z284 rfl (by omega)
                refine lv_aload_n hx hb dX12_sum_66 rfl (lv_at hl 1 rfl) ?_
                refine lv_iload_n hx hb dX12_sum_67 rfl (lv_at hl 0 rfl) ?_
                refine lv_iconst (v := 0) hx hb dX12_sum_68 (by decide) ?_
                have k286 : R30 a0 3 = some sg := (Fr.kp (k := 3) g33 hk_a0 rfl).trans k_sg
                have k287 : R30 a0 4 = some lg := (Fr.kp (k := 4) g33 hk_a0 rfl).trans k_lg
                have k288 : M264 a0 16 = tx := ((Fr.kp (k := 16) f261 hk_a0 rfl).trans ((Fr.kp (k := 16) f248 hk_a0 rfl).trans ((Fr.kp (k := 16) f215 hk_a0 rfl).trans ((Fr.kp (k := 16) f43 hk_a0 rfl).trans (Fr.kp (k := 16) f32 hk_a0 rfl))))).trans k_tx
                have h289 : iv 0 399 x278 := by
                  have := (h_le).1; have := (h_le).2; have := (h_md).1; have := (h_md).2; have := (h_nx).1; have := (h_nx).2; have := (h_tp).1; have := (h_tp).2; have := (h_tx).1; have := (h_tx).2; have := (h13).1; have := (h13).2; have := (h20).1; have := (h20).2; have := (h236).1; have := (h236).2; have := (h238).1; have := (h238).2; have := (h244).1; have := (h244).2; have := (h269).1; have := (h269).2; have := (h276).1; have := (h276).2; have := (h_x34).1; have := (h_x34).2; have := (h_x36).1; have := (h_x36).2; have := (h_x38).1; have := (h_x38).2; have := (h_x49).1; have := (h_x49).2; have := (h52).1; have := (h52).2; exact ⟨by omega, by omega⟩
                refine tw_gov hS (md_runV (As := [.int 3, .int 0]) (rest := []) hx hb hml hown hW hK hT hS.1 (t_X12_puts l D cy tx base Z K N M264 R30 J263 hS.2.1 a0 hz_a0 hk_a0 3 (iv_mono (iv_c (c := 3) (n := 3) (by decide)) (by decide) (by decide)) 0 (iv_mono (iv_c (c := 0) (n := 0) (by decide)) (by decide) (by decide)) sg k286 lg k287 tx k288 (iv_mono h_tx (by decide) (by decide)) x278 k280 h289) s_X12_195 ⟨rfl, rfl, ⟨Nat.le_of_ble_eq_true rfl, Nat.le_of_ble_eq_true rfl⟩, ⟨Nat.le_of_ble_eq_true rfl, Nat.le_of_ble_eq_true rfl⟩⟩ hz_a0 hk_a0 (by decide) rfl rfl hl.1 rfl (Nat.le_of_ble_eq_true rfl) dX12_sum_69) rfl rfl (fun H locs M293 R294 J292 hS f290 g291 E295 => ?_)
                have eR294 := Fr.nil g291 rfl
                subst eR294
                have p296 := E295
                obtain ⟨x297, x299, zc296, zd296, zo296, k300, h298, zl296⟩ := p296
                have k300 : M293 lg tx.toNatClampNeg = x299 := k300
                have zt296 := ti_cl (x := tx) (by have := h_tx.1; omega); have zn296 := ti_cl (x := x278) (by have := (h276).1; omega); have zm296 := ti_cl (x := x299) (by have := (h298).1; omega)
                have q301 : (3 : Int32).toInt = 3 := (by decide)
                have q302 : (0 : Int32).toInt = 0 := (by decide)
                have k303 : M293 a0 17 = x279 := (Fr.kp (k := 17) f290 hk_a0 rfl).trans k281
                have zs296 := stp_two (h := sh + 2) (show x297.toInt = (3 : Int32).toInt + 16 * 0 by omega) (by have := ((iv_c (c := 3) (n := 3) (by decide))).1; have := ((iv_c (c := 3) (n := 3) (by decide))).2; have := ((iv_c (c := 0) (n := 0) (by decide))).1; have := ((iv_c (c := 0) (n := 0) (by decide))).2; omega) (by omega)
                have z304 : SEG M293 sg tx.toNatClampNeg sb x299.toNatClampNeg (sh + 1) := SEG.cast (SEG.ext z285 (by omega) zd296 zo296 zs296) (by omega) (by omega)
                have zw296 := ti_cl (x := le) (by have := h_le.1; omega)
                have z305 : ∀ j, j < 400 * tx.toNatClampNeg + le.toNatClampNeg → M293 sg j = Ma sg j := fun j hj => (zo296 j (by omega)).trans (z272 j hj)
                refine lv_goto (tgt := 9) hx hb dX12_sum_72 (by decide) ?_
                have k306 : M293 a0 13 = x270 := (Fr.kp (k := 13) f290 hk_a0 rfl).trans k271
                have w307 : nx.toInt ≤ x270.toInt ∧ x270.toInt ≤ tp.toInt := by
                  have := (h_le).1; have := (h_le).2; have := (h_md).1; have := (h_md).2; have := (h_nx).1; have := (h_nx).2; have := (h_tp).1; have := (h_tp).2; have := (h_tx).1; have := (h_tx).2; have := (h13).1; have := (h13).2; have := (h20).1; have := (h20).2; have := (h236).1; have := (h236).2; have := (h238).1; have := (h238).2; have := (h244).1; have := (h244).2; have := (h269).1; have := (h269).2; have := (h276).1; have := (h276).2; have := (h298).1; have := (h298).2; have := (h_x34).1; have := (h_x34).2; have := (h_x36).1; have := (h_x36).2; have := (h_x38).1; have := (h_x38).2; have := (h_x49).1; have := (h_x49).2; have := (h52).1; have := (h52).2; omega
                have w308 : le.toInt ≤ x299.toInt ∧ x299.toInt - le.toInt ≤ x270.toInt - nx.toInt ∧ ((sh + 1 : Nat) : Int) ≤ x279.toInt := by
                  have := (h_le).1; have := (h_le).2; have := (h_md).1; have := (h_md).2; have := (h_nx).1; have := (h_nx).2; have := (h_tp).1; have := (h_tp).2; have := (h_tx).1; have := (h_tx).2; have := (h13).1; have := (h13).2; have := (h20).1; have := (h20).2; have := (h236).1; have := (h236).2; have := (h238).1; have := (h238).2; have := (h244).1; have := (h244).2; have := (h269).1; have := (h269).2; have := (h276).1; have := (h276).2; have := (h277).1; have := (h277).2; have := (h298).1; have := (h298).2; have := (h_x34).1; have := (h_x34).2; have := (h_x36).1; have := (h_x36).2; have := (h_x38).1; have := (h_x38).2; have := (h_x49).1; have := (h_x49).2; have := (h52).1; have := (h52).2; omega
                have w309 : SEG M293 sg tx.toNatClampNeg sb x299.toNatClampNeg (sh + 1) := z304
                have w310 : ∀ j, j < 400 * tx.toNatClampNeg + le.toNatClampNeg → M293 sg j = Ma sg j := z305
                have hm311 : 400 - x270.toInt < (n_29 : Int) := by
                  have := (h_le).1; have := (h_le).2; have := (h_md).1; have := (h_md).2; have := (h_nx).1; have := (h_nx).2; have := (h_tp).1; have := (h_tp).2; have := (h_tx).1; have := (h_tx).2; have := (h13).1; have := (h13).2; have := (h20).1; have := (h20).2; have := (h236).1; have := (h236).2; have := (h238).1; have := (h238).2; have := (h244).1; have := (h244).2; have := (h269).1; have := (h269).2; have := (h276).1; have := (h276).2; have := (h298).1; have := (h298).2; have := (h_x34).1; have := (h_x34).2; have := (h_x36).1; have := (h_x36).2; have := (h_x38).1; have := (h_x38).2; have := (h_x49).1; have := (h_x49).2; have := (h52).1; have := (h52).2; omega
                exact ih_29 x270 x279 x299 M293 R30 J292 H locs _ h269 k306 h277 k303 (iv_mono h298 (by decide) (by decide)) k300 w307 w308 w309 w310 hm311 hS (lv_sub hl [1] rfl)
              · have q312 : x267.toInt = 0 := ti_eq c273
                have h313 : iv 0 0 x267 := ⟨by have := (h_x267).1; have := ((iv_c (c := 0) (n := 0) (by decide))).1; omega, by have := (h_x267).2; have := ((iv_c (c := 0) (n := 0) (by decide))).2; omega⟩
                refine lv_iconst (v := 0) hx hb dX12_sum_64 (by decide) ?_
                have q314 : nx.toInt ≤ x270.toInt ∧ x270.toInt ≤ tp.toInt := by
                  have := (h_le).1; have := (h_le).2; have := (h_md).1; have := (h_md).2; have := (h_nx).1; have := (h_nx).2; have := (h_tp).1; have := (h_tp).2; have := (h_tx).1; have := (h_tx).2; have := (h13).1; have := (h13).2; have := (h20).1; have := (h20).2; have := (h236).1; have := (h236).2; have := (h238).1; have := (h238).2; have := (h244).1; have := (h244).2; have := (h269).1; have := (h269).2; have := (h_x34).1; have := (h_x34).2; have := (h_x36).1; have := (h_x36).2; have := (h_x38).1; have := (h_x38).2; have := (h_x49).1; have := (h_x49).2; have := (h52).1; have := (h52).2; omega
                exact tw_endz hx hb hr hlocks hK hT hS hQ rfl (⟨(iv_mono (iv_c (c := 0) (n := 0) (by decide)) (by decide) (by decide)), ⟨z272, ⟨x270, k271, h269, q314.1, q314.2⟩, (fun h => absurd rfl h)⟩⟩) dX12_sum_65
            · have q315 : x241.toInt = 43 := ti_eq c242
              have h316 : iv 43 43 x241 := ⟨by have := (h239).1; have := ((iv_c (c := 43) (n := 43) (by decide))).1; omega, by have := (h239).2; have := ((iv_c (c := 43) (n := 43) (by decide))).2; omega⟩
              refine lv_iconst (v := 2) hx hb dX12_sum_41 (by decide) ?_
              refine lv_goto (tgt := 46) hx hb dX12_sum_42 (by decide) ?_
              refine lv_istore_n (lv' := [(1, .int 2), (0, .ref (base + a0))]) hx hb dX12_sum_46 rfl hl (by decide) rfl (fun ls hl => ?_)
              refine lv_aload_n hx hb dX12_sum_47 rfl (lv_at hl 1 rfl) ?_
              refine lv_dup hx hb dX12_sum_48 rfl ?_
              refine tw_getk hx hb hW hown hK hS f_X12_127_11 hz_a0 hk_a0 (v := x225) k223 dX12_sum_49 ?_
              refine lv_iconst (v := 1) hx hb dX12_sum_52 (by decide) ?_
              refine tw_iadd (lo := 1) (hi := 400) hx hb h238 (iv_c (c := 1) (n := 1) (by decide)) ⟨by decide, by decide⟩ ⟨by decide, by decide⟩ dX12_sum_53 (fun x319 e318 h317 => ?_)
              have e318 : x319.toInt = x225.toInt + 1 := e318
              refine tw_puti hx hb hW hown hK hS f_X12_127_11 hz_a0 hk_a0 rfl rfl (lo := 0) (hi := 400) rfl (iv_mono h317 (by decide) (by decide)) rfl dX12_sum_54 (fun H locs M322 hS k320 f321 => ?_)
              refine lv_aload_n hx hb dX12_sum_57 rfl (lv_at hl 1 rfl) ?_
              have k323 : R30 a0 0 = some tb := (Fr.kp (k := 0) g33 hk_a0 rfl).trans k_tb
              have k324 : M322 a0 1 = tp := ((Fr.kp (k := 1) f321 hk_a0 rfl).trans ((Fr.kp (k := 1) f215 hk_a0 rfl).trans ((Fr.kp (k := 1) f43 hk_a0 rfl).trans (Fr.kp (k := 1) f32 hk_a0 rfl)))).trans k_tp
              have q325 : x319.toInt ≤ tp.toInt := by
                have := (h_le).1; have := (h_le).2; have := (h_md).1; have := (h_md).2; have := (h_nx).1; have := (h_nx).2; have := (h_tp).1; have := (h_tp).2; have := (h_tx).1; have := (h_tx).2; have := (h13).1; have := (h13).2; have := (h20).1; have := (h20).2; have := (h236).1; have := (h236).2; have := (h238).1; have := (h238).2; have := (h317).1; have := (h317).2; have := (h_x34).1; have := (h_x34).2; have := (h_x36).1; have := (h_x36).2; have := (h_x38).1; have := (h_x38).2; have := (h_x49).1; have := (h_x49).2; have := (h52).1; have := (h52).2; omega
              have k326 : R30 a0 4 = some lg := (Fr.kp (k := 4) g33 hk_a0 rfl).trans k_lg
              have k327 : R30 a0 3 = some sg := (Fr.kp (k := 3) g33 hk_a0 rfl).trans k_sg
              have k328 : M322 a0 16 = tx := ((Fr.kp (k := 16) f321 hk_a0 rfl).trans ((Fr.kp (k := 16) f215 hk_a0 rfl).trans ((Fr.kp (k := 16) f43 hk_a0 rfl).trans (Fr.kp (k := 16) f32 hk_a0 rfl)))).trans k_tx
              have k329 : M322 lg tx.toNatClampNeg = x38 := ((Fr.kpa f321 hk_lg rfl tx.toNatClampNeg).trans ((Fr.kpa f215 hk_lg rfl tx.toNatClampNeg).trans (Fr.kpa f43 hk_lg rfl tx.toNatClampNeg))).trans k39
              have k330 : M322 a0 17 = x36 := ((Fr.kp (k := 17) f321 hk_a0 rfl).trans ((Fr.kp (k := 17) f215 hk_a0 rfl).trans (Fr.kp (k := 17) f43 hk_a0 rfl))).trans k37
              have q331 : ((sb : Nat) : Int) ≤ x38.toInt := by
                have := (h_le).1; have := (h_le).2; have := (h_md).1; have := (h_md).2; have := (h_nx).1; have := (h_nx).2; have := (h_tp).1; have := (h_tp).2; have := (h_tx).1; have := (h_tx).2; have := (h13).1; have := (h13).2; have := (h20).1; have := (h20).2; have := (h238).1; have := (h238).2; have := (h_x34).1; have := (h_x34).2; have := (h_x36).1; have := (h_x36).2; have := (h_x38).1; have := (h_x38).2; have := (h52).1; have := (h52).2; omega
              have q332 : ((sh + 1 : Nat) : Int) ≤ x36.toInt := by
                have := (h_le).1; have := (h_le).2; have := (h_md).1; have := (h_md).2; have := (h_nx).1; have := (h_nx).2; have := (h_tp).1; have := (h_tp).2; have := (h_tx).1; have := (h_tx).2; have := (h13).1; have := (h13).2; have := (h20).1; have := (h20).2; have := (h238).1; have := (h238).2; have := (h_x34).1; have := (h_x34).2; have := (h_x36).1; have := (h_x36).2; have := (h_x38).1; have := (h_x38).2; have := (h52).1; have := (h52).2; omega
              have q333 : x38.toInt ≤ x319.toInt := by
                have := (h_le).1; have := (h_le).2; have := (h_md).1; have := (h_md).2; have := (h_nx).1; have := (h_nx).2; have := (h_tp).1; have := (h_tp).2; have := (h_tx).1; have := (h_tx).2; have := (h13).1; have := (h13).2; have := (h20).1; have := (h20).2; have := (h236).1; have := (h236).2; have := (h238).1; have := (h238).2; have := (h317).1; have := (h317).2; have := (h_x34).1; have := (h_x34).2; have := (h_x36).1; have := (h_x36).2; have := (h_x38).1; have := (h_x38).2; have := (h_x49).1; have := (h_x49).2; have := (h52).1; have := (h52).2; omega
              refine tw_goi hS (md_runV (As := []) (rest := []) hx hb hml hown hW hK hT hS.1 (t_X12_term l D cy tx base Z K N M322 R30 J217 hS.2.1 a0 hz_a0 hk_a0 tb k323 x319 k320 (iv_mono h317 (by decide) (by decide)) tp k324 (iv_mono h_tp (by decide) (by decide)) q325 lg k326 sg k327 tx k328 (iv_mono h_tx (by decide) (by decide)) x38 k329 (iv_mono h_x38 (by decide) (by decide)) x36 k330 (iv_mono h_x36 (by decide) (by decide)) (sb) (sh + 1) (SEG.to (SEG.to (SEG.to w2_29 (fun j _ _ => Fr.kpa f43 hk_sg rfl j)) (fun j _ _ => Fr.kpa f215 hk_sg rfl j)) (fun j _ _ => Fr.kpa f321 hk_sg rfl j)) q331 q332 q333) s_X12_213 ⟨rfl, rfl, ⟨Nat.le_of_ble_eq_true rfl, Nat.le_of_ble_eq_true rfl⟩, ⟨Nat.le_of_ble_eq_true rfl, Nat.le_of_ble_eq_true rfl⟩⟩ hz_a0 hk_a0 (by decide) rfl rfl hl.1 rfl (Nat.le_of_ble_eq_true rfl) dX12_sum_58) rfl rfl (fun x340 H locs M337 R338 J336 hS f334 g335 E339 => ?_)
              have eR338 := Fr.nil g335 rfl
              subst eR338
              obtain ⟨h_x340, p341⟩ := E339
              obtain ⟨zf341, ⟨x343, k344, h342, zu341, zv341⟩, zc341⟩ := p341
              have k344 : M337 a0 13 = x343 := k344
              have zw341 := ti_cl (x := le) (by have := h_le.1; omega); have zy341 := ti_cl (x := x38) (by have := (h_x38).1; omega)
              have z345 : ∀ j, j < 400 * tx.toNatClampNeg + le.toNatClampNeg → M337 sg j = Ma sg j := fun j hj => (zf341 j (by omega)).trans ((fun j hj => (Fr.kpa f321 hk_sg rfl j).trans ((fun j hj => (Fr.kpa f215 hk_sg rfl j).trans ((fun j hj => (Fr.kpa f43 hk_sg rfl j).trans (w3_29 j hj)) j hj)) j hj)) j hj)
              refine lv_if_ne (tgt := 66) hx hb dX12_sum_61 (by decide) (fun c346 => ?_) (fun c346 => ?_)
              · have q347 : ¬ x340.toInt = 0 := ti_ne c346
                have h348 : iv 1 1 x340 := ⟨by have := (h_x340).1; have := ((iv_c (c := 0) (n := 0) (by decide))).1; have := ((iv_c (c := 0) (n := 0) (by decide))).2; omega, by have := (h_x340).2; have := ((iv_c (c := 0) (n := 0) (by decide))).1; have := ((iv_c (c := 0) (n := 0) (by decide))).2; omega⟩
                obtain ⟨x355, x351, x352, k356, k353, k354, h349, za348, zb348, zd348, z357⟩ := zc341 c346
                have ze348 : x355 = x343 := k356.symm.trans k344
                rw [ze348] at zb348
                have k353 : M337 lg tx.toNatClampNeg = x351 := k353
                have k354 : M337 a0 17 = x352 := k354
                have h350 : iv 0 60 x352 := by rw [← k354]; exact hS.2.1.int hz_a0 hk_a0 (show rgI 12 17 = (0, 60) from rfl)
                have z358 : SEG M337 sg tx.toNatClampNeg sb x351.toNatClampNeg (sh + 2) := SEG.cast z357 rfl (by omega)
                refine lv_aload_n hx hb dX12_sum_66 rfl (lv_at hl 1 rfl) ?_
                refine lv_iload_n hx hb dX12_sum_67 rfl (lv_at hl 0 rfl) ?_
                refine lv_iconst (v := 0) hx hb dX12_sum_68 (by decide) ?_
                have k359 : R30 a0 3 = some sg := (Fr.kp (k := 3) g33 hk_a0 rfl).trans k_sg
                have k360 : R30 a0 4 = some lg := (Fr.kp (k := 4) g33 hk_a0 rfl).trans k_lg
                have k361 : M337 a0 16 = tx := ((Fr.kp (k := 16) f334 hk_a0 rfl).trans ((Fr.kp (k := 16) f321 hk_a0 rfl).trans ((Fr.kp (k := 16) f215 hk_a0 rfl).trans ((Fr.kp (k := 16) f43 hk_a0 rfl).trans (Fr.kp (k := 16) f32 hk_a0 rfl))))).trans k_tx
                have h362 : iv 0 399 x351 := by
                  have := (h_le).1; have := (h_le).2; have := (h_md).1; have := (h_md).2; have := (h_nx).1; have := (h_nx).2; have := (h_tp).1; have := (h_tp).2; have := (h_tx).1; have := (h_tx).2; have := (h13).1; have := (h13).2; have := (h20).1; have := (h20).2; have := (h236).1; have := (h236).2; have := (h238).1; have := (h238).2; have := (h317).1; have := (h317).2; have := (h_x34).1; have := (h_x34).2; have := (h342).1; have := (h342).2; have := (h349).1; have := (h349).2; have := (h_x36).1; have := (h_x36).2; have := (h_x38).1; have := (h_x38).2; have := (h_x49).1; have := (h_x49).2; have := (h52).1; have := (h52).2; exact ⟨by omega, by omega⟩
                refine tw_gov hS (md_runV (As := [.int 2, .int 0]) (rest := []) hx hb hml hown hW hK hT hS.1 (t_X12_puts l D cy tx base Z K N M337 R30 J336 hS.2.1 a0 hz_a0 hk_a0 2 (iv_mono (iv_c (c := 2) (n := 2) (by decide)) (by decide) (by decide)) 0 (iv_mono (iv_c (c := 0) (n := 0) (by decide)) (by decide) (by decide)) sg k359 lg k360 tx k361 (iv_mono h_tx (by decide) (by decide)) x351 k353 h362) s_X12_195 ⟨rfl, rfl, ⟨Nat.le_of_ble_eq_true rfl, Nat.le_of_ble_eq_true rfl⟩, ⟨Nat.le_of_ble_eq_true rfl, Nat.le_of_ble_eq_true rfl⟩⟩ hz_a0 hk_a0 (by decide) rfl rfl hl.1 rfl (Nat.le_of_ble_eq_true rfl) dX12_sum_69) rfl rfl (fun H locs M366 R367 J365 hS f363 g364 E368 => ?_)
                have eR367 := Fr.nil g364 rfl
                subst eR367
                have p369 := E368
                obtain ⟨x370, x372, zc369, zd369, zo369, k373, h371, zl369⟩ := p369
                have k373 : M366 lg tx.toNatClampNeg = x372 := k373
                have zt369 := ti_cl (x := tx) (by have := h_tx.1; omega); have zn369 := ti_cl (x := x351) (by have := (h349).1; omega); have zm369 := ti_cl (x := x372) (by have := (h371).1; omega)
                have q374 : (2 : Int32).toInt = 2 := (by decide)
                have q375 : (0 : Int32).toInt = 0 := (by decide)
                have k376 : M366 a0 17 = x352 := (Fr.kp (k := 17) f363 hk_a0 rfl).trans k354
                have zs369 := stp_two (h := sh + 2) (show x370.toInt = (2 : Int32).toInt + 16 * 0 by omega) (by have := ((iv_c (c := 2) (n := 2) (by decide))).1; have := ((iv_c (c := 2) (n := 2) (by decide))).2; have := ((iv_c (c := 0) (n := 0) (by decide))).1; have := ((iv_c (c := 0) (n := 0) (by decide))).2; omega) (by omega)
                have z377 : SEG M366 sg tx.toNatClampNeg sb x372.toNatClampNeg (sh + 1) := SEG.cast (SEG.ext z358 (by omega) zd369 zo369 zs369) (by omega) (by omega)
                have zw369 := ti_cl (x := le) (by have := h_le.1; omega)
                have z378 : ∀ j, j < 400 * tx.toNatClampNeg + le.toNatClampNeg → M366 sg j = Ma sg j := fun j hj => (zo369 j (by omega)).trans (z345 j hj)
                refine lv_goto (tgt := 9) hx hb dX12_sum_72 (by decide) ?_
                have k379 : M366 a0 13 = x343 := (Fr.kp (k := 13) f363 hk_a0 rfl).trans k344
                have w380 : nx.toInt ≤ x343.toInt ∧ x343.toInt ≤ tp.toInt := by
                  have := (h_le).1; have := (h_le).2; have := (h_md).1; have := (h_md).2; have := (h_nx).1; have := (h_nx).2; have := (h_tp).1; have := (h_tp).2; have := (h_tx).1; have := (h_tx).2; have := (h13).1; have := (h13).2; have := (h20).1; have := (h20).2; have := (h236).1; have := (h236).2; have := (h238).1; have := (h238).2; have := (h317).1; have := (h317).2; have := (h_x34).1; have := (h_x34).2; have := (h342).1; have := (h342).2; have := (h349).1; have := (h349).2; have := (h_x36).1; have := (h_x36).2; have := (h371).1; have := (h371).2; have := (h_x38).1; have := (h_x38).2; have := (h_x49).1; have := (h_x49).2; have := (h52).1; have := (h52).2; omega
                have w381 : le.toInt ≤ x372.toInt ∧ x372.toInt - le.toInt ≤ x343.toInt - nx.toInt ∧ ((sh + 1 : Nat) : Int) ≤ x352.toInt := by
                  have := (h_le).1; have := (h_le).2; have := (h_md).1; have := (h_md).2; have := (h_nx).1; have := (h_nx).2; have := (h_tp).1; have := (h_tp).2; have := (h_tx).1; have := (h_tx).2; have := (h13).1; have := (h13).2; have := (h20).1; have := (h20).2; have := (h236).1; have := (h236).2; have := (h238).1; have := (h238).2; have := (h317).1; have := (h317).2; have := (h_x34).1; have := (h_x34).2; have := (h342).1; have := (h342).2; have := (h349).1; have := (h349).2; have := (h350).1; have := (h350).2; have := (h_x36).1; have := (h_x36).2; have := (h371).1; have := (h371).2; have := (h_x38).1; have := (h_x38).2; have := (h_x49).1; have := (h_x49).2; have := (h52).1; have := (h52).2; omega
                have w382 : SEG M366 sg tx.toNatClampNeg sb x372.toNatClampNeg (sh + 1) := z377
                have w383 : ∀ j, j < 400 * tx.toNatClampNeg + le.toNatClampNeg → M366 sg j = Ma sg j := z378
                have hm384 : 400 - x343.toInt < (n_29 : Int) := by
                  have := (h_le).1; have := (h_le).2; have := (h_md).1; have := (h_md).2; have := (h_nx).1; have := (h_nx).2; have := (h_tp).1; have := (h_tp).2; have := (h_tx).1; have := (h_tx).2; have := (h13).1; have := (h13).2; have := (h20).1; have := (h20).2; have := (h236).1; have := (h236).2; have := (h238).1; have := (h238).2; have := (h317).1; have := (h317).2; have := (h_x34).1; have := (h_x34).2; have := (h342).1; have := (h342).2; have := (h349).1; have := (h349).2; have := (h_x36).1; have := (h_x36).2; have := (h371).1; have := (h371).2; have := (h_x38).1; have := (h_x38).2; have := (h_x49).1; have := (h_x49).2; have := (h52).1; have := (h52).2; omega
                exact ih_29 x343 x352 x372 M366 R30 J365 H locs _ h342 k379 h350 k376 (iv_mono h371 (by decide) (by decide)) k373 w380 w381 w382 w383 hm384 hS (lv_sub hl [1] rfl)
              · have q385 : x340.toInt = 0 := ti_eq c346
                have h386 : iv 0 0 x340 := ⟨by have := (h_x340).1; have := ((iv_c (c := 0) (n := 0) (by decide))).1; omega, by have := (h_x340).2; have := ((iv_c (c := 0) (n := 0) (by decide))).2; omega⟩
                refine lv_iconst (v := 0) hx hb dX12_sum_64 (by decide) ?_
                have q387 : nx.toInt ≤ x343.toInt ∧ x343.toInt ≤ tp.toInt := by
                  have := (h_le).1; have := (h_le).2; have := (h_md).1; have := (h_md).2; have := (h_nx).1; have := (h_nx).2; have := (h_tp).1; have := (h_tp).2; have := (h_tx).1; have := (h_tx).2; have := (h13).1; have := (h13).2; have := (h20).1; have := (h20).2; have := (h236).1; have := (h236).2; have := (h238).1; have := (h238).2; have := (h317).1; have := (h317).2; have := (h_x34).1; have := (h_x34).2; have := (h342).1; have := (h342).2; have := (h_x36).1; have := (h_x36).2; have := (h_x38).1; have := (h_x38).2; have := (h_x49).1; have := (h_x49).2; have := (h52).1; have := (h52).2; omega
                exact tw_endz hx hb hr hlocks hK hT hS hQ rfl (⟨(iv_mono (iv_c (c := 0) (n := 0) (by decide)) (by decide) (by decide)), ⟨z345, ⟨x343, k344, h342, q387.1, q387.2⟩, (fun h => absurd rfl h)⟩⟩) dX12_sum_65
    have w388 : nx.toInt ≤ x14.toInt ∧ x14.toInt ≤ tp.toInt := by
      have := (h_le).1; have := (h_le).2; have := (h_md).1; have := (h_md).2; have := (h_nx).1; have := (h_nx).2; have := (h_tp).1; have := (h_tp).2; have := (h_tx).1; have := (h_tx).2; have := (h13).1; have := (h13).2; have := (h20).1; have := (h20).2; omega
    have w389 : le.toInt ≤ x22.toInt ∧ x22.toInt - le.toInt ≤ x14.toInt - nx.toInt ∧ ((sh + 1 : Nat) : Int) ≤ x23.toInt := by
      have := (h_le).1; have := (h_le).2; have := (h_md).1; have := (h_md).2; have := (h_nx).1; have := (h_nx).2; have := (h_tp).1; have := (h_tp).2; have := (h_tx).1; have := (h_tx).2; have := (h13).1; have := (h13).2; have := (h20).1; have := (h20).2; have := (h21).1; have := (h21).2; omega
    have w390 : SEG M8 sg tx.toNatClampNeg sb x22.toNatClampNeg (sh + 1) := z28
    have w391 : ∀ j, j < 400 * tx.toNatClampNeg + le.toNatClampNeg → M8 sg j = Ma sg j := z16
    have hm392 : 400 - x14.toInt < (((401 : Nat) : Int) : Int) := by
      have := (h_le).1; have := (h_le).2; have := (h_md).1; have := (h_md).2; have := (h_nx).1; have := (h_nx).2; have := (h_tp).1; have := (h_tp).2; have := (h_tx).1; have := (h_tx).2; have := (h13).1; have := (h13).2; have := (h20).1; have := (h20).2; omega
    exact W9_29 401 x14 x23 x22 M8 Ra J7 H locs _ h13 k15 h21 k25 h20 k24 w388 w389 w390 w391 hm392 hS hl
  · have q393 : x11.toInt = 0 := ti_eq c17
    have h394 : iv 0 0 x11 := ⟨by have := (h_x11).1; have := ((iv_c (c := 0) (n := 0) (by decide))).1; omega, by have := (h_x11).2; have := ((iv_c (c := 0) (n := 0) (by decide))).2; omega⟩
    refine lv_iconst (v := 0) hx hb dX12_sum_7 (by decide) ?_
    have q395 : nx.toInt ≤ x14.toInt ∧ x14.toInt ≤ tp.toInt := by
      have := (h_le).1; have := (h_le).2; have := (h_md).1; have := (h_md).2; have := (h_nx).1; have := (h_nx).2; have := (h_tp).1; have := (h_tp).2; have := (h_tx).1; have := (h_tx).2; have := (h13).1; have := (h13).2; omega
    exact tw_endz hx hb hr hlocks hK hT hS hQ rfl (⟨(iv_mono (iv_c (c := 0) (n := 0) (by decide)) (by decide) (by decide)), ⟨z16, ⟨x14, k15, h13, q395.1, q395.2⟩, (fun h => absurd rfl h)⟩⟩) dX12_sum_8
