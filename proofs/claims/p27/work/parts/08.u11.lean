def Lt_X12_rule : WL := [(12, 1, 3), (12, 7, 10), (12, 13, 20), (12, 21, 22), (14, 0, 2000000), (25, 0, 2000000), (26, 0, 2000000), (27, 0, 2000000), (28, 0, 2000000), (35, 0, 2000000)]
def LRt_X12_rule : WL := []
set_option maxRecDepth 100000 in
set_option maxHeartbeats 4000000 in
theorem t_X12_rule (l : Launch) (D : va_G) (cy : Nat → ClassId) (tx : (Nat → Nat) × (Nat → Nat)) (base Z : Nat) (K N : Nat → Nat) (Ma : MT) (Ra : RT) (Ja : JT) (hTy : Ty Z K N Ma Ra) (a0 : Nat) (hz_a0 : a0 < Z) (hk_a0 : K a0 = 12) (co_a0 : Codes Ma Ra a0) (sg : Nat) (k_sg : Ra a0 3 = some sg) (cl : Nat) (k_cl : Ra a0 5 = some cl) (cs : Nat) (k_cs : Ra a0 6 = some cs) : Met l yX12_rule [Cond.code yX12_rule cX12_rule 1 (some .int)] (md_rm 13 0 0) (va_Pc [.ref (base + a0)] (md_U D cy tx base Z K N Ma Ra Ja)) (mQi D cy tx base (fun r u => TP Z K N Lt_X12_rule LRt_X12_rule Ma Ra u ∧ (iv (-2147483648) 2147483647 r ∧ Codes u.2.2.2.1 u.2.2.2.2.1 a0))) 0 0 (fun q => base ≤ q) := by
  refine tw_ofW (L := Lt_X12_rule) (LR := LRt_X12_rule) (by decide) (Nat.le_of_ble_eq_true rfl) hTy ?_
  intro p e s m args below meth c Q ls hx hb hr hlocks hown hml hW hK hT hS hQ hl
  have hl : lv_has ls 1 [(0, .ref (base + a0))] := hl
  obtain ⟨hz_sg, hk_sg, hn_sg⟩ := hTy.refn hz_a0 hk_a0 (show rtR 12 3 = (25, 2400, 0) from rfl) k_sg
  have hn_sg := hn_sg (by decide)
  obtain ⟨hz_cl, hk_cl, hn_cl⟩ := hTy.refn hz_a0 hk_a0 (show rtR 12 5 = (27, 216, 0) from rfl) k_cl
  have hn_cl := hn_cl (by decide)
  obtain ⟨hz_cs, hk_cs, hn_cs⟩ := hTy.refn hz_a0 hk_a0 (show rtR 12 6 = (28, 6, 0) from rfl) k_cs
  have hn_cs := hn_cs (by decide)
  refine lv_aload_n hx hb dX12_rule_0 rfl (lv_at hl 0 rfl) ?_
  refine tw_geti hx hb hW hown hK hS f_X12_298_11 hz_a0 hk_a0 (lo := 0) (hi := 6) rfl dX12_rule_1 (fun x3 k2 h1 => ?_)
  refine lv_bipush (v := 6) hx hb dX12_rule_4 (by decide) ?_
  refine lv_icmp_ne (tgt := 11) hx hb dX12_rule_6 (by decide) (fun c4 => ?_) (fun c4 => ?_)
  · have q5 : ¬ x3.toInt = 6 := ti_ne c4
    have h6 : iv 0 5 x3 := ⟨by have := (h1).1; have := ((iv_c (c := 6) (n := 6) (by decide))).1; have := ((iv_c (c := 6) (n := 6) (by decide))).2; omega, by have := (h1).2; have := ((iv_c (c := 6) (n := 6) (by decide))).1; have := ((iv_c (c := 6) (n := 6) (by decide))).2; omega⟩
    refine lv_aload_n hx hb dX12_rule_11 rfl (lv_at hl 0 rfl) ?_
    refine lv_aload_n hx hb dX12_rule_12 rfl (lv_at hl 0 rfl) ?_
    refine tw_getk hx hb hW hown hK hS f_X12_298_11 hz_a0 hk_a0 (v := x3) k2 dX12_rule_13 ?_
    refine tw_puti hx hb hW hown hK hS f_X12_179_11 hz_a0 hk_a0 rfl rfl (lo := 0) (hi := 6) rfl (iv_mono h6 (by decide) (by decide)) rfl dX12_rule_16 (fun H locs M9 hS k7 f8 => ?_)
    refine lv_aload_n hx hb dX12_rule_19 rfl (lv_at hl 0 rfl) ?_
    refine tw_getrk hx hb hW hown hK hS f_X12_23_11 hz_a0 hk_a0 (b := cs) k_cs dX12_rule_20 ?_
    refine lv_aload_n hx hb dX12_rule_23 rfl (lv_at hl 0 rfl) ?_
    refine tw_getk hx hb hW hown hK hS f_X12_179_11 hz_a0 hk_a0 (v := x3) k7 dX12_rule_24 ?_
    refine lv_iconst (v := 0) hx hb dX12_rule_27 (by decide) ?_
    refine tw_iasx hx hb hK hS hz_cs hk_cs (Or.inr (by decide)) hn_cs h6 ⟨by decide, by decide⟩ (okI_0 28 _) (jl := 0) (jh := 1999999) ⟨by decide, by decide⟩ rfl dX12_rule_28 (fun H locs M13 hS k10 f11 e12 => ?_)
    have z14 : ∀ j, j ≠ x3.toNatClampNeg → M13 cs j = Ma cs j := fun j hj => by rw [e12, u2_nk hj]; exact (Fr.kpa f8 hk_cs rfl j)
    refine lv_aload_n hx hb dX12_rule_29 rfl (lv_at hl 0 rfl) ?_
    obtain ⟨b15, k16, hz_b15, hk_b15, hn_b15⟩ := hS.2.1.ref hz_a0 hk_a0 (show rtR 12 0 = (13, 400, 0) from rfl)
    have hn_b15 := hn_b15 (by decide)
    obtain ⟨x19, k17⟩ : ∃ x, M13 a0 1 = x := ⟨_, rfl⟩
    have h18 : iv 0 400 x19 := by rw [← k17]; exact hS.2.1.int hz_a0 hk_a0 (show rgI 12 1 = (0, 400) from rfl)
    obtain ⟨b20, k21, hz_b20, hk_b20, hn_b20⟩ := hS.2.1.ref hz_a0 hk_a0 (show rtR 12 4 = (26, 7, 0) from rfl)
    have hn_b20 := hn_b20 (by decide)
    have k22 : M13 a0 16 = x3 := (Fr.kp (k := 16) f11 hk_a0 rfl).trans k7
    obtain ⟨b23, k24, hz_b23, hk_b23, hn_b23⟩ := hS.2.1.ref hz_a0 hk_a0 (show rtR 12 20 = (14, 400, 0) from rfl)
    have hn_b23 := hn_b23 (by decide)
    have q25 : x3.toInt = 6 ∨ (0 : Int32).toInt = 0 := by
      have := (h6).1; have := (h6).2; have : (0 : Int32).toInt = 0 := (by decide); omega
    refine tw_goi hS (md_runV (As := []) (rest := []) hx hb hml hown hW hK hT hS.1 (t_X12_readsAll l D cy tx base Z K N M13 Ra Ja hS.2.1 a0 hz_a0 hk_a0 b15 k16 x19 k17 (iv_mono h18 (by decide) (by decide)) b20 k21 sg k_sg x3 k22 (iv_mono h6 (by decide) (by decide)) b23 k24 cs k_cs cl k_cl 0 k10 (iv_mono (iv_c (c := 0) (n := 0) (by decide)) (by decide) (by decide)) q25) s_X12_301 ⟨rfl, rfl, ⟨Nat.le_of_ble_eq_true rfl, Nat.le_of_ble_eq_true rfl⟩, ⟨Nat.le_of_ble_eq_true rfl, Nat.le_of_ble_eq_true rfl⟩⟩ hz_a0 hk_a0 (by decide) rfl rfl hl.1 rfl (Nat.le_of_ble_eq_true rfl) dX12_rule_30) rfl rfl (fun x32 H locs M29 R30 J28 hS f26 g27 E31 => ?_)
    have eR30 := Fr.nil g27 rfl
    subst eR30
    obtain ⟨h_x32, p33⟩ := E31
    obtain ⟨zf33, zg33, zh33, zc33⟩ := p33
    have zt33 := ti_cl (x := x3) (by have := (h6).1; omega)
    have k35 : M29 a0 2 = x3 := ((Fr.kp (k := 2) f26 hk_a0 rfl).trans ((Fr.kp (k := 2) f11 hk_a0 rfl).trans (Fr.kp (k := 2) f8 hk_a0 rfl))).trans k2
    have zb33 : ∀ t, (Ma cs t).toInt ≤ 12 := fun t => (hTy.int hz_cs hk_cs (k := t) (lo := 0) (hi := 12) rfl).2
    have z34 : Codes M29 Ra a0 := Codes.low (T := x3.toNatClampNeg) co_a0 k_sg k_cl k_cs k_sg k_cl k_cs (by rw [← ((Fr.kp (k := 2) f26 hk_a0 rfl).trans ((Fr.kp (k := 2) f11 hk_a0 rfl).trans (Fr.kp (k := 2) f8 hk_a0 rfl))), k35]; have := (h6).2; omega) (((Fr.kp (k := 2) f26 hk_a0 rfl).trans ((Fr.kp (k := 2) f11 hk_a0 rfl).trans (Fr.kp (k := 2) f8 hk_a0 rfl)))) zb33 (fun j hj => (zf33 j hj).trans ((fun j _ => ((Fr.kpa f11 hk_sg rfl j).trans (Fr.kpa f8 hk_sg rfl j))) j hj)) (fun j hj => (zg33 j hj).trans ((fun j _ => ((Fr.kpa f11 hk_cl rfl j).trans (Fr.kpa f8 hk_cl rfl j))) j hj)) (fun j hj => (zh33 j hj).trans (z14 j hj))
    have k36 : M29 a0 2 = x3 := ((Fr.kp (k := 2) f26 hk_a0 rfl).trans ((Fr.kp (k := 2) f11 hk_a0 rfl).trans (Fr.kp (k := 2) f8 hk_a0 rfl))).trans k2
    refine lv_if_ne (tgt := 44) hx hb dX12_rule_33 (by decide) (fun c37 => ?_) (fun c37 => ?_)
    · have q38 : ¬ x32.toInt = 0 := ti_ne c37
      have h39 : iv 1 1 x32 := ⟨by have := (h_x32).1; have := ((iv_c (c := 0) (n := 0) (by decide))).1; have := ((iv_c (c := 0) (n := 0) (by decide))).2; omega, by have := (h_x32).2; have := ((iv_c (c := 0) (n := 0) (by decide))).1; have := ((iv_c (c := 0) (n := 0) (by decide))).2; omega⟩
      refine lv_aload_n hx hb dX12_rule_44 rfl (lv_at hl 0 rfl) ?_
      refine lv_dup hx hb dX12_rule_45 rfl ?_
      have k40 : M29 a0 2 = x3 := ((Fr.kp (k := 2) f26 hk_a0 rfl).trans ((Fr.kp (k := 2) f11 hk_a0 rfl).trans (Fr.kp (k := 2) f8 hk_a0 rfl))).trans k2
      refine tw_getk hx hb hW hown hK hS f_X12_298_11 hz_a0 hk_a0 (v := x3) k40 dX12_rule_46 ?_
      refine lv_iconst (v := 1) hx hb dX12_rule_49 (by decide) ?_
      refine tw_iadd (lo := 1) (hi := 6) hx hb h6 (iv_c (c := 1) (n := 1) (by decide)) ⟨by decide, by decide⟩ ⟨by decide, by decide⟩ dX12_rule_50 (fun x43 e42 h41 => ?_)
      have e42 : x43.toInt = x3.toInt + 1 := e42
      refine tw_puti hx hb hW hown hK hS f_X12_298_11 hz_a0 hk_a0 rfl rfl (lo := 0) (hi := 6) rfl (iv_mono h41 (by decide) (by decide)) rfl dX12_rule_51 (fun H locs M46 hS k44 f45 => ?_)
      obtain ⟨y233, y433, u233, u433, u533, u633⟩ := (zc33.resolve_left c37).resolve_left (by have := (h6).2; omega)
      have zy33 : (M29 cs x3.toNatClampNeg).toInt ≤ ((y433.toNatClampNeg : Nat) : Int) := by rw [u433]; show _ ≤ ((y433.toInt.toNat : Nat) : Int); omega
      have z47 : Codes M46 Ra a0 := Codes.add (T := x3.toNatClampNeg) z34 k_sg k_cl k_cs k_sg k_cl k_cs (by rw [k36]; omega) (by rw [k44]; omega) (fun j => Fr.kpa f45 hk_sg rfl j) (fun j => Fr.kpa f45 hk_cl rfl j) (fun j => Fr.kpa f45 hk_cs rfl j) zy33 u533 u633
      refine lv_aload_n hx hb dX12_rule_54 rfl (lv_at hl 0 rfl) ?_
      refine tw_getk hx hb hW hown hK hS f_X12_298_11 hz_a0 hk_a0 (v := x43) k44 dX12_rule_55 ?_
      refine lv_iconst (v := 1) hx hb dX12_rule_58 (by decide) ?_
      refine tw_isub (lo := 0) (hi := 5) hx hb h41 (iv_c (c := 1) (n := 1) (by decide)) ⟨by decide, by decide⟩ ⟨by decide, by decide⟩ dX12_rule_59 (fun x50 e49 h48 => ?_)
      have e49 : x50.toInt = x43.toInt - 1 := e49
      exact tw_endi hx hb hr hlocks hK hT hS hQ (⟨(iv_mono h48 (by decide) (by decide)), z47⟩) dX12_rule_60
    · have q51 : x32.toInt = 0 := ti_eq c37
      have h52 : iv 0 0 x32 := ⟨by have := (h_x32).1; have := ((iv_c (c := 0) (n := 0) (by decide))).1; omega, by have := (h_x32).2; have := ((iv_c (c := 0) (n := 0) (by decide))).2; omega⟩
      refine lv_bipush (v := (-2)) hx hb dX12_rule_36 (by decide) ?_
      refine lv_aload_n hx hb dX12_rule_38 rfl (lv_at hl 0 rfl) ?_
      refine tw_geti hx hb hW hown hK hS f_X12_124_11 hz_a0 hk_a0 (lo := (-2147483648)) (hi := 2147483647) rfl dX12_rule_39 (fun x55 k54 h53 => ?_)
      refine lv_isub hx hb dX12_rule_42 ?_
      refine tw_top (fun x57 => ?_)
      have h56 := iv_any x57
      exact tw_endi hx hb hr hlocks hK hT hS hQ (⟨h56, z34⟩) dX12_rule_43
  · have q58 : x3.toInt = 6 := ti_eq c4
    have h59 : iv 6 6 x3 := ⟨by have := (h1).1; have := ((iv_c (c := 6) (n := 6) (by decide))).1; omega, by have := (h1).2; have := ((iv_c (c := 6) (n := 6) (by decide))).2; omega⟩
    refine lv_iconst (v := (-1)) hx hb dX12_rule_9 (by decide) ?_
    exact tw_endi hx hb hr hlocks hK hT hS hQ (⟨(iv_mono (iv_c (c := (-1)) (n := (-1)) (by decide)) (by decide) (by decide)), co_a0⟩) dX12_rule_10
def Lt_X12_spoilers : WL := [(12, 23, 24), (12, 28, 29), (12, 30, 33), (12, 43, 44), (14, 0, 2000000), (30, 0, 2000000), (31, 0, 2000000), (36, 0, 2000000), (41, 0, 2000000)]
def LRt_X12_spoilers : WL := []
set_option maxRecDepth 100000 in
set_option maxHeartbeats 4000000 in
theorem t_X12_spoilers (l : Launch) (D : va_G) (cy : Nat → ClassId) (tx : (Nat → Nat) × (Nat → Nat)) (base Z : Nat) (K N : Nat → Nat) (Ma : MT) (Ra : RT) (Ja : JT) (hTy : Ty Z K N Ma Ra) (a0 : Nat) (hz_a0 : a0 < Z) (hk_a0 : K a0 = 12) (a1 : Int32) (h_a1 : iv (-2147483648) 2147483647 a1) (co_a0 : Codes Ma Ra a0) : Met l yX12_spoilers [Cond.code yX12_spoilers cX12_spoilers 6 (some .int)] (md_rm 7 0 0) (va_Pc [.ref (base + a0), .int a1] (md_U D cy tx base Z K N Ma Ra Ja)) (mQi D cy tx base (fun r u => TP Z K N Lt_X12_spoilers LRt_X12_spoilers Ma Ra u ∧ (iv (-2147483648) 2147483647 r))) 0 0 (fun q => base ≤ q) := by
  refine tw_ofW (L := Lt_X12_spoilers) (LR := LRt_X12_spoilers) (by decide) (Nat.le_of_ble_eq_true rfl) hTy ?_
  intro p e s m args below meth c Q ls hx hb hr hlocks hown hml hW hK hT hS hQ hl
  have hl : lv_has ls 6 [(0, .ref (base + a0)), (1, .int a1)] := hl
  refine lv_aload_n hx hb dX12_spoilers_0 rfl (lv_at hl 0 rfl) ?_
  refine lv_iload_n hx hb dX12_spoilers_1 rfl (lv_at hl 1 rfl) ?_
  obtain ⟨b1, k2, hz_b1, hk_b1, hn_b1⟩ := hS.2.1.ref hz_a0 hk_a0 (show rtR 12 25 = (23, 226, 0) from rfl)
  have hn_b1 := hn_b1 (by decide)
  obtain ⟨x5, k3⟩ : ∃ x, Ma b1 (4 : Int32).toNatClampNeg = x := ⟨_, rfl⟩
  have h4 : iv 0 8 x5 := by rw [← k3]; exact hS.2.1.int hz_b1 hk_b1 (show rgI 23 (4 : Int32).toNatClampNeg = (0, 8) from rfl)
  refine tw_goi hS (md_runV (As := [.int a1]) (rest := []) hx hb hml hown hW hK hT hS.1 (t_X12_canLose l D cy tx base Z K N Ma Ra Ja hS.2.1 a0 hz_a0 hk_a0 a1 h_a1 b1 k2 x5 k3 (iv_mono h4 (by decide) (by decide))) s_X12_446 ⟨rfl, rfl, ⟨Nat.le_of_ble_eq_true rfl, Nat.le_of_ble_eq_true rfl⟩, ⟨Nat.le_of_ble_eq_true rfl, Nat.le_of_ble_eq_true rfl⟩⟩ hz_a0 hk_a0 (by decide) rfl rfl hl.1 rfl (Nat.le_of_ble_eq_true rfl) dX12_spoilers_2) rfl rfl (fun x12 H locs M9 R10 J8 hS f6 g7 E11 => ?_)
  have eM9 := Fr.nil f6 rfl
  subst eM9
  have eR10 := Fr.nil g7 rfl
  subst eR10
  obtain ⟨h_x12, p13⟩ := E11
  refine lv_if_ne (tgt := 10) hx hb dX12_spoilers_5 (by decide) (fun c14 => ?_) (fun c14 => ?_)
  · have q15 : ¬ x12.toInt = 0 := ti_ne c14
    have h16 : iv 1 1 x12 := ⟨by have := (h_x12).1; have := ((iv_c (c := 0) (n := 0) (by decide))).1; have := ((iv_c (c := 0) (n := 0) (by decide))).2; omega, by have := (h_x12).2; have := ((iv_c (c := 0) (n := 0) (by decide))).1; have := ((iv_c (c := 0) (n := 0) (by decide))).2; omega⟩
    have h17 : iv 1 4 x5 := ⟨by have := (p13 c14).1; have := (h4).1; omega, by have := (p13 c14).2; have := (h4).2; omega⟩
    refine lv_aload_n hx hb dX12_spoilers_10 rfl (lv_at hl 0 rfl) ?_
    refine lv_iload_n hx hb dX12_spoilers_11 rfl (lv_at hl 1 rfl) ?_
    obtain ⟨b18, k19, hz_b18, hk_b18, hn_b18⟩ := hS.2.1.ref hz_a0 hk_a0 (show rtR 12 38 = (41, 5, 0) from rfl)
    have hn_b18 := hn_b18 (by decide)
    refine tw_gov hS (md_runV (As := [.int a1]) (rest := []) hx hb hml hown hW hK hT hS.1 (t_X12_throwsVotes l D cy tx base Z K N Ma Ra J8 hS.2.1 a0 hz_a0 hk_a0 a1 h_a1 co_a0 b1 k2 x5 k3 (iv_mono h17 (by decide) (by decide)) b18 k19) s_X12_449 ⟨rfl, rfl, ⟨Nat.le_of_ble_eq_true rfl, Nat.le_of_ble_eq_true rfl⟩, ⟨Nat.le_of_ble_eq_true rfl, Nat.le_of_ble_eq_true rfl⟩⟩ hz_a0 hk_a0 (by decide) rfl rfl hl.1 rfl (Nat.le_of_ble_eq_true rfl) dX12_spoilers_12) rfl rfl (fun H locs M23 R24 J22 hS f20 g21 E25 => ?_)
    have eR24 := Fr.nil g21 rfl
    subst eR24
    refine lv_aload_n hx hb dX12_spoilers_15 rfl (lv_at hl 0 rfl) ?_
    refine tw_geti hx hb hW hown hK hS f_X12_431_11 hz_a0 hk_a0 (lo := (-2147483648)) (hi := 2147483647) rfl dX12_spoilers_16 (fun x28 k27 h26 => ?_)
    refine lv_if_ge (tgt := 25) hx hb dX12_spoilers_19 (by decide) (fun c29 => ?_) (fun c29 => ?_)
    · have q30 : 0 ≤ x28.toInt := ti_le c29
      have h31 : iv 0 2147483647 x28 := iv_geL (y := 0) h26 (iv_c (c := 0) (n := 0) (by decide)) q30 (by decide)
      refine lv_iconst (v := 1) hx hb dX12_spoilers_25 (by decide) ?_
      refine lv_istore_n (lv' := [(2, .int 1), (0, .ref (base + a0)), (1, .int a1)]) hx hb dX12_spoilers_26 rfl hl (by decide) rfl (fun ls hl => ?_)
      refine lv_iconst (v := 0) hx hb dX12_spoilers_27 (by decide) ?_
      refine lv_istore_n (lv' := [(3, .int 0), (2, .int 1), (0, .ref (base + a0)), (1, .int a1)]) hx hb dX12_spoilers_28 rfl hl (by decide) rfl (fun ls hl => ?_)
      have W29_34 : ∀ (n_34 : Nat) (x32 : Int32) (x33 : Int32) (M34 : MT) (R35 : RT) (J36 : JT) (H : Heap) (locs : List Loc) (ls : Array Slot) (h_x32 : iv (-2147483648) 2147483647 x32) (h_x33 : iv 0 4 x33) (hm_34 : 4 - x33.toInt < (n_34 : Int)) (hS : SB D cy base Z K N Lt_X12_spoilers LRt_X12_spoilers Ma Ra M34 R35 J36 s H locs) (hl : lv_has ls 6 [(2, .int x32), (3, .int x33), (0, .ref (base + a0)), (1, .int a1)]), W p l e (md_rm 7 0 0) s m args below meth c H locs 0 0 Q (F0 m 29 ls []) := by
        intro n_34
        induction n_34 with
        | zero =>
          intro x32 x33 M34 R35 J36 H locs ls h_x32 h_x33 hm_34 hS hl
          exfalso
          have := (h_a1).1; have := (h_a1).2; have := (h_x33).1; have := (h_x33).2; omega
        | succ n_34 ih_34 =>
          intro x32 x33 M34 R35 J36 H locs ls h_x32 h_x33 hm_34 hS hl
          have f37 := hS.2.2.1
          have g38 := hS.2.2.2
          refine lv_iload_n hx hb dX12_spoilers_29 rfl (lv_at hl 1 rfl) ?_
          refine lv_aload_n hx hb dX12_spoilers_30 rfl (lv_at hl 2 rfl) ?_
          have k39 : R35 a0 25 = some b1 := (Fr.kp (k := 25) g38 hk_a0 rfl).trans k2
          refine tw_getrk hx hb hW hown hK hS f_X12_45_11 hz_a0 hk_a0 (b := b1) k39 dX12_spoilers_31 ?_
          refine lv_iconst (v := 4) hx hb dX12_spoilers_34 (by decide) ?_
          have k40 : M34 b1 (4 : Int32).toNatClampNeg = x5 := (Fr.kp (k := (4 : Int32).toNatClampNeg) f37 hk_b1 rfl).trans k3
          refine tw_ialk hx hb hK hS hz_b1 hk_b1 (Or.inr (by decide)) hn_b1 (iv_c (c := 4) (n := 4) (by decide)) ⟨by decide, by decide⟩ (v := x5) k40 dX12_spoilers_35 ?_
          refine lv_icmp_ge (tgt := 49) hx hb dX12_spoilers_36 (by decide) (fun c41 => ?_) (fun c41 => ?_)
          · have q42 : x5.toInt ≤ x33.toInt := ti_le c41
            have h43 : iv 1 4 x33 := iv_geL (y := x5) h_x33 h17 q42 (by decide)
            refine lv_iconst (v := 0) hx hb dX12_spoilers_49 (by decide) ?_
            refine lv_istore_n (lv' := [(3, .int 0), (2, .int x32), (0, .ref (base + a0)), (1, .int a1)]) hx hb dX12_spoilers_50 rfl hl (by decide) rfl (fun ls hl => ?_)
            refine lv_iconst (v := 0) hx hb dX12_spoilers_51 (by decide) ?_
            refine lv_istore (lv' := [(4, .int 0), (3, .int 0), (2, .int x32), (0, .ref (base + a0)), (1, .int a1)]) hx hb dX12_spoilers_52 hl (by decide) rfl (fun ls hl => ?_)
            have W54_46 : ∀ (n_46 : Nat) (x44 : Int32) (x45 : Int32) (M46 : MT) (R47 : RT) (J48 : JT) (H : Heap) (locs : List Loc) (ls : Array Slot) (h_x44 : iv (-2147483648) 2147483647 x44) (h_x45 : iv 0 10 x45) (hm_46 : 10 - x45.toInt < (n_46 : Int)) (hS : SB D cy base Z K N Lt_X12_spoilers LRt_X12_spoilers Ma Ra M46 R47 J48 s H locs) (hl : lv_has ls 6 [(3, .int x44), (4, .int x45), (2, .int x32), (0, .ref (base + a0)), (1, .int a1)]), W p l e (md_rm 7 0 0) s m args below meth c H locs 0 0 Q (F0 m 54 ls []) := by
              intro n_46
              induction n_46 with
              | zero =>
                intro x44 x45 M46 R47 J48 H locs ls h_x44 h_x45 hm_46 hS hl
                exfalso
                have := (h_a1).1; have := (h_a1).2; have := (h_x45).1; have := (h_x45).2; omega
              | succ n_46 ih_46 =>
                intro x44 x45 M46 R47 J48 H locs ls h_x44 h_x45 hm_46 hS hl
                have f49 := hS.2.2.1
                have g50 := hS.2.2.2
                refine lv_iload hx hb dX12_spoilers_54 (lv_at hl 1 rfl) ?_
                refine lv_aload_n hx hb dX12_spoilers_56 rfl (lv_at hl 3 rfl) ?_
                have k51 : R47 a0 25 = some b1 := (Fr.kp (k := 25) g50 hk_a0 rfl).trans k2
                refine tw_getrk hx hb hW hown hK hS f_X12_45_11 hz_a0 hk_a0 (b := b1) k51 dX12_spoilers_57 ?_
                refine lv_iconst (v := 0) hx hb dX12_spoilers_60 (by decide) ?_
                refine tw_iald hx hb hK hS hz_b1 hk_b1 (Or.inr (by decide)) hn_b1 (lo := 0) (hi := 10) (iv_c (c := 0) (n := 0) (by decide)) ⟨by decide, by decide⟩ (rg_c (k0 := 0) rfl rfl rfl) dX12_spoilers_61 (fun x54 k53 h52 => ?_)
                refine lv_icmp_ge (tgt := 129) hx hb dX12_spoilers_62 (by decide) (fun c55 => ?_) (fun c55 => ?_)
                · have q56 : x54.toInt ≤ x45.toInt := ti_le c55
                  refine lv_iload_n hx hb dX12_spoilers_129 rfl (lv_at hl 0 rfl) ?_
                  exact tw_endi hx hb hr hlocks hK hT hS hQ (h_x44) dX12_spoilers_130
                · have q57 : x45.toInt < x54.toInt := ti_nle c55
                  have h58 : iv 0 9 x45 := iv_ltL (y := x54) h_x45 h52 q57 (by decide)
                  have h59 : iv 1 10 x54 := iv_gtL (y := x45) h52 h_x45 q57 (by decide)
                  refine lv_iconst (v := 0) hx hb dX12_spoilers_65 (by decide) ?_
                  refine lv_istore (lv' := [(5, .int 0), (3, .int x44), (4, .int x45), (2, .int x32), (0, .ref (base + a0)), (1, .int a1)]) hx hb dX12_spoilers_66 hl (by decide) rfl (fun ls hl => ?_)
                  have W68_62 : ∀ (n_62 : Nat) (x60 : Int32) (x61 : Int32) (M62 : MT) (R63 : RT) (J64 : JT) (H : Heap) (locs : List Loc) (ls : Array Slot) (h_x60 : iv (-2147483648) 2147483647 x60) (h_x61 : iv 0 2147483647 x61) (hm_62 : 2147483647 - x61.toInt < (n_62 : Int)) (hS : SB D cy base Z K N Lt_X12_spoilers LRt_X12_spoilers Ma Ra M62 R63 J64 s H locs) (hl : lv_has ls 6 [(3, .int x60), (5, .int x61), (4, .int x45), (2, .int x32), (0, .ref (base + a0)), (1, .int a1)]), W p l e (md_rm 7 0 0) s m args below meth c H locs 0 0 Q (F0 m 68 ls []) := by
                    intro n_62
                    induction n_62 with
                    | zero =>
                      intro x60 x61 M62 R63 J64 H locs ls h_x60 h_x61 hm_62 hS hl
                      exfalso
                      have := (h_a1).1; have := (h_a1).2; have := (h_x61).1; have := (h_x61).2; omega
                    | succ n_62 ih_62 =>
                      intro x60 x61 M62 R63 J64 H locs ls h_x60 h_x61 hm_62 hS hl
                      have f65 := hS.2.2.1
                      have g66 := hS.2.2.2
                      refine lv_iload hx hb dX12_spoilers_68 (lv_at hl 1 rfl) ?_
                      refine lv_iload_n hx hb dX12_spoilers_70 rfl (lv_at hl 3 rfl) ?_
                      refine lv_icmp_ge (tgt := 123) hx hb dX12_spoilers_71 (by decide) (fun c67 => ?_) (fun c67 => ?_)
                      · have q68 : x32.toInt ≤ x61.toInt := ti_le c67
                        refine tw_iinc (lv' := fun x71 => [(4, .int x71), (3, .int x60), (5, .int x61), (2, .int x32), (0, .ref (base + a0)), (1, .int a1)]) (lo := 1) (hi := 10) hx hb dX12_spoilers_123 hl (k := 2) rfl h58 (by decide) ⟨by decide, by decide⟩ ⟨by decide, by decide⟩ (by decide) (fun _ => rfl) (fun x71 ls e70 h69 hl => ?_)
                        refine lv_goto (tgt := 54) hx hb dX12_spoilers_126 (by decide) ?_
                        have hm72 : 10 - x71.toInt < (n_46 : Int) := by
                          have := (h_a1).1; have := (h_a1).2; have := (h58).1; have := (h58).2; have := (h69).1; have := (h69).2; omega
                        exact ih_46 x60 x71 M62 R63 J64 H locs _ h_x60 (iv_mono h69 (by decide) (by decide)) hm72 hS (lv_sub hl [1, 0, 3, 4, 5] rfl)
                      · have q73 : x61.toInt < x32.toInt := ti_nle c67
                        have h74 : iv 0 2147483646 x61 := iv_ltL (y := x32) h_x61 h_x32 q73 (by decide)
                        have h75 : iv 1 2147483647 x32 := iv_gtL (y := x61) h_x32 h_x61 q73 (by decide)
                        refine lv_aload_n hx hb dX12_spoilers_74 rfl (lv_at hl 4 rfl) ?_
                        refine lv_iload hx hb dX12_spoilers_75 (lv_at hl 2 rfl) ?_
                        refine tw_goi hS (md_runV (As := [.int x45]) (rest := []) hx hb hml hown hW hK hT hS.1 (t_X12_isPresent l D cy tx base Z K N M62 R63 J64 hS.2.1 a0 hz_a0 hk_a0 x45 (iv_mono h58 (by decide) (by decide))) s_X12_390 ⟨rfl, rfl, ⟨Nat.le_of_ble_eq_true rfl, Nat.le_of_ble_eq_true rfl⟩, ⟨Nat.le_of_ble_eq_true rfl, Nat.le_of_ble_eq_true rfl⟩⟩ hz_a0 hk_a0 (by decide) rfl rfl hl.1 rfl (Nat.le_of_ble_eq_true rfl) dX12_spoilers_77) rfl rfl (fun x82 H locs M79 R80 J78 hS f76 g77 E81 => ?_)
                        have eM79 := Fr.nil f76 rfl
                        subst eM79
                        have eR80 := Fr.nil g77 rfl
                        subst eR80
                        obtain ⟨h_x82, p83⟩ := E81
                        refine lv_if_eq (tgt := 123) hx hb dX12_spoilers_80 (by decide) (fun c84 => ?_) (fun c84 => ?_)
                        · have q85 : x82.toInt = 0 := ti_eq c84
                          have h86 : iv 0 0 x82 := ⟨by have := (h_x82).1; have := ((iv_c (c := 0) (n := 0) (by decide))).1; omega, by have := (h_x82).2; have := ((iv_c (c := 0) (n := 0) (by decide))).2; omega⟩
                          refine tw_iinc (lv' := fun x89 => [(4, .int x89), (3, .int x60), (5, .int x61), (2, .int x32), (0, .ref (base + a0)), (1, .int a1)]) (lo := 1) (hi := 10) hx hb dX12_spoilers_123 hl (k := 2) rfl h58 (by decide) ⟨by decide, by decide⟩ ⟨by decide, by decide⟩ (by decide) (fun _ => rfl) (fun x89 ls e88 h87 hl => ?_)
                          refine lv_goto (tgt := 54) hx hb dX12_spoilers_126 (by decide) ?_
                          have hm90 : 10 - x89.toInt < (n_46 : Int) := by
                            have := (h_a1).1; have := (h_a1).2; have := (h58).1; have := (h58).2; have := (h87).1; have := (h87).2; omega
                          exact ih_46 x60 x89 M62 R63 J78 H locs _ h_x60 (iv_mono h87 (by decide) (by decide)) hm90 hS (lv_sub hl [1, 0, 3, 4, 5] rfl)
                        · have q91 : ¬ x82.toInt = 0 := ti_ne c84
                          have h92 : iv 1 1 x82 := ⟨by have := (h_x82).1; have := ((iv_c (c := 0) (n := 0) (by decide))).1; have := ((iv_c (c := 0) (n := 0) (by decide))).2; omega, by have := (h_x82).2; have := ((iv_c (c := 0) (n := 0) (by decide))).1; have := ((iv_c (c := 0) (n := 0) (by decide))).2; omega⟩
                          refine lv_iload_n hx hb dX12_spoilers_83 rfl (lv_at hl 5 rfl) ?_
                          refine lv_iload_n hx hb dX12_spoilers_84 rfl (lv_at hl 0 rfl) ?_
                          refine lv_ior hx hb dX12_spoilers_85 ?_
                          refine tw_top (fun x94 => ?_)
                          have h93 := iv_any x94
                          refine lv_iload hx hb dX12_spoilers_86 (lv_at hl 2 rfl) ?_
                          refine tw_goi hS (md_runS (As := [.int x94, .int x45]) (rest := []) hx hb hml hown hW hK hT hS.1 (t_X12_isOf l D cy tx base Z K N M62 R63 J78 hS.2.1 x94 h93 x45 h58) s_X12_322 ⟨rfl, rfl, ⟨Nat.le_of_ble_eq_true rfl, Nat.le_of_ble_eq_true rfl⟩, ⟨Nat.le_of_ble_eq_true rfl, Nat.le_of_ble_eq_true rfl⟩⟩ rfl hl.1 rfl (Nat.le_of_ble_eq_true rfl) dX12_spoilers_88) rfl rfl (fun x101 H locs M98 R99 J97 hS f95 g96 E100 => ?_)
                          have eM98 := Fr.nil f95 rfl
                          subst eM98
                          have eR99 := Fr.nil g96 rfl
                          subst eR99
                          have h_x101 := E100
                          clear E100
                          refine lv_if_ne (tgt := 123) hx hb dX12_spoilers_91 (by decide) (fun c102 => ?_) (fun c102 => ?_)
                          · have q103 : ¬ x101.toInt = 0 := ti_ne c102
                            have h104 : iv 1 1 x101 := ⟨by have := (h_x101).1; have := ((iv_c (c := 0) (n := 0) (by decide))).1; have := ((iv_c (c := 0) (n := 0) (by decide))).2; omega, by have := (h_x101).2; have := ((iv_c (c := 0) (n := 0) (by decide))).1; have := ((iv_c (c := 0) (n := 0) (by decide))).2; omega⟩
                            refine tw_iinc (lv' := fun x107 => [(4, .int x107), (3, .int x60), (5, .int x61), (2, .int x32), (0, .ref (base + a0)), (1, .int a1)]) (lo := 1) (hi := 10) hx hb dX12_spoilers_123 hl (k := 2) rfl h58 (by decide) ⟨by decide, by decide⟩ ⟨by decide, by decide⟩ (by decide) (fun _ => rfl) (fun x107 ls e106 h105 hl => ?_)
                            refine lv_goto (tgt := 54) hx hb dX12_spoilers_126 (by decide) ?_
                            have hm108 : 10 - x107.toInt < (n_46 : Int) := by
                              have := (h_a1).1; have := (h_a1).2; have := (h105).1; have := (h105).2; have := (h58).1; have := (h58).2; omega
                            exact ih_46 x60 x107 M62 R63 J97 H locs _ h_x60 (iv_mono h105 (by decide) (by decide)) hm108 hS (lv_sub hl [1, 0, 3, 4, 5] rfl)
                          · have q109 : x101.toInt = 0 := ti_eq c102
                            have h110 : iv 0 0 x101 := ⟨by have := (h_x101).1; have := ((iv_c (c := 0) (n := 0) (by decide))).1; omega, by have := (h_x101).2; have := ((iv_c (c := 0) (n := 0) (by decide))).2; omega⟩
                            refine lv_iload_n hx hb dX12_spoilers_94 rfl (lv_at hl 0 rfl) ?_
                            refine lv_aload_n hx hb dX12_spoilers_95 rfl (lv_at hl 4 rfl) ?_
                            refine lv_iload_n hx hb dX12_spoilers_96 rfl (lv_at hl 5 rfl) ?_
                            refine lv_iload hx hb dX12_spoilers_97 (lv_at hl 2 rfl) ?_
                            refine lv_iload hx hb dX12_spoilers_99 (lv_at hl 1 rfl) ?_
                            have k111 : R63 a0 25 = some b1 := (Fr.kp (k := 25) g66 hk_a0 rfl).trans k2
                            have k112 : M62 b1 (4 : Int32).toNatClampNeg = x5 := (Fr.kp (k := (4 : Int32).toNatClampNeg) f65 hk_b1 rfl).trans k3
                            refine tw_goi hS (md_runV (As := [.int a1, .int x45, .int x61]) (rest := [.int x60]) hx hb hml hown hW hK hT hS.1 (t_X12_spoils l D cy tx base Z K N M62 R63 J97 hS.2.1 a0 hz_a0 hk_a0 a1 h_a1 x45 h58 x61 (iv_mono h74 (by decide) (by decide)) (Codes.fr co_a0 hTy hz_a0 hk_a0 hS.2.2.1 hS.2.2.2 rfl) b1 k111 x5 k112 (iv_mono h17 (by decide) (by decide))) s_X12_452 ⟨rfl, rfl, ⟨Nat.le_of_ble_eq_true rfl, Nat.le_of_ble_eq_true rfl⟩, ⟨Nat.le_of_ble_eq_true rfl, Nat.le_of_ble_eq_true rfl⟩⟩ hz_a0 hk_a0 (by decide) rfl rfl hl.1 rfl (Nat.le_of_ble_eq_true rfl) dX12_spoilers_101) rfl rfl (fun x119 H locs M116 R117 J115 hS f113 g114 E118 => ?_)
                            have eR117 := Fr.nil g114 rfl
                            subst eR117
                            have h_x119 := E118
                            clear E118
                            refine lv_if_eq (tgt := 114) hx hb dX12_spoilers_104 (by decide) (fun c120 => ?_) (fun c120 => ?_)
                            · have q121 : x119.toInt = 0 := ti_eq c120
                              have h122 : iv 0 0 x119 := ⟨by have := (h_x119).1; have := ((iv_c (c := 0) (n := 0) (by decide))).1; omega, by have := (h_x119).2; have := ((iv_c (c := 0) (n := 0) (by decide))).2; omega⟩
                              refine lv_iconst (v := 0) hx hb dX12_spoilers_114 (by decide) ?_
                              refine lv_ior hx hb dX12_spoilers_115 ?_
                              refine tw_top (fun x124 => ?_)
                              have h123 := iv_any x124
                              refine lv_istore_n (lv' := [(3, .int x124), (5, .int x61), (4, .int x45), (2, .int x32), (0, .ref (base + a0)), (1, .int a1)]) hx hb dX12_spoilers_116 rfl hl (by decide) rfl (fun ls hl => ?_)
                              refine tw_iinc (lv' := fun x127 => [(5, .int x127), (3, .int x124), (4, .int x45), (2, .int x32), (0, .ref (base + a0)), (1, .int a1)]) (lo := 1) (hi := 2147483647) hx hb dX12_spoilers_117 hl (k := 1) rfl h74 (by decide) ⟨by decide, by decide⟩ ⟨by decide, by decide⟩ (by decide) (fun _ => rfl) (fun x127 ls e126 h125 hl => ?_)
                              refine lv_goto (tgt := 68) hx hb dX12_spoilers_120 (by decide) ?_
                              have hm128 : 2147483647 - x127.toInt < (n_62 : Int) := by
                                have := (h_a1).1; have := (h_a1).2; have := (h125).1; have := (h125).2; have := (h74).1; have := (h74).2; omega
                              exact ih_62 x124 x127 M116 R63 J115 H locs _ h123 (iv_mono h125 (by decide) (by decide)) hm128 hS (lv_sub hl [1, 0, 2, 3, 4, 5] rfl)
                            · have q129 : ¬ x119.toInt = 0 := ti_ne c120
                              have h130 : iv 1 1 x119 := ⟨by have := (h_x119).1; have := ((iv_c (c := 0) (n := 0) (by decide))).1; have := ((iv_c (c := 0) (n := 0) (by decide))).2; omega, by have := (h_x119).2; have := ((iv_c (c := 0) (n := 0) (by decide))).1; have := ((iv_c (c := 0) (n := 0) (by decide))).2; omega⟩
                              refine lv_iconst (v := 1) hx hb dX12_spoilers_107 (by decide) ?_
                              refine lv_iload hx hb dX12_spoilers_108 (lv_at hl 2 rfl) ?_
                              refine lv_ishl hx hb dX12_spoilers_110 ?_
                              refine tw_top (fun x132 => ?_)
                              have h131 := iv_any x132
                              refine lv_goto (tgt := 115) hx hb dX12_spoilers_111 (by decide) ?_
                              refine lv_ior hx hb dX12_spoilers_115 ?_
                              refine tw_top (fun x134 => ?_)
                              have h133 := iv_any x134
                              refine lv_istore_n (lv' := [(3, .int x134), (5, .int x61), (4, .int x45), (2, .int x32), (0, .ref (base + a0)), (1, .int a1)]) hx hb dX12_spoilers_116 rfl hl (by decide) rfl (fun ls hl => ?_)
                              refine tw_iinc (lv' := fun x137 => [(5, .int x137), (3, .int x134), (4, .int x45), (2, .int x32), (0, .ref (base + a0)), (1, .int a1)]) (lo := 1) (hi := 2147483647) hx hb dX12_spoilers_117 hl (k := 1) rfl h74 (by decide) ⟨by decide, by decide⟩ ⟨by decide, by decide⟩ (by decide) (fun _ => rfl) (fun x137 ls e136 h135 hl => ?_)
                              refine lv_goto (tgt := 68) hx hb dX12_spoilers_120 (by decide) ?_
                              have hm138 : 2147483647 - x137.toInt < (n_62 : Int) := by
                                have := (h_a1).1; have := (h_a1).2; have := (h135).1; have := (h135).2; have := (h74).1; have := (h74).2; omega
                              exact ih_62 x134 x137 M116 R63 J115 H locs _ h133 (iv_mono h135 (by decide) (by decide)) hm138 hS (lv_sub hl [1, 0, 2, 3, 4, 5] rfl)
                  have hm139 : 2147483647 - (0 : Int32).toInt < (((2147483648 : Nat) : Int) : Int) := by
                    have := (h_a1).1; have := (h_a1).2; have : (0 : Int32).toInt = 0 := (by decide); omega
                  exact W68_62 2147483648 x44 0 M46 R47 J48 H locs _ h_x44 (iv_mono (iv_c (c := 0) (n := 0) (by decide)) (by decide) (by decide)) hm139 hS (lv_sub hl [1, 0, 2, 3, 4, 5] rfl)
            have hm140 : 10 - (0 : Int32).toInt < (((11 : Nat) : Int) : Int) := by
              have := (h_a1).1; have := (h_a1).2; have : (0 : Int32).toInt = 0 := (by decide); omega
            exact W54_46 11 0 0 M34 R35 J36 H locs _ (iv_mono (iv_c (c := 0) (n := 0) (by decide)) (by decide) (by decide)) (iv_mono (iv_c (c := 0) (n := 0) (by decide)) (by decide) (by decide)) hm140 hS (lv_sub hl [1, 0, 2, 3, 4] rfl)
          · have q141 : x33.toInt < x5.toInt := ti_nle c41
            have h142 : iv 0 3 x33 := iv_ltL (y := x5) h_x33 h17 q141 (by decide)
            refine lv_iload_n hx hb dX12_spoilers_39 rfl (lv_at hl 0 rfl) ?_
            refine lv_iconst (v := 3) hx hb dX12_spoilers_40 (by decide) ?_
            refine lv_imul hx hb dX12_spoilers_41 ?_
            refine tw_top (fun x144 => ?_)
            have h143 := iv_any x144
            refine lv_istore_n (lv' := [(2, .int x144), (3, .int x33), (0, .ref (base + a0)), (1, .int a1)]) hx hb dX12_spoilers_42 rfl hl (by decide) rfl (fun ls hl => ?_)
            refine tw_iinc (lv' := fun x147 => [(3, .int x147), (2, .int x144), (0, .ref (base + a0)), (1, .int a1)]) (lo := 1) (hi := 4) hx hb dX12_spoilers_43 hl (k := 1) rfl h142 (by decide) ⟨by decide, by decide⟩ ⟨by decide, by decide⟩ (by decide) (fun _ => rfl) (fun x147 ls e146 h145 hl => ?_)
            refine lv_goto (tgt := 29) hx hb dX12_spoilers_46 (by decide) ?_
            have hm148 : 4 - x147.toInt < (n_34 : Int) := by
              have := (h_a1).1; have := (h_a1).2; have := (h145).1; have := (h145).2; have := (h142).1; have := (h142).2; omega
            exact ih_34 x144 x147 M34 R35 J36 H locs _ h143 (iv_mono h145 (by decide) (by decide)) hm148 hS (lv_sub hl [1, 0, 2, 3] rfl)
      have hm149 : 4 - (0 : Int32).toInt < (((5 : Nat) : Int) : Int) := by
        have := (h_a1).1; have := (h_a1).2; have : (0 : Int32).toInt = 0 := (by decide); omega
      exact W29_34 5 1 0 M23 Ra J22 H locs _ (iv_mono (iv_c (c := 1) (n := 1) (by decide)) (by decide) (by decide)) (iv_mono (iv_c (c := 0) (n := 0) (by decide)) (by decide) (by decide)) hm149 hS (lv_sub hl [1, 0, 2, 3] rfl)
    · have q150 : x28.toInt < 0 := ti_nle c29
      have h151 : iv (-2147483648) (-1) x28 := iv_ltL (y := 0) h26 (iv_c (c := 0) (n := 0) (by decide)) q150 (by decide)
      refine lv_bipush (v := (-2)) hx hb dX12_spoilers_22 (by decide) ?_
      exact tw_endi hx hb hr hlocks hK hT hS hQ ((iv_mono (iv_c (c := (-2)) (n := (-2)) (by decide)) (by decide) (by decide))) dX12_spoilers_24
  · have q152 : x12.toInt = 0 := ti_eq c14
    have h153 : iv 0 0 x12 := ⟨by have := (h_x12).1; have := ((iv_c (c := 0) (n := 0) (by decide))).1; omega, by have := (h_x12).2; have := ((iv_c (c := 0) (n := 0) (by decide))).2; omega⟩
    refine lv_iconst (v := (-1)) hx hb dX12_spoilers_8 (by decide) ?_
    exact tw_endi hx hb hr hlocks hK hT hS hQ ((iv_mono (iv_c (c := (-1)) (n := (-1)) (by decide)) (by decide) (by decide))) dX12_spoilers_9
