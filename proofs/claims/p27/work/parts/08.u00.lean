def Lt_X12_fails : WL := [(12, 14, 15)]
def LRt_X12_fails : WL := []
set_option maxRecDepth 100000 in
set_option maxHeartbeats 4000000 in
theorem t_X12_fails (l : Launch) (D : va_G) (cy : Nat → ClassId) (tx : (Nat → Nat) × (Nat → Nat)) (base Z : Nat) (K N : Nat → Nat) (Ma : MT) (Ra : RT) (Ja : JT) (hTy : Ty Z K N Ma Ra) (a0 : Nat) (hz_a0 : a0 < Z) (hk_a0 : K a0 = 12) (a1 : Int32) (h_a1 : iv 0 4 a1) (a2 : Int32) (h_a2 : iv 0 400 a2) : Met l yX12_fails [Cond.code yX12_fails cX12_fails 3 (some .boolean)] (md_rm 1 0 0) (va_Pc [.ref (base + a0), .int a1, .int a2] (md_U D cy tx base Z K N Ma Ra Ja)) (mQi D cy tx base (fun r u => TP Z K N Lt_X12_fails LRt_X12_fails Ma Ra u ∧ (iv 0 0 r ∧ (r = 0 → ¬ (u.2.2.2.1 a0 14).toInt = 0)))) 0 0 (fun q => base ≤ q) := by
  refine tw_ofW (L := Lt_X12_fails) (LR := LRt_X12_fails) (by decide) (Nat.le_of_ble_eq_true rfl) hTy ?_
  intro p e s m args below meth c Q ls hx hb hr hlocks hown hml hW hK hT hS hQ hl
  have hl : lv_has ls 3 [(0, .ref (base + a0)), (1, .int a1), (2, .int a2)] := hl
  refine lv_aload_n hx hb dX12_fails_0 rfl (lv_at hl 0 rfl) ?_
  refine tw_geti hx hb hW hown hK hS f_X12_124_11 hz_a0 hk_a0 (lo := (-2147483648)) (hi := 2147483647) rfl dX12_fails_1 (fun x3 k2 h1 => ?_)
  refine lv_if_ne (tgt := 19) hx hb dX12_fails_4 (by decide) (fun c4 => ?_) (fun c4 => ?_)
  · have q5 : ¬ x3.toInt = 0 := ti_ne c4
    refine lv_iconst (v := 0) hx hb dX12_fails_19 (by decide) ?_
    have q6 : ¬ x3.toInt = 0 := by
      have := (h_a1).1; have := (h_a1).2; have := (h_a2).1; have := (h_a2).2; have := (h1).1; have := (h1).2; omega
    exact tw_endz hx hb hr hlocks hK hT hS hQ rfl (⟨(iv_c (c := 0) (n := 0) (by decide)), (fun _ => (show ¬ (Ma a0 14).toInt = 0 from by rw [k2]; exact q6))⟩) dX12_fails_20
  · have q7 : x3.toInt = 0 := ti_eq c4
    have h8 : iv 0 0 x3 := ⟨by have := (h1).1; have := ((iv_c (c := 0) (n := 0) (by decide))).1; omega, by have := (h1).2; have := ((iv_c (c := 0) (n := 0) (by decide))).2; omega⟩
    refine lv_aload_n hx hb dX12_fails_7 rfl (lv_at hl 0 rfl) ?_
    refine lv_iconst (v := 1) hx hb dX12_fails_8 (by decide) ?_
    refine lv_bipush (v := 8) hx hb dX12_fails_9 (by decide) ?_
    refine lv_iload_n hx hb dX12_fails_11 rfl (lv_at hl 2 rfl) ?_
    refine tw_icmul (k := 8) (lo := 0) (hi := 3200) hx hb (by decide) h_a2 (by decide) ⟨by decide, by decide⟩ ⟨by decide, by decide⟩ dX12_fails_12 (fun x11 e10 h9 => ?_)
    refine tw_iadd (lo := 1) (hi := 3201) hx hb (iv_c (c := 1) (n := 1) (by decide)) h9 ⟨by decide, by decide⟩ ⟨by decide, by decide⟩ dX12_fails_13 (fun x14 e13 h12 => ?_)
    have e13 : x14.toInt = 1 + x11.toInt := e13
    refine lv_iload_n hx hb dX12_fails_14 rfl (lv_at hl 1 rfl) ?_
    refine tw_iadd (lo := 1) (hi := 3205) hx hb h12 h_a1 ⟨by decide, by decide⟩ ⟨by decide, by decide⟩ dX12_fails_15 (fun x17 e16 h15 => ?_)
    refine tw_puti hx hb hW hown hK hS f_X12_124_11 hz_a0 hk_a0 rfl rfl (lo := (-2147483648)) (hi := 2147483647) rfl (iv_mono h15 (by decide) (by decide)) rfl dX12_fails_16 (fun H locs M20 hS k18 f19 => ?_)
    refine lv_iconst (v := 0) hx hb dX12_fails_19 (by decide) ?_
    have q21 : ¬ x17.toInt = 0 := by
      have := (h_a1).1; have := (h_a1).2; have := (h_a2).1; have := (h_a2).2; have := (h9).1; have := (h9).2; have := (h12).1; have := (h12).2; have := (h15).1; have := (h15).2; omega
    exact tw_endz hx hb hr hlocks hK hT hS hQ rfl (⟨(iv_c (c := 0) (n := 0) (by decide)), (fun _ => (show ¬ (M20 a0 14).toInt = 0 from by rw [k18]; exact q21))⟩) dX12_fails_20
def Lt_X12_isDigit : WL := []
def LRt_X12_isDigit : WL := []
set_option maxRecDepth 100000 in
set_option maxHeartbeats 4000000 in
theorem t_X12_isDigit (l : Launch) (D : va_G) (cy : Nat → ClassId) (tx : (Nat → Nat) × (Nat → Nat)) (base Z : Nat) (K N : Nat → Nat) (Ma : MT) (Ra : RT) (Ja : JT) (hTy : Ty Z K N Ma Ra) (a0 : Nat) (hz_a0 : a0 < Z) (hk_a0 : K a0 = 12) (a1 : Int32) (h_a1 : iv 0 400 a1) (tb : Nat) (k_tb : Ra a0 0 = some tb) (tp : Int32) (k_tp : Ma a0 1 = tp) (h_tp : iv 0 400 tp) : Met l yX12_isDigit [Cond.code yX12_isDigit cX12_isDigit 2 (some .boolean)] (md_rm 1 0 0) (va_Pc [.ref (base + a0), .int a1] (md_U D cy tx base Z K N Ma Ra Ja)) (mQi D cy tx base (fun r u => TP Z K N Lt_X12_isDigit LRt_X12_isDigit Ma Ra u ∧ (iv 0 1 r ∧ ((¬ r = 0 → chF 48 57 Ma tb a1 tp) ∧ (r = 0 → ¬ chF 48 57 Ma tb a1 tp))))) 0 0 (fun q => base ≤ q) := by
  refine tw_ofW (L := Lt_X12_isDigit) (LR := LRt_X12_isDigit) (by decide) (Nat.le_of_ble_eq_true rfl) hTy ?_
  intro p e s m args below meth c Q ls hx hb hr hlocks hown hml hW hK hT hS hQ hl
  have hl : lv_has ls 2 [(0, .ref (base + a0)), (1, .int a1)] := hl
  obtain ⟨hz_tb, hk_tb, hn_tb⟩ := hTy.refn hz_a0 hk_a0 (show rtR 12 0 = (13, 400, 0) from rfl) k_tb
  have hn_tb := hn_tb (by decide)
  refine lv_iload_n hx hb dX12_isDigit_0 rfl (lv_at hl 1 rfl) ?_
  refine lv_aload_n hx hb dX12_isDigit_1 rfl (lv_at hl 0 rfl) ?_
  refine tw_getk hx hb hW hown hK hS f_X12_116_11 hz_a0 hk_a0 (v := tp) k_tp dX12_isDigit_2 ?_
  refine lv_icmp_ge (tgt := 34) hx hb dX12_isDigit_5 (by decide) (fun c1 => ?_) (fun c1 => ?_)
  · have q2 : tp.toInt ≤ a1.toInt := ti_le c1
    refine lv_iconst (v := 0) hx hb dX12_isDigit_34 (by decide) ?_
    exact tw_endz hx hb hr hlocks hK hT hS hQ rfl (⟨(iv_mono (iv_c (c := 0) (n := 0) (by decide)) (by decide) (by decide)), ⟨fun h => absurd rfl h, fun _ h => by obtain ⟨h1, h2, h3⟩ := h; omega⟩⟩) dX12_isDigit_35
  · have q3 : a1.toInt < tp.toInt := ti_nle c1
    have h4 : iv 0 399 a1 := iv_ltL (y := tp) h_a1 h_tp q3 (by decide)
    have h5 : iv 1 400 tp := iv_gtL (y := a1) h_tp h_a1 q3 (by decide)
    refine lv_aload_n hx hb dX12_isDigit_8 rfl (lv_at hl 0 rfl) ?_
    refine tw_getrk hx hb hW hown hK hS f_X12_7_11 hz_a0 hk_a0 (b := tb) k_tb dX12_isDigit_9 ?_
    refine lv_iload_n hx hb dX12_isDigit_12 rfl (lv_at hl 1 rfl) ?_
    refine tw_bald hx hb hK hS hz_tb hk_tb hn_tb h4 ⟨by decide, by decide⟩ dX12_isDigit_13 (fun x8 k7 => ?_)
    have h6 := iv_any x8
    refine lv_bipush (v := 48) hx hb dX12_isDigit_14 (by decide) ?_
    refine lv_icmp_lt (tgt := 34) hx hb dX12_isDigit_16 (by decide) (fun c9 => ?_) (fun c9 => ?_)
    · have q10 : x8.toInt < 48 := ti_lt c9
      have h11 : iv (-2147483648) 47 x8 := iv_ltL (y := 48) h6 (iv_c (c := 48) (n := 48) (by decide)) q10 (by decide)
      refine lv_iconst (v := 0) hx hb dX12_isDigit_34 (by decide) ?_
      exact tw_endz hx hb hr hlocks hK hT hS hQ rfl (⟨(iv_mono (iv_c (c := 0) (n := 0) (by decide)) (by decide) (by decide)), ⟨fun h => absurd rfl h, fun _ h => by obtain ⟨h1, h2, h3⟩ := h; rw [k7] at h2 h3; omega⟩⟩) dX12_isDigit_35
    · have q12 : 48 ≤ x8.toInt := ti_nlt c9
      have h13 : iv 48 2147483647 x8 := iv_geL (y := 48) h6 (iv_c (c := 48) (n := 48) (by decide)) q12 (by decide)
      refine lv_aload_n hx hb dX12_isDigit_19 rfl (lv_at hl 0 rfl) ?_
      refine tw_getrk hx hb hW hown hK hS f_X12_7_11 hz_a0 hk_a0 (b := tb) k_tb dX12_isDigit_20 ?_
      refine lv_iload_n hx hb dX12_isDigit_23 rfl (lv_at hl 1 rfl) ?_
      refine tw_balk hx hb hK hS hz_tb hk_tb hn_tb h4 ⟨by decide, by decide⟩ (v := x8) k7 dX12_isDigit_24 ?_
      refine lv_bipush (v := 57) hx hb dX12_isDigit_25 (by decide) ?_
      refine lv_icmp_gt (tgt := 34) hx hb dX12_isDigit_27 (by decide) (fun c14 => ?_) (fun c14 => ?_)
      · have q15 : 57 < x8.toInt := ti_lt c14
        have h16 : iv 58 2147483647 x8 := iv_gtL (y := 57) h13 (iv_c (c := 57) (n := 57) (by decide)) q15 (by decide)
        refine lv_iconst (v := 0) hx hb dX12_isDigit_34 (by decide) ?_
        exact tw_endz hx hb hr hlocks hK hT hS hQ rfl (⟨(iv_mono (iv_c (c := 0) (n := 0) (by decide)) (by decide) (by decide)), ⟨fun h => absurd rfl h, fun _ h => by obtain ⟨h1, h2, h3⟩ := h; rw [k7] at h2 h3; omega⟩⟩) dX12_isDigit_35
      · have q17 : x8.toInt ≤ 57 := ti_nlt c14
        have h18 : iv 48 57 x8 := iv_leL (y := 57) h13 (iv_c (c := 57) (n := 57) (by decide)) q17 (by decide)
        refine lv_iconst (v := 1) hx hb dX12_isDigit_30 (by decide) ?_
        refine lv_goto (tgt := 35) hx hb dX12_isDigit_31 (by decide) ?_
        exact tw_endz hx hb hr hlocks hK hT hS hQ rfl (⟨(iv_mono (iv_c (c := 1) (n := 1) (by decide)) (by decide) (by decide)), ⟨fun _ => ⟨by omega, by rw [k7]; omega, by rw [k7]; omega⟩, fun h => absurd h (by decide)⟩⟩) dX12_isDigit_35
def Lt_X12_see : WL := [(12, 13, 14)]
def LRt_X12_see : WL := []
set_option maxRecDepth 100000 in
set_option maxHeartbeats 4000000 in
theorem t_X12_see (l : Launch) (D : va_G) (cy : Nat → ClassId) (tx : (Nat → Nat) × (Nat → Nat)) (base Z : Nat) (K N : Nat → Nat) (Ma : MT) (Ra : RT) (Ja : JT) (hTy : Ty Z K N Ma Ra) (a0 : Nat) (hz_a0 : a0 < Z) (hk_a0 : K a0 = 12) (tb : Nat) (k_tb : Ra a0 0 = some tb) (nx : Int32) (k_nx : Ma a0 13 = nx) (h_nx : iv 0 400 nx) (tp : Int32) (k_tp : Ma a0 1 = tp) (h_tp : iv 0 400 tp) (hnt : nx.toInt ≤ tp.toInt) : Met l yX12_see [Cond.code yX12_see cX12_see 1 (some .int)] (md_rm 1 0 0) (va_Pc [.ref (base + a0)] (md_U D cy tx base Z K N Ma Ra Ja)) (mQi D cy tx base (fun r u => TP Z K N Lt_X12_see LRt_X12_see Ma Ra u ∧ (iv (-1) 255 r ∧ (∃ x0 : Int32, u.2.2.2.1 a0 13 = x0 ∧ iv 0 400 x0 ∧ (nx.toInt ≤ x0.toInt ∧ x0.toInt ≤ tp.toInt ∧ (r.toInt = -1 ∨ x0.toInt < tp.toInt)) ∧ (∀ j : Nat, j = nx.toNatClampNeg → nx.toInt < tp.toInt ∧ ¬ (Ma tb j).toInt = 32 → x0.toInt = nx.toInt) ∧ (∀ j : Nat, j = x0.toNatClampNeg → r.toInt = -1 ∨ ¬ (u.2.2.2.1 tb j).toInt = 32))))) 0 0 (fun q => base ≤ q) := by
  refine tw_ofW (L := Lt_X12_see) (LR := LRt_X12_see) (by decide) (Nat.le_of_ble_eq_true rfl) hTy ?_
  intro p e s m args below meth c Q ls hx hb hr hlocks hown hml hW hK hT hS hQ hl
  have hl : lv_has ls 1 [(0, .ref (base + a0))] := hl
  obtain ⟨hz_tb, hk_tb, hn_tb⟩ := hTy.refn hz_a0 hk_a0 (show rtR 12 0 = (13, 400, 0) from rfl) k_tb
  have hn_tb := hn_tb (by decide)
  have W0_1 : ∀ (n_1 : Nat) (x6 : Int32) (M1 : MT) (R2 : RT) (J3 : JT) (H : Heap) (locs : List Loc) (ls : Array Slot) (h_x6 : iv 0 400 x6) (k7 : M1 a0 13 = x6) (w0_1 : nx.toInt ≤ x6.toInt ∧ x6.toInt ≤ tp.toInt) (w1_1 : (∀ j : Nat, j = nx.toNatClampNeg → nx.toInt < tp.toInt ∧ ¬ (Ma tb j).toInt = 32 → x6.toInt = nx.toInt)) (hm_1 : 400 - x6.toInt < (n_1 : Int)) (hS : SB D cy base Z K N Lt_X12_see LRt_X12_see Ma Ra M1 R2 J3 s H locs) (hl : lv_has ls 1 [(0, .ref (base + a0))]), W p l e (md_rm 1 0 0) s m args below meth c H locs 0 0 Q (F0 m 0 ls []) := by
    intro n_1
    induction n_1 with
    | zero =>
      intro x6 M1 R2 J3 H locs ls h_x6 k7 w0_1 w1_1 hm_1 hS hl
      exfalso
      have := (h_nx).1; have := (h_nx).2; have := (h_tp).1; have := (h_tp).2; have := (h_x6).1; have := (h_x6).2; omega
    | succ n_1 ih_1 =>
      intro x6 M1 R2 J3 H locs ls h_x6 k7 w0_1 w1_1 hm_1 hS hl
      have f4 := hS.2.2.1
      have g5 := hS.2.2.2
      refine lv_aload_n hx hb dX12_see_0 rfl (lv_at hl 0 rfl) ?_
      refine tw_getk hx hb hW hown hK hS f_X12_127_11 hz_a0 hk_a0 (v := x6) k7 dX12_see_1 ?_
      refine lv_aload_n hx hb dX12_see_4 rfl (lv_at hl 0 rfl) ?_
      have k8 : M1 a0 1 = tp := (Fr.kp (k := 1) f4 hk_a0 rfl).trans k_tp
      refine tw_getk hx hb hW hown hK hS f_X12_116_11 hz_a0 hk_a0 (v := tp) k8 dX12_see_5 ?_
      refine lv_icmp_ge (tgt := 38) hx hb dX12_see_8 (by decide) (fun c9 => ?_) (fun c9 => ?_)
      · have q10 : tp.toInt ≤ x6.toInt := ti_le c9
        refine lv_aload_n hx hb dX12_see_38 rfl (lv_at hl 0 rfl) ?_
        refine tw_getk hx hb hW hown hK hS f_X12_127_11 hz_a0 hk_a0 (v := x6) k7 dX12_see_39 ?_
        refine lv_aload_n hx hb dX12_see_42 rfl (lv_at hl 0 rfl) ?_
        have k11 : M1 a0 1 = tp := (Fr.kp (k := 1) f4 hk_a0 rfl).trans k_tp
        refine tw_getk hx hb hW hown hK hS f_X12_116_11 hz_a0 hk_a0 (v := tp) k11 dX12_see_43 ?_
        refine lv_icmp_ge (tgt := 65) hx hb dX12_see_46 (by decide) (fun c12 => ?_) (fun c12 => ?_)
        · have q13 : tp.toInt ≤ x6.toInt := ti_le c12
          refine lv_iconst (v := (-1)) hx hb dX12_see_65 (by decide) ?_
          have q14 : nx.toInt ≤ x6.toInt ∧ x6.toInt ≤ tp.toInt ∧ ((-1 : Int32).toInt = -1 ∨ x6.toInt < tp.toInt) := by
            have := (h_nx).1; have := (h_nx).2; have := (h_tp).1; have := (h_tp).2; have := (h_x6).1; have := (h_x6).2; have : (-1 : Int32).toInt = -1 := (by decide); omega
          exact tw_endi hx hb hr hlocks hK hT hS hQ (⟨(iv_mono (iv_c (c := (-1)) (n := (-1)) (by decide)) (by decide) (by decide)), ⟨x6, k7, h_x6, q14, w1_1, (fun _ _ => Or.inl (by decide))⟩⟩) dX12_see_66
        · have q15 : x6.toInt < tp.toInt := ti_nle c12
          have h16 : iv 0 399 x6 := iv_ltL (y := tp) h_x6 h_tp q15 (by decide)
          have h17 : iv 1 400 tp := iv_gtL (y := x6) h_tp h_x6 q15 (by decide)
          refine lv_aload_n hx hb dX12_see_49 rfl (lv_at hl 0 rfl) ?_
          have k18 : R2 a0 0 = some tb := (Fr.kp (k := 0) g5 hk_a0 rfl).trans k_tb
          refine tw_getrk hx hb hW hown hK hS f_X12_7_11 hz_a0 hk_a0 (b := tb) k18 dX12_see_50 ?_
          refine lv_aload_n hx hb dX12_see_53 rfl (lv_at hl 0 rfl) ?_
          refine tw_getk hx hb hW hown hK hS f_X12_127_11 hz_a0 hk_a0 (v := x6) k7 dX12_see_54 ?_
          refine tw_bald hx hb hK hS hz_tb hk_tb hn_tb h16 ⟨by decide, by decide⟩ dX12_see_57 (fun x21 k20 => ?_)
          have h19 := iv_any x21
          refine lv_sipush (v := 255) hx hb dX12_see_58 (by decide) ?_
          refine tw_iand (hi := 255) hx hb (iv_mono (iv_c (c := 255) (n := 255) (by decide)) (lo := 0) (hi := 255) (by decide) (by decide)) (by decide) dX12_see_61 (fun x24 h22 => ?_)
          refine lv_goto (tgt := 66) hx hb dX12_see_62 (by decide) ?_
          have q25 : nx.toInt ≤ x6.toInt ∧ x6.toInt ≤ tp.toInt ∧ (x24.toInt = -1 ∨ x6.toInt < tp.toInt) := by
            have := (h_nx).1; have := (h_nx).2; have := (h17).1; have := (h17).2; have := (h19).1; have := (h19).2; have := (h22).1; have := (h22).2; have := (h16).1; have := (h16).2; omega
          exact tw_endi hx hb hr hlocks hK hT hS hQ (⟨(iv_mono h22 (by decide) (by decide)), ⟨x6, k7, (iv_mono h16 (by decide) (by decide)), q25, w1_1, (fun j hj => Or.inr (fun e2 => by subst hj; have e2 : (M1 tb x6.toNatClampNeg).toInt = 32 := e2; rw [k20] at e2; omega))⟩⟩) dX12_see_66
      · have q26 : x6.toInt < tp.toInt := ti_nle c9
        have h27 : iv 0 399 x6 := iv_ltL (y := tp) h_x6 h_tp q26 (by decide)
        have h28 : iv 1 400 tp := iv_gtL (y := x6) h_tp h_x6 q26 (by decide)
        refine lv_aload_n hx hb dX12_see_11 rfl (lv_at hl 0 rfl) ?_
        have k29 : R2 a0 0 = some tb := (Fr.kp (k := 0) g5 hk_a0 rfl).trans k_tb
        refine tw_getrk hx hb hW hown hK hS f_X12_7_11 hz_a0 hk_a0 (b := tb) k29 dX12_see_12 ?_
        refine lv_aload_n hx hb dX12_see_15 rfl (lv_at hl 0 rfl) ?_
        refine tw_getk hx hb hW hown hK hS f_X12_127_11 hz_a0 hk_a0 (v := x6) k7 dX12_see_16 ?_
        refine tw_bald hx hb hK hS hz_tb hk_tb hn_tb h27 ⟨by decide, by decide⟩ dX12_see_19 (fun x32 k31 => ?_)
        have h30 := iv_any x32
        refine lv_bipush (v := 32) hx hb dX12_see_20 (by decide) ?_
        refine lv_icmp_ne (tgt := 38) hx hb dX12_see_22 (by decide) (fun c33 => ?_) (fun c33 => ?_)
        · have q34 : ¬ x32.toInt = 32 := ti_ne c33
          refine lv_aload_n hx hb dX12_see_38 rfl (lv_at hl 0 rfl) ?_
          refine tw_getk hx hb hW hown hK hS f_X12_127_11 hz_a0 hk_a0 (v := x6) k7 dX12_see_39 ?_
          refine lv_aload_n hx hb dX12_see_42 rfl (lv_at hl 0 rfl) ?_
          have k35 : M1 a0 1 = tp := (Fr.kp (k := 1) f4 hk_a0 rfl).trans k_tp
          refine tw_getk hx hb hW hown hK hS f_X12_116_11 hz_a0 hk_a0 (v := tp) k35 dX12_see_43 ?_
          refine lv_icmp_ge (tgt := 65) hx hb dX12_see_46 (by decide) (fun c36 => ?_) (fun c36 => ?_)
          · have q37 : tp.toInt ≤ x6.toInt := ti_le c36
            have h38 : iv 1 399 x6 := iv_geL (y := tp) h27 h28 q37 (by decide)
            have h39 : iv 1 399 tp := iv_leL (y := x6) h28 h27 q37 (by decide)
            refine lv_iconst (v := (-1)) hx hb dX12_see_65 (by decide) ?_
            have q40 : nx.toInt ≤ x6.toInt ∧ x6.toInt ≤ tp.toInt ∧ ((-1 : Int32).toInt = -1 ∨ x6.toInt < tp.toInt) := by
              have := (h_nx).1; have := (h_nx).2; have := (h39).1; have := (h39).2; have := (h38).1; have := (h38).2; have : (-1 : Int32).toInt = -1 := (by decide); omega
            exact tw_endi hx hb hr hlocks hK hT hS hQ (⟨(iv_mono (iv_c (c := (-1)) (n := (-1)) (by decide)) (by decide) (by decide)), ⟨x6, k7, (iv_mono h38 (by decide) (by decide)), q40, w1_1, (fun _ _ => Or.inl (by decide))⟩⟩) dX12_see_66
          · have q41 : x6.toInt < tp.toInt := ti_nle c36
            refine lv_aload_n hx hb dX12_see_49 rfl (lv_at hl 0 rfl) ?_
            have k42 : R2 a0 0 = some tb := (Fr.kp (k := 0) g5 hk_a0 rfl).trans k_tb
            refine tw_getrk hx hb hW hown hK hS f_X12_7_11 hz_a0 hk_a0 (b := tb) k42 dX12_see_50 ?_
            refine lv_aload_n hx hb dX12_see_53 rfl (lv_at hl 0 rfl) ?_
            refine tw_getk hx hb hW hown hK hS f_X12_127_11 hz_a0 hk_a0 (v := x6) k7 dX12_see_54 ?_
            refine tw_balk hx hb hK hS hz_tb hk_tb hn_tb h27 ⟨by decide, by decide⟩ (v := x32) k31 dX12_see_57 ?_
            refine lv_sipush (v := 255) hx hb dX12_see_58 (by decide) ?_
            refine tw_iand (hi := 255) hx hb (iv_mono (iv_c (c := 255) (n := 255) (by decide)) (lo := 0) (hi := 255) (by decide) (by decide)) (by decide) dX12_see_61 (fun x45 h43 => ?_)
            refine lv_goto (tgt := 66) hx hb dX12_see_62 (by decide) ?_
            have q46 : nx.toInt ≤ x6.toInt ∧ x6.toInt ≤ tp.toInt ∧ (x45.toInt = -1 ∨ x6.toInt < tp.toInt) := by
              have := (h_nx).1; have := (h_nx).2; have := (h28).1; have := (h28).2; have := (h30).1; have := (h30).2; have := (h43).1; have := (h43).2; have := (h27).1; have := (h27).2; omega
            exact tw_endi hx hb hr hlocks hK hT hS hQ (⟨(iv_mono h43 (by decide) (by decide)), ⟨x6, k7, (iv_mono h27 (by decide) (by decide)), q46, w1_1, (fun j hj => Or.inr (fun e2 => by subst hj; have e2 : (M1 tb x6.toNatClampNeg).toInt = 32 := e2; rw [k31] at e2; omega))⟩⟩) dX12_see_66
        · have q47 : x32.toInt = 32 := ti_eq c33
          have h48 : iv 32 32 x32 := ⟨by have := (h30).1; have := ((iv_c (c := 32) (n := 32) (by decide))).1; omega, by have := (h30).2; have := ((iv_c (c := 32) (n := 32) (by decide))).2; omega⟩
          refine lv_aload_n hx hb dX12_see_25 rfl (lv_at hl 0 rfl) ?_
          refine lv_dup hx hb dX12_see_26 rfl ?_
          refine tw_getk hx hb hW hown hK hS f_X12_127_11 hz_a0 hk_a0 (v := x6) k7 dX12_see_27 ?_
          refine lv_iconst (v := 1) hx hb dX12_see_30 (by decide) ?_
          refine tw_iadd (lo := 1) (hi := 400) hx hb h27 (iv_c (c := 1) (n := 1) (by decide)) ⟨by decide, by decide⟩ ⟨by decide, by decide⟩ dX12_see_31 (fun x51 e50 h49 => ?_)
          have e50 : x51.toInt = x6.toInt + 1 := e50
          refine tw_puti hx hb hW hown hK hS f_X12_127_11 hz_a0 hk_a0 rfl rfl (lo := 0) (hi := 400) rfl (iv_mono h49 (by decide) (by decide)) rfl dX12_see_32 (fun H locs M54 hS k52 f53 => ?_)
          refine lv_goto (tgt := 0) hx hb dX12_see_35 (by decide) ?_
          have w55 : nx.toInt ≤ x51.toInt ∧ x51.toInt ≤ tp.toInt := by
            have := (h_nx).1; have := (h_nx).2; have := (h28).1; have := (h28).2; have := (h49).1; have := (h49).2; have := (h27).1; have := (h27).2; omega
          have w56 : (∀ j : Nat, j = nx.toNatClampNeg → nx.toInt < tp.toInt ∧ ¬ (Ma tb j).toInt = 32 → x51.toInt = nx.toInt) := fun j hj h => by exfalso; subst hj; have e1 := Int32.toInt_inj.mp (w1_1 _ rfl h); have e2 := h.2; rw [← e1, (Fr.kpa f4 hk_tb rfl _).symm.trans k31] at e2; omega
          have hm57 : 400 - x51.toInt < (n_1 : Int) := by
            have := (h_nx).1; have := (h_nx).2; have := (h28).1; have := (h28).2; have := (h49).1; have := (h49).2; have := (h27).1; have := (h27).2; omega
          exact ih_1 x51 M54 R2 J3 H locs _ (iv_mono h49 (by decide) (by decide)) k52 w55 w56 hm57 hS hl
  have w58 : nx.toInt ≤ nx.toInt ∧ nx.toInt ≤ tp.toInt := by
    have := (h_nx).1; have := (h_nx).2; have := (h_tp).1; have := (h_tp).2; omega
  have w59 : (∀ j : Nat, j = nx.toNatClampNeg → nx.toInt < tp.toInt ∧ ¬ (Ma tb j).toInt = 32 → nx.toInt = nx.toInt) := fun _ _ _ => rfl
  have hm60 : 400 - nx.toInt < (((401 : Nat) : Int) : Int) := by
    have := (h_nx).1; have := (h_nx).2; have := (h_tp).1; have := (h_tp).2; omega
  exact W0_1 401 nx Ma Ra Ja s.heap [] _ h_nx k_nx w58 w59 hm60 hS hl
def Lt_X12_numberHere : WL := [(12, 13, 16)]
def LRt_X12_numberHere : WL := []
set_option maxRecDepth 100000 in
set_option maxHeartbeats 4000000 in
theorem t_X12_numberHere (l : Launch) (D : va_G) (cy : Nat → ClassId) (tx : (Nat → Nat) × (Nat → Nat)) (base Z : Nat) (K N : Nat → Nat) (Ma : MT) (Ra : RT) (Ja : JT) (hTy : Ty Z K N Ma Ra) (a0 : Nat) (hz_a0 : a0 < Z) (hk_a0 : K a0 = 12) (a1 : Int32) (h_a1 : iv 0 1 a1) (a2 : Int32) (h_a2 : iv (-1) 99999 a2) (tb : Nat) (k_tb : Ra a0 0 = some tb) (nx : Int32) (k_nx : Ma a0 13 = nx) (h_nx : iv 0 400 nx) (tp : Int32) (k_tp : Ma a0 1 = tp) (h_tp : iv 0 400 tp) (hnt : nx.toInt ≤ tp.toInt) (nm : Int32) (k_nm : Ma a0 15 = nm) (h_nm : iv (-2147483648) 2147483647 nm) : Met l yX12_numberHere [Cond.code yX12_numberHere cX12_numberHere 5 (some .boolean)] (md_rm 2 0 0) (va_Pc [.ref (base + a0), .int a1, .int a2] (md_U D cy tx base Z K N Ma Ra Ja)) (mQi D cy tx base (fun r u => TP Z K N Lt_X12_numberHere LRt_X12_numberHere Ma Ra u ∧ (iv 0 1 r ∧ (∃ x0 : Int32, u.2.2.2.1 a0 13 = x0 ∧ iv 0 400 x0 ∧ (nx.toInt ≤ x0.toInt ∧ x0.toInt ≤ tp.toInt ∧ (r.toInt = 0 ∨ nx.toInt < x0.toInt))) ∧ (∃ x0 : Int32, u.2.2.2.1 a0 15 = x0 ∧ iv (-2147483648) 2147483647 x0 ∧ (r.toInt = 0 ∨ (a1.toInt ≤ x0.toInt ∧ x0.toInt ≤ a2.toInt))) ∧ (r = 0 → ¬ (u.2.2.2.1 a0 14).toInt = 0)))) 0 0 (fun q => base ≤ q) := by
  refine tw_ofW (L := Lt_X12_numberHere) (LR := LRt_X12_numberHere) (by decide) (Nat.le_of_ble_eq_true rfl) hTy ?_
  intro p e s m args below meth c Q ls hx hb hr hlocks hown hml hW hK hT hS hQ hl
  have hl : lv_has ls 5 [(0, .ref (base + a0)), (1, .int a1), (2, .int a2)] := hl
  obtain ⟨hz_tb, hk_tb, hn_tb⟩ := hTy.refn hz_a0 hk_a0 (show rtR 12 0 = (13, 400, 0) from rfl) k_tb
  have hn_tb := hn_tb (by decide)
  refine lv_aload_n hx hb dX12_numberHere_0 rfl (lv_at hl 0 rfl) ?_
  have q1 : nx.toInt ≤ tp.toInt := by
    have := (h_a1).1; have := (h_a1).2; have := (h_a2).1; have := (h_a2).2; have := (h_nm).1; have := (h_nm).2; have := (h_nx).1; have := (h_nx).2; have := (h_tp).1; have := (h_tp).2; omega
  refine tw_goi hS (md_runV (As := []) (rest := []) hx hb hml hown hW hK hT hS.1 (t_X12_see l D cy tx base Z K N Ma Ra Ja hS.2.1 a0 hz_a0 hk_a0 tb k_tb nx k_nx (iv_mono h_nx (by decide) (by decide)) tp k_tp (iv_mono h_tp (by decide) (by decide)) q1) s_X12_130 ⟨rfl, rfl, ⟨Nat.le_of_ble_eq_true rfl, Nat.le_of_ble_eq_true rfl⟩, ⟨Nat.le_of_ble_eq_true rfl, Nat.le_of_ble_eq_true rfl⟩⟩ hz_a0 hk_a0 (by decide) rfl rfl hl.1 rfl (Nat.le_of_ble_eq_true rfl) dX12_numberHere_1) rfl rfl (fun x8 H locs M5 R6 J4 hS f2 g3 E7 => ?_)
  have eR6 := Fr.nil g3 rfl
  subst eR6
  obtain ⟨h_x8, p9⟩ := E7
  obtain ⟨x12, k10, h11, q13, z14, z15⟩ := p9
  have k10 : M5 a0 13 = x12 := k10
  have z15 : ∀ j : Nat, j = x12.toNatClampNeg → x8.toInt = -1 ∨ ¬ (M5 tb j).toInt = 32 := z15
  refine lv_pop hx hb dX12_numberHere_4 rfl ?_
  refine lv_aload_n hx hb dX12_numberHere_5 rfl (lv_at hl 0 rfl) ?_
  refine lv_aload_n hx hb dX12_numberHere_6 rfl (lv_at hl 0 rfl) ?_
  refine tw_getk hx hb hW hown hK hS f_X12_127_11 hz_a0 hk_a0 (v := x12) k10 dX12_numberHere_7 ?_
  have k16 : M5 a0 1 = tp := (Fr.kp (k := 1) f2 hk_a0 rfl).trans k_tp
  refine tw_goi hS (md_runV (As := [.int x12]) (rest := []) hx hb hml hown hW hK hT hS.1 (t_X12_isDigit l D cy tx base Z K N M5 Ra J4 hS.2.1 a0 hz_a0 hk_a0 x12 h11 tb k_tb tp k16 (iv_mono h_tp (by decide) (by decide))) s_X12_145 ⟨rfl, rfl, ⟨Nat.le_of_ble_eq_true rfl, Nat.le_of_ble_eq_true rfl⟩, ⟨Nat.le_of_ble_eq_true rfl, Nat.le_of_ble_eq_true rfl⟩⟩ hz_a0 hk_a0 (by decide) rfl rfl hl.1 rfl (Nat.le_of_ble_eq_true rfl) dX12_numberHere_10) rfl rfl (fun x23 H locs M20 R21 J19 hS f17 g18 E22 => ?_)
  have eM20 := Fr.nil f17 rfl
  subst eM20
  have eR21 := Fr.nil g18 rfl
  subst eR21
  obtain ⟨h_x23, p24⟩ := E22
  have z25 : ¬ x23 = 0 → chF 48 57 Ma tb x12 tp := fun h => chF.rf (p24.1 h) hS.2.2.1 hk_tb rfl
  have z26 : x23 = 0 → ¬ chF 48 57 Ma tb x12 tp := fun h q => p24.2 h (chF.fr q hS.2.2.1 hk_tb rfl)
  refine lv_if_ne (tgt := 26) hx hb dX12_numberHere_13 (by decide) (fun c27 => ?_) (fun c27 => ?_)
  · have q28 : ¬ x23.toInt = 0 := ti_ne c27
    have h29 : iv 1 1 x23 := ⟨by have := (h_x23).1; have := ((iv_c (c := 0) (n := 0) (by decide))).1; have := ((iv_c (c := 0) (n := 0) (by decide))).2; omega, by have := (h_x23).2; have := ((iv_c (c := 0) (n := 0) (by decide))).1; have := ((iv_c (c := 0) (n := 0) (by decide))).2; omega⟩
    have z30 := z25 c27
    have q31 := z30.1
    have h32 : iv 0 399 x12 := iv_ltL (y := tp) h11 h_tp q31 (by decide)
    refine lv_aload_n hx hb dX12_numberHere_26 rfl (lv_at hl 0 rfl) ?_
    refine tw_getk hx hb hW hown hK hS f_X12_127_11 hz_a0 hk_a0 (v := x12) k10 dX12_numberHere_27 ?_
    refine lv_istore_n (lv' := [(3, .int x12), (0, .ref (base + a0)), (1, .int a1), (2, .int a2)]) hx hb dX12_numberHere_30 rfl hl (by decide) rfl (fun ls hl => ?_)
    refine lv_iconst (v := 0) hx hb dX12_numberHere_31 (by decide) ?_
    refine lv_istore (lv' := [(4, .int 0), (3, .int x12), (0, .ref (base + a0)), (1, .int a1), (2, .int a2)]) hx hb dX12_numberHere_32 hl (by decide) rfl (fun ls hl => ?_)
    have W34_34 : ∀ (n_34 : Nat) (x33 : Int32) (x39 : Int32) (M34 : MT) (R35 : RT) (J36 : JT) (H : Heap) (locs : List Loc) (ls : Array Slot) (h_x33 : iv (-2147483648) 2147483647 x33) (h_x39 : iv 0 400 x39) (k40 : M34 a0 13 = x39) (w0_34 : x12.toInt ≤ x39.toInt ∧ x39.toInt ≤ tp.toInt) (hm_34 : 400 - x39.toInt < (n_34 : Int)) (hS : SB D cy base Z K N Lt_X12_numberHere LRt_X12_numberHere Ma Ra M34 R35 J36 s H locs) (hl : lv_has ls 5 [(4, .int x33), (3, .int x12), (0, .ref (base + a0)), (1, .int a1), (2, .int a2)]), W p l e (md_rm 2 0 0) s m args below meth c H locs 0 0 Q (F0 m 34 ls []) := by
      intro n_34
      induction n_34 with
      | zero =>
        intro x33 x39 M34 R35 J36 H locs ls h_x33 h_x39 k40 w0_34 hm_34 hS hl
        exfalso
        have := (h_a1).1; have := (h_a1).2; have := (h_a2).1; have := (h_a2).2; have := (h_nm).1; have := (h_nm).2; have := (h_nx).1; have := (h_nx).2; have := (h_tp).1; have := (h_tp).2; have := (h32).1; have := (h32).2; have := (h_x39).1; have := (h_x39).2; have := (h_x8).1; have := (h_x8).2; omega
      | succ n_34 ih_34 =>
        intro x33 x39 M34 R35 J36 H locs ls h_x33 h_x39 k40 w0_34 hm_34 hS hl
        have f37 := hS.2.2.1
        have g38 := hS.2.2.2
        refine lv_aload_n hx hb dX12_numberHere_34 rfl (lv_at hl 2 rfl) ?_
        refine lv_aload_n hx hb dX12_numberHere_35 rfl (lv_at hl 2 rfl) ?_
        refine tw_getk hx hb hW hown hK hS f_X12_127_11 hz_a0 hk_a0 (v := x39) k40 dX12_numberHere_36 ?_
        have k41 : R35 a0 0 = some tb := (Fr.kp (k := 0) g38 hk_a0 rfl).trans k_tb
        have k42 : M34 a0 1 = tp := (Fr.kp (k := 1) f37 hk_a0 rfl).trans k_tp
        refine tw_goi hS (md_runV (As := [.int x39]) (rest := []) hx hb hml hown hW hK hT hS.1 (t_X12_isDigit l D cy tx base Z K N M34 R35 J36 hS.2.1 a0 hz_a0 hk_a0 x39 h_x39 tb k41 tp k42 (iv_mono h_tp (by decide) (by decide))) s_X12_145 ⟨rfl, rfl, ⟨Nat.le_of_ble_eq_true rfl, Nat.le_of_ble_eq_true rfl⟩, ⟨Nat.le_of_ble_eq_true rfl, Nat.le_of_ble_eq_true rfl⟩⟩ hz_a0 hk_a0 (by decide) rfl rfl hl.1 rfl (Nat.le_of_ble_eq_true rfl) dX12_numberHere_39) rfl rfl (fun x49 H locs M46 R47 J45 hS f43 g44 E48 => ?_)
        have eM46 := Fr.nil f43 rfl
        subst eM46
        have eR47 := Fr.nil g44 rfl
        subst eR47
        obtain ⟨h_x49, p50⟩ := E48
        have z51 : ¬ x49 = 0 → chF 48 57 Ma tb x39 tp := fun h => chF.rf (p50.1 h) hS.2.2.1 hk_tb rfl
        have z52 : x49 = 0 → ¬ chF 48 57 Ma tb x39 tp := fun h q => p50.2 h (chF.fr q hS.2.2.1 hk_tb rfl)
        refine lv_if_eq (tgt := 88) hx hb dX12_numberHere_42 (by decide) (fun c53 => ?_) (fun c53 => ?_)
        · have q54 : x49.toInt = 0 := ti_eq c53
          have z55 := z52 c53
          have h56 : iv 0 0 x49 := ⟨by have := (h_x49).1; have := ((iv_c (c := 0) (n := 0) (by decide))).1; omega, by have := (h_x49).2; have := ((iv_c (c := 0) (n := 0) (by decide))).2; omega⟩
          have q57 : ¬ x39.toInt = x12.toInt := fun e => z55 (z30.at e)
          refine lv_aload_n hx hb dX12_numberHere_88 rfl (lv_at hl 2 rfl) ?_
          refine lv_iload hx hb dX12_numberHere_89 (lv_at hl 0 rfl) ?_
          refine tw_puti hx hb hW hown hK hS f_X12_152_11 hz_a0 hk_a0 rfl rfl (lo := (-2147483648)) (hi := 2147483647) rfl h_x33 rfl dX12_numberHere_91 (fun H locs M60 hS k58 f59 => ?_)
          refine lv_aload_n hx hb dX12_numberHere_94 rfl (lv_at hl 2 rfl) ?_
          have k61 : M60 a0 13 = x39 := (Fr.kp (k := 13) f59 hk_a0 rfl).trans k40
          refine tw_getk hx hb hW hown hK hS f_X12_127_11 hz_a0 hk_a0 (v := x39) k61 dX12_numberHere_95 ?_
          refine lv_iload_n hx hb dX12_numberHere_98 rfl (lv_at hl 1 rfl) ?_
          refine tw_isub (lo := (-399)) (hi := 400) hx hb h_x39 h32 ⟨by decide, by decide⟩ ⟨by decide, by decide⟩ dX12_numberHere_99 (fun x64 e63 h62 => ?_)
          refine lv_iconst (v := 5) hx hb dX12_numberHere_100 (by decide) ?_
          refine lv_icmp_gt (tgt := 117) hx hb dX12_numberHere_101 (by decide) (fun c65 => ?_) (fun c65 => ?_)
          · have q66 : 5 < x64.toInt := ti_lt c65
            have h67 : iv 6 400 x64 := iv_gtL (y := 5) h62 (iv_c (c := 5) (n := 5) (by decide)) q66 (by decide)
            refine lv_aload_n hx hb dX12_numberHere_117 rfl (lv_at hl 2 rfl) ?_
            refine lv_iconst (v := 1) hx hb dX12_numberHere_118 (by decide) ?_
            refine lv_iload_n hx hb dX12_numberHere_119 rfl (lv_at hl 1 rfl) ?_
            refine tw_goi hS (md_runV (As := [.int 1, .int x12]) (rest := []) hx hb hml hown hW hK hT hS.1 (t_X12_fails l D cy tx base Z K N M60 R35 J45 hS.2.1 a0 hz_a0 hk_a0 1 (iv_mono (iv_c (c := 1) (n := 1) (by decide)) (by decide) (by decide)) x12 (iv_mono h32 (by decide) (by decide))) s_X12_148 ⟨rfl, rfl, ⟨Nat.le_of_ble_eq_true rfl, Nat.le_of_ble_eq_true rfl⟩, ⟨Nat.le_of_ble_eq_true rfl, Nat.le_of_ble_eq_true rfl⟩⟩ hz_a0 hk_a0 (by decide) rfl rfl hl.1 rfl (Nat.le_of_ble_eq_true rfl) dX12_numberHere_120) rfl rfl (fun x74 H locs M71 R72 J70 hS f68 g69 E73 => ?_)
            have eR72 := Fr.nil g69 rfl
            subst eR72
            obtain ⟨h_x74, p75⟩ := E73
            have z76 : x74 = 0 → ¬ (M71 a0 14).toInt = 0 := p75
            have z77 := z76 (iv0 h_x74)
            refine lv_if_eq (tgt := 130) hx hb dX12_numberHere_123 (by decide) (fun c78 => ?_) (fun c78 => False.elim (by have q : ¬ x74.toInt = 0 := ti_ne c78; have := (h_x74).1; have := (h_x74).2; omega))
            have q79 : x74.toInt = 0 := ti_eq c78
            have z80 := z76 c78
            refine lv_iconst (v := 0) hx hb dX12_numberHere_130 (by decide) ?_
            have k81 : M71 a0 13 = x39 := (Fr.kp (k := 13) f68 hk_a0 rfl).trans k61
            have q82 : nx.toInt ≤ x39.toInt ∧ x39.toInt ≤ tp.toInt ∧ ((0 : Int32).toInt = 0 ∨ nx.toInt < x39.toInt) := by
              have := (h_a1).1; have := (h_a1).2; have := (h_a2).1; have := (h_a2).2; have := (h_nm).1; have := (h_nm).2; have := (h_nx).1; have := (h_nx).2; have := (h_tp).1; have := (h_tp).2; have := (h32).1; have := (h32).2; have := (h_x39).1; have := (h_x39).2; have := (h67).1; have := (h67).2; have := (h_x8).1; have := (h_x8).2; have : (0 : Int32).toInt = 0 := (by decide); omega
            have k83 : M71 a0 15 = x33 := (Fr.kp (k := 15) f68 hk_a0 rfl).trans k58
            have q84 : (0 : Int32).toInt = 0 ∨ (a1.toInt ≤ x33.toInt ∧ x33.toInt ≤ a2.toInt) := by
              have := (h_a1).1; have := (h_a1).2; have := (h_a2).1; have := (h_a2).2; have := (h_nm).1; have := (h_nm).2; have := (h_nx).1; have := (h_nx).2; have := (h_tp).1; have := (h_tp).2; have := (h_x33).1; have := (h_x33).2; have : (0 : Int32).toInt = 0 := (by decide); omega
            exact tw_endz hx hb hr hlocks hK hT hS hQ rfl (⟨(iv_mono (iv_c (c := 0) (n := 0) (by decide)) (by decide) (by decide)), ⟨x39, k81, h_x39, q82⟩, ⟨x33, k83, h_x33, q84⟩, (fun _ => (show ¬ (M71 a0 14).toInt = 0 from z80))⟩) dX12_numberHere_131
          · have q85 : x64.toInt ≤ 5 := ti_nlt c65
            have h86 : iv (-399) 5 x64 := iv_leL (y := 5) h62 (iv_c (c := 5) (n := 5) (by decide)) q85 (by decide)
            refine lv_iload hx hb dX12_numberHere_104 (lv_at hl 0 rfl) ?_
            refine lv_i2l hx hb dX12_numberHere_106 rfl ?_
            refine lv_iload_n hx hb dX12_numberHere_107 rfl (lv_at hl 3 rfl) ?_
            refine lv_i2l hx hb dX12_numberHere_108 rfl ?_
            refine lv_iload_n hx hb dX12_numberHere_109 rfl (lv_at hl 4 rfl) ?_
            refine lv_i2l hx hb dX12_numberHere_110 rfl ?_
            refine tw_goi hS (md_runS (As := [.long x33.toInt64, .long a1.toInt64, .long a2.toInt64]) (rest := []) hx hb hml hown hW hK hT hS.1 (t_X12_in l D cy tx base Z K N M60 R35 J45 hS.2.1 (x33.toInt64) (a1.toInt64) (a2.toInt64)) s_X12_155 ⟨rfl, rfl, ⟨Nat.le_of_ble_eq_true rfl, Nat.le_of_ble_eq_true rfl⟩, ⟨Nat.le_of_ble_eq_true rfl, Nat.le_of_ble_eq_true rfl⟩⟩ rfl hl.1 rfl (Nat.le_of_ble_eq_true rfl) dX12_numberHere_111) rfl rfl (fun x93 H locs M90 R91 J89 hS f87 g88 E92 => ?_)
            have eM90 := Fr.nil f87 rfl
            subst eM90
            have eR91 := Fr.nil g88 rfl
            subst eR91
            obtain ⟨h_x93, p94⟩ := E92
            have p95 := p94.1
            refine lv_if_ne (tgt := 126) hx hb dX12_numberHere_114 (by decide) (fun c96 => ?_) (fun c96 => ?_)
            · have q97 : ¬ x93.toInt = 0 := ti_ne c96
              have h98 : iv 1 1 x93 := ⟨by have := (h_x93).1; have := ((iv_c (c := 0) (n := 0) (by decide))).1; have := ((iv_c (c := 0) (n := 0) (by decide))).2; omega, by have := (h_x93).2; have := ((iv_c (c := 0) (n := 0) (by decide))).1; have := ((iv_c (c := 0) (n := 0) (by decide))).2; omega⟩
              have h99 : iv 0 99999 x33 := in2iv (p95 c96) ((jv_o h_a1)).1 ((jv_o h_a2)).2
              have q100 := (p95 c96).1
              rw [Int32.toInt_toInt64, Int32.toInt_toInt64] at q100
              have q101 := (p95 c96).2
              rw [Int32.toInt_toInt64, Int32.toInt_toInt64] at q101
              refine lv_iconst (v := 1) hx hb dX12_numberHere_126 (by decide) ?_
              refine lv_goto (tgt := 131) hx hb dX12_numberHere_127 (by decide) ?_
              have q102 : nx.toInt ≤ x39.toInt ∧ x39.toInt ≤ tp.toInt ∧ ((1 : Int32).toInt = 0 ∨ nx.toInt < x39.toInt) := by
                have := (h_a1).1; have := (h_a1).2; have := (h_a2).1; have := (h_a2).2; have := (h_nm).1; have := (h_nm).2; have := (h_nx).1; have := (h_nx).2; have := (h_tp).1; have := (h_tp).2; have := (h32).1; have := (h32).2; have := (h_x39).1; have := (h_x39).2; have := (h86).1; have := (h86).2; have := (h_x8).1; have := (h_x8).2; have : (1 : Int32).toInt = 1 := (by decide); omega
              have q103 : (1 : Int32).toInt = 0 ∨ (a1.toInt ≤ x33.toInt ∧ x33.toInt ≤ a2.toInt) := by
                have := (h_a1).1; have := (h_a1).2; have := (h_a2).1; have := (h_a2).2; have := (h_nm).1; have := (h_nm).2; have := (h_nx).1; have := (h_nx).2; have := (h_tp).1; have := (h_tp).2; have := (h99).1; have := (h99).2; have : (1 : Int32).toInt = 1 := (by decide); omega
              exact tw_endz hx hb hr hlocks hK hT hS hQ rfl (⟨(iv_mono (iv_c (c := 1) (n := 1) (by decide)) (by decide) (by decide)), ⟨x39, k61, h_x39, q102⟩, ⟨x33, k58, (iv_mono h99 (by decide) (by decide)), q103⟩, (fun h => absurd h (by decide))⟩) dX12_numberHere_131
            · have q104 : x93.toInt = 0 := ti_eq c96
              have q105 := p94.2 c96
              have h106 : iv 0 0 x93 := ⟨by have := (h_x93).1; have := ((iv_c (c := 0) (n := 0) (by decide))).1; omega, by have := (h_x93).2; have := ((iv_c (c := 0) (n := 0) (by decide))).2; omega⟩
              refine lv_aload_n hx hb dX12_numberHere_117 rfl (lv_at hl 2 rfl) ?_
              refine lv_iconst (v := 1) hx hb dX12_numberHere_118 (by decide) ?_
              refine lv_iload_n hx hb dX12_numberHere_119 rfl (lv_at hl 1 rfl) ?_
              refine tw_goi hS (md_runV (As := [.int 1, .int x12]) (rest := []) hx hb hml hown hW hK hT hS.1 (t_X12_fails l D cy tx base Z K N M60 R35 J89 hS.2.1 a0 hz_a0 hk_a0 1 (iv_mono (iv_c (c := 1) (n := 1) (by decide)) (by decide) (by decide)) x12 (iv_mono h32 (by decide) (by decide))) s_X12_148 ⟨rfl, rfl, ⟨Nat.le_of_ble_eq_true rfl, Nat.le_of_ble_eq_true rfl⟩, ⟨Nat.le_of_ble_eq_true rfl, Nat.le_of_ble_eq_true rfl⟩⟩ hz_a0 hk_a0 (by decide) rfl rfl hl.1 rfl (Nat.le_of_ble_eq_true rfl) dX12_numberHere_120) rfl rfl (fun x113 H locs M110 R111 J109 hS f107 g108 E112 => ?_)
              have eR111 := Fr.nil g108 rfl
              subst eR111
              obtain ⟨h_x113, p114⟩ := E112
              have z115 : x113 = 0 → ¬ (M110 a0 14).toInt = 0 := p114
              have z116 := z115 (iv0 h_x113)
              refine lv_if_eq (tgt := 130) hx hb dX12_numberHere_123 (by decide) (fun c117 => ?_) (fun c117 => False.elim (by have q : ¬ x113.toInt = 0 := ti_ne c117; have := (h_x113).1; have := (h_x113).2; omega))
              have q118 : x113.toInt = 0 := ti_eq c117
              have z119 := z115 c117
              refine lv_iconst (v := 0) hx hb dX12_numberHere_130 (by decide) ?_
              have k120 : M110 a0 13 = x39 := (Fr.kp (k := 13) f107 hk_a0 rfl).trans k61
              have q121 : nx.toInt ≤ x39.toInt ∧ x39.toInt ≤ tp.toInt ∧ ((0 : Int32).toInt = 0 ∨ nx.toInt < x39.toInt) := by
                have := (h_a1).1; have := (h_a1).2; have := (h_a2).1; have := (h_a2).2; have := (h_nm).1; have := (h_nm).2; have := (h_nx).1; have := (h_nx).2; have := (h_tp).1; have := (h_tp).2; have := (h32).1; have := (h32).2; have := (h_x39).1; have := (h_x39).2; have := (h86).1; have := (h86).2; have := (h_x8).1; have := (h_x8).2; have : (0 : Int32).toInt = 0 := (by decide); omega
              have k122 : M110 a0 15 = x33 := (Fr.kp (k := 15) f107 hk_a0 rfl).trans k58
              have q123 : (0 : Int32).toInt = 0 ∨ (a1.toInt ≤ x33.toInt ∧ x33.toInt ≤ a2.toInt) := by
                have := (h_a1).1; have := (h_a1).2; have := (h_a2).1; have := (h_a2).2; have := (h_nm).1; have := (h_nm).2; have := (h_nx).1; have := (h_nx).2; have := (h_tp).1; have := (h_tp).2; have := (h_x33).1; have := (h_x33).2; have : (0 : Int32).toInt = 0 := (by decide); omega
              exact tw_endz hx hb hr hlocks hK hT hS hQ rfl (⟨(iv_mono (iv_c (c := 0) (n := 0) (by decide)) (by decide) (by decide)), ⟨x39, k120, h_x39, q121⟩, ⟨x33, k122, h_x33, q123⟩, (fun _ => (show ¬ (M110 a0 14).toInt = 0 from z119))⟩) dX12_numberHere_131
        · have q124 : ¬ x49.toInt = 0 := ti_ne c53
          have h125 : iv 1 1 x49 := ⟨by have := (h_x49).1; have := ((iv_c (c := 0) (n := 0) (by decide))).1; have := ((iv_c (c := 0) (n := 0) (by decide))).2; omega, by have := (h_x49).2; have := ((iv_c (c := 0) (n := 0) (by decide))).1; have := ((iv_c (c := 0) (n := 0) (by decide))).2; omega⟩
          have z126 := z51 c53
          have q127 := z126.1
          have h128 : iv 0 399 x39 := iv_ltL (y := tp) h_x39 h_tp q127 (by decide)
          refine lv_aload_n hx hb dX12_numberHere_45 rfl (lv_at hl 2 rfl) ?_
          refine tw_getk hx hb hW hown hK hS f_X12_127_11 hz_a0 hk_a0 (v := x39) k40 dX12_numberHere_46 ?_
          refine lv_iload_n hx hb dX12_numberHere_49 rfl (lv_at hl 1 rfl) ?_
          refine tw_isub (lo := (-399)) (hi := 399) hx hb h128 h32 ⟨by decide, by decide⟩ ⟨by decide, by decide⟩ dX12_numberHere_50 (fun x131 e130 h129 => ?_)
          refine lv_iconst (v := 5) hx hb dX12_numberHere_51 (by decide) ?_
          refine lv_icmp_ge (tgt := 75) hx hb dX12_numberHere_52 (by decide) (fun c132 => ?_) (fun c132 => ?_)
          · have q133 : 5 ≤ x131.toInt := ti_le c132
            have h134 : iv 5 399 x131 := iv_geL (y := 5) h129 (iv_c (c := 5) (n := 5) (by decide)) q133 (by decide)
            refine lv_aload_n hx hb dX12_numberHere_75 rfl (lv_at hl 2 rfl) ?_
            refine lv_dup hx hb dX12_numberHere_76 rfl ?_
            refine tw_getk hx hb hW hown hK hS f_X12_127_11 hz_a0 hk_a0 (v := x39) k40 dX12_numberHere_77 ?_
            refine lv_iconst (v := 1) hx hb dX12_numberHere_80 (by decide) ?_
            refine tw_iadd (lo := 1) (hi := 400) hx hb h128 (iv_c (c := 1) (n := 1) (by decide)) ⟨by decide, by decide⟩ ⟨by decide, by decide⟩ dX12_numberHere_81 (fun x137 e136 h135 => ?_)
            have e136 : x137.toInt = x39.toInt + 1 := e136
            refine tw_puti hx hb hW hown hK hS f_X12_127_11 hz_a0 hk_a0 rfl rfl (lo := 0) (hi := 400) rfl (iv_mono h135 (by decide) (by decide)) rfl dX12_numberHere_82 (fun H locs M140 hS k138 f139 => ?_)
            refine lv_goto (tgt := 34) hx hb dX12_numberHere_85 (by decide) ?_
            have w141 : x12.toInt ≤ x137.toInt ∧ x137.toInt ≤ tp.toInt := by
              have := (h_a1).1; have := (h_a1).2; have := (h_a2).1; have := (h_a2).2; have := (h_nm).1; have := (h_nm).2; have := (h_nx).1; have := (h_nx).2; have := (h_tp).1; have := (h_tp).2; have := (h32).1; have := (h32).2; have := (h134).1; have := (h134).2; have := (h135).1; have := (h135).2; have := (h128).1; have := (h128).2; have := (h_x8).1; have := (h_x8).2; omega
            have hm142 : 400 - x137.toInt < (n_34 : Int) := by
              have := (h_a1).1; have := (h_a1).2; have := (h_a2).1; have := (h_a2).2; have := (h_nm).1; have := (h_nm).2; have := (h_nx).1; have := (h_nx).2; have := (h_tp).1; have := (h_tp).2; have := (h32).1; have := (h32).2; have := (h134).1; have := (h134).2; have := (h135).1; have := (h135).2; have := (h128).1; have := (h128).2; have := (h_x8).1; have := (h_x8).2; omega
            exact ih_34 x33 x137 M140 R35 J45 H locs _ h_x33 (iv_mono h135 (by decide) (by decide)) k138 w141 hm142 hS hl
          · have q143 : x131.toInt < 5 := ti_nle c132
            have h144 : iv (-399) 4 x131 := iv_ltL (y := 5) h129 (iv_c (c := 5) (n := 5) (by decide)) q143 (by decide)
            refine lv_bipush (v := 10) hx hb dX12_numberHere_55 (by decide) ?_
            refine lv_iload hx hb dX12_numberHere_57 (lv_at hl 0 rfl) ?_
            refine lv_imul hx hb dX12_numberHere_59 ?_
            refine tw_top (fun x146 => ?_)
            have h145 := iv_any x146
            refine lv_aload_n hx hb dX12_numberHere_60 rfl (lv_at hl 2 rfl) ?_
            have k147 : R35 a0 0 = some tb := (Fr.kp (k := 0) g38 hk_a0 rfl).trans k_tb
            refine tw_getrk hx hb hW hown hK hS f_X12_7_11 hz_a0 hk_a0 (b := tb) k147 dX12_numberHere_61 ?_
            refine lv_aload_n hx hb dX12_numberHere_64 rfl (lv_at hl 2 rfl) ?_
            refine tw_getk hx hb hW hown hK hS f_X12_127_11 hz_a0 hk_a0 (v := x39) k40 dX12_numberHere_65 ?_
            refine tw_bald hx hb hK hS hz_tb hk_tb hn_tb h128 ⟨by decide, by decide⟩ dX12_numberHere_68 (fun x150 k149 => ?_)
            have h148 := iv_any x150
            refine lv_iadd hx hb dX12_numberHere_69 ?_
            refine tw_top (fun x152 => ?_)
            have h151 := iv_any x152
            refine lv_bipush (v := 48) hx hb dX12_numberHere_70 (by decide) ?_
            refine lv_isub hx hb dX12_numberHere_72 ?_
            refine tw_top (fun x154 => ?_)
            have h153 := iv_any x154
            refine lv_istore (lv' := [(4, .int x154), (3, .int x12), (0, .ref (base + a0)), (1, .int a1), (2, .int a2)]) hx hb dX12_numberHere_73 hl (by decide) rfl (fun ls hl => ?_)
            refine lv_aload_n hx hb dX12_numberHere_75 rfl (lv_at hl 2 rfl) ?_
            refine lv_dup hx hb dX12_numberHere_76 rfl ?_
            refine tw_getk hx hb hW hown hK hS f_X12_127_11 hz_a0 hk_a0 (v := x39) k40 dX12_numberHere_77 ?_
            refine lv_iconst (v := 1) hx hb dX12_numberHere_80 (by decide) ?_
            refine tw_iadd (lo := 1) (hi := 400) hx hb h128 (iv_c (c := 1) (n := 1) (by decide)) ⟨by decide, by decide⟩ ⟨by decide, by decide⟩ dX12_numberHere_81 (fun x157 e156 h155 => ?_)
            have e156 : x157.toInt = x39.toInt + 1 := e156
            refine tw_puti hx hb hW hown hK hS f_X12_127_11 hz_a0 hk_a0 rfl rfl (lo := 0) (hi := 400) rfl (iv_mono h155 (by decide) (by decide)) rfl dX12_numberHere_82 (fun H locs M160 hS k158 f159 => ?_)
            refine lv_goto (tgt := 34) hx hb dX12_numberHere_85 (by decide) ?_
            have w161 : x12.toInt ≤ x157.toInt ∧ x157.toInt ≤ tp.toInt := by
              have := (h_a1).1; have := (h_a1).2; have := (h_a2).1; have := (h_a2).2; have := (h_nm).1; have := (h_nm).2; have := (h_nx).1; have := (h_nx).2; have := (h_tp).1; have := (h_tp).2; have := (h32).1; have := (h32).2; have := (h144).1; have := (h144).2; have := (h155).1; have := (h155).2; have := (h128).1; have := (h128).2; have := (h_x8).1; have := (h_x8).2; omega
            have hm162 : 400 - x157.toInt < (n_34 : Int) := by
              have := (h_a1).1; have := (h_a1).2; have := (h_a2).1; have := (h_a2).2; have := (h_nm).1; have := (h_nm).2; have := (h_nx).1; have := (h_nx).2; have := (h_tp).1; have := (h_tp).2; have := (h32).1; have := (h32).2; have := (h144).1; have := (h144).2; have := (h155).1; have := (h155).2; have := (h128).1; have := (h128).2; have := (h_x8).1; have := (h_x8).2; omega
            exact ih_34 x154 x157 M160 R35 J45 H locs _ h153 (iv_mono h155 (by decide) (by decide)) k158 w161 hm162 hS hl
    have w163 : x12.toInt ≤ x12.toInt ∧ x12.toInt ≤ tp.toInt := by
      have := (h_a1).1; have := (h_a1).2; have := (h_a2).1; have := (h_a2).2; have := (h_nm).1; have := (h_nm).2; have := (h_nx).1; have := (h_nx).2; have := (h_tp).1; have := (h_tp).2; have := (h32).1; have := (h32).2; have := (h_x8).1; have := (h_x8).2; omega
    have hm164 : 400 - x12.toInt < (((401 : Nat) : Int) : Int) := by
      have := (h_a1).1; have := (h_a1).2; have := (h_a2).1; have := (h_a2).2; have := (h_nm).1; have := (h_nm).2; have := (h_nx).1; have := (h_nx).2; have := (h_tp).1; have := (h_tp).2; have := (h32).1; have := (h32).2; have := (h_x8).1; have := (h_x8).2; omega
    exact W34_34 401 0 x12 M5 Ra J19 H locs _ (iv_mono (iv_c (c := 0) (n := 0) (by decide)) (by decide) (by decide)) (iv_mono h32 (by decide) (by decide)) k10 w163 hm164 hS hl
  · have q165 : x23.toInt = 0 := ti_eq c27
    have z166 := z26 c27
    have h167 : iv 0 0 x23 := ⟨by have := (h_x23).1; have := ((iv_c (c := 0) (n := 0) (by decide))).1; omega, by have := (h_x23).2; have := ((iv_c (c := 0) (n := 0) (by decide))).2; omega⟩
    refine lv_aload_n hx hb dX12_numberHere_16 rfl (lv_at hl 0 rfl) ?_
    refine lv_iconst (v := 0) hx hb dX12_numberHere_17 (by decide) ?_
    refine lv_aload_n hx hb dX12_numberHere_18 rfl (lv_at hl 0 rfl) ?_
    refine tw_getk hx hb hW hown hK hS f_X12_127_11 hz_a0 hk_a0 (v := x12) k10 dX12_numberHere_19 ?_
    refine tw_goi hS (md_runV (As := [.int 0, .int x12]) (rest := []) hx hb hml hown hW hK hT hS.1 (t_X12_fails l D cy tx base Z K N M5 Ra J19 hS.2.1 a0 hz_a0 hk_a0 0 (iv_mono (iv_c (c := 0) (n := 0) (by decide)) (by decide) (by decide)) x12 h11) s_X12_148 ⟨rfl, rfl, ⟨Nat.le_of_ble_eq_true rfl, Nat.le_of_ble_eq_true rfl⟩, ⟨Nat.le_of_ble_eq_true rfl, Nat.le_of_ble_eq_true rfl⟩⟩ hz_a0 hk_a0 (by decide) rfl rfl hl.1 rfl (Nat.le_of_ble_eq_true rfl) dX12_numberHere_22) rfl rfl (fun x174 H locs M171 R172 J170 hS f168 g169 E173 => ?_)
    have eR172 := Fr.nil g169 rfl
    subst eR172
    obtain ⟨h_x174, p175⟩ := E173
    have z176 : x174 = 0 → ¬ (M171 a0 14).toInt = 0 := p175
    have z177 := z176 (iv0 h_x174)
    have k178 : M171 a0 13 = x12 := (Fr.kp (k := 13) f168 hk_a0 rfl).trans k10
    have q179 : nx.toInt ≤ x12.toInt ∧ x12.toInt ≤ tp.toInt ∧ (x174.toInt = 0 ∨ nx.toInt < x12.toInt) := by
      have := (h_a1).1; have := (h_a1).2; have := (h_a2).1; have := (h_a2).2; have := (h_nm).1; have := (h_nm).2; have := (h_nx).1; have := (h_nx).2; have := (h_tp).1; have := (h_tp).2; have := (h11).1; have := (h11).2; have := (h_x174).1; have := (h_x174).2; have := (h_x8).1; have := (h_x8).2; omega
    have k180 : M171 a0 15 = nm := ((Fr.kp (k := 15) f168 hk_a0 rfl).trans (Fr.kp (k := 15) f2 hk_a0 rfl)).trans k_nm
    have q181 : x174.toInt = 0 ∨ (a1.toInt ≤ nm.toInt ∧ nm.toInt ≤ a2.toInt) := by
      have := (h_a1).1; have := (h_a1).2; have := (h_a2).1; have := (h_a2).2; have := (h_nm).1; have := (h_nm).2; have := (h_nx).1; have := (h_nx).2; have := (h_tp).1; have := (h_tp).2; have := (h_x174).1; have := (h_x174).2; omega
    exact tw_endz hx hb hr hlocks hK hT hS hQ (nar_b (iv_mono h_x174 (by decide) (by decide))) (⟨(iv_mono h_x174 (by decide) (by decide)), ⟨x12, k178, h11, q179⟩, ⟨nm, k180, h_nm, q181⟩, (fun _ => (show ¬ (M171 a0 14).toInt = 0 from z177))⟩) dX12_numberHere_25
def Lt_X12_isLetter : WL := []
def LRt_X12_isLetter : WL := []
set_option maxRecDepth 100000 in
set_option maxHeartbeats 4000000 in
theorem t_X12_isLetter (l : Launch) (D : va_G) (cy : Nat → ClassId) (tx : (Nat → Nat) × (Nat → Nat)) (base Z : Nat) (K N : Nat → Nat) (Ma : MT) (Ra : RT) (Ja : JT) (hTy : Ty Z K N Ma Ra) (a0 : Nat) (hz_a0 : a0 < Z) (hk_a0 : K a0 = 12) (a1 : Int32) (h_a1 : iv 0 400 a1) (tb : Nat) (k_tb : Ra a0 0 = some tb) (tp : Int32) (k_tp : Ma a0 1 = tp) (h_tp : iv 0 400 tp) : Met l yX12_isLetter [Cond.code yX12_isLetter cX12_isLetter 2 (some .boolean)] (md_rm 1 0 0) (va_Pc [.ref (base + a0), .int a1] (md_U D cy tx base Z K N Ma Ra Ja)) (mQi D cy tx base (fun r u => TP Z K N Lt_X12_isLetter LRt_X12_isLetter Ma Ra u ∧ (iv 0 1 r ∧ ((¬ r = 0 → chF 97 122 Ma tb a1 tp) ∧ (r = 0 → ¬ chF 97 122 Ma tb a1 tp))))) 0 0 (fun q => base ≤ q) := by
  refine tw_ofW (L := Lt_X12_isLetter) (LR := LRt_X12_isLetter) (by decide) (Nat.le_of_ble_eq_true rfl) hTy ?_
  intro p e s m args below meth c Q ls hx hb hr hlocks hown hml hW hK hT hS hQ hl
  have hl : lv_has ls 2 [(0, .ref (base + a0)), (1, .int a1)] := hl
  obtain ⟨hz_tb, hk_tb, hn_tb⟩ := hTy.refn hz_a0 hk_a0 (show rtR 12 0 = (13, 400, 0) from rfl) k_tb
  have hn_tb := hn_tb (by decide)
  refine lv_iload_n hx hb dX12_isLetter_0 rfl (lv_at hl 1 rfl) ?_
  refine lv_aload_n hx hb dX12_isLetter_1 rfl (lv_at hl 0 rfl) ?_
  refine tw_getk hx hb hW hown hK hS f_X12_116_11 hz_a0 hk_a0 (v := tp) k_tp dX12_isLetter_2 ?_
  refine lv_icmp_ge (tgt := 34) hx hb dX12_isLetter_5 (by decide) (fun c1 => ?_) (fun c1 => ?_)
  · have q2 : tp.toInt ≤ a1.toInt := ti_le c1
    refine lv_iconst (v := 0) hx hb dX12_isLetter_34 (by decide) ?_
    exact tw_endz hx hb hr hlocks hK hT hS hQ rfl (⟨(iv_mono (iv_c (c := 0) (n := 0) (by decide)) (by decide) (by decide)), ⟨fun h => absurd rfl h, fun _ h => by obtain ⟨h1, h2, h3⟩ := h; omega⟩⟩) dX12_isLetter_35
  · have q3 : a1.toInt < tp.toInt := ti_nle c1
    have h4 : iv 0 399 a1 := iv_ltL (y := tp) h_a1 h_tp q3 (by decide)
    have h5 : iv 1 400 tp := iv_gtL (y := a1) h_tp h_a1 q3 (by decide)
    refine lv_aload_n hx hb dX12_isLetter_8 rfl (lv_at hl 0 rfl) ?_
    refine tw_getrk hx hb hW hown hK hS f_X12_7_11 hz_a0 hk_a0 (b := tb) k_tb dX12_isLetter_9 ?_
    refine lv_iload_n hx hb dX12_isLetter_12 rfl (lv_at hl 1 rfl) ?_
    refine tw_bald hx hb hK hS hz_tb hk_tb hn_tb h4 ⟨by decide, by decide⟩ dX12_isLetter_13 (fun x8 k7 => ?_)
    have h6 := iv_any x8
    refine lv_bipush (v := 97) hx hb dX12_isLetter_14 (by decide) ?_
    refine lv_icmp_lt (tgt := 34) hx hb dX12_isLetter_16 (by decide) (fun c9 => ?_) (fun c9 => ?_)
    · have q10 : x8.toInt < 97 := ti_lt c9
      have h11 : iv (-2147483648) 96 x8 := iv_ltL (y := 97) h6 (iv_c (c := 97) (n := 97) (by decide)) q10 (by decide)
      refine lv_iconst (v := 0) hx hb dX12_isLetter_34 (by decide) ?_
      exact tw_endz hx hb hr hlocks hK hT hS hQ rfl (⟨(iv_mono (iv_c (c := 0) (n := 0) (by decide)) (by decide) (by decide)), ⟨fun h => absurd rfl h, fun _ h => by obtain ⟨h1, h2, h3⟩ := h; rw [k7] at h2 h3; omega⟩⟩) dX12_isLetter_35
    · have q12 : 97 ≤ x8.toInt := ti_nlt c9
      have h13 : iv 97 2147483647 x8 := iv_geL (y := 97) h6 (iv_c (c := 97) (n := 97) (by decide)) q12 (by decide)
      refine lv_aload_n hx hb dX12_isLetter_19 rfl (lv_at hl 0 rfl) ?_
      refine tw_getrk hx hb hW hown hK hS f_X12_7_11 hz_a0 hk_a0 (b := tb) k_tb dX12_isLetter_20 ?_
      refine lv_iload_n hx hb dX12_isLetter_23 rfl (lv_at hl 1 rfl) ?_
      refine tw_balk hx hb hK hS hz_tb hk_tb hn_tb h4 ⟨by decide, by decide⟩ (v := x8) k7 dX12_isLetter_24 ?_
      refine lv_bipush (v := 122) hx hb dX12_isLetter_25 (by decide) ?_
      refine lv_icmp_gt (tgt := 34) hx hb dX12_isLetter_27 (by decide) (fun c14 => ?_) (fun c14 => ?_)
      · have q15 : 122 < x8.toInt := ti_lt c14
        have h16 : iv 123 2147483647 x8 := iv_gtL (y := 122) h13 (iv_c (c := 122) (n := 122) (by decide)) q15 (by decide)
        refine lv_iconst (v := 0) hx hb dX12_isLetter_34 (by decide) ?_
        exact tw_endz hx hb hr hlocks hK hT hS hQ rfl (⟨(iv_mono (iv_c (c := 0) (n := 0) (by decide)) (by decide) (by decide)), ⟨fun h => absurd rfl h, fun _ h => by obtain ⟨h1, h2, h3⟩ := h; rw [k7] at h2 h3; omega⟩⟩) dX12_isLetter_35
      · have q17 : x8.toInt ≤ 122 := ti_nlt c14
        have h18 : iv 97 122 x8 := iv_leL (y := 122) h13 (iv_c (c := 122) (n := 122) (by decide)) q17 (by decide)
        refine lv_iconst (v := 1) hx hb dX12_isLetter_30 (by decide) ?_
        refine lv_goto (tgt := 35) hx hb dX12_isLetter_31 (by decide) ?_
        exact tw_endz hx hb hr hlocks hK hT hS hQ rfl (⟨(iv_mono (iv_c (c := 1) (n := 1) (by decide)) (by decide) (by decide)), ⟨fun _ => ⟨by omega, by rw [k7]; omega, by rw [k7]; omega⟩, fun h => absurd h (by decide)⟩⟩) dX12_isLetter_35
def Lt_X12_passWord : WL := [(12, 13, 14)]
def LRt_X12_passWord : WL := []
set_option maxRecDepth 100000 in
set_option maxHeartbeats 4000000 in
theorem t_X12_passWord (l : Launch) (D : va_G) (cy : Nat → ClassId) (tx : (Nat → Nat) × (Nat → Nat)) (base Z : Nat) (K N : Nat → Nat) (Ma : MT) (Ra : RT) (Ja : JT) (hTy : Ty Z K N Ma Ra) (a0 : Nat) (hz_a0 : a0 < Z) (hk_a0 : K a0 = 12) (tb : Nat) (k_tb : Ra a0 0 = some tb) (nx : Int32) (k_nx : Ma a0 13 = nx) (h_nx : iv 0 400 nx) (tp : Int32) (k_tp : Ma a0 1 = tp) (h_tp : iv 0 400 tp) (hnt : nx.toInt ≤ tp.toInt) : Met l yX12_passWord [Cond.code yX12_passWord cX12_passWord 1 none] (md_rm 2 0 0) (va_Pc [.ref (base + a0)] (md_U D cy tx base Z K N Ma Ra Ja)) (mQv D cy tx base (fun u => TP Z K N Lt_X12_passWord LRt_X12_passWord Ma Ra u ∧ ((∃ x0 : Int32, u.2.2.2.1 a0 13 = x0 ∧ iv 0 400 x0 ∧ (nx.toInt ≤ x0.toInt ∧ x0.toInt ≤ tp.toInt) ∧ (chF 97 122 Ma tb nx tp → nx.toInt < x0.toInt))))) 0 0 (fun q => base ≤ q) := by
  refine tw_ofW (L := Lt_X12_passWord) (LR := LRt_X12_passWord) (by decide) (Nat.le_of_ble_eq_true rfl) hTy ?_
  intro p e s m args below meth c Q ls hx hb hr hlocks hown hml hW hK hT hS hQ hl
  have hl : lv_has ls 1 [(0, .ref (base + a0))] := hl
  obtain ⟨hz_tb, hk_tb, hn_tb⟩ := hTy.refn hz_a0 hk_a0 (show rtR 12 0 = (13, 400, 0) from rfl) k_tb
  have hn_tb := hn_tb (by decide)
  have W0_1 : ∀ (n_1 : Nat) (x6 : Int32) (M1 : MT) (R2 : RT) (J3 : JT) (H : Heap) (locs : List Loc) (ls : Array Slot) (h_x6 : iv 0 400 x6) (k7 : M1 a0 13 = x6) (w0_1 : nx.toInt ≤ x6.toInt ∧ x6.toInt ≤ tp.toInt) (hm_1 : 400 - x6.toInt < (n_1 : Int)) (hS : SB D cy base Z K N Lt_X12_passWord LRt_X12_passWord Ma Ra M1 R2 J3 s H locs) (hl : lv_has ls 1 [(0, .ref (base + a0))]), W p l e (md_rm 2 0 0) s m args below meth c H locs 0 0 Q (F0 m 0 ls []) := by
    intro n_1
    induction n_1 with
    | zero =>
      intro x6 M1 R2 J3 H locs ls h_x6 k7 w0_1 hm_1 hS hl
      exfalso
      have := (h_nx).1; have := (h_nx).2; have := (h_tp).1; have := (h_tp).2; have := (h_x6).1; have := (h_x6).2; omega
    | succ n_1 ih_1 =>
      intro x6 M1 R2 J3 H locs ls h_x6 k7 w0_1 hm_1 hS hl
      have f4 := hS.2.2.1
      have g5 := hS.2.2.2
      refine lv_aload_n hx hb dX12_passWord_0 rfl (lv_at hl 0 rfl) ?_
      refine lv_aload_n hx hb dX12_passWord_1 rfl (lv_at hl 0 rfl) ?_
      refine tw_getk hx hb hW hown hK hS f_X12_127_11 hz_a0 hk_a0 (v := x6) k7 dX12_passWord_2 ?_
      have k8 : R2 a0 0 = some tb := (Fr.kp (k := 0) g5 hk_a0 rfl).trans k_tb
      have k9 : M1 a0 1 = tp := (Fr.kp (k := 1) f4 hk_a0 rfl).trans k_tp
      refine tw_goi hS (md_runV (As := [.int x6]) (rest := []) hx hb hml hown hW hK hT hS.1 (t_X12_isLetter l D cy tx base Z K N M1 R2 J3 hS.2.1 a0 hz_a0 hk_a0 x6 h_x6 tb k8 tp k9 (iv_mono h_tp (by decide) (by decide))) s_X12_134 ⟨rfl, rfl, ⟨Nat.le_of_ble_eq_true rfl, Nat.le_of_ble_eq_true rfl⟩, ⟨Nat.le_of_ble_eq_true rfl, Nat.le_of_ble_eq_true rfl⟩⟩ hz_a0 hk_a0 (by decide) rfl rfl hl.1 rfl (Nat.le_of_ble_eq_true rfl) dX12_passWord_5) rfl rfl (fun x16 H locs M13 R14 J12 hS f10 g11 E15 => ?_)
      have eM13 := Fr.nil f10 rfl
      subst eM13
      have eR14 := Fr.nil g11 rfl
      subst eR14
      obtain ⟨h_x16, p17⟩ := E15
      have z18 : ¬ x16 = 0 → chF 97 122 Ma tb x6 tp := fun h => chF.rf (p17.1 h) hS.2.2.1 hk_tb rfl
      have z19 : x16 = 0 → ¬ chF 97 122 Ma tb x6 tp := fun h q => p17.2 h (chF.fr q hS.2.2.1 hk_tb rfl)
      refine lv_if_eq (tgt := 24) hx hb dX12_passWord_8 (by decide) (fun c20 => ?_) (fun c20 => ?_)
      · have q21 : x16.toInt = 0 := ti_eq c20
        have z22 := z19 c20
        have h23 : iv 0 0 x16 := ⟨by have := (h_x16).1; have := ((iv_c (c := 0) (n := 0) (by decide))).1; omega, by have := (h_x16).2; have := ((iv_c (c := 0) (n := 0) (by decide))).2; omega⟩
        have q24 : nx.toInt ≤ x6.toInt ∧ x6.toInt ≤ tp.toInt := by
          have := (h_nx).1; have := (h_nx).2; have := (h_tp).1; have := (h_tp).2; have := (h_x6).1; have := (h_x6).2; omega
        exact tw_endv hx hb hr hlocks hK hT hS hQ (⟨x6, k7, h_x6, q24, (fun h => by have := w0_1.1; have q : ¬ x6.toInt = nx.toInt := fun e => z22 (h.at e); omega)⟩) dX12_passWord_24
      · have q25 : ¬ x16.toInt = 0 := ti_ne c20
        have h26 : iv 1 1 x16 := ⟨by have := (h_x16).1; have := ((iv_c (c := 0) (n := 0) (by decide))).1; have := ((iv_c (c := 0) (n := 0) (by decide))).2; omega, by have := (h_x16).2; have := ((iv_c (c := 0) (n := 0) (by decide))).1; have := ((iv_c (c := 0) (n := 0) (by decide))).2; omega⟩
        have z27 := z18 c20
        have q28 := z27.1
        have h29 : iv 0 399 x6 := iv_ltL (y := tp) h_x6 h_tp q28 (by decide)
        refine lv_aload_n hx hb dX12_passWord_11 rfl (lv_at hl 0 rfl) ?_
        refine lv_dup hx hb dX12_passWord_12 rfl ?_
        refine tw_getk hx hb hW hown hK hS f_X12_127_11 hz_a0 hk_a0 (v := x6) k7 dX12_passWord_13 ?_
        refine lv_iconst (v := 1) hx hb dX12_passWord_16 (by decide) ?_
        refine tw_iadd (lo := 1) (hi := 400) hx hb h29 (iv_c (c := 1) (n := 1) (by decide)) ⟨by decide, by decide⟩ ⟨by decide, by decide⟩ dX12_passWord_17 (fun x32 e31 h30 => ?_)
        have e31 : x32.toInt = x6.toInt + 1 := e31
        refine tw_puti hx hb hW hown hK hS f_X12_127_11 hz_a0 hk_a0 rfl rfl (lo := 0) (hi := 400) rfl (iv_mono h30 (by decide) (by decide)) rfl dX12_passWord_18 (fun H locs M35 hS k33 f34 => ?_)
        refine lv_goto (tgt := 0) hx hb dX12_passWord_21 (by decide) ?_
        have w36 : nx.toInt ≤ x32.toInt ∧ x32.toInt ≤ tp.toInt := by
          have := (h_nx).1; have := (h_nx).2; have := (h_tp).1; have := (h_tp).2; have := (h30).1; have := (h30).2; have := (h29).1; have := (h29).2; omega
        have hm37 : 400 - x32.toInt < (n_1 : Int) := by
          have := (h_nx).1; have := (h_nx).2; have := (h_tp).1; have := (h_tp).2; have := (h30).1; have := (h30).2; have := (h29).1; have := (h29).2; omega
        exact ih_1 x32 M35 R2 J12 H locs _ (iv_mono h30 (by decide) (by decide)) k33 w36 hm37 hS hl
  have w38 : nx.toInt ≤ nx.toInt ∧ nx.toInt ≤ tp.toInt := by
    have := (h_nx).1; have := (h_nx).2; have := (h_tp).1; have := (h_tp).2; omega
  have hm39 : 400 - nx.toInt < (((401 : Nat) : Int) : Int) := by
    have := (h_nx).1; have := (h_nx).2; have := (h_tp).1; have := (h_tp).2; omega
  exact W0_1 401 nx Ma Ra Ja s.heap [] _ h_nx k_nx w38 hm39 hS hl
def Lt_X12_areMembersHere : WL := [(12, 7, 8), (12, 13, 16)]
def LRt_X12_areMembersHere : WL := []
set_option maxRecDepth 100000 in
set_option maxHeartbeats 4000000 in
theorem t_X12_areMembersHere (l : Launch) (D : va_G) (cy : Nat → ClassId) (tx : (Nat → Nat) × (Nat → Nat)) (base Z : Nat) (K N : Nat → Nat) (Ma : MT) (Ra : RT) (Ja : JT) (hTy : Ty Z K N Ma Ra) (a0 : Nat) (hz_a0 : a0 < Z) (hk_a0 : K a0 = 12) (a1 : Int32) (h_a1 : iv 0 400 a1) (tb : Nat) (k_tb : Ra a0 0 = some tb) (nx : Int32) (k_nx : Ma a0 13 = nx) (h_nx : iv 0 400 nx) (tp : Int32) (k_tp : Ma a0 1 = tp) (h_tp : iv 0 400 tp) (hnt : nx.toInt ≤ tp.toInt) : Met l yX12_areMembersHere [Cond.code yX12_areMembersHere cX12_areMembersHere 2 (some .boolean)] (md_rm 3 0 0) (va_Pc [.ref (base + a0), .int a1] (md_U D cy tx base Z K N Ma Ra Ja)) (mQi D cy tx base (fun r u => TP Z K N Lt_X12_areMembersHere LRt_X12_areMembersHere Ma Ra u ∧ (iv 0 1 r ∧ (∃ x0 : Int32, u.2.2.2.1 a0 13 = x0 ∧ iv 0 400 x0 ∧ (nx.toInt ≤ x0.toInt ∧ x0.toInt ≤ tp.toInt)) ∧ (r = 0 → ¬ (u.2.2.2.1 a0 14).toInt = 0)))) 0 0 (fun q => base ≤ q) := by
  refine tw_ofW (L := Lt_X12_areMembersHere) (LR := LRt_X12_areMembersHere) (by decide) (Nat.le_of_ble_eq_true rfl) hTy ?_
  intro p e s m args below meth c Q ls hx hb hr hlocks hown hml hW hK hT hS hQ hl
  have hl : lv_has ls 2 [(0, .ref (base + a0)), (1, .int a1)] := hl
  obtain ⟨hz_tb, hk_tb, hn_tb⟩ := hTy.refn hz_a0 hk_a0 (show rtR 12 0 = (13, 400, 0) from rfl) k_tb
  have hn_tb := hn_tb (by decide)
  refine lv_aload_n hx hb dX12_areMembersHere_0 rfl (lv_at hl 0 rfl) ?_
  refine tw_geti hx hb hW hown hK hS f_X12_251_11 hz_a0 hk_a0 (lo := 0) (hi := 10) rfl dX12_areMembersHere_1 (fun x3 k2 h1 => ?_)
  refine lv_if_le (tgt := 14) hx hb dX12_areMembersHere_4 (by decide) (fun c4 => ?_) (fun c4 => ?_)
  · have q5 : x3.toInt ≤ 0 := ti_le c4
    have h6 : iv 0 0 x3 := iv_leL (y := 0) h1 (iv_c (c := 0) (n := 0) (by decide)) q5 (by decide)
    refine lv_aload_n hx hb dX12_areMembersHere_14 rfl (lv_at hl 0 rfl) ?_
    have q7 : nx.toInt ≤ tp.toInt := by
      have := (h_a1).1; have := (h_a1).2; have := (h_nx).1; have := (h_nx).2; have := (h_tp).1; have := (h_tp).2; omega
    refine tw_gov hS (md_runV (As := []) (rest := []) hx hb hml hown hW hK hT hS.1 (t_X12_passWord l D cy tx base Z K N Ma Ra Ja hS.2.1 a0 hz_a0 hk_a0 tb k_tb nx k_nx (iv_mono h_nx (by decide) (by decide)) tp k_tp (iv_mono h_tp (by decide) (by decide)) q7) s_X12_142 ⟨rfl, rfl, ⟨Nat.le_of_ble_eq_true rfl, Nat.le_of_ble_eq_true rfl⟩, ⟨Nat.le_of_ble_eq_true rfl, Nat.le_of_ble_eq_true rfl⟩⟩ hz_a0 hk_a0 (by decide) rfl rfl hl.1 rfl (Nat.le_of_ble_eq_true rfl) dX12_areMembersHere_15) rfl rfl (fun H locs M11 R12 J10 hS f8 g9 E13 => ?_)
    have eR12 := Fr.nil g9 rfl
    subst eR12
    have p14 := E13
    clear E13
    obtain ⟨x17, k15, h16, q18, z20⟩ := p14
    have k15 : M11 a0 13 = x17 := k15
    refine lv_aload_n hx hb dX12_areMembersHere_18 rfl (lv_at hl 0 rfl) ?_
    refine lv_iconst (v := 1) hx hb dX12_areMembersHere_19 (by decide) ?_
    refine lv_bipush (v := 10) hx hb dX12_areMembersHere_20 (by decide) ?_
    have k21 : M11 a0 1 = tp := (Fr.kp (k := 1) f8 hk_a0 rfl).trans k_tp
    have q22 : x17.toInt ≤ tp.toInt := by
      have := (h_a1).1; have := (h_a1).2; have := (h_nx).1; have := (h_nx).2; have := (h_tp).1; have := (h_tp).2; have := (h16).1; have := (h16).2; omega
    obtain ⟨x25, k23⟩ : ∃ x, M11 a0 15 = x := ⟨_, rfl⟩
    have h24 : iv (-2147483648) 2147483647 x25 := by rw [← k23]; exact hS.2.1.int hz_a0 hk_a0 (show rgI 12 15 = ((-2147483648), 2147483647) from rfl)
    refine tw_goi hS (md_runV (As := [.int 1, .int 10]) (rest := []) hx hb hml hown hW hK hT hS.1 (t_X12_numberHere l D cy tx base Z K N M11 Ra J10 hS.2.1 a0 hz_a0 hk_a0 1 (iv_mono (iv_c (c := 1) (n := 1) (by decide)) (by decide) (by decide)) 10 (iv_mono (iv_c (c := 10) (n := 10) (by decide)) (by decide) (by decide)) tb k_tb x17 k15 (iv_mono h16 (by decide) (by decide)) tp k21 (iv_mono h_tp (by decide) (by decide)) q22 x25 k23 (iv_mono h24 (by decide) (by decide))) s_X12_200 ⟨rfl, rfl, ⟨Nat.le_of_ble_eq_true rfl, Nat.le_of_ble_eq_true rfl⟩, ⟨Nat.le_of_ble_eq_true rfl, Nat.le_of_ble_eq_true rfl⟩⟩ hz_a0 hk_a0 (by decide) rfl rfl hl.1 rfl (Nat.le_of_ble_eq_true rfl) dX12_areMembersHere_22) rfl rfl (fun x32 H locs M29 R30 J28 hS f26 g27 E31 => ?_)
    have eR30 := Fr.nil g27 rfl
    subst eR30
    obtain ⟨h_x32, p33, p34, p35⟩ := E31
    obtain ⟨x38, k36, h37, q39⟩ := p33
    have k36 : M29 a0 13 = x38 := k36
    obtain ⟨x43, k44, h42, q45⟩ := p34
    have k44 : M29 a0 15 = x43 := k44
    have q46 : (1 : Int32).toInt = 1 := (by decide)
    have q47 : (10 : Int32).toInt = 10 := (by decide)
    have z48 : x32 = 0 → ¬ (M29 a0 14).toInt = 0 := p35
    refine lv_if_ne (tgt := 30) hx hb dX12_areMembersHere_25 (by decide) (fun c49 => ?_) (fun c49 => ?_)
    · have q50 : ¬ x32.toInt = 0 := ti_ne c49
      have h51 : iv 1 1 x32 := ⟨by have := (h_x32).1; have := ((iv_c (c := 0) (n := 0) (by decide))).1; have := ((iv_c (c := 0) (n := 0) (by decide))).2; omega, by have := (h_x32).2; have := ((iv_c (c := 0) (n := 0) (by decide))).1; have := ((iv_c (c := 0) (n := 0) (by decide))).2; omega⟩
      refine lv_aload_n hx hb dX12_areMembersHere_30 rfl (lv_at hl 0 rfl) ?_
      refine lv_aload_n hx hb dX12_areMembersHere_31 rfl (lv_at hl 0 rfl) ?_
      refine tw_getk hx hb hW hown hK hS f_X12_152_11 hz_a0 hk_a0 (v := x43) k44 dX12_areMembersHere_32 ?_
      have h54 : iv 0 10 x43 := by
        have := (h_a1).1; have := (h_a1).2; have := (h_nx).1; have := (h_nx).2; have := (h_tp).1; have := (h_tp).2; have := (h42).1; have := (h42).2; exact ⟨by omega, by omega⟩
      refine tw_puti hx hb hW hown hK hS f_X12_251_11 hz_a0 hk_a0 rfl rfl (lo := 0) (hi := 10) rfl h54 rfl dX12_areMembersHere_35 (fun H locs M55 hS k52 f53 => ?_)
      refine lv_iconst (v := 1) hx hb dX12_areMembersHere_38 (by decide) ?_
      have k56 : M55 a0 13 = x38 := (Fr.kp (k := 13) f53 hk_a0 rfl).trans k36
      have q57 : nx.toInt ≤ x38.toInt ∧ x38.toInt ≤ tp.toInt := by
        have := (h_a1).1; have := (h_a1).2; have := (h_nx).1; have := (h_nx).2; have := (h_tp).1; have := (h_tp).2; have := (h16).1; have := (h16).2; have := (h51).1; have := (h51).2; have := (h37).1; have := (h37).2; omega
      exact tw_endz hx hb hr hlocks hK hT hS hQ rfl (⟨(iv_mono (iv_c (c := 1) (n := 1) (by decide)) (by decide) (by decide)), ⟨x38, k56, h37, q57⟩, (fun h => absurd h (by decide))⟩) dX12_areMembersHere_39
    · have q58 : x32.toInt = 0 := ti_eq c49
      have z59 := z48 c49
      have h60 : iv 0 0 x32 := ⟨by have := (h_x32).1; have := ((iv_c (c := 0) (n := 0) (by decide))).1; omega, by have := (h_x32).2; have := ((iv_c (c := 0) (n := 0) (by decide))).2; omega⟩
      refine lv_iconst (v := 0) hx hb dX12_areMembersHere_28 (by decide) ?_
      have q61 : nx.toInt ≤ x38.toInt ∧ x38.toInt ≤ tp.toInt := by
        have := (h_a1).1; have := (h_a1).2; have := (h_nx).1; have := (h_nx).2; have := (h_tp).1; have := (h_tp).2; have := (h16).1; have := (h16).2; have := (h60).1; have := (h60).2; have := (h37).1; have := (h37).2; omega
      exact tw_endz hx hb hr hlocks hK hT hS hQ rfl (⟨(iv_mono (iv_c (c := 0) (n := 0) (by decide)) (by decide) (by decide)), ⟨x38, k36, h37, q61⟩, (fun _ => (show ¬ (M29 a0 14).toInt = 0 from z59))⟩) dX12_areMembersHere_29
  · have q62 : 0 < x3.toInt := ti_nle c4
    have h63 : iv 1 10 x3 := iv_gtL (y := 0) h1 (iv_c (c := 0) (n := 0) (by decide)) q62 (by decide)
    refine lv_aload_n hx hb dX12_areMembersHere_7 rfl (lv_at hl 0 rfl) ?_
    refine lv_iconst (v := 4) hx hb dX12_areMembersHere_8 (by decide) ?_
    refine lv_iload_n hx hb dX12_areMembersHere_9 rfl (lv_at hl 1 rfl) ?_
    refine tw_goi hS (md_runV (As := [.int 4, .int a1]) (rest := []) hx hb hml hown hW hK hT hS.1 (t_X12_fails l D cy tx base Z K N Ma Ra Ja hS.2.1 a0 hz_a0 hk_a0 4 (iv_mono (iv_c (c := 4) (n := 4) (by decide)) (by decide) (by decide)) a1 h_a1) s_X12_148 ⟨rfl, rfl, ⟨Nat.le_of_ble_eq_true rfl, Nat.le_of_ble_eq_true rfl⟩, ⟨Nat.le_of_ble_eq_true rfl, Nat.le_of_ble_eq_true rfl⟩⟩ hz_a0 hk_a0 (by decide) rfl rfl hl.1 rfl (Nat.le_of_ble_eq_true rfl) dX12_areMembersHere_10) rfl rfl (fun x70 H locs M67 R68 J66 hS f64 g65 E69 => ?_)
    have eR68 := Fr.nil g65 rfl
    subst eR68
    obtain ⟨h_x70, p71⟩ := E69
    have z72 : x70 = 0 → ¬ (M67 a0 14).toInt = 0 := p71
    have z73 := z72 (iv0 h_x70)
    have k74 : M67 a0 13 = nx := (Fr.kp (k := 13) f64 hk_a0 rfl).trans k_nx
    have q75 : nx.toInt ≤ nx.toInt ∧ nx.toInt ≤ tp.toInt := by
      have := (h_a1).1; have := (h_a1).2; have := (h_nx).1; have := (h_nx).2; have := (h_tp).1; have := (h_tp).2; omega
    exact tw_endz hx hb hr hlocks hK hT hS hQ (nar_b (iv_mono h_x70 (by decide) (by decide))) (⟨(iv_mono h_x70 (by decide) (by decide)), ⟨nx, k74, h_nx, q75⟩, (fun _ => (show ¬ (M67 a0 14).toInt = 0 from z73))⟩) dX12_areMembersHere_13
def Lt_X12_areVoicesHere : WL := [(12, 9, 10), (12, 13, 16), (35, 0, 2000000)]
def LRt_X12_areVoicesHere : WL := []
set_option maxRecDepth 100000 in
set_option maxHeartbeats 4000000 in
theorem t_X12_areVoicesHere (l : Launch) (D : va_G) (cy : Nat → ClassId) (tx : (Nat → Nat) × (Nat → Nat)) (base Z : Nat) (K N : Nat → Nat) (Ma : MT) (Ra : RT) (Ja : JT) (hTy : Ty Z K N Ma Ra) (a0 : Nat) (hz_a0 : a0 < Z) (hk_a0 : K a0 = 12) (a1 : Int32) (h_a1 : iv 0 400 a1) (tb : Nat) (k_tb : Ra a0 0 = some tb) (nx : Int32) (k_nx : Ma a0 13 = nx) (h_nx : iv 0 400 nx) (tp : Int32) (k_tp : Ma a0 1 = tp) (h_tp : iv 0 400 tp) (hnt : nx.toInt ≤ tp.toInt) : Met l yX12_areVoicesHere [Cond.code yX12_areVoicesHere cX12_areVoicesHere 3 (some .boolean)] (md_rm 3 0 0) (va_Pc [.ref (base + a0), .int a1] (md_U D cy tx base Z K N Ma Ra Ja)) (mQi D cy tx base (fun r u => TP Z K N Lt_X12_areVoicesHere LRt_X12_areVoicesHere Ma Ra u ∧ (iv 0 1 r ∧ (∃ x0 : Int32, u.2.2.2.1 a0 13 = x0 ∧ iv 0 400 x0 ∧ (nx.toInt ≤ x0.toInt ∧ x0.toInt ≤ tp.toInt)) ∧ (r = 0 → ¬ (u.2.2.2.1 a0 14).toInt = 0)))) 0 0 (fun q => base ≤ q) := by
  refine tw_ofW (L := Lt_X12_areVoicesHere) (LR := LRt_X12_areVoicesHere) (by decide) (Nat.le_of_ble_eq_true rfl) hTy ?_
  intro p e s m args below meth c Q ls hx hb hr hlocks hown hml hW hK hT hS hQ hl
  have hl : lv_has ls 3 [(0, .ref (base + a0)), (1, .int a1)] := hl
  obtain ⟨hz_tb, hk_tb, hn_tb⟩ := hTy.refn hz_a0 hk_a0 (show rtR 12 0 = (13, 400, 0) from rfl) k_tb
  have hn_tb := hn_tb (by decide)
  refine lv_aload_n hx hb dX12_areVoicesHere_0 rfl (lv_at hl 0 rfl) ?_
  refine tw_geti hx hb hW hown hK hS f_X12_260_11 hz_a0 hk_a0 (lo := (-2147483648)) (hi := 2147483647) rfl dX12_areVoicesHere_1 (fun x3 k2 h1 => ?_)
  refine lv_if_eq (tgt := 14) hx hb dX12_areVoicesHere_4 (by decide) (fun c4 => ?_) (fun c4 => ?_)
  · have q5 : x3.toInt = 0 := ti_eq c4
    have h6 : iv 0 0 x3 := ⟨by have := (h1).1; have := ((iv_c (c := 0) (n := 0) (by decide))).1; omega, by have := (h1).2; have := ((iv_c (c := 0) (n := 0) (by decide))).2; omega⟩
    refine lv_aload_n hx hb dX12_areVoicesHere_14 rfl (lv_at hl 0 rfl) ?_
    have q7 : nx.toInt ≤ tp.toInt := by
      have := (h_a1).1; have := (h_a1).2; have := (h_nx).1; have := (h_nx).2; have := (h_tp).1; have := (h_tp).2; omega
    refine tw_gov hS (md_runV (As := []) (rest := []) hx hb hml hown hW hK hT hS.1 (t_X12_passWord l D cy tx base Z K N Ma Ra Ja hS.2.1 a0 hz_a0 hk_a0 tb k_tb nx k_nx (iv_mono h_nx (by decide) (by decide)) tp k_tp (iv_mono h_tp (by decide) (by decide)) q7) s_X12_142 ⟨rfl, rfl, ⟨Nat.le_of_ble_eq_true rfl, Nat.le_of_ble_eq_true rfl⟩, ⟨Nat.le_of_ble_eq_true rfl, Nat.le_of_ble_eq_true rfl⟩⟩ hz_a0 hk_a0 (by decide) rfl rfl hl.1 rfl (Nat.le_of_ble_eq_true rfl) dX12_areVoicesHere_15) rfl rfl (fun H locs M11 R12 J10 hS f8 g9 E13 => ?_)
    have eR12 := Fr.nil g9 rfl
    subst eR12
    have p14 := E13
    clear E13
    obtain ⟨x17, k15, h16, q18, z20⟩ := p14
    have k15 : M11 a0 13 = x17 := k15
    refine lv_iconst (v := 0) hx hb dX12_areVoicesHere_18 (by decide) ?_
    refine lv_istore_n (lv' := [(2, .int 0), (0, .ref (base + a0)), (1, .int a1)]) hx hb dX12_areVoicesHere_19 rfl hl (by decide) rfl (fun ls hl => ?_)
    have W20_22 : ∀ (n_22 : Nat) (x21 : Int32) (x27 : Int32) (M22 : MT) (R23 : RT) (J24 : JT) (H : Heap) (locs : List Loc) (ls : Array Slot) (h_x21 : iv 0 10 x21) (h_x27 : iv 0 400 x27) (k28 : M22 a0 13 = x27) (w0_22 : nx.toInt ≤ x27.toInt ∧ x27.toInt ≤ tp.toInt) (hm_22 : 10 - x21.toInt < (n_22 : Int)) (hS : SB D cy base Z K N Lt_X12_areVoicesHere LRt_X12_areVoicesHere Ma Ra M22 R23 J24 s H locs) (hl : lv_has ls 3 [(2, .int x21), (0, .ref (base + a0)), (1, .int a1)]), W p l e (md_rm 3 0 0) s m args below meth c H locs 0 0 Q (F0 m 20 ls []) := by
      intro n_22
      induction n_22 with
      | zero =>
        intro x21 x27 M22 R23 J24 H locs ls h_x21 h_x27 k28 w0_22 hm_22 hS hl
        exfalso
        have := (h_a1).1; have := (h_a1).2; have := (h_nx).1; have := (h_nx).2; have := (h_tp).1; have := (h_tp).2; have := (h_x21).1; have := (h_x21).2; omega
      | succ n_22 ih_22 =>
        intro x21 x27 M22 R23 J24 H locs ls h_x21 h_x27 k28 w0_22 hm_22 hS hl
        have f25 := hS.2.2.1
        have g26 := hS.2.2.2
        refine lv_iload_n hx hb dX12_areVoicesHere_20 rfl (lv_at hl 0 rfl) ?_
        refine lv_aload_n hx hb dX12_areVoicesHere_21 rfl (lv_at hl 1 rfl) ?_
        refine tw_geti hx hb hW hown hK hS f_X12_251_11 hz_a0 hk_a0 (lo := 0) (hi := 10) rfl dX12_areVoicesHere_22 (fun x31 k30 h29 => ?_)
        refine lv_icmp_ge (tgt := 57) hx hb dX12_areVoicesHere_25 (by decide) (fun c32 => ?_) (fun c32 => ?_)
        · have q33 : x31.toInt ≤ x21.toInt := ti_le c32
          refine lv_aload_n hx hb dX12_areVoicesHere_57 rfl (lv_at hl 1 rfl) ?_
          refine lv_iconst (v := 1) hx hb dX12_areVoicesHere_58 (by decide) ?_
          refine tw_puti hx hb hW hown hK hS f_X12_260_11 hz_a0 hk_a0 rfl rfl (lo := (-2147483648)) (hi := 2147483647) rfl (iv_mono (iv_c (c := 1) (n := 1) (by decide)) (by decide) (by decide)) rfl dX12_areVoicesHere_59 (fun H locs M36 hS k34 f35 => ?_)
          refine lv_iconst (v := 1) hx hb dX12_areVoicesHere_62 (by decide) ?_
          have k37 : M36 a0 13 = x27 := (Fr.kp (k := 13) f35 hk_a0 rfl).trans k28
          have q38 : nx.toInt ≤ x27.toInt ∧ x27.toInt ≤ tp.toInt := by
            have := (h_a1).1; have := (h_a1).2; have := (h_nx).1; have := (h_nx).2; have := (h_tp).1; have := (h_tp).2; have := (h16).1; have := (h16).2; have := (h_x27).1; have := (h_x27).2; omega
          exact tw_endz hx hb hr hlocks hK hT hS hQ rfl (⟨(iv_mono (iv_c (c := 1) (n := 1) (by decide)) (by decide) (by decide)), ⟨x27, k37, h_x27, q38⟩, (fun h => absurd h (by decide))⟩) dX12_areVoicesHere_63
        · have q39 : x21.toInt < x31.toInt := ti_nle c32
          have h40 : iv 0 9 x21 := iv_ltL (y := x31) h_x21 h29 q39 (by decide)
          have h41 : iv 1 10 x31 := iv_gtL (y := x21) h29 h_x21 q39 (by decide)
          refine lv_aload_n hx hb dX12_areVoicesHere_28 rfl (lv_at hl 1 rfl) ?_
          refine lv_iconst (v := 1) hx hb dX12_areVoicesHere_29 (by decide) ?_
          refine lv_sipush (v := 999) hx hb dX12_areVoicesHere_30 (by decide) ?_
          have k42 : R23 a0 0 = some tb := (Fr.kp (k := 0) g26 hk_a0 rfl).trans k_tb
          have k43 : M22 a0 1 = tp := (Fr.kp (k := 1) f25 hk_a0 rfl).trans k_tp
          have q44 : x27.toInt ≤ tp.toInt := by
            have := (h_a1).1; have := (h_a1).2; have := (h_nx).1; have := (h_nx).2; have := (h_tp).1; have := (h_tp).2; have := (h16).1; have := (h16).2; have := (h_x27).1; have := (h_x27).2; omega
          obtain ⟨x47, k45⟩ : ∃ x, M22 a0 15 = x := ⟨_, rfl⟩
          have h46 : iv (-2147483648) 2147483647 x47 := by rw [← k45]; exact hS.2.1.int hz_a0 hk_a0 (show rgI 12 15 = ((-2147483648), 2147483647) from rfl)
          refine tw_goi hS (md_runV (As := [.int 1, .int 999]) (rest := []) hx hb hml hown hW hK hT hS.1 (t_X12_numberHere l D cy tx base Z K N M22 R23 J24 hS.2.1 a0 hz_a0 hk_a0 1 (iv_mono (iv_c (c := 1) (n := 1) (by decide)) (by decide) (by decide)) 999 (iv_mono (iv_c (c := 999) (n := 999) (by decide)) (by decide) (by decide)) tb k42 x27 k28 (iv_mono h_x27 (by decide) (by decide)) tp k43 (iv_mono h_tp (by decide) (by decide)) q44 x47 k45 (iv_mono h46 (by decide) (by decide))) s_X12_200 ⟨rfl, rfl, ⟨Nat.le_of_ble_eq_true rfl, Nat.le_of_ble_eq_true rfl⟩, ⟨Nat.le_of_ble_eq_true rfl, Nat.le_of_ble_eq_true rfl⟩⟩ hz_a0 hk_a0 (by decide) rfl rfl hl.1 rfl (Nat.le_of_ble_eq_true rfl) dX12_areVoicesHere_33) rfl rfl (fun x54 H locs M51 R52 J50 hS f48 g49 E53 => ?_)
          have eR52 := Fr.nil g49 rfl
          subst eR52
          obtain ⟨h_x54, p55, p56, p57⟩ := E53
          obtain ⟨x60, k58, h59, q61⟩ := p55
          have k58 : M51 a0 13 = x60 := k58
          obtain ⟨x65, k66, h64, q67⟩ := p56
          have k66 : M51 a0 15 = x65 := k66
          have q68 : (1 : Int32).toInt = 1 := (by decide)
          have q69 : (999 : Int32).toInt = 999 := (by decide)
          have z70 : x54 = 0 → ¬ (M51 a0 14).toInt = 0 := p57
          refine lv_if_ne (tgt := 41) hx hb dX12_areVoicesHere_36 (by decide) (fun c71 => ?_) (fun c71 => ?_)
          · have q72 : ¬ x54.toInt = 0 := ti_ne c71
            have h73 : iv 1 1 x54 := ⟨by have := (h_x54).1; have := ((iv_c (c := 0) (n := 0) (by decide))).1; have := ((iv_c (c := 0) (n := 0) (by decide))).2; omega, by have := (h_x54).2; have := ((iv_c (c := 0) (n := 0) (by decide))).1; have := ((iv_c (c := 0) (n := 0) (by decide))).2; omega⟩
            refine lv_aload_n hx hb dX12_areVoicesHere_41 rfl (lv_at hl 1 rfl) ?_
            refine tw_getr hx hb hW hown hK hS f_X12_29_11 hz_a0 hk_a0 (t := 35) (n := 10) rfl dX12_areVoicesHere_42 (fun b74 k75 hz_b74 hk_b74 hn_b74 => ?_)
            have hn_b74 := hn_b74 (by decide)
            refine lv_iload_n hx hb dX12_areVoicesHere_45 rfl (lv_at hl 0 rfl) ?_
            refine lv_aload_n hx hb dX12_areVoicesHere_46 rfl (lv_at hl 1 rfl) ?_
            refine tw_getk hx hb hW hown hK hS f_X12_152_11 hz_a0 hk_a0 (v := x65) k66 dX12_areVoicesHere_47 ?_
            have h76 : iv 0 999 x65 := by
              have := (h_a1).1; have := (h_a1).2; have := (h_nx).1; have := (h_nx).2; have := (h_tp).1; have := (h_tp).2; have := (h64).1; have := (h64).2; exact ⟨by omega, by omega⟩
            refine tw_iast hx hb hK hS hz_b74 hk_b74 (Or.inr (by decide)) hn_b74 h40 ⟨by decide, by decide⟩ h76 (rg_s35 ⟨by decide, by decide⟩) (jl := 0) (jh := 1999999) ⟨by decide, by decide⟩ rfl dX12_areVoicesHere_50 (fun H locs M79 hS k77 f78 => ?_)
            refine tw_iinc (lv' := fun x82 => [(2, .int x82), (0, .ref (base + a0)), (1, .int a1)]) (lo := 1) (hi := 10) hx hb dX12_areVoicesHere_51 hl (k := 0) rfl h40 (by decide) ⟨by decide, by decide⟩ ⟨by decide, by decide⟩ (by decide) (fun _ => rfl) (fun x82 ls e81 h80 hl => ?_)
            refine lv_goto (tgt := 20) hx hb dX12_areVoicesHere_54 (by decide) ?_
            have k83 : M79 a0 13 = x60 := (Fr.kp (k := 13) f78 hk_a0 rfl).trans k58
            have w84 : nx.toInt ≤ x60.toInt ∧ x60.toInt ≤ tp.toInt := by
              have := (h_a1).1; have := (h_a1).2; have := (h_nx).1; have := (h_nx).2; have := (h_tp).1; have := (h_tp).2; have := (h16).1; have := (h16).2; have := (h_x27).1; have := (h_x27).2; have := (h73).1; have := (h73).2; have := (h59).1; have := (h59).2; omega
            have hm85 : 10 - x82.toInt < (n_22 : Int) := by
              have := (h_a1).1; have := (h_a1).2; have := (h_nx).1; have := (h_nx).2; have := (h_tp).1; have := (h_tp).2; have := (h40).1; have := (h40).2; have := (h80).1; have := (h80).2; omega
            exact ih_22 x82 x60 M79 R23 J50 H locs _ (iv_mono h80 (by decide) (by decide)) h59 k83 w84 hm85 hS hl
          · have q86 : x54.toInt = 0 := ti_eq c71
            have z87 := z70 c71
            have h88 : iv 0 0 x54 := ⟨by have := (h_x54).1; have := ((iv_c (c := 0) (n := 0) (by decide))).1; omega, by have := (h_x54).2; have := ((iv_c (c := 0) (n := 0) (by decide))).2; omega⟩
            refine lv_iconst (v := 0) hx hb dX12_areVoicesHere_39 (by decide) ?_
            have q89 : nx.toInt ≤ x60.toInt ∧ x60.toInt ≤ tp.toInt := by
              have := (h_a1).1; have := (h_a1).2; have := (h_nx).1; have := (h_nx).2; have := (h_tp).1; have := (h_tp).2; have := (h16).1; have := (h16).2; have := (h_x27).1; have := (h_x27).2; have := (h88).1; have := (h88).2; have := (h59).1; have := (h59).2; omega
            exact tw_endz hx hb hr hlocks hK hT hS hQ rfl (⟨(iv_mono (iv_c (c := 0) (n := 0) (by decide)) (by decide) (by decide)), ⟨x60, k58, h59, q89⟩, (fun _ => (show ¬ (M51 a0 14).toInt = 0 from z87))⟩) dX12_areVoicesHere_40
    have w90 : nx.toInt ≤ x17.toInt ∧ x17.toInt ≤ tp.toInt := by
      have := (h_a1).1; have := (h_a1).2; have := (h_nx).1; have := (h_nx).2; have := (h_tp).1; have := (h_tp).2; have := (h16).1; have := (h16).2; omega
    have hm91 : 10 - (0 : Int32).toInt < (((11 : Nat) : Int) : Int) := by
      have := (h_a1).1; have := (h_a1).2; have := (h_nx).1; have := (h_nx).2; have := (h_tp).1; have := (h_tp).2; have : (0 : Int32).toInt = 0 := (by decide); omega
    exact W20_22 11 0 x17 M11 Ra J10 H locs _ (iv_mono (iv_c (c := 0) (n := 0) (by decide)) (by decide) (by decide)) h16 k15 w90 hm91 hS hl
  · have q92 : ¬ x3.toInt = 0 := ti_ne c4
    refine lv_aload_n hx hb dX12_areVoicesHere_7 rfl (lv_at hl 0 rfl) ?_
    refine lv_iconst (v := 4) hx hb dX12_areVoicesHere_8 (by decide) ?_
    refine lv_iload_n hx hb dX12_areVoicesHere_9 rfl (lv_at hl 1 rfl) ?_
    refine tw_goi hS (md_runV (As := [.int 4, .int a1]) (rest := []) hx hb hml hown hW hK hT hS.1 (t_X12_fails l D cy tx base Z K N Ma Ra Ja hS.2.1 a0 hz_a0 hk_a0 4 (iv_mono (iv_c (c := 4) (n := 4) (by decide)) (by decide) (by decide)) a1 h_a1) s_X12_148 ⟨rfl, rfl, ⟨Nat.le_of_ble_eq_true rfl, Nat.le_of_ble_eq_true rfl⟩, ⟨Nat.le_of_ble_eq_true rfl, Nat.le_of_ble_eq_true rfl⟩⟩ hz_a0 hk_a0 (by decide) rfl rfl hl.1 rfl (Nat.le_of_ble_eq_true rfl) dX12_areVoicesHere_10) rfl rfl (fun x99 H locs M96 R97 J95 hS f93 g94 E98 => ?_)
    have eR97 := Fr.nil g94 rfl
    subst eR97
    obtain ⟨h_x99, p100⟩ := E98
    have z101 : x99 = 0 → ¬ (M96 a0 14).toInt = 0 := p100
    have z102 := z101 (iv0 h_x99)
    have k103 : M96 a0 13 = nx := (Fr.kp (k := 13) f93 hk_a0 rfl).trans k_nx
    have q104 : nx.toInt ≤ nx.toInt ∧ nx.toInt ≤ tp.toInt := by
      have := (h_a1).1; have := (h_a1).2; have := (h_nx).1; have := (h_nx).2; have := (h_tp).1; have := (h_tp).2; omega
    exact tw_endz hx hb hr hlocks hK hT hS hQ (nar_b (iv_mono h_x99 (by decide) (by decide))) (⟨(iv_mono h_x99 (by decide) (by decide)), ⟨nx, k103, h_nx, q104⟩, (fun _ => (show ¬ (M96 a0 14).toInt = 0 from z102))⟩) dX12_areVoicesHere_13
def Lt_X12_bits : WL := []
def LRt_X12_bits : WL := []
set_option maxRecDepth 100000 in
set_option maxHeartbeats 4000000 in
theorem t_X12_bits (l : Launch) (D : va_G) (cy : Nat → ClassId) (tx : (Nat → Nat) × (Nat → Nat)) (base Z : Nat) (K N : Nat → Nat) (Ma : MT) (Ra : RT) (Ja : JT) (hTy : Ty Z K N Ma Ra) (a0 : Int32) (h_a0 : iv (-2147483648) 2147483647 a0) : Met l yX12_bits [Cond.code yX12_bits cX12_bits 3 (some .int)] (md_rm 1 0 0) (va_Pc [.int a0] (md_U D cy tx base Z K N Ma Ra Ja)) (mQi D cy tx base (fun r u => TP Z K N Lt_X12_bits LRt_X12_bits Ma Ra u ∧ (iv (-2147483648) 2147483647 r ∧ r = bitsG a0))) 0 0 (fun q => base ≤ q) := by
  refine tw_ofW (L := Lt_X12_bits) (LR := LRt_X12_bits) (by decide) (Nat.le_of_ble_eq_true rfl) hTy ?_
  intro p e s m args below meth c Q ls hx hb hr hlocks hown hml hW hK hT hS hQ hl
  have hl : lv_has ls 3 [(0, .int a0)] := hl
  refine lv_iconst (v := 0) hx hb dX12_bits_0 (by decide) ?_
  refine lv_istore_n (lv' := [(1, .int 0), (0, .int a0)]) hx hb dX12_bits_1 rfl hl (by decide) rfl (fun ls hl => ?_)
  refine lv_iload_n hx hb dX12_bits_2 rfl (lv_at hl 1 rfl) ?_
  refine lv_istore_n (lv' := [(2, .int a0), (1, .int 0), (0, .int a0)]) hx hb dX12_bits_3 rfl hl (by decide) rfl (fun ls hl => ?_)
  have W4_3 : ∀ (n_3 : Nat) (x1 : Int32) (x2 : Int32) (M3 : MT) (R4 : RT) (J5 : JT) (H : Heap) (locs : List Loc) (ls : Array Slot) (h_x1 : iv (-2147483648) 2147483647 x1) (h_x2 : iv (-2147483648) 2147483647 x2) (w0_3 : bitsN (x2.toBitVec.toNat + 1) x2 x1 = bitsG a0) (hm_3 : (x2.toBitVec.toNat : Int) < (n_3 : Int)) (hS : SB D cy base Z K N Lt_X12_bits LRt_X12_bits Ma Ra M3 R4 J5 s H locs) (hl : lv_has ls 3 [(1, .int x1), (2, .int x2), (0, .int a0)]), W p l e (md_rm 1 0 0) s m args below meth c H locs 0 0 Q (F0 m 4 ls []) := by
    intro n_3
    induction n_3 with
    | zero =>
      intro x1 x2 M3 R4 J5 H locs ls h_x1 h_x2 w0_3 hm_3 hS hl
      exfalso
      have := (h_a0).1; have := (h_a0).2; have := (h_x1).1; have := (h_x1).2; have := (h_x2).1; have := (h_x2).2; omega
    | succ n_3 ih_3 =>
      intro x1 x2 M3 R4 J5 H locs ls h_x1 h_x2 w0_3 hm_3 hS hl
      have f6 := hS.2.2.1
      have g7 := hS.2.2.2
      refine lv_iload_n hx hb dX12_bits_4 rfl (lv_at hl 1 rfl) ?_
      refine lv_if_eq (tgt := 20) hx hb dX12_bits_5 (by decide) (fun c8 => ?_) (fun c8 => ?_)
      · have q9 : x2.toInt = 0 := ti_eq c8
        have h10 : iv 0 0 x2 := ⟨by have := (h_x2).1; have := ((iv_c (c := 0) (n := 0) (by decide))).1; omega, by have := (h_x2).2; have := ((iv_c (c := 0) (n := 0) (by decide))).2; omega⟩
        refine lv_iload_n hx hb dX12_bits_20 rfl (lv_at hl 0 rfl) ?_
        exact tw_endi hx hb hr hlocks hK hT hS hQ (⟨h_x1, ((bitsN_out c8).symm.trans w0_3)⟩) dX12_bits_21
      · have q11 : ¬ x2.toInt = 0 := ti_ne c8
        refine lv_iinc (v := (x1 + 1)) (lv' := [(1, .int (x1 + 1)), (2, .int x2), (0, .int a0)]) hx hb dX12_bits_8 hl (k := 0) rfl rfl (by decide) rfl (fun ls hl => ?_)
        obtain ⟨x14, e13⟩ : ∃ v : Int32, v = (x1 + 1) := ⟨_, rfl⟩
        rw [← e13] at hl
        have h12 := iv_any x14
        refine lv_iload_n hx hb dX12_bits_11 rfl (lv_at hl 1 rfl) ?_
        refine lv_iload_n hx hb dX12_bits_12 rfl (lv_at hl 1 rfl) ?_
        refine lv_iconst (v := 1) hx hb dX12_bits_13 (by decide) ?_
        refine lv_isub hx hb dX12_bits_14 ?_
        refine lv_iand hx hb dX12_bits_15 ?_
        refine lv_topi (fun x17 e16 => ?_)
        have h15 := iv_any x17
        have q18 := bits_lt e16 c8
        refine lv_istore_n (lv' := [(2, .int x17), (1, .int x14), (0, .int a0)]) hx hb dX12_bits_16 rfl hl (by decide) rfl (fun ls hl => ?_)
        refine lv_goto (tgt := 4) hx hb dX12_bits_17 (by decide) ?_
        have w19 : bitsN (x17.toBitVec.toNat + 1) x17 x14 = bitsG a0 := (by rw [e13]; exact (bitsN_in e16 c8).trans w0_3)
        have hm20 : (x17.toBitVec.toNat : Int) < (n_3 : Int) := by
          have := (h_a0).1; have := (h_a0).2; have := (h15).1; have := (h15).2; omega
        exact ih_3 x14 x17 M3 R4 J5 H locs _ h12 h15 w19 hm20 hS (lv_sub hl [1, 0, 2] rfl)
  have w21 : bitsN (a0.toBitVec.toNat + 1) a0 (0 : Int32) = bitsG a0 := rfl
  have hm22 : (a0.toBitVec.toNat : Int) < (((4294967296 : Nat) : Int) : Int) := by
    have := (h_a0).1; have := (h_a0).2; omega
  exact W4_3 4294967296 0 a0 Ma Ra Ja s.heap [] _ (iv_mono (iv_c (c := 0) (n := 0) (by decide)) (by decide) (by decide)) h_a0 w21 hm22 hS (lv_sub hl [1, 0, 2] rfl)
def Lt_X12_attends : WL := [(14, 0, 2000000), (23, 2, 3), (23, 10, 20)]
def LRt_X12_attends : WL := []
set_option maxRecDepth 100000 in
set_option maxHeartbeats 4000000 in
theorem t_X12_attends (l : Launch) (D : va_G) (cy : Nat → ClassId) (tx : (Nat → Nat) × (Nat → Nat)) (base Z : Nat) (K N : Nat → Nat) (Ma : MT) (Ra : RT) (Ja : JT) (hTy : Ty Z K N Ma Ra) (a0 : Nat) (hz_a0 : a0 < Z) (hk_a0 : K a0 = 12) (a1 : Int32) (h_a1 : iv (-2147483648) 2147483647 a1) (a2 : Int32) (h_a2 : iv (-2147483648) 2147483647 a2) : Met l yX12_attends [Cond.code yX12_attends cX12_attends 3 (some .int)] (md_rm 2 0 0) (va_Pc [.ref (base + a0), .int a1, .int a2] (md_U D cy tx base Z K N Ma Ra Ja)) (mQi D cy tx base (fun r u => TP Z K N Lt_X12_attends LRt_X12_attends Ma Ra u ∧ (iv (-2147483648) 2147483647 r))) 0 0 (fun q => base ≤ q) := by
  refine tw_ofW (L := Lt_X12_attends) (LR := LRt_X12_attends) (by decide) (Nat.le_of_ble_eq_true rfl) hTy ?_
  intro p e s m args below meth c Q ls hx hb hr hlocks hown hml hW hK hT hS hQ hl
  have hl : lv_has ls 3 [(0, .ref (base + a0)), (1, .int a1), (2, .int a2)] := hl
  refine lv_aload_n hx hb dX12_attends_0 rfl (lv_at hl 0 rfl) ?_
  refine lv_iload_n hx hb dX12_attends_1 rfl (lv_at hl 1 rfl) ?_
  refine tw_goi hS (md_runV (As := [.int a1]) (rest := []) hx hb hml hown hW hK hT hS.1 (t_X12_isMember l D cy tx base Z K N Ma Ra Ja hS.2.1 a0 hz_a0 hk_a0 a1 h_a1) s_X12_319 ⟨rfl, rfl, ⟨Nat.le_of_ble_eq_true rfl, Nat.le_of_ble_eq_true rfl⟩, ⟨Nat.le_of_ble_eq_true rfl, Nat.le_of_ble_eq_true rfl⟩⟩ hz_a0 hk_a0 (by decide) rfl rfl hl.1 rfl (Nat.le_of_ble_eq_true rfl) dX12_attends_2) rfl rfl (fun x7 H locs M4 R5 J3 hS f1 g2 E6 => ?_)
  have eM4 := Fr.nil f1 rfl
  subst eM4
  have eR5 := Fr.nil g2 rfl
  subst eR5
  obtain ⟨h_x7, p8⟩ := E6
  refine lv_if_eq (tgt := 22) hx hb dX12_attends_5 (by decide) (fun c9 => ?_) (fun c9 => ?_)
  · have q10 : x7.toInt = 0 := ti_eq c9
    have h11 : iv 0 0 x7 := ⟨by have := (h_x7).1; have := ((iv_c (c := 0) (n := 0) (by decide))).1; omega, by have := (h_x7).2; have := ((iv_c (c := 0) (n := 0) (by decide))).2; omega⟩
    refine lv_aload_n hx hb dX12_attends_22 rfl (lv_at hl 0 rfl) ?_
    refine lv_iconst (v := 0) hx hb dX12_attends_23 (by decide) ?_
    refine tw_goi hS (md_runV (As := [.int 0]) (rest := []) hx hb hml hown hW hK hT hS.1 (t_X12_refuses l D cy tx base Z K N Ma Ra J3 hS.2.1 a0 hz_a0 hk_a0 0 (iv_mono (iv_c (c := 0) (n := 0) (by decide)) (by decide) (by decide))) s_X12_338 ⟨rfl, rfl, ⟨Nat.le_of_ble_eq_true rfl, Nat.le_of_ble_eq_true rfl⟩, ⟨Nat.le_of_ble_eq_true rfl, Nat.le_of_ble_eq_true rfl⟩⟩ hz_a0 hk_a0 (by decide) rfl rfl hl.1 rfl (Nat.le_of_ble_eq_true rfl) dX12_attends_24) rfl rfl (fun x18 H locs M15 R16 J14 hS f12 g13 E17 => ?_)
    have eR16 := Fr.nil g13 rfl
    subst eR16
    have h_x18 := E17
    clear E17
    exact tw_endi hx hb hr hlocks hK hT hS hQ ((iv_mono h_x18 (by decide) (by decide))) dX12_attends_27
  · have q19 : ¬ x7.toInt = 0 := ti_ne c9
    have h20 : iv 1 1 x7 := ⟨by have := (h_x7).1; have := ((iv_c (c := 0) (n := 0) (by decide))).1; have := ((iv_c (c := 0) (n := 0) (by decide))).2; omega, by have := (h_x7).2; have := ((iv_c (c := 0) (n := 0) (by decide))).1; have := ((iv_c (c := 0) (n := 0) (by decide))).2; omega⟩
    have h21 : iv 0 9 a1 := ⟨by have := (p8 c9).1; have := (h_a1).1; omega, by have := (p8 c9).2; have := (h_a1).2; omega⟩
    refine lv_aload_n hx hb dX12_attends_8 rfl (lv_at hl 0 rfl) ?_
    refine tw_getr hx hb hW hown hK hS f_X12_45_11 hz_a0 hk_a0 (t := 23) (n := 226) rfl dX12_attends_9 (fun b22 k23 hz_b22 hk_b22 hn_b22 => ?_)
    have hn_b22 := hn_b22 (by decide)
    refine lv_iconst (v := 2) hx hb dX12_attends_12 (by decide) ?_
    refine tw_iald hx hb hK hS hz_b22 hk_b22 (Or.inr (by decide)) hn_b22 (lo := (-2147483648)) (hi := 2147483647) (iv_c (c := 2) (n := 2) (by decide)) ⟨by decide, by decide⟩ (rg_c (k0 := 2) rfl rfl rfl) dX12_attends_13 (fun x26 k25 h24 => ?_)
    refine lv_iload_n hx hb dX12_attends_14 rfl (lv_at hl 1 rfl) ?_
    refine tw_goi hS (md_runS (As := [.int x26, .int a1]) (rest := []) hx hb hml hown hW hK hT hS.1 (t_X12_isOf l D cy tx base Z K N Ma Ra J3 hS.2.1 x26 h24 a1 h21) s_X12_322 ⟨rfl, rfl, ⟨Nat.le_of_ble_eq_true rfl, Nat.le_of_ble_eq_true rfl⟩, ⟨Nat.le_of_ble_eq_true rfl, Nat.le_of_ble_eq_true rfl⟩⟩ rfl hl.1 rfl (Nat.le_of_ble_eq_true rfl) dX12_attends_15) rfl rfl (fun x33 H locs M30 R31 J29 hS f27 g28 E32 => ?_)
    have eM30 := Fr.nil f27 rfl
    subst eM30
    have eR31 := Fr.nil g28 rfl
    subst eR31
    have h_x33 := E32
    clear E32
    refine lv_iload_n hx hb dX12_attends_18 rfl (lv_at hl 2 rfl) ?_
    refine lv_icmp_ne (tgt := 28) hx hb dX12_attends_19 (by decide) (fun c34 => ?_) (fun c34 => ?_)
    · have q35 : ¬ x33.toInt = a2.toInt := ti_ne c34
      refine lv_aload_n hx hb dX12_attends_28 rfl (lv_at hl 0 rfl) ?_
      refine tw_getrk hx hb hW hown hK hS f_X12_45_11 hz_a0 hk_a0 (b := b22) k23 dX12_attends_29 ?_
      refine lv_iconst (v := 2) hx hb dX12_attends_32 (by decide) ?_
      refine lv_dup2_11 hx hb dX12_attends_33 rfl rfl ?_
      refine tw_ialk hx hb hK hS hz_b22 hk_b22 (Or.inr (by decide)) hn_b22 (iv_c (c := 2) (n := 2) (by decide)) ⟨by decide, by decide⟩ (v := x26) k25 dX12_attends_34 ?_
      refine lv_iconst (v := 1) hx hb dX12_attends_35 (by decide) ?_
      refine lv_iload_n hx hb dX12_attends_36 rfl (lv_at hl 1 rfl) ?_
      refine lv_ishl hx hb dX12_attends_37 ?_
      refine tw_top (fun x37 => ?_)
      have h36 := iv_any x37
      refine lv_ixor hx hb dX12_attends_38 ?_
      refine tw_top (fun x39 => ?_)
      have h38 := iv_any x39
      refine tw_iast hx hb hK hS hz_b22 hk_b22 (Or.inr (by decide)) hn_b22 (iv_c (c := 2) (n := 2) (by decide)) ⟨by decide, by decide⟩ h38 (rg_cs (k0 := 2) rfl rfl rfl ⟨by decide, by decide⟩) (jl := 2) (jh := 2) ⟨by decide, by decide⟩ rfl dX12_attends_39 (fun H locs M42 hS k40 f41 => ?_)
      refine lv_aload_n hx hb dX12_attends_40 rfl (lv_at hl 0 rfl) ?_
      refine tw_getrk hx hb hW hown hK hS f_X12_45_11 hz_a0 hk_a0 (b := b22) k23 dX12_attends_41 ?_
      refine lv_bipush (v := 10) hx hb dX12_attends_44 (by decide) ?_
      refine lv_iload_n hx hb dX12_attends_46 rfl (lv_at hl 1 rfl) ?_
      refine tw_iadd (lo := 10) (hi := 19) hx hb (iv_c (c := 10) (n := 10) (by decide)) h21 ⟨by decide, by decide⟩ ⟨by decide, by decide⟩ dX12_attends_47 (fun x45 e44 h43 => ?_)
      have e44 : x45.toInt = 10 + a1.toInt := e44
      refine lv_iconst (v := 1) hx hb dX12_attends_48 (by decide) ?_
      refine tw_iast hx hb hK hS hz_b22 hk_b22 (Or.inr (by decide)) hn_b22 h43 ⟨by decide, by decide⟩ (iv_c (c := 1) (n := 1) (by decide)) (rg_svs ⟨by decide, by decide⟩ ⟨by decide, by decide⟩) (jl := 10) (jh := 19) ⟨by decide, by decide⟩ rfl dX12_attends_49 (fun H locs M48 hS k46 f47 => ?_)
      refine lv_aload_n hx hb dX12_attends_50 rfl (lv_at hl 0 rfl) ?_
      refine tw_getrk hx hb hW hown hK hS f_X12_45_11 hz_a0 hk_a0 (b := b22) k23 dX12_attends_51 ?_
      refine lv_iconst (v := 2) hx hb dX12_attends_54 (by decide) ?_
      have k49 : M48 b22 (2 : Int32).toNatClampNeg = x39 := (Fr.kp (k := (2 : Int32).toNatClampNeg) f47 hk_b22 rfl).trans k40
      refine tw_ialk hx hb hK hS hz_b22 hk_b22 (Or.inr (by decide)) hn_b22 (iv_c (c := 2) (n := 2) (by decide)) ⟨by decide, by decide⟩ (v := x39) k49 dX12_attends_55 ?_
      refine tw_goi hS (md_runS (As := [.int x39]) (rest := []) hx hb hml hown hW hK hT hS.1 (t_X12_bits l D cy tx base Z K N M48 Ra J29 hS.2.1 x39 h38) s_X12_341 ⟨rfl, rfl, ⟨Nat.le_of_ble_eq_true rfl, Nat.le_of_ble_eq_true rfl⟩, ⟨Nat.le_of_ble_eq_true rfl, Nat.le_of_ble_eq_true rfl⟩⟩ rfl hl.1 rfl (Nat.le_of_ble_eq_true rfl) dX12_attends_56) rfl rfl (fun x56 H locs M53 R54 J52 hS f50 g51 E55 => ?_)
      have eM53 := Fr.nil f50 rfl
      subst eM53
      have eR54 := Fr.nil g51 rfl
      subst eR54
      obtain ⟨h_x56, p57⟩ := E55
      exact tw_endi hx hb hr hlocks hK hT hS hQ (h_x56) dX12_attends_59
    · have q58 : x33.toInt = a2.toInt := ti_eq c34
      have h59 : iv 0 1 a2 := ⟨by have := (h_x33).1; have := (h_a2).1; omega, by have := (h_x33).2; have := (h_a2).2; omega⟩
      refine lv_aload_n hx hb dX12_attends_22 rfl (lv_at hl 0 rfl) ?_
      refine lv_iconst (v := 0) hx hb dX12_attends_23 (by decide) ?_
      refine tw_goi hS (md_runV (As := [.int 0]) (rest := []) hx hb hml hown hW hK hT hS.1 (t_X12_refuses l D cy tx base Z K N Ma Ra J29 hS.2.1 a0 hz_a0 hk_a0 0 (iv_mono (iv_c (c := 0) (n := 0) (by decide)) (by decide) (by decide))) s_X12_338 ⟨rfl, rfl, ⟨Nat.le_of_ble_eq_true rfl, Nat.le_of_ble_eq_true rfl⟩, ⟨Nat.le_of_ble_eq_true rfl, Nat.le_of_ble_eq_true rfl⟩⟩ hz_a0 hk_a0 (by decide) rfl rfl hl.1 rfl (Nat.le_of_ble_eq_true rfl) dX12_attends_24) rfl rfl (fun x66 H locs M63 R64 J62 hS f60 g61 E65 => ?_)
      have eR64 := Fr.nil g61 rfl
      subst eR64
      have h_x66 := E65
      clear E65
      exact tw_endi hx hb hr hlocks hK hT hS hQ ((iv_mono h_x66 (by decide) (by decide))) dX12_attends_27
def Lt_X12_back : WL := [(14, 0, 2000000), (23, 0, 226)]
def LRt_X12_back : WL := []
set_option maxRecDepth 100000 in
set_option maxHeartbeats 4000000 in
theorem t_X12_back (l : Launch) (D : va_G) (cy : Nat → ClassId) (tx : (Nat → Nat) × (Nat → Nat)) (base Z : Nat) (K N : Nat → Nat) (Ma : MT) (Ra : RT) (Ja : JT) (hTy : Ty Z K N Ma Ra) (a0 : Nat) (hz_a0 : a0 < Z) (hk_a0 : K a0 = 12) (a1 : Int32) (h_a1 : iv (-2147483648) 2147483647 a1) (sd : Nat) (k_sd : Ra a0 25 = some sd) (im : Nat) (k_im : Ra a0 53 = some im) (mk : Nat) (k_mk : Ra a0 54 = some mk) : Met l yX12_back [Cond.code yX12_back cX12_back 3 (some .int)] (md_rm 2 0 0) (va_Pc [.ref (base + a0), .int a1] (md_U D cy tx base Z K N Ma Ra Ja)) (mQi D cy tx base (fun r u => TP Z K N Lt_X12_back LRt_X12_back Ma Ra u ∧ (iv (-2147483648) 2147483647 r ∧ ((u.2.2.2.1 sd 6 = Ma im (226 * a1.toNatClampNeg + 6) ∧ ¬ Ma mk a1.toNatClampNeg = 0 ∧ 0 ≤ a1.toInt ∧ a1.toInt ≤ 3) ∨ ((a1.toInt < 0 ∨ 3 < a1.toInt ∨ Ma mk a1.toNatClampNeg = 0) ∧ (∀ n, u.2.2.2.1 sd n = Ma sd n)))))) 0 0 (fun q => base ≤ q) := by
  refine tw_ofW (L := Lt_X12_back) (LR := LRt_X12_back) (by decide) (Nat.le_of_ble_eq_true rfl) hTy ?_
  intro p e s m args below meth c Q ls hx hb hr hlocks hown hml hW hK hT hS hQ hl
  have hl : lv_has ls 3 [(0, .ref (base + a0)), (1, .int a1)] := hl
  obtain ⟨hz_sd, hk_sd, hn_sd⟩ := hTy.refn hz_a0 hk_a0 (show rtR 12 25 = (23, 226, 0) from rfl) k_sd
  have hn_sd := hn_sd (by decide)
  obtain ⟨hz_im, hk_im, hn_im⟩ := hTy.refn hz_a0 hk_a0 (show rtR 12 53 = (24, 904, 0) from rfl) k_im
  have hn_im := hn_im (by decide)
  obtain ⟨hz_mk, hk_mk, hn_mk⟩ := hTy.refn hz_a0 hk_a0 (show rtR 12 54 = (16, 4, 0) from rfl) k_mk
  have hn_mk := hn_mk (by decide)
  refine lv_iload_n hx hb dX12_back_0 rfl (lv_at hl 1 rfl) ?_
  refine lv_i2l hx hb dX12_back_1 rfl ?_
  refine lv_lconst (v := 0) hx hb dX12_back_2 (by decide) ?_
  refine lv_ldc2 hx hb hown (hW _ w_8_59 rfl) dX12_back_3 ?_
  refine tw_goi hS (md_runS (As := [.long a1.toInt64, .long 0, .long 3]) (rest := []) hx hb hml hown hW hK hT hS.1 (t_X12_in l D cy tx base Z K N Ma Ra Ja hS.2.1 (a1.toInt64) (0) (3)) s_X12_155 ⟨rfl, rfl, ⟨Nat.le_of_ble_eq_true rfl, Nat.le_of_ble_eq_true rfl⟩, ⟨Nat.le_of_ble_eq_true rfl, Nat.le_of_ble_eq_true rfl⟩⟩ rfl hl.1 rfl (Nat.le_of_ble_eq_true rfl) dX12_back_6) rfl rfl (fun x7 H locs M4 R5 J3 hS f1 g2 E6 => ?_)
  have eM4 := Fr.nil f1 rfl
  subst eM4
  have eR5 := Fr.nil g2 rfl
  subst eR5
  obtain ⟨h_x7, p8⟩ := E6
  have p9 := p8.1
  refine lv_if_eq (tgt := 21) hx hb dX12_back_9 (by decide) (fun c10 => ?_) (fun c10 => ?_)
  · have q11 : x7.toInt = 0 := ti_eq c10
    have q12 := p8.2 c10
    have q12 : a1.toInt < 0 ∨ 3 < a1.toInt := by rw [Int32.toInt_toInt64] at q12; exact q12
    have h13 : iv 0 0 x7 := ⟨by have := (h_x7).1; have := ((iv_c (c := 0) (n := 0) (by decide))).1; omega, by have := (h_x7).2; have := ((iv_c (c := 0) (n := 0) (by decide))).2; omega⟩
    refine lv_aload_n hx hb dX12_back_21 rfl (lv_at hl 0 rfl) ?_
    refine lv_iconst (v := 0) hx hb dX12_back_22 (by decide) ?_
    refine tw_goi hS (md_runV (As := [.int 0]) (rest := []) hx hb hml hown hW hK hT hS.1 (t_X12_refuses l D cy tx base Z K N Ma Ra J3 hS.2.1 a0 hz_a0 hk_a0 0 (iv_mono (iv_c (c := 0) (n := 0) (by decide)) (by decide) (by decide))) s_X12_338 ⟨rfl, rfl, ⟨Nat.le_of_ble_eq_true rfl, Nat.le_of_ble_eq_true rfl⟩, ⟨Nat.le_of_ble_eq_true rfl, Nat.le_of_ble_eq_true rfl⟩⟩ hz_a0 hk_a0 (by decide) rfl rfl hl.1 rfl (Nat.le_of_ble_eq_true rfl) dX12_back_23) rfl rfl (fun x20 H locs M17 R18 J16 hS f14 g15 E19 => ?_)
    have eR18 := Fr.nil g15 rfl
    subst eR18
    have h_x20 := E19
    clear E19
    exact tw_endi hx hb hr hlocks hK hT hS hQ (⟨(iv_mono h_x20 (by decide) (by decide)), Or.inr ⟨by have := q12; omega, (fun n => (Fr.kpa f14 hk_sd rfl _))⟩⟩) dX12_back_26
  · have q21 : ¬ x7.toInt = 0 := ti_ne c10
    have h22 : iv 1 1 x7 := ⟨by have := (h_x7).1; have := ((iv_c (c := 0) (n := 0) (by decide))).1; have := ((iv_c (c := 0) (n := 0) (by decide))).2; omega, by have := (h_x7).2; have := ((iv_c (c := 0) (n := 0) (by decide))).1; have := ((iv_c (c := 0) (n := 0) (by decide))).2; omega⟩
    have h23 : iv 0 3 a1 := in2iv (p9 c10) ((jv_c (x := 0) (n := 0) (by decide))).1 ((jv_c (x := 3) (n := 3) (by decide))).2
    refine lv_aload_n hx hb dX12_back_12 rfl (lv_at hl 0 rfl) ?_
    refine tw_getrk hx hb hW hown hK hS f_X12_112_11 hz_a0 hk_a0 (b := mk) k_mk dX12_back_13 ?_
    refine lv_iload_n hx hb dX12_back_16 rfl (lv_at hl 1 rfl) ?_
    refine tw_zald hx hb hK hS hz_mk hk_mk hn_mk h23 ⟨by decide, by decide⟩ dX12_back_17 (fun x26 k25 => ?_)
    have h24 := iv_any x26
    refine lv_if_ne (tgt := 27) hx hb dX12_back_18 (by decide) (fun c27 => ?_) (fun c27 => ?_)
    · have q28 : ¬ x26.toInt = 0 := ti_ne c27
      refine lv_iconst (v := 0) hx hb dX12_back_27 (by decide) ?_
      refine lv_istore_n (lv' := [(2, .int 0), (0, .ref (base + a0)), (1, .int a1)]) hx hb dX12_back_28 rfl hl (by decide) rfl (fun ls hl => ?_)
      have W29_30 : ∀ (n_30 : Nat) (x29 : Int32) (M30 : MT) (R31 : RT) (J32 : JT) (H : Heap) (locs : List Loc) (ls : Array Slot) (h_x29 : iv 0 226 x29) (w0_30 : x29.toInt ≤ 6 ∨ M30 sd 6 = Ma im (226 * a1.toNatClampNeg + 6)) (hm_30 : 226 - x29.toInt < (n_30 : Int)) (hS : SB D cy base Z K N Lt_X12_back LRt_X12_back Ma Ra M30 R31 J32 s H locs) (hl : lv_has ls 3 [(2, .int x29), (0, .ref (base + a0)), (1, .int a1)]), W p l e (md_rm 2 0 0) s m args below meth c H locs 0 0 Q (F0 m 29 ls []) := by
        intro n_30
        induction n_30 with
        | zero =>
          intro x29 M30 R31 J32 H locs ls h_x29 w0_30 hm_30 hS hl
          exfalso
          have := (h23).1; have := (h23).2; have := (h_x29).1; have := (h_x29).2; omega
        | succ n_30 ih_30 =>
          intro x29 M30 R31 J32 H locs ls h_x29 w0_30 hm_30 hS hl
          have f33 := hS.2.2.1
          have g34 := hS.2.2.2
          refine lv_iload_n hx hb dX12_back_29 rfl (lv_at hl 0 rfl) ?_
          refine lv_sipush (v := 226) hx hb dX12_back_30 (by decide) ?_
          refine lv_icmp_ge (tgt := 60) hx hb dX12_back_33 (by decide) (fun c35 => ?_) (fun c35 => ?_)
          · have q36 : 226 ≤ x29.toInt := ti_le c35
            have h37 : iv 226 226 x29 := iv_geL (y := 226) h_x29 (iv_c (c := 226) (n := 226) (by decide)) q36 (by decide)
            refine lv_aload_n hx hb dX12_back_60 rfl (lv_at hl 1 rfl) ?_
            have k38 : R31 a0 25 = some sd := (Fr.kp (k := 25) g34 hk_a0 rfl).trans k_sd
            refine tw_getrk hx hb hW hown hK hS f_X12_45_11 hz_a0 hk_a0 (b := sd) k38 dX12_back_61 ?_
            refine lv_iconst (v := 3) hx hb dX12_back_64 (by decide) ?_
            refine tw_iald hx hb hK hS hz_sd hk_sd (Or.inr (by decide)) hn_sd (lo := (-2147483648)) (hi := 2147483647) (iv_c (c := 3) (n := 3) (by decide)) ⟨by decide, by decide⟩ (rg_c (k0 := 3) rfl rfl rfl) dX12_back_65 (fun x41 k40 h39 => ?_)
            exact tw_endi hx hb hr hlocks hK hT hS hQ (⟨h39, Or.inl ⟨w0_30.resolve_left (by omega), (by rw [k25]; exact c27), (h23).1, (h23).2⟩⟩) dX12_back_66
          · have q42 : x29.toInt < 226 := ti_nle c35
            have h43 : iv 0 225 x29 := iv_ltL (y := 226) h_x29 (iv_c (c := 226) (n := 226) (by decide)) q42 (by decide)
            refine lv_aload_n hx hb dX12_back_36 rfl (lv_at hl 1 rfl) ?_
            have k44 : R31 a0 25 = some sd := (Fr.kp (k := 25) g34 hk_a0 rfl).trans k_sd
            refine tw_getrk hx hb hW hown hK hS f_X12_45_11 hz_a0 hk_a0 (b := sd) k44 dX12_back_37 ?_
            refine lv_iload_n hx hb dX12_back_40 rfl (lv_at hl 0 rfl) ?_
            refine lv_aload_n hx hb dX12_back_41 rfl (lv_at hl 1 rfl) ?_
            have k45 : R31 a0 53 = some im := (Fr.kp (k := 53) g34 hk_a0 rfl).trans k_im
            refine tw_getrk hx hb hW hown hK hS f_X12_109_11 hz_a0 hk_a0 (b := im) k45 dX12_back_42 ?_
            refine lv_sipush (v := 226) hx hb dX12_back_45 (by decide) ?_
            refine lv_iload_n hx hb dX12_back_48 rfl (lv_at hl 2 rfl) ?_
            refine tw_icmul (k := 226) (lo := 0) (hi := 678) hx hb (by decide) h23 (by decide) ⟨by decide, by decide⟩ ⟨by decide, by decide⟩ dX12_back_49 (fun x48 e47 h46 => ?_)
            refine lv_iload_n hx hb dX12_back_50 rfl (lv_at hl 0 rfl) ?_
            refine tw_iadd (lo := 0) (hi := 903) hx hb h46 h43 ⟨by decide, by decide⟩ ⟨by decide, by decide⟩ dX12_back_51 (fun x51 e50 h49 => ?_)
            refine tw_iald hx hb hK hS hz_im hk_im (Or.inr (by decide)) hn_im (lo := (-2147483648)) (hi := 2147483647) h49 ⟨by decide, by decide⟩ rg_full dX12_back_52 (fun x54 k53 h52 => ?_)
            have zi58 := ti_cl (x := x51) (by have := (h49).1; omega); have zl58 := ti_cl (x := x29) (by have := (h43).1; omega); have zk58 := ti_cl (x := a1) (by have := (h23).1; omega)
            have zq58 := hS.2.1.1 im hz_im x51.toNatClampNeg
            rw [hk_im, k53] at zq58
            refine tw_iasx hx hb hK hS hz_sd hk_sd (Or.inr (by decide)) hn_sd h43 ⟨by decide, by decide⟩ (okI_bck zq58 (by omega)) (jl := 0) (jh := 225) ⟨by decide, by decide⟩ rfl dX12_back_53 (fun H locs M58 hS k55 f56 e57 => ?_)
            refine tw_iinc (lv' := fun x61 => [(2, .int x61), (0, .ref (base + a0)), (1, .int a1)]) (lo := 1) (hi := 226) hx hb dX12_back_54 hl (k := 0) rfl h43 (by decide) ⟨by decide, by decide⟩ ⟨by decide, by decide⟩ (by decide) (fun _ => rfl) (fun x61 ls e60 h59 hl => ?_)
            refine lv_goto (tgt := 29) hx hb dX12_back_57 (by decide) ?_
            have zi62 := ti_cl (x := x51) (by have := (h49).1; omega); have zl62 := ti_cl (x := x29) (by have := (h43).1; omega); have zk62 := ti_cl (x := a1) (by have := (h23).1; omega)
            have w62 : x61.toInt ≤ 6 ∨ M58 sd 6 = Ma im (226 * a1.toNatClampNeg + 6) := by by_cases q : x29.toInt = 6; (· exact Or.inr (by have q9 := k55; rw [show x29.toNatClampNeg = 6 by omega] at q9; rw [q9, ← k53, show x51.toNatClampNeg = 226 * a1.toNatClampNeg + 6 by omega]; exact (Fr.kpa f33 hk_im rfl _))); (· exact (w0_30).elim (fun h => Or.inl (by omega)) (fun h => Or.inr (by rw [e57, u2_nk (by omega)]; exact h)))
            have hm63 : 226 - x61.toInt < (n_30 : Int) := by
              have := (h23).1; have := (h23).2; have := (h43).1; have := (h43).2; have := (h46).1; have := (h46).2; have := (h49).1; have := (h49).2; have := (h59).1; have := (h59).2; omega
            exact ih_30 x61 M58 R31 J32 H locs _ (iv_mono h59 (by decide) (by decide)) w62 hm63 hS hl
      have w64 : (0 : Int32).toInt ≤ 6 ∨ Ma sd 6 = Ma im (226 * a1.toNatClampNeg + 6) := Or.inl (by decide)
      have hm65 : 226 - (0 : Int32).toInt < (((227 : Nat) : Int) : Int) := by
        have := (h23).1; have := (h23).2; have : (0 : Int32).toInt = 0 := (by decide); omega
      exact W29_30 227 0 Ma Ra J3 H locs _ (iv_mono (iv_c (c := 0) (n := 0) (by decide)) (by decide) (by decide)) w64 hm65 hS hl
    · have q66 : x26.toInt = 0 := ti_eq c27
      have h67 : iv 0 0 x26 := ⟨by have := (h24).1; have := ((iv_c (c := 0) (n := 0) (by decide))).1; omega, by have := (h24).2; have := ((iv_c (c := 0) (n := 0) (by decide))).2; omega⟩
      refine lv_aload_n hx hb dX12_back_21 rfl (lv_at hl 0 rfl) ?_
      refine lv_iconst (v := 0) hx hb dX12_back_22 (by decide) ?_
      refine tw_goi hS (md_runV (As := [.int 0]) (rest := []) hx hb hml hown hW hK hT hS.1 (t_X12_refuses l D cy tx base Z K N Ma Ra J3 hS.2.1 a0 hz_a0 hk_a0 0 (iv_mono (iv_c (c := 0) (n := 0) (by decide)) (by decide) (by decide))) s_X12_338 ⟨rfl, rfl, ⟨Nat.le_of_ble_eq_true rfl, Nat.le_of_ble_eq_true rfl⟩, ⟨Nat.le_of_ble_eq_true rfl, Nat.le_of_ble_eq_true rfl⟩⟩ hz_a0 hk_a0 (by decide) rfl rfl hl.1 rfl (Nat.le_of_ble_eq_true rfl) dX12_back_23) rfl rfl (fun x74 H locs M71 R72 J70 hS f68 g69 E73 => ?_)
      have eR72 := Fr.nil g69 rfl
      subst eR72
      have h_x74 := E73
      clear E73
      exact tw_endi hx hb hr hlocks hK hT hS hQ (⟨(iv_mono h_x74 (by decide) (by decide)), Or.inr ⟨Or.inr (Or.inr (k25.trans c27)), (fun n => (Fr.kpa f68 hk_sd rfl _))⟩⟩) dX12_back_26
def Lt_X12_canLose : WL := []
def LRt_X12_canLose : WL := []
set_option maxRecDepth 100000 in
set_option maxHeartbeats 4000000 in
theorem t_X12_canLose (l : Launch) (D : va_G) (cy : Nat → ClassId) (tx : (Nat → Nat) × (Nat → Nat)) (base Z : Nat) (K N : Nat → Nat) (Ma : MT) (Ra : RT) (Ja : JT) (hTy : Ty Z K N Ma Ra) (a0 : Nat) (hz_a0 : a0 < Z) (hk_a0 : K a0 = 12) (a1 : Int32) (h_a1 : iv (-2147483648) 2147483647 a1) (sd : Nat) (k_sd : Ra a0 25 = some sd) (e4 : Int32) (k_e4 : Ma sd (4 : Int32).toNatClampNeg = e4) (h_e4 : iv 0 8 e4) : Met l yX12_canLose [Cond.code yX12_canLose cX12_canLose 2 (some .boolean)] (md_rm 2 0 0) (va_Pc [.ref (base + a0), .int a1] (md_U D cy tx base Z K N Ma Ra Ja)) (mQi D cy tx base (fun r u => TP Z K N Lt_X12_canLose LRt_X12_canLose Ma Ra u ∧ (iv 0 1 r ∧ (¬ r = 0 → iv 1 4 e4)))) 0 0 (fun q => base ≤ q) := by
  refine tw_ofW (L := Lt_X12_canLose) (LR := LRt_X12_canLose) (by decide) (Nat.le_of_ble_eq_true rfl) hTy ?_
  intro p e s m args below meth c Q ls hx hb hr hlocks hown hml hW hK hT hS hQ hl
  have hl : lv_has ls 2 [(0, .ref (base + a0)), (1, .int a1)] := hl
  obtain ⟨hz_sd, hk_sd, hn_sd⟩ := hTy.refn hz_a0 hk_a0 (show rtR 12 25 = (23, 226, 0) from rfl) k_sd
  have hn_sd := hn_sd (by decide)
  refine lv_aload_n hx hb dX12_canLose_0 rfl (lv_at hl 0 rfl) ?_
  refine lv_iload_n hx hb dX12_canLose_1 rfl (lv_at hl 1 rfl) ?_
  refine tw_goi hS (md_runV (As := [.int a1]) (rest := []) hx hb hml hown hW hK hT hS.1 (t_X12_isSet l D cy tx base Z K N Ma Ra Ja hS.2.1 a0 hz_a0 hk_a0 a1 h_a1) s_X12_404 ⟨rfl, rfl, ⟨Nat.le_of_ble_eq_true rfl, Nat.le_of_ble_eq_true rfl⟩, ⟨Nat.le_of_ble_eq_true rfl, Nat.le_of_ble_eq_true rfl⟩⟩ hz_a0 hk_a0 (by decide) rfl rfl hl.1 rfl (Nat.le_of_ble_eq_true rfl) dX12_canLose_2) rfl rfl (fun x7 H locs M4 R5 J3 hS f1 g2 E6 => ?_)
  have eM4 := Fr.nil f1 rfl
  subst eM4
  have eR5 := Fr.nil g2 rfl
  subst eR5
  have h_x7 := E6
  clear E6
  refine lv_if_eq (tgt := 57) hx hb dX12_canLose_5 (by decide) (fun c8 => ?_) (fun c8 => ?_)
  · have q9 : x7.toInt = 0 := ti_eq c8
    have h10 : iv 0 0 x7 := ⟨by have := (h_x7).1; have := ((iv_c (c := 0) (n := 0) (by decide))).1; omega, by have := (h_x7).2; have := ((iv_c (c := 0) (n := 0) (by decide))).2; omega⟩
    refine lv_iconst (v := 0) hx hb dX12_canLose_57 (by decide) ?_
    exact tw_endz hx hb hr hlocks hK hT hS hQ rfl (⟨(iv_mono (iv_c (c := 0) (n := 0) (by decide)) (by decide) (by decide)), (fun h => absurd rfl h)⟩) dX12_canLose_58
  · have q11 : ¬ x7.toInt = 0 := ti_ne c8
    have h12 : iv 1 1 x7 := ⟨by have := (h_x7).1; have := ((iv_c (c := 0) (n := 0) (by decide))).1; have := ((iv_c (c := 0) (n := 0) (by decide))).2; omega, by have := (h_x7).2; have := ((iv_c (c := 0) (n := 0) (by decide))).1; have := ((iv_c (c := 0) (n := 0) (by decide))).2; omega⟩
    refine lv_iload_n hx hb dX12_canLose_8 rfl (lv_at hl 1 rfl) ?_
    refine tw_goi hS (md_runS (As := [.int a1]) (rest := []) hx hb hml hown hW hK hT hS.1 (t_X12_bits l D cy tx base Z K N Ma Ra J3 hS.2.1 a1 h_a1) s_X12_341 ⟨rfl, rfl, ⟨Nat.le_of_ble_eq_true rfl, Nat.le_of_ble_eq_true rfl⟩, ⟨Nat.le_of_ble_eq_true rfl, Nat.le_of_ble_eq_true rfl⟩⟩ rfl hl.1 rfl (Nat.le_of_ble_eq_true rfl) dX12_canLose_9) rfl rfl (fun x19 H locs M16 R17 J15 hS f13 g14 E18 => ?_)
    have eM16 := Fr.nil f13 rfl
    subst eM16
    have eR17 := Fr.nil g14 rfl
    subst eR17
    obtain ⟨h_x19, p20⟩ := E18
    refine lv_i2l hx hb dX12_canLose_12 rfl ?_
    refine lv_lconst (v := 1) hx hb dX12_canLose_13 (by decide) ?_
    refine lv_ldc2 hx hb hown (hW _ w_8_59 rfl) dX12_canLose_14 ?_
    refine tw_goi hS (md_runS (As := [.long x19.toInt64, .long 1, .long 3]) (rest := []) hx hb hml hown hW hK hT hS.1 (t_X12_in l D cy tx base Z K N Ma Ra J15 hS.2.1 (x19.toInt64) (1) (3)) s_X12_155 ⟨rfl, rfl, ⟨Nat.le_of_ble_eq_true rfl, Nat.le_of_ble_eq_true rfl⟩, ⟨Nat.le_of_ble_eq_true rfl, Nat.le_of_ble_eq_true rfl⟩⟩ rfl hl.1 rfl (Nat.le_of_ble_eq_true rfl) dX12_canLose_17) rfl rfl (fun x27 H locs M24 R25 J23 hS f21 g22 E26 => ?_)
    have eM24 := Fr.nil f21 rfl
    subst eM24
    have eR25 := Fr.nil g22 rfl
    subst eR25
    obtain ⟨h_x27, p28⟩ := E26
    have p29 := p28.1
    refine lv_if_eq (tgt := 57) hx hb dX12_canLose_20 (by decide) (fun c30 => ?_) (fun c30 => ?_)
    · have q31 : x27.toInt = 0 := ti_eq c30
      have q32 := p28.2 c30
      have q32 : x19.toInt < 1 ∨ 3 < x19.toInt := by rw [Int32.toInt_toInt64] at q32; exact q32
      have h33 : iv 0 0 x27 := ⟨by have := (h_x27).1; have := ((iv_c (c := 0) (n := 0) (by decide))).1; omega, by have := (h_x27).2; have := ((iv_c (c := 0) (n := 0) (by decide))).2; omega⟩
      refine lv_iconst (v := 0) hx hb dX12_canLose_57 (by decide) ?_
      exact tw_endz hx hb hr hlocks hK hT hS hQ rfl (⟨(iv_mono (iv_c (c := 0) (n := 0) (by decide)) (by decide) (by decide)), (fun h => absurd rfl h)⟩) dX12_canLose_58
    · have q34 : ¬ x27.toInt = 0 := ti_ne c30
      have h35 : iv 1 1 x27 := ⟨by have := (h_x27).1; have := ((iv_c (c := 0) (n := 0) (by decide))).1; have := ((iv_c (c := 0) (n := 0) (by decide))).2; omega, by have := (h_x27).2; have := ((iv_c (c := 0) (n := 0) (by decide))).1; have := ((iv_c (c := 0) (n := 0) (by decide))).2; omega⟩
      have h36 : iv 1 3 x19 := in2iv (p29 c30) ((jv_c (x := 1) (n := 1) (by decide))).1 ((jv_c (x := 3) (n := 3) (by decide))).2
      refine lv_iload_n hx hb dX12_canLose_23 rfl (lv_at hl 1 rfl) ?_
      refine lv_aload_n hx hb dX12_canLose_24 rfl (lv_at hl 0 rfl) ?_
      refine tw_getrk hx hb hW hown hK hS f_X12_45_11 hz_a0 hk_a0 (b := sd) k_sd dX12_canLose_25 ?_
      refine lv_iconst (v := 2) hx hb dX12_canLose_28 (by decide) ?_
      refine tw_iald hx hb hK hS hz_sd hk_sd (Or.inr (by decide)) hn_sd (lo := (-2147483648)) (hi := 2147483647) (iv_c (c := 2) (n := 2) (by decide)) ⟨by decide, by decide⟩ (rg_c (k0 := 2) rfl rfl rfl) dX12_canLose_29 (fun x39 k38 h37 => ?_)
      refine lv_iconst (v := (-1)) hx hb dX12_canLose_30 (by decide) ?_
      refine lv_ixor hx hb dX12_canLose_31 ?_
      refine tw_top (fun x41 => ?_)
      have h40 := iv_any x41
      refine lv_iand hx hb dX12_canLose_32 ?_
      refine tw_top (fun x43 => ?_)
      have h42 := iv_any x43
      refine lv_if_ne (tgt := 57) hx hb dX12_canLose_33 (by decide) (fun c44 => ?_) (fun c44 => ?_)
      · have q45 : ¬ x43.toInt = 0 := ti_ne c44
        refine lv_iconst (v := 0) hx hb dX12_canLose_57 (by decide) ?_
        exact tw_endz hx hb hr hlocks hK hT hS hQ rfl (⟨(iv_mono (iv_c (c := 0) (n := 0) (by decide)) (by decide) (by decide)), (fun h => absurd rfl h)⟩) dX12_canLose_58
      · have q46 : x43.toInt = 0 := ti_eq c44
        have h47 : iv 0 0 x43 := ⟨by have := (h42).1; have := ((iv_c (c := 0) (n := 0) (by decide))).1; omega, by have := (h42).2; have := ((iv_c (c := 0) (n := 0) (by decide))).2; omega⟩
        refine lv_aload_n hx hb dX12_canLose_36 rfl (lv_at hl 0 rfl) ?_
        refine tw_getrk hx hb hW hown hK hS f_X12_45_11 hz_a0 hk_a0 (b := sd) k_sd dX12_canLose_37 ?_
        refine lv_iconst (v := 4) hx hb dX12_canLose_40 (by decide) ?_
        refine tw_ialk hx hb hK hS hz_sd hk_sd (Or.inr (by decide)) hn_sd (iv_c (c := 4) (n := 4) (by decide)) ⟨by decide, by decide⟩ (v := e4) k_e4 dX12_canLose_41 ?_
        refine lv_i2l hx hb dX12_canLose_42 rfl ?_
        refine lv_lconst (v := 1) hx hb dX12_canLose_43 (by decide) ?_
        refine lv_ldc2 hx hb hown (hW _ w_7_141 rfl) dX12_canLose_44 ?_
        refine tw_goi hS (md_runS (As := [.long e4.toInt64, .long 1, .long 4]) (rest := []) hx hb hml hown hW hK hT hS.1 (t_X12_in l D cy tx base Z K N Ma Ra J23 hS.2.1 (e4.toInt64) (1) (4)) s_X12_155 ⟨rfl, rfl, ⟨Nat.le_of_ble_eq_true rfl, Nat.le_of_ble_eq_true rfl⟩, ⟨Nat.le_of_ble_eq_true rfl, Nat.le_of_ble_eq_true rfl⟩⟩ rfl hl.1 rfl (Nat.le_of_ble_eq_true rfl) dX12_canLose_47) rfl rfl (fun x54 H locs M51 R52 J50 hS f48 g49 E53 => ?_)
        have eM51 := Fr.nil f48 rfl
        subst eM51
        have eR52 := Fr.nil g49 rfl
        subst eR52
        obtain ⟨h_x54, p55⟩ := E53
        have p56 := p55.1
        refine lv_if_eq (tgt := 57) hx hb dX12_canLose_50 (by decide) (fun c57 => ?_) (fun c57 => ?_)
        · have q58 : x54.toInt = 0 := ti_eq c57
          have q59 := p55.2 c57
          have q59 : e4.toInt < 1 ∨ 4 < e4.toInt := by rw [Int32.toInt_toInt64] at q59; exact q59
          have h60 : iv 0 0 x54 := ⟨by have := (h_x54).1; have := ((iv_c (c := 0) (n := 0) (by decide))).1; omega, by have := (h_x54).2; have := ((iv_c (c := 0) (n := 0) (by decide))).2; omega⟩
          refine lv_iconst (v := 0) hx hb dX12_canLose_57 (by decide) ?_
          exact tw_endz hx hb hr hlocks hK hT hS hQ rfl (⟨(iv_mono (iv_c (c := 0) (n := 0) (by decide)) (by decide) (by decide)), (fun h => absurd rfl h)⟩) dX12_canLose_58
        · have q61 : ¬ x54.toInt = 0 := ti_ne c57
          have h62 : iv 1 1 x54 := ⟨by have := (h_x54).1; have := ((iv_c (c := 0) (n := 0) (by decide))).1; have := ((iv_c (c := 0) (n := 0) (by decide))).2; omega, by have := (h_x54).2; have := ((iv_c (c := 0) (n := 0) (by decide))).1; have := ((iv_c (c := 0) (n := 0) (by decide))).2; omega⟩
          have h63 : iv 1 4 e4 := in2iv (p56 c57) ((jv_c (x := 1) (n := 1) (by decide))).1 ((jv_c (x := 4) (n := 4) (by decide))).2
          refine lv_iconst (v := 1) hx hb dX12_canLose_53 (by decide) ?_
          refine lv_goto (tgt := 58) hx hb dX12_canLose_54 (by decide) ?_
          exact tw_endz hx hb hr hlocks hK hT hS hQ rfl (⟨(iv_mono (iv_c (c := 1) (n := 1) (by decide)) (by decide) (by decide)), (fun _ => h63)⟩) dX12_canLose_58
def Lt_X12_isBentHere : WL := [(12, 13, 16), (14, 0, 2000000)]
def LRt_X12_isBentHere : WL := []
set_option maxRecDepth 100000 in
set_option maxHeartbeats 4000000 in
theorem t_X12_isBentHere (l : Launch) (D : va_G) (cy : Nat → ClassId) (tx : (Nat → Nat) × (Nat → Nat)) (base Z : Nat) (K N : Nat → Nat) (Ma : MT) (Ra : RT) (Ja : JT) (hTy : Ty Z K N Ma Ra) (a0 : Nat) (hz_a0 : a0 < Z) (hk_a0 : K a0 = 12) (tb : Nat) (k_tb : Ra a0 0 = some tb) (nx : Int32) (k_nx : Ma a0 13 = nx) (h_nx : iv 0 400 nx) (tp : Int32) (k_tp : Ma a0 1 = tp) (h_tp : iv 0 400 tp) (hnt : nx.toInt ≤ tp.toInt) : Met l yX12_isBentHere [Cond.code yX12_isBentHere cX12_isBentHere 2 (some .boolean)] (md_rm 3 0 0) (va_Pc [.ref (base + a0)] (md_U D cy tx base Z K N Ma Ra Ja)) (mQi D cy tx base (fun r u => TP Z K N Lt_X12_isBentHere LRt_X12_isBentHere Ma Ra u ∧ (iv 0 1 r ∧ (∃ x0 : Int32, u.2.2.2.1 a0 13 = x0 ∧ iv 0 400 x0 ∧ (nx.toInt ≤ x0.toInt ∧ x0.toInt ≤ tp.toInt)) ∧ (r = 0 → ¬ (u.2.2.2.1 a0 14).toInt = 0)))) 0 0 (fun q => base ≤ q) := by
  refine tw_ofW (L := Lt_X12_isBentHere) (LR := LRt_X12_isBentHere) (by decide) (Nat.le_of_ble_eq_true rfl) hTy ?_
  intro p e s m args below meth c Q ls hx hb hr hlocks hown hml hW hK hT hS hQ hl
  have hl : lv_has ls 2 [(0, .ref (base + a0))] := hl
  obtain ⟨hz_tb, hk_tb, hn_tb⟩ := hTy.refn hz_a0 hk_a0 (show rtR 12 0 = (13, 400, 0) from rfl) k_tb
  have hn_tb := hn_tb (by decide)
  refine lv_aload_n hx hb dX12_isBentHere_0 rfl (lv_at hl 0 rfl) ?_
  have q1 : nx.toInt ≤ tp.toInt := by
    have := (h_nx).1; have := (h_nx).2; have := (h_tp).1; have := (h_tp).2; omega
  refine tw_gov hS (md_runV (As := []) (rest := []) hx hb hml hown hW hK hT hS.1 (t_X12_passWord l D cy tx base Z K N Ma Ra Ja hS.2.1 a0 hz_a0 hk_a0 tb k_tb nx k_nx (iv_mono h_nx (by decide) (by decide)) tp k_tp (iv_mono h_tp (by decide) (by decide)) q1) s_X12_142 ⟨rfl, rfl, ⟨Nat.le_of_ble_eq_true rfl, Nat.le_of_ble_eq_true rfl⟩, ⟨Nat.le_of_ble_eq_true rfl, Nat.le_of_ble_eq_true rfl⟩⟩ hz_a0 hk_a0 (by decide) rfl rfl hl.1 rfl (Nat.le_of_ble_eq_true rfl) dX12_isBentHere_1) rfl rfl (fun H locs M5 R6 J4 hS f2 g3 E7 => ?_)
  have eR6 := Fr.nil g3 rfl
  subst eR6
  have p8 := E7
  clear E7
  obtain ⟨x11, k9, h10, q12, z14⟩ := p8
  have k9 : M5 a0 13 = x11 := k9
  refine lv_aload_n hx hb dX12_isBentHere_4 rfl (lv_at hl 0 rfl) ?_
  refine lv_iconst (v := 0) hx hb dX12_isBentHere_5 (by decide) ?_
  refine lv_aload_n hx hb dX12_isBentHere_6 rfl (lv_at hl 0 rfl) ?_
  refine tw_geti hx hb hW hown hK hS f_X12_251_11 hz_a0 hk_a0 (lo := 0) (hi := 10) rfl dX12_isBentHere_7 (fun x17 k16 h15 => ?_)
  refine lv_iconst (v := 1) hx hb dX12_isBentHere_10 (by decide) ?_
  refine tw_isub (lo := (-1)) (hi := 9) hx hb h15 (iv_c (c := 1) (n := 1) (by decide)) ⟨by decide, by decide⟩ ⟨by decide, by decide⟩ dX12_isBentHere_11 (fun x20 e19 h18 => ?_)
  have e19 : x20.toInt = x17.toInt - 1 := e19
  have k21 : M5 a0 1 = tp := (Fr.kp (k := 1) f2 hk_a0 rfl).trans k_tp
  have q22 : x11.toInt ≤ tp.toInt := by
    have := (h_nx).1; have := (h_nx).2; have := (h_tp).1; have := (h_tp).2; have := (h10).1; have := (h10).2; omega
  obtain ⟨x25, k23⟩ : ∃ x, M5 a0 15 = x := ⟨_, rfl⟩
  have h24 : iv (-2147483648) 2147483647 x25 := by rw [← k23]; exact hS.2.1.int hz_a0 hk_a0 (show rgI 12 15 = ((-2147483648), 2147483647) from rfl)
  refine tw_goi hS (md_runV (As := [.int 0, .int x20]) (rest := []) hx hb hml hown hW hK hT hS.1 (t_X12_numberHere l D cy tx base Z K N M5 Ra J4 hS.2.1 a0 hz_a0 hk_a0 0 (iv_mono (iv_c (c := 0) (n := 0) (by decide)) (by decide) (by decide)) x20 (iv_mono h18 (by decide) (by decide)) tb k_tb x11 k9 (iv_mono h10 (by decide) (by decide)) tp k21 (iv_mono h_tp (by decide) (by decide)) q22 x25 k23 (iv_mono h24 (by decide) (by decide))) s_X12_200 ⟨rfl, rfl, ⟨Nat.le_of_ble_eq_true rfl, Nat.le_of_ble_eq_true rfl⟩, ⟨Nat.le_of_ble_eq_true rfl, Nat.le_of_ble_eq_true rfl⟩⟩ hz_a0 hk_a0 (by decide) rfl rfl hl.1 rfl (Nat.le_of_ble_eq_true rfl) dX12_isBentHere_12) rfl rfl (fun x32 H locs M29 R30 J28 hS f26 g27 E31 => ?_)
  have eR30 := Fr.nil g27 rfl
  subst eR30
  obtain ⟨h_x32, p33, p34, p35⟩ := E31
  obtain ⟨x38, k36, h37, q39⟩ := p33
  have k36 : M29 a0 13 = x38 := k36
  obtain ⟨x43, k44, h42, q45⟩ := p34
  have k44 : M29 a0 15 = x43 := k44
  have q46 : (0 : Int32).toInt = 0 := (by decide)
  have z47 : x32 = 0 → ¬ (M29 a0 14).toInt = 0 := p35
  refine lv_if_ne (tgt := 20) hx hb dX12_isBentHere_15 (by decide) (fun c48 => ?_) (fun c48 => ?_)
  · have q49 : ¬ x32.toInt = 0 := ti_ne c48
    have h50 : iv 1 1 x32 := ⟨by have := (h_x32).1; have := ((iv_c (c := 0) (n := 0) (by decide))).1; have := ((iv_c (c := 0) (n := 0) (by decide))).2; omega, by have := (h_x32).2; have := ((iv_c (c := 0) (n := 0) (by decide))).1; have := ((iv_c (c := 0) (n := 0) (by decide))).2; omega⟩
    refine lv_aload_n hx hb dX12_isBentHere_20 rfl (lv_at hl 0 rfl) ?_
    refine tw_getk hx hb hW hown hK hS f_X12_152_11 hz_a0 hk_a0 (v := x43) k44 dX12_isBentHere_21 ?_
    refine lv_istore_n (lv' := [(1, .int x43), (0, .ref (base + a0))]) hx hb dX12_isBentHere_24 rfl hl (by decide) rfl (fun ls hl => ?_)
    refine lv_aload_n hx hb dX12_isBentHere_25 rfl (lv_at hl 1 rfl) ?_
    refine lv_iconst (v := 0) hx hb dX12_isBentHere_26 (by decide) ?_
    refine lv_iconst (v := 5) hx hb dX12_isBentHere_27 (by decide) ?_
    have k51 : M29 a0 1 = tp := ((Fr.kp (k := 1) f26 hk_a0 rfl).trans (Fr.kp (k := 1) f2 hk_a0 rfl)).trans k_tp
    have q52 : x38.toInt ≤ tp.toInt := by
      have := (h_nx).1; have := (h_nx).2; have := (h_tp).1; have := (h_tp).2; have := (h10).1; have := (h10).2; have := (h50).1; have := (h50).2; have := (h37).1; have := (h37).2; omega
    refine tw_goi hS (md_runV (As := [.int 0, .int 5]) (rest := []) hx hb hml hown hW hK hT hS.1 (t_X12_numberHere l D cy tx base Z K N M29 Ra J28 hS.2.1 a0 hz_a0 hk_a0 0 (iv_mono (iv_c (c := 0) (n := 0) (by decide)) (by decide) (by decide)) 5 (iv_mono (iv_c (c := 5) (n := 5) (by decide)) (by decide) (by decide)) tb k_tb x38 k36 (iv_mono h37 (by decide) (by decide)) tp k51 (iv_mono h_tp (by decide) (by decide)) q52 x43 k44 (iv_mono h42 (by decide) (by decide))) s_X12_200 ⟨rfl, rfl, ⟨Nat.le_of_ble_eq_true rfl, Nat.le_of_ble_eq_true rfl⟩, ⟨Nat.le_of_ble_eq_true rfl, Nat.le_of_ble_eq_true rfl⟩⟩ hz_a0 hk_a0 (by decide) rfl rfl hl.1 rfl (Nat.le_of_ble_eq_true rfl) dX12_isBentHere_28) rfl rfl (fun x59 H locs M56 R57 J55 hS f53 g54 E58 => ?_)
    have eR57 := Fr.nil g54 rfl
    subst eR57
    obtain ⟨h_x59, p60, p61, p62⟩ := E58
    obtain ⟨x65, k63, h64, q66⟩ := p60
    have k63 : M56 a0 13 = x65 := k63
    obtain ⟨x70, k71, h69, q72⟩ := p61
    have k71 : M56 a0 15 = x70 := k71
    have q73 : (0 : Int32).toInt = 0 := (by decide)
    have q74 : (5 : Int32).toInt = 5 := (by decide)
    have z75 : x59 = 0 → ¬ (M56 a0 14).toInt = 0 := p62
    refine lv_if_ne (tgt := 36) hx hb dX12_isBentHere_31 (by decide) (fun c76 => ?_) (fun c76 => ?_)
    · have q77 : ¬ x59.toInt = 0 := ti_ne c76
      have h78 : iv 1 1 x59 := ⟨by have := (h_x59).1; have := ((iv_c (c := 0) (n := 0) (by decide))).1; have := ((iv_c (c := 0) (n := 0) (by decide))).2; omega, by have := (h_x59).2; have := ((iv_c (c := 0) (n := 0) (by decide))).1; have := ((iv_c (c := 0) (n := 0) (by decide))).2; omega⟩
      refine lv_aload_n hx hb dX12_isBentHere_36 rfl (lv_at hl 1 rfl) ?_
      refine tw_getr hx hb hW hown hK hS f_X12_32_11 hz_a0 hk_a0 (t := 14) (n := 10) rfl dX12_isBentHere_37 (fun b79 k80 hz_b79 hk_b79 hn_b79 => ?_)
      have hn_b79 := hn_b79 (by decide)
      refine lv_iload_n hx hb dX12_isBentHere_40 rfl (lv_at hl 0 rfl) ?_
      refine lv_aload_n hx hb dX12_isBentHere_41 rfl (lv_at hl 1 rfl) ?_
      refine tw_getk hx hb hW hown hK hS f_X12_152_11 hz_a0 hk_a0 (v := x70) k71 dX12_isBentHere_42 ?_
      have h81 : iv 0 9 x43 := by
        have := (h_nx).1; have := (h_nx).2; have := (h_tp).1; have := (h_tp).2; have := (h15).1; have := (h15).2; have := (h18).1; have := (h18).2; have := (h42).1; have := (h42).2; exact ⟨by omega, by omega⟩
      refine tw_iast hx hb hK hS hz_b79 hk_b79 (Or.inl rfl) hn_b79 h81 ⟨by decide, by decide⟩ h69 (rg_s14 ⟨by decide, by decide⟩) (jl := 0) (jh := 1999999) ⟨by decide, by decide⟩ rfl dX12_isBentHere_45 (fun H locs M84 hS k82 f83 => ?_)
      refine lv_iconst (v := 1) hx hb dX12_isBentHere_46 (by decide) ?_
      have k85 : M84 a0 13 = x65 := (Fr.kp (k := 13) f83 hk_a0 rfl).trans k63
      have q86 : nx.toInt ≤ x65.toInt ∧ x65.toInt ≤ tp.toInt := by
        have := (h_nx).1; have := (h_nx).2; have := (h_tp).1; have := (h_tp).2; have := (h10).1; have := (h10).2; have := (h50).1; have := (h50).2; have := (h37).1; have := (h37).2; have := (h78).1; have := (h78).2; have := (h64).1; have := (h64).2; omega
      exact tw_endz hx hb hr hlocks hK hT hS hQ rfl (⟨(iv_mono (iv_c (c := 1) (n := 1) (by decide)) (by decide) (by decide)), ⟨x65, k85, h64, q86⟩, (fun h => absurd h (by decide))⟩) dX12_isBentHere_47
    · have q87 : x59.toInt = 0 := ti_eq c76
      have z88 := z75 c76
      have h89 : iv 0 0 x59 := ⟨by have := (h_x59).1; have := ((iv_c (c := 0) (n := 0) (by decide))).1; omega, by have := (h_x59).2; have := ((iv_c (c := 0) (n := 0) (by decide))).2; omega⟩
      refine lv_iconst (v := 0) hx hb dX12_isBentHere_34 (by decide) ?_
      have q90 : nx.toInt ≤ x65.toInt ∧ x65.toInt ≤ tp.toInt := by
        have := (h_nx).1; have := (h_nx).2; have := (h_tp).1; have := (h_tp).2; have := (h10).1; have := (h10).2; have := (h50).1; have := (h50).2; have := (h37).1; have := (h37).2; have := (h89).1; have := (h89).2; have := (h64).1; have := (h64).2; omega
      exact tw_endz hx hb hr hlocks hK hT hS hQ rfl (⟨(iv_mono (iv_c (c := 0) (n := 0) (by decide)) (by decide) (by decide)), ⟨x65, k63, h64, q90⟩, (fun _ => (show ¬ (M56 a0 14).toInt = 0 from z88))⟩) dX12_isBentHere_35
  · have q91 : x32.toInt = 0 := ti_eq c48
    have z92 := z47 c48
    have h93 : iv 0 0 x32 := ⟨by have := (h_x32).1; have := ((iv_c (c := 0) (n := 0) (by decide))).1; omega, by have := (h_x32).2; have := ((iv_c (c := 0) (n := 0) (by decide))).2; omega⟩
    refine lv_iconst (v := 0) hx hb dX12_isBentHere_18 (by decide) ?_
    have q94 : nx.toInt ≤ x38.toInt ∧ x38.toInt ≤ tp.toInt := by
      have := (h_nx).1; have := (h_nx).2; have := (h_tp).1; have := (h_tp).2; have := (h10).1; have := (h10).2; have := (h93).1; have := (h93).2; have := (h37).1; have := (h37).2; omega
    exact tw_endz hx hb hr hlocks hK hT hS hQ rfl (⟨(iv_mono (iv_c (c := 0) (n := 0) (by decide)) (by decide) (by decide)), ⟨x38, k36, h37, q94⟩, (fun _ => (show ¬ (M29 a0 14).toInt = 0 from z92))⟩) dX12_isBentHere_19
