def Lt_X12_fails : WL := [(12, 14, 15)]
def LRt_X12_fails : WL := []
set_option maxRecDepth 100000 in
set_option maxHeartbeats 4000000 in
theorem t_X12_fails (l : Launch) (D : va_G) (cy : Nat → ClassId) (tx : (Nat → Nat) × (Nat → Nat)) (base Z : Nat) (K N : Nat → Nat) (Ma : MT) (Ra : RT) (Ja : JT) (hTy : Ty Z K N Ma Ra) (a0 : Nat) (hz_a0 : a0 < Z) (hk_a0 : K a0 = 12) (a1 : Int32) (h_a1 : iv 0 4 a1) (a2 : Int32) (h_a2 : iv 0 400 a2) : Met l yX12_fails [Cond.code yX12_fails cX12_fails 3 (some .boolean)] (md_rm 1 0 0) (va_Pc [.ref (base + a0), .int a1, .int a2] (md_U D cy tx base Z K N Ma Ra Ja)) (mQi D cy tx base (fun r u => TP Z K N Lt_X12_fails LRt_X12_fails Ma Ra u ∧ (iv 0 0 r ∧ (r = 0 → ¬ (u.2.2.2.1 a0 14).toInt = 0)))) 0 0 (fun q => base ≤ q) := by
  refine tw_ofW (L := Lt_X12_fails) (LR := LRt_X12_fails) (by decide) (Nat.le_of_ble_eq_true rfl) hTy ?_
  intro p e s m args below meth c Q ls hx hb hr hlocks hown hml hW hK hT hS hQ hl
  have hl : lv_has ls 3 [(0, .ref (base + a0)), (1, .int a1), (2, .int a2)] := hl
  refine lv_aload_n hx hb dX12_fails_0 rfl (lv_at hl 0 rfl) ?_
  refine tw_geti hx hb hW hown hK hS f_X12_124_11 hz_a0 hk_a0 (lo := (-2147483648)) (hi := 2147483647) rfl dX12_fails_1 (fun x3 k2 h1 => ?_)
  refine lv_if_ne (tgt := 19) hx hb dX12_fails_4 (by decide) (fun c4 => ?_) (fun c4 => ?_)
  · have q5 : ¬ x3.toInt = 0 := ti_ne c4
    refine lv_iconst (v := 0) hx hb dX12_fails_19 (by decide) ?_
    have q6 : ¬ x3.toInt = 0 := by
      have := (h_a1).1; have := (h_a1).2; have := (h_a2).1; have := (h_a2).2; have := (h1).1; have := (h1).2; omega
    exact tw_endz hx hb hr hlocks hK hT hS hQ rfl (⟨(iv_c (c := 0) (n := 0) (by decide)), (fun _ => (show ¬ (Ma a0 14).toInt = 0 from by rw [k2]; exact q6))⟩) dX12_fails_20
  · have q7 : x3.toInt = 0 := ti_eq c4
    have h8 : iv 0 0 x3 := ⟨by have := (h1).1; have := ((iv_c (c := 0) (n := 0) (by decide))).1; omega, by have := (h1).2; have := ((iv_c (c := 0) (n := 0) (by decide))).2; omega⟩
    refine lv_aload_n hx hb dX12_fails_7 rfl (lv_at hl 0 rfl) ?_
    refine lv_iconst (v := 1) hx hb dX12_fails_8 (by decide) ?_
    refine lv_bipush (v := 8) hx hb dX12_fails_9 (by decide) ?_
    refine lv_iload_n hx hb dX12_fails_11 rfl (lv_at hl 2 rfl) ?_
    refine tw_icmul (k := 8) (lo := 0) (hi := 3200) hx hb (by decide) h_a2 (by decide) ⟨by decide, by decide⟩ ⟨by decide, by decide⟩ dX12_fails_12 (fun x11 e10 h9 => ?_)
    refine tw_iadd (lo := 1) (hi := 3201) hx hb (iv_c (c := 1) (n := 1) (by decide)) h9 ⟨by decide, by decide⟩ ⟨by decide, by decide⟩ dX12_fails_13 (fun x14 e13 h12 => ?_)
    have e13 : x14.toInt = 1 + x11.toInt := e13
    refine lv_iload_n hx hb dX12_fails_14 rfl (lv_at hl 1 rfl) ?_
    refine tw_iadd (lo := 1) (hi := 3205) hx hb h12 h_a1 ⟨by decide, by decide⟩ ⟨by decide, by decide⟩ dX12_fails_15 (fun x17 e16 h15 => ?_)
    refine tw_puti hx hb hW hown hK hS f_X12_124_11 hz_a0 hk_a0 rfl rfl (lo := (-2147483648)) (hi := 2147483647) rfl (iv_mono h15 (by decide) (by decide)) rfl dX12_fails_16 (fun H locs M20 hS k18 f19 => ?_)
    refine lv_iconst (v := 0) hx hb dX12_fails_19 (by decide) ?_
    have q21 : ¬ x17.toInt = 0 := by
      have := (h_a1).1; have := (h_a1).2; have := (h_a2).1; have := (h_a2).2; have := (h9).1; have := (h9).2; have := (h12).1; have := (h12).2; have := (h15).1; have := (h15).2; omega
    exact tw_endz hx hb hr hlocks hK hT hS hQ rfl (⟨(iv_c (c := 0) (n := 0) (by decide)), (fun _ => (show ¬ (M20 a0 14).toInt = 0 from by rw [k18]; exact q21))⟩) dX12_fails_20
def Lt_X12_isDigit : WL := []
def LRt_X12_isDigit : WL := []
set_option maxRecDepth 100000 in
set_option maxHeartbeats 4000000 in
theorem t_X12_isDigit (l : Launch) (D : va_G) (cy : Nat → ClassId) (tx : (Nat → Nat) × (Nat → Nat)) (base Z : Nat) (K N : Nat → Nat) (Ma : MT) (Ra : RT) (Ja : JT) (hTy : Ty Z K N Ma Ra) (a0 : Nat) (hz_a0 : a0 < Z) (hk_a0 : K a0 = 12) (a1 : Int32) (h_a1 : iv 0 400 a1) (tb : Nat) (k_tb : Ra a0 0 = some tb) (tp : Int32) (k_tp : Ma a0 1 = tp) (h_tp : iv 0 400 tp) : Met l yX12_isDigit [Cond.code yX12_isDigit cX12_isDigit 2 (some .boolean)] (md_rm 1 0 0) (va_Pc [.ref (base + a0), .int a1] (md_U D cy tx base Z K N Ma Ra Ja)) (mQi D cy tx base (fun r u => TP Z K N Lt_X12_isDigit LRt_X12_isDigit Ma Ra u ∧ (iv 0 1 r ∧ ((¬ r = 0 → chF 48 57 Ma tb a1 tp) ∧ (r = 0 → ¬ chF 48 57 Ma tb a1 tp))))) 0 0 (fun q => base ≤ q) := by
  refine tw_ofW (L := Lt_X12_isDigit) (LR := LRt_X12_isDigit) (by decide) (Nat.le_of_ble_eq_true rfl) hTy ?_
  intro p e s m args below meth c Q ls hx hb hr hlocks hown hml hW hK hT hS hQ hl
  have hl : lv_has ls 2 [(0, .ref (base + a0)), (1, .int a1)] := hl
  obtain ⟨hz_tb, hk_tb, hn_tb⟩ := hTy.refn hz_a0 hk_a0 (show rtR 12 0 = (13, 400, 0) from rfl) k_tb
  have hn_tb := hn_tb (by decide)
  refine lv_iload_n hx hb dX12_isDigit_0 rfl (lv_at hl 1 rfl) ?_
  refine lv_aload_n hx hb dX12_isDigit_1 rfl (lv_at hl 0 rfl) ?_
  refine tw_getk hx hb hW hown hK hS f_X12_116_11 hz_a0 hk_a0 (v := tp) k_tp dX12_isDigit_2 ?_
  refine lv_icmp_ge (tgt := 34) hx hb dX12_isDigit_5 (by decide) (fun c1 => ?_) (fun c1 => ?_)
  · have q2 : tp.toInt ≤ a1.toInt := ti_le c1
    refine lv_iconst (v := 0) hx hb dX12_isDigit_34 (by decide) ?_
    exact tw_endz hx hb hr hlocks hK hT hS hQ rfl (⟨(iv_mono (iv_c (c := 0) (n := 0) (by decide)) (by decide) (by decide)), ⟨fun h => absurd rfl h, fun _ h => by obtain ⟨h1, h2, h3⟩ := h; omega⟩⟩) dX12_isDigit_35
  · have q3 : a1.toInt < tp.toInt := ti_nle c1
    have h4 : iv 0 399 a1 := iv_ltL (y := tp) h_a1 h_tp q3 (by decide)
    have h5 : iv 1 400 tp := iv_gtL (y := a1) h_tp h_a1 q3 (by decide)
    refine lv_aload_n hx hb dX12_isDigit_8 rfl (lv_at hl 0 rfl) ?_
    refine tw_getrk hx hb hW hown hK hS f_X12_7_11 hz_a0 hk_a0 (b := tb) k_tb dX12_isDigit_9 ?_
    refine lv_iload_n hx hb dX12_isDigit_12 rfl (lv_at hl 1 rfl) ?_
    refine tw_bald hx hb hK hS hz_tb hk_tb hn_tb h4 ⟨by decide, by decide⟩ dX12_isDigit_13 (fun x8 k7 => ?_)
    have h6 := iv_any x8
    refine lv_bipush (v := 48) hx hb dX12_isDigit_14 (by decide) ?_
    refine lv_icmp_lt (tgt := 34) hx hb dX12_isDigit_16 (by decide) (fun c9 => ?_) (fun c9 => ?_)
    · have q10 : x8.toInt < 48 := ti_lt c9
      have h11 : iv (-2147483648) 47 x8 := iv_ltL (y := 48) h6 (iv_c (c := 48) (n := 48) (by decide)) q10 (by decide)
      refine lv_iconst (v := 0) hx hb dX12_isDigit_34 (by decide) ?_
      exact tw_endz hx hb hr hlocks hK hT hS hQ rfl (⟨(iv_mono (iv_c (c := 0) (n := 0) (by decide)) (by decide) (by decide)), ⟨fun h => absurd rfl h, fun _ h => by obtain ⟨h1, h2, h3⟩ := h; rw [k7] at h2 h3; omega⟩⟩) dX12_isDigit_35
    · have q12 : 48 ≤ x8.toInt := ti_nlt c9
      have h13 : iv 48 2147483647 x8 := iv_geL (y := 48) h6 (iv_c (c := 48) (n := 48) (by decide)) q12 (by decide)
      refine lv_aload_n hx hb dX12_isDigit_19 rfl (lv_at hl 0 rfl) ?_
      refine tw_getrk hx hb hW hown hK hS f_X12_7_11 hz_a0 hk_a0 (b := tb) k_tb dX12_isDigit_20 ?_
      refine lv_iload_n hx hb dX12_isDigit_23 rfl (lv_at hl 1 rfl) ?_
      refine tw_balk hx hb hK hS hz_tb hk_tb hn_tb h4 ⟨by decide, by decide⟩ (v := x8) k7 dX12_isDigit_24 ?_
      refine lv_bipush (v := 57) hx hb dX12_isDigit_25 (by decide) ?_
      refine lv_icmp_gt (tgt := 34) hx hb dX12_isDigit_27 (by decide) (fun c14 => ?_) (fun c14 => ?_)
      · have q15 : 57 < x8.toInt := ti_lt c14
        have h16 : iv 58 2147483647 x8 := iv_gtL (y := 57) h13 (iv_c (c := 57) (n := 57) (by decide)) q15 (by decide)
        refine lv_iconst (v := 0) hx hb dX12_isDigit_34 (by decide) ?_
        exact tw_endz hx hb hr hlocks hK hT hS hQ rfl (⟨(iv_mono (iv_c (c := 0) (n := 0) (by decide)) (by decide) (by decide)), ⟨fun h => absurd rfl h, fun _ h => by obtain ⟨h1, h2, h3⟩ := h; rw [k7] at h2 h3; omega⟩⟩) dX12_isDigit_35
      · have q17 : x8.toInt ≤ 57 := ti_nlt c14
        have h18 : iv 48 57 x8 := iv_leL (y := 57) h13 (iv_c (c := 57) (n := 57) (by decide)) q17 (by decide)
        refine lv_iconst (v := 1) hx hb dX12_isDigit_30 (by decide) ?_
        refine lv_goto (tgt := 35) hx hb dX12_isDigit_31 (by decide) ?_
        exact tw_endz hx hb hr hlocks hK hT hS hQ rfl (⟨(iv_mono (iv_c (c := 1) (n := 1) (by decide)) (by decide) (by decide)), ⟨fun _ => ⟨by omega, by rw [k7]; omega, by rw [k7]; omega⟩, fun h => absurd h (by decide)⟩⟩) dX12_isDigit_35
def Lt_X12_see : WL := [(12, 13, 14)]
def LRt_X12_see : WL := []
set_option maxRecDepth 100000 in
set_option maxHeartbeats 4000000 in
theorem t_X12_see (l : Launch) (D : va_G) (cy : Nat → ClassId) (tx : (Nat → Nat) × (Nat → Nat)) (base Z : Nat) (K N : Nat → Nat) (Ma : MT) (Ra : RT) (Ja : JT) (hTy : Ty Z K N Ma Ra) (a0 : Nat) (hz_a0 : a0 < Z) (hk_a0 : K a0 = 12) (tb : Nat) (k_tb : Ra a0 0 = some tb) (nx : Int32) (k_nx : Ma a0 13 = nx) (h_nx : iv 0 400 nx) (tp : Int32) (k_tp : Ma a0 1 = tp) (h_tp : iv 0 400 tp) (hnt : nx.toInt ≤ tp.toInt) : Met l yX12_see [Cond.code yX12_see cX12_see 1 (some .int)] (md_rm 1 0 0) (va_Pc [.ref (base + a0)] (md_U D cy tx base Z K N Ma Ra Ja)) (mQi D cy tx base (fun r u => TP Z K N Lt_X12_see LRt_X12_see Ma Ra u ∧ (iv (-1) 255 r ∧ (∃ x0 : Int32, u.2.2.2.1 a0 13 = x0 ∧ iv 0 400 x0 ∧ (nx.toInt ≤ x0.toInt ∧ x0.toInt ≤ tp.toInt ∧ (r.toInt = -1 ∨ x0.toInt < tp.toInt)) ∧ (∀ lo hi : Int, 33 ≤ lo → chF lo hi Ma tb nx tp → x0.toInt = nx.toInt))))) 0 0 (fun q => base ≤ q) := by
  refine tw_ofW (L := Lt_X12_see) (LR := LRt_X12_see) (by decide) (Nat.le_of_ble_eq_true rfl) hTy ?_
  intro p e s m args below meth c Q ls hx hb hr hlocks hown hml hW hK hT hS hQ hl
  have hl : lv_has ls 1 [(0, .ref (base + a0))] := hl
  obtain ⟨hz_tb, hk_tb, hn_tb⟩ := hTy.refn hz_a0 hk_a0 (show rtR 12 0 = (13, 400, 0) from rfl) k_tb
  have hn_tb := hn_tb (by decide)
  have W0_1 : ∀ (n_1 : Nat) (x6 : Int32) (M1 : MT) (R2 : RT) (J3 : JT) (H : Heap) (locs : List Loc) (ls : Array Slot) (h_x6 : iv 0 400 x6) (k7 : M1 a0 13 = x6) (w0_1 : nx.toInt ≤ x6.toInt ∧ x6.toInt ≤ tp.toInt) (w1_1 : (∀ lo hi : Int, 33 ≤ lo → chF lo hi Ma tb nx tp → x6.toInt = nx.toInt)) (hm_1 : 400 - x6.toInt < (n_1 : Int)) (hS : SB D cy base Z K N Lt_X12_see LRt_X12_see Ma Ra M1 R2 J3 s H locs) (hl : lv_has ls 1 [(0, .ref (base + a0))]), W p l e (md_rm 1 0 0) s m args below meth c H locs 0 0 Q (F0 m 0 ls []) := by
    intro n_1
    induction n_1 with
    | zero =>
      intro x6 M1 R2 J3 H locs ls h_x6 k7 w0_1 w1_1 hm_1 hS hl
      exfalso
      have := (h_nx).1; have := (h_nx).2; have := (h_tp).1; have := (h_tp).2; have := (h_x6).1; have := (h_x6).2; omega
    | succ n_1 ih_1 =>
      intro x6 M1 R2 J3 H locs ls h_x6 k7 w0_1 w1_1 hm_1 hS hl
      have f4 := hS.2.2.1
      have g5 := hS.2.2.2
      refine lv_aload_n hx hb dX12_see_0 rfl (lv_at hl 0 rfl) ?_
      refine tw_getk hx hb hW hown hK hS f_X12_127_11 hz_a0 hk_a0 (v := x6) k7 dX12_see_1 ?_
      refine lv_aload_n hx hb dX12_see_4 rfl (lv_at hl 0 rfl) ?_
      have k8 : M1 a0 1 = tp := (Fr.kp (k := 1) f4 hk_a0 rfl).trans k_tp
      refine tw_getk hx hb hW hown hK hS f_X12_116_11 hz_a0 hk_a0 (v := tp) k8 dX12_see_5 ?_
      refine lv_icmp_ge (tgt := 38) hx hb dX12_see_8 (by decide) (fun c9 => ?_) (fun c9 => ?_)
      · have q10 : tp.toInt ≤ x6.toInt := ti_le c9
        refine lv_aload_n hx hb dX12_see_38 rfl (lv_at hl 0 rfl) ?_
        refine tw_getk hx hb hW hown hK hS f_X12_127_11 hz_a0 hk_a0 (v := x6) k7 dX12_see_39 ?_
        refine lv_aload_n hx hb dX12_see_42 rfl (lv_at hl 0 rfl) ?_
        have k11 : M1 a0 1 = tp := (Fr.kp (k := 1) f4 hk_a0 rfl).trans k_tp
        refine tw_getk hx hb hW hown hK hS f_X12_116_11 hz_a0 hk_a0 (v := tp) k11 dX12_see_43 ?_
        refine lv_icmp_ge (tgt := 65) hx hb dX12_see_46 (by decide) (fun c12 => ?_) (fun c12 => ?_)
        · have q13 : tp.toInt ≤ x6.toInt := ti_le c12
          refine lv_iconst (v := (-1)) hx hb dX12_see_65 (by decide) ?_
          have q14 : nx.toInt ≤ x6.toInt ∧ x6.toInt ≤ tp.toInt ∧ ((-1 : Int32).toInt = -1 ∨ x6.toInt < tp.toInt) := by
            have := (h_nx).1; have := (h_nx).2; have := (h_tp).1; have := (h_tp).2; have := (h_x6).1; have := (h_x6).2; have : (-1 : Int32).toInt = -1 := (by decide); omega
          exact tw_endi hx hb hr hlocks hK hT hS hQ (⟨(iv_mono (iv_c (c := (-1)) (n := (-1)) (by decide)) (by decide) (by decide)), ⟨x6, k7, h_x6, q14, w1_1⟩⟩) dX12_see_66
        · have q15 : x6.toInt < tp.toInt := ti_nle c12
          have h16 : iv 0 399 x6 := iv_ltL (y := tp) h_x6 h_tp q15 (by decide)
          have h17 : iv 1 400 tp := iv_gtL (y := x6) h_tp h_x6 q15 (by decide)
          refine lv_aload_n hx hb dX12_see_49 rfl (lv_at hl 0 rfl) ?_
          have k18 : R2 a0 0 = some tb := (Fr.kp (k := 0) g5 hk_a0 rfl).trans k_tb
          refine tw_getrk hx hb hW hown hK hS f_X12_7_11 hz_a0 hk_a0 (b := tb) k18 dX12_see_50 ?_
          refine lv_aload_n hx hb dX12_see_53 rfl (lv_at hl 0 rfl) ?_
          refine tw_getk hx hb hW hown hK hS f_X12_127_11 hz_a0 hk_a0 (v := x6) k7 dX12_see_54 ?_
          refine tw_bald hx hb hK hS hz_tb hk_tb hn_tb h16 ⟨by decide, by decide⟩ dX12_see_57 (fun x21 k20 => ?_)
          have h19 := iv_any x21
          refine lv_sipush (v := 255) hx hb dX12_see_58 (by decide) ?_
          refine tw_iand (hi := 255) hx hb (iv_mono (iv_c (c := 255) (n := 255) (by decide)) (lo := 0) (hi := 255) (by decide) (by decide)) (by decide) dX12_see_61 (fun x24 h22 => ?_)
          refine lv_goto (tgt := 66) hx hb dX12_see_62 (by decide) ?_
          have q25 : nx.toInt ≤ x6.toInt ∧ x6.toInt ≤ tp.toInt ∧ (x24.toInt = -1 ∨ x6.toInt < tp.toInt) := by
            have := (h_nx).1; have := (h_nx).2; have := (h17).1; have := (h17).2; have := (h19).1; have := (h19).2; have := (h22).1; have := (h22).2; have := (h16).1; have := (h16).2; omega
          exact tw_endi hx hb hr hlocks hK hT hS hQ (⟨(iv_mono h22 (by decide) (by decide)), ⟨x6, k7, (iv_mono h16 (by decide) (by decide)), q25, w1_1⟩⟩) dX12_see_66
      · have q26 : x6.toInt < tp.toInt := ti_nle c9
        have h27 : iv 0 399 x6 := iv_ltL (y := tp) h_x6 h_tp q26 (by decide)
        have h28 : iv 1 400 tp := iv_gtL (y := x6) h_tp h_x6 q26 (by decide)
        refine lv_aload_n hx hb dX12_see_11 rfl (lv_at hl 0 rfl) ?_
        have k29 : R2 a0 0 = some tb := (Fr.kp (k := 0) g5 hk_a0 rfl).trans k_tb
        refine tw_getrk hx hb hW hown hK hS f_X12_7_11 hz_a0 hk_a0 (b := tb) k29 dX12_see_12 ?_
        refine lv_aload_n hx hb dX12_see_15 rfl (lv_at hl 0 rfl) ?_
        refine tw_getk hx hb hW hown hK hS f_X12_127_11 hz_a0 hk_a0 (v := x6) k7 dX12_see_16 ?_
        refine tw_bald hx hb hK hS hz_tb hk_tb hn_tb h27 ⟨by decide, by decide⟩ dX12_see_19 (fun x32 k31 => ?_)
        have h30 := iv_any x32
        refine lv_bipush (v := 32) hx hb dX12_see_20 (by decide) ?_
        refine lv_icmp_ne (tgt := 38) hx hb dX12_see_22 (by decide) (fun c33 => ?_) (fun c33 => ?_)
        · have q34 : ¬ x32.toInt = 32 := ti_ne c33
          refine lv_aload_n hx hb dX12_see_38 rfl (lv_at hl 0 rfl) ?_
          refine tw_getk hx hb hW hown hK hS f_X12_127_11 hz_a0 hk_a0 (v := x6) k7 dX12_see_39 ?_
          refine lv_aload_n hx hb dX12_see_42 rfl (lv_at hl 0 rfl) ?_
          have k35 : M1 a0 1 = tp := (Fr.kp (k := 1) f4 hk_a0 rfl).trans k_tp
          refine tw_getk hx hb hW hown hK hS f_X12_116_11 hz_a0 hk_a0 (v := tp) k35 dX12_see_43 ?_
          refine lv_icmp_ge (tgt := 65) hx hb dX12_see_46 (by decide) (fun c36 => ?_) (fun c36 => ?_)
          · have q37 : tp.toInt ≤ x6.toInt := ti_le c36
            have h38 : iv 1 399 x6 := iv_geL (y := tp) h27 h28 q37 (by decide)
            have h39 : iv 1 399 tp := iv_leL (y := x6) h28 h27 q37 (by decide)
            refine lv_iconst (v := (-1)) hx hb dX12_see_65 (by decide) ?_
            have q40 : nx.toInt ≤ x6.toInt ∧ x6.toInt ≤ tp.toInt ∧ ((-1 : Int32).toInt = -1 ∨ x6.toInt < tp.toInt) := by
              have := (h_nx).1; have := (h_nx).2; have := (h39).1; have := (h39).2; have := (h38).1; have := (h38).2; have : (-1 : Int32).toInt = -1 := (by decide); omega
            exact tw_endi hx hb hr hlocks hK hT hS hQ (⟨(iv_mono (iv_c (c := (-1)) (n := (-1)) (by decide)) (by decide) (by decide)), ⟨x6, k7, (iv_mono h38 (by decide) (by decide)), q40, w1_1⟩⟩) dX12_see_66
          · have q41 : x6.toInt < tp.toInt := ti_nle c36
            refine lv_aload_n hx hb dX12_see_49 rfl (lv_at hl 0 rfl) ?_
            have k42 : R2 a0 0 = some tb := (Fr.kp (k := 0) g5 hk_a0 rfl).trans k_tb
            refine tw_getrk hx hb hW hown hK hS f_X12_7_11 hz_a0 hk_a0 (b := tb) k42 dX12_see_50 ?_
            refine lv_aload_n hx hb dX12_see_53 rfl (lv_at hl 0 rfl) ?_
            refine tw_getk hx hb hW hown hK hS f_X12_127_11 hz_a0 hk_a0 (v := x6) k7 dX12_see_54 ?_
            refine tw_balk hx hb hK hS hz_tb hk_tb hn_tb h27 ⟨by decide, by decide⟩ (v := x32) k31 dX12_see_57 ?_
            refine lv_sipush (v := 255) hx hb dX12_see_58 (by decide) ?_
            refine tw_iand (hi := 255) hx hb (iv_mono (iv_c (c := 255) (n := 255) (by decide)) (lo := 0) (hi := 255) (by decide) (by decide)) (by decide) dX12_see_61 (fun x45 h43 => ?_)
            refine lv_goto (tgt := 66) hx hb dX12_see_62 (by decide) ?_
            have q46 : nx.toInt ≤ x6.toInt ∧ x6.toInt ≤ tp.toInt ∧ (x45.toInt = -1 ∨ x6.toInt < tp.toInt) := by
              have := (h_nx).1; have := (h_nx).2; have := (h28).1; have := (h28).2; have := (h30).1; have := (h30).2; have := (h43).1; have := (h43).2; have := (h27).1; have := (h27).2; omega
            exact tw_endi hx hb hr hlocks hK hT hS hQ (⟨(iv_mono h43 (by decide) (by decide)), ⟨x6, k7, (iv_mono h27 (by decide) (by decide)), q46, w1_1⟩⟩) dX12_see_66
        · have q47 : x32.toInt = 32 := ti_eq c33
          have h48 : iv 32 32 x32 := ⟨by have := (h30).1; have := ((iv_c (c := 32) (n := 32) (by decide))).1; omega, by have := (h30).2; have := ((iv_c (c := 32) (n := 32) (by decide))).2; omega⟩
          refine lv_aload_n hx hb dX12_see_25 rfl (lv_at hl 0 rfl) ?_
          refine lv_dup hx hb dX12_see_26 rfl ?_
          refine tw_getk hx hb hW hown hK hS f_X12_127_11 hz_a0 hk_a0 (v := x6) k7 dX12_see_27 ?_
          refine lv_iconst (v := 1) hx hb dX12_see_30 (by decide) ?_
          refine tw_iadd (lo := 1) (hi := 400) hx hb h27 (iv_c (c := 1) (n := 1) (by decide)) ⟨by decide, by decide⟩ ⟨by decide, by decide⟩ dX12_see_31 (fun x51 e50 h49 => ?_)
          have e50 : x51.toInt = x6.toInt + 1 := e50
          refine tw_puti hx hb hW hown hK hS f_X12_127_11 hz_a0 hk_a0 rfl rfl (lo := 0) (hi := 400) rfl (iv_mono h49 (by decide) (by decide)) rfl dX12_see_32 (fun H locs M54 hS k52 f53 => ?_)
          refine lv_goto (tgt := 0) hx hb dX12_see_35 (by decide) ?_
          have w55 : nx.toInt ≤ x51.toInt ∧ x51.toInt ≤ tp.toInt := by
            have := (h_nx).1; have := (h_nx).2; have := (h28).1; have := (h28).2; have := (h49).1; have := (h49).2; have := (h27).1; have := (h27).2; omega
          have w56 : (∀ lo hi : Int, 33 ≤ lo → chF lo hi Ma tb nx tp → x51.toInt = nx.toInt) := fun lo hi hl h => by exfalso; have e1 := Int32.toInt_inj.mp (w1_1 lo hi hl h); have e2 := h.2.1; rw [← e1, (Fr.kpa f4 hk_tb rfl _).symm.trans k31] at e2; omega
          have hm57 : 400 - x51.toInt < (n_1 : Int) := by
            have := (h_nx).1; have := (h_nx).2; have := (h28).1; have := (h28).2; have := (h49).1; have := (h49).2; have := (h27).1; have := (h27).2; omega
          exact ih_1 x51 M54 R2 J3 H locs _ (iv_mono h49 (by decide) (by decide)) k52 w55 w56 hm57 hS hl
  have w58 : nx.toInt ≤ nx.toInt ∧ nx.toInt ≤ tp.toInt := by
    have := (h_nx).1; have := (h_nx).2; have := (h_tp).1; have := (h_tp).2; omega
  have w59 : (∀ lo hi : Int, 33 ≤ lo → chF lo hi Ma tb nx tp → nx.toInt = nx.toInt) := fun _ _ _ _ => rfl
  have hm60 : 400 - nx.toInt < (((401 : Nat) : Int) : Int) := by
    have := (h_nx).1; have := (h_nx).2; have := (h_tp).1; have := (h_tp).2; omega
  exact W0_1 401 nx Ma Ra Ja s.heap [] _ h_nx k_nx w58 w59 hm60 hS hl
def Lt_X12_numberHere : WL := [(12, 13, 16)]
def LRt_X12_numberHere : WL := []
set_option maxRecDepth 100000 in
set_option maxHeartbeats 4000000 in
theorem t_X12_numberHere (l : Launch) (D : va_G) (cy : Nat → ClassId) (tx : (Nat → Nat) × (Nat → Nat)) (base Z : Nat) (K N : Nat → Nat) (Ma : MT) (Ra : RT) (Ja : JT) (hTy : Ty Z K N Ma Ra) (a0 : Nat) (hz_a0 : a0 < Z) (hk_a0 : K a0 = 12) (a1 : Int32) (h_a1 : iv 0 1 a1) (a2 : Int32) (h_a2 : iv (-1) 99999 a2) (tb : Nat) (k_tb : Ra a0 0 = some tb) (nx : Int32) (k_nx : Ma a0 13 = nx) (h_nx : iv 0 400 nx) (tp : Int32) (k_tp : Ma a0 1 = tp) (h_tp : iv 0 400 tp) (hnt : nx.toInt ≤ tp.toInt) (nm : Int32) (k_nm : Ma a0 15 = nm) (h_nm : iv (-2147483648) 2147483647 nm) : Met l yX12_numberHere [Cond.code yX12_numberHere cX12_numberHere 5 (some .boolean)] (md_rm 2 0 0) (va_Pc [.ref (base + a0), .int a1, .int a2] (md_U D cy tx base Z K N Ma Ra Ja)) (mQi D cy tx base (fun r u => TP Z K N Lt_X12_numberHere LRt_X12_numberHere Ma Ra u ∧ (iv 0 1 r ∧ (∃ x0 : Int32, u.2.2.2.1 a0 13 = x0 ∧ iv 0 400 x0 ∧ (nx.toInt ≤ x0.toInt ∧ x0.toInt ≤ tp.toInt ∧ (r.toInt = 0 ∨ nx.toInt < x0.toInt))) ∧ (∃ x0 : Int32, u.2.2.2.1 a0 15 = x0 ∧ iv (-2147483648) 2147483647 x0 ∧ (r.toInt = 0 ∨ (a1.toInt ≤ x0.toInt ∧ x0.toInt ≤ a2.toInt))) ∧ (r = 0 → ¬ (u.2.2.2.1 a0 14).toInt = 0)))) 0 0 (fun q => base ≤ q) := by
  refine tw_ofW (L := Lt_X12_numberHere) (LR := LRt_X12_numberHere) (by decide) (Nat.le_of_ble_eq_true rfl) hTy ?_
  intro p e s m args below meth c Q ls hx hb hr hlocks hown hml hW hK hT hS hQ hl
  have hl : lv_has ls 5 [(0, .ref (base + a0)), (1, .int a1), (2, .int a2)] := hl
  obtain ⟨hz_tb, hk_tb, hn_tb⟩ := hTy.refn hz_a0 hk_a0 (show rtR 12 0 = (13, 400, 0) from rfl) k_tb
  have hn_tb := hn_tb (by decide)
  refine lv_aload_n hx hb dX12_numberHere_0 rfl (lv_at hl 0 rfl) ?_
  have q1 : nx.toInt ≤ tp.toInt := by
    have := (h_a1).1; have := (h_a1).2; have := (h_a2).1; have := (h_a2).2; have := (h_nm).1; have := (h_nm).2; have := (h_nx).1; have := (h_nx).2; have := (h_tp).1; have := (h_tp).2; omega
  refine tw_goi hS (md_runV (As := []) (rest := []) hx hb hml hown hW hK hT hS.1 (t_X12_see l D cy tx base Z K N Ma Ra Ja hS.2.1 a0 hz_a0 hk_a0 tb k_tb nx k_nx (iv_mono h_nx (by decide) (by decide)) tp k_tp (iv_mono h_tp (by decide) (by decide)) q1) s_X12_130 ⟨rfl, rfl, ⟨Nat.le_of_ble_eq_true rfl, Nat.le_of_ble_eq_true rfl⟩, ⟨Nat.le_of_ble_eq_true rfl, Nat.le_of_ble_eq_true rfl⟩⟩ hz_a0 hk_a0 (by decide) rfl rfl hl.1 rfl (Nat.le_of_ble_eq_true rfl) dX12_numberHere_1) rfl rfl (fun x8 H locs M5 R6 J4 hS f2 g3 E7 => ?_)
  have eR6 := Fr.nil g3 rfl
  subst eR6
  obtain ⟨h_x8, p9⟩ := E7
  obtain ⟨x12, k10, h11, q13, z14⟩ := p9
  have k10 : M5 a0 13 = x12 := k10
  refine lv_pop hx hb dX12_numberHere_4 rfl ?_
  refine lv_aload_n hx hb dX12_numberHere_5 rfl (lv_at hl 0 rfl) ?_
  refine lv_aload_n hx hb dX12_numberHere_6 rfl (lv_at hl 0 rfl) ?_
  refine tw_getk hx hb hW hown hK hS f_X12_127_11 hz_a0 hk_a0 (v := x12) k10 dX12_numberHere_7 ?_
  have k16 : M5 a0 1 = tp := (Fr.kp (k := 1) f2 hk_a0 rfl).trans k_tp
  refine tw_goi hS (md_runV (As := [.int x12]) (rest := []) hx hb hml hown hW hK hT hS.1 (t_X12_isDigit l D cy tx base Z K N M5 Ra J4 hS.2.1 a0 hz_a0 hk_a0 x12 h11 tb k_tb tp k16 (iv_mono h_tp (by decide) (by decide))) s_X12_145 ⟨rfl, rfl, ⟨Nat.le_of_ble_eq_true rfl, Nat.le_of_ble_eq_true rfl⟩, ⟨Nat.le_of_ble_eq_true rfl, Nat.le_of_ble_eq_true rfl⟩⟩ hz_a0 hk_a0 (by decide) rfl rfl hl.1 rfl (Nat.le_of_ble_eq_true rfl) dX12_numberHere_10) rfl rfl (fun x23 H locs M20 R21 J19 hS f17 g18 E22 => ?_)
  have eM20 := Fr.nil f17 rfl
  subst eM20
  have eR21 := Fr.nil g18 rfl
  subst eR21
  obtain ⟨h_x23, p24⟩ := E22
  have z25 : ¬ x23 = 0 → chF 48 57 Ma tb x12 tp := fun h => chF.rf (p24.1 h) hS.2.2.1 hk_tb rfl
  have z26 : x23 = 0 → ¬ chF 48 57 Ma tb x12 tp := fun h q => p24.2 h (chF.fr q hS.2.2.1 hk_tb rfl)
  refine lv_if_ne (tgt := 26) hx hb dX12_numberHere_13 (by decide) (fun c27 => ?_) (fun c27 => ?_)
  · have q28 : ¬ x23.toInt = 0 := ti_ne c27
    have h29 : iv 1 1 x23 := ⟨by have := (h_x23).1; have := ((iv_c (c := 0) (n := 0) (by decide))).1; have := ((iv_c (c := 0) (n := 0) (by decide))).2; omega, by have := (h_x23).2; have := ((iv_c (c := 0) (n := 0) (by decide))).1; have := ((iv_c (c := 0) (n := 0) (by decide))).2; omega⟩
    have z30 := z25 c27
    have q31 := z30.1
    have h32 : iv 0 399 x12 := iv_ltL (y := tp) h11 h_tp q31 (by decide)
    refine lv_aload_n hx hb dX12_numberHere_26 rfl (lv_at hl 0 rfl) ?_
    refine tw_getk hx hb hW hown hK hS f_X12_127_11 hz_a0 hk_a0 (v := x12) k10 dX12_numberHere_27 ?_
    refine lv_istore_n (lv' := [(3, .int x12), (0, .ref (base + a0)), (1, .int a1), (2, .int a2)]) hx hb dX12_numberHere_30 rfl hl (by decide) rfl (fun ls hl => ?_)
    refine lv_iconst (v := 0) hx hb dX12_numberHere_31 (by decide) ?_
    refine lv_istore (lv' := [(4, .int 0), (3, .int x12), (0, .ref (base + a0)), (1, .int a1), (2, .int a2)]) hx hb dX12_numberHere_32 hl (by decide) rfl (fun ls hl => ?_)
    have W34_34 : ∀ (n_34 : Nat) (x33 : Int32) (x39 : Int32) (M34 : MT) (R35 : RT) (J36 : JT) (H : Heap) (locs : List Loc) (ls : Array Slot) (h_x33 : iv (-2147483648) 2147483647 x33) (h_x39 : iv 0 400 x39) (k40 : M34 a0 13 = x39) (w0_34 : x12.toInt ≤ x39.toInt ∧ x39.toInt ≤ tp.toInt) (hm_34 : 400 - x39.toInt < (n_34 : Int)) (hS : SB D cy base Z K N Lt_X12_numberHere LRt_X12_numberHere Ma Ra M34 R35 J36 s H locs) (hl : lv_has ls 5 [(4, .int x33), (3, .int x12), (0, .ref (base + a0)), (1, .int a1), (2, .int a2)]), W p l e (md_rm 2 0 0) s m args below meth c H locs 0 0 Q (F0 m 34 ls []) := by
      intro n_34
      induction n_34 with
      | zero =>
        intro x33 x39 M34 R35 J36 H locs ls h_x33 h_x39 k40 w0_34 hm_34 hS hl
        exfalso
        have := (h_a1).1; have := (h_a1).2; have := (h_a2).1; have := (h_a2).2; have := (h_nm).1; have := (h_nm).2; have := (h_nx).1; have := (h_nx).2; have := (h_tp).1; have := (h_tp).2; have := (h32).1; have := (h32).2; have := (h_x39).1; have := (h_x39).2; have := (h_x8).1; have := (h_x8).2; omega
      | succ n_34 ih_34 =>
        intro x33 x39 M34 R35 J36 H locs ls h_x33 h_x39 k40 w0_34 hm_34 hS hl
        have f37 := hS.2.2.1
        have g38 := hS.2.2.2
        refine lv_aload_n hx hb dX12_numberHere_34 rfl (lv_at hl 2 rfl) ?_
        refine lv_aload_n hx hb dX12_numberHere_35 rfl (lv_at hl 2 rfl) ?_
        refine tw_getk hx hb hW hown hK hS f_X12_127_11 hz_a0 hk_a0 (v := x39) k40 dX12_numberHere_36 ?_
        have k41 : R35 a0 0 = some tb := (Fr.kp (k := 0) g38 hk_a0 rfl).trans k_tb
        have k42 : M34 a0 1 = tp := (Fr.kp (k := 1) f37 hk_a0 rfl).trans k_tp
        refine tw_goi hS (md_runV (As := [.int x39]) (rest := []) hx hb hml hown hW hK hT hS.1 (t_X12_isDigit l D cy tx base Z K N M34 R35 J36 hS.2.1 a0 hz_a0 hk_a0 x39 h_x39 tb k41 tp k42 (iv_mono h_tp (by decide) (by decide))) s_X12_145 ⟨rfl, rfl, ⟨Nat.le_of_ble_eq_true rfl, Nat.le_of_ble_eq_true rfl⟩, ⟨Nat.le_of_ble_eq_true rfl, Nat.le_of_ble_eq_true rfl⟩⟩ hz_a0 hk_a0 (by decide) rfl rfl hl.1 rfl (Nat.le_of_ble_eq_true rfl) dX12_numberHere_39) rfl rfl (fun x49 H locs M46 R47 J45 hS f43 g44 E48 => ?_)
        have eM46 := Fr.nil f43 rfl
        subst eM46
        have eR47 := Fr.nil g44 rfl
        subst eR47
        obtain ⟨h_x49, p50⟩ := E48
        have z51 : ¬ x49 = 0 → chF 48 57 Ma tb x39 tp := fun h => chF.rf (p50.1 h) hS.2.2.1 hk_tb rfl
        have z52 : x49 = 0 → ¬ chF 48 57 Ma tb x39 tp := fun h q => p50.2 h (chF.fr q hS.2.2.1 hk_tb rfl)
        refine lv_if_eq (tgt := 88) hx hb dX12_numberHere_42 (by decide) (fun c53 => ?_) (fun c53 => ?_)
        · have q54 : x49.toInt = 0 := ti_eq c53
          have z55 := z52 c53
          have h56 : iv 0 0 x49 := ⟨by have := (h_x49).1; have := ((iv_c (c := 0) (n := 0) (by decide))).1; omega, by have := (h_x49).2; have := ((iv_c (c := 0) (n := 0) (by decide))).2; omega⟩
          have q57 : ¬ x39.toInt = x12.toInt := fun e => z55 (z30.at e)
          refine lv_aload_n hx hb dX12_numberHere_88 rfl (lv_at hl 2 rfl) ?_
          refine lv_iload hx hb dX12_numberHere_89 (lv_at hl 0 rfl) ?_
          refine tw_puti hx hb hW hown hK hS f_X12_152_11 hz_a0 hk_a0 rfl rfl (lo := (-2147483648)) (hi := 2147483647) rfl h_x33 rfl dX12_numberHere_91 (fun H locs M60 hS k58 f59 => ?_)
          refine lv_aload_n hx hb dX12_numberHere_94 rfl (lv_at hl 2 rfl) ?_
          have k61 : M60 a0 13 = x39 := (Fr.kp (k := 13) f59 hk_a0 rfl).trans k40
          refine tw_getk hx hb hW hown hK hS f_X12_127_11 hz_a0 hk_a0 (v := x39) k61 dX12_numberHere_95 ?_
          refine lv_iload_n hx hb dX12_numberHere_98 rfl (lv_at hl 1 rfl) ?_
          refine tw_isub (lo := (-399)) (hi := 400) hx hb h_x39 h32 ⟨by decide, by decide⟩ ⟨by decide, by decide⟩ dX12_numberHere_99 (fun x64 e63 h62 => ?_)
          refine lv_iconst (v := 5) hx hb dX12_numberHere_100 (by decide) ?_
          refine lv_icmp_gt (tgt := 117) hx hb dX12_numberHere_101 (by decide) (fun c65 => ?_) (fun c65 => ?_)
          · have q66 : 5 < x64.toInt := ti_lt c65
            have h67 : iv 6 400 x64 := iv_gtL (y := 5) h62 (iv_c (c := 5) (n := 5) (by decide)) q66 (by decide)
            refine lv_aload_n hx hb dX12_numberHere_117 rfl (lv_at hl 2 rfl) ?_
            refine lv_iconst (v := 1) hx hb dX12_numberHere_118 (by decide) ?_
            refine lv_iload_n hx hb dX12_numberHere_119 rfl (lv_at hl 1 rfl) ?_
            refine tw_goi hS (md_runV (As := [.int 1, .int x12]) (rest := []) hx hb hml hown hW hK hT hS.1 (t_X12_fails l D cy tx base Z K N M60 R35 J45 hS.2.1 a0 hz_a0 hk_a0 1 (iv_mono (iv_c (c := 1) (n := 1) (by decide)) (by decide) (by decide)) x12 (iv_mono h32 (by decide) (by decide))) s_X12_148 ⟨rfl, rfl, ⟨Nat.le_of_ble_eq_true rfl, Nat.le_of_ble_eq_true rfl⟩, ⟨Nat.le_of_ble_eq_true rfl, Nat.le_of_ble_eq_true rfl⟩⟩ hz_a0 hk_a0 (by decide) rfl rfl hl.1 rfl (Nat.le_of_ble_eq_true rfl) dX12_numberHere_120) rfl rfl (fun x74 H locs M71 R72 J70 hS f68 g69 E73 => ?_)
            have eR72 := Fr.nil g69 rfl
            subst eR72
            obtain ⟨h_x74, p75⟩ := E73
            have z76 : x74 = 0 → ¬ (M71 a0 14).toInt = 0 := p75
            have z77 := z76 (iv0 h_x74)
            refine lv_if_eq (tgt := 130) hx hb dX12_numberHere_123 (by decide) (fun c78 => ?_) (fun c78 => False.elim (by have q : ¬ x74.toInt = 0 := ti_ne c78; have := (h_x74).1; have := (h_x74).2; omega))
            have q79 : x74.toInt = 0 := ti_eq c78
            have z80 := z76 c78
            refine lv_iconst (v := 0) hx hb dX12_numberHere_130 (by decide) ?_
            have k81 : M71 a0 13 = x39 := (Fr.kp (k := 13) f68 hk_a0 rfl).trans k61
            have q82 : nx.toInt ≤ x39.toInt ∧ x39.toInt ≤ tp.toInt ∧ ((0 : Int32).toInt = 0 ∨ nx.toInt < x39.toInt) := by
              have := (h_a1).1; have := (h_a1).2; have := (h_a2).1; have := (h_a2).2; have := (h_nm).1; have := (h_nm).2; have := (h_nx).1; have := (h_nx).2; have := (h_tp).1; have := (h_tp).2; have := (h32).1; have := (h32).2; have := (h_x39).1; have := (h_x39).2; have := (h67).1; have := (h67).2; have := (h_x8).1; have := (h_x8).2; have : (0 : Int32).toInt = 0 := (by decide); omega
            have k83 : M71 a0 15 = x33 := (Fr.kp (k := 15) f68 hk_a0 rfl).trans k58
            have q84 : (0 : Int32).toInt = 0 ∨ (a1.toInt ≤ x33.toInt ∧ x33.toInt ≤ a2.toInt) := by
              have := (h_a1).1; have := (h_a1).2; have := (h_a2).1; have := (h_a2).2; have := (h_nm).1; have := (h_nm).2; have := (h_nx).1; have := (h_nx).2; have := (h_tp).1; have := (h_tp).2; have := (h_x33).1; have := (h_x33).2; have : (0 : Int32).toInt = 0 := (by decide); omega
            exact tw_endz hx hb hr hlocks hK hT hS hQ rfl (⟨(iv_mono (iv_c (c := 0) (n := 0) (by decide)) (by decide) (by decide)), ⟨x39, k81, h_x39, q82⟩, ⟨x33, k83, h_x33, q84⟩, (fun _ => (show ¬ (M71 a0 14).toInt = 0 from z80))⟩) dX12_numberHere_131
          · have q85 : x64.toInt ≤ 5 := ti_nlt c65
            have h86 : iv (-399) 5 x64 := iv_leL (y := 5) h62 (iv_c (c := 5) (n := 5) (by decide)) q85 (by decide)
            refine lv_iload hx hb dX12_numberHere_104 (lv_at hl 0 rfl) ?_
            refine lv_i2l hx hb dX12_numberHere_106 rfl ?_
            refine lv_iload_n hx hb dX12_numberHere_107 rfl (lv_at hl 3 rfl) ?_
            refine lv_i2l hx hb dX12_numberHere_108 rfl ?_
            refine lv_iload_n hx hb dX12_numberHere_109 rfl (lv_at hl 4 rfl) ?_
            refine lv_i2l hx hb dX12_numberHere_110 rfl ?_
            refine tw_goi hS (md_runS (As := [.long x33.toInt64, .long a1.toInt64, .long a2.toInt64]) (rest := []) hx hb hml hown hW hK hT hS.1 (t_X12_in l D cy tx base Z K N M60 R35 J45 hS.2.1 (x33.toInt64) (a1.toInt64) (a2.toInt64)) s_X12_155 ⟨rfl, rfl, ⟨Nat.le_of_ble_eq_true rfl, Nat.le_of_ble_eq_true rfl⟩, ⟨Nat.le_of_ble_eq_true rfl, Nat.le_of_ble_eq_true rfl⟩⟩ rfl hl.1 rfl (Nat.le_of_ble_eq_true rfl) dX12_numberHere_111) rfl rfl (fun x93 H locs M90 R91 J89 hS f87 g88 E92 => ?_)
            have eM90 := Fr.nil f87 rfl
            subst eM90
            have eR91 := Fr.nil g88 rfl
            subst eR91
            obtain ⟨h_x93, p94⟩ := E92
            refine lv_if_ne (tgt := 126) hx hb dX12_numberHere_114 (by decide) (fun c95 => ?_) (fun c95 => ?_)
            · have q96 : ¬ x93.toInt = 0 := ti_ne c95
              have h97 : iv 1 1 x93 := ⟨by have := (h_x93).1; have := ((iv_c (c := 0) (n := 0) (by decide))).1; have := ((iv_c (c := 0) (n := 0) (by decide))).2; omega, by have := (h_x93).2; have := ((iv_c (c := 0) (n := 0) (by decide))).1; have := ((iv_c (c := 0) (n := 0) (by decide))).2; omega⟩
              have h98 : iv 0 99999 x33 := in2iv (p94 c95) ((jv_o h_a1)).1 ((jv_o h_a2)).2
              have q99 := (p94 c95).1
              rw [Int32.toInt_toInt64, Int32.toInt_toInt64] at q99
              have q100 := (p94 c95).2
              rw [Int32.toInt_toInt64, Int32.toInt_toInt64] at q100
              refine lv_iconst (v := 1) hx hb dX12_numberHere_126 (by decide) ?_
              refine lv_goto (tgt := 131) hx hb dX12_numberHere_127 (by decide) ?_
              have q101 : nx.toInt ≤ x39.toInt ∧ x39.toInt ≤ tp.toInt ∧ ((1 : Int32).toInt = 0 ∨ nx.toInt < x39.toInt) := by
                have := (h_a1).1; have := (h_a1).2; have := (h_a2).1; have := (h_a2).2; have := (h_nm).1; have := (h_nm).2; have := (h_nx).1; have := (h_nx).2; have := (h_tp).1; have := (h_tp).2; have := (h32).1; have := (h32).2; have := (h_x39).1; have := (h_x39).2; have := (h86).1; have := (h86).2; have := (h_x8).1; have := (h_x8).2; have : (1 : Int32).toInt = 1 := (by decide); omega
              have q102 : (1 : Int32).toInt = 0 ∨ (a1.toInt ≤ x33.toInt ∧ x33.toInt ≤ a2.toInt) := by
                have := (h_a1).1; have := (h_a1).2; have := (h_a2).1; have := (h_a2).2; have := (h_nm).1; have := (h_nm).2; have := (h_nx).1; have := (h_nx).2; have := (h_tp).1; have := (h_tp).2; have := (h98).1; have := (h98).2; have : (1 : Int32).toInt = 1 := (by decide); omega
              exact tw_endz hx hb hr hlocks hK hT hS hQ rfl (⟨(iv_mono (iv_c (c := 1) (n := 1) (by decide)) (by decide) (by decide)), ⟨x39, k61, h_x39, q101⟩, ⟨x33, k58, (iv_mono h98 (by decide) (by decide)), q102⟩, (fun h => absurd h (by decide))⟩) dX12_numberHere_131
            · have q103 : x93.toInt = 0 := ti_eq c95
              have h104 : iv 0 0 x93 := ⟨by have := (h_x93).1; have := ((iv_c (c := 0) (n := 0) (by decide))).1; omega, by have := (h_x93).2; have := ((iv_c (c := 0) (n := 0) (by decide))).2; omega⟩
              refine lv_aload_n hx hb dX12_numberHere_117 rfl (lv_at hl 2 rfl) ?_
              refine lv_iconst (v := 1) hx hb dX12_numberHere_118 (by decide) ?_
              refine lv_iload_n hx hb dX12_numberHere_119 rfl (lv_at hl 1 rfl) ?_
              refine tw_goi hS (md_runV (As := [.int 1, .int x12]) (rest := []) hx hb hml hown hW hK hT hS.1 (t_X12_fails l D cy tx base Z K N M60 R35 J89 hS.2.1 a0 hz_a0 hk_a0 1 (iv_mono (iv_c (c := 1) (n := 1) (by decide)) (by decide) (by decide)) x12 (iv_mono h32 (by decide) (by decide))) s_X12_148 ⟨rfl, rfl, ⟨Nat.le_of_ble_eq_true rfl, Nat.le_of_ble_eq_true rfl⟩, ⟨Nat.le_of_ble_eq_true rfl, Nat.le_of_ble_eq_true rfl⟩⟩ hz_a0 hk_a0 (by decide) rfl rfl hl.1 rfl (Nat.le_of_ble_eq_true rfl) dX12_numberHere_120) rfl rfl (fun x111 H locs M108 R109 J107 hS f105 g106 E110 => ?_)
              have eR109 := Fr.nil g106 rfl
              subst eR109
              obtain ⟨h_x111, p112⟩ := E110
              have z113 : x111 = 0 → ¬ (M108 a0 14).toInt = 0 := p112
              have z114 := z113 (iv0 h_x111)
              refine lv_if_eq (tgt := 130) hx hb dX12_numberHere_123 (by decide) (fun c115 => ?_) (fun c115 => False.elim (by have q : ¬ x111.toInt = 0 := ti_ne c115; have := (h_x111).1; have := (h_x111).2; omega))
              have q116 : x111.toInt = 0 := ti_eq c115
              have z117 := z113 c115
              refine lv_iconst (v := 0) hx hb dX12_numberHere_130 (by decide) ?_
              have k118 : M108 a0 13 = x39 := (Fr.kp (k := 13) f105 hk_a0 rfl).trans k61
              have q119 : nx.toInt ≤ x39.toInt ∧ x39.toInt ≤ tp.toInt ∧ ((0 : Int32).toInt = 0 ∨ nx.toInt < x39.toInt) := by
                have := (h_a1).1; have := (h_a1).2; have := (h_a2).1; have := (h_a2).2; have := (h_nm).1; have := (h_nm).2; have := (h_nx).1; have := (h_nx).2; have := (h_tp).1; have := (h_tp).2; have := (h32).1; have := (h32).2; have := (h_x39).1; have := (h_x39).2; have := (h86).1; have := (h86).2; have := (h_x8).1; have := (h_x8).2; have : (0 : Int32).toInt = 0 := (by decide); omega
              have k120 : M108 a0 15 = x33 := (Fr.kp (k := 15) f105 hk_a0 rfl).trans k58
              have q121 : (0 : Int32).toInt = 0 ∨ (a1.toInt ≤ x33.toInt ∧ x33.toInt ≤ a2.toInt) := by
                have := (h_a1).1; have := (h_a1).2; have := (h_a2).1; have := (h_a2).2; have := (h_nm).1; have := (h_nm).2; have := (h_nx).1; have := (h_nx).2; have := (h_tp).1; have := (h_tp).2; have := (h_x33).1; have := (h_x33).2; have : (0 : Int32).toInt = 0 := (by decide); omega
              exact tw_endz hx hb hr hlocks hK hT hS hQ rfl (⟨(iv_mono (iv_c (c := 0) (n := 0) (by decide)) (by decide) (by decide)), ⟨x39, k118, h_x39, q119⟩, ⟨x33, k120, h_x33, q121⟩, (fun _ => (show ¬ (M108 a0 14).toInt = 0 from z117))⟩) dX12_numberHere_131
        · have q122 : ¬ x49.toInt = 0 := ti_ne c53
          have h123 : iv 1 1 x49 := ⟨by have := (h_x49).1; have := ((iv_c (c := 0) (n := 0) (by decide))).1; have := ((iv_c (c := 0) (n := 0) (by decide))).2; omega, by have := (h_x49).2; have := ((iv_c (c := 0) (n := 0) (by decide))).1; have := ((iv_c (c := 0) (n := 0) (by decide))).2; omega⟩
          have z124 := z51 c53
          have q125 := z124.1
          have h126 : iv 0 399 x39 := iv_ltL (y := tp) h_x39 h_tp q125 (by decide)
          refine lv_aload_n hx hb dX12_numberHere_45 rfl (lv_at hl 2 rfl) ?_
          refine tw_getk hx hb hW hown hK hS f_X12_127_11 hz_a0 hk_a0 (v := x39) k40 dX12_numberHere_46 ?_
          refine lv_iload_n hx hb dX12_numberHere_49 rfl (lv_at hl 1 rfl) ?_
          refine tw_isub (lo := (-399)) (hi := 399) hx hb h126 h32 ⟨by decide, by decide⟩ ⟨by decide, by decide⟩ dX12_numberHere_50 (fun x129 e128 h127 => ?_)
          refine lv_iconst (v := 5) hx hb dX12_numberHere_51 (by decide) ?_
          refine lv_icmp_ge (tgt := 75) hx hb dX12_numberHere_52 (by decide) (fun c130 => ?_) (fun c130 => ?_)
          · have q131 : 5 ≤ x129.toInt := ti_le c130
            have h132 : iv 5 399 x129 := iv_geL (y := 5) h127 (iv_c (c := 5) (n := 5) (by decide)) q131 (by decide)
            refine lv_aload_n hx hb dX12_numberHere_75 rfl (lv_at hl 2 rfl) ?_
            refine lv_dup hx hb dX12_numberHere_76 rfl ?_
            refine tw_getk hx hb hW hown hK hS f_X12_127_11 hz_a0 hk_a0 (v := x39) k40 dX12_numberHere_77 ?_
            refine lv_iconst (v := 1) hx hb dX12_numberHere_80 (by decide) ?_
            refine tw_iadd (lo := 1) (hi := 400) hx hb h126 (iv_c (c := 1) (n := 1) (by decide)) ⟨by decide, by decide⟩ ⟨by decide, by decide⟩ dX12_numberHere_81 (fun x135 e134 h133 => ?_)
            have e134 : x135.toInt = x39.toInt + 1 := e134
            refine tw_puti hx hb hW hown hK hS f_X12_127_11 hz_a0 hk_a0 rfl rfl (lo := 0) (hi := 400) rfl (iv_mono h133 (by decide) (by decide)) rfl dX12_numberHere_82 (fun H locs M138 hS k136 f137 => ?_)
            refine lv_goto (tgt := 34) hx hb dX12_numberHere_85 (by decide) ?_
            have w139 : x12.toInt ≤ x135.toInt ∧ x135.toInt ≤ tp.toInt := by
              have := (h_a1).1; have := (h_a1).2; have := (h_a2).1; have := (h_a2).2; have := (h_nm).1; have := (h_nm).2; have := (h_nx).1; have := (h_nx).2; have := (h_tp).1; have := (h_tp).2; have := (h32).1; have := (h32).2; have := (h132).1; have := (h132).2; have := (h133).1; have := (h133).2; have := (h126).1; have := (h126).2; have := (h_x8).1; have := (h_x8).2; omega
            have hm140 : 400 - x135.toInt < (n_34 : Int) := by
              have := (h_a1).1; have := (h_a1).2; have := (h_a2).1; have := (h_a2).2; have := (h_nm).1; have := (h_nm).2; have := (h_nx).1; have := (h_nx).2; have := (h_tp).1; have := (h_tp).2; have := (h32).1; have := (h32).2; have := (h132).1; have := (h132).2; have := (h133).1; have := (h133).2; have := (h126).1; have := (h126).2; have := (h_x8).1; have := (h_x8).2; omega
            exact ih_34 x33 x135 M138 R35 J45 H locs _ h_x33 (iv_mono h133 (by decide) (by decide)) k136 w139 hm140 hS hl
          · have q141 : x129.toInt < 5 := ti_nle c130
            have h142 : iv (-399) 4 x129 := iv_ltL (y := 5) h127 (iv_c (c := 5) (n := 5) (by decide)) q141 (by decide)
            refine lv_bipush (v := 10) hx hb dX12_numberHere_55 (by decide) ?_
            refine lv_iload hx hb dX12_numberHere_57 (lv_at hl 0 rfl) ?_
            refine lv_imul hx hb dX12_numberHere_59 ?_
            refine tw_top (fun x144 => ?_)
            have h143 := iv_any x144
            refine lv_aload_n hx hb dX12_numberHere_60 rfl (lv_at hl 2 rfl) ?_
            have k145 : R35 a0 0 = some tb := (Fr.kp (k := 0) g38 hk_a0 rfl).trans k_tb
            refine tw_getrk hx hb hW hown hK hS f_X12_7_11 hz_a0 hk_a0 (b := tb) k145 dX12_numberHere_61 ?_
            refine lv_aload_n hx hb dX12_numberHere_64 rfl (lv_at hl 2 rfl) ?_
            refine tw_getk hx hb hW hown hK hS f_X12_127_11 hz_a0 hk_a0 (v := x39) k40 dX12_numberHere_65 ?_
            refine tw_bald hx hb hK hS hz_tb hk_tb hn_tb h126 ⟨by decide, by decide⟩ dX12_numberHere_68 (fun x148 k147 => ?_)
            have h146 := iv_any x148
            refine lv_iadd hx hb dX12_numberHere_69 ?_
            refine tw_top (fun x150 => ?_)
            have h149 := iv_any x150
            refine lv_bipush (v := 48) hx hb dX12_numberHere_70 (by decide) ?_
            refine lv_isub hx hb dX12_numberHere_72 ?_
            refine tw_top (fun x152 => ?_)
            have h151 := iv_any x152
            refine lv_istore (lv' := [(4, .int x152), (3, .int x12), (0, .ref (base + a0)), (1, .int a1), (2, .int a2)]) hx hb dX12_numberHere_73 hl (by decide) rfl (fun ls hl => ?_)
            refine lv_aload_n hx hb dX12_numberHere_75 rfl (lv_at hl 2 rfl) ?_
            refine lv_dup hx hb dX12_numberHere_76 rfl ?_
            refine tw_getk hx hb hW hown hK hS f_X12_127_11 hz_a0 hk_a0 (v := x39) k40 dX12_numberHere_77 ?_
            refine lv_iconst (v := 1) hx hb dX12_numberHere_80 (by decide) ?_
            refine tw_iadd (lo := 1) (hi := 400) hx hb h126 (iv_c (c := 1) (n := 1) (by decide)) ⟨by decide, by decide⟩ ⟨by decide, by decide⟩ dX12_numberHere_81 (fun x155 e154 h153 => ?_)
            have e154 : x155.toInt = x39.toInt + 1 := e154
            refine tw_puti hx hb hW hown hK hS f_X12_127_11 hz_a0 hk_a0 rfl rfl (lo := 0) (hi := 400) rfl (iv_mono h153 (by decide) (by decide)) rfl dX12_numberHere_82 (fun H locs M158 hS k156 f157 => ?_)
            refine lv_goto (tgt := 34) hx hb dX12_numberHere_85 (by decide) ?_
            have w159 : x12.toInt ≤ x155.toInt ∧ x155.toInt ≤ tp.toInt := by
              have := (h_a1).1; have := (h_a1).2; have := (h_a2).1; have := (h_a2).2; have := (h_nm).1; have := (h_nm).2; have := (h_nx).1; have := (h_nx).2; have := (h_tp).1; have := (h_tp).2; have := (h32).1; have := (h32).2; have := (h142).1; have := (h142).2; have := (h153).1; have := (h153).2; have := (h126).1; have := (h126).2; have := (h_x8).1; have := (h_x8).2; omega
            have hm160 : 400 - x155.toInt < (n_34 : Int) := by
              have := (h_a1).1; have := (h_a1).2; have := (h_a2).1; have := (h_a2).2; have := (h_nm).1; have := (h_nm).2; have := (h_nx).1; have := (h_nx).2; have := (h_tp).1; have := (h_tp).2; have := (h32).1; have := (h32).2; have := (h142).1; have := (h142).2; have := (h153).1; have := (h153).2; have := (h126).1; have := (h126).2; have := (h_x8).1; have := (h_x8).2; omega
            exact ih_34 x152 x155 M158 R35 J45 H locs _ h151 (iv_mono h153 (by decide) (by decide)) k156 w159 hm160 hS hl
    have w161 : x12.toInt ≤ x12.toInt ∧ x12.toInt ≤ tp.toInt := by
      have := (h_a1).1; have := (h_a1).2; have := (h_a2).1; have := (h_a2).2; have := (h_nm).1; have := (h_nm).2; have := (h_nx).1; have := (h_nx).2; have := (h_tp).1; have := (h_tp).2; have := (h32).1; have := (h32).2; have := (h_x8).1; have := (h_x8).2; omega
    have hm162 : 400 - x12.toInt < (((401 : Nat) : Int) : Int) := by
      have := (h_a1).1; have := (h_a1).2; have := (h_a2).1; have := (h_a2).2; have := (h_nm).1; have := (h_nm).2; have := (h_nx).1; have := (h_nx).2; have := (h_tp).1; have := (h_tp).2; have := (h32).1; have := (h32).2; have := (h_x8).1; have := (h_x8).2; omega
    exact W34_34 401 0 x12 M5 Ra J19 H locs _ (iv_mono (iv_c (c := 0) (n := 0) (by decide)) (by decide) (by decide)) (iv_mono h32 (by decide) (by decide)) k10 w161 hm162 hS hl
  · have q163 : x23.toInt = 0 := ti_eq c27
    have z164 := z26 c27
    have h165 : iv 0 0 x23 := ⟨by have := (h_x23).1; have := ((iv_c (c := 0) (n := 0) (by decide))).1; omega, by have := (h_x23).2; have := ((iv_c (c := 0) (n := 0) (by decide))).2; omega⟩
    refine lv_aload_n hx hb dX12_numberHere_16 rfl (lv_at hl 0 rfl) ?_
    refine lv_iconst (v := 0) hx hb dX12_numberHere_17 (by decide) ?_
    refine lv_aload_n hx hb dX12_numberHere_18 rfl (lv_at hl 0 rfl) ?_
    refine tw_getk hx hb hW hown hK hS f_X12_127_11 hz_a0 hk_a0 (v := x12) k10 dX12_numberHere_19 ?_
    refine tw_goi hS (md_runV (As := [.int 0, .int x12]) (rest := []) hx hb hml hown hW hK hT hS.1 (t_X12_fails l D cy tx base Z K N M5 Ra J19 hS.2.1 a0 hz_a0 hk_a0 0 (iv_mono (iv_c (c := 0) (n := 0) (by decide)) (by decide) (by decide)) x12 h11) s_X12_148 ⟨rfl, rfl, ⟨Nat.le_of_ble_eq_true rfl, Nat.le_of_ble_eq_true rfl⟩, ⟨Nat.le_of_ble_eq_true rfl, Nat.le_of_ble_eq_true rfl⟩⟩ hz_a0 hk_a0 (by decide) rfl rfl hl.1 rfl (Nat.le_of_ble_eq_true rfl) dX12_numberHere_22) rfl rfl (fun x172 H locs M169 R170 J168 hS f166 g167 E171 => ?_)
    have eR170 := Fr.nil g167 rfl
    subst eR170
    obtain ⟨h_x172, p173⟩ := E171
    have z174 : x172 = 0 → ¬ (M169 a0 14).toInt = 0 := p173
    have z175 := z174 (iv0 h_x172)
    have k176 : M169 a0 13 = x12 := (Fr.kp (k := 13) f166 hk_a0 rfl).trans k10
    have q177 : nx.toInt ≤ x12.toInt ∧ x12.toInt ≤ tp.toInt ∧ (x172.toInt = 0 ∨ nx.toInt < x12.toInt) := by
      have := (h_a1).1; have := (h_a1).2; have := (h_a2).1; have := (h_a2).2; have := (h_nm).1; have := (h_nm).2; have := (h_nx).1; have := (h_nx).2; have := (h_tp).1; have := (h_tp).2; have := (h11).1; have := (h11).2; have := (h_x172).1; have := (h_x172).2; have := (h_x8).1; have := (h_x8).2; omega
    have k178 : M169 a0 15 = nm := ((Fr.kp (k := 15) f166 hk_a0 rfl).trans (Fr.kp (k := 15) f2 hk_a0 rfl)).trans k_nm
    have q179 : x172.toInt = 0 ∨ (a1.toInt ≤ nm.toInt ∧ nm.toInt ≤ a2.toInt) := by
      have := (h_a1).1; have := (h_a1).2; have := (h_a2).1; have := (h_a2).2; have := (h_nm).1; have := (h_nm).2; have := (h_nx).1; have := (h_nx).2; have := (h_tp).1; have := (h_tp).2; have := (h_x172).1; have := (h_x172).2; omega
    exact tw_endz hx hb hr hlocks hK hT hS hQ (nar_b (iv_mono h_x172 (by decide) (by decide))) (⟨(iv_mono h_x172 (by decide) (by decide)), ⟨x12, k176, h11, q177⟩, ⟨nm, k178, h_nm, q179⟩, (fun _ => (show ¬ (M169 a0 14).toInt = 0 from z175))⟩) dX12_numberHere_25
def Lt_X12_isLetter : WL := []
def LRt_X12_isLetter : WL := []
set_option maxRecDepth 100000 in
set_option maxHeartbeats 4000000 in
theorem t_X12_isLetter (l : Launch) (D : va_G) (cy : Nat → ClassId) (tx : (Nat → Nat) × (Nat → Nat)) (base Z : Nat) (K N : Nat → Nat) (Ma : MT) (Ra : RT) (Ja : JT) (hTy : Ty Z K N Ma Ra) (a0 : Nat) (hz_a0 : a0 < Z) (hk_a0 : K a0 = 12) (a1 : Int32) (h_a1 : iv 0 400 a1) (tb : Nat) (k_tb : Ra a0 0 = some tb) (tp : Int32) (k_tp : Ma a0 1 = tp) (h_tp : iv 0 400 tp) : Met l yX12_isLetter [Cond.code yX12_isLetter cX12_isLetter 2 (some .boolean)] (md_rm 1 0 0) (va_Pc [.ref (base + a0), .int a1] (md_U D cy tx base Z K N Ma Ra Ja)) (mQi D cy tx base (fun r u => TP Z K N Lt_X12_isLetter LRt_X12_isLetter Ma Ra u ∧ (iv 0 1 r ∧ ((¬ r = 0 → chF 97 122 Ma tb a1 tp) ∧ (r = 0 → ¬ chF 97 122 Ma tb a1 tp))))) 0 0 (fun q => base ≤ q) := by
  refine tw_ofW (L := Lt_X12_isLetter) (LR := LRt_X12_isLetter) (by decide) (Nat.le_of_ble_eq_true rfl) hTy ?_
  intro p e s m args below meth c Q ls hx hb hr hlocks hown hml hW hK hT hS hQ hl
  have hl : lv_has ls 2 [(0, .ref (base + a0)), (1, .int a1)] := hl
  obtain ⟨hz_tb, hk_tb, hn_tb⟩ := hTy.refn hz_a0 hk_a0 (show rtR 12 0 = (13, 400, 0) from rfl) k_tb
  have hn_tb := hn_tb (by decide)
  refine lv_iload_n hx hb dX12_isLetter_0 rfl (lv_at hl 1 rfl) ?_
  refine lv_aload_n hx hb dX12_isLetter_1 rfl (lv_at hl 0 rfl) ?_
  refine tw_getk hx hb hW hown hK hS f_X12_116_11 hz_a0 hk_a0 (v := tp) k_tp dX12_isLetter_2 ?_
  refine lv_icmp_ge (tgt := 34) hx hb dX12_isLetter_5 (by decide) (fun c1 => ?_) (fun c1 => ?_)
  · have q2 : tp.toInt ≤ a1.toInt := ti_le c1
    refine lv_iconst (v := 0) hx hb dX12_isLetter_34 (by decide) ?_
    exact tw_endz hx hb hr hlocks hK hT hS hQ rfl (⟨(iv_mono (iv_c (c := 0) (n := 0) (by decide)) (by decide) (by decide)), ⟨fun h => absurd rfl h, fun _ h => by obtain ⟨h1, h2, h3⟩ := h; omega⟩⟩) dX12_isLetter_35
  · have q3 : a1.toInt < tp.toInt := ti_nle c1
    have h4 : iv 0 399 a1 := iv_ltL (y := tp) h_a1 h_tp q3 (by decide)
    have h5 : iv 1 400 tp := iv_gtL (y := a1) h_tp h_a1 q3 (by decide)
    refine lv_aload_n hx hb dX12_isLetter_8 rfl (lv_at hl 0 rfl) ?_
    refine tw_getrk hx hb hW hown hK hS f_X12_7_11 hz_a0 hk_a0 (b := tb) k_tb dX12_isLetter_9 ?_
    refine lv_iload_n hx hb dX12_isLetter_12 rfl (lv_at hl 1 rfl) ?_
    refine tw_bald hx hb hK hS hz_tb hk_tb hn_tb h4 ⟨by decide, by decide⟩ dX12_isLetter_13 (fun x8 k7 => ?_)
    have h6 := iv_any x8
    refine lv_bipush (v := 97) hx hb dX12_isLetter_14 (by decide) ?_
    refine lv_icmp_lt (tgt := 34) hx hb dX12_isLetter_16 (by decide) (fun c9 => ?_) (fun c9 => ?_)
    · have q10 : x8.toInt < 97 := ti_lt c9
      have h11 : iv (-2147483648) 96 x8 := iv_ltL (y := 97) h6 (iv_c (c := 97) (n := 97) (by decide)) q10 (by decide)
      refine lv_iconst (v := 0) hx hb dX12_isLetter_34 (by decide) ?_
      exact tw_endz hx hb hr hlocks hK hT hS hQ rfl (⟨(iv_mono (iv_c (c := 0) (n := 0) (by decide)) (by decide) (by decide)), ⟨fun h => absurd rfl h, fun _ h => by obtain ⟨h1, h2, h3⟩ := h; rw [k7] at h2 h3; omega⟩⟩) dX12_isLetter_35
    · have q12 : 97 ≤ x8.toInt := ti_nlt c9
      have h13 : iv 97 2147483647 x8 := iv_geL (y := 97) h6 (iv_c (c := 97) (n := 97) (by decide)) q12 (by decide)
      refine lv_aload_n hx hb dX12_isLetter_19 rfl (lv_at hl 0 rfl) ?_
      refine tw_getrk hx hb hW hown hK hS f_X12_7_11 hz_a0 hk_a0 (b := tb) k_tb dX12_isLetter_20 ?_
      refine lv_iload_n hx hb dX12_isLetter_23 rfl (lv_at hl 1 rfl) ?_
      refine tw_balk hx hb hK hS hz_tb hk_tb hn_tb h4 ⟨by decide, by decide⟩ (v := x8) k7 dX12_isLetter_24 ?_
      refine lv_bipush (v := 122) hx hb dX12_isLetter_25 (by decide) ?_
      refine lv_icmp_gt (tgt := 34) hx hb dX12_isLetter_27 (by decide) (fun c14 => ?_) (fun c14 => ?_)
      · have q15 : 122 < x8.toInt := ti_lt c14
        have h16 : iv 123 2147483647 x8 := iv_gtL (y := 122) h13 (iv_c (c := 122) (n := 122) (by decide)) q15 (by decide)
        refine lv_iconst (v := 0) hx hb dX12_isLetter_34 (by decide) ?_
        exact tw_endz hx hb hr hlocks hK hT hS hQ rfl (⟨(iv_mono (iv_c (c := 0) (n := 0) (by decide)) (by decide) (by decide)), ⟨fun h => absurd rfl h, fun _ h => by obtain ⟨h1, h2, h3⟩ := h; rw [k7] at h2 h3; omega⟩⟩) dX12_isLetter_35
      · have q17 : x8.toInt ≤ 122 := ti_nlt c14
        have h18 : iv 97 122 x8 := iv_leL (y := 122) h13 (iv_c (c := 122) (n := 122) (by decide)) q17 (by decide)
        refine lv_iconst (v := 1) hx hb dX12_isLetter_30 (by decide) ?_
        refine lv_goto (tgt := 35) hx hb dX12_isLetter_31 (by decide) ?_
        exact tw_endz hx hb hr hlocks hK hT hS hQ rfl (⟨(iv_mono (iv_c (c := 1) (n := 1) (by decide)) (by decide) (by decide)), ⟨fun _ => ⟨by omega, by rw [k7]; omega, by rw [k7]; omega⟩, fun h => absurd h (by decide)⟩⟩) dX12_isLetter_35
def Lt_X12_passWord : WL := [(12, 13, 14)]
def LRt_X12_passWord : WL := []
set_option maxRecDepth 100000 in
set_option maxHeartbeats 4000000 in
theorem t_X12_passWord (l : Launch) (D : va_G) (cy : Nat → ClassId) (tx : (Nat → Nat) × (Nat → Nat)) (base Z : Nat) (K N : Nat → Nat) (Ma : MT) (Ra : RT) (Ja : JT) (hTy : Ty Z K N Ma Ra) (a0 : Nat) (hz_a0 : a0 < Z) (hk_a0 : K a0 = 12) (tb : Nat) (k_tb : Ra a0 0 = some tb) (nx : Int32) (k_nx : Ma a0 13 = nx) (h_nx : iv 0 400 nx) (tp : Int32) (k_tp : Ma a0 1 = tp) (h_tp : iv 0 400 tp) (hnt : nx.toInt ≤ tp.toInt) : Met l yX12_passWord [Cond.code yX12_passWord cX12_passWord 1 none] (md_rm 2 0 0) (va_Pc [.ref (base + a0)] (md_U D cy tx base Z K N Ma Ra Ja)) (mQv D cy tx base (fun u => TP Z K N Lt_X12_passWord LRt_X12_passWord Ma Ra u ∧ ((∃ x0 : Int32, u.2.2.2.1 a0 13 = x0 ∧ iv 0 400 x0 ∧ (nx.toInt ≤ x0.toInt ∧ x0.toInt ≤ tp.toInt) ∧ (chF 97 122 Ma tb nx tp → nx.toInt < x0.toInt))))) 0 0 (fun q => base ≤ q) := by
  refine tw_ofW (L := Lt_X12_passWord) (LR := LRt_X12_passWord) (by decide) (Nat.le_of_ble_eq_true rfl) hTy ?_
  intro p e s m args below meth c Q ls hx hb hr hlocks hown hml hW hK hT hS hQ hl
  have hl : lv_has ls 1 [(0, .ref (base + a0))] := hl
  obtain ⟨hz_tb, hk_tb, hn_tb⟩ := hTy.refn hz_a0 hk_a0 (show rtR 12 0 = (13, 400, 0) from rfl) k_tb
  have hn_tb := hn_tb (by decide)
  have W0_1 : ∀ (n_1 : Nat) (x6 : Int32) (M1 : MT) (R2 : RT) (J3 : JT) (H : Heap) (locs : List Loc) (ls : Array Slot) (h_x6 : iv 0 400 x6) (k7 : M1 a0 13 = x6) (w0_1 : nx.toInt ≤ x6.toInt ∧ x6.toInt ≤ tp.toInt) (hm_1 : 400 - x6.toInt < (n_1 : Int)) (hS : SB D cy base Z K N Lt_X12_passWord LRt_X12_passWord Ma Ra M1 R2 J3 s H locs) (hl : lv_has ls 1 [(0, .ref (base + a0))]), W p l e (md_rm 2 0 0) s m args below meth c H locs 0 0 Q (F0 m 0 ls []) := by
    intro n_1
    induction n_1 with
    | zero =>
      intro x6 M1 R2 J3 H locs ls h_x6 k7 w0_1 hm_1 hS hl
      exfalso
      have := (h_nx).1; have := (h_nx).2; have := (h_tp).1; have := (h_tp).2; have := (h_x6).1; have := (h_x6).2; omega
    | succ n_1 ih_1 =>
      intro x6 M1 R2 J3 H locs ls h_x6 k7 w0_1 hm_1 hS hl
      have f4 := hS.2.2.1
      have g5 := hS.2.2.2
      refine lv_aload_n hx hb dX12_passWord_0 rfl (lv_at hl 0 rfl) ?_
      refine lv_aload_n hx hb dX12_passWord_1 rfl (lv_at hl 0 rfl) ?_
      refine tw_getk hx hb hW hown hK hS f_X12_127_11 hz_a0 hk_a0 (v := x6) k7 dX12_passWord_2 ?_
      have k8 : R2 a0 0 = some tb := (Fr.kp (k := 0) g5 hk_a0 rfl).trans k_tb
      have k9 : M1 a0 1 = tp := (Fr.kp (k := 1) f4 hk_a0 rfl).trans k_tp
      refine tw_goi hS (md_runV (As := [.int x6]) (rest := []) hx hb hml hown hW hK hT hS.1 (t_X12_isLetter l D cy tx base Z K N M1 R2 J3 hS.2.1 a0 hz_a0 hk_a0 x6 h_x6 tb k8 tp k9 (iv_mono h_tp (by decide) (by decide))) s_X12_134 ⟨rfl, rfl, ⟨Nat.le_of_ble_eq_true rfl, Nat.le_of_ble_eq_true rfl⟩, ⟨Nat.le_of_ble_eq_true rfl, Nat.le_of_ble_eq_true rfl⟩⟩ hz_a0 hk_a0 (by decide) rfl rfl hl.1 rfl (Nat.le_of_ble_eq_true rfl) dX12_passWord_5) rfl rfl (fun x16 H locs M13 R14 J12 hS f10 g11 E15 => ?_)
      have eM13 := Fr.nil f10 rfl
      subst eM13
      have eR14 := Fr.nil g11 rfl
      subst eR14
      obtain ⟨h_x16, p17⟩ := E15
      have z18 : ¬ x16 = 0 → chF 97 122 Ma tb x6 tp := fun h => chF.rf (p17.1 h) hS.2.2.1 hk_tb rfl
      have z19 : x16 = 0 → ¬ chF 97 122 Ma tb x6 tp := fun h q => p17.2 h (chF.fr q hS.2.2.1 hk_tb rfl)
      refine lv_if_eq (tgt := 24) hx hb dX12_passWord_8 (by decide) (fun c20 => ?_) (fun c20 => ?_)
      · have q21 : x16.toInt = 0 := ti_eq c20
        have z22 := z19 c20
        have h23 : iv 0 0 x16 := ⟨by have := (h_x16).1; have := ((iv_c (c := 0) (n := 0) (by decide))).1; omega, by have := (h_x16).2; have := ((iv_c (c := 0) (n := 0) (by decide))).2; omega⟩
        have q24 : nx.toInt ≤ x6.toInt ∧ x6.toInt ≤ tp.toInt := by
          have := (h_nx).1; have := (h_nx).2; have := (h_tp).1; have := (h_tp).2; have := (h_x6).1; have := (h_x6).2; omega
        exact tw_endv hx hb hr hlocks hK hT hS hQ (⟨x6, k7, h_x6, q24, (fun h => by have := w0_1.1; have q : ¬ x6.toInt = nx.toInt := fun e => z22 (h.at e); omega)⟩) dX12_passWord_24
      · have q25 : ¬ x16.toInt = 0 := ti_ne c20
        have h26 : iv 1 1 x16 := ⟨by have := (h_x16).1; have := ((iv_c (c := 0) (n := 0) (by decide))).1; have := ((iv_c (c := 0) (n := 0) (by decide))).2; omega, by have := (h_x16).2; have := ((iv_c (c := 0) (n := 0) (by decide))).1; have := ((iv_c (c := 0) (n := 0) (by decide))).2; omega⟩
        have z27 := z18 c20
        have q28 := z27.1
        have h29 : iv 0 399 x6 := iv_ltL (y := tp) h_x6 h_tp q28 (by decide)
        refine lv_aload_n hx hb dX12_passWord_11 rfl (lv_at hl 0 rfl) ?_
        refine lv_dup hx hb dX12_passWord_12 rfl ?_
        refine tw_getk hx hb hW hown hK hS f_X12_127_11 hz_a0 hk_a0 (v := x6) k7 dX12_passWord_13 ?_
        refine lv_iconst (v := 1) hx hb dX12_passWord_16 (by decide) ?_
        refine tw_iadd (lo := 1) (hi := 400) hx hb h29 (iv_c (c := 1) (n := 1) (by decide)) ⟨by decide, by decide⟩ ⟨by decide, by decide⟩ dX12_passWord_17 (fun x32 e31 h30 => ?_)
        have e31 : x32.toInt = x6.toInt + 1 := e31
        refine tw_puti hx hb hW hown hK hS f_X12_127_11 hz_a0 hk_a0 rfl rfl (lo := 0) (hi := 400) rfl (iv_mono h30 (by decide) (by decide)) rfl dX12_passWord_18 (fun H locs M35 hS k33 f34 => ?_)
        refine lv_goto (tgt := 0) hx hb dX12_passWord_21 (by decide) ?_
        have w36 : nx.toInt ≤ x32.toInt ∧ x32.toInt ≤ tp.toInt := by
          have := (h_nx).1; have := (h_nx).2; have := (h_tp).1; have := (h_tp).2; have := (h30).1; have := (h30).2; have := (h29).1; have := (h29).2; omega
        have hm37 : 400 - x32.toInt < (n_1 : Int) := by
          have := (h_nx).1; have := (h_nx).2; have := (h_tp).1; have := (h_tp).2; have := (h30).1; have := (h30).2; have := (h29).1; have := (h29).2; omega
        exact ih_1 x32 M35 R2 J12 H locs _ (iv_mono h30 (by decide) (by decide)) k33 w36 hm37 hS hl
  have w38 : nx.toInt ≤ nx.toInt ∧ nx.toInt ≤ tp.toInt := by
    have := (h_nx).1; have := (h_nx).2; have := (h_tp).1; have := (h_tp).2; omega
  have hm39 : 400 - nx.toInt < (((401 : Nat) : Int) : Int) := by
    have := (h_nx).1; have := (h_nx).2; have := (h_tp).1; have := (h_tp).2; omega
  exact W0_1 401 nx Ma Ra Ja s.heap [] _ h_nx k_nx w38 hm39 hS hl
def Lt_X12_areMembersHere : WL := [(12, 7, 8), (12, 13, 16)]
def LRt_X12_areMembersHere : WL := []
set_option maxRecDepth 100000 in
set_option maxHeartbeats 4000000 in
theorem t_X12_areMembersHere (l : Launch) (D : va_G) (cy : Nat → ClassId) (tx : (Nat → Nat) × (Nat → Nat)) (base Z : Nat) (K N : Nat → Nat) (Ma : MT) (Ra : RT) (Ja : JT) (hTy : Ty Z K N Ma Ra) (a0 : Nat) (hz_a0 : a0 < Z) (hk_a0 : K a0 = 12) (a1 : Int32) (h_a1 : iv 0 400 a1) (tb : Nat) (k_tb : Ra a0 0 = some tb) (nx : Int32) (k_nx : Ma a0 13 = nx) (h_nx : iv 0 400 nx) (tp : Int32) (k_tp : Ma a0 1 = tp) (h_tp : iv 0 400 tp) (hnt : nx.toInt ≤ tp.toInt) : Met l yX12_areMembersHere [Cond.code yX12_areMembersHere cX12_areMembersHere 2 (some .boolean)] (md_rm 3 0 0) (va_Pc [.ref (base + a0), .int a1] (md_U D cy tx base Z K N Ma Ra Ja)) (mQi D cy tx base (fun r u => TP Z K N Lt_X12_areMembersHere LRt_X12_areMembersHere Ma Ra u ∧ (iv 0 1 r ∧ (∃ x0 : Int32, u.2.2.2.1 a0 13 = x0 ∧ iv 0 400 x0 ∧ (nx.toInt ≤ x0.toInt ∧ x0.toInt ≤ tp.toInt)) ∧ (r = 0 → ¬ (u.2.2.2.1 a0 14).toInt = 0)))) 0 0 (fun q => base ≤ q) := by
  refine tw_ofW (L := Lt_X12_areMembersHere) (LR := LRt_X12_areMembersHere) (by decide) (Nat.le_of_ble_eq_true rfl) hTy ?_
  intro p e s m args below meth c Q ls hx hb hr hlocks hown hml hW hK hT hS hQ hl
  have hl : lv_has ls 2 [(0, .ref (base + a0)), (1, .int a1)] := hl
  obtain ⟨hz_tb, hk_tb, hn_tb⟩ := hTy.refn hz_a0 hk_a0 (show rtR 12 0 = (13, 400, 0) from rfl) k_tb
  have hn_tb := hn_tb (by decide)
  refine lv_aload_n hx hb dX12_areMembersHere_0 rfl (lv_at hl 0 rfl) ?_
  refine tw_geti hx hb hW hown hK hS f_X12_251_11 hz_a0 hk_a0 (lo := 0) (hi := 10) rfl dX12_areMembersHere_1 (fun x3 k2 h1 => ?_)
  refine lv_if_le (tgt := 14) hx hb dX12_areMembersHere_4 (by decide) (fun c4 => ?_) (fun c4 => ?_)
  · have q5 : x3.toInt ≤ 0 := ti_le c4
    have h6 : iv 0 0 x3 := iv_leL (y := 0) h1 (iv_c (c := 0) (n := 0) (by decide)) q5 (by decide)
    refine lv_aload_n hx hb dX12_areMembersHere_14 rfl (lv_at hl 0 rfl) ?_
    have q7 : nx.toInt ≤ tp.toInt := by
      have := (h_a1).1; have := (h_a1).2; have := (h_nx).1; have := (h_nx).2; have := (h_tp).1; have := (h_tp).2; omega
    refine tw_gov hS (md_runV (As := []) (rest := []) hx hb hml hown hW hK hT hS.1 (t_X12_passWord l D cy tx base Z K N Ma Ra Ja hS.2.1 a0 hz_a0 hk_a0 tb k_tb nx k_nx (iv_mono h_nx (by decide) (by decide)) tp k_tp (iv_mono h_tp (by decide) (by decide)) q7) s_X12_142 ⟨rfl, rfl, ⟨Nat.le_of_ble_eq_true rfl, Nat.le_of_ble_eq_true rfl⟩, ⟨Nat.le_of_ble_eq_true rfl, Nat.le_of_ble_eq_true rfl⟩⟩ hz_a0 hk_a0 (by decide) rfl rfl hl.1 rfl (Nat.le_of_ble_eq_true rfl) dX12_areMembersHere_15) rfl rfl (fun H locs M11 R12 J10 hS f8 g9 E13 => ?_)
    have eR12 := Fr.nil g9 rfl
    subst eR12
    have p14 := E13
    obtain ⟨x17, k15, h16, q18, z20⟩ := p14
    have k15 : M11 a0 13 = x17 := k15
    refine lv_aload_n hx hb dX12_areMembersHere_18 rfl (lv_at hl 0 rfl) ?_
    refine lv_iconst (v := 1) hx hb dX12_areMembersHere_19 (by decide) ?_
    refine lv_bipush (v := 10) hx hb dX12_areMembersHere_20 (by decide) ?_
    have k21 : M11 a0 1 = tp := (Fr.kp (k := 1) f8 hk_a0 rfl).trans k_tp
    have q22 : x17.toInt ≤ tp.toInt := by
      have := (h_a1).1; have := (h_a1).2; have := (h_nx).1; have := (h_nx).2; have := (h_tp).1; have := (h_tp).2; have := (h16).1; have := (h16).2; omega
    obtain ⟨x25, k23⟩ : ∃ x, M11 a0 15 = x := ⟨_, rfl⟩
    have h24 : iv (-2147483648) 2147483647 x25 := by rw [← k23]; exact hS.2.1.int hz_a0 hk_a0 (show rgI 12 15 = ((-2147483648), 2147483647) from rfl)
    refine tw_goi hS (md_runV (As := [.int 1, .int 10]) (rest := []) hx hb hml hown hW hK hT hS.1 (t_X12_numberHere l D cy tx base Z K N M11 Ra J10 hS.2.1 a0 hz_a0 hk_a0 1 (iv_mono (iv_c (c := 1) (n := 1) (by decide)) (by decide) (by decide)) 10 (iv_mono (iv_c (c := 10) (n := 10) (by decide)) (by decide) (by decide)) tb k_tb x17 k15 (iv_mono h16 (by decide) (by decide)) tp k21 (iv_mono h_tp (by decide) (by decide)) q22 x25 k23 (iv_mono h24 (by decide) (by decide))) s_X12_200 ⟨rfl, rfl, ⟨Nat.le_of_ble_eq_true rfl, Nat.le_of_ble_eq_true rfl⟩, ⟨Nat.le_of_ble_eq_true rfl, Nat.le_of_ble_eq_true rfl⟩⟩ hz_a0 hk_a0 (by decide) rfl rfl hl.1 rfl (Nat.le_of_ble_eq_true rfl) dX12_areMembersHere_22) rfl rfl (fun x32 H locs M29 R30 J28 hS f26 g27 E31 => ?_)
    have eR30 := Fr.nil g27 rfl
    subst eR30
    obtain ⟨h_x32, p33, p34, p35⟩ := E31
    obtain ⟨x38, k36, h37, q39⟩ := p33
    have k36 : M29 a0 13 = x38 := k36
    obtain ⟨x43, k44, h42, q45⟩ := p34
    have k44 : M29 a0 15 = x43 := k44
    have q46 : (1 : Int32).toInt = 1 := (by decide)
    have q47 : (10 : Int32).toInt = 10 := (by decide)
    have z48 : x32 = 0 → ¬ (M29 a0 14).toInt = 0 := p35
    refine lv_if_ne (tgt := 30) hx hb dX12_areMembersHere_25 (by decide) (fun c49 => ?_) (fun c49 => ?_)
    · have q50 : ¬ x32.toInt = 0 := ti_ne c49
      have h51 : iv 1 1 x32 := ⟨by have := (h_x32).1; have := ((iv_c (c := 0) (n := 0) (by decide))).1; have := ((iv_c (c := 0) (n := 0) (by decide))).2; omega, by have := (h_x32).2; have := ((iv_c (c := 0) (n := 0) (by decide))).1; have := ((iv_c (c := 0) (n := 0) (by decide))).2; omega⟩
      refine lv_aload_n hx hb dX12_areMembersHere_30 rfl (lv_at hl 0 rfl) ?_
      refine lv_aload_n hx hb dX12_areMembersHere_31 rfl (lv_at hl 0 rfl) ?_
      refine tw_getk hx hb hW hown hK hS f_X12_152_11 hz_a0 hk_a0 (v := x43) k44 dX12_areMembersHere_32 ?_
      have h54 : iv 0 10 x43 := by
        have := (h_a1).1; have := (h_a1).2; have := (h_nx).1; have := (h_nx).2; have := (h_tp).1; have := (h_tp).2; have := (h42).1; have := (h42).2; exact ⟨by omega, by omega⟩
      refine tw_puti hx hb hW hown hK hS f_X12_251_11 hz_a0 hk_a0 rfl rfl (lo := 0) (hi := 10) rfl h54 rfl dX12_areMembersHere_35 (fun H locs M55 hS k52 f53 => ?_)
      refine lv_iconst (v := 1) hx hb dX12_areMembersHere_38 (by decide) ?_
      have k56 : M55 a0 13 = x38 := (Fr.kp (k := 13) f53 hk_a0 rfl).trans k36
      have q57 : nx.toInt ≤ x38.toInt ∧ x38.toInt ≤ tp.toInt := by
        have := (h_a1).1; have := (h_a1).2; have := (h_nx).1; have := (h_nx).2; have := (h_tp).1; have := (h_tp).2; have := (h16).1; have := (h16).2; have := (h51).1; have := (h51).2; have := (h37).1; have := (h37).2; omega
      exact tw_endz hx hb hr hlocks hK hT hS hQ rfl (⟨(iv_mono (iv_c (c := 1) (n := 1) (by decide)) (by decide) (by decide)), ⟨x38, k56, h37, q57⟩, (fun h => absurd h (by decide))⟩) dX12_areMembersHere_39
    · have q58 : x32.toInt = 0 := ti_eq c49
      have z59 := z48 c49
      have h60 : iv 0 0 x32 := ⟨by have := (h_x32).1; have := ((iv_c (c := 0) (n := 0) (by decide))).1; omega, by have := (h_x32).2; have := ((iv_c (c := 0) (n := 0) (by decide))).2; omega⟩
      refine lv_iconst (v := 0) hx hb dX12_areMembersHere_28 (by decide) ?_
      have q61 : nx.toInt ≤ x38.toInt ∧ x38.toInt ≤ tp.toInt := by
        have := (h_a1).1; have := (h_a1).2; have := (h_nx).1; have := (h_nx).2; have := (h_tp).1; have := (h_tp).2; have := (h16).1; have := (h16).2; have := (h60).1; have := (h60).2; have := (h37).1; have := (h37).2; omega
      exact tw_endz hx hb hr hlocks hK hT hS hQ rfl (⟨(iv_mono (iv_c (c := 0) (n := 0) (by decide)) (by decide) (by decide)), ⟨x38, k36, h37, q61⟩, (fun _ => (show ¬ (M29 a0 14).toInt = 0 from z59))⟩) dX12_areMembersHere_29
  · have q62 : 0 < x3.toInt := ti_nle c4
    have h63 : iv 1 10 x3 := iv_gtL (y := 0) h1 (iv_c (c := 0) (n := 0) (by decide)) q62 (by decide)
    refine lv_aload_n hx hb dX12_areMembersHere_7 rfl (lv_at hl 0 rfl) ?_
    refine lv_iconst (v := 4) hx hb dX12_areMembersHere_8 (by decide) ?_
    refine lv_iload_n hx hb dX12_areMembersHere_9 rfl (lv_at hl 1 rfl) ?_
    refine tw_goi hS (md_runV (As := [.int 4, .int a1]) (rest := []) hx hb hml hown hW hK hT hS.1 (t_X12_fails l D cy tx base Z K N Ma Ra Ja hS.2.1 a0 hz_a0 hk_a0 4 (iv_mono (iv_c (c := 4) (n := 4) (by decide)) (by decide) (by decide)) a1 h_a1) s_X12_148 ⟨rfl, rfl, ⟨Nat.le_of_ble_eq_true rfl, Nat.le_of_ble_eq_true rfl⟩, ⟨Nat.le_of_ble_eq_true rfl, Nat.le_of_ble_eq_true rfl⟩⟩ hz_a0 hk_a0 (by decide) rfl rfl hl.1 rfl (Nat.le_of_ble_eq_true rfl) dX12_areMembersHere_10) rfl rfl (fun x70 H locs M67 R68 J66 hS f64 g65 E69 => ?_)
    have eR68 := Fr.nil g65 rfl
    subst eR68
    obtain ⟨h_x70, p71⟩ := E69
    have z72 : x70 = 0 → ¬ (M67 a0 14).toInt = 0 := p71
    have z73 := z72 (iv0 h_x70)
    have k74 : M67 a0 13 = nx := (Fr.kp (k := 13) f64 hk_a0 rfl).trans k_nx
    have q75 : nx.toInt ≤ nx.toInt ∧ nx.toInt ≤ tp.toInt := by
      have := (h_a1).1; have := (h_a1).2; have := (h_nx).1; have := (h_nx).2; have := (h_tp).1; have := (h_tp).2; omega
    exact tw_endz hx hb hr hlocks hK hT hS hQ (nar_b (iv_mono h_x70 (by decide) (by decide))) (⟨(iv_mono h_x70 (by decide) (by decide)), ⟨nx, k74, h_nx, q75⟩, (fun _ => (show ¬ (M67 a0 14).toInt = 0 from z73))⟩) dX12_areMembersHere_13
def Lt_X12_areVoicesHere : WL := [(12, 9, 10), (12, 13, 16), (35, 0, 2000000)]
def LRt_X12_areVoicesHere : WL := []
set_option maxRecDepth 100000 in
set_option maxHeartbeats 4000000 in
theorem t_X12_areVoicesHere (l : Launch) (D : va_G) (cy : Nat → ClassId) (tx : (Nat → Nat) × (Nat → Nat)) (base Z : Nat) (K N : Nat → Nat) (Ma : MT) (Ra : RT) (Ja : JT) (hTy : Ty Z K N Ma Ra) (a0 : Nat) (hz_a0 : a0 < Z) (hk_a0 : K a0 = 12) (a1 : Int32) (h_a1 : iv 0 400 a1) (tb : Nat) (k_tb : Ra a0 0 = some tb) (nx : Int32) (k_nx : Ma a0 13 = nx) (h_nx : iv 0 400 nx) (tp : Int32) (k_tp : Ma a0 1 = tp) (h_tp : iv 0 400 tp) (hnt : nx.toInt ≤ tp.toInt) : Met l yX12_areVoicesHere [Cond.code yX12_areVoicesHere cX12_areVoicesHere 3 (some .boolean)] (md_rm 3 0 0) (va_Pc [.ref (base + a0), .int a1] (md_U D cy tx base Z K N Ma Ra Ja)) (mQi D cy tx base (fun r u => TP Z K N Lt_X12_areVoicesHere LRt_X12_areVoicesHere Ma Ra u ∧ (iv 0 1 r ∧ (∃ x0 : Int32, u.2.2.2.1 a0 13 = x0 ∧ iv 0 400 x0 ∧ (nx.toInt ≤ x0.toInt ∧ x0.toInt ≤ tp.toInt)) ∧ (r = 0 → ¬ (u.2.2.2.1 a0 14).toInt = 0)))) 0 0 (fun q => base ≤ q) := by
  refine tw_ofW (L := Lt_X12_areVoicesHere) (LR := LRt_X12_areVoicesHere) (by decide) (Nat.le_of_ble_eq_true rfl) hTy ?_
  intro p e s m args below meth c Q ls hx hb hr hlocks hown hml hW hK hT hS hQ hl
  have hl : lv_has ls 3 [(0, .ref (base + a0)), (1, .int a1)] := hl
  obtain ⟨hz_tb, hk_tb, hn_tb⟩ := hTy.refn hz_a0 hk_a0 (show rtR 12 0 = (13, 400, 0) from rfl) k_tb
  have hn_tb := hn_tb (by decide)
  refine lv_aload_n hx hb dX12_areVoicesHere_0 rfl (lv_at hl 0 rfl) ?_
  refine tw_geti hx hb hW hown hK hS f_X12_260_11 hz_a0 hk_a0 (lo := (-2147483648)) (hi := 2147483647) rfl dX12_areVoicesHere_1 (fun x3 k2 h1 => ?_)
  refine lv_if_eq (tgt := 14) hx hb dX12_areVoicesHere_4 (by decide) (fun c4 => ?_) (fun c4 => ?_)
  · have q5 : x3.toInt = 0 := ti_eq c4
    have h6 : iv 0 0 x3 := ⟨by have := (h1).1; have := ((iv_c (c := 0) (n := 0) (by decide))).1; omega, by have := (h1).2; have := ((iv_c (c := 0) (n := 0) (by decide))).2; omega⟩
    refine lv_aload_n hx hb dX12_areVoicesHere_14 rfl (lv_at hl 0 rfl) ?_
    have q7 : nx.toInt ≤ tp.toInt := by
      have := (h_a1).1; have := (h_a1).2; have := (h_nx).1; have := (h_nx).2; have := (h_tp).1; have := (h_tp).2; omega
    refine tw_gov hS (md_runV (As := []) (rest := []) hx hb hml hown hW hK hT hS.1 (t_X12_passWord l D cy tx base Z K N Ma Ra Ja hS.2.1 a0 hz_a0 hk_a0 tb k_tb nx k_nx (iv_mono h_nx (by decide) (by decide)) tp k_tp (iv_mono h_tp (by decide) (by decide)) q7) s_X12_142 ⟨rfl, rfl, ⟨Nat.le_of_ble_eq_true rfl, Nat.le_of_ble_eq_true rfl⟩, ⟨Nat.le_of_ble_eq_true rfl, Nat.le_of_ble_eq_true rfl⟩⟩ hz_a0 hk_a0 (by decide) rfl rfl hl.1 rfl (Nat.le_of_ble_eq_true rfl) dX12_areVoicesHere_15) rfl rfl (fun H locs M11 R12 J10 hS f8 g9 E13 => ?_)
    have eR12 := Fr.nil g9 rfl
    subst eR12
    have p14 := E13
    obtain ⟨x17, k15, h16, q18, z20⟩ := p14
    have k15 : M11 a0 13 = x17 := k15
    refine lv_iconst (v := 0) hx hb dX12_areVoicesHere_18 (by decide) ?_
    refine lv_istore_n (lv' := [(2, .int 0), (0, .ref (base + a0)), (1, .int a1)]) hx hb dX12_areVoicesHere_19 rfl hl (by decide) rfl (fun ls hl => ?_)
    have W20_22 : ∀ (n_22 : Nat) (x21 : Int32) (x27 : Int32) (M22 : MT) (R23 : RT) (J24 : JT) (H : Heap) (locs : List Loc) (ls : Array Slot) (h_x21 : iv 0 10 x21) (h_x27 : iv 0 400 x27) (k28 : M22 a0 13 = x27) (w0_22 : nx.toInt ≤ x27.toInt ∧ x27.toInt ≤ tp.toInt) (hm_22 : 10 - x21.toInt < (n_22 : Int)) (hS : SB D cy base Z K N Lt_X12_areVoicesHere LRt_X12_areVoicesHere Ma Ra M22 R23 J24 s H locs) (hl : lv_has ls 3 [(2, .int x21), (0, .ref (base + a0)), (1, .int a1)]), W p l e (md_rm 3 0 0) s m args below meth c H locs 0 0 Q (F0 m 20 ls []) := by
      intro n_22
      induction n_22 with
      | zero =>
        intro x21 x27 M22 R23 J24 H locs ls h_x21 h_x27 k28 w0_22 hm_22 hS hl
        exfalso
        have := (h_a1).1; have := (h_a1).2; have := (h_nx).1; have := (h_nx).2; have := (h_tp).1; have := (h_tp).2; have := (h_x21).1; have := (h_x21).2; omega
      | succ n_22 ih_22 =>
        intro x21 x27 M22 R23 J24 H locs ls h_x21 h_x27 k28 w0_22 hm_22 hS hl
        have f25 := hS.2.2.1
        have g26 := hS.2.2.2
        refine lv_iload_n hx hb dX12_areVoicesHere_20 rfl (lv_at hl 0 rfl) ?_
        refine lv_aload_n hx hb dX12_areVoicesHere_21 rfl (lv_at hl 1 rfl) ?_
        refine tw_geti hx hb hW hown hK hS f_X12_251_11 hz_a0 hk_a0 (lo := 0) (hi := 10) rfl dX12_areVoicesHere_22 (fun x31 k30 h29 => ?_)
        refine lv_icmp_ge (tgt := 57) hx hb dX12_areVoicesHere_25 (by decide) (fun c32 => ?_) (fun c32 => ?_)
        · have q33 : x31.toInt ≤ x21.toInt := ti_le c32
          refine lv_aload_n hx hb dX12_areVoicesHere_57 rfl (lv_at hl 1 rfl) ?_
          refine lv_iconst (v := 1) hx hb dX12_areVoicesHere_58 (by decide) ?_
          refine tw_puti hx hb hW hown hK hS f_X12_260_11 hz_a0 hk_a0 rfl rfl (lo := (-2147483648)) (hi := 2147483647) rfl (iv_mono (iv_c (c := 1) (n := 1) (by decide)) (by decide) (by decide)) rfl dX12_areVoicesHere_59 (fun H locs M36 hS k34 f35 => ?_)
          refine lv_iconst (v := 1) hx hb dX12_areVoicesHere_62 (by decide) ?_
          have k37 : M36 a0 13 = x27 := (Fr.kp (k := 13) f35 hk_a0 rfl).trans k28
          have q38 : nx.toInt ≤ x27.toInt ∧ x27.toInt ≤ tp.toInt := by
            have := (h_a1).1; have := (h_a1).2; have := (h_nx).1; have := (h_nx).2; have := (h_tp).1; have := (h_tp).2; have := (h16).1; have := (h16).2; have := (h_x27).1; have := (h_x27).2; omega
          exact tw_endz hx hb hr hlocks hK hT hS hQ rfl (⟨(iv_mono (iv_c (c := 1) (n := 1) (by decide)) (by decide) (by decide)), ⟨x27, k37, h_x27, q38⟩, (fun h => absurd h (by decide))⟩) dX12_areVoicesHere_63
        · have q39 : x21.toInt < x31.toInt := ti_nle c32
          have h40 : iv 0 9 x21 := iv_ltL (y := x31) h_x21 h29 q39 (by decide)
          have h41 : iv 1 10 x31 := iv_gtL (y := x21) h29 h_x21 q39 (by decide)
          refine lv_aload_n hx hb dX12_areVoicesHere_28 rfl (lv_at hl 1 rfl) ?_
          refine lv_iconst (v := 1) hx hb dX12_areVoicesHere_29 (by decide) ?_
          refine lv_sipush (v := 999) hx hb dX12_areVoicesHere_30 (by decide) ?_
          have k42 : R23 a0 0 = some tb := (Fr.kp (k := 0) g26 hk_a0 rfl).trans k_tb
          have k43 : M22 a0 1 = tp := (Fr.kp (k := 1) f25 hk_a0 rfl).trans k_tp
          have q44 : x27.toInt ≤ tp.toInt := by
            have := (h_a1).1; have := (h_a1).2; have := (h_nx).1; have := (h_nx).2; have := (h_tp).1; have := (h_tp).2; have := (h16).1; have := (h16).2; have := (h_x27).1; have := (h_x27).2; omega
          obtain ⟨x47, k45⟩ : ∃ x, M22 a0 15 = x := ⟨_, rfl⟩
          have h46 : iv (-2147483648) 2147483647 x47 := by rw [← k45]; exact hS.2.1.int hz_a0 hk_a0 (show rgI 12 15 = ((-2147483648), 2147483647) from rfl)
          refine tw_goi hS (md_runV (As := [.int 1, .int 999]) (rest := []) hx hb hml hown hW hK hT hS.1 (t_X12_numberHere l D cy tx base Z K N M22 R23 J24 hS.2.1 a0 hz_a0 hk_a0 1 (iv_mono (iv_c (c := 1) (n := 1) (by decide)) (by decide) (by decide)) 999 (iv_mono (iv_c (c := 999) (n := 999) (by decide)) (by decide) (by decide)) tb k42 x27 k28 (iv_mono h_x27 (by decide) (by decide)) tp k43 (iv_mono h_tp (by decide) (by decide)) q44 x47 k45 (iv_mono h46 (by decide) (by decide))) s_X12_200 ⟨rfl, rfl, ⟨Nat.le_of_ble_eq_true rfl, Nat.le_of_ble_eq_true rfl⟩, ⟨Nat.le_of_ble_eq_true rfl, Nat.le_of_ble_eq_true rfl⟩⟩ hz_a0 hk_a0 (by decide) rfl rfl hl.1 rfl (Nat.le_of_ble_eq_true rfl) dX12_areVoicesHere_33) rfl rfl (fun x54 H locs M51 R52 J50 hS f48 g49 E53 => ?_)
          have eR52 := Fr.nil g49 rfl
          subst eR52
          obtain ⟨h_x54, p55, p56, p57⟩ := E53
          obtain ⟨x60, k58, h59, q61⟩ := p55
          have k58 : M51 a0 13 = x60 := k58
          obtain ⟨x65, k66, h64, q67⟩ := p56
          have k66 : M51 a0 15 = x65 := k66
          have q68 : (1 : Int32).toInt = 1 := (by decide)
          have q69 : (999 : Int32).toInt = 999 := (by decide)
          have z70 : x54 = 0 → ¬ (M51 a0 14).toInt = 0 := p57
          refine lv_if_ne (tgt := 41) hx hb dX12_areVoicesHere_36 (by decide) (fun c71 => ?_) (fun c71 => ?_)
          · have q72 : ¬ x54.toInt = 0 := ti_ne c71
            have h73 : iv 1 1 x54 := ⟨by have := (h_x54).1; have := ((iv_c (c := 0) (n := 0) (by decide))).1; have := ((iv_c (c := 0) (n := 0) (by decide))).2; omega, by have := (h_x54).2; have := ((iv_c (c := 0) (n := 0) (by decide))).1; have := ((iv_c (c := 0) (n := 0) (by decide))).2; omega⟩
            refine lv_aload_n hx hb dX12_areVoicesHere_41 rfl (lv_at hl 1 rfl) ?_
            refine tw_getr hx hb hW hown hK hS f_X12_29_11 hz_a0 hk_a0 (t := 35) (n := 10) rfl dX12_areVoicesHere_42 (fun b74 k75 hz_b74 hk_b74 hn_b74 => ?_)
            have hn_b74 := hn_b74 (by decide)
            refine lv_iload_n hx hb dX12_areVoicesHere_45 rfl (lv_at hl 0 rfl) ?_
            refine lv_aload_n hx hb dX12_areVoicesHere_46 rfl (lv_at hl 1 rfl) ?_
            refine tw_getk hx hb hW hown hK hS f_X12_152_11 hz_a0 hk_a0 (v := x65) k66 dX12_areVoicesHere_47 ?_
            have h76 : iv 0 999 x65 := by
              have := (h_a1).1; have := (h_a1).2; have := (h_nx).1; have := (h_nx).2; have := (h_tp).1; have := (h_tp).2; have := (h64).1; have := (h64).2; exact ⟨by omega, by omega⟩
            refine tw_iast hx hb hK hS hz_b74 hk_b74 (Or.inr (by decide)) hn_b74 h40 ⟨by decide, by decide⟩ h76 (rg_s35 ⟨by decide, by decide⟩) (jl := 0) (jh := 1999999) ⟨by decide, by decide⟩ rfl dX12_areVoicesHere_50 (fun H locs M79 hS k77 f78 => ?_)
            refine tw_iinc (lv' := fun x82 => [(2, .int x82), (0, .ref (base + a0)), (1, .int a1)]) (lo := 1) (hi := 10) hx hb dX12_areVoicesHere_51 hl (k := 0) rfl h40 (by decide) ⟨by decide, by decide⟩ ⟨by decide, by decide⟩ (by decide) (fun _ => rfl) (fun x82 ls e81 h80 hl => ?_)
            refine lv_goto (tgt := 20) hx hb dX12_areVoicesHere_54 (by decide) ?_
            have k83 : M79 a0 13 = x60 := (Fr.kp (k := 13) f78 hk_a0 rfl).trans k58
            have w84 : nx.toInt ≤ x60.toInt ∧ x60.toInt ≤ tp.toInt := by
              have := (h_a1).1; have := (h_a1).2; have := (h_nx).1; have := (h_nx).2; have := (h_tp).1; have := (h_tp).2; have := (h16).1; have := (h16).2; have := (h_x27).1; have := (h_x27).2; have := (h73).1; have := (h73).2; have := (h59).1; have := (h59).2; omega
            have hm85 : 10 - x82.toInt < (n_22 : Int) := by
              have := (h_a1).1; have := (h_a1).2; have := (h_nx).1; have := (h_nx).2; have := (h_tp).1; have := (h_tp).2; have := (h40).1; have := (h40).2; have := (h80).1; have := (h80).2; omega
            exact ih_22 x82 x60 M79 R23 J50 H locs _ (iv_mono h80 (by decide) (by decide)) h59 k83 w84 hm85 hS hl
          · have q86 : x54.toInt = 0 := ti_eq c71
            have z87 := z70 c71
            have h88 : iv 0 0 x54 := ⟨by have := (h_x54).1; have := ((iv_c (c := 0) (n := 0) (by decide))).1; omega, by have := (h_x54).2; have := ((iv_c (c := 0) (n := 0) (by decide))).2; omega⟩
            refine lv_iconst (v := 0) hx hb dX12_areVoicesHere_39 (by decide) ?_
            have q89 : nx.toInt ≤ x60.toInt ∧ x60.toInt ≤ tp.toInt := by
              have := (h_a1).1; have := (h_a1).2; have := (h_nx).1; have := (h_nx).2; have := (h_tp).1; have := (h_tp).2; have := (h16).1; have := (h16).2; have := (h_x27).1; have := (h_x27).2; have := (h88).1; have := (h88).2; have := (h59).1; have := (h59).2; omega
            exact tw_endz hx hb hr hlocks hK hT hS hQ rfl (⟨(iv_mono (iv_c (c := 0) (n := 0) (by decide)) (by decide) (by decide)), ⟨x60, k58, h59, q89⟩, (fun _ => (show ¬ (M51 a0 14).toInt = 0 from z87))⟩) dX12_areVoicesHere_40
    have w90 : nx.toInt ≤ x17.toInt ∧ x17.toInt ≤ tp.toInt := by
      have := (h_a1).1; have := (h_a1).2; have := (h_nx).1; have := (h_nx).2; have := (h_tp).1; have := (h_tp).2; have := (h16).1; have := (h16).2; omega
    have hm91 : 10 - (0 : Int32).toInt < (((11 : Nat) : Int) : Int) := by
      have := (h_a1).1; have := (h_a1).2; have := (h_nx).1; have := (h_nx).2; have := (h_tp).1; have := (h_tp).2; have : (0 : Int32).toInt = 0 := (by decide); omega
    exact W20_22 11 0 x17 M11 Ra J10 H locs _ (iv_mono (iv_c (c := 0) (n := 0) (by decide)) (by decide) (by decide)) h16 k15 w90 hm91 hS hl
  · have q92 : ¬ x3.toInt = 0 := ti_ne c4
    refine lv_aload_n hx hb dX12_areVoicesHere_7 rfl (lv_at hl 0 rfl) ?_
    refine lv_iconst (v := 4) hx hb dX12_areVoicesHere_8 (by decide) ?_
    refine lv_iload_n hx hb dX12_areVoicesHere_9 rfl (lv_at hl 1 rfl) ?_
    refine tw_goi hS (md_runV (As := [.int 4, .int a1]) (rest := []) hx hb hml hown hW hK hT hS.1 (t_X12_fails l D cy tx base Z K N Ma Ra Ja hS.2.1 a0 hz_a0 hk_a0 4 (iv_mono (iv_c (c := 4) (n := 4) (by decide)) (by decide) (by decide)) a1 h_a1) s_X12_148 ⟨rfl, rfl, ⟨Nat.le_of_ble_eq_true rfl, Nat.le_of_ble_eq_true rfl⟩, ⟨Nat.le_of_ble_eq_true rfl, Nat.le_of_ble_eq_true rfl⟩⟩ hz_a0 hk_a0 (by decide) rfl rfl hl.1 rfl (Nat.le_of_ble_eq_true rfl) dX12_areVoicesHere_10) rfl rfl (fun x99 H locs M96 R97 J95 hS f93 g94 E98 => ?_)
    have eR97 := Fr.nil g94 rfl
    subst eR97
    obtain ⟨h_x99, p100⟩ := E98
    have z101 : x99 = 0 → ¬ (M96 a0 14).toInt = 0 := p100
    have z102 := z101 (iv0 h_x99)
    have k103 : M96 a0 13 = nx := (Fr.kp (k := 13) f93 hk_a0 rfl).trans k_nx
    have q104 : nx.toInt ≤ nx.toInt ∧ nx.toInt ≤ tp.toInt := by
      have := (h_a1).1; have := (h_a1).2; have := (h_nx).1; have := (h_nx).2; have := (h_tp).1; have := (h_tp).2; omega
    exact tw_endz hx hb hr hlocks hK hT hS hQ (nar_b (iv_mono h_x99 (by decide) (by decide))) (⟨(iv_mono h_x99 (by decide) (by decide)), ⟨nx, k103, h_nx, q104⟩, (fun _ => (show ¬ (M96 a0 14).toInt = 0 from z102))⟩) dX12_areVoicesHere_13
def Lt_X12_isBentHere : WL := [(12, 13, 16), (14, 0, 2000000)]
def LRt_X12_isBentHere : WL := []
set_option maxRecDepth 100000 in
set_option maxHeartbeats 4000000 in
theorem t_X12_isBentHere (l : Launch) (D : va_G) (cy : Nat → ClassId) (tx : (Nat → Nat) × (Nat → Nat)) (base Z : Nat) (K N : Nat → Nat) (Ma : MT) (Ra : RT) (Ja : JT) (hTy : Ty Z K N Ma Ra) (a0 : Nat) (hz_a0 : a0 < Z) (hk_a0 : K a0 = 12) (tb : Nat) (k_tb : Ra a0 0 = some tb) (nx : Int32) (k_nx : Ma a0 13 = nx) (h_nx : iv 0 400 nx) (tp : Int32) (k_tp : Ma a0 1 = tp) (h_tp : iv 0 400 tp) (hnt : nx.toInt ≤ tp.toInt) : Met l yX12_isBentHere [Cond.code yX12_isBentHere cX12_isBentHere 2 (some .boolean)] (md_rm 3 0 0) (va_Pc [.ref (base + a0)] (md_U D cy tx base Z K N Ma Ra Ja)) (mQi D cy tx base (fun r u => TP Z K N Lt_X12_isBentHere LRt_X12_isBentHere Ma Ra u ∧ (iv 0 1 r ∧ (∃ x0 : Int32, u.2.2.2.1 a0 13 = x0 ∧ iv 0 400 x0 ∧ (nx.toInt ≤ x0.toInt ∧ x0.toInt ≤ tp.toInt)) ∧ (r = 0 → ¬ (u.2.2.2.1 a0 14).toInt = 0)))) 0 0 (fun q => base ≤ q) := by
  refine tw_ofW (L := Lt_X12_isBentHere) (LR := LRt_X12_isBentHere) (by decide) (Nat.le_of_ble_eq_true rfl) hTy ?_
  intro p e s m args below meth c Q ls hx hb hr hlocks hown hml hW hK hT hS hQ hl
  have hl : lv_has ls 2 [(0, .ref (base + a0))] := hl
  obtain ⟨hz_tb, hk_tb, hn_tb⟩ := hTy.refn hz_a0 hk_a0 (show rtR 12 0 = (13, 400, 0) from rfl) k_tb
  have hn_tb := hn_tb (by decide)
  refine lv_aload_n hx hb dX12_isBentHere_0 rfl (lv_at hl 0 rfl) ?_
  have q1 : nx.toInt ≤ tp.toInt := by
    have := (h_nx).1; have := (h_nx).2; have := (h_tp).1; have := (h_tp).2; omega
  refine tw_gov hS (md_runV (As := []) (rest := []) hx hb hml hown hW hK hT hS.1 (t_X12_passWord l D cy tx base Z K N Ma Ra Ja hS.2.1 a0 hz_a0 hk_a0 tb k_tb nx k_nx (iv_mono h_nx (by decide) (by decide)) tp k_tp (iv_mono h_tp (by decide) (by decide)) q1) s_X12_142 ⟨rfl, rfl, ⟨Nat.le_of_ble_eq_true rfl, Nat.le_of_ble_eq_true rfl⟩, ⟨Nat.le_of_ble_eq_true rfl, Nat.le_of_ble_eq_true rfl⟩⟩ hz_a0 hk_a0 (by decide) rfl rfl hl.1 rfl (Nat.le_of_ble_eq_true rfl) dX12_isBentHere_1) rfl rfl (fun H locs M5 R6 J4 hS f2 g3 E7 => ?_)
  have eR6 := Fr.nil g3 rfl
  subst eR6
  have p8 := E7
  obtain ⟨x11, k9, h10, q12, z14⟩ := p8
  have k9 : M5 a0 13 = x11 := k9
  refine lv_aload_n hx hb dX12_isBentHere_4 rfl (lv_at hl 0 rfl) ?_
  refine lv_iconst (v := 0) hx hb dX12_isBentHere_5 (by decide) ?_
  refine lv_aload_n hx hb dX12_isBentHere_6 rfl (lv_at hl 0 rfl) ?_
  refine tw_geti hx hb hW hown hK hS f_X12_251_11 hz_a0 hk_a0 (lo := 0) (hi := 10) rfl dX12_isBentHere_7 (fun x17 k16 h15 => ?_)
  refine lv_iconst (v := 1) hx hb dX12_isBentHere_10 (by decide) ?_
  refine tw_isub (lo := (-1)) (hi := 9) hx hb h15 (iv_c (c := 1) (n := 1) (by decide)) ⟨by decide, by decide⟩ ⟨by decide, by decide⟩ dX12_isBentHere_11 (fun x20 e19 h18 => ?_)
  have e19 : x20.toInt = x17.toInt - 1 := e19
  have k21 : M5 a0 1 = tp := (Fr.kp (k := 1) f2 hk_a0 rfl).trans k_tp
  have q22 : x11.toInt ≤ tp.toInt := by
    have := (h_nx).1; have := (h_nx).2; have := (h_tp).1; have := (h_tp).2; have := (h10).1; have := (h10).2; omega
  obtain ⟨x25, k23⟩ : ∃ x, M5 a0 15 = x := ⟨_, rfl⟩
  have h24 : iv (-2147483648) 2147483647 x25 := by rw [← k23]; exact hS.2.1.int hz_a0 hk_a0 (show rgI 12 15 = ((-2147483648), 2147483647) from rfl)
  refine tw_goi hS (md_runV (As := [.int 0, .int x20]) (rest := []) hx hb hml hown hW hK hT hS.1 (t_X12_numberHere l D cy tx base Z K N M5 Ra J4 hS.2.1 a0 hz_a0 hk_a0 0 (iv_mono (iv_c (c := 0) (n := 0) (by decide)) (by decide) (by decide)) x20 (iv_mono h18 (by decide) (by decide)) tb k_tb x11 k9 (iv_mono h10 (by decide) (by decide)) tp k21 (iv_mono h_tp (by decide) (by decide)) q22 x25 k23 (iv_mono h24 (by decide) (by decide))) s_X12_200 ⟨rfl, rfl, ⟨Nat.le_of_ble_eq_true rfl, Nat.le_of_ble_eq_true rfl⟩, ⟨Nat.le_of_ble_eq_true rfl, Nat.le_of_ble_eq_true rfl⟩⟩ hz_a0 hk_a0 (by decide) rfl rfl hl.1 rfl (Nat.le_of_ble_eq_true rfl) dX12_isBentHere_12) rfl rfl (fun x32 H locs M29 R30 J28 hS f26 g27 E31 => ?_)
  have eR30 := Fr.nil g27 rfl
  subst eR30
  obtain ⟨h_x32, p33, p34, p35⟩ := E31
  obtain ⟨x38, k36, h37, q39⟩ := p33
  have k36 : M29 a0 13 = x38 := k36
  obtain ⟨x43, k44, h42, q45⟩ := p34
  have k44 : M29 a0 15 = x43 := k44
  have q46 : (0 : Int32).toInt = 0 := (by decide)
  have z47 : x32 = 0 → ¬ (M29 a0 14).toInt = 0 := p35
  refine lv_if_ne (tgt := 20) hx hb dX12_isBentHere_15 (by decide) (fun c48 => ?_) (fun c48 => ?_)
  · have q49 : ¬ x32.toInt = 0 := ti_ne c48
    have h50 : iv 1 1 x32 := ⟨by have := (h_x32).1; have := ((iv_c (c := 0) (n := 0) (by decide))).1; have := ((iv_c (c := 0) (n := 0) (by decide))).2; omega, by have := (h_x32).2; have := ((iv_c (c := 0) (n := 0) (by decide))).1; have := ((iv_c (c := 0) (n := 0) (by decide))).2; omega⟩
    refine lv_aload_n hx hb dX12_isBentHere_20 rfl (lv_at hl 0 rfl) ?_
    refine tw_getk hx hb hW hown hK hS f_X12_152_11 hz_a0 hk_a0 (v := x43) k44 dX12_isBentHere_21 ?_
    refine lv_istore_n (lv' := [(1, .int x43), (0, .ref (base + a0))]) hx hb dX12_isBentHere_24 rfl hl (by decide) rfl (fun ls hl => ?_)
    refine lv_aload_n hx hb dX12_isBentHere_25 rfl (lv_at hl 1 rfl) ?_
    refine lv_iconst (v := 0) hx hb dX12_isBentHere_26 (by decide) ?_
    refine lv_iconst (v := 5) hx hb dX12_isBentHere_27 (by decide) ?_
    have k51 : M29 a0 1 = tp := ((Fr.kp (k := 1) f26 hk_a0 rfl).trans (Fr.kp (k := 1) f2 hk_a0 rfl)).trans k_tp
    have q52 : x38.toInt ≤ tp.toInt := by
      have := (h_nx).1; have := (h_nx).2; have := (h_tp).1; have := (h_tp).2; have := (h10).1; have := (h10).2; have := (h50).1; have := (h50).2; have := (h37).1; have := (h37).2; omega
    refine tw_goi hS (md_runV (As := [.int 0, .int 5]) (rest := []) hx hb hml hown hW hK hT hS.1 (t_X12_numberHere l D cy tx base Z K N M29 Ra J28 hS.2.1 a0 hz_a0 hk_a0 0 (iv_mono (iv_c (c := 0) (n := 0) (by decide)) (by decide) (by decide)) 5 (iv_mono (iv_c (c := 5) (n := 5) (by decide)) (by decide) (by decide)) tb k_tb x38 k36 (iv_mono h37 (by decide) (by decide)) tp k51 (iv_mono h_tp (by decide) (by decide)) q52 x43 k44 (iv_mono h42 (by decide) (by decide))) s_X12_200 ⟨rfl, rfl, ⟨Nat.le_of_ble_eq_true rfl, Nat.le_of_ble_eq_true rfl⟩, ⟨Nat.le_of_ble_eq_true rfl, Nat.le_of_ble_eq_true rfl⟩⟩ hz_a0 hk_a0 (by decide) rfl rfl hl.1 rfl (Nat.le_of_ble_eq_true rfl) dX12_isBentHere_28) rfl rfl (fun x59 H locs M56 R57 J55 hS f53 g54 E58 => ?_)
    have eR57 := Fr.nil g54 rfl
    subst eR57
    obtain ⟨h_x59, p60, p61, p62⟩ := E58
    obtain ⟨x65, k63, h64, q66⟩ := p60
    have k63 : M56 a0 13 = x65 := k63
    obtain ⟨x70, k71, h69, q72⟩ := p61
    have k71 : M56 a0 15 = x70 := k71
    have q73 : (0 : Int32).toInt = 0 := (by decide)
    have q74 : (5 : Int32).toInt = 5 := (by decide)
    have z75 : x59 = 0 → ¬ (M56 a0 14).toInt = 0 := p62
    refine lv_if_ne (tgt := 36) hx hb dX12_isBentHere_31 (by decide) (fun c76 => ?_) (fun c76 => ?_)
    · have q77 : ¬ x59.toInt = 0 := ti_ne c76
      have h78 : iv 1 1 x59 := ⟨by have := (h_x59).1; have := ((iv_c (c := 0) (n := 0) (by decide))).1; have := ((iv_c (c := 0) (n := 0) (by decide))).2; omega, by have := (h_x59).2; have := ((iv_c (c := 0) (n := 0) (by decide))).1; have := ((iv_c (c := 0) (n := 0) (by decide))).2; omega⟩
      refine lv_aload_n hx hb dX12_isBentHere_36 rfl (lv_at hl 1 rfl) ?_
      refine tw_getr hx hb hW hown hK hS f_X12_32_11 hz_a0 hk_a0 (t := 14) (n := 10) rfl dX12_isBentHere_37 (fun b79 k80 hz_b79 hk_b79 hn_b79 => ?_)
      have hn_b79 := hn_b79 (by decide)
      refine lv_iload_n hx hb dX12_isBentHere_40 rfl (lv_at hl 0 rfl) ?_
      refine lv_aload_n hx hb dX12_isBentHere_41 rfl (lv_at hl 1 rfl) ?_
      refine tw_getk hx hb hW hown hK hS f_X12_152_11 hz_a0 hk_a0 (v := x70) k71 dX12_isBentHere_42 ?_
      have h81 : iv 0 9 x43 := by
        have := (h_nx).1; have := (h_nx).2; have := (h_tp).1; have := (h_tp).2; have := (h15).1; have := (h15).2; have := (h18).1; have := (h18).2; have := (h42).1; have := (h42).2; exact ⟨by omega, by omega⟩
      refine tw_iast hx hb hK hS hz_b79 hk_b79 (Or.inl rfl) hn_b79 h81 ⟨by decide, by decide⟩ h69 (rg_s14 ⟨by decide, by decide⟩) (jl := 0) (jh := 1999999) ⟨by decide, by decide⟩ rfl dX12_isBentHere_45 (fun H locs M84 hS k82 f83 => ?_)
      refine lv_iconst (v := 1) hx hb dX12_isBentHere_46 (by decide) ?_
      have k85 : M84 a0 13 = x65 := (Fr.kp (k := 13) f83 hk_a0 rfl).trans k63
      have q86 : nx.toInt ≤ x65.toInt ∧ x65.toInt ≤ tp.toInt := by
        have := (h_nx).1; have := (h_nx).2; have := (h_tp).1; have := (h_tp).2; have := (h10).1; have := (h10).2; have := (h50).1; have := (h50).2; have := (h37).1; have := (h37).2; have := (h78).1; have := (h78).2; have := (h64).1; have := (h64).2; omega
      exact tw_endz hx hb hr hlocks hK hT hS hQ rfl (⟨(iv_mono (iv_c (c := 1) (n := 1) (by decide)) (by decide) (by decide)), ⟨x65, k85, h64, q86⟩, (fun h => absurd h (by decide))⟩) dX12_isBentHere_47
    · have q87 : x59.toInt = 0 := ti_eq c76
      have z88 := z75 c76
      have h89 : iv 0 0 x59 := ⟨by have := (h_x59).1; have := ((iv_c (c := 0) (n := 0) (by decide))).1; omega, by have := (h_x59).2; have := ((iv_c (c := 0) (n := 0) (by decide))).2; omega⟩
      refine lv_iconst (v := 0) hx hb dX12_isBentHere_34 (by decide) ?_
      have q90 : nx.toInt ≤ x65.toInt ∧ x65.toInt ≤ tp.toInt := by
        have := (h_nx).1; have := (h_nx).2; have := (h_tp).1; have := (h_tp).2; have := (h10).1; have := (h10).2; have := (h50).1; have := (h50).2; have := (h37).1; have := (h37).2; have := (h89).1; have := (h89).2; have := (h64).1; have := (h64).2; omega
      exact tw_endz hx hb hr hlocks hK hT hS hQ rfl (⟨(iv_mono (iv_c (c := 0) (n := 0) (by decide)) (by decide) (by decide)), ⟨x65, k63, h64, q90⟩, (fun _ => (show ¬ (M56 a0 14).toInt = 0 from z88))⟩) dX12_isBentHere_35
  · have q91 : x32.toInt = 0 := ti_eq c48
    have z92 := z47 c48
    have h93 : iv 0 0 x32 := ⟨by have := (h_x32).1; have := ((iv_c (c := 0) (n := 0) (by decide))).1; omega, by have := (h_x32).2; have := ((iv_c (c := 0) (n := 0) (by decide))).2; omega⟩
    refine lv_iconst (v := 0) hx hb dX12_isBentHere_18 (by decide) ?_
    have q94 : nx.toInt ≤ x38.toInt ∧ x38.toInt ≤ tp.toInt := by
      have := (h_nx).1; have := (h_nx).2; have := (h_tp).1; have := (h_tp).2; have := (h10).1; have := (h10).2; have := (h93).1; have := (h93).2; have := (h37).1; have := (h37).2; omega
    exact tw_endz hx hb hr hlocks hK hT hS hQ rfl (⟨(iv_mono (iv_c (c := 0) (n := 0) (by decide)) (by decide) (by decide)), ⟨x38, k36, h37, q94⟩, (fun _ => (show ¬ (M29 a0 14).toInt = 0 from z92))⟩) dX12_isBentHere_19
def Lt_X12_isPointHere : WL := [(12, 8, 9), (12, 13, 16), (14, 0, 2000000)]
def LRt_X12_isPointHere : WL := []
set_option maxRecDepth 100000 in
set_option maxHeartbeats 4000000 in
theorem t_X12_isPointHere (l : Launch) (D : va_G) (cy : Nat → ClassId) (tx : (Nat → Nat) × (Nat → Nat)) (base Z : Nat) (K N : Nat → Nat) (Ma : MT) (Ra : RT) (Ja : JT) (hTy : Ty Z K N Ma Ra) (a0 : Nat) (hz_a0 : a0 < Z) (hk_a0 : K a0 = 12) (a1 : Int32) (h_a1 : iv 0 400 a1) (tb : Nat) (k_tb : Ra a0 0 = some tb) (nx : Int32) (k_nx : Ma a0 13 = nx) (h_nx : iv 0 400 nx) (tp : Int32) (k_tp : Ma a0 1 = tp) (h_tp : iv 0 400 tp) (hnt : nx.toInt ≤ tp.toInt) (pr : Int32) (k_pr : Ma a0 8 = pr) (h_pr : iv 0 12 pr) : Met l yX12_isPointHere [Cond.code yX12_isPointHere cX12_isPointHere 5 (some .boolean)] (md_rm 3 0 0) (va_Pc [.ref (base + a0), .int a1] (md_U D cy tx base Z K N Ma Ra Ja)) (mQi D cy tx base (fun r u => TP Z K N Lt_X12_isPointHere LRt_X12_isPointHere Ma Ra u ∧ (iv 0 1 r ∧ (∃ x0 : Int32, u.2.2.2.1 a0 13 = x0 ∧ iv 0 400 x0 ∧ (nx.toInt ≤ x0.toInt ∧ x0.toInt ≤ tp.toInt)) ∧ (r = 0 → ¬ (u.2.2.2.1 a0 14).toInt = 0)))) 0 0 (fun q => base ≤ q) := by
  refine tw_ofW (L := Lt_X12_isPointHere) (LR := LRt_X12_isPointHere) (by decide) (Nat.le_of_ble_eq_true rfl) hTy ?_
  intro p e s m args below meth c Q ls hx hb hr hlocks hown hml hW hK hT hS hQ hl
  have hl : lv_has ls 5 [(0, .ref (base + a0)), (1, .int a1)] := hl
  obtain ⟨hz_tb, hk_tb, hn_tb⟩ := hTy.refn hz_a0 hk_a0 (show rtR 12 0 = (13, 400, 0) from rfl) k_tb
  have hn_tb := hn_tb (by decide)
  refine lv_aload_n hx hb dX12_isPointHere_0 rfl (lv_at hl 0 rfl) ?_
  refine tw_getk hx hb hW hown hK hS f_X12_254_11 hz_a0 hk_a0 (v := pr) k_pr dX12_isPointHere_1 ?_
  refine lv_bipush (v := 12) hx hb dX12_isPointHere_4 (by decide) ?_
  refine lv_icmp_ne (tgt := 16) hx hb dX12_isPointHere_6 (by decide) (fun c1 => ?_) (fun c1 => ?_)
  · have q2 : ¬ pr.toInt = 12 := ti_ne c1
    have h3 : iv 0 11 pr := ⟨by have := (h_pr).1; have := ((iv_c (c := 12) (n := 12) (by decide))).1; have := ((iv_c (c := 12) (n := 12) (by decide))).2; omega, by have := (h_pr).2; have := ((iv_c (c := 12) (n := 12) (by decide))).1; have := ((iv_c (c := 12) (n := 12) (by decide))).2; omega⟩
    refine lv_aload_n hx hb dX12_isPointHere_16 rfl (lv_at hl 0 rfl) ?_
    have q4 : nx.toInt ≤ tp.toInt := by
      have := (h_a1).1; have := (h_a1).2; have := (h_nx).1; have := (h_nx).2; have := (h3).1; have := (h3).2; have := (h_tp).1; have := (h_tp).2; omega
    refine tw_gov hS (md_runV (As := []) (rest := []) hx hb hml hown hW hK hT hS.1 (t_X12_passWord l D cy tx base Z K N Ma Ra Ja hS.2.1 a0 hz_a0 hk_a0 tb k_tb nx k_nx (iv_mono h_nx (by decide) (by decide)) tp k_tp (iv_mono h_tp (by decide) (by decide)) q4) s_X12_142 ⟨rfl, rfl, ⟨Nat.le_of_ble_eq_true rfl, Nat.le_of_ble_eq_true rfl⟩, ⟨Nat.le_of_ble_eq_true rfl, Nat.le_of_ble_eq_true rfl⟩⟩ hz_a0 hk_a0 (by decide) rfl rfl hl.1 rfl (Nat.le_of_ble_eq_true rfl) dX12_isPointHere_17) rfl rfl (fun H locs M8 R9 J7 hS f5 g6 E10 => ?_)
    have eR9 := Fr.nil g6 rfl
    subst eR9
    have p11 := E10
    obtain ⟨x14, k12, h13, q15, z17⟩ := p11
    have k12 : M8 a0 13 = x14 := k12
    refine lv_iconst (v := 0) hx hb dX12_isPointHere_20 (by decide) ?_
    refine lv_istore_n (lv' := [(2, .int 0), (0, .ref (base + a0)), (1, .int a1)]) hx hb dX12_isPointHere_21 rfl hl (by decide) rfl (fun ls hl => ?_)
    have W22_19 : ∀ (n_19 : Nat) (x18 : Int32) (x24 : Int32) (x26 : Int32) (M19 : MT) (R20 : RT) (J21 : JT) (H : Heap) (locs : List Loc) (ls : Array Slot) (h_x18 : iv 0 10 x18) (h_x24 : iv 0 400 x24) (k25 : M19 a0 13 = x24) (h_x26 : iv 0 11 x26) (k27 : M19 a0 8 = x26) (w0_19 : nx.toInt ≤ x24.toInt ∧ x24.toInt ≤ tp.toInt) (hm_19 : 10 - x18.toInt < (n_19 : Int)) (hS : SB D cy base Z K N Lt_X12_isPointHere LRt_X12_isPointHere Ma Ra M19 R20 J21 s H locs) (hl : lv_has ls 5 [(2, .int x18), (0, .ref (base + a0)), (1, .int a1)]), W p l e (md_rm 3 0 0) s m args below meth c H locs 0 0 Q (F0 m 22 ls []) := by
      intro n_19
      induction n_19 with
      | zero =>
        intro x18 x24 x26 M19 R20 J21 H locs ls h_x18 h_x24 k25 h_x26 k27 w0_19 hm_19 hS hl
        exfalso
        have := (h_a1).1; have := (h_a1).2; have := (h_nx).1; have := (h_nx).2; have := (h3).1; have := (h3).2; have := (h_tp).1; have := (h_tp).2; have := (h_x18).1; have := (h_x18).2; omega
      | succ n_19 ih_19 =>
        intro x18 x24 x26 M19 R20 J21 H locs ls h_x18 h_x24 k25 h_x26 k27 w0_19 hm_19 hS hl
        have f22 := hS.2.2.1
        have g23 := hS.2.2.2
        refine lv_iload_n hx hb dX12_isPointHere_22 rfl (lv_at hl 0 rfl) ?_
        refine lv_aload_n hx hb dX12_isPointHere_23 rfl (lv_at hl 1 rfl) ?_
        refine tw_geti hx hb hW hown hK hS f_X12_251_11 hz_a0 hk_a0 (lo := 0) (hi := 10) rfl dX12_isPointHere_24 (fun x30 k29 h28 => ?_)
        refine lv_icmp_ge (tgt := 141) hx hb dX12_isPointHere_27 (by decide) (fun c31 => ?_) (fun c31 => ?_)
        · have q32 : x30.toInt ≤ x18.toInt := ti_le c31
          refine lv_aload_n hx hb dX12_isPointHere_141 rfl (lv_at hl 1 rfl) ?_
          refine lv_dup hx hb dX12_isPointHere_142 rfl ?_
          refine tw_getk hx hb hW hown hK hS f_X12_254_11 hz_a0 hk_a0 (v := x26) k27 dX12_isPointHere_143 ?_
          refine lv_iconst (v := 1) hx hb dX12_isPointHere_146 (by decide) ?_
          refine tw_iadd (lo := 1) (hi := 12) hx hb h_x26 (iv_c (c := 1) (n := 1) (by decide)) ⟨by decide, by decide⟩ ⟨by decide, by decide⟩ dX12_isPointHere_147 (fun x35 e34 h33 => ?_)
          have e34 : x35.toInt = x26.toInt + 1 := e34
          refine tw_puti hx hb hW hown hK hS f_X12_254_11 hz_a0 hk_a0 rfl rfl (lo := 0) (hi := 12) rfl (iv_mono h33 (by decide) (by decide)) rfl dX12_isPointHere_148 (fun H locs M38 hS k36 f37 => ?_)
          refine lv_iconst (v := 1) hx hb dX12_isPointHere_151 (by decide) ?_
          have k39 : M38 a0 13 = x24 := (Fr.kp (k := 13) f37 hk_a0 rfl).trans k25
          have q40 : nx.toInt ≤ x24.toInt ∧ x24.toInt ≤ tp.toInt := by
            have := (h_a1).1; have := (h_a1).2; have := (h_nx).1; have := (h_nx).2; have := (h3).1; have := (h3).2; have := (h_tp).1; have := (h_tp).2; have := (h13).1; have := (h13).2; have := (h_x24).1; have := (h_x24).2; omega
          exact tw_endz hx hb hr hlocks hK hT hS hQ rfl (⟨(iv_mono (iv_c (c := 1) (n := 1) (by decide)) (by decide) (by decide)), ⟨x24, k39, h_x24, q40⟩, (fun h => absurd h (by decide))⟩) dX12_isPointHere_152
        · have q41 : x18.toInt < x30.toInt := ti_nle c31
          have h42 : iv 0 9 x18 := iv_ltL (y := x30) h_x18 h28 q41 (by decide)
          have h43 : iv 1 10 x30 := iv_gtL (y := x18) h28 h_x18 q41 (by decide)
          refine lv_aload_n hx hb dX12_isPointHere_30 rfl (lv_at hl 1 rfl) ?_
          have k44 : R20 a0 0 = some tb := (Fr.kp (k := 0) g23 hk_a0 rfl).trans k_tb
          have k45 : M19 a0 1 = tp := (Fr.kp (k := 1) f22 hk_a0 rfl).trans k_tp
          have q46 : x24.toInt ≤ tp.toInt := by
            have := (h_a1).1; have := (h_a1).2; have := (h_nx).1; have := (h_nx).2; have := (h3).1; have := (h3).2; have := (h_tp).1; have := (h_tp).2; have := (h13).1; have := (h13).2; have := (h_x24).1; have := (h_x24).2; omega
          refine tw_goi hS (md_runV (As := []) (rest := []) hx hb hml hown hW hK hT hS.1 (t_X12_see l D cy tx base Z K N M19 R20 J21 hS.2.1 a0 hz_a0 hk_a0 tb k44 x24 k25 (iv_mono h_x24 (by decide) (by decide)) tp k45 (iv_mono h_tp (by decide) (by decide)) q46) s_X12_130 ⟨rfl, rfl, ⟨Nat.le_of_ble_eq_true rfl, Nat.le_of_ble_eq_true rfl⟩, ⟨Nat.le_of_ble_eq_true rfl, Nat.le_of_ble_eq_true rfl⟩⟩ hz_a0 hk_a0 (by decide) rfl rfl hl.1 rfl (Nat.le_of_ble_eq_true rfl) dX12_isPointHere_31) rfl rfl (fun x53 H locs M50 R51 J49 hS f47 g48 E52 => ?_)
          have eR51 := Fr.nil g48 rfl
          subst eR51
          obtain ⟨h_x53, p54⟩ := E52
          obtain ⟨x57, k55, h56, q58, z59⟩ := p54
          have k55 : M50 a0 13 = x57 := k55
          refine lv_istore_n (lv' := [(3, .int x53), (2, .int x18), (0, .ref (base + a0)), (1, .int a1)]) hx hb dX12_isPointHere_34 rfl hl (by decide) rfl (fun ls hl => ?_)
          refine lv_iload_n hx hb dX12_isPointHere_35 rfl (lv_at hl 0 rfl) ?_
          refine lv_bipush (v := 43) hx hb dX12_isPointHere_36 (by decide) ?_
          refine lv_icmp_eq (tgt := 47) hx hb dX12_isPointHere_38 (by decide) (fun c61 => ?_) (fun c61 => ?_)
          · have q62 : x53.toInt = 43 := ti_eq c61
            have h63 : iv 43 43 x53 := ⟨by have := (h_x53).1; have := ((iv_c (c := 43) (n := 43) (by decide))).1; omega, by have := (h_x53).2; have := ((iv_c (c := 43) (n := 43) (by decide))).2; omega⟩
            refine lv_iconst (v := 1) hx hb dX12_isPointHere_47 (by decide) ?_
            refine lv_goto (tgt := 52) hx hb dX12_isPointHere_48 (by decide) ?_
            refine lv_istore (lv' := [(4, .int 1), (3, .int x53), (2, .int x18), (0, .ref (base + a0)), (1, .int a1)]) hx hb dX12_isPointHere_52 hl (by decide) rfl (fun ls hl => ?_)
            refine lv_iload hx hb dX12_isPointHere_54 (lv_at hl 0 rfl) ?_
            refine lv_if_eq (tgt := 69) hx hb dX12_isPointHere_56 (by decide) (fun h => absurd h (by decide)) (fun _ => ?_)
            refine lv_aload_n hx hb dX12_isPointHere_59 rfl (lv_at hl 3 rfl) ?_
            refine lv_dup hx hb dX12_isPointHere_60 rfl ?_
            refine tw_getk hx hb hW hown hK hS f_X12_127_11 hz_a0 hk_a0 (v := x57) k55 dX12_isPointHere_61 ?_
            refine lv_iconst (v := 1) hx hb dX12_isPointHere_64 (by decide) ?_
            refine tw_iadd (lo := 1) (hi := 401) hx hb h56 (iv_c (c := 1) (n := 1) (by decide)) ⟨by decide, by decide⟩ ⟨by decide, by decide⟩ dX12_isPointHere_65 (fun x66 e65 h64 => ?_)
            have e65 : x66.toInt = x57.toInt + 1 := e65
            have h69 : iv 0 400 x66 := by
              have := (h_a1).1; have := (h_a1).2; have := (h_nx).1; have := (h_nx).2; have := (h3).1; have := (h3).2; have := (h_tp).1; have := (h_tp).2; have := (h13).1; have := (h13).2; have := (h_x24).1; have := (h_x24).2; have := (h63).1; have := (h63).2; have := (h56).1; have := (h56).2; have := (h64).1; have := (h64).2; exact ⟨by omega, by omega⟩
            refine tw_puti hx hb hW hown hK hS f_X12_127_11 hz_a0 hk_a0 rfl rfl (lo := 0) (hi := 400) rfl h69 rfl dX12_isPointHere_66 (fun H locs M70 hS k67 f68 => ?_)
            refine lv_iload hx hb dX12_isPointHere_69 (lv_at hl 0 rfl) ?_
            refine lv_if_eq (tgt := 91) hx hb dX12_isPointHere_71 (by decide) (fun h => absurd h (by decide)) (fun _ => ?_)
            refine lv_aload_n hx hb dX12_isPointHere_74 rfl (lv_at hl 3 rfl) ?_
            refine tw_goi hS (md_runV (As := []) (rest := []) hx hb hml hown hW hK hT hS.1 (t_X12_isDigitHere l D cy tx base Z K N M70 R20 J49 hS.2.1 a0 hz_a0 hk_a0) s_X12_257 ⟨rfl, rfl, ⟨Nat.le_of_ble_eq_true rfl, Nat.le_of_ble_eq_true rfl⟩, ⟨Nat.le_of_ble_eq_true rfl, Nat.le_of_ble_eq_true rfl⟩⟩ hz_a0 hk_a0 (by decide) rfl rfl hl.1 rfl (Nat.le_of_ble_eq_true rfl) dX12_isPointHere_75) rfl rfl (fun x77 H locs M74 R75 J73 hS f71 g72 E76 => ?_)
            have eM74 := Fr.nil f71 rfl
            subst eM74
            have eR75 := Fr.nil g72 rfl
            subst eR75
            have h_x77 := E76
            refine lv_if_ne (tgt := 91) hx hb dX12_isPointHere_78 (by decide) (fun c78 => ?_) (fun c78 => ?_)
            · have q79 : ¬ x77.toInt = 0 := ti_ne c78
              have h80 : iv 1 1 x77 := ⟨by have := (h_x77).1; have := ((iv_c (c := 0) (n := 0) (by decide))).1; have := ((iv_c (c := 0) (n := 0) (by decide))).2; omega, by have := (h_x77).2; have := ((iv_c (c := 0) (n := 0) (by decide))).1; have := ((iv_c (c := 0) (n := 0) (by decide))).2; omega⟩
              refine lv_aload_n hx hb dX12_isPointHere_91 rfl (lv_at hl 3 rfl) ?_
              refine lv_iconst (v := 0) hx hb dX12_isPointHere_92 (by decide) ?_
              refine lv_bipush (v := 99) hx hb dX12_isPointHere_93 (by decide) ?_
              have k81 : R20 a0 0 = some tb := (Fr.kp (k := 0) g23 hk_a0 rfl).trans k_tb
              have k82 : M70 a0 1 = tp := ((Fr.kp (k := 1) f68 hk_a0 rfl).trans ((Fr.kp (k := 1) f47 hk_a0 rfl).trans (Fr.kp (k := 1) f22 hk_a0 rfl))).trans k_tp
              have q83 : x66.toInt ≤ tp.toInt := by
                have := (h_a1).1; have := (h_a1).2; have := (h_nx).1; have := (h_nx).2; have := (h3).1; have := (h3).2; have := (h_tp).1; have := (h_tp).2; have := (h13).1; have := (h13).2; have := (h_x24).1; have := (h_x24).2; have := (h63).1; have := (h63).2; have := (h56).1; have := (h56).2; have := (h69).1; have := (h69).2; omega
              obtain ⟨x86, k84⟩ : ∃ x, M70 a0 15 = x := ⟨_, rfl⟩
              have h85 : iv (-2147483648) 2147483647 x86 := by rw [← k84]; exact hS.2.1.int hz_a0 hk_a0 (show rgI 12 15 = ((-2147483648), 2147483647) from rfl)
              refine tw_goi hS (md_runV (As := [.int 0, .int 99]) (rest := []) hx hb hml hown hW hK hT hS.1 (t_X12_numberHere l D cy tx base Z K N M70 R20 J73 hS.2.1 a0 hz_a0 hk_a0 0 (iv_mono (iv_c (c := 0) (n := 0) (by decide)) (by decide) (by decide)) 99 (iv_mono (iv_c (c := 99) (n := 99) (by decide)) (by decide) (by decide)) tb k81 x66 k67 (iv_mono h69 (by decide) (by decide)) tp k82 (iv_mono h_tp (by decide) (by decide)) q83 x86 k84 (iv_mono h85 (by decide) (by decide))) s_X12_200 ⟨rfl, rfl, ⟨Nat.le_of_ble_eq_true rfl, Nat.le_of_ble_eq_true rfl⟩, ⟨Nat.le_of_ble_eq_true rfl, Nat.le_of_ble_eq_true rfl⟩⟩ hz_a0 hk_a0 (by decide) rfl rfl hl.1 rfl (Nat.le_of_ble_eq_true rfl) dX12_isPointHere_95) rfl rfl (fun x93 H locs M90 R91 J89 hS f87 g88 E92 => ?_)
              have eR91 := Fr.nil g88 rfl
              subst eR91
              obtain ⟨h_x93, p94, p95, p96⟩ := E92
              obtain ⟨x99, k97, h98, q100⟩ := p94
              have k97 : M90 a0 13 = x99 := k97
              obtain ⟨x104, k105, h103, q106⟩ := p95
              have k105 : M90 a0 15 = x104 := k105
              have q107 : (0 : Int32).toInt = 0 := (by decide)
              have q108 : (99 : Int32).toInt = 99 := (by decide)
              have z109 : x93 = 0 → ¬ (M90 a0 14).toInt = 0 := p96
              refine lv_if_ne (tgt := 103) hx hb dX12_isPointHere_98 (by decide) (fun c110 => ?_) (fun c110 => ?_)
              · have q111 : ¬ x93.toInt = 0 := ti_ne c110
                have h112 : iv 1 1 x93 := ⟨by have := (h_x93).1; have := ((iv_c (c := 0) (n := 0) (by decide))).1; have := ((iv_c (c := 0) (n := 0) (by decide))).2; omega, by have := (h_x93).2; have := ((iv_c (c := 0) (n := 0) (by decide))).1; have := ((iv_c (c := 0) (n := 0) (by decide))).2; omega⟩
                refine lv_aload_n hx hb dX12_isPointHere_103 rfl (lv_at hl 3 rfl) ?_
                refine tw_getr hx hb hW hown hK hS f_X12_26_11 hz_a0 hk_a0 (t := 14) (n := 120) rfl dX12_isPointHere_104 (fun b113 k114 hz_b113 hk_b113 hn_b113 => ?_)
                have hn_b113 := hn_b113 (by decide)
                refine lv_bipush (v := 10) hx hb dX12_isPointHere_107 (by decide) ?_
                refine lv_aload_n hx hb dX12_isPointHere_109 rfl (lv_at hl 3 rfl) ?_
                have k115 : M90 a0 8 = x26 := ((Fr.kp (k := 8) f87 hk_a0 rfl).trans ((Fr.kp (k := 8) f68 hk_a0 rfl).trans (Fr.kp (k := 8) f47 hk_a0 rfl))).trans k27
                refine tw_getk hx hb hW hown hK hS f_X12_254_11 hz_a0 hk_a0 (v := x26) k115 dX12_isPointHere_110 ?_
                refine tw_icmul (k := 10) (lo := 0) (hi := 110) hx hb (by decide) h_x26 (by decide) ⟨by decide, by decide⟩ ⟨by decide, by decide⟩ dX12_isPointHere_113 (fun x118 e117 h116 => ?_)
                refine lv_iload_n hx hb dX12_isPointHere_114 rfl (lv_at hl 2 rfl) ?_
                refine tw_iadd (lo := 0) (hi := 119) hx hb h116 h42 ⟨by decide, by decide⟩ ⟨by decide, by decide⟩ dX12_isPointHere_115 (fun x121 e120 h119 => ?_)
                refine lv_iload_n hx hb dX12_isPointHere_116 rfl (lv_at hl 1 rfl) ?_
                refine lv_bipush (v := 45) hx hb dX12_isPointHere_117 (by decide) ?_
                refine lv_icmp_ne (tgt := 130) hx hb dX12_isPointHere_119 (by decide) (fun c122 => ?_) (fun c122 => False.elim (by have q : x53.toInt = 45 := ti_eq c122; have := (h63).1; have := (h63).2; omega))
                have q123 : ¬ x53.toInt = 45 := ti_ne c122
                refine lv_aload_n hx hb dX12_isPointHere_130 rfl (lv_at hl 3 rfl) ?_
                refine tw_getk hx hb hW hown hK hS f_X12_152_11 hz_a0 hk_a0 (v := x104) k105 dX12_isPointHere_131 ?_
                refine tw_iast hx hb hK hS hz_b113 hk_b113 (Or.inl rfl) hn_b113 h119 ⟨by decide, by decide⟩ h103 (rg_s14 ⟨by decide, by decide⟩) (jl := 0) (jh := 1999999) ⟨by decide, by decide⟩ rfl dX12_isPointHere_134 (fun H locs M126 hS k124 f125 => ?_)
                refine tw_iinc (lv' := fun x129 => [(2, .int x129), (4, .int 1), (3, .int x53), (0, .ref (base + a0)), (1, .int a1)]) (lo := 1) (hi := 10) hx hb dX12_isPointHere_135 hl (k := 2) rfl h42 (by decide) ⟨by decide, by decide⟩ ⟨by decide, by decide⟩ (by decide) (fun _ => rfl) (fun x129 ls e128 h127 hl => ?_)
                refine lv_goto (tgt := 22) hx hb dX12_isPointHere_138 (by decide) ?_
                have k130 : M126 a0 13 = x99 := (Fr.kp (k := 13) f125 hk_a0 rfl).trans k97
                have k131 : M126 a0 8 = x26 := (Fr.kp (k := 8) f125 hk_a0 rfl).trans k115
                have w132 : nx.toInt ≤ x99.toInt ∧ x99.toInt ≤ tp.toInt := by
                  have := (h_a1).1; have := (h_a1).2; have := (h_nx).1; have := (h_nx).2; have := (h3).1; have := (h3).2; have := (h_tp).1; have := (h_tp).2; have := (h13).1; have := (h13).2; have := (h_x24).1; have := (h_x24).2; have := (h63).1; have := (h63).2; have := (h56).1; have := (h56).2; have := (h69).1; have := (h69).2; have := (h112).1; have := (h112).2; have := (h98).1; have := (h98).2; omega
                have hm133 : 10 - x129.toInt < (n_19 : Int) := by
                  have := (h_a1).1; have := (h_a1).2; have := (h_nx).1; have := (h_nx).2; have := (h3).1; have := (h3).2; have := (h_tp).1; have := (h_tp).2; have := (h119).1; have := (h119).2; have := (h127).1; have := (h127).2; have := (h42).1; have := (h42).2; omega
                exact ih_19 x129 x99 x26 M126 R20 J89 H locs _ (iv_mono h127 (by decide) (by decide)) h98 k130 h_x26 k131 w132 hm133 hS (lv_sub hl [0, 3, 4] rfl)
              · have q134 : x93.toInt = 0 := ti_eq c110
                have z135 := z109 c110
                have h136 : iv 0 0 x93 := ⟨by have := (h_x93).1; have := ((iv_c (c := 0) (n := 0) (by decide))).1; omega, by have := (h_x93).2; have := ((iv_c (c := 0) (n := 0) (by decide))).2; omega⟩
                refine lv_iconst (v := 0) hx hb dX12_isPointHere_101 (by decide) ?_
                have q137 : nx.toInt ≤ x99.toInt ∧ x99.toInt ≤ tp.toInt := by
                  have := (h_a1).1; have := (h_a1).2; have := (h_nx).1; have := (h_nx).2; have := (h3).1; have := (h3).2; have := (h_tp).1; have := (h_tp).2; have := (h13).1; have := (h13).2; have := (h_x24).1; have := (h_x24).2; have := (h63).1; have := (h63).2; have := (h56).1; have := (h56).2; have := (h69).1; have := (h69).2; have := (h136).1; have := (h136).2; have := (h98).1; have := (h98).2; omega
                exact tw_endz hx hb hr hlocks hK hT hS hQ rfl (⟨(iv_mono (iv_c (c := 0) (n := 0) (by decide)) (by decide) (by decide)), ⟨x99, k97, h98, q137⟩, (fun _ => (show ¬ (M90 a0 14).toInt = 0 from z135))⟩) dX12_isPointHere_102
            · have q138 : x77.toInt = 0 := ti_eq c78
              have h139 : iv 0 0 x77 := ⟨by have := (h_x77).1; have := ((iv_c (c := 0) (n := 0) (by decide))).1; omega, by have := (h_x77).2; have := ((iv_c (c := 0) (n := 0) (by decide))).2; omega⟩
              refine lv_aload_n hx hb dX12_isPointHere_81 rfl (lv_at hl 3 rfl) ?_
              refine lv_iconst (v := 0) hx hb dX12_isPointHere_82 (by decide) ?_
              refine lv_aload_n hx hb dX12_isPointHere_83 rfl (lv_at hl 3 rfl) ?_
              refine tw_getk hx hb hW hown hK hS f_X12_127_11 hz_a0 hk_a0 (v := x66) k67 dX12_isPointHere_84 ?_
              refine tw_goi hS (md_runV (As := [.int 0, .int x66]) (rest := []) hx hb hml hown hW hK hT hS.1 (t_X12_fails l D cy tx base Z K N M70 R20 J73 hS.2.1 a0 hz_a0 hk_a0 0 (iv_mono (iv_c (c := 0) (n := 0) (by decide)) (by decide) (by decide)) x66 h69) s_X12_148 ⟨rfl, rfl, ⟨Nat.le_of_ble_eq_true rfl, Nat.le_of_ble_eq_true rfl⟩, ⟨Nat.le_of_ble_eq_true rfl, Nat.le_of_ble_eq_true rfl⟩⟩ hz_a0 hk_a0 (by decide) rfl rfl hl.1 rfl (Nat.le_of_ble_eq_true rfl) dX12_isPointHere_87) rfl rfl (fun x146 H locs M143 R144 J142 hS f140 g141 E145 => ?_)
              have eR144 := Fr.nil g141 rfl
              subst eR144
              obtain ⟨h_x146, p147⟩ := E145
              have z148 : x146 = 0 → ¬ (M143 a0 14).toInt = 0 := p147
              have z149 := z148 (iv0 h_x146)
              have k150 : M143 a0 13 = x66 := (Fr.kp (k := 13) f140 hk_a0 rfl).trans k67
              have q151 : nx.toInt ≤ x66.toInt ∧ x66.toInt ≤ tp.toInt := by
                have := (h_a1).1; have := (h_a1).2; have := (h_nx).1; have := (h_nx).2; have := (h3).1; have := (h3).2; have := (h_tp).1; have := (h_tp).2; have := (h13).1; have := (h13).2; have := (h_x24).1; have := (h_x24).2; have := (h63).1; have := (h63).2; have := (h56).1; have := (h56).2; have := (h69).1; have := (h69).2; omega
              exact tw_endz hx hb hr hlocks hK hT hS hQ (nar_b (iv_mono h_x146 (by decide) (by decide))) (⟨(iv_mono h_x146 (by decide) (by decide)), ⟨x66, k150, h69, q151⟩, (fun _ => (show ¬ (M143 a0 14).toInt = 0 from z149))⟩) dX12_isPointHere_90
          · have q152 : ¬ x53.toInt = 43 := ti_ne c61
            refine lv_iload_n hx hb dX12_isPointHere_41 rfl (lv_at hl 0 rfl) ?_
            refine lv_bipush (v := 45) hx hb dX12_isPointHere_42 (by decide) ?_
            refine lv_icmp_ne (tgt := 51) hx hb dX12_isPointHere_44 (by decide) (fun c153 => ?_) (fun c153 => ?_)
            · have q154 : ¬ x53.toInt = 45 := ti_ne c153
              refine lv_iconst (v := 0) hx hb dX12_isPointHere_51 (by decide) ?_
              refine lv_istore (lv' := [(4, .int 0), (3, .int x53), (2, .int x18), (0, .ref (base + a0)), (1, .int a1)]) hx hb dX12_isPointHere_52 hl (by decide) rfl (fun ls hl => ?_)
              refine lv_iload hx hb dX12_isPointHere_54 (lv_at hl 0 rfl) ?_
              refine lv_if_eq (tgt := 69) hx hb dX12_isPointHere_56 (by decide) (fun _ => ?_) (fun h => absurd h (by decide))
              refine lv_iload hx hb dX12_isPointHere_69 (lv_at hl 0 rfl) ?_
              refine lv_if_eq (tgt := 91) hx hb dX12_isPointHere_71 (by decide) (fun _ => ?_) (fun h => absurd h (by decide))
              refine lv_aload_n hx hb dX12_isPointHere_91 rfl (lv_at hl 3 rfl) ?_
              refine lv_iconst (v := 0) hx hb dX12_isPointHere_92 (by decide) ?_
              refine lv_bipush (v := 99) hx hb dX12_isPointHere_93 (by decide) ?_
              have k155 : R20 a0 0 = some tb := (Fr.kp (k := 0) g23 hk_a0 rfl).trans k_tb
              have k156 : M50 a0 1 = tp := ((Fr.kp (k := 1) f47 hk_a0 rfl).trans (Fr.kp (k := 1) f22 hk_a0 rfl)).trans k_tp
              have q157 : x57.toInt ≤ tp.toInt := by
                have := (h_a1).1; have := (h_a1).2; have := (h_nx).1; have := (h_nx).2; have := (h3).1; have := (h3).2; have := (h_tp).1; have := (h_tp).2; have := (h13).1; have := (h13).2; have := (h_x24).1; have := (h_x24).2; have := (h_x53).1; have := (h_x53).2; have := (h56).1; have := (h56).2; omega
              obtain ⟨x160, k158⟩ : ∃ x, M50 a0 15 = x := ⟨_, rfl⟩
              have h159 : iv (-2147483648) 2147483647 x160 := by rw [← k158]; exact hS.2.1.int hz_a0 hk_a0 (show rgI 12 15 = ((-2147483648), 2147483647) from rfl)
              refine tw_goi hS (md_runV (As := [.int 0, .int 99]) (rest := []) hx hb hml hown hW hK hT hS.1 (t_X12_numberHere l D cy tx base Z K N M50 R20 J49 hS.2.1 a0 hz_a0 hk_a0 0 (iv_mono (iv_c (c := 0) (n := 0) (by decide)) (by decide) (by decide)) 99 (iv_mono (iv_c (c := 99) (n := 99) (by decide)) (by decide) (by decide)) tb k155 x57 k55 (iv_mono h56 (by decide) (by decide)) tp k156 (iv_mono h_tp (by decide) (by decide)) q157 x160 k158 (iv_mono h159 (by decide) (by decide))) s_X12_200 ⟨rfl, rfl, ⟨Nat.le_of_ble_eq_true rfl, Nat.le_of_ble_eq_true rfl⟩, ⟨Nat.le_of_ble_eq_true rfl, Nat.le_of_ble_eq_true rfl⟩⟩ hz_a0 hk_a0 (by decide) rfl rfl hl.1 rfl (Nat.le_of_ble_eq_true rfl) dX12_isPointHere_95) rfl rfl (fun x167 H locs M164 R165 J163 hS f161 g162 E166 => ?_)
              have eR165 := Fr.nil g162 rfl
              subst eR165
              obtain ⟨h_x167, p168, p169, p170⟩ := E166
              obtain ⟨x173, k171, h172, q174⟩ := p168
              have k171 : M164 a0 13 = x173 := k171
              obtain ⟨x178, k179, h177, q180⟩ := p169
              have k179 : M164 a0 15 = x178 := k179
              have q181 : (0 : Int32).toInt = 0 := (by decide)
              have q182 : (99 : Int32).toInt = 99 := (by decide)
              have z183 : x167 = 0 → ¬ (M164 a0 14).toInt = 0 := p170
              refine lv_if_ne (tgt := 103) hx hb dX12_isPointHere_98 (by decide) (fun c184 => ?_) (fun c184 => ?_)
              · have q185 : ¬ x167.toInt = 0 := ti_ne c184
                have h186 : iv 1 1 x167 := ⟨by have := (h_x167).1; have := ((iv_c (c := 0) (n := 0) (by decide))).1; have := ((iv_c (c := 0) (n := 0) (by decide))).2; omega, by have := (h_x167).2; have := ((iv_c (c := 0) (n := 0) (by decide))).1; have := ((iv_c (c := 0) (n := 0) (by decide))).2; omega⟩
                refine lv_aload_n hx hb dX12_isPointHere_103 rfl (lv_at hl 3 rfl) ?_
                refine tw_getr hx hb hW hown hK hS f_X12_26_11 hz_a0 hk_a0 (t := 14) (n := 120) rfl dX12_isPointHere_104 (fun b187 k188 hz_b187 hk_b187 hn_b187 => ?_)
                have hn_b187 := hn_b187 (by decide)
                refine lv_bipush (v := 10) hx hb dX12_isPointHere_107 (by decide) ?_
                refine lv_aload_n hx hb dX12_isPointHere_109 rfl (lv_at hl 3 rfl) ?_
                have k189 : M164 a0 8 = x26 := ((Fr.kp (k := 8) f161 hk_a0 rfl).trans (Fr.kp (k := 8) f47 hk_a0 rfl)).trans k27
                refine tw_getk hx hb hW hown hK hS f_X12_254_11 hz_a0 hk_a0 (v := x26) k189 dX12_isPointHere_110 ?_
                refine tw_icmul (k := 10) (lo := 0) (hi := 110) hx hb (by decide) h_x26 (by decide) ⟨by decide, by decide⟩ ⟨by decide, by decide⟩ dX12_isPointHere_113 (fun x192 e191 h190 => ?_)
                refine lv_iload_n hx hb dX12_isPointHere_114 rfl (lv_at hl 2 rfl) ?_
                refine tw_iadd (lo := 0) (hi := 119) hx hb h190 h42 ⟨by decide, by decide⟩ ⟨by decide, by decide⟩ dX12_isPointHere_115 (fun x195 e194 h193 => ?_)
                refine lv_iload_n hx hb dX12_isPointHere_116 rfl (lv_at hl 1 rfl) ?_
                refine lv_bipush (v := 45) hx hb dX12_isPointHere_117 (by decide) ?_
                refine lv_icmp_ne (tgt := 130) hx hb dX12_isPointHere_119 (by decide) (fun c196 => ?_) (fun c196 => ?_)
                · have q197 : ¬ x53.toInt = 45 := ti_ne c196
                  refine lv_aload_n hx hb dX12_isPointHere_130 rfl (lv_at hl 3 rfl) ?_
                  refine tw_getk hx hb hW hown hK hS f_X12_152_11 hz_a0 hk_a0 (v := x178) k179 dX12_isPointHere_131 ?_
                  refine tw_iast hx hb hK hS hz_b187 hk_b187 (Or.inl rfl) hn_b187 h193 ⟨by decide, by decide⟩ h177 (rg_s14 ⟨by decide, by decide⟩) (jl := 0) (jh := 1999999) ⟨by decide, by decide⟩ rfl dX12_isPointHere_134 (fun H locs M200 hS k198 f199 => ?_)
                  refine tw_iinc (lv' := fun x203 => [(2, .int x203), (4, .int 0), (3, .int x53), (0, .ref (base + a0)), (1, .int a1)]) (lo := 1) (hi := 10) hx hb dX12_isPointHere_135 hl (k := 2) rfl h42 (by decide) ⟨by decide, by decide⟩ ⟨by decide, by decide⟩ (by decide) (fun _ => rfl) (fun x203 ls e202 h201 hl => ?_)
                  refine lv_goto (tgt := 22) hx hb dX12_isPointHere_138 (by decide) ?_
                  have k204 : M200 a0 13 = x173 := (Fr.kp (k := 13) f199 hk_a0 rfl).trans k171
                  have k205 : M200 a0 8 = x26 := (Fr.kp (k := 8) f199 hk_a0 rfl).trans k189
                  have w206 : nx.toInt ≤ x173.toInt ∧ x173.toInt ≤ tp.toInt := by
                    have := (h_a1).1; have := (h_a1).2; have := (h_nx).1; have := (h_nx).2; have := (h3).1; have := (h3).2; have := (h_tp).1; have := (h_tp).2; have := (h13).1; have := (h13).2; have := (h186).1; have := (h186).2; have := (h172).1; have := (h172).2; have := (h_x24).1; have := (h_x24).2; have := (h_x53).1; have := (h_x53).2; have := (h56).1; have := (h56).2; omega
                  have hm207 : 10 - x203.toInt < (n_19 : Int) := by
                    have := (h_a1).1; have := (h_a1).2; have := (h_nx).1; have := (h_nx).2; have := (h3).1; have := (h3).2; have := (h_tp).1; have := (h_tp).2; have := (h42).1; have := (h42).2; have := (h193).1; have := (h193).2; have := (h201).1; have := (h201).2; omega
                  exact ih_19 x203 x173 x26 M200 R20 J163 H locs _ (iv_mono h201 (by decide) (by decide)) h172 k204 h_x26 k205 w206 hm207 hS (lv_sub hl [0, 3, 4] rfl)
                · have q208 : x53.toInt = 45 := ti_eq c196
                  have h209 : iv 45 45 x53 := ⟨by have := (h_x53).1; have := ((iv_c (c := 45) (n := 45) (by decide))).1; omega, by have := (h_x53).2; have := ((iv_c (c := 45) (n := 45) (by decide))).2; omega⟩
                  refine lv_aload_n hx hb dX12_isPointHere_122 rfl (lv_at hl 3 rfl) ?_
                  refine tw_getk hx hb hW hown hK hS f_X12_152_11 hz_a0 hk_a0 (v := x178) k179 dX12_isPointHere_123 ?_
                  refine lv_ineg hx hb dX12_isPointHere_126 ?_
                  refine tw_top (fun x211 => ?_)
                  have h210 := iv_any x211
                  refine lv_goto (tgt := 134) hx hb dX12_isPointHere_127 (by decide) ?_
                  refine tw_iast hx hb hK hS hz_b187 hk_b187 (Or.inl rfl) hn_b187 h193 ⟨by decide, by decide⟩ h210 (rg_s14 ⟨by decide, by decide⟩) (jl := 0) (jh := 1999999) ⟨by decide, by decide⟩ rfl dX12_isPointHere_134 (fun H locs M214 hS k212 f213 => ?_)
                  refine tw_iinc (lv' := fun x217 => [(2, .int x217), (4, .int 0), (3, .int x53), (0, .ref (base + a0)), (1, .int a1)]) (lo := 1) (hi := 10) hx hb dX12_isPointHere_135 hl (k := 2) rfl h42 (by decide) ⟨by decide, by decide⟩ ⟨by decide, by decide⟩ (by decide) (fun _ => rfl) (fun x217 ls e216 h215 hl => ?_)
                  refine lv_goto (tgt := 22) hx hb dX12_isPointHere_138 (by decide) ?_
                  have k218 : M214 a0 13 = x173 := (Fr.kp (k := 13) f213 hk_a0 rfl).trans k171
                  have k219 : M214 a0 8 = x26 := (Fr.kp (k := 8) f213 hk_a0 rfl).trans k189
                  have w220 : nx.toInt ≤ x173.toInt ∧ x173.toInt ≤ tp.toInt := by
                    have := (h_a1).1; have := (h_a1).2; have := (h_nx).1; have := (h_nx).2; have := (h3).1; have := (h3).2; have := (h_tp).1; have := (h_tp).2; have := (h13).1; have := (h13).2; have := (h186).1; have := (h186).2; have := (h172).1; have := (h172).2; have := (h_x24).1; have := (h_x24).2; have := (h209).1; have := (h209).2; have := (h56).1; have := (h56).2; omega
                  have hm221 : 10 - x217.toInt < (n_19 : Int) := by
                    have := (h_a1).1; have := (h_a1).2; have := (h_nx).1; have := (h_nx).2; have := (h3).1; have := (h3).2; have := (h_tp).1; have := (h_tp).2; have := (h42).1; have := (h42).2; have := (h193).1; have := (h193).2; have := (h215).1; have := (h215).2; omega
                  exact ih_19 x217 x173 x26 M214 R20 J163 H locs _ (iv_mono h215 (by decide) (by decide)) h172 k218 h_x26 k219 w220 hm221 hS (lv_sub hl [0, 3, 4] rfl)
              · have q222 : x167.toInt = 0 := ti_eq c184
                have z223 := z183 c184
                have h224 : iv 0 0 x167 := ⟨by have := (h_x167).1; have := ((iv_c (c := 0) (n := 0) (by decide))).1; omega, by have := (h_x167).2; have := ((iv_c (c := 0) (n := 0) (by decide))).2; omega⟩
                refine lv_iconst (v := 0) hx hb dX12_isPointHere_101 (by decide) ?_
                have q225 : nx.toInt ≤ x173.toInt ∧ x173.toInt ≤ tp.toInt := by
                  have := (h_a1).1; have := (h_a1).2; have := (h_nx).1; have := (h_nx).2; have := (h3).1; have := (h3).2; have := (h_tp).1; have := (h_tp).2; have := (h13).1; have := (h13).2; have := (h224).1; have := (h224).2; have := (h172).1; have := (h172).2; have := (h_x24).1; have := (h_x24).2; have := (h_x53).1; have := (h_x53).2; have := (h56).1; have := (h56).2; omega
                exact tw_endz hx hb hr hlocks hK hT hS hQ rfl (⟨(iv_mono (iv_c (c := 0) (n := 0) (by decide)) (by decide) (by decide)), ⟨x173, k171, h172, q225⟩, (fun _ => (show ¬ (M164 a0 14).toInt = 0 from z223))⟩) dX12_isPointHere_102
            · have q226 : x53.toInt = 45 := ti_eq c153
              have h227 : iv 45 45 x53 := ⟨by have := (h_x53).1; have := ((iv_c (c := 45) (n := 45) (by decide))).1; omega, by have := (h_x53).2; have := ((iv_c (c := 45) (n := 45) (by decide))).2; omega⟩
              refine lv_iconst (v := 1) hx hb dX12_isPointHere_47 (by decide) ?_
              refine lv_goto (tgt := 52) hx hb dX12_isPointHere_48 (by decide) ?_
              refine lv_istore (lv' := [(4, .int 1), (3, .int x53), (2, .int x18), (0, .ref (base + a0)), (1, .int a1)]) hx hb dX12_isPointHere_52 hl (by decide) rfl (fun ls hl => ?_)
              refine lv_iload hx hb dX12_isPointHere_54 (lv_at hl 0 rfl) ?_
              refine lv_if_eq (tgt := 69) hx hb dX12_isPointHere_56 (by decide) (fun h => absurd h (by decide)) (fun _ => ?_)
              refine lv_aload_n hx hb dX12_isPointHere_59 rfl (lv_at hl 3 rfl) ?_
              refine lv_dup hx hb dX12_isPointHere_60 rfl ?_
              refine tw_getk hx hb hW hown hK hS f_X12_127_11 hz_a0 hk_a0 (v := x57) k55 dX12_isPointHere_61 ?_
              refine lv_iconst (v := 1) hx hb dX12_isPointHere_64 (by decide) ?_
              refine tw_iadd (lo := 1) (hi := 401) hx hb h56 (iv_c (c := 1) (n := 1) (by decide)) ⟨by decide, by decide⟩ ⟨by decide, by decide⟩ dX12_isPointHere_65 (fun x230 e229 h228 => ?_)
              have e229 : x230.toInt = x57.toInt + 1 := e229
              have h233 : iv 0 400 x230 := by
                have := (h_a1).1; have := (h_a1).2; have := (h_nx).1; have := (h_nx).2; have := (h3).1; have := (h3).2; have := (h_tp).1; have := (h_tp).2; have := (h13).1; have := (h13).2; have := (h228).1; have := (h228).2; have := (h_x24).1; have := (h_x24).2; have := (h227).1; have := (h227).2; have := (h56).1; have := (h56).2; exact ⟨by omega, by omega⟩
              refine tw_puti hx hb hW hown hK hS f_X12_127_11 hz_a0 hk_a0 rfl rfl (lo := 0) (hi := 400) rfl h233 rfl dX12_isPointHere_66 (fun H locs M234 hS k231 f232 => ?_)
              refine lv_iload hx hb dX12_isPointHere_69 (lv_at hl 0 rfl) ?_
              refine lv_if_eq (tgt := 91) hx hb dX12_isPointHere_71 (by decide) (fun h => absurd h (by decide)) (fun _ => ?_)
              refine lv_aload_n hx hb dX12_isPointHere_74 rfl (lv_at hl 3 rfl) ?_
              refine tw_goi hS (md_runV (As := []) (rest := []) hx hb hml hown hW hK hT hS.1 (t_X12_isDigitHere l D cy tx base Z K N M234 R20 J49 hS.2.1 a0 hz_a0 hk_a0) s_X12_257 ⟨rfl, rfl, ⟨Nat.le_of_ble_eq_true rfl, Nat.le_of_ble_eq_true rfl⟩, ⟨Nat.le_of_ble_eq_true rfl, Nat.le_of_ble_eq_true rfl⟩⟩ hz_a0 hk_a0 (by decide) rfl rfl hl.1 rfl (Nat.le_of_ble_eq_true rfl) dX12_isPointHere_75) rfl rfl (fun x241 H locs M238 R239 J237 hS f235 g236 E240 => ?_)
              have eM238 := Fr.nil f235 rfl
              subst eM238
              have eR239 := Fr.nil g236 rfl
              subst eR239
              have h_x241 := E240
              refine lv_if_ne (tgt := 91) hx hb dX12_isPointHere_78 (by decide) (fun c242 => ?_) (fun c242 => ?_)
              · have q243 : ¬ x241.toInt = 0 := ti_ne c242
                have h244 : iv 1 1 x241 := ⟨by have := (h_x241).1; have := ((iv_c (c := 0) (n := 0) (by decide))).1; have := ((iv_c (c := 0) (n := 0) (by decide))).2; omega, by have := (h_x241).2; have := ((iv_c (c := 0) (n := 0) (by decide))).1; have := ((iv_c (c := 0) (n := 0) (by decide))).2; omega⟩
                refine lv_aload_n hx hb dX12_isPointHere_91 rfl (lv_at hl 3 rfl) ?_
                refine lv_iconst (v := 0) hx hb dX12_isPointHere_92 (by decide) ?_
                refine lv_bipush (v := 99) hx hb dX12_isPointHere_93 (by decide) ?_
                have k245 : R20 a0 0 = some tb := (Fr.kp (k := 0) g23 hk_a0 rfl).trans k_tb
                have k246 : M234 a0 1 = tp := ((Fr.kp (k := 1) f232 hk_a0 rfl).trans ((Fr.kp (k := 1) f47 hk_a0 rfl).trans (Fr.kp (k := 1) f22 hk_a0 rfl))).trans k_tp
                have q247 : x230.toInt ≤ tp.toInt := by
                  have := (h_a1).1; have := (h_a1).2; have := (h_nx).1; have := (h_nx).2; have := (h3).1; have := (h3).2; have := (h_tp).1; have := (h_tp).2; have := (h13).1; have := (h13).2; have := (h233).1; have := (h233).2; have := (h_x24).1; have := (h_x24).2; have := (h227).1; have := (h227).2; have := (h56).1; have := (h56).2; omega
                obtain ⟨x250, k248⟩ : ∃ x, M234 a0 15 = x := ⟨_, rfl⟩
                have h249 : iv (-2147483648) 2147483647 x250 := by rw [← k248]; exact hS.2.1.int hz_a0 hk_a0 (show rgI 12 15 = ((-2147483648), 2147483647) from rfl)
                refine tw_goi hS (md_runV (As := [.int 0, .int 99]) (rest := []) hx hb hml hown hW hK hT hS.1 (t_X12_numberHere l D cy tx base Z K N M234 R20 J237 hS.2.1 a0 hz_a0 hk_a0 0 (iv_mono (iv_c (c := 0) (n := 0) (by decide)) (by decide) (by decide)) 99 (iv_mono (iv_c (c := 99) (n := 99) (by decide)) (by decide) (by decide)) tb k245 x230 k231 (iv_mono h233 (by decide) (by decide)) tp k246 (iv_mono h_tp (by decide) (by decide)) q247 x250 k248 (iv_mono h249 (by decide) (by decide))) s_X12_200 ⟨rfl, rfl, ⟨Nat.le_of_ble_eq_true rfl, Nat.le_of_ble_eq_true rfl⟩, ⟨Nat.le_of_ble_eq_true rfl, Nat.le_of_ble_eq_true rfl⟩⟩ hz_a0 hk_a0 (by decide) rfl rfl hl.1 rfl (Nat.le_of_ble_eq_true rfl) dX12_isPointHere_95) rfl rfl (fun x257 H locs M254 R255 J253 hS f251 g252 E256 => ?_)
                have eR255 := Fr.nil g252 rfl
                subst eR255
                obtain ⟨h_x257, p258, p259, p260⟩ := E256
                obtain ⟨x263, k261, h262, q264⟩ := p258
                have k261 : M254 a0 13 = x263 := k261
                obtain ⟨x268, k269, h267, q270⟩ := p259
                have k269 : M254 a0 15 = x268 := k269
                have q271 : (0 : Int32).toInt = 0 := (by decide)
                have q272 : (99 : Int32).toInt = 99 := (by decide)
                have z273 : x257 = 0 → ¬ (M254 a0 14).toInt = 0 := p260
                refine lv_if_ne (tgt := 103) hx hb dX12_isPointHere_98 (by decide) (fun c274 => ?_) (fun c274 => ?_)
                · have q275 : ¬ x257.toInt = 0 := ti_ne c274
                  have h276 : iv 1 1 x257 := ⟨by have := (h_x257).1; have := ((iv_c (c := 0) (n := 0) (by decide))).1; have := ((iv_c (c := 0) (n := 0) (by decide))).2; omega, by have := (h_x257).2; have := ((iv_c (c := 0) (n := 0) (by decide))).1; have := ((iv_c (c := 0) (n := 0) (by decide))).2; omega⟩
                  refine lv_aload_n hx hb dX12_isPointHere_103 rfl (lv_at hl 3 rfl) ?_
                  refine tw_getr hx hb hW hown hK hS f_X12_26_11 hz_a0 hk_a0 (t := 14) (n := 120) rfl dX12_isPointHere_104 (fun b277 k278 hz_b277 hk_b277 hn_b277 => ?_)
                  have hn_b277 := hn_b277 (by decide)
                  refine lv_bipush (v := 10) hx hb dX12_isPointHere_107 (by decide) ?_
                  refine lv_aload_n hx hb dX12_isPointHere_109 rfl (lv_at hl 3 rfl) ?_
                  have k279 : M254 a0 8 = x26 := ((Fr.kp (k := 8) f251 hk_a0 rfl).trans ((Fr.kp (k := 8) f232 hk_a0 rfl).trans (Fr.kp (k := 8) f47 hk_a0 rfl))).trans k27
                  refine tw_getk hx hb hW hown hK hS f_X12_254_11 hz_a0 hk_a0 (v := x26) k279 dX12_isPointHere_110 ?_
                  refine tw_icmul (k := 10) (lo := 0) (hi := 110) hx hb (by decide) h_x26 (by decide) ⟨by decide, by decide⟩ ⟨by decide, by decide⟩ dX12_isPointHere_113 (fun x282 e281 h280 => ?_)
                  refine lv_iload_n hx hb dX12_isPointHere_114 rfl (lv_at hl 2 rfl) ?_
                  refine tw_iadd (lo := 0) (hi := 119) hx hb h280 h42 ⟨by decide, by decide⟩ ⟨by decide, by decide⟩ dX12_isPointHere_115 (fun x285 e284 h283 => ?_)
                  refine lv_iload_n hx hb dX12_isPointHere_116 rfl (lv_at hl 1 rfl) ?_
                  refine lv_bipush (v := 45) hx hb dX12_isPointHere_117 (by decide) ?_
                  refine lv_icmp_ne (tgt := 130) hx hb dX12_isPointHere_119 (by decide) (fun c286 => False.elim (by have q : ¬ x53.toInt = 45 := ti_ne c286; have := (h227).1; have := (h227).2; omega)) (fun c286 => ?_)
                  have q287 : x53.toInt = 45 := ti_eq c286
                  refine lv_aload_n hx hb dX12_isPointHere_122 rfl (lv_at hl 3 rfl) ?_
                  refine tw_getk hx hb hW hown hK hS f_X12_152_11 hz_a0 hk_a0 (v := x268) k269 dX12_isPointHere_123 ?_
                  refine lv_ineg hx hb dX12_isPointHere_126 ?_
                  refine tw_top (fun x289 => ?_)
                  have h288 := iv_any x289
                  refine lv_goto (tgt := 134) hx hb dX12_isPointHere_127 (by decide) ?_
                  refine tw_iast hx hb hK hS hz_b277 hk_b277 (Or.inl rfl) hn_b277 h283 ⟨by decide, by decide⟩ h288 (rg_s14 ⟨by decide, by decide⟩) (jl := 0) (jh := 1999999) ⟨by decide, by decide⟩ rfl dX12_isPointHere_134 (fun H locs M292 hS k290 f291 => ?_)
                  refine tw_iinc (lv' := fun x295 => [(2, .int x295), (4, .int 1), (3, .int x53), (0, .ref (base + a0)), (1, .int a1)]) (lo := 1) (hi := 10) hx hb dX12_isPointHere_135 hl (k := 2) rfl h42 (by decide) ⟨by decide, by decide⟩ ⟨by decide, by decide⟩ (by decide) (fun _ => rfl) (fun x295 ls e294 h293 hl => ?_)
                  refine lv_goto (tgt := 22) hx hb dX12_isPointHere_138 (by decide) ?_
                  have k296 : M292 a0 13 = x263 := (Fr.kp (k := 13) f291 hk_a0 rfl).trans k261
                  have k297 : M292 a0 8 = x26 := (Fr.kp (k := 8) f291 hk_a0 rfl).trans k279
                  have w298 : nx.toInt ≤ x263.toInt ∧ x263.toInt ≤ tp.toInt := by
                    have := (h_a1).1; have := (h_a1).2; have := (h_nx).1; have := (h_nx).2; have := (h3).1; have := (h3).2; have := (h_tp).1; have := (h_tp).2; have := (h13).1; have := (h13).2; have := (h233).1; have := (h233).2; have := (h_x24).1; have := (h_x24).2; have := (h276).1; have := (h276).2; have := (h262).1; have := (h262).2; have := (h227).1; have := (h227).2; have := (h56).1; have := (h56).2; omega
                  have hm299 : 10 - x295.toInt < (n_19 : Int) := by
                    have := (h_a1).1; have := (h_a1).2; have := (h_nx).1; have := (h_nx).2; have := (h3).1; have := (h3).2; have := (h_tp).1; have := (h_tp).2; have := (h42).1; have := (h42).2; have := (h283).1; have := (h283).2; have := (h293).1; have := (h293).2; omega
                  exact ih_19 x295 x263 x26 M292 R20 J253 H locs _ (iv_mono h293 (by decide) (by decide)) h262 k296 h_x26 k297 w298 hm299 hS (lv_sub hl [0, 3, 4] rfl)
                · have q300 : x257.toInt = 0 := ti_eq c274
                  have z301 := z273 c274
                  have h302 : iv 0 0 x257 := ⟨by have := (h_x257).1; have := ((iv_c (c := 0) (n := 0) (by decide))).1; omega, by have := (h_x257).2; have := ((iv_c (c := 0) (n := 0) (by decide))).2; omega⟩
                  refine lv_iconst (v := 0) hx hb dX12_isPointHere_101 (by decide) ?_
                  have q303 : nx.toInt ≤ x263.toInt ∧ x263.toInt ≤ tp.toInt := by
                    have := (h_a1).1; have := (h_a1).2; have := (h_nx).1; have := (h_nx).2; have := (h3).1; have := (h3).2; have := (h_tp).1; have := (h_tp).2; have := (h13).1; have := (h13).2; have := (h233).1; have := (h233).2; have := (h_x24).1; have := (h_x24).2; have := (h302).1; have := (h302).2; have := (h262).1; have := (h262).2; have := (h227).1; have := (h227).2; have := (h56).1; have := (h56).2; omega
                  exact tw_endz hx hb hr hlocks hK hT hS hQ rfl (⟨(iv_mono (iv_c (c := 0) (n := 0) (by decide)) (by decide) (by decide)), ⟨x263, k261, h262, q303⟩, (fun _ => (show ¬ (M254 a0 14).toInt = 0 from z301))⟩) dX12_isPointHere_102
              · have q304 : x241.toInt = 0 := ti_eq c242
                have h305 : iv 0 0 x241 := ⟨by have := (h_x241).1; have := ((iv_c (c := 0) (n := 0) (by decide))).1; omega, by have := (h_x241).2; have := ((iv_c (c := 0) (n := 0) (by decide))).2; omega⟩
                refine lv_aload_n hx hb dX12_isPointHere_81 rfl (lv_at hl 3 rfl) ?_
                refine lv_iconst (v := 0) hx hb dX12_isPointHere_82 (by decide) ?_
                refine lv_aload_n hx hb dX12_isPointHere_83 rfl (lv_at hl 3 rfl) ?_
                refine tw_getk hx hb hW hown hK hS f_X12_127_11 hz_a0 hk_a0 (v := x230) k231 dX12_isPointHere_84 ?_
                refine tw_goi hS (md_runV (As := [.int 0, .int x230]) (rest := []) hx hb hml hown hW hK hT hS.1 (t_X12_fails l D cy tx base Z K N M234 R20 J237 hS.2.1 a0 hz_a0 hk_a0 0 (iv_mono (iv_c (c := 0) (n := 0) (by decide)) (by decide) (by decide)) x230 h233) s_X12_148 ⟨rfl, rfl, ⟨Nat.le_of_ble_eq_true rfl, Nat.le_of_ble_eq_true rfl⟩, ⟨Nat.le_of_ble_eq_true rfl, Nat.le_of_ble_eq_true rfl⟩⟩ hz_a0 hk_a0 (by decide) rfl rfl hl.1 rfl (Nat.le_of_ble_eq_true rfl) dX12_isPointHere_87) rfl rfl (fun x312 H locs M309 R310 J308 hS f306 g307 E311 => ?_)
                have eR310 := Fr.nil g307 rfl
                subst eR310
                obtain ⟨h_x312, p313⟩ := E311
                have z314 : x312 = 0 → ¬ (M309 a0 14).toInt = 0 := p313
                have z315 := z314 (iv0 h_x312)
                have k316 : M309 a0 13 = x230 := (Fr.kp (k := 13) f306 hk_a0 rfl).trans k231
                have q317 : nx.toInt ≤ x230.toInt ∧ x230.toInt ≤ tp.toInt := by
                  have := (h_a1).1; have := (h_a1).2; have := (h_nx).1; have := (h_nx).2; have := (h3).1; have := (h3).2; have := (h_tp).1; have := (h_tp).2; have := (h13).1; have := (h13).2; have := (h233).1; have := (h233).2; have := (h_x24).1; have := (h_x24).2; have := (h227).1; have := (h227).2; have := (h56).1; have := (h56).2; omega
                exact tw_endz hx hb hr hlocks hK hT hS hQ (nar_b (iv_mono h_x312 (by decide) (by decide))) (⟨(iv_mono h_x312 (by decide) (by decide)), ⟨x230, k316, h233, q317⟩, (fun _ => (show ¬ (M309 a0 14).toInt = 0 from z315))⟩) dX12_isPointHere_90
    have k318 : M8 a0 8 = pr := (Fr.kp (k := 8) f5 hk_a0 rfl).trans k_pr
    have w319 : nx.toInt ≤ x14.toInt ∧ x14.toInt ≤ tp.toInt := by
      have := (h_a1).1; have := (h_a1).2; have := (h_nx).1; have := (h_nx).2; have := (h3).1; have := (h3).2; have := (h_tp).1; have := (h_tp).2; have := (h13).1; have := (h13).2; omega
    have hm320 : 10 - (0 : Int32).toInt < (((11 : Nat) : Int) : Int) := by
      have := (h_a1).1; have := (h_a1).2; have := (h_nx).1; have := (h_nx).2; have := (h3).1; have := (h3).2; have := (h_tp).1; have := (h_tp).2; have : (0 : Int32).toInt = 0 := (by decide); omega
    exact W22_19 11 0 x14 pr M8 Ra J7 H locs _ (iv_mono (iv_c (c := 0) (n := 0) (by decide)) (by decide) (by decide)) h13 k12 h3 k318 w319 hm320 hS hl
  · have q321 : pr.toInt = 12 := ti_eq c1
    have h322 : iv 12 12 pr := ⟨by have := (h_pr).1; have := ((iv_c (c := 12) (n := 12) (by decide))).1; omega, by have := (h_pr).2; have := ((iv_c (c := 12) (n := 12) (by decide))).2; omega⟩
    refine lv_aload_n hx hb dX12_isPointHere_9 rfl (lv_at hl 0 rfl) ?_
    refine lv_iconst (v := 4) hx hb dX12_isPointHere_10 (by decide) ?_
    refine lv_iload_n hx hb dX12_isPointHere_11 rfl (lv_at hl 1 rfl) ?_
    refine tw_goi hS (md_runV (As := [.int 4, .int a1]) (rest := []) hx hb hml hown hW hK hT hS.1 (t_X12_fails l D cy tx base Z K N Ma Ra Ja hS.2.1 a0 hz_a0 hk_a0 4 (iv_mono (iv_c (c := 4) (n := 4) (by decide)) (by decide) (by decide)) a1 h_a1) s_X12_148 ⟨rfl, rfl, ⟨Nat.le_of_ble_eq_true rfl, Nat.le_of_ble_eq_true rfl⟩, ⟨Nat.le_of_ble_eq_true rfl, Nat.le_of_ble_eq_true rfl⟩⟩ hz_a0 hk_a0 (by decide) rfl rfl hl.1 rfl (Nat.le_of_ble_eq_true rfl) dX12_isPointHere_12) rfl rfl (fun x329 H locs M326 R327 J325 hS f323 g324 E328 => ?_)
    have eR327 := Fr.nil g324 rfl
    subst eR327
    obtain ⟨h_x329, p330⟩ := E328
    have z331 : x329 = 0 → ¬ (M326 a0 14).toInt = 0 := p330
    have z332 := z331 (iv0 h_x329)
    have k333 : M326 a0 13 = nx := (Fr.kp (k := 13) f323 hk_a0 rfl).trans k_nx
    have q334 : nx.toInt ≤ nx.toInt ∧ nx.toInt ≤ tp.toInt := by
      have := (h_a1).1; have := (h_a1).2; have := (h_nx).1; have := (h_nx).2; have := (h322).1; have := (h322).2; have := (h_tp).1; have := (h_tp).2; omega
    exact tw_endz hx hb hr hlocks hK hT hS hQ (nar_b (iv_mono h_x329 (by decide) (by decide))) (⟨(iv_mono h_x329 (by decide) (by decide)), ⟨nx, k333, h_nx, q334⟩, (fun _ => (show ¬ (M326 a0 14).toInt = 0 from z332))⟩) dX12_isPointHere_15
