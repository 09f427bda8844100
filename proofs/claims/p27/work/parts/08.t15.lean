def Lt_X12_spoils : WL := [(12, 23, 24), (12, 28, 29), (12, 30, 33), (14, 0, 2000000), (30, 0, 2000000), (31, 0, 2000000)]
def LRt_X12_spoils : WL := []
set_option maxRecDepth 100000 in
set_option maxHeartbeats 4000000 in
theorem t_X12_spoils (l : Launch) (D : va_G) (cy : Nat → ClassId) (tx : (Nat → Nat) × (Nat → Nat)) (base Z : Nat) (K N : Nat → Nat) (Ma : MT) (Ra : RT) (Ja : JT) (hTy : Ty Z K N Ma Ra) (a0 : Nat) (hz_a0 : a0 < Z) (hk_a0 : K a0 = 12) (a1 : Int32) (h_a1 : iv (-2147483648) 2147483647 a1) (a2 : Int32) (h_a2 : iv 0 9 a2) (a3 : Int32) (h_a3 : iv 0 2147483647 a3) (co_a0 : Codes Ma Ra a0) (sd : Nat) (k_sd : Ra a0 25 = some sd) (e4 : Int32) (k_e4 : Ma sd (4 : Int32).toNatClampNeg = e4) (h_e4 : iv 1 4 e4) : Met l yX12_spoils [Cond.code yX12_spoils cX12_spoils 7 (some .boolean)] (md_rm 5 0 0) (va_Pc [.ref (base + a0), .int a1, .int a2, .int a3] (md_U D cy tx base Z K N Ma Ra Ja)) (mQi D cy tx base (fun r u => TP Z K N Lt_X12_spoils LRt_X12_spoils Ma Ra u ∧ (iv 0 1 r))) 0 0 (fun q => base ≤ q) := by
  refine tw_ofW (L := Lt_X12_spoils) (LR := LRt_X12_spoils) (by decide) (Nat.le_of_ble_eq_true rfl) hTy ?_
  intro p e s m args below meth c Q ls hx hb hr hlocks hown hml hW hK hT hS hQ hl
  have hl : lv_has ls 7 [(0, .ref (base + a0)), (1, .int a1), (2, .int a2), (3, .int a3)] := hl
  obtain ⟨hz_sd, hk_sd, hn_sd⟩ := hTy.refn hz_a0 hk_a0 (show rtR 12 25 = (23, 226, 0) from rfl) k_sd
  have hn_sd := hn_sd (by decide)
  refine lv_aload_n hx hb dX12_spoils_0 rfl (lv_at hl 0 rfl) ?_
  refine tw_gov hS (md_runV (As := []) (rest := []) hx hb hml hown hW hK hT hS.1 (t_X12_begins l D cy tx base Z K N Ma Ra Ja hS.2.1 a0 hz_a0 hk_a0 sd k_sd e4 k_e4 (iv_mono h_e4 (by decide) (by decide))) s_X12_393 ⟨rfl, rfl, ⟨Nat.le_of_ble_eq_true rfl, Nat.le_of_ble_eq_true rfl⟩, ⟨Nat.le_of_ble_eq_true rfl, Nat.le_of_ble_eq_true rfl⟩⟩ hz_a0 hk_a0 (by decide) rfl rfl hl.1 rfl (Nat.le_of_ble_eq_true rfl) dX12_spoils_1) rfl rfl (fun H locs M4 R5 J3 hS f1 g2 E6 => ?_)
  have eR5 := Fr.nil g2 rfl
  subst eR5
  have p7 := E6
  clear E6
  have k8 : M4 a0 30 = e4 := p7
  refine lv_iload_n hx hb dX12_spoils_4 rfl (lv_at hl 3 rfl) ?_
  refine lv_istore (lv' := [(4, .int a3), (0, .ref (base + a0)), (1, .int a1), (2, .int a2), (3, .int a3)]) hx hb dX12_spoils_5 hl (by decide) rfl (fun ls hl => ?_)
  refine lv_iconst (v := 1) hx hb dX12_spoils_7 (by decide) ?_
  refine lv_istore (lv' := [(5, .int 1), (4, .int a3), (0, .ref (base + a0)), (1, .int a1), (2, .int a2), (3, .int a3)]) hx hb dX12_spoils_8 hl (by decide) rfl (fun ls hl => ?_)
  refine lv_iconst (v := 0) hx hb dX12_spoils_10 (by decide) ?_
  refine lv_istore (lv' := [(6, .int 0), (5, .int 1), (4, .int a3), (0, .ref (base + a0)), (1, .int a1), (2, .int a2), (3, .int a3)]) hx hb dX12_spoils_11 hl (by decide) rfl (fun ls hl => ?_)
  have W13_12 : ∀ (n_12 : Nat) (x9 : Int32) (x10 : Int32) (x11 : Int32) (x17 : Int32) (M12 : MT) (R13 : RT) (J14 : JT) (H : Heap) (locs : List Loc) (ls : Array Slot) (h_x9 : iv 0 2147483647 x9) (h_x10 : iv 0 2 x10) (h_x11 : iv 0 4 x11) (h_x17 : iv 1 4 x17) (k18 : M12 a0 30 = x17) (hm_12 : 4 - x11.toInt < (n_12 : Int)) (hS : SB D cy base Z K N Lt_X12_spoils LRt_X12_spoils Ma Ra M12 R13 J14 s H locs) (hl : lv_has ls 7 [(4, .int x9), (5, .int x10), (6, .int x11), (0, .ref (base + a0)), (1, .int a1), (2, .int a2), (3, .int a3)]), W p l e (md_rm 5 0 0) s m args below meth c H locs 0 0 Q (F0 m 13 ls []) := by
    intro n_12
    induction n_12 with
    | zero =>
      intro x9 x10 x11 x17 M12 R13 J14 H locs ls h_x9 h_x10 h_x11 h_x17 k18 hm_12 hS hl
      exfalso
      have := (h_a1).1; have := (h_a1).2; have := (h_a2).1; have := (h_a2).2; have := (h_a3).1; have := (h_a3).2; have := (h_e4).1; have := (h_e4).2; have := (h_x11).1; have := (h_x11).2; omega
    | succ n_12 ih_12 =>
      intro x9 x10 x11 x17 M12 R13 J14 H locs ls h_x9 h_x10 h_x11 h_x17 k18 hm_12 hS hl
      have f15 := hS.2.2.1
      have g16 := hS.2.2.2
      refine lv_iload hx hb dX12_spoils_13 (lv_at hl 2 rfl) ?_
      refine lv_aload_n hx hb dX12_spoils_15 rfl (lv_at hl 3 rfl) ?_
      refine tw_getk hx hb hW hown hK hS f_X12_351_11 hz_a0 hk_a0 (v := x17) k18 dX12_spoils_16 ?_
      refine lv_icmp_ge (tgt := 82) hx hb dX12_spoils_19 (by decide) (fun c19 => ?_) (fun c19 => ?_)
      · have q20 : x17.toInt ≤ x11.toInt := ti_le c19
        have h21 : iv 1 4 x11 := iv_geL (y := x17) h_x11 h_x17 q20 (by decide)
        refine lv_iload hx hb dX12_spoils_82 (lv_at hl 1 rfl) ?_
        refine lv_iconst (v := 1) hx hb dX12_spoils_84 (by decide) ?_
        refine lv_icmp_eq (tgt := 92) hx hb dX12_spoils_85 (by decide) (fun c22 => ?_) (fun c22 => ?_)
        · have q23 : x10.toInt = 1 := ti_eq c22
          have h24 : iv 1 1 x10 := ⟨by have := (h_x10).1; have := ((iv_c (c := 1) (n := 1) (by decide))).1; omega, by have := (h_x10).2; have := ((iv_c (c := 1) (n := 1) (by decide))).2; omega⟩
          refine lv_iconst (v := 0) hx hb dX12_spoils_92 (by decide) ?_
          exact tw_endz hx hb hr hlocks hK hT hS hQ rfl ((iv_mono (iv_c (c := 0) (n := 0) (by decide)) (by decide) (by decide))) dX12_spoils_93
        · have q25 : ¬ x10.toInt = 1 := ti_ne c22
          refine lv_iconst (v := 1) hx hb dX12_spoils_88 (by decide) ?_
          refine lv_goto (tgt := 93) hx hb dX12_spoils_89 (by decide) ?_
          exact tw_endz hx hb hr hlocks hK hT hS hQ rfl ((iv_mono (iv_c (c := 1) (n := 1) (by decide)) (by decide) (by decide))) dX12_spoils_93
      · have q26 : x11.toInt < x17.toInt := ti_nle c19
        have h27 : iv 0 3 x11 := iv_ltL (y := x17) h_x11 h_x17 q26 (by decide)
        refine lv_aload_n hx hb dX12_spoils_22 rfl (lv_at hl 3 rfl) ?_
        refine lv_aload_n hx hb dX12_spoils_23 rfl (lv_at hl 3 rfl) ?_
        refine tw_getr hx hb hW hown hK hS f_X12_54_11 hz_a0 hk_a0 (t := 31) (n := 8) rfl dX12_spoils_24 (fun b28 k29 hz_b28 hk_b28 hn_b28 => ?_)
        have hn_b28 := hn_b28 (by decide)
        refine lv_iload hx hb dX12_spoils_27 (lv_at hl 2 rfl) ?_
        refine tw_iald hx hb hK hS hz_b28 hk_b28 (Or.inr (by decide)) hn_b28 (lo := 0) (hi := 11) h27 ⟨by decide, by decide⟩ rg_u31 dX12_spoils_29 (fun x32 k31 h30 => ?_)
        refine lv_iload hx hb dX12_spoils_30 (lv_at hl 2 rfl) ?_
        refine tw_gov hS (md_runV (As := [.int x32, .int x11]) (rest := []) hx hb hml hown hW hK hT hS.1 (t_X12_asks l D cy tx base Z K N M12 R13 J14 hS.2.1 a0 hz_a0 hk_a0 x32 h30 x11 (iv_mono h27 (by decide) (by decide)) (Codes.fr co_a0 hTy hz_a0 hk_a0 hS.2.2.1 hS.2.2.2 rfl)) s_X12_396 ⟨rfl, rfl, ⟨Nat.le_of_ble_eq_true rfl, Nat.le_of_ble_eq_true rfl⟩, ⟨Nat.le_of_ble_eq_true rfl, Nat.le_of_ble_eq_true rfl⟩⟩ hz_a0 hk_a0 (by decide) rfl rfl hl.1 rfl (Nat.le_of_ble_eq_true rfl) dX12_spoils_32) rfl rfl (fun H locs M36 R37 J35 hS f33 g34 E38 => ?_)
        have eR37 := Fr.nil g34 rfl
        subst eR37
        refine lv_aload_n hx hb dX12_spoils_35 rfl (lv_at hl 3 rfl) ?_
        refine lv_iload_n hx hb dX12_spoils_36 rfl (lv_at hl 4 rfl) ?_
        refine lv_aload_n hx hb dX12_spoils_37 rfl (lv_at hl 3 rfl) ?_
        refine tw_getr hx hb hW hown hK hS f_X12_78_11 hz_a0 hk_a0 (t := 14) (n := 5) rfl dX12_spoils_38 (fun b39 k40 hz_b39 hk_b39 hn_b39 => ?_)
        have hn_b39 := hn_b39 (by decide)
        refine lv_iload hx hb dX12_spoils_41 (lv_at hl 2 rfl) ?_
        refine tw_iald hx hb hK hS hz_b39 hk_b39 (Or.inl rfl) hn_b39 (lo := (-2147483648)) (hi := 2147483647) h27 ⟨by decide, by decide⟩ rg_u14 dX12_spoils_43 (fun x43 k42 h41 => ?_)
        refine lv_aload_n hx hb dX12_spoils_44 rfl (lv_at hl 3 rfl) ?_
        refine tw_getrk hx hb hW hown hK hS f_X12_54_11 hz_a0 hk_a0 (b := b28) k29 dX12_spoils_45 ?_
        refine lv_iload hx hb dX12_spoils_48 (lv_at hl 2 rfl) ?_
        have k44 : M36 b28 x11.toNatClampNeg = x32 := (Fr.kpa f33 hk_b28 rfl x11.toNatClampNeg).trans k31
        refine tw_ialk hx hb hK hS hz_b28 hk_b28 (Or.inr (by decide)) hn_b28 h27 ⟨by decide, by decide⟩ (v := x32) k44 dX12_spoils_50 ?_
        refine tw_goi hS (md_runV (As := [.int a1, .int x43, .int x32]) (rest := []) hx hb hml hown hW hK hT hS.1 (t_X12_putsAll l D cy tx base Z K N M36 R13 J35 hS.2.1 a0 hz_a0 hk_a0 a1 h_a1 x43 h41 x32 h30) s_X12_443 ⟨rfl, rfl, ⟨Nat.le_of_ble_eq_true rfl, Nat.le_of_ble_eq_true rfl⟩, ⟨Nat.le_of_ble_eq_true rfl, Nat.le_of_ble_eq_true rfl⟩⟩ hz_a0 hk_a0 (by decide) rfl rfl hl.1 rfl (Nat.le_of_ble_eq_true rfl) dX12_spoils_51) rfl rfl (fun x51 H locs M48 R49 J47 hS f45 g46 E50 => ?_)
        have eR49 := Fr.nil g46 rfl
        subst eR49
        have h_x51 := E50
        clear E50
        refine lv_pop hx hb dX12_spoils_54 rfl ?_
        refine lv_aload_n hx hb dX12_spoils_55 rfl (lv_at hl 3 rfl) ?_
        refine lv_iload_n hx hb dX12_spoils_56 rfl (lv_at hl 5 rfl) ?_
        refine lv_iload hx hb dX12_spoils_57 (lv_at hl 0 rfl) ?_
        refine lv_iconst (v := 3) hx hb dX12_spoils_59 (by decide) ?_
        refine tw_irem (lo := 0) (hi := 2) hx hb h_x9 (iv_c (c := 3) (n := 3) (by decide)) ⟨by decide, by decide⟩ ⟨by decide, by decide⟩ dX12_spoils_60 (fun x54 e53 h52 => ?_)
        have e53 : x54.toInt = x9.toInt % 3 := e53
        refine tw_gov hS (md_runV (As := [.int a2, .int x54]) (rest := []) hx hb hml hown hW hK hT hS.1 (t_X12_sets l D cy tx base Z K N M48 R13 J47 hS.2.1 a0 hz_a0 hk_a0 a2 h_a2 x54 (iv_mono h52 (by decide) (by decide))) s_X12_377 ⟨rfl, rfl, ⟨Nat.le_of_ble_eq_true rfl, Nat.le_of_ble_eq_true rfl⟩, ⟨Nat.le_of_ble_eq_true rfl, Nat.le_of_ble_eq_true rfl⟩⟩ hz_a0 hk_a0 (by decide) rfl rfl hl.1 rfl (Nat.le_of_ble_eq_true rfl) dX12_spoils_61) rfl rfl (fun H locs M58 R59 J57 hS f55 g56 E60 => ?_)
        have eR59 := Fr.nil g56 rfl
        subst eR59
        refine lv_iload hx hb dX12_spoils_64 (lv_at hl 0 rfl) ?_
        refine lv_iconst (v := 3) hx hb dX12_spoils_66 (by decide) ?_
        refine tw_idiv (lo := 0) (hi := 715827882) hx hb h_x9 (iv_c (c := 3) (n := 3) (by decide)) ⟨by decide, by decide⟩ ⟨by decide, by decide⟩ dX12_spoils_67 (fun x63 e62 h61 => ?_)
        have e62 : x63.toInt = x9.toInt / 3 := e62
        refine lv_istore (lv' := [(4, .int x63), (5, .int x10), (6, .int x11), (0, .ref (base + a0)), (1, .int a1), (2, .int a2), (3, .int a3)]) hx hb dX12_spoils_68 hl (by decide) rfl (fun ls hl => ?_)
        refine lv_aload_n hx hb dX12_spoils_70 rfl (lv_at hl 3 rfl) ?_
        refine tw_goi hS (md_runV (As := []) (rest := []) hx hb hml hown hW hK hT hS.1 (t_X12_settles_ l D cy tx base Z K N M58 R13 J57 hS.2.1 a0 hz_a0 hk_a0) s_X12_399 ⟨rfl, rfl, ⟨Nat.le_of_ble_eq_true rfl, Nat.le_of_ble_eq_true rfl⟩, ⟨Nat.le_of_ble_eq_true rfl, Nat.le_of_ble_eq_true rfl⟩⟩ hz_a0 hk_a0 (by decide) rfl rfl hl.1 rfl (Nat.le_of_ble_eq_true rfl) dX12_spoils_71) rfl rfl (fun x70 H locs M67 R68 J66 hS f64 g65 E69 => ?_)
        have eR68 := Fr.nil g65 rfl
        subst eR68
        have h_x70 := E69
        clear E69
        refine lv_istore (lv' := [(5, .int x70), (4, .int x63), (6, .int x11), (0, .ref (base + a0)), (1, .int a1), (2, .int a2), (3, .int a3)]) hx hb dX12_spoils_74 hl (by decide) rfl (fun ls hl => ?_)
        refine tw_iinc (lv' := fun x73 => [(6, .int x73), (5, .int x70), (4, .int x63), (0, .ref (base + a0)), (1, .int a1), (2, .int a2), (3, .int a3)]) (lo := 1) (hi := 4) hx hb dX12_spoils_76 hl (k := 2) rfl h27 (by decide) ⟨by decide, by decide⟩ ⟨by decide, by decide⟩ (by decide) (fun _ => rfl) (fun x73 ls e72 h71 hl => ?_)
        refine lv_goto (tgt := 13) hx hb dX12_spoils_79 (by decide) ?_
        have k74 : M67 a0 30 = x17 := ((Fr.kp (k := 30) f64 hk_a0 rfl).trans ((Fr.kp (k := 30) f55 hk_a0 rfl).trans ((Fr.kp (k := 30) f45 hk_a0 rfl).trans (Fr.kp (k := 30) f33 hk_a0 rfl)))).trans k18
        have hm75 : 4 - x73.toInt < (n_12 : Int) := by
          have := (h_a1).1; have := (h_a1).2; have := (h_a2).1; have := (h_a2).2; have := (h_a3).1; have := (h_a3).2; have := (h_e4).1; have := (h_e4).2; have := (h27).1; have := (h27).2; have := (h71).1; have := (h71).2; omega
        exact ih_12 x63 x70 x73 x17 M67 R13 J66 H locs _ (iv_mono h61 (by decide) (by decide)) h_x70 (iv_mono h71 (by decide) (by decide)) h_x17 k74 hm75 hS (lv_sub hl [2, 1, 0, 3, 4, 5, 6] rfl)
  have hm76 : 4 - (0 : Int32).toInt < (((5 : Nat) : Int) : Int) := by
    have := (h_a1).1; have := (h_a1).2; have := (h_a2).1; have := (h_a2).2; have := (h_a3).1; have := (h_a3).2; have := (h_e4).1; have := (h_e4).2; have : (0 : Int32).toInt = 0 := (by decide); omega
  exact W13_12 5 a3 1 0 e4 M4 Ra J3 H locs _ h_a3 (iv_mono (iv_c (c := 1) (n := 1) (by decide)) (by decide) (by decide)) (iv_mono (iv_c (c := 0) (n := 0) (by decide)) (by decide) (by decide)) h_e4 k8 hm76 hS (lv_sub hl [2, 1, 0, 3, 4, 5, 6] rfl)
def Lt_X12_status : WL := []
def LRt_X12_status : WL := []
set_option maxRecDepth 100000 in
set_option maxHeartbeats 4000000 in
theorem t_X12_status (l : Launch) (D : va_G) (cy : Nat → ClassId) (tx : (Nat → Nat) × (Nat → Nat)) (base Z : Nat) (K N : Nat → Nat) (Ma : MT) (Ra : RT) (Ja : JT) (hTy : Ty Z K N Ma Ra) (a0 : Nat) (hz_a0 : a0 < Z) (hk_a0 : K a0 = 12) (a1 : Int32) (h_a1 : iv (-2147483648) 2147483647 a1) : Met l yX12_status [Cond.code yX12_status cX12_status 2 (some .int)] (md_rm 2 0 0) (va_Pc [.ref (base + a0), .int a1] (md_U D cy tx base Z K N Ma Ra Ja)) (mQi D cy tx base (fun r u => TP Z K N Lt_X12_status LRt_X12_status Ma Ra u ∧ (iv (-2147483648) 2147483647 r))) 0 0 (fun q => base ≤ q) := by
  refine tw_ofW (L := Lt_X12_status) (LR := LRt_X12_status) (by decide) (Nat.le_of_ble_eq_true rfl) hTy ?_
  intro p e s m args below meth c Q ls hx hb hr hlocks hown hml hW hK hT hS hQ hl
  have hl : lv_has ls 2 [(0, .ref (base + a0)), (1, .int a1)] := hl
  refine lv_iload_n hx hb dX12_status_0 rfl (lv_at hl 1 rfl) ?_
  refine lv_i2l hx hb dX12_status_1 rfl ?_
  refine lv_lconst (v := 0) hx hb dX12_status_2 (by decide) ?_
  refine lv_lconst (v := 1) hx hb dX12_status_3 (by decide) ?_
  refine tw_goi hS (md_runS (As := [.long a1.toInt64, .long 0, .long 1]) (rest := []) hx hb hml hown hW hK hT hS.1 (t_X12_in l D cy tx base Z K N Ma Ra Ja hS.2.1 (a1.toInt64) (0) (1)) s_X12_155 ⟨rfl, rfl, ⟨Nat.le_of_ble_eq_true rfl, Nat.le_of_ble_eq_true rfl⟩, ⟨Nat.le_of_ble_eq_true rfl, Nat.le_of_ble_eq_true rfl⟩⟩ rfl hl.1 rfl (Nat.le_of_ble_eq_true rfl) dX12_status_4) rfl rfl (fun x7 H locs M4 R5 J3 hS f1 g2 E6 => ?_)
  have eM4 := Fr.nil f1 rfl
  subst eM4
  have eR5 := Fr.nil g2 rfl
  subst eR5
  obtain ⟨h_x7, p8⟩ := E6
  have p9 := p8.1
  refine lv_if_eq (tgt := 19) hx hb dX12_status_7 (by decide) (fun c10 => ?_) (fun c10 => ?_)
  · have q11 : x7.toInt = 0 := ti_eq c10
    have q12 := p8.2 c10
    have q12 : a1.toInt < 0 ∨ 1 < a1.toInt := by rw [Int32.toInt_toInt64] at q12; exact q12
    have h13 : iv 0 0 x7 := ⟨by have := (h_x7).1; have := ((iv_c (c := 0) (n := 0) (by decide))).1; omega, by have := (h_x7).2; have := ((iv_c (c := 0) (n := 0) (by decide))).2; omega⟩
    refine lv_iconst (v := (-1)) hx hb dX12_status_19 (by decide) ?_
    exact tw_endi hx hb hr hlocks hK hT hS hQ ((iv_mono (iv_c (c := (-1)) (n := (-1)) (by decide)) (by decide) (by decide))) dX12_status_20
  · have q14 : ¬ x7.toInt = 0 := ti_ne c10
    have h15 : iv 1 1 x7 := ⟨by have := (h_x7).1; have := ((iv_c (c := 0) (n := 0) (by decide))).1; have := ((iv_c (c := 0) (n := 0) (by decide))).2; omega, by have := (h_x7).2; have := ((iv_c (c := 0) (n := 0) (by decide))).1; have := ((iv_c (c := 0) (n := 0) (by decide))).2; omega⟩
    have h16 : iv 0 1 a1 := in2iv (p9 c10) ((jv_c (x := 0) (n := 0) (by decide))).1 ((jv_c (x := 1) (n := 1) (by decide))).2
    refine lv_aload_n hx hb dX12_status_10 rfl (lv_at hl 0 rfl) ?_
    refine tw_getr hx hb hW hown hK hS f_X12_48_11 hz_a0 hk_a0 (t := 14) (n := 2) rfl dX12_status_11 (fun b17 k18 hz_b17 hk_b17 hn_b17 => ?_)
    have hn_b17 := hn_b17 (by decide)
    refine lv_iload_n hx hb dX12_status_14 rfl (lv_at hl 1 rfl) ?_
    refine tw_iald hx hb hK hS hz_b17 hk_b17 (Or.inl rfl) hn_b17 (lo := (-2147483648)) (hi := 2147483647) h16 ⟨by decide, by decide⟩ rg_u14 dX12_status_15 (fun x21 k20 h19 => ?_)
    refine lv_goto (tgt := 20) hx hb dX12_status_16 (by decide) ?_
    exact tw_endi hx hb hr hlocks hK hT hS hQ (h19) dX12_status_20
def Lt_X12_tells : WL := [(12, 28, 29), (12, 31, 33), (14, 0, 2000000), (30, 0, 2000000)]
def LRt_X12_tells : WL := []
set_option maxRecDepth 100000 in
set_option maxHeartbeats 4000000 in
theorem t_X12_tells (l : Launch) (D : va_G) (cy : Nat → ClassId) (tx : (Nat → Nat) × (Nat → Nat)) (base Z : Nat) (K N : Nat → Nat) (Ma : MT) (Ra : RT) (Ja : JT) (hTy : Ty Z K N Ma Ra) (a0 : Nat) (hz_a0 : a0 < Z) (hk_a0 : K a0 = 12) (a1 : Int32) (h_a1 : iv (-2147483648) 2147483647 a1) (a2 : Int32) (h_a2 : iv (-2147483648) 2147483647 a2) (sd : Nat) (k_sd : Ra a0 25 = some sd) (e0 : Int32) (k_e0 : Ma sd (0 : Int32).toNatClampNeg = e0) (h_e0 : iv 0 10 e0) : Met l yX12_tells [Cond.code yX12_tells cX12_tells 7 (some .int)] (md_rm 7 0 0) (va_Pc [.ref (base + a0), .int a1, .int a2] (md_U D cy tx base Z K N Ma Ra Ja)) (mQi D cy tx base (fun r u => TP Z K N Lt_X12_tells LRt_X12_tells Ma Ra u ∧ (iv (-1) 2147483647 r))) 0 0 (fun q => base ≤ q) := by
  refine tw_ofW (L := Lt_X12_tells) (LR := LRt_X12_tells) (by decide) (Nat.le_of_ble_eq_true rfl) hTy ?_
  intro p e s m args below meth c Q ls hx hb hr hlocks hown hml hW hK hT hS hQ hl
  have hl : lv_has ls 7 [(0, .ref (base + a0)), (1, .int a1), (2, .int a2)] := hl
  obtain ⟨hz_sd, hk_sd, hn_sd⟩ := hTy.refn hz_a0 hk_a0 (show rtR 12 25 = (23, 226, 0) from rfl) k_sd
  have hn_sd := hn_sd (by decide)
  refine lv_aload_n hx hb dX12_tells_0 rfl (lv_at hl 0 rfl) ?_
  refine lv_iload_n hx hb dX12_tells_1 rfl (lv_at hl 1 rfl) ?_
  refine tw_goi hS (md_runV (As := [.int a1]) (rest := []) hx hb hml hown hW hK hT hS.1 (t_X12_canFit l D cy tx base Z K N Ma Ra Ja hS.2.1 a0 hz_a0 hk_a0 a1 h_a1 sd k_sd e0 k_e0 (iv_mono h_e0 (by decide) (by decide))) s_X12_486 ⟨rfl, rfl, ⟨Nat.le_of_ble_eq_true rfl, Nat.le_of_ble_eq_true rfl⟩, ⟨Nat.le_of_ble_eq_true rfl, Nat.le_of_ble_eq_true rfl⟩⟩ hz_a0 hk_a0 (by decide) rfl rfl hl.1 rfl (Nat.le_of_ble_eq_true rfl) dX12_tells_2) rfl rfl (fun x7 H locs M4 R5 J3 hS f1 g2 E6 => ?_)
  have eM4 := Fr.nil f1 rfl
  subst eM4
  have eR5 := Fr.nil g2 rfl
  subst eR5
  obtain ⟨h_x7, p8, p9⟩ := E6
  refine lv_if_eq (tgt := 18) hx hb dX12_tells_5 (by decide) (fun c10 => ?_) (fun c10 => ?_)
  · have q11 : x7.toInt = 0 := ti_eq c10
    have h12 : iv 0 0 x7 := ⟨by have := (h_x7).1; have := ((iv_c (c := 0) (n := 0) (by decide))).1; omega, by have := (h_x7).2; have := ((iv_c (c := 0) (n := 0) (by decide))).2; omega⟩
    refine lv_iconst (v := (-1)) hx hb dX12_tells_18 (by decide) ?_
    exact tw_endi hx hb hr hlocks hK hT hS hQ ((iv_mono (iv_c (c := (-1)) (n := (-1)) (by decide)) (by decide) (by decide))) dX12_tells_19
  · have q13 : ¬ x7.toInt = 0 := ti_ne c10
    have h14 : iv 1 1 x7 := ⟨by have := (h_x7).1; have := ((iv_c (c := 0) (n := 0) (by decide))).1; have := ((iv_c (c := 0) (n := 0) (by decide))).2; omega, by have := (h_x7).2; have := ((iv_c (c := 0) (n := 0) (by decide))).1; have := ((iv_c (c := 0) (n := 0) (by decide))).2; omega⟩
    have h15 : iv 1 5 e0 := ⟨by have := (p8 c10).1; have := (h_e0).1; omega, by have := (p8 c10).2; have := (h_e0).2; omega⟩
    have h16 : iv 1 6 a1 := ⟨by have := (p9 c10).1; have := (h_a1).1; omega, by have := (p9 c10).2; have := (h_a1).2; omega⟩
    refine lv_iload_n hx hb dX12_tells_8 rfl (lv_at hl 2 rfl) ?_
    refine lv_i2l hx hb dX12_tells_9 rfl ?_
    refine lv_lconst (v := 0) hx hb dX12_tells_10 (by decide) ?_
    refine lv_lconst (v := 1) hx hb dX12_tells_11 (by decide) ?_
    refine tw_goi hS (md_runS (As := [.long a2.toInt64, .long 0, .long 1]) (rest := []) hx hb hml hown hW hK hT hS.1 (t_X12_in l D cy tx base Z K N Ma Ra J3 hS.2.1 (a2.toInt64) (0) (1)) s_X12_155 ⟨rfl, rfl, ⟨Nat.le_of_ble_eq_true rfl, Nat.le_of_ble_eq_true rfl⟩, ⟨Nat.le_of_ble_eq_true rfl, Nat.le_of_ble_eq_true rfl⟩⟩ rfl hl.1 rfl (Nat.le_of_ble_eq_true rfl) dX12_tells_12) rfl rfl (fun x23 H locs M20 R21 J19 hS f17 g18 E22 => ?_)
    have eM20 := Fr.nil f17 rfl
    subst eM20
    have eR21 := Fr.nil g18 rfl
    subst eR21
    obtain ⟨h_x23, p24⟩ := E22
    have p25 := p24.1
    refine lv_if_ne (tgt := 20) hx hb dX12_tells_15 (by decide) (fun c26 => ?_) (fun c26 => ?_)
    · have q27 : ¬ x23.toInt = 0 := ti_ne c26
      have h28 : iv 1 1 x23 := ⟨by have := (h_x23).1; have := ((iv_c (c := 0) (n := 0) (by decide))).1; have := ((iv_c (c := 0) (n := 0) (by decide))).2; omega, by have := (h_x23).2; have := ((iv_c (c := 0) (n := 0) (by decide))).1; have := ((iv_c (c := 0) (n := 0) (by decide))).2; omega⟩
      have h29 : iv 0 1 a2 := in2iv (p25 c26) ((jv_c (x := 0) (n := 0) (by decide))).1 ((jv_c (x := 1) (n := 1) (by decide))).2
      refine lv_iconst (v := 1) hx hb dX12_tells_20 (by decide) ?_
      refine lv_istore_n (lv' := [(3, .int 1), (0, .ref (base + a0)), (1, .int a1), (2, .int a2)]) hx hb dX12_tells_21 rfl hl (by decide) rfl (fun ls hl => ?_)
      refine lv_aload_n hx hb dX12_tells_22 rfl (lv_at hl 1 rfl) ?_
      refine lv_iconst (v := 1) hx hb dX12_tells_23 (by decide) ?_
      refine lv_iload_n hx hb dX12_tells_24 rfl (lv_at hl 2 rfl) ?_
      refine tw_goi hS (md_runV (As := [.int 1, .int a1]) (rest := []) hx hb hml hown hW hK hT hS.1 (t_X12_mostAlike l D cy tx base Z K N Ma Ra J19 hS.2.1 a0 hz_a0 hk_a0 1 (iv_mono (iv_c (c := 1) (n := 1) (by decide)) (by decide) (by decide)) a1 h16 sd k_sd e0 k_e0 (iv_mono h15 (by decide) (by decide))) s_X12_495 ⟨rfl, rfl, ⟨Nat.le_of_ble_eq_true rfl, Nat.le_of_ble_eq_true rfl⟩, ⟨Nat.le_of_ble_eq_true rfl, Nat.le_of_ble_eq_true rfl⟩⟩ hz_a0 hk_a0 (by decide) rfl rfl hl.1 rfl (Nat.le_of_ble_eq_true rfl) dX12_tells_25) rfl rfl (fun x36 H locs M33 R34 J32 hS f30 g31 E35 => ?_)
      have eR34 := Fr.nil g31 rfl
      subst eR34
      have h_x36 := E35
      clear E35
      refine lv_istore (lv' := [(4, .int x36), (3, .int 1), (0, .ref (base + a0)), (1, .int a1), (2, .int a2)]) hx hb dX12_tells_28 hl (by decide) rfl (fun ls hl => ?_)
      refine lv_iconst (v := 2) hx hb dX12_tells_30 (by decide) ?_
      refine lv_istore (lv' := [(5, .int 2), (4, .int x36), (3, .int 1), (0, .ref (base + a0)), (1, .int a1), (2, .int a2)]) hx hb dX12_tells_31 hl (by decide) rfl (fun ls hl => ?_)
      have W33_40 : ∀ (n_40 : Nat) (x37 : Int32) (x38 : Int32) (x39 : Int32) (M40 : MT) (R41 : RT) (J42 : JT) (H : Heap) (locs : List Loc) (ls : Array Slot) (h_x37 : iv 1 2147483647 x37) (h_x38 : iv 0 2147483647 x38) (h_x39 : iv 2 2147483647 x39) (hm_40 : 2147483647 - x39.toInt < (n_40 : Int)) (hS : SB D cy base Z K N Lt_X12_tells LRt_X12_tells Ma Ra M40 R41 J42 s H locs) (hl : lv_has ls 7 [(3, .int x37), (4, .int x38), (5, .int x39), (0, .ref (base + a0)), (1, .int a1), (2, .int a2)]), W p l e (md_rm 7 0 0) s m args below meth c H locs 0 0 Q (F0 m 33 ls []) := by
        intro n_40
        induction n_40 with
        | zero =>
          intro x37 x38 x39 M40 R41 J42 H locs ls h_x37 h_x38 h_x39 hm_40 hS hl
          exfalso
          have := (h16).1; have := (h16).2; have := (h29).1; have := (h29).2; have := (h15).1; have := (h15).2; have := (h_x39).1; have := (h_x39).2; omega
        | succ n_40 ih_40 =>
          intro x37 x38 x39 M40 R41 J42 H locs ls h_x37 h_x38 h_x39 hm_40 hS hl
          have f43 := hS.2.2.1
          have g44 := hS.2.2.2
          refine lv_iload hx hb dX12_tells_33 (lv_at hl 2 rfl) ?_
          refine lv_iconst (v := 1) hx hb dX12_tells_35 (by decide) ?_
          refine lv_aload_n hx hb dX12_tells_36 rfl (lv_at hl 3 rfl) ?_
          have k45 : R41 a0 25 = some sd := (Fr.kp (k := 25) g44 hk_a0 rfl).trans k_sd
          refine tw_getrk hx hb hW hown hK hS f_X12_45_11 hz_a0 hk_a0 (b := sd) k45 dX12_tells_37 ?_
          refine lv_iconst (v := 0) hx hb dX12_tells_40 (by decide) ?_
          have k46 : M40 sd (0 : Int32).toNatClampNeg = e0 := (Fr.kp (k := (0 : Int32).toNatClampNeg) f43 hk_sd rfl).trans k_e0
          refine tw_ialk hx hb hK hS hz_sd hk_sd (Or.inr (by decide)) hn_sd (iv_c (c := 0) (n := 0) (by decide)) ⟨by decide, by decide⟩ (v := e0) k46 dX12_tells_41 ?_
          refine lv_ishl hx hb dX12_tells_42 ?_
          refine tw_top (fun x48 => ?_)
          have h47 := iv_any x48
          refine lv_icmp_ge (tgt := 78) hx hb dX12_tells_43 (by decide) (fun c49 => ?_) (fun c49 => ?_)
          · have q50 : x48.toInt ≤ x39.toInt := ti_le c49
            refine lv_iload_n hx hb dX12_tells_78 rfl (lv_at hl 5 rfl) ?_
            refine lv_if_ne (tgt := 86) hx hb dX12_tells_79 (by decide) (fun c51 => ?_) (fun c51 => ?_)
            · have q52 : ¬ a2.toInt = 0 := ti_ne c51
              have h53 : iv 1 1 a2 := ⟨by have := (h29).1; have := ((iv_c (c := 0) (n := 0) (by decide))).1; have := ((iv_c (c := 0) (n := 0) (by decide))).2; omega, by have := (h29).2; have := ((iv_c (c := 0) (n := 0) (by decide))).1; have := ((iv_c (c := 0) (n := 0) (by decide))).2; omega⟩
              refine lv_iload hx hb dX12_tells_86 (lv_at hl 1 rfl) ?_
              exact tw_endi hx hb hr hlocks hK hT hS hQ ((iv_mono h_x38 (by decide) (by decide))) dX12_tells_88
            · have q54 : a2.toInt = 0 := ti_eq c51
              have h55 : iv 0 0 a2 := ⟨by have := (h29).1; have := ((iv_c (c := 0) (n := 0) (by decide))).1; omega, by have := (h29).2; have := ((iv_c (c := 0) (n := 0) (by decide))).2; omega⟩
              refine lv_iload_n hx hb dX12_tells_82 rfl (lv_at hl 0 rfl) ?_
              refine lv_goto (tgt := 88) hx hb dX12_tells_83 (by decide) ?_
              exact tw_endi hx hb hr hlocks hK hT hS hQ ((iv_mono h_x37 (by decide) (by decide))) dX12_tells_88
          · have q56 : x39.toInt < x48.toInt := ti_nle c49
            have h57 : iv 2 2147483646 x39 := iv_ltL (y := x48) h_x39 h47 q56 (by decide)
            have h58 : iv 3 2147483647 x48 := iv_gtL (y := x39) h47 h_x39 q56 (by decide)
            refine lv_aload_n hx hb dX12_tells_46 rfl (lv_at hl 3 rfl) ?_
            refine lv_iload hx hb dX12_tells_47 (lv_at hl 2 rfl) ?_
            refine lv_iload_n hx hb dX12_tells_49 rfl (lv_at hl 4 rfl) ?_
            have k59 : R41 a0 25 = some sd := (Fr.kp (k := 25) g44 hk_a0 rfl).trans k_sd
            have k60 : M40 sd (0 : Int32).toNatClampNeg = e0 := (Fr.kp (k := (0 : Int32).toNatClampNeg) f43 hk_sd rfl).trans k_e0
            refine tw_goi hS (md_runV (As := [.int x39, .int a1]) (rest := []) hx hb hml hown hW hK hT hS.1 (t_X12_mostAlike l D cy tx base Z K N M40 R41 J42 hS.2.1 a0 hz_a0 hk_a0 x39 (iv_mono h57 (by decide) (by decide)) a1 h16 sd k59 e0 k60 (iv_mono h15 (by decide) (by decide))) s_X12_495 ⟨rfl, rfl, ⟨Nat.le_of_ble_eq_true rfl, Nat.le_of_ble_eq_true rfl⟩, ⟨Nat.le_of_ble_eq_true rfl, Nat.le_of_ble_eq_true rfl⟩⟩ hz_a0 hk_a0 (by decide) rfl rfl hl.1 rfl (Nat.le_of_ble_eq_true rfl) dX12_tells_50) rfl rfl (fun x67 H locs M64 R65 J63 hS f61 g62 E66 => ?_)
            have eR65 := Fr.nil g62 rfl
            subst eR65
            have h_x67 := E66
            clear E66
            refine lv_istore (lv' := [(6, .int x67), (3, .int x37), (4, .int x38), (5, .int x39), (0, .ref (base + a0)), (1, .int a1), (2, .int a2)]) hx hb dX12_tells_53 hl (by decide) rfl (fun ls hl => ?_)
            refine lv_iload hx hb dX12_tells_55 (lv_at hl 0 rfl) ?_
            refine lv_iload hx hb dX12_tells_57 (lv_at hl 2 rfl) ?_
            refine lv_icmp_lt (tgt := 65) hx hb dX12_tells_59 (by decide) (fun c68 => ?_) (fun c68 => ?_)
            · have q69 : x67.toInt < x38.toInt := ti_lt c68
              have h70 : iv 0 2147483646 x67 := iv_ltL (y := x38) h_x67 h_x38 q69 (by decide)
              have h71 : iv 1 2147483647 x38 := iv_gtL (y := x67) h_x38 h_x67 q69 (by decide)
              refine lv_iload hx hb dX12_tells_65 (lv_at hl 3 rfl) ?_
              refine lv_istore_n (lv' := [(3, .int x39), (6, .int x67), (4, .int x38), (5, .int x39), (0, .ref (base + a0)), (1, .int a1), (2, .int a2)]) hx hb dX12_tells_67 rfl hl (by decide) rfl (fun ls hl => ?_)
              refine lv_iload hx hb dX12_tells_68 (lv_at hl 1 rfl) ?_
              refine lv_istore (lv' := [(4, .int x67), (3, .int x39), (6, .int x67), (5, .int x39), (0, .ref (base + a0)), (1, .int a1), (2, .int a2)]) hx hb dX12_tells_70 hl (by decide) rfl (fun ls hl => ?_)
              refine tw_iinc (lv' := fun x74 => [(5, .int x74), (4, .int x67), (3, .int x39), (6, .int x67), (0, .ref (base + a0)), (1, .int a1), (2, .int a2)]) (lo := 3) (hi := 2147483647) hx hb dX12_tells_72 hl (k := 3) rfl h57 (by decide) ⟨by decide, by decide⟩ ⟨by decide, by decide⟩ (by decide) (fun _ => rfl) (fun x74 ls e73 h72 hl => ?_)
              refine lv_goto (tgt := 33) hx hb dX12_tells_75 (by decide) ?_
              have hm75 : 2147483647 - x74.toInt < (n_40 : Int) := by
                have := (h16).1; have := (h16).2; have := (h29).1; have := (h29).2; have := (h15).1; have := (h15).2; have := (h57).1; have := (h57).2; have := (h72).1; have := (h72).2; omega
              exact ih_40 x39 x67 x74 M64 R41 J63 H locs _ (iv_mono h57 (by decide) (by decide)) (iv_mono h70 (by decide) (by decide)) (iv_mono h72 (by decide) (by decide)) hm75 hS (lv_sub hl [2, 1, 0, 4, 5, 6] rfl)
            · have q76 : x38.toInt ≤ x67.toInt := ti_nlt c68
              refine lv_goto (tgt := 72) hx hb dX12_tells_62 (by decide) ?_
              refine tw_iinc (lv' := fun x79 => [(5, .int x79), (6, .int x67), (3, .int x37), (4, .int x38), (0, .ref (base + a0)), (1, .int a1), (2, .int a2)]) (lo := 3) (hi := 2147483647) hx hb dX12_tells_72 hl (k := 3) rfl h57 (by decide) ⟨by decide, by decide⟩ ⟨by decide, by decide⟩ (by decide) (fun _ => rfl) (fun x79 ls e78 h77 hl => ?_)
              refine lv_goto (tgt := 33) hx hb dX12_tells_75 (by decide) ?_
              have hm80 : 2147483647 - x79.toInt < (n_40 : Int) := by
                have := (h16).1; have := (h16).2; have := (h29).1; have := (h29).2; have := (h15).1; have := (h15).2; have := (h57).1; have := (h57).2; have := (h77).1; have := (h77).2; omega
              exact ih_40 x37 x38 x79 M64 R41 J63 H locs _ h_x37 h_x38 (iv_mono h77 (by decide) (by decide)) hm80 hS (lv_sub hl [2, 3, 0, 4, 5, 6] rfl)
      have hm81 : 2147483647 - (2 : Int32).toInt < (((2147483646 : Nat) : Int) : Int) := by
        have := (h16).1; have := (h16).2; have := (h29).1; have := (h29).2; have := (h15).1; have := (h15).2; have : (2 : Int32).toInt = 2 := (by decide); omega
      exact W33_40 2147483646 1 x36 2 M33 Ra J32 H locs _ (iv_mono (iv_c (c := 1) (n := 1) (by decide)) (by decide) (by decide)) h_x36 (iv_mono (iv_c (c := 2) (n := 2) (by decide)) (by decide) (by decide)) hm81 hS (lv_sub hl [2, 1, 0, 3, 4, 5] rfl)
    · have q82 : x23.toInt = 0 := ti_eq c26
      have q83 := p24.2 c26
      have q83 : a2.toInt < 0 ∨ 1 < a2.toInt := by rw [Int32.toInt_toInt64] at q83; exact q83
      have h84 : iv 0 0 x23 := ⟨by have := (h_x23).1; have := ((iv_c (c := 0) (n := 0) (by decide))).1; omega, by have := (h_x23).2; have := ((iv_c (c := 0) (n := 0) (by decide))).2; omega⟩
      refine lv_iconst (v := (-1)) hx hb dX12_tells_18 (by decide) ?_
      exact tw_endi hx hb hr hlocks hK hT hS hQ ((iv_mono (iv_c (c := (-1)) (n := (-1)) (by decide)) (by decide) (by decide))) dX12_tells_19
def Lt_X12_voice : WL := []
def LRt_X12_voice : WL := []
set_option maxRecDepth 100000 in
set_option maxHeartbeats 4000000 in
theorem t_X12_voice (l : Launch) (D : va_G) (cy : Nat → ClassId) (tx : (Nat → Nat) × (Nat → Nat)) (base Z : Nat) (K N : Nat → Nat) (Ma : MT) (Ra : RT) (Ja : JT) (hTy : Ty Z K N Ma Ra) (a0 : Nat) (hz_a0 : a0 < Z) (hk_a0 : K a0 = 12) (a1 : Int32) (h_a1 : iv (-2147483648) 2147483647 a1) (a2 : Int32) (h_a2 : iv (-2147483648) 2147483647 a2) : Met l yX12_voice [Cond.code yX12_voice cX12_voice 3 (some .int)] (md_rm 2 0 0) (va_Pc [.ref (base + a0), .int a1, .int a2] (md_U D cy tx base Z K N Ma Ra Ja)) (mQi D cy tx base (fun r u => TP Z K N Lt_X12_voice LRt_X12_voice Ma Ra u ∧ (iv (-2147483648) 2147483647 r))) 0 0 (fun q => base ≤ q) := by
  refine tw_ofW (L := Lt_X12_voice) (LR := LRt_X12_voice) (by decide) (Nat.le_of_ble_eq_true rfl) hTy ?_
  intro p e s m args below meth c Q ls hx hb hr hlocks hown hml hW hK hT hS hQ hl
  have hl : lv_has ls 3 [(0, .ref (base + a0)), (1, .int a1), (2, .int a2)] := hl
  refine lv_aload_n hx hb dX12_voice_0 rfl (lv_at hl 0 rfl) ?_
  refine lv_iload_n hx hb dX12_voice_1 rfl (lv_at hl 1 rfl) ?_
  refine tw_goi hS (md_runV (As := [.int a1]) (rest := []) hx hb hml hown hW hK hT hS.1 (t_X12_isMember l D cy tx base Z K N Ma Ra Ja hS.2.1 a0 hz_a0 hk_a0 a1 h_a1) s_X12_319 ⟨rfl, rfl, ⟨Nat.le_of_ble_eq_true rfl, Nat.le_of_ble_eq_true rfl⟩, ⟨Nat.le_of_ble_eq_true rfl, Nat.le_of_ble_eq_true rfl⟩⟩ hz_a0 hk_a0 (by decide) rfl rfl hl.1 rfl (Nat.le_of_ble_eq_true rfl) dX12_voice_2) rfl rfl (fun x7 H locs M4 R5 J3 hS f1 g2 E6 => ?_)
  have eM4 := Fr.nil f1 rfl
  subst eM4
  have eR5 := Fr.nil g2 rfl
  subst eR5
  obtain ⟨h_x7, p8⟩ := E6
  refine lv_if_eq (tgt := 20) hx hb dX12_voice_5 (by decide) (fun c9 => ?_) (fun c9 => ?_)
  · have q10 : x7.toInt = 0 := ti_eq c9
    have h11 : iv 0 0 x7 := ⟨by have := (h_x7).1; have := ((iv_c (c := 0) (n := 0) (by decide))).1; omega, by have := (h_x7).2; have := ((iv_c (c := 0) (n := 0) (by decide))).2; omega⟩
    refine lv_iconst (v := (-1)) hx hb dX12_voice_20 (by decide) ?_
    exact tw_endi hx hb hr hlocks hK hT hS hQ ((iv_mono (iv_c (c := (-1)) (n := (-1)) (by decide)) (by decide) (by decide))) dX12_voice_21
  · have q12 : ¬ x7.toInt = 0 := ti_ne c9
    have h13 : iv 1 1 x7 := ⟨by have := (h_x7).1; have := ((iv_c (c := 0) (n := 0) (by decide))).1; have := ((iv_c (c := 0) (n := 0) (by decide))).2; omega, by have := (h_x7).2; have := ((iv_c (c := 0) (n := 0) (by decide))).1; have := ((iv_c (c := 0) (n := 0) (by decide))).2; omega⟩
    have h14 : iv 0 9 a1 := ⟨by have := (p8 c9).1; have := (h_a1).1; omega, by have := (p8 c9).2; have := (h_a1).2; omega⟩
    refine lv_iload_n hx hb dX12_voice_8 rfl (lv_at hl 2 rfl) ?_
    refine lv_i2l hx hb dX12_voice_9 rfl ?_
    refine lv_lconst (v := 0) hx hb dX12_voice_10 (by decide) ?_
    refine lv_ldc2 hx hb hown (hW _ w_7_141 rfl) dX12_voice_11 ?_
    refine tw_goi hS (md_runS (As := [.long a2.toInt64, .long 0, .long 4]) (rest := []) hx hb hml hown hW hK hT hS.1 (t_X12_in l D cy tx base Z K N Ma Ra J3 hS.2.1 (a2.toInt64) (0) (4)) s_X12_155 ⟨rfl, rfl, ⟨Nat.le_of_ble_eq_true rfl, Nat.le_of_ble_eq_true rfl⟩, ⟨Nat.le_of_ble_eq_true rfl, Nat.le_of_ble_eq_true rfl⟩⟩ rfl hl.1 rfl (Nat.le_of_ble_eq_true rfl) dX12_voice_14) rfl rfl (fun x21 H locs M18 R19 J17 hS f15 g16 E20 => ?_)
    have eM18 := Fr.nil f15 rfl
    subst eM18
    have eR19 := Fr.nil g16 rfl
    subst eR19
    obtain ⟨h_x21, p22⟩ := E20
    have p23 := p22.1
    refine lv_if_ne (tgt := 22) hx hb dX12_voice_17 (by decide) (fun c24 => ?_) (fun c24 => ?_)
    · have q25 : ¬ x21.toInt = 0 := ti_ne c24
      have h26 : iv 1 1 x21 := ⟨by have := (h_x21).1; have := ((iv_c (c := 0) (n := 0) (by decide))).1; have := ((iv_c (c := 0) (n := 0) (by decide))).2; omega, by have := (h_x21).2; have := ((iv_c (c := 0) (n := 0) (by decide))).1; have := ((iv_c (c := 0) (n := 0) (by decide))).2; omega⟩
      have h27 : iv 0 4 a2 := in2iv (p23 c24) ((jv_c (x := 0) (n := 0) (by decide))).1 ((jv_c (x := 4) (n := 4) (by decide))).2
      refine lv_iload_n hx hb dX12_voice_22 rfl (lv_at hl 2 rfl) ?_
      refine lv_iconst (v := 2) hx hb dX12_voice_23 (by decide) ?_
      refine lv_icmp_ne (tgt := 46) hx hb dX12_voice_24 (by decide) (fun c28 => ?_) (fun c28 => ?_)
      · have q29 : ¬ a2.toInt = 2 := ti_ne c28
        refine lv_aload_n hx hb dX12_voice_46 rfl (lv_at hl 0 rfl) ?_
        refine tw_getr hx hb hW hown hK hS f_X12_45_11 hz_a0 hk_a0 (t := 23) (n := 226) rfl dX12_voice_47 (fun b30 k31 hz_b30 hk_b30 hn_b30 => ?_)
        have hn_b30 := hn_b30 (by decide)
        refine lv_iload_n hx hb dX12_voice_50 rfl (lv_at hl 2 rfl) ?_
        refine lv_if_ne (tgt := 59) hx hb dX12_voice_51 (by decide) (fun c32 => ?_) (fun c32 => ?_)
        · have q33 : ¬ a2.toInt = 0 := ti_ne c32
          have h34 : iv 1 4 a2 := ⟨by have := (h27).1; have := ((iv_c (c := 0) (n := 0) (by decide))).1; have := ((iv_c (c := 0) (n := 0) (by decide))).2; omega, by have := (h27).2; have := ((iv_c (c := 0) (n := 0) (by decide))).1; have := ((iv_c (c := 0) (n := 0) (by decide))).2; omega⟩
          refine lv_iload_n hx hb dX12_voice_59 rfl (lv_at hl 2 rfl) ?_
          refine lv_iconst (v := 1) hx hb dX12_voice_60 (by decide) ?_
          refine lv_icmp_ne (tgt := 69) hx hb dX12_voice_61 (by decide) (fun c35 => ?_) (fun c35 => ?_)
          · have q36 : ¬ a2.toInt = 1 := ti_ne c35
            have h37 : iv 2 4 a2 := ⟨by have := (h34).1; have := ((iv_c (c := 1) (n := 1) (by decide))).1; have := ((iv_c (c := 1) (n := 1) (by decide))).2; omega, by have := (h34).2; have := ((iv_c (c := 1) (n := 1) (by decide))).1; have := ((iv_c (c := 1) (n := 1) (by decide))).2; omega⟩
            refine lv_iload_n hx hb dX12_voice_69 rfl (lv_at hl 2 rfl) ?_
            refine lv_iconst (v := 3) hx hb dX12_voice_70 (by decide) ?_
            refine lv_icmp_ne (tgt := 79) hx hb dX12_voice_71 (by decide) (fun c38 => ?_) (fun c38 => ?_)
            · have q39 : ¬ a2.toInt = 3 := ti_ne c38
              refine lv_bipush (v := 40) hx hb dX12_voice_79 (by decide) ?_
              refine lv_iload_n hx hb dX12_voice_81 rfl (lv_at hl 1 rfl) ?_
              refine tw_iadd (lo := 40) (hi := 49) hx hb (iv_c (c := 40) (n := 40) (by decide)) h14 ⟨by decide, by decide⟩ ⟨by decide, by decide⟩ dX12_voice_82 (fun x42 e41 h40 => ?_)
              have e41 : x42.toInt = 40 + a1.toInt := e41
              refine tw_iald hx hb hK hS hz_b30 hk_b30 (Or.inr (by decide)) hn_b30 (lo := (-2147483648)) (hi := 2147483647) h40 ⟨by decide, by decide⟩ rg_full dX12_voice_83 (fun x45 k44 h43 => ?_)
              exact tw_endi hx hb hr hlocks hK hT hS hQ (h43) dX12_voice_84
            · have q46 : a2.toInt = 3 := ti_eq c38
              have h47 : iv 3 3 a2 := ⟨by have := (h37).1; have := ((iv_c (c := 3) (n := 3) (by decide))).1; omega, by have := (h37).2; have := ((iv_c (c := 3) (n := 3) (by decide))).2; omega⟩
              refine lv_bipush (v := 30) hx hb dX12_voice_74 (by decide) ?_
              refine lv_goto (tgt := 81) hx hb dX12_voice_76 (by decide) ?_
              refine lv_iload_n hx hb dX12_voice_81 rfl (lv_at hl 1 rfl) ?_
              refine tw_iadd (lo := 30) (hi := 39) hx hb (iv_c (c := 30) (n := 30) (by decide)) h14 ⟨by decide, by decide⟩ ⟨by decide, by decide⟩ dX12_voice_82 (fun x50 e49 h48 => ?_)
              have e49 : x50.toInt = 30 + a1.toInt := e49
              refine tw_iald hx hb hK hS hz_b30 hk_b30 (Or.inr (by decide)) hn_b30 (lo := (-2147483648)) (hi := 2147483647) h48 ⟨by decide, by decide⟩ rg_full dX12_voice_83 (fun x53 k52 h51 => ?_)
              exact tw_endi hx hb hr hlocks hK hT hS hQ (h51) dX12_voice_84
          · have q54 : a2.toInt = 1 := ti_eq c35
            have h55 : iv 1 1 a2 := ⟨by have := (h34).1; have := ((iv_c (c := 1) (n := 1) (by decide))).1; omega, by have := (h34).2; have := ((iv_c (c := 1) (n := 1) (by decide))).2; omega⟩
            refine lv_bipush (v := 20) hx hb dX12_voice_64 (by decide) ?_
            refine lv_goto (tgt := 81) hx hb dX12_voice_66 (by decide) ?_
            refine lv_iload_n hx hb dX12_voice_81 rfl (lv_at hl 1 rfl) ?_
            refine tw_iadd (lo := 20) (hi := 29) hx hb (iv_c (c := 20) (n := 20) (by decide)) h14 ⟨by decide, by decide⟩ ⟨by decide, by decide⟩ dX12_voice_82 (fun x58 e57 h56 => ?_)
            have e57 : x58.toInt = 20 + a1.toInt := e57
            refine tw_iald hx hb hK hS hz_b30 hk_b30 (Or.inr (by decide)) hn_b30 (lo := (-2147483648)) (hi := 2147483647) h56 ⟨by decide, by decide⟩ rg_full dX12_voice_83 (fun x61 k60 h59 => ?_)
            exact tw_endi hx hb hr hlocks hK hT hS hQ (h59) dX12_voice_84
        · have q62 : a2.toInt = 0 := ti_eq c32
          have h63 : iv 0 0 a2 := ⟨by have := (h27).1; have := ((iv_c (c := 0) (n := 0) (by decide))).1; omega, by have := (h27).2; have := ((iv_c (c := 0) (n := 0) (by decide))).2; omega⟩
          refine lv_bipush (v := 10) hx hb dX12_voice_54 (by decide) ?_
          refine lv_goto (tgt := 81) hx hb dX12_voice_56 (by decide) ?_
          refine lv_iload_n hx hb dX12_voice_81 rfl (lv_at hl 1 rfl) ?_
          refine tw_iadd (lo := 10) (hi := 19) hx hb (iv_c (c := 10) (n := 10) (by decide)) h14 ⟨by decide, by decide⟩ ⟨by decide, by decide⟩ dX12_voice_82 (fun x66 e65 h64 => ?_)
          have e65 : x66.toInt = 10 + a1.toInt := e65
          refine tw_iald hx hb hK hS hz_b30 hk_b30 (Or.inr (by decide)) hn_b30 (lo := 0) (hi := 9999) h64 ⟨by decide, by decide⟩ (rg_sv ⟨by decide, by decide⟩) dX12_voice_83 (fun x69 k68 h67 => ?_)
          exact tw_endi hx hb hr hlocks hK hT hS hQ ((iv_mono h67 (by decide) (by decide))) dX12_voice_84
      · have q70 : a2.toInt = 2 := ti_eq c28
        have h71 : iv 2 2 a2 := ⟨by have := (h27).1; have := ((iv_c (c := 2) (n := 2) (by decide))).1; omega, by have := (h27).2; have := ((iv_c (c := 2) (n := 2) (by decide))).2; omega⟩
        refine lv_aload_n hx hb dX12_voice_27 rfl (lv_at hl 0 rfl) ?_
        refine tw_getr hx hb hW hown hK hS f_X12_45_11 hz_a0 hk_a0 (t := 23) (n := 226) rfl dX12_voice_28 (fun b72 k73 hz_b72 hk_b72 hn_b72 => ?_)
        have hn_b72 := hn_b72 (by decide)
        refine lv_iconst (v := 2) hx hb dX12_voice_31 (by decide) ?_
        refine tw_iald hx hb hK hS hz_b72 hk_b72 (Or.inr (by decide)) hn_b72 (lo := (-2147483648)) (hi := 2147483647) (iv_c (c := 2) (n := 2) (by decide)) ⟨by decide, by decide⟩ (rg_c (k0 := 2) rfl rfl rfl) dX12_voice_32 (fun x76 k75 h74 => ?_)
        refine lv_iload_n hx hb dX12_voice_33 rfl (lv_at hl 1 rfl) ?_
        refine tw_goi hS (md_runS (As := [.int x76, .int a1]) (rest := []) hx hb hml hown hW hK hT hS.1 (t_X12_isOf l D cy tx base Z K N Ma Ra J17 hS.2.1 x76 h74 a1 h14) s_X12_322 ⟨rfl, rfl, ⟨Nat.le_of_ble_eq_true rfl, Nat.le_of_ble_eq_true rfl⟩, ⟨Nat.le_of_ble_eq_true rfl, Nat.le_of_ble_eq_true rfl⟩⟩ rfl hl.1 rfl (Nat.le_of_ble_eq_true rfl) dX12_voice_34) rfl rfl (fun x83 H locs M80 R81 J79 hS f77 g78 E82 => ?_)
        have eM80 := Fr.nil f77 rfl
        subst eM80
        have eR81 := Fr.nil g78 rfl
        subst eR81
        have h_x83 := E82
        clear E82
        refine lv_if_eq (tgt := 44) hx hb dX12_voice_37 (by decide) (fun c84 => ?_) (fun c84 => ?_)
        · have q85 : x83.toInt = 0 := ti_eq c84
          have h86 : iv 0 0 x83 := ⟨by have := (h_x83).1; have := ((iv_c (c := 0) (n := 0) (by decide))).1; omega, by have := (h_x83).2; have := ((iv_c (c := 0) (n := 0) (by decide))).2; omega⟩
          refine lv_iconst (v := 0) hx hb dX12_voice_44 (by decide) ?_
          exact tw_endi hx hb hr hlocks hK hT hS hQ ((iv_mono (iv_c (c := 0) (n := 0) (by decide)) (by decide) (by decide))) dX12_voice_45
        · have q87 : ¬ x83.toInt = 0 := ti_ne c84
          have h88 : iv 1 1 x83 := ⟨by have := (h_x83).1; have := ((iv_c (c := 0) (n := 0) (by decide))).1; have := ((iv_c (c := 0) (n := 0) (by decide))).2; omega, by have := (h_x83).2; have := ((iv_c (c := 0) (n := 0) (by decide))).1; have := ((iv_c (c := 0) (n := 0) (by decide))).2; omega⟩
          refine lv_iconst (v := 1) hx hb dX12_voice_40 (by decide) ?_
          refine lv_goto (tgt := 45) hx hb dX12_voice_41 (by decide) ?_
          exact tw_endi hx hb hr hlocks hK hT hS hQ ((iv_mono (iv_c (c := 1) (n := 1) (by decide)) (by decide) (by decide))) dX12_voice_45
    · have q89 : x21.toInt = 0 := ti_eq c24
      have q90 := p22.2 c24
      have q90 : a2.toInt < 0 ∨ 4 < a2.toInt := by rw [Int32.toInt_toInt64] at q90; exact q90
      have h91 : iv 0 0 x21 := ⟨by have := (h_x21).1; have := ((iv_c (c := 0) (n := 0) (by decide))).1; omega, by have := (h_x21).2; have := ((iv_c (c := 0) (n := 0) (by decide))).2; omega⟩
      refine lv_iconst (v := (-1)) hx hb dX12_voice_20 (by decide) ?_
      exact tw_endi hx hb hr hlocks hK hT hS hQ ((iv_mono (iv_c (c := (-1)) (n := (-1)) (by decide)) (by decide) (by decide))) dX12_voice_21
def Lt_X12_vote : WL := [(12, 23, 24), (12, 28, 29), (12, 30, 33), (14, 0, 2000000), (23, 3, 4), (23, 10, 20), (23, 30, 50), (30, 0, 2000000), (31, 0, 2000000)]
def LRt_X12_vote : WL := []
set_option maxRecDepth 100000 in
set_option maxHeartbeats 4000000 in
theorem t_X12_vote (l : Launch) (D : va_G) (cy : Nat → ClassId) (tx : (Nat → Nat) × (Nat → Nat)) (base Z : Nat) (K N : Nat → Nat) (Ma : MT) (Ra : RT) (Ja : JT) (hTy : Ty Z K N Ma Ra) (a0 : Nat) (hz_a0 : a0 < Z) (hk_a0 : K a0 = 12) (a1 : Int32) (h_a1 : iv (-2147483648) 2147483647 a1) (co_a0 : Codes Ma Ra a0) : Met l yX12_vote [Cond.code yX12_vote cX12_vote 3 (some .int)] (md_rm 5 0 0) (va_Pc [.ref (base + a0), .int a1] (md_U D cy tx base Z K N Ma Ra Ja)) (mQi D cy tx base (fun r u => TP Z K N Lt_X12_vote LRt_X12_vote Ma Ra u ∧ (iv (-2) 2 r))) 0 0 (fun q => base ≤ q) := by
  refine tw_ofW (L := Lt_X12_vote) (LR := LRt_X12_vote) (by decide) (Nat.le_of_ble_eq_true rfl) hTy ?_
  intro p e s m args below meth c Q ls hx hb hr hlocks hown hml hW hK hT hS hQ hl
  have hl : lv_has ls 3 [(0, .ref (base + a0)), (1, .int a1)] := hl
  refine lv_aload_n hx hb dX12_vote_0 rfl (lv_at hl 0 rfl) ?_
  refine lv_iload_n hx hb dX12_vote_1 rfl (lv_at hl 1 rfl) ?_
  refine tw_goi hS (md_runV (As := [.int a1]) (rest := []) hx hb hml hown hW hK hT hS.1 (t_X12_isPoint l D cy tx base Z K N Ma Ra Ja hS.2.1 a0 hz_a0 hk_a0 a1 h_a1) s_X12_327 ⟨rfl, rfl, ⟨Nat.le_of_ble_eq_true rfl, Nat.le_of_ble_eq_true rfl⟩, ⟨Nat.le_of_ble_eq_true rfl, Nat.le_of_ble_eq_true rfl⟩⟩ hz_a0 hk_a0 (by decide) rfl rfl hl.1 rfl (Nat.le_of_ble_eq_true rfl) dX12_vote_2) rfl rfl (fun x7 H locs M4 R5 J3 hS f1 g2 E6 => ?_)
  have eM4 := Fr.nil f1 rfl
  subst eM4
  have eR5 := Fr.nil g2 rfl
  subst eR5
  obtain ⟨h_x7, p8⟩ := E6
  refine lv_if_ne (tgt := 14) hx hb dX12_vote_5 (by decide) (fun c9 => ?_) (fun c9 => ?_)
  · have q10 : ¬ x7.toInt = 0 := ti_ne c9
    have h11 : iv 1 1 x7 := ⟨by have := (h_x7).1; have := ((iv_c (c := 0) (n := 0) (by decide))).1; have := ((iv_c (c := 0) (n := 0) (by decide))).2; omega, by have := (h_x7).2; have := ((iv_c (c := 0) (n := 0) (by decide))).1; have := ((iv_c (c := 0) (n := 0) (by decide))).2; omega⟩
    have h12 : iv 0 11 a1 := ⟨by have := (p8 c9).1; have := (h_a1).1; omega, by have := (p8 c9).2; have := (h_a1).2; omega⟩
    refine lv_aload_n hx hb dX12_vote_14 rfl (lv_at hl 0 rfl) ?_
    obtain ⟨b13, k14, hz_b13, hk_b13, hn_b13⟩ := hS.2.1.ref hz_a0 hk_a0 (show rtR 12 25 = (23, 226, 0) from rfl)
    have hn_b13 := hn_b13 (by decide)
    obtain ⟨x17, k15⟩ : ∃ x, Ma b13 (4 : Int32).toNatClampNeg = x := ⟨_, rfl⟩
    have h16 : iv 0 8 x17 := by rw [← k15]; exact hS.2.1.int hz_b13 hk_b13 (show rgI 23 (4 : Int32).toNatClampNeg = (0, 8) from rfl)
    refine tw_gov hS (md_runV (As := []) (rest := []) hx hb hml hown hW hK hT hS.1 (t_X12_begins l D cy tx base Z K N Ma Ra J3 hS.2.1 a0 hz_a0 hk_a0 b13 k14 x17 k15 (iv_mono h16 (by decide) (by decide))) s_X12_393 ⟨rfl, rfl, ⟨Nat.le_of_ble_eq_true rfl, Nat.le_of_ble_eq_true rfl⟩, ⟨Nat.le_of_ble_eq_true rfl, Nat.le_of_ble_eq_true rfl⟩⟩ hz_a0 hk_a0 (by decide) rfl rfl hl.1 rfl (Nat.le_of_ble_eq_true rfl) dX12_vote_15) rfl rfl (fun H locs M21 R22 J20 hS f18 g19 E23 => ?_)
    have eR22 := Fr.nil g19 rfl
    subst eR22
    have p24 := E23
    clear E23
    have k25 : M21 a0 30 = x17 := p24
    refine lv_aload_n hx hb dX12_vote_18 rfl (lv_at hl 0 rfl) ?_
    refine lv_iload_n hx hb dX12_vote_19 rfl (lv_at hl 1 rfl) ?_
    refine lv_iconst (v := (-1)) hx hb dX12_vote_20 (by decide) ?_
    refine tw_gov hS (md_runV (As := [.int a1, .int (-1)]) (rest := []) hx hb hml hown hW hK hT hS.1 (t_X12_asks l D cy tx base Z K N M21 Ra J20 hS.2.1 a0 hz_a0 hk_a0 a1 h12 (-1) (iv_mono (iv_c (c := (-1)) (n := (-1)) (by decide)) (by decide) (by decide)) (Codes.fr co_a0 hTy hz_a0 hk_a0 hS.2.2.1 hS.2.2.2 rfl)) s_X12_396 ⟨rfl, rfl, ⟨Nat.le_of_ble_eq_true rfl, Nat.le_of_ble_eq_true rfl⟩, ⟨Nat.le_of_ble_eq_true rfl, Nat.le_of_ble_eq_true rfl⟩⟩ hz_a0 hk_a0 (by decide) rfl rfl hl.1 rfl (Nat.le_of_ble_eq_true rfl) dX12_vote_21) rfl rfl (fun H locs M29 R30 J28 hS f26 g27 E31 => ?_)
    have eR30 := Fr.nil g27 rfl
    subst eR30
    refine lv_aload_n hx hb dX12_vote_24 rfl (lv_at hl 0 rfl) ?_
    refine tw_goi hS (md_runV (As := []) (rest := []) hx hb hml hown hW hK hT hS.1 (t_X12_settles_ l D cy tx base Z K N M29 Ra J28 hS.2.1 a0 hz_a0 hk_a0) s_X12_399 ⟨rfl, rfl, ⟨Nat.le_of_ble_eq_true rfl, Nat.le_of_ble_eq_true rfl⟩, ⟨Nat.le_of_ble_eq_true rfl, Nat.le_of_ble_eq_true rfl⟩⟩ hz_a0 hk_a0 (by decide) rfl rfl hl.1 rfl (Nat.le_of_ble_eq_true rfl) dX12_vote_25) rfl rfl (fun x38 H locs M35 R36 J34 hS f32 g33 E37 => ?_)
    have eR36 := Fr.nil g33 rfl
    subst eR36
    have h_x38 := E37
    clear E37
    refine lv_istore_n (lv' := [(2, .int x38), (0, .ref (base + a0)), (1, .int a1)]) hx hb dX12_vote_28 rfl hl (by decide) rfl (fun ls hl => ?_)
    refine lv_aload_n hx hb dX12_vote_29 rfl (lv_at hl 1 rfl) ?_
    refine tw_gov hS (md_runV (As := []) (rest := []) hx hb hml hown hW hK hT hS.1 (t_X12_stays l D cy tx base Z K N M35 Ra J34 hS.2.1 a0 hz_a0 hk_a0) s_X12_401 ⟨rfl, rfl, ⟨Nat.le_of_ble_eq_true rfl, Nat.le_of_ble_eq_true rfl⟩, ⟨Nat.le_of_ble_eq_true rfl, Nat.le_of_ble_eq_true rfl⟩⟩ hz_a0 hk_a0 (by decide) rfl rfl hl.1 rfl (Nat.le_of_ble_eq_true rfl) dX12_vote_30) rfl rfl (fun H locs M42 R43 J41 hS f39 g40 E44 => ?_)
    have eR43 := Fr.nil g40 rfl
    subst eR43
    refine lv_iload_n hx hb dX12_vote_33 rfl (lv_at hl 0 rfl) ?_
    exact tw_endi hx hb hr hlocks hK hT hS hQ ((iv_mono h_x38 (by decide) (by decide))) dX12_vote_34
  · have q45 : x7.toInt = 0 := ti_eq c9
    have h46 : iv 0 0 x7 := ⟨by have := (h_x7).1; have := ((iv_c (c := 0) (n := 0) (by decide))).1; omega, by have := (h_x7).2; have := ((iv_c (c := 0) (n := 0) (by decide))).2; omega⟩
    refine lv_aload_n hx hb dX12_vote_8 rfl (lv_at hl 0 rfl) ?_
    refine lv_iconst (v := 0) hx hb dX12_vote_9 (by decide) ?_
    refine tw_goi hS (md_runV (As := [.int 0]) (rest := []) hx hb hml hown hW hK hT hS.1 (t_X12_refuses l D cy tx base Z K N Ma Ra J3 hS.2.1 a0 hz_a0 hk_a0 0 (iv_mono (iv_c (c := 0) (n := 0) (by decide)) (by decide) (by decide))) s_X12_338 ⟨rfl, rfl, ⟨Nat.le_of_ble_eq_true rfl, Nat.le_of_ble_eq_true rfl⟩, ⟨Nat.le_of_ble_eq_true rfl, Nat.le_of_ble_eq_true rfl⟩⟩ hz_a0 hk_a0 (by decide) rfl rfl hl.1 rfl (Nat.le_of_ble_eq_true rfl) dX12_vote_10) rfl rfl (fun x53 H locs M50 R51 J49 hS f47 g48 E52 => ?_)
    have eR51 := Fr.nil g48 rfl
    subst eR51
    have h_x53 := E52
    clear E52
    exact tw_endi hx hb hr hlocks hK hT hS hQ ((iv_mono h_x53 (by decide) (by decide))) dX12_vote_13
def Lt_X12_worth : WL := []
def LRt_X12_worth : WL := []
set_option maxRecDepth 100000 in
set_option maxHeartbeats 4000000 in
theorem t_X12_worth (l : Launch) (D : va_G) (cy : Nat → ClassId) (tx : (Nat → Nat) × (Nat → Nat)) (base Z : Nat) (K N : Nat → Nat) (Ma : MT) (Ra : RT) (Ja : JT) (hTy : Ty Z K N Ma Ra) (a0 : Nat) (hz_a0 : a0 < Z) (hk_a0 : K a0 = 12) (a1 : Int32) (h_a1 : iv (-2147483648) 2147483647 a1) (a2 : Int32) (h_a2 : iv (-2147483648) 2147483647 a2) : Met l yX12_worth [Cond.code yX12_worth cX12_worth 3 (some .int)] (md_rm 2 0 0) (va_Pc [.ref (base + a0), .int a1, .int a2] (md_U D cy tx base Z K N Ma Ra Ja)) (mQi D cy tx base (fun r u => TP Z K N Lt_X12_worth LRt_X12_worth Ma Ra u ∧ (iv (-2147483648) 2147483647 r))) 0 0 (fun q => base ≤ q) := by
  refine tw_ofW (L := Lt_X12_worth) (LR := LRt_X12_worth) (by decide) (Nat.le_of_ble_eq_true rfl) hTy ?_
  intro p e s m args below meth c Q ls hx hb hr hlocks hown hml hW hK hT hS hQ hl
  have hl : lv_has ls 3 [(0, .ref (base + a0)), (1, .int a1), (2, .int a2)] := hl
  refine lv_aload_n hx hb dX12_worth_0 rfl (lv_at hl 0 rfl) ?_
  refine lv_iload_n hx hb dX12_worth_1 rfl (lv_at hl 1 rfl) ?_
  refine tw_goi hS (md_runV (As := [.int a1]) (rest := []) hx hb hml hown hW hK hT hS.1 (t_X12_isMember l D cy tx base Z K N Ma Ra Ja hS.2.1 a0 hz_a0 hk_a0 a1 h_a1) s_X12_319 ⟨rfl, rfl, ⟨Nat.le_of_ble_eq_true rfl, Nat.le_of_ble_eq_true rfl⟩, ⟨Nat.le_of_ble_eq_true rfl, Nat.le_of_ble_eq_true rfl⟩⟩ hz_a0 hk_a0 (by decide) rfl rfl hl.1 rfl (Nat.le_of_ble_eq_true rfl) dX12_worth_2) rfl rfl (fun x7 H locs M4 R5 J3 hS f1 g2 E6 => ?_)
  have eM4 := Fr.nil f1 rfl
  subst eM4
  have eR5 := Fr.nil g2 rfl
  subst eR5
  obtain ⟨h_x7, p8⟩ := E6
  refine lv_if_eq (tgt := 25) hx hb dX12_worth_5 (by decide) (fun c9 => ?_) (fun c9 => ?_)
  · have q10 : x7.toInt = 0 := ti_eq c9
    have h11 : iv 0 0 x7 := ⟨by have := (h_x7).1; have := ((iv_c (c := 0) (n := 0) (by decide))).1; omega, by have := (h_x7).2; have := ((iv_c (c := 0) (n := 0) (by decide))).2; omega⟩
    refine lv_sipush (v := (-1000)) hx hb dX12_worth_25 (by decide) ?_
    exact tw_endi hx hb hr hlocks hK hT hS hQ ((iv_mono (iv_c (c := (-1000)) (n := (-1000)) (by decide)) (by decide) (by decide))) dX12_worth_28
  · have q12 : ¬ x7.toInt = 0 := ti_ne c9
    have h13 : iv 1 1 x7 := ⟨by have := (h_x7).1; have := ((iv_c (c := 0) (n := 0) (by decide))).1; have := ((iv_c (c := 0) (n := 0) (by decide))).2; omega, by have := (h_x7).2; have := ((iv_c (c := 0) (n := 0) (by decide))).1; have := ((iv_c (c := 0) (n := 0) (by decide))).2; omega⟩
    have h14 : iv 0 9 a1 := ⟨by have := (p8 c9).1; have := (h_a1).1; omega, by have := (p8 c9).2; have := (h_a1).2; omega⟩
    refine lv_aload_n hx hb dX12_worth_8 rfl (lv_at hl 0 rfl) ?_
    refine lv_iload_n hx hb dX12_worth_9 rfl (lv_at hl 2 rfl) ?_
    refine tw_goi hS (md_runV (As := [.int a2]) (rest := []) hx hb hml hown hW hK hT hS.1 (t_X12_isPoint l D cy tx base Z K N Ma Ra J3 hS.2.1 a0 hz_a0 hk_a0 a2 h_a2) s_X12_327 ⟨rfl, rfl, ⟨Nat.le_of_ble_eq_true rfl, Nat.le_of_ble_eq_true rfl⟩, ⟨Nat.le_of_ble_eq_true rfl, Nat.le_of_ble_eq_true rfl⟩⟩ hz_a0 hk_a0 (by decide) rfl rfl hl.1 rfl (Nat.le_of_ble_eq_true rfl) dX12_worth_10) rfl rfl (fun x21 H locs M18 R19 J17 hS f15 g16 E20 => ?_)
    have eM18 := Fr.nil f15 rfl
    subst eM18
    have eR19 := Fr.nil g16 rfl
    subst eR19
    obtain ⟨h_x21, p22⟩ := E20
    refine lv_if_eq (tgt := 25) hx hb dX12_worth_13 (by decide) (fun c23 => ?_) (fun c23 => ?_)
    · have q24 : x21.toInt = 0 := ti_eq c23
      have h25 : iv 0 0 x21 := ⟨by have := (h_x21).1; have := ((iv_c (c := 0) (n := 0) (by decide))).1; omega, by have := (h_x21).2; have := ((iv_c (c := 0) (n := 0) (by decide))).2; omega⟩
      refine lv_sipush (v := (-1000)) hx hb dX12_worth_25 (by decide) ?_
      exact tw_endi hx hb hr hlocks hK hT hS hQ ((iv_mono (iv_c (c := (-1000)) (n := (-1000)) (by decide)) (by decide) (by decide))) dX12_worth_28
    · have q26 : ¬ x21.toInt = 0 := ti_ne c23
      have h27 : iv 1 1 x21 := ⟨by have := (h_x21).1; have := ((iv_c (c := 0) (n := 0) (by decide))).1; have := ((iv_c (c := 0) (n := 0) (by decide))).2; omega, by have := (h_x21).2; have := ((iv_c (c := 0) (n := 0) (by decide))).1; have := ((iv_c (c := 0) (n := 0) (by decide))).2; omega⟩
      have h28 : iv 0 11 a2 := ⟨by have := (p22 c23).1; have := (h_a2).1; omega, by have := (p22 c23).2; have := (h_a2).2; omega⟩
      refine lv_aload_n hx hb dX12_worth_16 rfl (lv_at hl 0 rfl) ?_
      refine lv_iload_n hx hb dX12_worth_17 rfl (lv_at hl 1 rfl) ?_
      refine lv_iload_n hx hb dX12_worth_18 rfl (lv_at hl 2 rfl) ?_
      refine tw_goi hS (md_runV (As := [.int a1, .int a2]) (rest := []) hx hb hml hown hW hK hT hS.1 (t_X12_worthOf l D cy tx base Z K N Ma Ra J17 hS.2.1 a0 hz_a0 hk_a0 a1 h14 a2 h28) s_X12_330 ⟨rfl, rfl, ⟨Nat.le_of_ble_eq_true rfl, Nat.le_of_ble_eq_true rfl⟩, ⟨Nat.le_of_ble_eq_true rfl, Nat.le_of_ble_eq_true rfl⟩⟩ hz_a0 hk_a0 (by decide) rfl rfl hl.1 rfl (Nat.le_of_ble_eq_true rfl) dX12_worth_19) rfl rfl (fun x35 H locs M32 R33 J31 hS f29 g30 E34 => ?_)
      have eM32 := Fr.nil f29 rfl
      subst eM32
      have eR33 := Fr.nil g30 rfl
      subst eR33
      have h_x35 := E34
      clear E34
      refine lv_goto (tgt := 28) hx hb dX12_worth_22 (by decide) ?_
      exact tw_endi hx hb hr hlocks hK hT hS hQ (h_x35) dX12_worth_28
def Lt_X12_year : WL := [(12, 23, 24), (12, 28, 29), (12, 30, 33), (12, 35, 37), (14, 0, 2000000), (30, 0, 2000000), (31, 0, 2000000)]
def LRt_X12_year : WL := []
set_option maxRecDepth 100000 in
set_option maxHeartbeats 4000000 in
theorem t_X12_year (l : Launch) (D : va_G) (cy : Nat → ClassId) (tx : (Nat → Nat) × (Nat → Nat)) (base Z : Nat) (K N : Nat → Nat) (Ma : MT) (Ra : RT) (Ja : JT) (hTy : Ty Z K N Ma Ra) (a0 : Nat) (hz_a0 : a0 < Z) (hk_a0 : K a0 = 12) (a1 : Int32) (h_a1 : iv (-2147483648) 2147483647 a1) (a2 : Int32) (h_a2 : iv (-2147483648) 2147483647 a2) (a3 : Int32) (h_a3 : iv (-2147483648) 2147483647 a3) (co_a0 : Codes Ma Ra a0) : Met l yX12_year [Cond.code yX12_year cX12_year 10 (some .int)] (md_rm 5 0 0) (va_Pc [.ref (base + a0), .int a1, .int a2, .int a3] (md_U D cy tx base Z K N Ma Ra Ja)) (mQi D cy tx base (fun r u => TP Z K N Lt_X12_year LRt_X12_year Ma Ra u ∧ (iv (-2147483648) 2147483647 r))) 0 0 (fun q => base ≤ q) := by
  refine tw_ofW (L := Lt_X12_year) (LR := LRt_X12_year) (by decide) (Nat.le_of_ble_eq_true rfl) hTy ?_
  intro p e s m args below meth c Q ls hx hb hr hlocks hown hml hW hK hT hS hQ hl
  have hl : lv_has ls 10 [(0, .ref (base + a0)), (1, .int a1), (2, .int a2), (3, .int a3)] := hl
  refine lv_aload_n hx hb dX12_year_0 rfl (lv_at hl 0 rfl) ?_
  refine tw_getr hx hb hW hown hK hS f_X12_45_11 hz_a0 hk_a0 (t := 23) (n := 226) rfl dX12_year_1 (fun b1 k2 hz_b1 hk_b1 hn_b1 => ?_)
  have hn_b1 := hn_b1 (by decide)
  refine lv_iconst (v := 1) hx hb dX12_year_4 (by decide) ?_
  refine tw_iald hx hb hK hS hz_b1 hk_b1 (Or.inr (by decide)) hn_b1 (lo := 0) (hi := 12) (iv_c (c := 1) (n := 1) (by decide)) ⟨by decide, by decide⟩ (rg_c (k0 := 1) rfl rfl rfl) dX12_year_5 (fun x5 k4 h3 => ?_)
  refine lv_if_eq (tgt := 41) hx hb dX12_year_6 (by decide) (fun c6 => ?_) (fun c6 => ?_)
  · have q7 : x5.toInt = 0 := ti_eq c6
    have h8 : iv 0 0 x5 := ⟨by have := (h3).1; have := ((iv_c (c := 0) (n := 0) (by decide))).1; omega, by have := (h3).2; have := ((iv_c (c := 0) (n := 0) (by decide))).2; omega⟩
    refine lv_ldcw hx hb hown (hW _ w_8_46 rfl) dX12_year_41 ?_
    exact tw_endi hx hb hr hlocks hK hT hS hQ ((iv_mono (iv_c (c := (-1000000)) (n := (-1000000)) (by decide)) (by decide) (by decide))) dX12_year_44
  · have q9 : ¬ x5.toInt = 0 := ti_ne c6
    have h10 : iv 1 12 x5 := ⟨by have := (h3).1; have := ((iv_c (c := 0) (n := 0) (by decide))).1; have := ((iv_c (c := 0) (n := 0) (by decide))).2; omega, by have := (h3).2; have := ((iv_c (c := 0) (n := 0) (by decide))).1; have := ((iv_c (c := 0) (n := 0) (by decide))).2; omega⟩
    refine lv_iload_n hx hb dX12_year_9 rfl (lv_at hl 1 rfl) ?_
    refine lv_i2l hx hb dX12_year_10 rfl ?_
    refine lv_lconst (v := 1) hx hb dX12_year_11 (by decide) ?_
    refine lv_ldc2 hx hb hown (hW _ w_8_178 rfl) dX12_year_12 ?_
    refine tw_goi hS (md_runS (As := [.long a1.toInt64, .long 1, .long 400]) (rest := []) hx hb hml hown hW hK hT hS.1 (t_X12_in l D cy tx base Z K N Ma Ra Ja hS.2.1 (a1.toInt64) (1) (400)) s_X12_155 ⟨rfl, rfl, ⟨Nat.le_of_ble_eq_true rfl, Nat.le_of_ble_eq_true rfl⟩, ⟨Nat.le_of_ble_eq_true rfl, Nat.le_of_ble_eq_true rfl⟩⟩ rfl hl.1 rfl (Nat.le_of_ble_eq_true rfl) dX12_year_15) rfl rfl (fun x17 H locs M14 R15 J13 hS f11 g12 E16 => ?_)
    have eM14 := Fr.nil f11 rfl
    subst eM14
    have eR15 := Fr.nil g12 rfl
    subst eR15
    obtain ⟨h_x17, p18⟩ := E16
    have p19 := p18.1
    refine lv_if_eq (tgt := 41) hx hb dX12_year_18 (by decide) (fun c20 => ?_) (fun c20 => ?_)
    · have q21 : x17.toInt = 0 := ti_eq c20
      have q22 := p18.2 c20
      have q22 : a1.toInt < 1 ∨ 400 < a1.toInt := by rw [Int32.toInt_toInt64] at q22; exact q22
      have h23 : iv 0 0 x17 := ⟨by have := (h_x17).1; have := ((iv_c (c := 0) (n := 0) (by decide))).1; omega, by have := (h_x17).2; have := ((iv_c (c := 0) (n := 0) (by decide))).2; omega⟩
      refine lv_ldcw hx hb hown (hW _ w_8_46 rfl) dX12_year_41 ?_
      exact tw_endi hx hb hr hlocks hK hT hS hQ ((iv_mono (iv_c (c := (-1000000)) (n := (-1000000)) (by decide)) (by decide) (by decide))) dX12_year_44
    · have q24 : ¬ x17.toInt = 0 := ti_ne c20
      have h25 : iv 1 1 x17 := ⟨by have := (h_x17).1; have := ((iv_c (c := 0) (n := 0) (by decide))).1; have := ((iv_c (c := 0) (n := 0) (by decide))).2; omega, by have := (h_x17).2; have := ((iv_c (c := 0) (n := 0) (by decide))).1; have := ((iv_c (c := 0) (n := 0) (by decide))).2; omega⟩
      have h26 : iv 1 400 a1 := in2iv (p19 c20) ((jv_c (x := 1) (n := 1) (by decide))).1 ((jv_c (x := 400) (n := 400) (by decide))).2
      refine lv_aload_n hx hb dX12_year_21 rfl (lv_at hl 0 rfl) ?_
      refine lv_iload_n hx hb dX12_year_22 rfl (lv_at hl 2 rfl) ?_
      refine tw_goi hS (md_runV (As := [.int a2]) (rest := []) hx hb hml hown hW hK hT hS.1 (t_X12_isMember l D cy tx base Z K N Ma Ra J13 hS.2.1 a0 hz_a0 hk_a0 a2 h_a2) s_X12_319 ⟨rfl, rfl, ⟨Nat.le_of_ble_eq_true rfl, Nat.le_of_ble_eq_true rfl⟩, ⟨Nat.le_of_ble_eq_true rfl, Nat.le_of_ble_eq_true rfl⟩⟩ hz_a0 hk_a0 (by decide) rfl rfl hl.1 rfl (Nat.le_of_ble_eq_true rfl) dX12_year_23) rfl rfl (fun x33 H locs M30 R31 J29 hS f27 g28 E32 => ?_)
      have eM30 := Fr.nil f27 rfl
      subst eM30
      have eR31 := Fr.nil g28 rfl
      subst eR31
      obtain ⟨h_x33, p34⟩ := E32
      refine lv_if_eq (tgt := 41) hx hb dX12_year_26 (by decide) (fun c35 => ?_) (fun c35 => ?_)
      · have q36 : x33.toInt = 0 := ti_eq c35
        have h37 : iv 0 0 x33 := ⟨by have := (h_x33).1; have := ((iv_c (c := 0) (n := 0) (by decide))).1; omega, by have := (h_x33).2; have := ((iv_c (c := 0) (n := 0) (by decide))).2; omega⟩
        refine lv_ldcw hx hb hown (hW _ w_8_46 rfl) dX12_year_41 ?_
        exact tw_endi hx hb hr hlocks hK hT hS hQ ((iv_mono (iv_c (c := (-1000000)) (n := (-1000000)) (by decide)) (by decide) (by decide))) dX12_year_44
      · have q38 : ¬ x33.toInt = 0 := ti_ne c35
        have h39 : iv 1 1 x33 := ⟨by have := (h_x33).1; have := ((iv_c (c := 0) (n := 0) (by decide))).1; have := ((iv_c (c := 0) (n := 0) (by decide))).2; omega, by have := (h_x33).2; have := ((iv_c (c := 0) (n := 0) (by decide))).1; have := ((iv_c (c := 0) (n := 0) (by decide))).2; omega⟩
        have h40 : iv 0 9 a2 := ⟨by have := (p34 c35).1; have := (h_a2).1; omega, by have := (p34 c35).2; have := (h_a2).2; omega⟩
        refine lv_iload_n hx hb dX12_year_29 rfl (lv_at hl 3 rfl) ?_
        refine lv_i2l hx hb dX12_year_30 rfl ?_
        refine lv_lconst (v := 0) hx hb dX12_year_31 (by decide) ?_
        refine lv_ldc2 hx hb hown (hW _ w_7_178 rfl) dX12_year_32 ?_
        refine tw_goi hS (md_runS (As := [.long a3.toInt64, .long 0, .long 2]) (rest := []) hx hb hml hown hW hK hT hS.1 (t_X12_in l D cy tx base Z K N Ma Ra J29 hS.2.1 (a3.toInt64) (0) (2)) s_X12_155 ⟨rfl, rfl, ⟨Nat.le_of_ble_eq_true rfl, Nat.le_of_ble_eq_true rfl⟩, ⟨Nat.le_of_ble_eq_true rfl, Nat.le_of_ble_eq_true rfl⟩⟩ rfl hl.1 rfl (Nat.le_of_ble_eq_true rfl) dX12_year_35) rfl rfl (fun x47 H locs M44 R45 J43 hS f41 g42 E46 => ?_)
        have eM44 := Fr.nil f41 rfl
        subst eM44
        have eR45 := Fr.nil g42 rfl
        subst eR45
        obtain ⟨h_x47, p48⟩ := E46
        have p49 := p48.1
        refine lv_if_ne (tgt := 45) hx hb dX12_year_38 (by decide) (fun c50 => ?_) (fun c50 => ?_)
        · have q51 : ¬ x47.toInt = 0 := ti_ne c50
          have h52 : iv 1 1 x47 := ⟨by have := (h_x47).1; have := ((iv_c (c := 0) (n := 0) (by decide))).1; have := ((iv_c (c := 0) (n := 0) (by decide))).2; omega, by have := (h_x47).2; have := ((iv_c (c := 0) (n := 0) (by decide))).1; have := ((iv_c (c := 0) (n := 0) (by decide))).2; omega⟩
          have h53 : iv 0 2 a3 := in2iv (p49 c50) ((jv_c (x := 0) (n := 0) (by decide))).1 ((jv_c (x := 2) (n := 2) (by decide))).2
          refine lv_aload_n hx hb dX12_year_45 rfl (lv_at hl 0 rfl) ?_
          obtain ⟨x56, k54⟩ : ∃ x, Ma b1 (4 : Int32).toNatClampNeg = x := ⟨_, rfl⟩
          have h55 : iv 0 8 x56 := by rw [← k54]; exact hS.2.1.int hz_b1 hk_b1 (show rgI 23 (4 : Int32).toNatClampNeg = (0, 8) from rfl)
          refine tw_gov hS (md_runV (As := []) (rest := []) hx hb hml hown hW hK hT hS.1 (t_X12_begins l D cy tx base Z K N Ma Ra J43 hS.2.1 a0 hz_a0 hk_a0 b1 k2 x56 k54 (iv_mono h55 (by decide) (by decide))) s_X12_393 ⟨rfl, rfl, ⟨Nat.le_of_ble_eq_true rfl, Nat.le_of_ble_eq_true rfl⟩, ⟨Nat.le_of_ble_eq_true rfl, Nat.le_of_ble_eq_true rfl⟩⟩ hz_a0 hk_a0 (by decide) rfl rfl hl.1 rfl (Nat.le_of_ble_eq_true rfl) dX12_year_46) rfl rfl (fun H locs M60 R61 J59 hS f57 g58 E62 => ?_)
          have eR61 := Fr.nil g58 rfl
          subst eR61
          have p63 := E62
          clear E62
          have k64 : M60 a0 30 = x56 := p63
          refine lv_aload_n hx hb dX12_year_49 rfl (lv_at hl 0 rfl) ?_
          refine lv_iconst (v := 0) hx hb dX12_year_50 (by decide) ?_
          refine tw_puti hx hb hW hown hK hS f_X12_410_11 hz_a0 hk_a0 rfl rfl (lo := (-2147483648)) (hi := 2147483647) rfl (iv_mono (iv_c (c := 0) (n := 0) (by decide)) (by decide) (by decide)) rfl dX12_year_51 (fun H locs M67 hS k65 f66 => ?_)
          refine lv_aload_n hx hb dX12_year_54 rfl (lv_at hl 0 rfl) ?_
          refine lv_iconst (v := 0) hx hb dX12_year_55 (by decide) ?_
          refine tw_puti hx hb hW hown hK hS f_X12_407_11 hz_a0 hk_a0 rfl rfl (lo := (-2147483648)) (hi := 2147483647) rfl (iv_mono (iv_c (c := 0) (n := 0) (by decide)) (by decide) (by decide)) rfl dX12_year_56 (fun H locs M70 hS k68 f69 => ?_)
          refine lv_iconst (v := 0) hx hb dX12_year_59 (by decide) ?_
          refine lv_istore (lv' := [(4, .int 0), (0, .ref (base + a0)), (1, .int a1), (2, .int a2), (3, .int a3)]) hx hb dX12_year_60 hl (by decide) rfl (fun ls hl => ?_)
          refine lv_aload_n hx hb dX12_year_62 rfl (lv_at hl 1 rfl) ?_
          refine tw_getrk hx hb hW hown hK hS f_X12_45_11 hz_a0 hk_a0 (b := b1) k2 dX12_year_63 ?_
          refine lv_bipush (v := 6) hx hb dX12_year_66 (by decide) ?_
          refine tw_iald hx hb hK hS hz_b1 hk_b1 (Or.inr (by decide)) hn_b1 (lo := 0) (hi := 2147483647) (iv_c (c := 6) (n := 6) (by decide)) ⟨by decide, by decide⟩ (rg_c (k0 := 6) rfl rfl rfl) dX12_year_68 (fun x73 k72 h71 => ?_)
          refine lv_i2l hx hb dX12_year_69 rfl ?_
          refine lv_lstore (lv' := [(5, .long x73.toInt64), (4, .int 0), (0, .ref (base + a0)), (1, .int a1), (2, .int a2), (3, .int a3)]) hx hb dX12_year_70 hl (by decide) rfl (fun ls hl => ?_)
          refine lv_iconst (v := 0) hx hb dX12_year_72 (by decide) ?_
          refine lv_istore (lv' := [(7, .int 0), (5, .long x73.toInt64), (4, .int 0), (0, .ref (base + a0)), (1, .int a1), (2, .int a2), (3, .int a3)]) hx hb dX12_year_73 hl (by decide) rfl (fun ls hl => ?_)
          have W75_77 : ∀ (n_77 : Nat) (x74 : Int32) (x75 : Int64) (x76 : Int32) (M77 : MT) (R78 : RT) (J79 : JT) (H : Heap) (locs : List Loc) (ls : Array Slot) (h_x74 : iv 0 9999 x74) (h_x75 : jv 0 2147483647 x75) (h_x76 : iv 0 400 x76) (hm_77 : 400 - x76.toInt < (n_77 : Int)) (hS : SB D cy base Z K N Lt_X12_year LRt_X12_year Ma Ra M77 R78 J79 s H locs) (hl : lv_has ls 10 [(4, .int x74), (5, .long x75), (7, .int x76), (0, .ref (base + a0)), (1, .int a1), (2, .int a2), (3, .int a3)]), W p l e (md_rm 5 0 0) s m args below meth c H locs 0 0 Q (F0 m 75 ls []) := by
            intro n_77
            induction n_77 with
            | zero =>
              intro x74 x75 x76 M77 R78 J79 H locs ls h_x74 h_x75 h_x76 hm_77 hS hl
              exfalso
              have := (h26).1; have := (h26).2; have := (h40).1; have := (h40).2; have := (h53).1; have := (h53).2; have := (h_x76).1; have := (h_x76).2; omega
            | succ n_77 ih_77 =>
              intro x74 x75 x76 M77 R78 J79 H locs ls h_x74 h_x75 h_x76 hm_77 hS hl
              have f80 := hS.2.2.1
              have g81 := hS.2.2.2
              refine lv_iload hx hb dX12_year_75 (lv_at hl 2 rfl) ?_
              refine lv_iload_n hx hb dX12_year_77 rfl (lv_at hl 4 rfl) ?_
              refine lv_icmp_ge (tgt := 184) hx hb dX12_year_78 (by decide) (fun c82 => ?_) (fun c82 => ?_)
              · have q83 : a1.toInt ≤ x76.toInt := ti_le c82
                have h84 : iv 1 400 x76 := iv_geL (y := a1) h_x76 h26 q83 (by decide)
                refine lv_iload_n hx hb dX12_year_184 rfl (lv_at hl 6 rfl) ?_
                refine lv_if_ne (tgt := 195) hx hb dX12_year_185 (by decide) (fun c85 => ?_) (fun c85 => ?_)
                · have q86 : ¬ a3.toInt = 0 := ti_ne c85
                  have h87 : iv 1 2 a3 := ⟨by have := (h53).1; have := ((iv_c (c := 0) (n := 0) (by decide))).1; have := ((iv_c (c := 0) (n := 0) (by decide))).2; omega, by have := (h53).2; have := ((iv_c (c := 0) (n := 0) (by decide))).1; have := ((iv_c (c := 0) (n := 0) (by decide))).2; omega⟩
                  refine lv_iload_n hx hb dX12_year_195 rfl (lv_at hl 6 rfl) ?_
                  refine lv_iconst (v := 1) hx hb dX12_year_196 (by decide) ?_
                  refine lv_icmp_ne (tgt := 207) hx hb dX12_year_197 (by decide) (fun c88 => ?_) (fun c88 => ?_)
                  · have q89 : ¬ a3.toInt = 1 := ti_ne c88
                    have h90 : iv 2 2 a3 := ⟨by have := (h87).1; have := ((iv_c (c := 1) (n := 1) (by decide))).1; have := ((iv_c (c := 1) (n := 1) (by decide))).2; omega, by have := (h87).2; have := ((iv_c (c := 1) (n := 1) (by decide))).1; have := ((iv_c (c := 1) (n := 1) (by decide))).2; omega⟩
                    refine lv_iload hx hb dX12_year_207 (lv_at hl 0 rfl) ?_
                    exact tw_endi hx hb hr hlocks hK hT hS hQ ((iv_mono h_x74 (by decide) (by decide))) dX12_year_209
                  · have q91 : a3.toInt = 1 := ti_eq c88
                    have h92 : iv 1 1 a3 := ⟨by have := (h87).1; have := ((iv_c (c := 1) (n := 1) (by decide))).1; omega, by have := (h87).2; have := ((iv_c (c := 1) (n := 1) (by decide))).2; omega⟩
                    refine lv_aload_n hx hb dX12_year_200 rfl (lv_at hl 3 rfl) ?_
                    refine tw_geti hx hb hW hown hK hS f_X12_407_11 hz_a0 hk_a0 (lo := (-2147483648)) (hi := 2147483647) rfl dX12_year_201 (fun x95 k94 h93 => ?_)
                    refine lv_goto (tgt := 209) hx hb dX12_year_204 (by decide) ?_
                    exact tw_endi hx hb hr hlocks hK hT hS hQ (h93) dX12_year_209
                · have q96 : a3.toInt = 0 := ti_eq c85
                  have h97 : iv 0 0 a3 := ⟨by have := (h53).1; have := ((iv_c (c := 0) (n := 0) (by decide))).1; omega, by have := (h53).2; have := ((iv_c (c := 0) (n := 0) (by decide))).2; omega⟩
                  refine lv_aload_n hx hb dX12_year_188 rfl (lv_at hl 3 rfl) ?_
                  refine tw_geti hx hb hW hown hK hS f_X12_410_11 hz_a0 hk_a0 (lo := (-2147483648)) (hi := 2147483647) rfl dX12_year_189 (fun x100 k99 h98 => ?_)
                  refine lv_goto (tgt := 209) hx hb dX12_year_192 (by decide) ?_
                  exact tw_endi hx hb hr hlocks hK hT hS hQ (h98) dX12_year_209
              · have q101 : x76.toInt < a1.toInt := ti_nle c82
                have h102 : iv 0 399 x76 := iv_ltL (y := a1) h_x76 h26 q101 (by decide)
                refine lv_lload hx hb dX12_year_81 (lv_at hl 1 rfl) ?_
                refine lv_ldc2 hx hb hown (hW _ w_8_179 rfl) dX12_year_83 ?_
                refine lv_lmul hx hb dX12_year_86 ?_
                refine tw_tj (lo := 0) (hi := 2369780942852698515) (jv_mul h_x75 (jv_c (x := 1103515245) (n := 1103515245) (by decide)) ⟨by decide, by decide⟩ (by decide) ⟨by decide, by decide⟩) (fun x103 h104 => ?_)
                refine lv_ldc2 hx hb hown (hW _ w_8_180 rfl) dX12_year_87 ?_
                refine lv_ladd hx hb dX12_year_90 ?_
                refine tw_tj (lo := 12345) (hi := 2369780942852710860) (jv_add h104 (jv_c (x := 12345) (n := 12345) (by decide)) ⟨by decide, by decide⟩ ⟨by decide, by decide⟩) (fun x105 h106 => ?_)
                refine lv_ldc2 hx hb hown (hW _ w_8_181 rfl) dX12_year_91 ?_
                refine lv_lrem hx hb dX12_year_94 (by decide) ?_
                refine tw_tj (lo := 0) (hi := 2147483647) (jv_rem h106 (jv_c (x := 2147483648) (n := 2147483648) (by decide)) ⟨by decide, by decide⟩ ⟨by decide, by decide⟩) (fun x107 h108 => ?_)
                refine lv_lstore (lv' := [(5, .long x107), (4, .int x74), (7, .int x76), (0, .ref (base + a0)), (1, .int a1), (2, .int a2), (3, .int a3)]) hx hb dX12_year_95 hl (by decide) rfl (fun ls hl => ?_)
                refine lv_lload hx hb dX12_year_97 (lv_at hl 0 rfl) ?_
                refine lv_ldc2 hx hb hown (hW _ w_8_182 rfl) dX12_year_99 ?_
                refine lv_ldiv hx hb dX12_year_102 (by decide) ?_
                refine tw_tj (lo := 0) (hi := 32767) (jv_div h108 (jv_c (x := 65536) (n := 65536) (by decide)) ⟨by decide, by decide⟩ ⟨by decide, by decide⟩) (fun x109 h110 => ?_)
                refine lv_aload_n hx hb dX12_year_103 rfl (lv_at hl 3 rfl) ?_
                have k111 : R78 a0 25 = some b1 := (Fr.kp (k := 25) g81 hk_a0 rfl).trans k2
                refine tw_getrk hx hb hW hown hK hS f_X12_45_11 hz_a0 hk_a0 (b := b1) k111 dX12_year_104 ?_
                refine lv_iconst (v := 1) hx hb dX12_year_107 (by decide) ?_
                have k112 : M77 b1 (1 : Int32).toNatClampNeg = x5 := (Fr.kp (k := (1 : Int32).toNatClampNeg) f80 hk_b1 rfl).trans k4
                refine tw_ialk hx hb hK hS hz_b1 hk_b1 (Or.inr (by decide)) hn_b1 (iv_c (c := 1) (n := 1) (by decide)) ⟨by decide, by decide⟩ (v := x5) k112 dX12_year_108 ?_
                refine lv_i2l hx hb dX12_year_109 rfl ?_
                refine lv_lrem hx hb dX12_year_110 (lnz (jv_o h10) (by decide)) ?_
                refine tw_tj (lo := 0) (hi := 11) (jv_rem h110 (jv_o h10) ⟨by decide, by decide⟩ ⟨by decide, by decide⟩) (fun x113 h114 => ?_)
                refine lv_l2i hx hb dX12_year_111 rfl ?_
                refine tw_ti (jv_l2i h114 ⟨by decide, by decide⟩) (fun x116 h115 => ?_)
                refine lv_istore (lv' := [(8, .int x116), (5, .long x107), (4, .int x74), (7, .int x76), (0, .ref (base + a0)), (1, .int a1), (2, .int a2), (3, .int a3)]) hx hb dX12_year_112 hl (by decide) rfl (fun ls hl => ?_)
                refine lv_aload_n hx hb dX12_year_114 rfl (lv_at hl 4 rfl) ?_
                refine lv_iload hx hb dX12_year_115 (lv_at hl 0 rfl) ?_
                refine lv_iconst (v := (-1)) hx hb dX12_year_117 (by decide) ?_
                refine tw_gov hS (md_runV (As := [.int x116, .int (-1)]) (rest := []) hx hb hml hown hW hK hT hS.1 (t_X12_asks l D cy tx base Z K N M77 R78 J79 hS.2.1 a0 hz_a0 hk_a0 x116 h115 (-1) (iv_mono (iv_c (c := (-1)) (n := (-1)) (by decide)) (by decide) (by decide)) (Codes.fr co_a0 hTy hz_a0 hk_a0 hS.2.2.1 hS.2.2.2 rfl)) s_X12_396 ⟨rfl, rfl, ⟨Nat.le_of_ble_eq_true rfl, Nat.le_of_ble_eq_true rfl⟩, ⟨Nat.le_of_ble_eq_true rfl, Nat.le_of_ble_eq_true rfl⟩⟩ hz_a0 hk_a0 (by decide) rfl rfl hl.1 rfl (Nat.le_of_ble_eq_true rfl) dX12_year_118) rfl rfl (fun H locs M120 R121 J119 hS f117 g118 E122 => ?_)
                have eR121 := Fr.nil g118 rfl
                subst eR121
                refine lv_aload_n hx hb dX12_year_121 rfl (lv_at hl 4 rfl) ?_
                refine lv_iload_n hx hb dX12_year_122 rfl (lv_at hl 6 rfl) ?_
                refine lv_iload hx hb dX12_year_123 (lv_at hl 0 rfl) ?_
                refine lv_aload_n hx hb dX12_year_125 rfl (lv_at hl 4 rfl) ?_
                refine tw_goi hS (md_runV (As := []) (rest := [.int x116, .int a2, .ref (base + a0)]) hx hb hml hown hW hK hT hS.1 (t_X12_settles_ l D cy tx base Z K N M120 R78 J119 hS.2.1 a0 hz_a0 hk_a0) s_X12_399 ⟨rfl, rfl, ⟨Nat.le_of_ble_eq_true rfl, Nat.le_of_ble_eq_true rfl⟩, ⟨Nat.le_of_ble_eq_true rfl, Nat.le_of_ble_eq_true rfl⟩⟩ hz_a0 hk_a0 (by decide) rfl rfl hl.1 rfl (Nat.le_of_ble_eq_true rfl) dX12_year_126) rfl rfl (fun x129 H locs M126 R127 J125 hS f123 g124 E128 => ?_)
                have eR127 := Fr.nil g124 rfl
                subst eR127
                have h_x129 := E128
                clear E128
                refine tw_gov hS (md_runV (As := [.int a2, .int x116, .int x129]) (rest := []) hx hb hml hown hW hK hT hS.1 (t_X12_counts l D cy tx base Z K N M126 R78 J125 hS.2.1 a0 hz_a0 hk_a0 a2 h40 x116 h115 x129 h_x129) s_X12_413 ⟨rfl, rfl, ⟨Nat.le_of_ble_eq_true rfl, Nat.le_of_ble_eq_true rfl⟩, ⟨Nat.le_of_ble_eq_true rfl, Nat.le_of_ble_eq_true rfl⟩⟩ hz_a0 hk_a0 (by decide) rfl rfl hl.1 rfl (Nat.le_of_ble_eq_true rfl) dX12_year_129) rfl rfl (fun H locs M133 R134 J132 hS f130 g131 E135 => ?_)
                have eR134 := Fr.nil g131 rfl
                subst eR134
                refine lv_iconst (v := 0) hx hb dX12_year_132 (by decide) ?_
                refine lv_istore (lv' := [(9, .int 0), (8, .int x116), (5, .long x107), (4, .int x74), (7, .int x76), (0, .ref (base + a0)), (1, .int a1), (2, .int a2), (3, .int a3)]) hx hb dX12_year_133 hl (by decide) rfl (fun ls hl => ?_)
                have W135_138 : ∀ (n_138 : Nat) (x136 : Int32) (x137 : Int32) (M138 : MT) (R139 : RT) (J140 : JT) (H : Heap) (locs : List Loc) (ls : Array Slot) (h_x136 : iv 0 9999 x136) (h_x137 : iv 0 10 x137) (hm_138 : 10 - x137.toInt < (n_138 : Int)) (hS : SB D cy base Z K N Lt_X12_year LRt_X12_year Ma Ra M138 R139 J140 s H locs) (hl : lv_has ls 10 [(4, .int x136), (9, .int x137), (8, .int x116), (5, .long x107), (7, .int x76), (0, .ref (base + a0)), (1, .int a1), (2, .int a2), (3, .int a3)]), W p l e (md_rm 5 0 0) s m args below meth c H locs 0 0 Q (F0 m 135 ls []) := by
                  intro n_138
                  induction n_138 with
                  | zero =>
                    intro x136 x137 M138 R139 J140 H locs ls h_x136 h_x137 hm_138 hS hl
                    exfalso
                    have := (h26).1; have := (h26).2; have := (h40).1; have := (h40).2; have := (h53).1; have := (h53).2; have := (h_x137).1; have := (h_x137).2; omega
                  | succ n_138 ih_138 =>
                    intro x136 x137 M138 R139 J140 H locs ls h_x136 h_x137 hm_138 hS hl
                    have f141 := hS.2.2.1
                    have g142 := hS.2.2.2
                    refine lv_iload hx hb dX12_year_135 (lv_at hl 1 rfl) ?_
                    refine lv_aload_n hx hb dX12_year_137 rfl (lv_at hl 5 rfl) ?_
                    have k143 : R139 a0 25 = some b1 := (Fr.kp (k := 25) g142 hk_a0 rfl).trans k2
                    refine tw_getrk hx hb hW hown hK hS f_X12_45_11 hz_a0 hk_a0 (b := b1) k143 dX12_year_138 ?_
                    refine lv_iconst (v := 0) hx hb dX12_year_141 (by decide) ?_
                    refine tw_iald hx hb hK hS hz_b1 hk_b1 (Or.inr (by decide)) hn_b1 (lo := 0) (hi := 10) (iv_c (c := 0) (n := 0) (by decide)) ⟨by decide, by decide⟩ (rg_c (k0 := 0) rfl rfl rfl) dX12_year_142 (fun x146 k145 h144 => ?_)
                    refine lv_icmp_ge (tgt := 178) hx hb dX12_year_143 (by decide) (fun c147 => ?_) (fun c147 => ?_)
                    · have q148 : x146.toInt ≤ x137.toInt := ti_le c147
                      refine tw_iinc (lv' := fun x151 => [(7, .int x151), (4, .int x136), (9, .int x137), (8, .int x116), (5, .long x107), (0, .ref (base + a0)), (1, .int a1), (2, .int a2), (3, .int a3)]) (lo := 1) (hi := 400) hx hb dX12_year_178 hl (k := 4) rfl h102 (by decide) ⟨by decide, by decide⟩ ⟨by decide, by decide⟩ (by decide) (fun _ => rfl) (fun x151 ls e150 h149 hl => ?_)
                      refine lv_goto (tgt := 75) hx hb dX12_year_181 (by decide) ?_
                      have hm152 : 400 - x151.toInt < (n_77 : Int) := by
                        have := (h26).1; have := (h26).2; have := (h40).1; have := (h40).2; have := (h53).1; have := (h53).2; have := (h149).1; have := (h149).2; have := (h102).1; have := (h102).2; omega
                      exact ih_77 x136 (x107) x151 M138 R139 J140 H locs _ h_x136 (jv_mono h108 (by decide) (by decide)) (iv_mono h149 (by decide) (by decide)) hm152 hS (lv_sub hl [1, 4, 0, 5, 6, 7, 8] rfl)
                    · have q153 : x137.toInt < x146.toInt := ti_nle c147
                      have h154 : iv 0 9 x137 := iv_ltL (y := x146) h_x137 h144 q153 (by decide)
                      have h155 : iv 1 10 x146 := iv_gtL (y := x137) h144 h_x137 q153 (by decide)
                      refine lv_aload_n hx hb dX12_year_146 rfl (lv_at hl 5 rfl) ?_
                      refine tw_getr hx hb hW hown hK hS f_X12_51_11 hz_a0 hk_a0 (t := 30) (n := 10) rfl dX12_year_147 (fun b156 k157 hz_b156 hk_b156 hn_b156 => ?_)
                      have hn_b156 := hn_b156 (by decide)
                      refine lv_iload hx hb dX12_year_150 (lv_at hl 1 rfl) ?_
                      refine tw_iald hx hb hK hS hz_b156 hk_b156 (Or.inr (by decide)) hn_b156 (lo := 0) (hi := 9999) h154 ⟨by decide, by decide⟩ rg_u30 dX12_year_152 (fun x160 k159 h158 => ?_)
                      refine lv_iload hx hb dX12_year_153 (lv_at hl 0 rfl) ?_
                      refine lv_icmp_le (tgt := 168) hx hb dX12_year_155 (by decide) (fun c161 => ?_) (fun c161 => ?_)
                      · have q162 : x160.toInt ≤ x136.toInt := ti_le c161
                        refine lv_iload hx hb dX12_year_168 (lv_at hl 0 rfl) ?_
                        refine lv_istore (lv' := [(4, .int x136), (9, .int x137), (8, .int x116), (5, .long x107), (7, .int x76), (0, .ref (base + a0)), (1, .int a1), (2, .int a2), (3, .int a3)]) hx hb dX12_year_170 hl (by decide) rfl (fun ls hl => ?_)
                        refine tw_iinc (lv' := fun x165 => [(9, .int x165), (4, .int x136), (8, .int x116), (5, .long x107), (7, .int x76), (0, .ref (base + a0)), (1, .int a1), (2, .int a2), (3, .int a3)]) (lo := 1) (hi := 10) hx hb dX12_year_172 hl (k := 1) rfl h154 (by decide) ⟨by decide, by decide⟩ ⟨by decide, by decide⟩ (by decide) (fun _ => rfl) (fun x165 ls e164 h163 hl => ?_)
                        refine lv_goto (tgt := 135) hx hb dX12_year_175 (by decide) ?_
                        have hm166 : 10 - x165.toInt < (n_138 : Int) := by
                          have := (h26).1; have := (h26).2; have := (h40).1; have := (h40).2; have := (h53).1; have := (h53).2; have := (h154).1; have := (h154).2; have := (h163).1; have := (h163).2; omega
                        exact ih_138 x136 x165 M138 R139 J140 H locs _ h_x136 (iv_mono h163 (by decide) (by decide)) hm166 hS (lv_sub hl [1, 0, 2, 3, 4, 5, 6, 7, 8] rfl)
                      · have q167 : x136.toInt < x160.toInt := ti_nle c161
                        have h168 : iv 1 9999 x160 := iv_gtL (y := x136) h158 h_x136 q167 (by decide)
                        have h169 : iv 0 9998 x136 := iv_ltL (y := x160) h_x136 h158 q167 (by decide)
                        refine lv_aload_n hx hb dX12_year_158 rfl (lv_at hl 5 rfl) ?_
                        refine tw_getrk hx hb hW hown hK hS f_X12_51_11 hz_a0 hk_a0 (b := b156) k157 dX12_year_159 ?_
                        refine lv_iload hx hb dX12_year_162 (lv_at hl 1 rfl) ?_
                        refine tw_ialk hx hb hK hS hz_b156 hk_b156 (Or.inr (by decide)) hn_b156 h154 ⟨by decide, by decide⟩ (v := x160) k159 dX12_year_164 ?_
                        refine lv_goto (tgt := 170) hx hb dX12_year_165 (by decide) ?_
                        refine lv_istore (lv' := [(4, .int x160), (9, .int x137), (8, .int x116), (5, .long x107), (7, .int x76), (0, .ref (base + a0)), (1, .int a1), (2, .int a2), (3, .int a3)]) hx hb dX12_year_170 hl (by decide) rfl (fun ls hl => ?_)
                        refine tw_iinc (lv' := fun x172 => [(9, .int x172), (4, .int x160), (8, .int x116), (5, .long x107), (7, .int x76), (0, .ref (base + a0)), (1, .int a1), (2, .int a2), (3, .int a3)]) (lo := 1) (hi := 10) hx hb dX12_year_172 hl (k := 1) rfl h154 (by decide) ⟨by decide, by decide⟩ ⟨by decide, by decide⟩ (by decide) (fun _ => rfl) (fun x172 ls e171 h170 hl => ?_)
                        refine lv_goto (tgt := 135) hx hb dX12_year_175 (by decide) ?_
                        have hm173 : 10 - x172.toInt < (n_138 : Int) := by
                          have := (h26).1; have := (h26).2; have := (h40).1; have := (h40).2; have := (h53).1; have := (h53).2; have := (h154).1; have := (h154).2; have := (h170).1; have := (h170).2; omega
                        exact ih_138 x160 x172 M138 R139 J140 H locs _ (iv_mono h168 (by decide) (by decide)) (iv_mono h170 (by decide) (by decide)) hm173 hS (lv_sub hl [1, 0, 2, 3, 4, 5, 6, 7, 8] rfl)
                have hm174 : 10 - (0 : Int32).toInt < (((11 : Nat) : Int) : Int) := by
                  have := (h26).1; have := (h26).2; have := (h40).1; have := (h40).2; have := (h53).1; have := (h53).2; have : (0 : Int32).toInt = 0 := (by decide); omega
                exact W135_138 11 x74 0 M133 R78 J132 H locs _ h_x74 (iv_mono (iv_c (c := 0) (n := 0) (by decide)) (by decide) (by decide)) hm174 hS (lv_sub hl [3, 0, 1, 2, 4, 5, 6, 7, 8] rfl)
          have hm175 : 400 - (0 : Int32).toInt < (((401 : Nat) : Int) : Int) := by
            have := (h26).1; have := (h26).2; have := (h40).1; have := (h40).2; have := (h53).1; have := (h53).2; have : (0 : Int32).toInt = 0 := (by decide); omega
          exact W75_77 401 0 (x73.toInt64) 0 M70 Ra J59 H locs _ (iv_mono (iv_c (c := 0) (n := 0) (by decide)) (by decide) (by decide)) (jv_mono (jv_o h71) (by decide) (by decide)) (iv_mono (iv_c (c := 0) (n := 0) (by decide)) (by decide) (by decide)) hm175 hS (lv_sub hl [2, 1, 0, 3, 4, 5, 6] rfl)
        · have q176 : x47.toInt = 0 := ti_eq c50
          have q177 := p48.2 c50
          have q177 : a3.toInt < 0 ∨ 2 < a3.toInt := by rw [Int32.toInt_toInt64] at q177; exact q177
          have h178 : iv 0 0 x47 := ⟨by have := (h_x47).1; have := ((iv_c (c := 0) (n := 0) (by decide))).1; omega, by have := (h_x47).2; have := ((iv_c (c := 0) (n := 0) (by decide))).2; omega⟩
          refine lv_ldcw hx hb hown (hW _ w_8_46 rfl) dX12_year_41 ?_
          exact tw_endi hx hb hr hlocks hK hT hS hQ ((iv_mono (iv_c (c := (-1000000)) (n := (-1000000)) (by decide)) (by decide) (by decide))) dX12_year_44
def Lt_X7_kindOf : WL := []
def LRt_X7_kindOf : WL := []
set_option maxRecDepth 100000 in
set_option maxHeartbeats 4000000 in
theorem t_X7_kindOf (l : Launch) (D : va_G) (cy : Nat → ClassId) (tx : (Nat → Nat) × (Nat → Nat)) (base Z : Nat) (K N : Nat → Nat) (Ma : MT) (Ra : RT) (Ja : JT) (hTy : Ty Z K N Ma Ra) (a0 : Int32) (h_a0 : iv (-2147483648) 2147483647 a0) : Met l yX7_kindOf [Cond.code yX7_kindOf cX7_kindOf 1 (some .int)] (md_rm 1 0 0) (va_Pc [.int a0] (md_U D cy tx base Z K N Ma Ra Ja)) (mQi D cy tx base (fun r u => TP Z K N Lt_X7_kindOf LRt_X7_kindOf Ma Ra u ∧ (iv 0 15 r))) 0 0 (fun q => base ≤ q) := by
  refine tw_ofW (L := Lt_X7_kindOf) (LR := LRt_X7_kindOf) (by decide) (Nat.le_of_ble_eq_true rfl) hTy ?_
  intro p e s m args below meth c Q ls hx hb hr hlocks hown hml hW hK hT hS hQ hl
  have hl : lv_has ls 1 [(0, .int a0)] := hl
  refine lv_iload_n hx hb dX7_kindOf_0 rfl (lv_at hl 0 rfl) ?_
  refine lv_bipush (v := 15) hx hb dX7_kindOf_1 (by decide) ?_
  refine tw_iand (hi := 15) hx hb (iv_mono (iv_c (c := 15) (n := 15) (by decide)) (lo := 0) (hi := 15) (by decide) (by decide)) (by decide) dX7_kindOf_3 (fun x3 h1 => ?_)
  exact tw_endi hx hb hr hlocks hK hT hS hQ (h1) dX7_kindOf_4
def Lt_X7_stepOf : WL := []
def LRt_X7_stepOf : WL := []
set_option maxRecDepth 100000 in
set_option maxHeartbeats 4000000 in
theorem t_X7_stepOf (l : Launch) (D : va_G) (cy : Nat → ClassId) (tx : (Nat → Nat) × (Nat → Nat)) (base Z : Nat) (K N : Nat → Nat) (Ma : MT) (Ra : RT) (Ja : JT) (hTy : Ty Z K N Ma Ra) (a0 : Int32) (h_a0 : iv 0 15 a0) (a1 : Int32) (h_a1 : iv (-2147483648) 2147483647 a1) : Met l yX7_stepOf [Cond.code yX7_stepOf cX7_stepOf 2 (some .int)] (md_rm 1 0 0) (va_Pc [.int a0, .int a1] (md_U D cy tx base Z K N Ma Ra Ja)) (mQi D cy tx base (fun r u => TP Z K N Lt_X7_stepOf LRt_X7_stepOf Ma Ra u ∧ (iv (-2147483648) 2147483647 r))) 0 0 (fun q => base ≤ q) := by
  refine tw_ofW (L := Lt_X7_stepOf) (LR := LRt_X7_stepOf) (by decide) (Nat.le_of_ble_eq_true rfl) hTy ?_
  intro p e s m args below meth c Q ls hx hb hr hlocks hown hml hW hK hT hS hQ hl
  have hl : lv_has ls 2 [(0, .int a0), (1, .int a1)] := hl
  refine lv_iload_n hx hb dX7_stepOf_0 rfl (lv_at hl 1 rfl) ?_
  refine lv_iconst (v := 4) hx hb dX7_stepOf_1 (by decide) ?_
  refine lv_ishl hx hb dX7_stepOf_2 ?_
  refine tw_top (fun x2 => ?_)
  have h1 := iv_any x2
  refine lv_iload_n hx hb dX7_stepOf_3 rfl (lv_at hl 0 rfl) ?_
  refine lv_ior hx hb dX7_stepOf_4 ?_
  refine tw_top (fun x4 => ?_)
  have h3 := iv_any x4
  exact tw_endi hx hb hr hlocks hK hT hS hQ (h3) dX7_stepOf_5
def Lt_X8_aim : WL := [(14, 0, 2000000)]
def LRt_X8_aim : WL := []
set_option maxRecDepth 100000 in
set_option maxHeartbeats 4000000 in
theorem t_X8_aim (l : Launch) (D : va_G) (cy : Nat → ClassId) (tx : (Nat → Nat) × (Nat → Nat)) (base Z : Nat) (K N : Nat → Nat) (Ma : MT) (Ra : RT) (Ja : JT) (hTy : Ty Z K N Ma Ra) (a0 : Nat) (hz_a0 : a0 < Z) (hk_a0 : K a0 = 9) (a1 : Int32) (h_a1 : iv (-1) 399 a1) : Met l yX8_aim [Cond.code yX8_aim cX8_aim 2 none] (md_rm 2 0 0) (va_Pc [.ref (base + a0), .int a1] (md_U D cy tx base Z K N Ma Ra Ja)) (mQv D cy tx base (fun u => TP Z K N Lt_X8_aim LRt_X8_aim Ma Ra u ∧ (True))) 0 0 (fun q => base ≤ q) := by
  refine tw_ofW (L := Lt_X8_aim) (LR := LRt_X8_aim) (by decide) (Nat.le_of_ble_eq_true rfl) hTy ?_
  intro p e s m args below meth c Q ls hx hb hr hlocks hown hml hW hK hT hS hQ hl
  have hl : lv_has ls 2 [(0, .ref (base + a0)), (1, .int a1)] := hl
  refine lv_iload_n hx hb dX8_aim_0 rfl (lv_at hl 1 rfl) ?_
  refine lv_if_lt (tgt := 34) hx hb dX8_aim_1 (by decide) (fun c1 => ?_) (fun c1 => ?_)
  · have q2 : a1.toInt < 0 := ti_lt c1
    have h3 : iv (-1) (-1) a1 := iv_ltL (y := 0) h_a1 (iv_c (c := 0) (n := 0) (by decide)) q2 (by decide)
    exact tw_endv hx hb hr hlocks hK hT hS hQ (trivial) dX8_aim_34
  · have q4 : 0 ≤ a1.toInt := ti_nlt c1
    have h5 : iv 0 399 a1 := iv_geL (y := 0) h_a1 (iv_c (c := 0) (n := 0) (by decide)) q4 (by decide)
    refine lv_iload_n hx hb dX8_aim_4 rfl (lv_at hl 1 rfl) ?_
    refine lv_aload_n hx hb dX8_aim_5 rfl (lv_at hl 0 rfl) ?_
    refine tw_geti hx hb hW hown hK hS f_X8_19_8 hz_a0 hk_a0 (lo := 0) (hi := 400) rfl dX8_aim_6 (fun x8 k7 h6 => ?_)
    refine lv_icmp_ge (tgt := 34) hx hb dX8_aim_9 (by decide) (fun c9 => ?_) (fun c9 => ?_)
    · have q10 : x8.toInt ≤ a1.toInt := ti_le c9
      have h11 : iv 0 399 x8 := iv_leL (y := a1) h6 h5 q10 (by decide)
      exact tw_endv hx hb hr hlocks hK hT hS hQ (trivial) dX8_aim_34
    · have q12 : a1.toInt < x8.toInt := ti_nle c9
      have h13 : iv 1 400 x8 := iv_gtL (y := a1) h6 h5 q12 (by decide)
      refine lv_aload_n hx hb dX8_aim_12 rfl (lv_at hl 0 rfl) ?_
      refine tw_getr hx hb hW hown hK hS f_X8_9_8 hz_a0 hk_a0 (t := 14) (n := 400) rfl dX8_aim_13 (fun b14 k15 hz_b14 hk_b14 hn_b14 => ?_)
      have hn_b14 := hn_b14 (by decide)
      refine lv_iload_n hx hb dX8_aim_16 rfl (lv_at hl 1 rfl) ?_
      refine lv_aload_n hx hb dX8_aim_17 rfl (lv_at hl 0 rfl) ?_
      refine tw_getrk hx hb hW hown hK hS f_X8_9_8 hz_a0 hk_a0 (b := b14) k15 dX8_aim_18 ?_
      refine lv_iload_n hx hb dX8_aim_21 rfl (lv_at hl 1 rfl) ?_
      refine tw_iald hx hb hK hS hz_b14 hk_b14 (Or.inl rfl) hn_b14 (lo := (-2147483648)) (hi := 2147483647) h5 ⟨by decide, by decide⟩ rg_u14 dX8_aim_22 (fun x18 k17 h16 => ?_)
      refine tw_goi hS (md_runS (As := [.int x18]) (rest := [.int a1, .ref (base + b14)]) hx hb hml hown hW hK hT hS.1 (t_X7_kindOf l D cy tx base Z K N Ma Ra Ja hS.2.1 x18 h16) s_X8_71 ⟨rfl, rfl, ⟨Nat.le_of_ble_eq_true rfl, Nat.le_of_ble_eq_true rfl⟩, ⟨Nat.le_of_ble_eq_true rfl, Nat.le_of_ble_eq_true rfl⟩⟩ rfl hl.1 rfl (Nat.le_of_ble_eq_true rfl) dX8_aim_23) rfl rfl (fun x25 H locs M22 R23 J21 hS f19 g20 E24 => ?_)
      have eM22 := Fr.nil f19 rfl
      subst eM22
      have eR23 := Fr.nil g20 rfl
      subst eR23
      have h_x25 := E24
      clear E24
      refine lv_aload_n hx hb dX8_aim_26 rfl (lv_at hl 0 rfl) ?_
      refine tw_getk hx hb hW hown hK hS f_X8_19_8 hz_a0 hk_a0 (v := x8) k7 dX8_aim_27 ?_
      refine tw_goi hS (md_runS (As := [.int x25, .int x8]) (rest := [.int a1, .ref (base + b14)]) hx hb hml hown hW hK hT hS.1 (t_X7_stepOf l D cy tx base Z K N Ma Ra J21 hS.2.1 x25 h_x25 x8 (iv_mono h13 (by decide) (by decide))) s_X8_68 ⟨rfl, rfl, ⟨Nat.le_of_ble_eq_true rfl, Nat.le_of_ble_eq_true rfl⟩, ⟨Nat.le_of_ble_eq_true rfl, Nat.le_of_ble_eq_true rfl⟩⟩ rfl hl.1 rfl (Nat.le_of_ble_eq_true rfl) dX8_aim_30) rfl rfl (fun x32 H locs M29 R30 J28 hS f26 g27 E31 => ?_)
      have eM29 := Fr.nil f26 rfl
      subst eM29
      have eR30 := Fr.nil g27 rfl
      subst eR30
      have h_x32 := E31
      clear E31
      refine tw_iast hx hb hK hS hz_b14 hk_b14 (Or.inl rfl) hn_b14 h5 ⟨by decide, by decide⟩ h_x32 (rg_s14 ⟨by decide, by decide⟩) (jl := 0) (jh := 1999999) ⟨by decide, by decide⟩ rfl dX8_aim_33 (fun H locs M35 hS k33 f34 => ?_)
      exact tw_endv hx hb hr hlocks hK hT hS hQ (trivial) dX8_aim_34
def Lt_X8_put : WL := [(9, 6, 7), (14, 0, 2000000)]
def LRt_X8_put : WL := []
set_option maxRecDepth 100000 in
set_option maxHeartbeats 4000000 in
theorem t_X8_put (l : Launch) (D : va_G) (cy : Nat → ClassId) (tx : (Nat → Nat) × (Nat → Nat)) (base Z : Nat) (K N : Nat → Nat) (Ma : MT) (Ra : RT) (Ja : JT) (hTy : Ty Z K N Ma Ra) (a0 : Nat) (hz_a0 : a0 < Z) (hk_a0 : K a0 = 9) (a1 : Int32) (h_a1 : iv 0 15 a1) (a2 : Int32) (h_a2 : iv (-2147483648) 2147483647 a2) : Met l yX8_put [Cond.code yX8_put cX8_put 3 (some .int)] (md_rm 2 0 0) (va_Pc [.ref (base + a0), .int a1, .int a2] (md_U D cy tx base Z K N Ma Ra Ja)) (mQi D cy tx base (fun r u => TP Z K N Lt_X8_put LRt_X8_put Ma Ra u ∧ (iv (-1) 399 r))) 0 0 (fun q => base ≤ q) := by
  refine tw_ofW (L := Lt_X8_put) (LR := LRt_X8_put) (by decide) (Nat.le_of_ble_eq_true rfl) hTy ?_
  intro p e s m args below meth c Q ls hx hb hr hlocks hown hml hW hK hT hS hQ hl
  have hl : lv_has ls 3 [(0, .ref (base + a0)), (1, .int a1), (2, .int a2)] := hl
  refine lv_aload_n hx hb dX8_put_0 rfl (lv_at hl 0 rfl) ?_
  refine tw_geti hx hb hW hown hK hS f_X8_19_8 hz_a0 hk_a0 (lo := 0) (hi := 400) rfl dX8_put_1 (fun x3 k2 h1 => ?_)
  refine lv_aload_n hx hb dX8_put_4 rfl (lv_at hl 0 rfl) ?_
  refine tw_getr hx hb hW hown hK hS f_X8_9_8 hz_a0 hk_a0 (t := 14) (n := 400) rfl dX8_put_5 (fun b4 k5 hz_b4 hk_b4 hn_b4 => ?_)
  have hn_b4 := hn_b4 (by decide)
  refine tw_alenk hx hb hK hS hz_b4 hk_b4 (by decide) hn_b4 (v := 400) (by decide) dX8_put_8 ?_
  refine lv_icmp_lt (tgt := 14) hx hb dX8_put_9 (by decide) (fun c6 => ?_) (fun c6 => ?_)
  · have q7 : x3.toInt < 400 := ti_lt c6
    have h8 : iv 0 399 x3 := iv_ltL (y := 400) h1 (iv_c (c := 400) (n := 400) (by decide)) q7 (by decide)
    refine lv_aload_n hx hb dX8_put_14 rfl (lv_at hl 0 rfl) ?_
    refine tw_getrk hx hb hW hown hK hS f_X8_9_8 hz_a0 hk_a0 (b := b4) k5 dX8_put_15 ?_
    refine lv_aload_n hx hb dX8_put_18 rfl (lv_at hl 0 rfl) ?_
    refine tw_getk hx hb hW hown hK hS f_X8_19_8 hz_a0 hk_a0 (v := x3) k2 dX8_put_19 ?_
    refine lv_iload_n hx hb dX8_put_22 rfl (lv_at hl 1 rfl) ?_
    refine lv_iload_n hx hb dX8_put_23 rfl (lv_at hl 2 rfl) ?_
    refine tw_goi hS (md_runS (As := [.int a1, .int a2]) (rest := [.int x3, .ref (base + b4)]) hx hb hml hown hW hK hT hS.1 (t_X7_stepOf l D cy tx base Z K N Ma Ra Ja hS.2.1 a1 h_a1 a2 h_a2) s_X8_68 ⟨rfl, rfl, ⟨Nat.le_of_ble_eq_true rfl, Nat.le_of_ble_eq_true rfl⟩, ⟨Nat.le_of_ble_eq_true rfl, Nat.le_of_ble_eq_true rfl⟩⟩ rfl hl.1 rfl (Nat.le_of_ble_eq_true rfl) dX8_put_24) rfl rfl (fun x15 H locs M12 R13 J11 hS f9 g10 E14 => ?_)
    have eM12 := Fr.nil f9 rfl
    subst eM12
    have eR13 := Fr.nil g10 rfl
    subst eR13
    have h_x15 := E14
    clear E14
    refine tw_iast hx hb hK hS hz_b4 hk_b4 (Or.inl rfl) hn_b4 h8 ⟨by decide, by decide⟩ h_x15 (rg_s14 ⟨by decide, by decide⟩) (jl := 0) (jh := 1999999) ⟨by decide, by decide⟩ rfl dX8_put_27 (fun H locs M18 hS k16 f17 => ?_)
    refine lv_aload_n hx hb dX8_put_28 rfl (lv_at hl 0 rfl) ?_
    refine lv_dup hx hb dX8_put_29 rfl ?_
    have k19 : M18 a0 6 = x3 := (Fr.kp (k := 6) f17 hk_a0 rfl).trans k2
    refine tw_getk hx hb hW hown hK hS f_X8_19_8 hz_a0 hk_a0 (v := x3) k19 dX8_put_30 ?_
    refine lv_iconst (v := 1) hx hb dX8_put_33 (by decide) ?_
    refine tw_iadd (lo := 1) (hi := 400) hx hb h8 (iv_c (c := 1) (n := 1) (by decide)) ⟨by decide, by decide⟩ ⟨by decide, by decide⟩ dX8_put_34 (fun x22 e21 h20 => ?_)
    have e21 : x22.toInt = x3.toInt + 1 := e21
    refine tw_puti hx hb hW hown hK hS f_X8_19_8 hz_a0 hk_a0 rfl rfl (lo := 0) (hi := 400) rfl (iv_mono h20 (by decide) (by decide)) rfl dX8_put_35 (fun H locs M25 hS k23 f24 => ?_)
    refine lv_aload_n hx hb dX8_put_38 rfl (lv_at hl 0 rfl) ?_
    refine tw_getk hx hb hW hown hK hS f_X8_19_8 hz_a0 hk_a0 (v := x22) k23 dX8_put_39 ?_
    refine lv_iconst (v := 1) hx hb dX8_put_42 (by decide) ?_
    refine tw_isub (lo := 0) (hi := 399) hx hb h20 (iv_c (c := 1) (n := 1) (by decide)) ⟨by decide, by decide⟩ ⟨by decide, by decide⟩ dX8_put_43 (fun x28 e27 h26 => ?_)
    have e27 : x28.toInt = x22.toInt - 1 := e27
    exact tw_endi hx hb hr hlocks hK hT hS hQ ((iv_mono h26 (by decide) (by decide))) dX8_put_44
  · have q29 : 400 ≤ x3.toInt := ti_nlt c6
    have h30 : iv 400 400 x3 := iv_geL (y := 400) h1 (iv_c (c := 400) (n := 400) (by decide)) q29 (by decide)
    refine lv_iconst (v := (-1)) hx hb dX8_put_12 (by decide) ?_
    exact tw_endi hx hb hr hlocks hK hT hS hQ ((iv_mono (iv_c (c := (-1)) (n := (-1)) (by decide)) (by decide) (by decide))) dX8_put_13
def Lt_X8_fact : WL := [(9, 2, 5), (9, 6, 8), (14, 0, 2000000)]
def LRt_X8_fact : WL := []
def Lt_X8_test : WL := [(9, 2, 5), (9, 6, 8), (14, 0, 2000000)]
def LRt_X8_test : WL := []
set_option maxRecDepth 100000 in
set_option maxHeartbeats 4000000 in
theorem t_X8_test (l : Launch) (D : va_G) (cy : Nat → ClassId) (tx : (Nat → Nat) × (Nat → Nat)) (base Z : Nat) (K N : Nat → Nat) (d : Nat) (ih : ∀ (Ma : MT) (Ra : RT) (Ja : JT) (hTy : Ty Z K N Ma Ra) (a0 : Nat) (hz_a0 : a0 < Z) (hk_a0 : K a0 = 9) (a1 : Int32) (h_a1 : iv 0 10 a1) (tb : Nat) (k_tb : Ra a0 0 = some tb) (ln : Int32) (k_ln : Ma a0 1 = ln) (h_ln : iv 0 400 ln) (pa : Int32) (k_pa : Ma a0 2 = pa) (h_pa : iv 0 400 pa) (fa : Int32) (k_fa : Ma a0 3 = fa) (h_fa : iv 0 0 fa) (hin : pa.toInt ≤ ln.toInt) (hmd : 10 - a1.toInt < (d : Int)), Met l yX8_fact [Cond.code yX8_fact cX8_fact 5 none] (md_rm (9 + 2 * d) 0 0) (va_Pc [.ref (base + a0), .int a1] (md_U D cy tx base Z K N Ma Ra Ja)) (mQv D cy tx base (fun u => TP Z K N Lt_X8_fact LRt_X8_fact Ma Ra u ∧ ((∃ x0 x1 : Int32, u.2.2.2.1 a0 2 = x0 ∧ u.2.2.2.1 a0 3 = x1 ∧ iv 0 420 x0 ∧ iv (-2147483648) 2147483647 x1 ∧ (x0.toInt ≤ 420 - a1.toInt ∧ (¬ x1.toInt = 0 ∨ x0.toInt ≤ ln.toInt)))))) 0 0 (fun q => base ≤ q)) (Ma : MT) (Ra : RT) (Ja : JT) (hTy : Ty Z K N Ma Ra) (a0 : Nat) (hz_a0 : a0 < Z) (hk_a0 : K a0 = 9) (a1 : Int32) (h_a1 : iv 0 10 a1) (tb : Nat) (k_tb : Ra a0 0 = some tb) (ln : Int32) (k_ln : Ma a0 1 = ln) (h_ln : iv 0 400 ln) (pa : Int32) (k_pa : Ma a0 2 = pa) (h_pa : iv 0 400 pa) (fa : Int32) (k_fa : Ma a0 3 = fa) (h_fa : iv 0 0 fa) (hin : pa.toInt ≤ ln.toInt) (hmd : 10 - a1.toInt < (d : Int)) : Met l yX8_test [Cond.code yX8_test cX8_test 7 none] (md_rm (10 + 2 * d) 0 0) (va_Pc [.ref (base + a0), .int a1] (md_U D cy tx base Z K N Ma Ra Ja)) (mQv D cy tx base (fun u => TP Z K N Lt_X8_test LRt_X8_test Ma Ra u ∧ ((∃ x0 x1 : Int32, u.2.2.2.1 a0 2 = x0 ∧ u.2.2.2.1 a0 3 = x1 ∧ iv 0 420 x0 ∧ iv (-2147483648) 2147483647 x1 ∧ (x0.toInt ≤ 420 - a1.toInt ∧ (¬ x1.toInt = 0 ∨ x0.toInt ≤ ln.toInt)))))) 0 0 (fun q => base ≤ q) := by
  refine tw_ofW (L := Lt_X8_test) (LR := LRt_X8_test) (by decide) (Nat.le_of_ble_eq_true rfl) hTy ?_
  intro p e s m args below meth c Q ls hx hb hr hlocks hown hml hW hK hT hS hQ hl
  have hl : lv_has ls 7 [(0, .ref (base + a0)), (1, .int a1)] := hl
  obtain ⟨hz_tb, hk_tb, hn_tb⟩ := hTy.refn hz_a0 hk_a0 (show rtR 9 0 = (13, 400, 1) from rfl) k_tb
  have hn_tb := hn_tb (by decide)
  refine lv_iconst (v := (-1)) hx hb dX8_test_0 (by decide) ?_
  refine lv_istore_n (lv' := [(2, .int (-1)), (0, .ref (base + a0)), (1, .int a1)]) hx hb dX8_test_1 rfl hl (by decide) rfl (fun ls hl => ?_)
  refine lv_iconst (v := 1) hx hb dX8_test_2 (by decide) ?_
  refine lv_istore_n (lv' := [(3, .int 1), (2, .int (-1)), (0, .ref (base + a0)), (1, .int a1)]) hx hb dX8_test_3 rfl hl (by decide) rfl (fun ls hl => ?_)
  refine lv_aload_n hx hb dX8_test_4 rfl (lv_at hl 2 rfl) ?_
  refine lv_iload_n hx hb dX8_test_5 rfl (lv_at hl 3 rfl) ?_
  have q1 : pa.toInt ≤ ln.toInt := by
    have := (h_a1).1; have := (h_a1).2; have := (h_fa).1; have := (h_fa).2; have := (h_ln).1; have := (h_ln).2; have := (h_pa).1; have := (h_pa).2; omega
  have hm2 : 10 - a1.toInt < (d : Int) := by
    have := (h_a1).1; have := (h_a1).2; have := (h_fa).1; have := (h_fa).2; have := (h_ln).1; have := (h_ln).2; have := (h_pa).1; have := (h_pa).2; omega
  refine tw_gov hS (md_runV (As := [.int a1]) (rest := []) hx hb hml hown hW hK hT hS.1 (ih Ma Ra Ja hS.2.1 a0 hz_a0 hk_a0 a1 h_a1 tb k_tb ln k_ln (iv_mono h_ln (by decide) (by decide)) pa k_pa (iv_mono h_pa (by decide) (by decide)) fa k_fa (iv_mono h_fa (by decide) (by decide)) q1 hm2) s_X8_75 ⟨rfl, rfl, ⟨by simp only [md_rm]; omega, by simp only [md_rm]; omega⟩, ⟨Nat.le_of_ble_eq_true rfl, Nat.le_of_ble_eq_true rfl⟩⟩ hz_a0 hk_a0 (by decide) rfl rfl hl.1 rfl (Nat.le_of_ble_eq_true rfl) dX8_test_6) rfl rfl (fun H locs M6 R7 J5 hS f3 g4 E8 => ?_)
  have eR7 := Fr.nil g4 rfl
  subst eR7
  have p9 := E8
  clear E8
  obtain ⟨x11, x13, k14, k15, h10, h12, q16⟩ := p9
  have k14 : M6 a0 2 = x11 := k14
  have k15 : M6 a0 3 = x13 := k15
  refine lv_iconst (v := 0) hx hb dX8_test_9 (by decide) ?_
  refine lv_istore (lv' := [(4, .int 0), (3, .int 1), (2, .int (-1)), (0, .ref (base + a0)), (1, .int a1)]) hx hb dX8_test_10 hl (by decide) rfl (fun ls hl => ?_)
  have W12_20 : ∀ (n_20 : Nat) (x17 : Int32) (x18 : Int32) (x19 : Int32) (x25 : Int32) (x27 : Int32) (M20 : MT) (R21 : RT) (J22 : JT) (H : Heap) (locs : List Loc) (ls : Array Slot) (h_x17 : iv (-1) 399 x17) (h_x18 : iv 0 1 x18) (h_x19 : iv 0 400 x19) (h_x25 : iv 0 420 x25) (k26 : M20 a0 2 = x25) (h_x27 : iv (-2147483648) 2147483647 x27) (k28 : M20 a0 3 = x27) (w0_20 : x25.toInt ≤ 420 - a1.toInt ∧ (¬ x27.toInt = 0 ∨ x25.toInt ≤ ln.toInt)) (hm_20 : 400 - x19.toInt < (n_20 : Int)) (hS : SB D cy base Z K N Lt_X8_test LRt_X8_test Ma Ra M20 R21 J22 s H locs) (hl : lv_has ls 7 [(2, .int x17), (3, .int x18), (4, .int x19), (0, .ref (base + a0)), (1, .int a1)]), W p l e (md_rm (10 + 2 * d) 0 0) s m args below meth c H locs 0 0 Q (F0 m 12 ls []) := by
    intro n_20
    induction n_20 with
    | zero =>
      intro x17 x18 x19 x25 x27 M20 R21 J22 H locs ls h_x17 h_x18 h_x19 h_x25 k26 h_x27 k28 w0_20 hm_20 hS hl
      exfalso
      have := (h_a1).1; have := (h_a1).2; have := (h_fa).1; have := (h_fa).2; have := (h_ln).1; have := (h_ln).2; have := (h_pa).1; have := (h_pa).2; have := (h_x19).1; have := (h_x19).2; omega
    | succ n_20 ih_20 =>
      intro x17 x18 x19 x25 x27 M20 R21 J22 H locs ls h_x17 h_x18 h_x19 h_x25 k26 h_x27 k28 w0_20 hm_20 hS hl
      have f23 := hS.2.2.1
      have g24 := hS.2.2.2
      refine lv_iload_n hx hb dX8_test_12 rfl (lv_at hl 1 rfl) ?_
      refine lv_if_eq (tgt := 122) hx hb dX8_test_13 (by decide) (fun c29 => ?_) (fun c29 => ?_)
      · have q30 : x18.toInt = 0 := ti_eq c29
        have h31 : iv 0 0 x18 := ⟨by have := (h_x18).1; have := ((iv_c (c := 0) (n := 0) (by decide))).1; omega, by have := (h_x18).2; have := ((iv_c (c := 0) (n := 0) (by decide))).2; omega⟩
        have q32 : x25.toInt ≤ 420 - a1.toInt ∧ (¬ x27.toInt = 0 ∨ x25.toInt ≤ ln.toInt) := by
          have := (h_a1).1; have := (h_a1).2; have := (h_fa).1; have := (h_fa).2; have := (h_ln).1; have := (h_ln).2; have := (h_pa).1; have := (h_pa).2; have := (h10).1; have := (h10).2; have := (h12).1; have := (h12).2; have := (h_x25).1; have := (h_x25).2; have := (h_x27).1; have := (h_x27).2; omega
        exact tw_endv hx hb hr hlocks hK hT hS hQ (⟨x25, x27, k26, k28, h_x25, h_x27, q32⟩) dX8_test_122
      · have q33 : ¬ x18.toInt = 0 := ti_ne c29
        have h34 : iv 1 1 x18 := ⟨by have := (h_x18).1; have := ((iv_c (c := 0) (n := 0) (by decide))).1; have := ((iv_c (c := 0) (n := 0) (by decide))).2; omega, by have := (h_x18).2; have := ((iv_c (c := 0) (n := 0) (by decide))).1; have := ((iv_c (c := 0) (n := 0) (by decide))).2; omega⟩
        refine lv_aload_n hx hb dX8_test_16 rfl (lv_at hl 3 rfl) ?_
        refine tw_getk hx hb hW hown hK hS f_X8_65_8 hz_a0 hk_a0 (v := x27) k28 dX8_test_17 ?_
        refine lv_if_ne (tgt := 122) hx hb dX8_test_20 (by decide) (fun c35 => ?_) (fun c35 => ?_)
        · have q36 : ¬ x27.toInt = 0 := ti_ne c35
          have q37 : x25.toInt ≤ 420 - a1.toInt ∧ (¬ x27.toInt = 0 ∨ x25.toInt ≤ ln.toInt) := by
            have := (h_a1).1; have := (h_a1).2; have := (h_fa).1; have := (h_fa).2; have := (h_ln).1; have := (h_ln).2; have := (h_pa).1; have := (h_pa).2; have := (h10).1; have := (h10).2; have := (h12).1; have := (h12).2; have := (h_x25).1; have := (h_x25).2; have := (h_x27).1; have := (h_x27).2; omega
          exact tw_endv hx hb hr hlocks hK hT hS hQ (⟨x25, x27, k26, k28, h_x25, h_x27, q37⟩) dX8_test_122
        · have q38 : x27.toInt = 0 := ti_eq c35
          have h39 : iv 0 0 x27 := ⟨by have := (h_x27).1; have := ((iv_c (c := 0) (n := 0) (by decide))).1; omega, by have := (h_x27).2; have := ((iv_c (c := 0) (n := 0) (by decide))).2; omega⟩
          refine lv_iload hx hb dX8_test_23 (lv_at hl 2 rfl) ?_
          refine lv_sipush (v := 400) hx hb dX8_test_25 (by decide) ?_
          refine lv_icmp_ge (tgt := 122) hx hb dX8_test_28 (by decide) (fun c40 => ?_) (fun c40 => ?_)
          · have q41 : 400 ≤ x19.toInt := ti_le c40
            have h42 : iv 400 400 x19 := iv_geL (y := 400) h_x19 (iv_c (c := 400) (n := 400) (by decide)) q41 (by decide)
            have q43 : x25.toInt ≤ 420 - a1.toInt ∧ (¬ x27.toInt = 0 ∨ x25.toInt ≤ ln.toInt) := by
              have := (h_a1).1; have := (h_a1).2; have := (h_fa).1; have := (h_fa).2; have := (h_ln).1; have := (h_ln).2; have := (h_pa).1; have := (h_pa).2; have := (h10).1; have := (h10).2; have := (h12).1; have := (h12).2; have := (h_x25).1; have := (h_x25).2; have := (h39).1; have := (h39).2; omega
            exact tw_endv hx hb hr hlocks hK hT hS hQ (⟨x25, x27, k26, k28, h_x25, (iv_mono h39 (by decide) (by decide)), q43⟩) dX8_test_122
          · have q44 : x19.toInt < 400 := ti_nle c40
            have h45 : iv 0 399 x19 := iv_ltL (y := 400) h_x19 (iv_c (c := 400) (n := 400) (by decide)) q44 (by decide)
            refine lv_aload_n hx hb dX8_test_31 rfl (lv_at hl 3 rfl) ?_
            have k46 : R21 a0 0 = some tb := (Fr.kp (k := 0) g24 hk_a0 rfl).trans k_tb
            have k47 : M20 a0 1 = ln := (Fr.kp (k := 1) f23 hk_a0 rfl).trans k_ln
            refine tw_goi hS (md_runU (As := []) (rest := []) hx hb hml hown hW hK hT hS.1 (t_X10_hereBehindBlanks l D cy tx base Z K N M20 R21 J22 hS.2.1 a0 hz_a0 hk_a0 tb k46 ln k47 (iv_mono h_ln (by decide) (by decide)) x25 k26 (iv_mono h_x25 (by decide) (by decide))) s_X8_26_X8 ⟨rfl, rfl, ⟨by simp only [md_rm]; omega, by simp only [md_rm]; omega⟩, ⟨Nat.le_of_ble_eq_true rfl, Nat.le_of_ble_eq_true rfl⟩⟩ hz_a0 hk_a0 (by decide) rfl rfl hl.1 rfl (Nat.le_of_ble_eq_true rfl) dX8_test_32) rfl rfl (fun x54 H locs M51 R52 J50 hS f48 g49 E53 => ?_)
            have eR52 := Fr.nil g49 rfl
            subst eR52
            obtain ⟨h_x54, p55⟩ := E53
            obtain ⟨x57, k58, h56, q59⟩ := p55
            have k58 : M51 a0 2 = x57 := k58
            have h60 : iv 0 420 x57 := by
              have := (h_a1).1; have := (h_a1).2; have := (h_fa).1; have := (h_fa).2; have := (h_ln).1; have := (h_ln).2; have := (h_pa).1; have := (h_pa).2; have := (h10).1; have := (h10).2; have := (h12).1; have := (h12).2; have := (h_x25).1; have := (h_x25).2; have := (h39).1; have := (h39).2; have := (h56).1; have := (h56).2; exact ⟨by omega, by omega⟩
            refine lv_pop hx hb dX8_test_35 rfl ?_
            refine lv_aload_n hx hb dX8_test_36 rfl (lv_at hl 3 rfl) ?_
            refine va_ldcS hx hb hown hT.2.1.2.2.2.2.1 dX8_test_37 ?_
            have k61 : R21 a0 0 = some tb := (Fr.kp (k := 0) g24 hk_a0 rfl).trans k_tb
            have k62 : M51 a0 1 = ln := ((Fr.kp (k := 1) f48 hk_a0 rfl).trans (Fr.kp (k := 1) f23 hk_a0 rfl)).trans k_ln
            refine tw_goi hS (md_runU (As := [.ref (tx.1 4)]) (rest := []) hx hb hml hown hW hK hT hS.1 (t_X10_whichWord l D cy tx base Z K N M51 R21 J50 hS.2.1 a0 hz_a0 hk_a0 4 (by decide) tb k61 ln k62 (iv_mono h_ln (by decide) (by decide)) x57 k58 (iv_mono h60 (by decide) (by decide))) s_X8_32_X8 ⟨rfl, rfl, ⟨by simp only [md_rm]; omega, by simp only [md_rm]; omega⟩, ⟨Nat.le_of_ble_eq_true rfl, Nat.le_of_ble_eq_true rfl⟩⟩ hz_a0 hk_a0 (by decide) rfl rfl hl.1 rfl (Nat.le_of_ble_eq_true rfl) dX8_test_39) rfl rfl (fun x69 H locs M66 R67 J65 hS f63 g64 E68 => ?_)
            have eR67 := Fr.nil g64 rfl
            subst eR67
            obtain ⟨h_x69, p70⟩ := E68
            obtain ⟨x72, k73, h71, q74⟩ := p70
            have k73 : M66 a0 4 = x72 := k73
            have h75 : iv 0 420 x72 := by
              have := (h_a1).1; have := (h_a1).2; have := (h_fa).1; have := (h_fa).2; have := (h_ln).1; have := (h_ln).2; have := (h_pa).1; have := (h_pa).2; have := (h10).1; have := (h10).2; have := (h12).1; have := (h12).2; have := (h_x25).1; have := (h_x25).2; have := (h39).1; have := (h39).2; have := (h60).1; have := (h60).2; have := (h71).1; have := (h71).2; exact ⟨by omega, by omega⟩
            refine lv_istore (lv' := [(5, .int x69), (2, .int x17), (3, .int x18), (4, .int x19), (0, .ref (base + a0)), (1, .int a1)]) hx hb dX8_test_42 hl (by decide) rfl (fun ls hl => ?_)
            refine lv_iload hx hb dX8_test_44 (lv_at hl 0 rfl) ?_
            refine lv_if_ne (tgt := 76) hx hb dX8_test_46 (by decide) (fun c76 => ?_) (fun c76 => ?_)
            · have q77 : ¬ x69.toInt = 0 := ti_ne c76
              refine lv_aload_n hx hb dX8_test_76 rfl (lv_at hl 4 rfl) ?_
              refine lv_iload_n hx hb dX8_test_77 rfl (lv_at hl 1 rfl) ?_
              refine tw_gov hS (md_runV (As := [.int x17]) (rest := []) hx hb hml hown hW hK hT hS.1 (t_X8_aim l D cy tx base Z K N M66 R21 J65 hS.2.1 a0 hz_a0 hk_a0 x17 h_x17) s_X8_58 ⟨rfl, rfl, ⟨by simp only [md_rm]; omega, by simp only [md_rm]; omega⟩, ⟨Nat.le_of_ble_eq_true rfl, Nat.le_of_ble_eq_true rfl⟩⟩ hz_a0 hk_a0 (by decide) rfl rfl hl.1 rfl (Nat.le_of_ble_eq_true rfl) dX8_test_78) rfl rfl (fun H locs M81 R82 J80 hS f78 g79 E83 => ?_)
              have eR82 := Fr.nil g79 rfl
              subst eR82
              refine lv_iconst (v := (-1)) hx hb dX8_test_81 (by decide) ?_
              refine lv_istore_n (lv' := [(2, .int (-1)), (5, .int x69), (3, .int x18), (4, .int x19), (0, .ref (base + a0)), (1, .int a1)]) hx hb dX8_test_82 rfl hl (by decide) rfl (fun ls hl => ?_)
              refine lv_iload hx hb dX8_test_83 (lv_at hl 1 rfl) ?_
              refine lv_iconst (v := 1) hx hb dX8_test_85 (by decide) ?_
              refine lv_icmp_ne (tgt := 93) hx hb dX8_test_86 (by decide) (fun c84 => ?_) (fun c84 => ?_)
              · have q85 : ¬ x69.toInt = 1 := ti_ne c84
                refine lv_iconst (v := 0) hx hb dX8_test_93 (by decide) ?_
                refine lv_istore_n (lv' := [(3, .int 0), (2, .int (-1)), (5, .int x69), (4, .int x19), (0, .ref (base + a0)), (1, .int a1)]) hx hb dX8_test_94 rfl hl (by decide) rfl (fun ls hl => ?_)
                refine lv_iload_n hx hb dX8_test_95 rfl (lv_at hl 0 rfl) ?_
                refine lv_if_eq (tgt := 116) hx hb dX8_test_96 (by decide) (fun _ => ?_) (fun h => absurd h (by decide))
                refine tw_iinc (lv' := fun x88 => [(4, .int x88), (3, .int 0), (2, .int (-1)), (5, .int x69), (0, .ref (base + a0)), (1, .int a1)]) (lo := 1) (hi := 400) hx hb dX8_test_116 hl (k := 3) rfl h45 (by decide) ⟨by decide, by decide⟩ ⟨by decide, by decide⟩ (by decide) (fun _ => rfl) (fun x88 ls e87 h86 hl => ?_)
                refine lv_goto (tgt := 12) hx hb dX8_test_119 (by decide) ?_
                have k89 : M81 a0 2 = x57 := ((Fr.kp (k := 2) f78 hk_a0 rfl).trans (Fr.kp (k := 2) f63 hk_a0 rfl)).trans k58
                have k90 : M81 a0 3 = x27 := ((Fr.kp (k := 3) f78 hk_a0 rfl).trans ((Fr.kp (k := 3) f63 hk_a0 rfl).trans (Fr.kp (k := 3) f48 hk_a0 rfl))).trans k28
                have w91 : x57.toInt ≤ 420 - a1.toInt ∧ (¬ x27.toInt = 0 ∨ x57.toInt ≤ ln.toInt) := by
                  have := (h_a1).1; have := (h_a1).2; have := (h_fa).1; have := (h_fa).2; have := (h_ln).1; have := (h_ln).2; have := (h_pa).1; have := (h_pa).2; have := (h10).1; have := (h10).2; have := (h12).1; have := (h12).2; have := (h_x25).1; have := (h_x25).2; have := (h39).1; have := (h39).2; have := (h60).1; have := (h60).2; have := (h75).1; have := (h75).2; omega
                have hm92 : 400 - x88.toInt < (n_20 : Int) := by
                  have := (h_a1).1; have := (h_a1).2; have := (h_fa).1; have := (h_fa).2; have := (h_ln).1; have := (h_ln).2; have := (h_pa).1; have := (h_pa).2; have := (h45).1; have := (h45).2; have := (h86).1; have := (h86).2; omega
                exact ih_20 (-1) 0 x88 x57 x27 M81 R21 J80 H locs _ (iv_mono (iv_c (c := (-1)) (n := (-1)) (by decide)) (by decide) (by decide)) (iv_mono (iv_c (c := 0) (n := 0) (by decide)) (by decide) (by decide)) (iv_mono h86 (by decide) (by decide)) h60 k89 (iv_mono h39 (by decide) (by decide)) k90 w91 hm92 hS (lv_sub hl [2, 1, 0, 4, 5] rfl)
              · have q93 : x69.toInt = 1 := ti_eq c84
                have h94 : iv 1 1 x69 := ⟨by have := (h_x69).1; have := ((iv_c (c := 1) (n := 1) (by decide))).1; omega, by have := (h_x69).2; have := ((iv_c (c := 1) (n := 1) (by decide))).2; omega⟩
                refine lv_iconst (v := 1) hx hb dX8_test_89 (by decide) ?_
                refine lv_goto (tgt := 94) hx hb dX8_test_90 (by decide) ?_
                refine lv_istore_n (lv' := [(3, .int 1), (2, .int (-1)), (5, .int x69), (4, .int x19), (0, .ref (base + a0)), (1, .int a1)]) hx hb dX8_test_94 rfl hl (by decide) rfl (fun ls hl => ?_)
                refine lv_iload_n hx hb dX8_test_95 rfl (lv_at hl 0 rfl) ?_
                refine lv_if_eq (tgt := 116) hx hb dX8_test_96 (by decide) (fun h => absurd h (by decide)) (fun _ => ?_)
                refine lv_aload_n hx hb dX8_test_99 rfl (lv_at hl 4 rfl) ?_
                have k95 : M81 a0 4 = x72 := (Fr.kp (k := 4) f78 hk_a0 rfl).trans k73
                refine tw_gov hS (md_runU (As := []) (rest := []) hx hb hml hown hW hK hT hS.1 (t_X10_passWord l D cy tx base Z K N M81 R21 J80 hS.2.1 a0 hz_a0 hk_a0 x72 k95 (iv_mono h75 (by decide) (by decide))) s_X8_43_X8 ⟨rfl, rfl, ⟨by simp only [md_rm]; omega, by simp only [md_rm]; omega⟩, ⟨Nat.le_of_ble_eq_true rfl, Nat.le_of_ble_eq_true rfl⟩⟩ hz_a0 hk_a0 (by decide) rfl rfl hl.1 rfl (Nat.le_of_ble_eq_true rfl) dX8_test_100) rfl rfl (fun H locs M99 R100 J98 hS f96 g97 E101 => ?_)
                have eR100 := Fr.nil g97 rfl
                subst eR100
                have p102 := E101
                clear E101
                have k103 : M99 a0 2 = x72 := p102
                refine lv_aload_n hx hb dX8_test_103 rfl (lv_at hl 4 rfl) ?_
                refine lv_bipush (v := 13) hx hb dX8_test_104 (by decide) ?_
                refine lv_iconst (v := 0) hx hb dX8_test_106 (by decide) ?_
                refine tw_goi hS (md_runV (As := [.int 13, .int 0]) (rest := []) hx hb hml hown hW hK hT hS.1 (t_X8_put l D cy tx base Z K N M99 R21 J98 hS.2.1 a0 hz_a0 hk_a0 13 (iv_mono (iv_c (c := 13) (n := 13) (by decide)) (by decide) (by decide)) 0 (iv_mono (iv_c (c := 0) (n := 0) (by decide)) (by decide) (by decide))) s_X8_54 ⟨rfl, rfl, ⟨by simp only [md_rm]; omega, by simp only [md_rm]; omega⟩, ⟨Nat.le_of_ble_eq_true rfl, Nat.le_of_ble_eq_true rfl⟩⟩ hz_a0 hk_a0 (by decide) rfl rfl hl.1 rfl (Nat.le_of_ble_eq_true rfl) dX8_test_107) rfl rfl (fun x110 H locs M107 R108 J106 hS f104 g105 E109 => ?_)
                have eR108 := Fr.nil g105 rfl
                subst eR108
                have h_x110 := E109
                clear E109
                refine lv_istore_n (lv' := [(2, .int x110), (3, .int 1), (5, .int x69), (4, .int x19), (0, .ref (base + a0)), (1, .int a1)]) hx hb dX8_test_110 rfl hl (by decide) rfl (fun ls hl => ?_)
                refine lv_aload_n hx hb dX8_test_111 rfl (lv_at hl 4 rfl) ?_
                refine lv_iload_n hx hb dX8_test_112 rfl (lv_at hl 5 rfl) ?_
                have k111 : R21 a0 0 = some tb := (Fr.kp (k := 0) g24 hk_a0 rfl).trans k_tb
                have k112 : M107 a0 1 = ln := ((Fr.kp (k := 1) f104 hk_a0 rfl).trans ((Fr.kp (k := 1) f96 hk_a0 rfl).trans ((Fr.kp (k := 1) f78 hk_a0 rfl).trans ((Fr.kp (k := 1) f63 hk_a0 rfl).trans ((Fr.kp (k := 1) f48 hk_a0 rfl).trans (Fr.kp (k := 1) f23 hk_a0 rfl)))))).trans k_ln
                have k113 : M107 a0 2 = x72 := (Fr.kp (k := 2) f104 hk_a0 rfl).trans k103
                have h114 : iv 0 400 x72 := by
                  have := (h_a1).1; have := (h_a1).2; have := (h_fa).1; have := (h_fa).2; have := (h_ln).1; have := (h_ln).2; have := (h_pa).1; have := (h_pa).2; have := (h10).1; have := (h10).2; have := (h12).1; have := (h12).2; have := (h_x25).1; have := (h_x25).2; have := (h39).1; have := (h39).2; have := (h60).1; have := (h60).2; have := (h75).1; have := (h75).2; exact ⟨by omega, by omega⟩
                have k115 : M107 a0 3 = x27 := ((Fr.kp (k := 3) f104 hk_a0 rfl).trans ((Fr.kp (k := 3) f96 hk_a0 rfl).trans ((Fr.kp (k := 3) f78 hk_a0 rfl).trans ((Fr.kp (k := 3) f63 hk_a0 rfl).trans (Fr.kp (k := 3) f48 hk_a0 rfl))))).trans k28
                have q116 : x72.toInt ≤ ln.toInt := by
                  have := (h_a1).1; have := (h_a1).2; have := (h_fa).1; have := (h_fa).2; have := (h_ln).1; have := (h_ln).2; have := (h_pa).1; have := (h_pa).2; have := (h10).1; have := (h10).2; have := (h12).1; have := (h12).2; have := (h_x25).1; have := (h_x25).2; have := (h39).1; have := (h39).2; have := (h60).1; have := (h60).2; have := (h75).1; have := (h75).2; omega
                have hm117 : 10 - a1.toInt < (d : Int) := by
                  have := (h_a1).1; have := (h_a1).2; have := (h_fa).1; have := (h_fa).2; have := (h_ln).1; have := (h_ln).2; have := (h_pa).1; have := (h_pa).2; have := (h10).1; have := (h10).2; have := (h12).1; have := (h12).2; have := (h_x25).1; have := (h_x25).2; have := (h39).1; have := (h39).2; have := (h60).1; have := (h60).2; have := (h75).1; have := (h75).2; omega
                refine tw_gov hS (md_runV (As := [.int a1]) (rest := []) hx hb hml hown hW hK hT hS.1 (ih M107 R21 J106 hS.2.1 a0 hz_a0 hk_a0 a1 h_a1 tb k111 ln k112 (iv_mono h_ln (by decide) (by decide)) x72 k113 h114 x27 k115 (iv_mono h39 (by decide) (by decide)) q116 hm117) s_X8_75 ⟨rfl, rfl, ⟨by simp only [md_rm]; omega, by simp only [md_rm]; omega⟩, ⟨Nat.le_of_ble_eq_true rfl, Nat.le_of_ble_eq_true rfl⟩⟩ hz_a0 hk_a0 (by decide) rfl rfl hl.1 rfl (Nat.le_of_ble_eq_true rfl) dX8_test_113) rfl rfl (fun H locs M121 R122 J120 hS f118 g119 E123 => ?_)
                have eR122 := Fr.nil g119 rfl
                subst eR122
                have p124 := E123
                clear E123
                obtain ⟨x126, x128, k129, k130, h125, h127, q131⟩ := p124
                have k129 : M121 a0 2 = x126 := k129
                have k130 : M121 a0 3 = x128 := k130
                refine tw_iinc (lv' := fun x134 => [(4, .int x134), (2, .int x110), (3, .int 1), (5, .int x69), (0, .ref (base + a0)), (1, .int a1)]) (lo := 1) (hi := 400) hx hb dX8_test_116 hl (k := 3) rfl h45 (by decide) ⟨by decide, by decide⟩ ⟨by decide, by decide⟩ (by decide) (fun _ => rfl) (fun x134 ls e133 h132 hl => ?_)
                refine lv_goto (tgt := 12) hx hb dX8_test_119 (by decide) ?_
                have w135 : x126.toInt ≤ 420 - a1.toInt ∧ (¬ x128.toInt = 0 ∨ x126.toInt ≤ ln.toInt) := by
                  have := (h_a1).1; have := (h_a1).2; have := (h_fa).1; have := (h_fa).2; have := (h_ln).1; have := (h_ln).2; have := (h_pa).1; have := (h_pa).2; have := (h10).1; have := (h10).2; have := (h125).1; have := (h125).2; have := (h127).1; have := (h127).2; have := (h12).1; have := (h12).2; have := (h_x25).1; have := (h_x25).2; have := (h39).1; have := (h39).2; have := (h60).1; have := (h60).2; have := (h75).1; have := (h75).2; omega
                have hm136 : 400 - x134.toInt < (n_20 : Int) := by
                  have := (h_a1).1; have := (h_a1).2; have := (h_fa).1; have := (h_fa).2; have := (h_ln).1; have := (h_ln).2; have := (h_pa).1; have := (h_pa).2; have := (h132).1; have := (h132).2; have := (h45).1; have := (h45).2; omega
                exact ih_20 x110 1 x134 x126 x128 M121 R21 J120 H locs _ h_x110 (iv_mono (iv_c (c := 1) (n := 1) (by decide)) (by decide) (by decide)) (iv_mono h132 (by decide) (by decide)) h125 k129 h127 k130 w135 hm136 hS (lv_sub hl [1, 2, 0, 4, 5] rfl)
            · have q137 : x69.toInt = 0 := ti_eq c76
              have h138 : iv 0 0 x69 := ⟨by have := (h_x69).1; have := ((iv_c (c := 0) (n := 0) (by decide))).1; omega, by have := (h_x69).2; have := ((iv_c (c := 0) (n := 0) (by decide))).2; omega⟩
              refine lv_aload_n hx hb dX8_test_49 rfl (lv_at hl 4 rfl) ?_
              refine tw_gov hS (md_runU (As := []) (rest := []) hx hb hml hown hW hK hT hS.1 (t_X10_passWord l D cy tx base Z K N M66 R21 J65 hS.2.1 a0 hz_a0 hk_a0 x72 k73 (iv_mono h75 (by decide) (by decide))) s_X8_43_X8 ⟨rfl, rfl, ⟨by simp only [md_rm]; omega, by simp only [md_rm]; omega⟩, ⟨Nat.le_of_ble_eq_true rfl, Nat.le_of_ble_eq_true rfl⟩⟩ hz_a0 hk_a0 (by decide) rfl rfl hl.1 rfl (Nat.le_of_ble_eq_true rfl) dX8_test_50) rfl rfl (fun H locs M142 R143 J141 hS f139 g140 E144 => ?_)
              have eR143 := Fr.nil g140 rfl
              subst eR143
              have p145 := E144
              clear E144
              have k146 : M142 a0 2 = x72 := p145
              refine lv_aload_n hx hb dX8_test_53 rfl (lv_at hl 4 rfl) ?_
              refine lv_bipush (v := 12) hx hb dX8_test_54 (by decide) ?_
              refine lv_iconst (v := 0) hx hb dX8_test_56 (by decide) ?_
              refine tw_goi hS (md_runV (As := [.int 12, .int 0]) (rest := []) hx hb hml hown hW hK hT hS.1 (t_X8_put l D cy tx base Z K N M142 R21 J141 hS.2.1 a0 hz_a0 hk_a0 12 (iv_mono (iv_c (c := 12) (n := 12) (by decide)) (by decide) (by decide)) 0 (iv_mono (iv_c (c := 0) (n := 0) (by decide)) (by decide) (by decide))) s_X8_54 ⟨rfl, rfl, ⟨by simp only [md_rm]; omega, by simp only [md_rm]; omega⟩, ⟨Nat.le_of_ble_eq_true rfl, Nat.le_of_ble_eq_true rfl⟩⟩ hz_a0 hk_a0 (by decide) rfl rfl hl.1 rfl (Nat.le_of_ble_eq_true rfl) dX8_test_57) rfl rfl (fun x153 H locs M150 R151 J149 hS f147 g148 E152 => ?_)
              have eR151 := Fr.nil g148 rfl
              subst eR151
              have h_x153 := E152
              clear E152
              refine lv_istore (lv' := [(6, .int x153), (5, .int x69), (2, .int x17), (3, .int x18), (4, .int x19), (0, .ref (base + a0)), (1, .int a1)]) hx hb dX8_test_60 hl (by decide) rfl (fun ls hl => ?_)
              refine lv_aload_n hx hb dX8_test_62 rfl (lv_at hl 5 rfl) ?_
              refine lv_iload_n hx hb dX8_test_63 rfl (lv_at hl 6 rfl) ?_
              have k154 : R21 a0 0 = some tb := (Fr.kp (k := 0) g24 hk_a0 rfl).trans k_tb
              have k155 : M150 a0 1 = ln := ((Fr.kp (k := 1) f147 hk_a0 rfl).trans ((Fr.kp (k := 1) f139 hk_a0 rfl).trans ((Fr.kp (k := 1) f63 hk_a0 rfl).trans ((Fr.kp (k := 1) f48 hk_a0 rfl).trans (Fr.kp (k := 1) f23 hk_a0 rfl))))).trans k_ln
              have k156 : M150 a0 2 = x72 := (Fr.kp (k := 2) f147 hk_a0 rfl).trans k146
              have h157 : iv 0 400 x72 := by
                have := (h_a1).1; have := (h_a1).2; have := (h_fa).1; have := (h_fa).2; have := (h_ln).1; have := (h_ln).2; have := (h_pa).1; have := (h_pa).2; have := (h10).1; have := (h10).2; have := (h12).1; have := (h12).2; have := (h_x25).1; have := (h_x25).2; have := (h39).1; have := (h39).2; have := (h60).1; have := (h60).2; have := (h75).1; have := (h75).2; exact ⟨by omega, by omega⟩
              have k158 : M150 a0 3 = x27 := ((Fr.kp (k := 3) f147 hk_a0 rfl).trans ((Fr.kp (k := 3) f139 hk_a0 rfl).trans ((Fr.kp (k := 3) f63 hk_a0 rfl).trans (Fr.kp (k := 3) f48 hk_a0 rfl)))).trans k28
              have q159 : x72.toInt ≤ ln.toInt := by
                have := (h_a1).1; have := (h_a1).2; have := (h_fa).1; have := (h_fa).2; have := (h_ln).1; have := (h_ln).2; have := (h_pa).1; have := (h_pa).2; have := (h10).1; have := (h10).2; have := (h12).1; have := (h12).2; have := (h_x25).1; have := (h_x25).2; have := (h39).1; have := (h39).2; have := (h60).1; have := (h60).2; have := (h75).1; have := (h75).2; omega
              have hm160 : 10 - a1.toInt < (d : Int) := by
                have := (h_a1).1; have := (h_a1).2; have := (h_fa).1; have := (h_fa).2; have := (h_ln).1; have := (h_ln).2; have := (h_pa).1; have := (h_pa).2; have := (h10).1; have := (h10).2; have := (h12).1; have := (h12).2; have := (h_x25).1; have := (h_x25).2; have := (h39).1; have := (h39).2; have := (h60).1; have := (h60).2; have := (h75).1; have := (h75).2; omega
              refine tw_gov hS (md_runV (As := [.int a1]) (rest := []) hx hb hml hown hW hK hT hS.1 (ih M150 R21 J149 hS.2.1 a0 hz_a0 hk_a0 a1 h_a1 tb k154 ln k155 (iv_mono h_ln (by decide) (by decide)) x72 k156 h157 x27 k158 (iv_mono h39 (by decide) (by decide)) q159 hm160) s_X8_75 ⟨rfl, rfl, ⟨by simp only [md_rm]; omega, by simp only [md_rm]; omega⟩, ⟨Nat.le_of_ble_eq_true rfl, Nat.le_of_ble_eq_true rfl⟩⟩ hz_a0 hk_a0 (by decide) rfl rfl hl.1 rfl (Nat.le_of_ble_eq_true rfl) dX8_test_64) rfl rfl (fun H locs M164 R165 J163 hS f161 g162 E166 => ?_)
              have eR165 := Fr.nil g162 rfl
              subst eR165
              have p167 := E166
              clear E166
              obtain ⟨x169, x171, k172, k173, h168, h170, q174⟩ := p167
              have k172 : M164 a0 2 = x169 := k172
              have k173 : M164 a0 3 = x171 := k173
              refine lv_aload_n hx hb dX8_test_67 rfl (lv_at hl 5 rfl) ?_
              refine lv_iload hx hb dX8_test_68 (lv_at hl 0 rfl) ?_
              refine tw_gov hS (md_runV (As := [.int x153]) (rest := []) hx hb hml hown hW hK hT hS.1 (t_X8_aim l D cy tx base Z K N M164 R21 J163 hS.2.1 a0 hz_a0 hk_a0 x153 h_x153) s_X8_58 ⟨rfl, rfl, ⟨by simp only [md_rm]; omega, by simp only [md_rm]; omega⟩, ⟨Nat.le_of_ble_eq_true rfl, Nat.le_of_ble_eq_true rfl⟩⟩ hz_a0 hk_a0 (by decide) rfl rfl hl.1 rfl (Nat.le_of_ble_eq_true rfl) dX8_test_70) rfl rfl (fun H locs M178 R179 J177 hS f175 g176 E180 => ?_)
              have eR179 := Fr.nil g176 rfl
              subst eR179
              refine lv_goto (tgt := 116) hx hb dX8_test_73 (by decide) ?_
              refine tw_iinc (lv' := fun x183 => [(4, .int x183), (6, .int x153), (5, .int x69), (2, .int x17), (3, .int x18), (0, .ref (base + a0)), (1, .int a1)]) (lo := 1) (hi := 400) hx hb dX8_test_116 hl (k := 4) rfl h45 (by decide) ⟨by decide, by decide⟩ ⟨by decide, by decide⟩ (by decide) (fun _ => rfl) (fun x183 ls e182 h181 hl => ?_)
              refine lv_goto (tgt := 12) hx hb dX8_test_119 (by decide) ?_
              have k184 : M178 a0 2 = x169 := (Fr.kp (k := 2) f175 hk_a0 rfl).trans k172
              have k185 : M178 a0 3 = x171 := (Fr.kp (k := 3) f175 hk_a0 rfl).trans k173
              have w186 : x169.toInt ≤ 420 - a1.toInt ∧ (¬ x171.toInt = 0 ∨ x169.toInt ≤ ln.toInt) := by
                have := (h_a1).1; have := (h_a1).2; have := (h_fa).1; have := (h_fa).2; have := (h_ln).1; have := (h_ln).2; have := (h_pa).1; have := (h_pa).2; have := (h10).1; have := (h10).2; have := (h12).1; have := (h12).2; have := (h168).1; have := (h168).2; have := (h170).1; have := (h170).2; have := (h_x25).1; have := (h_x25).2; have := (h39).1; have := (h39).2; have := (h60).1; have := (h60).2; have := (h75).1; have := (h75).2; omega
              have hm187 : 400 - x183.toInt < (n_20 : Int) := by
                have := (h_a1).1; have := (h_a1).2; have := (h_fa).1; have := (h_fa).2; have := (h_ln).1; have := (h_ln).2; have := (h_pa).1; have := (h_pa).2; have := (h181).1; have := (h181).2; have := (h45).1; have := (h45).2; omega
              exact ih_20 x17 x18 x183 x169 x171 M178 R21 J177 H locs _ h_x17 (iv_mono h34 (by decide) (by decide)) (iv_mono h181 (by decide) (by decide)) h168 k184 h170 k185 w186 hm187 hS (lv_sub hl [3, 4, 0, 5, 6] rfl)
  have w188 : x11.toInt ≤ 420 - a1.toInt ∧ (¬ x13.toInt = 0 ∨ x11.toInt ≤ ln.toInt) := by
    have := (h_a1).1; have := (h_a1).2; have := (h_fa).1; have := (h_fa).2; have := (h_ln).1; have := (h_ln).2; have := (h_pa).1; have := (h_pa).2; have := (h10).1; have := (h10).2; have := (h12).1; have := (h12).2; omega
  have hm189 : 400 - (0 : Int32).toInt < (((401 : Nat) : Int) : Int) := by
    have := (h_a1).1; have := (h_a1).2; have := (h_fa).1; have := (h_fa).2; have := (h_ln).1; have := (h_ln).2; have := (h_pa).1; have := (h_pa).2; have : (0 : Int32).toInt = 0 := (by decide); omega
  exact W12_20 401 (-1) 1 0 x11 x13 M6 Ra J5 H locs _ (iv_mono (iv_c (c := (-1)) (n := (-1)) (by decide)) (by decide) (by decide)) (iv_mono (iv_c (c := 1) (n := 1) (by decide)) (by decide) (by decide)) (iv_mono (iv_c (c := 0) (n := 0) (by decide)) (by decide) (by decide)) h10 k14 h12 k15 w188 hm189 hS (lv_sub hl [2, 1, 0, 3, 4] rfl)
def Lt_X8_weigh : WL := [(9, 3, 4), (9, 7, 8)]
def LRt_X8_weigh : WL := []
set_option maxRecDepth 100000 in
set_option maxHeartbeats 4000000 in
theorem t_X8_weigh (l : Launch) (D : va_G) (cy : Nat → ClassId) (tx : (Nat → Nat) × (Nat → Nat)) (base Z : Nat) (K N : Nat → Nat) (Ma : MT) (Ra : RT) (Ja : JT) (hTy : Ty Z K N Ma Ra) (a0 : Nat) (hz_a0 : a0 < Z) (hk_a0 : K a0 = 9) (a1 : Int32) (h_a1 : iv 0 1000 a1) (fa : Int32) (k_fa : Ma a0 3 = fa) (h_fa : iv (-2147483648) 2147483647 fa) : Met l yX8_weigh [Cond.code yX8_weigh cX8_weigh 2 none] (md_rm 2 0 0) (va_Pc [.ref (base + a0), .int a1] (md_U D cy tx base Z K N Ma Ra Ja)) (mQv D cy tx base (fun u => TP Z K N Lt_X8_weigh LRt_X8_weigh Ma Ra u ∧ ((∃ x0 : Int32, u.2.2.2.1 a0 3 = x0 ∧ iv (-2147483648) 2147483647 x0 ∧ (¬ x0.toInt = 0 ∨ fa.toInt = 0))))) 0 0 (fun q => base ≤ q) := by
  refine tw_ofW (L := Lt_X8_weigh) (LR := LRt_X8_weigh) (by decide) (Nat.le_of_ble_eq_true rfl) hTy ?_
  intro p e s m args below meth c Q ls hx hb hr hlocks hown hml hW hK hT hS hQ hl
  have hl : lv_has ls 2 [(0, .ref (base + a0)), (1, .int a1)] := hl
  refine lv_aload_n hx hb dX8_weigh_0 rfl (lv_at hl 0 rfl) ?_
  refine lv_dup hx hb dX8_weigh_1 rfl ?_
  refine tw_geti hx hb hW hown hK hS f_X8_23_8 hz_a0 hk_a0 (lo := (-2147483648)) (hi := 2147483647) rfl dX8_weigh_2 (fun x3 k2 h1 => ?_)
  refine lv_iconst (v := 1) hx hb dX8_weigh_5 (by decide) ?_
  refine lv_iadd hx hb dX8_weigh_6 ?_
  refine tw_top (fun x5 => ?_)
  have h4 := iv_any x5
  refine tw_puti hx hb hW hown hK hS f_X8_23_8 hz_a0 hk_a0 rfl rfl (lo := (-2147483648)) (hi := 2147483647) rfl h4 rfl dX8_weigh_7 (fun H locs M8 hS k6 f7 => ?_)
  refine lv_aload_n hx hb dX8_weigh_10 rfl (lv_at hl 0 rfl) ?_
  refine tw_getk hx hb hW hown hK hS f_X8_23_8 hz_a0 hk_a0 (v := x5) k6 dX8_weigh_11 ?_
  refine lv_bipush (v := 60) hx hb dX8_weigh_14 (by decide) ?_
  refine lv_icmp_le (tgt := 25) hx hb dX8_weigh_16 (by decide) (fun c9 => ?_) (fun c9 => ?_)
  · have q10 : x5.toInt ≤ 60 := ti_le c9
    have h11 : iv (-2147483648) 60 x5 := iv_leL (y := 60) h4 (iv_c (c := 60) (n := 60) (by decide)) q10 (by decide)
    have k12 : M8 a0 3 = fa := (Fr.kp (k := 3) f7 hk_a0 rfl).trans k_fa
    have q13 : ¬ fa.toInt = 0 ∨ fa.toInt = 0 := by
      have := (h_a1).1; have := (h_a1).2; have := (h_fa).1; have := (h_fa).2; omega
    exact tw_endv hx hb hr hlocks hK hT hS hQ (⟨fa, k12, h_fa, q13⟩) dX8_weigh_25
  · have q14 : 60 < x5.toInt := ti_nle c9
    have h15 : iv 61 2147483647 x5 := iv_gtL (y := 60) h4 (iv_c (c := 60) (n := 60) (by decide)) q14 (by decide)
    refine lv_aload_n hx hb dX8_weigh_19 rfl (lv_at hl 0 rfl) ?_
    refine lv_iload_n hx hb dX8_weigh_20 rfl (lv_at hl 1 rfl) ?_
    refine lv_iconst (v := 3) hx hb dX8_weigh_21 (by decide) ?_
    refine tw_gov hS (md_runU (As := [.int a1, .int 3]) (rest := []) hx hb hml hown hW hK hT hS.1 (t_X10_fail l D cy tx base Z K N M8 Ra Ja hS.2.1 a0 hz_a0 hk_a0 a1 h_a1 3 (iv_mono (iv_c (c := 3) (n := 3) (by decide)) (by decide) (by decide))) s_X8_39_X8 ⟨rfl, rfl, ⟨Nat.le_of_ble_eq_true rfl, Nat.le_of_ble_eq_true rfl⟩, ⟨Nat.le_of_ble_eq_true rfl, Nat.le_of_ble_eq_true rfl⟩⟩ hz_a0 hk_a0 (by decide) rfl rfl hl.1 rfl (Nat.le_of_ble_eq_true rfl) dX8_weigh_22) rfl rfl (fun H locs M19 R20 J18 hS f16 g17 E21 => ?_)
    have eR20 := Fr.nil g17 rfl
    subst eR20
    have p22 := E21
    clear E21
    obtain ⟨x24, k25, h23, q26⟩ := p22
    have k25 : M19 a0 3 = x24 := k25
    have q27 : ¬ x24.toInt = 0 ∨ fa.toInt = 0 := by
      have := (h_a1).1; have := (h_a1).2; have := (h_fa).1; have := (h_fa).2; have := (h23).1; have := (h23).2; omega
    exact tw_endv hx hb hr hlocks hK hT hS hQ (⟨x24, k25, h23, q27⟩) dX8_weigh_25
