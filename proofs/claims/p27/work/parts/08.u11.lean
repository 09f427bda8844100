def Lt_X12_throwsVotes : WL := [(12, 23, 24), (12, 28, 29), (12, 30, 33), (12, 43, 44), (14, 0, 2000000), (30, 0, 2000000), (31, 0, 2000000), (36, 0, 2000000), (41, 0, 2000000)]
def LRt_X12_throwsVotes : WL := []
set_option maxRecDepth 100000 in
set_option maxHeartbeats 4000000 in
theorem t_X12_throwsVotes (l : Launch) (D : va_G) (cy : Nat → ClassId) (tx : (Nat → Nat) × (Nat → Nat)) (base Z : Nat) (K N : Nat → Nat) (Ma : MT) (Ra : RT) (Ja : JT) (hTy : Ty Z K N Ma Ra) (a0 : Nat) (hz_a0 : a0 < Z) (hk_a0 : K a0 = 12) (a1 : Int32) (h_a1 : iv (-2147483648) 2147483647 a1) (co_a0 : Codes Ma Ra a0) (sd : Nat) (k_sd : Ra a0 25 = some sd) (e4 : Int32) (k_e4 : Ma sd (4 : Int32).toNatClampNeg = e4) (h_e4 : iv 1 4 e4) (fg : Nat) (k_fg : Ra a0 38 = some fg) : Met l yX12_throwsVotes [Cond.code yX12_throwsVotes cX12_throwsVotes 5 none] (md_rm 6 0 0) (va_Pc [.ref (base + a0), .int a1] (md_U D cy tx base Z K N Ma Ra Ja)) (mQv D cy tx base (fun u => TP Z K N Lt_X12_throwsVotes LRt_X12_throwsVotes Ma Ra u ∧ (True))) 0 0 (fun q => base ≤ q) := by
  refine tw_ofW (L := Lt_X12_throwsVotes) (LR := LRt_X12_throwsVotes) (by decide) (Nat.le_of_ble_eq_true rfl) hTy ?_
  intro p e s m args below meth c Q ls hx hb hr hlocks hown hml hW hK hT hS hQ hl
  have hl : lv_has ls 5 [(0, .ref (base + a0)), (1, .int a1)] := hl
  obtain ⟨hz_sd, hk_sd, hn_sd⟩ := hTy.refn hz_a0 hk_a0 (show rtR 12 25 = (23, 226, 0) from rfl) k_sd
  have hn_sd := hn_sd (by decide)
  obtain ⟨hz_fg, hk_fg, hn_fg⟩ := hTy.refn hz_a0 hk_a0 (show rtR 12 38 = (41, 5, 0) from rfl) k_fg
  have hn_fg := hn_fg (by decide)
  refine lv_aload_n hx hb dX12_throwsVotes_0 rfl (lv_at hl 0 rfl) ?_
  refine tw_gov hS (md_runV (As := []) (rest := []) hx hb hml hown hW hK hT hS.1 (t_X12_begins l D cy tx base Z K N Ma Ra Ja hS.2.1 a0 hz_a0 hk_a0 sd k_sd e4 k_e4 (iv_mono h_e4 (by decide) (by decide))) s_X12_393 ⟨rfl, rfl, ⟨Nat.le_of_ble_eq_true rfl, Nat.le_of_ble_eq_true rfl⟩, ⟨Nat.le_of_ble_eq_true rfl, Nat.le_of_ble_eq_true rfl⟩⟩ hz_a0 hk_a0 (by decide) rfl rfl hl.1 rfl (Nat.le_of_ble_eq_true rfl) dX12_throwsVotes_1) rfl rfl (fun H locs M4 R5 J3 hS f1 g2 E6 => ?_)
  have eR5 := Fr.nil g2 rfl
  subst eR5
  have p7 := E6
  clear E6
  have k8 : M4 a0 30 = e4 := p7
  refine lv_aload_n hx hb dX12_throwsVotes_4 rfl (lv_at hl 0 rfl) ?_
  refine lv_iconst (v := (-1)) hx hb dX12_throwsVotes_5 (by decide) ?_
  refine tw_puti hx hb hW hown hK hS f_X12_431_11 hz_a0 hk_a0 rfl rfl (lo := (-2147483648)) (hi := 2147483647) rfl (iv_mono (iv_c (c := (-1)) (n := (-1)) (by decide)) (by decide) (by decide)) rfl dX12_throwsVotes_6 (fun H locs M11 hS k9 f10 => ?_)
  refine lv_iconst (v := 0) hx hb dX12_throwsVotes_9 (by decide) ?_
  refine lv_istore_n (lv' := [(2, .int 0), (0, .ref (base + a0)), (1, .int a1)]) hx hb dX12_throwsVotes_10 rfl hl (by decide) rfl (fun ls hl => ?_)
  refine lv_aload_n hx hb dX12_throwsVotes_11 rfl (lv_at hl 1 rfl) ?_
  refine tw_getr hx hb hW hown hK hS f_X12_69_11 hz_a0 hk_a0 (t := 14) (n := 6) rfl dX12_throwsVotes_12 (fun b12 k13 hz_b12 hk_b12 hn_b12 => ?_)
  have hn_b12 := hn_b12 (by decide)
  refine lv_iconst (v := 0) hx hb dX12_throwsVotes_15 (by decide) ?_
  refine lv_iconst (v := 0) hx hb dX12_throwsVotes_16 (by decide) ?_
  refine tw_iast hx hb hK hS hz_b12 hk_b12 (Or.inl rfl) hn_b12 (iv_c (c := 0) (n := 0) (by decide)) ⟨by decide, by decide⟩ (iv_c (c := 0) (n := 0) (by decide)) (rg_s14 ⟨by decide, by decide⟩) (jl := 0) (jh := 1999999) ⟨by decide, by decide⟩ rfl dX12_throwsVotes_17 (fun H locs M16 hS k14 f15 => ?_)
  refine lv_aload_n hx hb dX12_throwsVotes_18 rfl (lv_at hl 1 rfl) ?_
  refine lv_iconst (v := 0) hx hb dX12_throwsVotes_19 (by decide) ?_
  refine tw_gov hS (md_runV (As := [.int 0]) (rest := []) hx hb hml hown hW hK hT hS.1 (t_X12_comesTo l D cy tx base Z K N M16 Ra J3 hS.2.1 a0 hz_a0 hk_a0 0 (iv_mono (iv_c (c := 0) (n := 0) (by decide)) (by decide) (by decide)) (Codes.fr co_a0 hTy hz_a0 hk_a0 hS.2.2.1 hS.2.2.2 rfl) fg k_fg) s_X12_434 ⟨rfl, rfl, ⟨Nat.le_of_ble_eq_true rfl, Nat.le_of_ble_eq_true rfl⟩, ⟨Nat.le_of_ble_eq_true rfl, Nat.le_of_ble_eq_true rfl⟩⟩ hz_a0 hk_a0 (by decide) rfl rfl hl.1 rfl (Nat.le_of_ble_eq_true rfl) dX12_throwsVotes_20) rfl rfl (fun H locs M20 R21 J19 hS f17 g18 E22 => ?_)
  have eR21 := Fr.nil g18 rfl
  subst eR21
  have p23 := E22
  clear E22
  have W23_25 : ∀ (n_25 : Nat) (x24 : Int32) (x30 : Int32) (M25 : MT) (R26 : RT) (J27 : JT) (H : Heap) (locs : List Loc) (ls : Array Slot) (h_x24 : iv (-1) 3 x24) (h_x30 : iv 1 4 x30) (k31 : M25 a0 30 = x30) (w0_25 : x30.toInt = e4.toInt ∧ x24.toInt < x30.toInt) (w1_25 : figI M25 fg (figG a1) x24.toInt) (hm_25 : muT M25 fg (figG a1) x24.toInt < (n_25 : Int)) (hS : SB D cy base Z K N Lt_X12_throwsVotes LRt_X12_throwsVotes Ma Ra M25 R26 J27 s H locs) (hl : lv_has ls 5 [(2, .int x24), (0, .ref (base + a0)), (1, .int a1)]), W p l e (md_rm 6 0 0) s m args below meth c H locs 0 0 Q (F0 m 23 ls []) := by
    intro n_25
    induction n_25 with
    | zero =>
      intro x24 x30 M25 R26 J27 H locs ls h_x24 h_x30 k31 w0_25 w1_25 hm_25 hS hl
      exfalso
      have := mu_pos w1_25; omega
    | succ n_25 ih_25 =>
      intro x24 x30 M25 R26 J27 H locs ls h_x24 h_x30 k31 w0_25 w1_25 hm_25 hS hl
      have f28 := hS.2.2.1
      have g29 := hS.2.2.2
      refine lv_iload_n hx hb dX12_throwsVotes_23 rfl (lv_at hl 0 rfl) ?_
      refine lv_if_lt (tgt := 189) hx hb dX12_throwsVotes_24 (by decide) (fun c32 => ?_) (fun c32 => ?_)
      · have q33 : x24.toInt < 0 := ti_lt c32
        have h34 : iv (-1) (-1) x24 := iv_ltL (y := 0) h_x24 (iv_c (c := 0) (n := 0) (by decide)) q33 (by decide)
        exact tw_endv hx hb hr hlocks hK hT hS hQ (trivial) dX12_throwsVotes_189
      · have q35 : 0 ≤ x24.toInt := ti_nlt c32
        have h36 : iv 0 3 x24 := iv_geL (y := 0) h_x24 (iv_c (c := 0) (n := 0) (by decide)) q35 (by decide)
        refine lv_aload_n hx hb dX12_throwsVotes_27 rfl (lv_at hl 1 rfl) ?_
        have k37 : R26 a0 38 = some fg := (Fr.kp (k := 38) g29 hk_a0 rfl).trans k_fg
        refine tw_getrk hx hb hW hown hK hS f_X12_66_11 hz_a0 hk_a0 (b := fg) k37 dX12_throwsVotes_28 ?_
        refine lv_iload_n hx hb dX12_throwsVotes_31 rfl (lv_at hl 0 rfl) ?_
        refine lv_dup2_11 hx hb dX12_throwsVotes_32 rfl rfl ?_
        refine tw_iald hx hb hK hS hz_fg hk_fg (Or.inr (by decide)) hn_fg (lo := (-1)) (hi := 27) h36 ⟨by decide, by decide⟩ rg_u41 dX12_throwsVotes_33 (fun x40 k39 h38 => ?_)
        refine lv_iconst (v := 1) hx hb dX12_throwsVotes_34 (by decide) ?_
        refine tw_iadd (lo := 0) (hi := 28) hx hb h38 (iv_c (c := 1) (n := 1) (by decide)) ⟨by decide, by decide⟩ ⟨by decide, by decide⟩ dX12_throwsVotes_35 (fun x43 e42 h41 => ?_)
        have e42 : x43.toInt = x40.toInt + 1 := e42
        have zi47 := ti_cl (x := x24) (by have := (h36).1; omega); have zF47 := figG_r a1
        have zw47 := w1_25 x24.toNatClampNeg (by omega)
        rw [k39] at zw47
        refine tw_iasx hx hb hK hS hz_fg hk_fg (Or.inr (by decide)) hn_fg h36 ⟨by decide, by decide⟩ (show okI 41 _ x43 from ⟨show (-1 : Int) ≤ x43.toInt by omega, show x43.toInt ≤ (27 : Int) by omega⟩) (jl := 0) (jh := 1999999) ⟨by decide, by decide⟩ rfl dX12_throwsVotes_36 (fun H locs M47 hS k44 f45 e46 => ?_)
        have z48 : ∀ k : Nat, (k : Int) < x24.toInt → M47 fg k = M25 fg k := fun k hk => by rw [e46]; exact u2_nk (by omega)
        have z49 : ∀ k : Nat, (k : Int) = x24.toInt → (M47 fg k).toInt = (M25 fg k).toInt + 1 := fun k hk => by rw [show k = x24.toNatClampNeg by omega, e46, u2_same, k39]; omega
        refine lv_aload_n hx hb dX12_throwsVotes_37 rfl (lv_at hl 1 rfl) ?_
        have k50 : R26 a0 38 = some fg := (Fr.kp (k := 38) g29 hk_a0 rfl).trans k_fg
        refine tw_getrk hx hb hW hown hK hS f_X12_66_11 hz_a0 hk_a0 (b := fg) k50 dX12_throwsVotes_38 ?_
        refine lv_iload_n hx hb dX12_throwsVotes_41 rfl (lv_at hl 0 rfl) ?_
        refine tw_ialk hx hb hK hS hz_fg hk_fg (Or.inr (by decide)) hn_fg h36 ⟨by decide, by decide⟩ (v := x43) k44 dX12_throwsVotes_42 ?_
        refine lv_aload_n hx hb dX12_throwsVotes_43 rfl (lv_at hl 1 rfl) ?_
        refine lv_iload_n hx hb dX12_throwsVotes_44 rfl (lv_at hl 2 rfl) ?_
        refine tw_goi hS (md_runV (As := [.int a1]) (rest := [.int x43]) hx hb hml hown hW hK hT hS.1 (t_X12_figures l D cy tx base Z K N M47 R26 J27 hS.2.1 a0 hz_a0 hk_a0 a1 h_a1) s_X12_437 ⟨rfl, rfl, ⟨Nat.le_of_ble_eq_true rfl, Nat.le_of_ble_eq_true rfl⟩, ⟨Nat.le_of_ble_eq_true rfl, Nat.le_of_ble_eq_true rfl⟩⟩ hz_a0 hk_a0 (by decide) rfl rfl hl.1 rfl (Nat.le_of_ble_eq_true rfl) dX12_throwsVotes_45) rfl rfl (fun x57 H locs M54 R55 J53 hS f51 g52 E56 => ?_)
        have eM54 := Fr.nil f51 rfl
        subst eM54
        have eR55 := Fr.nil g52 rfl
        subst eR55
        obtain ⟨h_x57, p58⟩ := E56
        refine lv_icmp_ne (tgt := 57) hx hb dX12_throwsVotes_48 (by decide) (fun c59 => ?_) (fun c59 => ?_)
        · have q60 : ¬ x43.toInt = x57.toInt := ti_ne c59
          refine lv_aload_n hx hb dX12_throwsVotes_57 rfl (lv_at hl 1 rfl) ?_
          refine lv_iload_n hx hb dX12_throwsVotes_58 rfl (lv_at hl 0 rfl) ?_
          refine tw_gov hS (md_runV (As := [.int x24]) (rest := []) hx hb hml hown hW hK hT hS.1 (t_X12_returnsTo l D cy tx base Z K N M47 R26 J53 hS.2.1 a0 hz_a0 hk_a0 x24 h36) s_X12_440 ⟨rfl, rfl, ⟨Nat.le_of_ble_eq_true rfl, Nat.le_of_ble_eq_true rfl⟩, ⟨Nat.le_of_ble_eq_true rfl, Nat.le_of_ble_eq_true rfl⟩⟩ hz_a0 hk_a0 (by decide) rfl rfl hl.1 rfl (Nat.le_of_ble_eq_true rfl) dX12_throwsVotes_59) rfl rfl (fun H locs M64 R65 J63 hS f61 g62 E66 => ?_)
          have eR65 := Fr.nil g62 rfl
          subst eR65
          refine lv_aload_n hx hb dX12_throwsVotes_62 rfl (lv_at hl 1 rfl) ?_
          have k67 : R26 a0 39 = some b12 := (Fr.kp (k := 39) g29 hk_a0 rfl).trans k13
          refine tw_getrk hx hb hW hown hK hS f_X12_69_11 hz_a0 hk_a0 (b := b12) k67 dX12_throwsVotes_63 ?_
          refine lv_iload_n hx hb dX12_throwsVotes_66 rfl (lv_at hl 0 rfl) ?_
          refine tw_iald hx hb hK hS hz_b12 hk_b12 (Or.inl rfl) hn_b12 (lo := (-2147483648)) (hi := 2147483647) h36 ⟨by decide, by decide⟩ rg_u14 dX12_throwsVotes_67 (fun x70 k69 h68 => ?_)
          refine lv_aload_n hx hb dX12_throwsVotes_68 rfl (lv_at hl 1 rfl) ?_
          refine lv_iload_n hx hb dX12_throwsVotes_69 rfl (lv_at hl 2 rfl) ?_
          refine lv_aload_n hx hb dX12_throwsVotes_70 rfl (lv_at hl 1 rfl) ?_
          have k71 : R26 a0 38 = some fg := (Fr.kp (k := 38) g29 hk_a0 rfl).trans k_fg
          refine tw_getrk hx hb hW hown hK hS f_X12_66_11 hz_a0 hk_a0 (b := fg) k71 dX12_throwsVotes_71 ?_
          refine lv_iload_n hx hb dX12_throwsVotes_74 rfl (lv_at hl 0 rfl) ?_
          have k72 : M64 fg x24.toNatClampNeg = x43 := (Fr.kpa f61 hk_fg rfl x24.toNatClampNeg).trans k44
          refine tw_ialk hx hb hK hS hz_fg hk_fg (Or.inr (by decide)) hn_fg h36 ⟨by decide, by decide⟩ (v := x43) k72 dX12_throwsVotes_75 ?_
          refine lv_aload_n hx hb dX12_throwsVotes_76 rfl (lv_at hl 1 rfl) ?_
          refine tw_getr hx hb hW hown hK hS f_X12_54_11 hz_a0 hk_a0 (t := 31) (n := 8) rfl dX12_throwsVotes_77 (fun b73 k74 hz_b73 hk_b73 hn_b73 => ?_)
          have hn_b73 := hn_b73 (by decide)
          refine lv_iload_n hx hb dX12_throwsVotes_80 rfl (lv_at hl 0 rfl) ?_
          refine tw_iald hx hb hK hS hz_b73 hk_b73 (Or.inr (by decide)) hn_b73 (lo := 0) (hi := 11) h36 ⟨by decide, by decide⟩ rg_u31 dX12_throwsVotes_81 (fun x77 k76 h75 => ?_)
          refine tw_goi hS (md_runV (As := [.int a1, .int x43, .int x77]) (rest := [.int x70]) hx hb hml hown hW hK hT hS.1 (t_X12_putsAll l D cy tx base Z K N M64 R26 J63 hS.2.1 a0 hz_a0 hk_a0 a1 h_a1 x43 (iv_mono h41 (by decide) (by decide)) x77 h75) s_X12_443 ⟨rfl, rfl, ⟨Nat.le_of_ble_eq_true rfl, Nat.le_of_ble_eq_true rfl⟩, ⟨Nat.le_of_ble_eq_true rfl, Nat.le_of_ble_eq_true rfl⟩⟩ hz_a0 hk_a0 (by decide) rfl rfl hl.1 rfl (Nat.le_of_ble_eq_true rfl) dX12_throwsVotes_82) rfl rfl (fun x84 H locs M81 R82 J80 hS f78 g79 E83 => ?_)
          have eR82 := Fr.nil g79 rfl
          subst eR82
          have h_x84 := E83
          clear E83
          refine lv_iadd hx hb dX12_throwsVotes_85 ?_
          refine tw_top (fun x86 => ?_)
          have h85 := iv_any x86
          refine lv_istore_n (lv' := [(3, .int x86), (2, .int x24), (0, .ref (base + a0)), (1, .int a1)]) hx hb dX12_throwsVotes_86 rfl hl (by decide) rfl (fun ls hl => ?_)
          refine lv_aload_n hx hb dX12_throwsVotes_87 rfl (lv_at hl 2 rfl) ?_
          refine tw_geti hx hb hW hown hK hS f_X12_431_11 hz_a0 hk_a0 (lo := (-2147483648)) (hi := 2147483647) rfl dX12_throwsVotes_88 (fun x89 k88 h87 => ?_)
          refine lv_if_lt (tgt := 105) hx hb dX12_throwsVotes_91 (by decide) (fun c90 => ?_) (fun c90 => ?_)
          · have q91 : x89.toInt < 0 := ti_lt c90
            have h92 : iv (-2147483648) (-1) x89 := iv_ltL (y := 0) h87 (iv_c (c := 0) (n := 0) (by decide)) q91 (by decide)
            refine lv_iload_n hx hb dX12_throwsVotes_105 rfl (lv_at hl 1 rfl) ?_
            refine lv_aload_n hx hb dX12_throwsVotes_106 rfl (lv_at hl 2 rfl) ?_
            have k93 : M81 a0 30 = x30 := ((Fr.kp (k := 30) f78 hk_a0 rfl).trans ((Fr.kp (k := 30) f61 hk_a0 rfl).trans (Fr.kp (k := 30) f45 hk_a0 rfl))).trans k31
            refine tw_getk hx hb hW hown hK hS f_X12_351_11 hz_a0 hk_a0 (v := x30) k93 dX12_throwsVotes_107 ?_
            refine lv_iconst (v := 1) hx hb dX12_throwsVotes_110 (by decide) ?_
            refine tw_isub (lo := 0) (hi := 3) hx hb h_x30 (iv_c (c := 1) (n := 1) (by decide)) ⟨by decide, by decide⟩ ⟨by decide, by decide⟩ dX12_throwsVotes_111 (fun x96 e95 h94 => ?_)
            have e95 : x96.toInt = x30.toInt - 1 := e95
            refine lv_icmp_ne (tgt := 166) hx hb dX12_throwsVotes_112 (by decide) (fun c97 => ?_) (fun c97 => ?_)
            · have q98 : ¬ x24.toInt = x96.toInt := ti_ne c97
              refine lv_aload_n hx hb dX12_throwsVotes_166 rfl (lv_at hl 2 rfl) ?_
              refine tw_goi hS (md_runV (As := []) (rest := []) hx hb hml hown hW hK hT hS.1 (t_X12_settles_ l D cy tx base Z K N M81 R26 J80 hS.2.1 a0 hz_a0 hk_a0) s_X12_399 ⟨rfl, rfl, ⟨Nat.le_of_ble_eq_true rfl, Nat.le_of_ble_eq_true rfl⟩, ⟨Nat.le_of_ble_eq_true rfl, Nat.le_of_ble_eq_true rfl⟩⟩ hz_a0 hk_a0 (by decide) rfl rfl hl.1 rfl (Nat.le_of_ble_eq_true rfl) dX12_throwsVotes_167) rfl rfl (fun x105 H locs M102 R103 J101 hS f99 g100 E104 => ?_)
              have eR103 := Fr.nil g100 rfl
              subst eR103
              have h_x105 := E104
              clear E104
              refine lv_pop hx hb dX12_throwsVotes_170 rfl ?_
              refine tw_iinc (lv' := fun x108 => [(2, .int x108), (3, .int x86), (0, .ref (base + a0)), (1, .int a1)]) (lo := 1) (hi := 4) hx hb dX12_throwsVotes_171 hl (k := 1) rfl h36 (by decide) ⟨by decide, by decide⟩ ⟨by decide, by decide⟩ (by decide) (fun _ => rfl) (fun x108 ls e107 h106 hl => ?_)
              refine lv_aload_n hx hb dX12_throwsVotes_174 rfl (lv_at hl 2 rfl) ?_
              have k109 : R26 a0 39 = some b12 := (Fr.kp (k := 39) g29 hk_a0 rfl).trans k13
              refine tw_getrk hx hb hW hown hK hS f_X12_69_11 hz_a0 hk_a0 (b := b12) k109 dX12_throwsVotes_175 ?_
              refine lv_iload_n hx hb dX12_throwsVotes_178 rfl (lv_at hl 0 rfl) ?_
              refine lv_iload_n hx hb dX12_throwsVotes_179 rfl (lv_at hl 1 rfl) ?_
              refine tw_iast hx hb hK hS hz_b12 hk_b12 (Or.inl rfl) hn_b12 h106 ⟨by decide, by decide⟩ h85 (rg_s14 ⟨by decide, by decide⟩) (jl := 0) (jh := 1999999) ⟨by decide, by decide⟩ rfl dX12_throwsVotes_180 (fun H locs M112 hS k110 f111 => ?_)
              refine lv_aload_n hx hb dX12_throwsVotes_181 rfl (lv_at hl 2 rfl) ?_
              refine lv_iload_n hx hb dX12_throwsVotes_182 rfl (lv_at hl 0 rfl) ?_
              have h113 : iv 0 3 x108 := by
                have := (h_a1).1; have := (h_a1).2; have := (h_e4).1; have := (h_e4).2; have := (h106).1; have := (h106).2; have := (h36).1; have := (h36).2; have := (h_x30).1; have := (h_x30).2; have := (h94).1; have := (h94).2; exact ⟨by omega, by omega⟩
              have k114 : R26 a0 38 = some fg := (Fr.kp (k := 38) g29 hk_a0 rfl).trans k_fg
              refine tw_gov hS (md_runV (As := [.int x108]) (rest := []) hx hb hml hown hW hK hT hS.1 (t_X12_comesTo l D cy tx base Z K N M112 R26 J101 hS.2.1 a0 hz_a0 hk_a0 x108 h113 (Codes.fr co_a0 hTy hz_a0 hk_a0 hS.2.2.1 hS.2.2.2 rfl) fg k114) s_X12_434 ⟨rfl, rfl, ⟨Nat.le_of_ble_eq_true rfl, Nat.le_of_ble_eq_true rfl⟩, ⟨Nat.le_of_ble_eq_true rfl, Nat.le_of_ble_eq_true rfl⟩⟩ hz_a0 hk_a0 (by decide) rfl rfl hl.1 rfl (Nat.le_of_ble_eq_true rfl) dX12_throwsVotes_183) rfl rfl (fun H locs M118 R119 J117 hS f115 g116 E120 => ?_)
              have eR119 := Fr.nil g116 rfl
              subst eR119
              have p121 := E120
              clear E120
              have zi121 := ti_cl (x := x24) (by have := (h36).1; omega); have za121 := ti_cl (x := x108) (by have := (h106).1; omega)
              have z122 : ∀ k : Nat, (k : Int) < x24.toInt → M118 fg k = M25 fg k := fun k hk => (p121.1 k (by omega)).trans ((fun k hk => (Fr.kpa f111 hk_fg rfl k).trans ((fun k hk => (Fr.kpa f99 hk_fg rfl k).trans ((fun k hk => (Fr.kpa f78 hk_fg rfl k).trans ((fun k hk => (Fr.kpa f61 hk_fg rfl k).trans (z48 k hk)) k hk)) k hk)) k hk)) k hk)
              have z123 : ∀ k : Nat, (k : Int) = x24.toInt → (M118 fg k).toInt = (M25 fg k).toInt + 1 := fun k hk => by have q : M118 fg k = M112 fg k := p121.1 k (by omega); rw [q]; exact (fun (k : Nat) (hk : (k : Int) = x24.toInt) => (show (M112 fg k).toInt = (M25 fg k).toInt + 1 from by rw [Fr.kpa f111 hk_fg rfl k]; exact (fun (k : Nat) (hk : (k : Int) = x24.toInt) => (show (M102 fg k).toInt = (M25 fg k).toInt + 1 from by rw [Fr.kpa f99 hk_fg rfl k]; exact (fun (k : Nat) (hk : (k : Int) = x24.toInt) => (show (M81 fg k).toInt = (M25 fg k).toInt + 1 from by rw [Fr.kpa f78 hk_fg rfl k]; exact (fun (k : Nat) (hk : (k : Int) = x24.toInt) => (show (M64 fg k).toInt = (M25 fg k).toInt + 1 from by rw [Fr.kpa f61 hk_fg rfl k]; exact z49 k hk)) k hk)) k hk)) k hk)) k hk
              have z124 : ∀ k : Nat, (k : Int) = x108.toInt → (M118 fg k).toInt = -1 := fun k hk => by rw [show k = x108.toNatClampNeg by omega]; exact p121.2
              refine lv_goto (tgt := 23) hx hb dX12_throwsVotes_186 (by decide) ?_
              have h125 : iv (-1) 3 x108 := by
                have := (h_a1).1; have := (h_a1).2; have := (h_e4).1; have := (h_e4).2; have := (h106).1; have := (h106).2; have := (h36).1; have := (h36).2; have := (h_x30).1; have := (h_x30).2; have := (h94).1; have := (h94).2; exact ⟨by omega, by omega⟩
              have k126 : M118 a0 30 = x30 := ((Fr.kp (k := 30) f115 hk_a0 rfl).trans ((Fr.kp (k := 30) f111 hk_a0 rfl).trans (Fr.kp (k := 30) f99 hk_a0 rfl))).trans k93
              have w127 : x30.toInt = e4.toInt ∧ x108.toInt < x30.toInt := by
                have := (h_a1).1; have := (h_a1).2; have := (h_e4).1; have := (h_e4).2; have := (h106).1; have := (h106).2; have := (h36).1; have := (h36).2; have := (h_x30).1; have := (h_x30).2; have := (h94).1; have := (h94).2; exact ⟨by omega, by omega⟩
              have zS128 : ∀ k : Nat, (k : Int) < x24.toInt → M118 fg k = M25 fg k := z122
              have zP128 : ∀ k : Nat, (k : Int) = x24.toInt → (M118 fg k).toInt = (M25 fg k).toInt + 1 := z123
              have zT128 : ∀ k : Nat, (k : Int) = x24.toInt → -1 ≤ (M118 fg k).toInt ∧ (M118 fg k).toInt < figG a1 := fun k hk => by rw [zP128 k hk]; have q := w1_25 k (by omega); have q2 := zP128 k hk; rw [show k = x24.toNatClampNeg by (have := ti_cl (x := x24) (by have := (h36).1; omega); omega), k39] at q ⊢; exact ⟨by omega, by omega⟩
              have w128 : figI M118 fg (figG a1) x108.toInt := fun k hk => if h1 : (k : Int) < x24.toInt then (by rw [zS128 k (by omega)]; exact w1_25 k (by omega)) else if h2 : (k : Int) = x24.toInt then zT128 k h2 else (by rw [z124 k (by omega)]; have := figG_r a1; omega)
              have hm129 : muT M118 fg (figG a1) x108.toInt < (n_25 : Int) := (by have q := mu_dn (M := M25) (M1 := M118) (fg := fg) (F := figG a1) (p := x24.toInt) ⟨by have := (h36).1; omega, by have := (h_a1).2; have := (h_e4).2; have := (h106).2; have := (h36).2; have := (h_x30).2; have := (h94).2; omega⟩ (figG_r a1).2 zS128 zP128 (fun k hk => z124 k (by omega)); rw [show x108.toInt = x24.toInt + 1 by omega]; omega)
              exact ih_25 x108 x30 M118 R26 J117 H locs _ h125 h_x30 k126 w127 w128 hm129 hS (lv_sub hl [0, 2, 3] rfl)
            · have q130 : x24.toInt = x96.toInt := ti_eq c97
              refine lv_aload_n hx hb dX12_throwsVotes_115 rfl (lv_at hl 2 rfl) ?_
              refine tw_goi hS (md_runV (As := []) (rest := []) hx hb hml hown hW hK hT hS.1 (t_X12_result l D cy tx base Z K N M81 R26 J80 hS.2.1 a0 hz_a0 hk_a0) s_X12_383 ⟨rfl, rfl, ⟨Nat.le_of_ble_eq_true rfl, Nat.le_of_ble_eq_true rfl⟩, ⟨Nat.le_of_ble_eq_true rfl, Nat.le_of_ble_eq_true rfl⟩⟩ hz_a0 hk_a0 (by decide) rfl rfl hl.1 rfl (Nat.le_of_ble_eq_true rfl) dX12_throwsVotes_116) rfl rfl (fun x137 H locs M134 R135 J133 hS f131 g132 E136 => ?_)
              have eM134 := Fr.nil f131 rfl
              subst eM134
              have eR135 := Fr.nil g132 rfl
              subst eR135
              have h_x137 := E136
              clear E136
              refine lv_iconst (v := 1) hx hb dX12_throwsVotes_119 (by decide) ?_
              refine lv_icmp_eq (tgt := 126) hx hb dX12_throwsVotes_120 (by decide) (fun c138 => ?_) (fun c138 => ?_)
              · have q139 : x137.toInt = 1 := ti_eq c138
                have h140 : iv 1 1 x137 := ⟨by have := (h_x137).1; have := ((iv_c (c := 1) (n := 1) (by decide))).1; omega, by have := (h_x137).2; have := ((iv_c (c := 1) (n := 1) (by decide))).2; omega⟩
                refine lv_aload_n hx hb dX12_throwsVotes_126 rfl (lv_at hl 2 rfl) ?_
                refine lv_iload_n hx hb dX12_throwsVotes_127 rfl (lv_at hl 0 rfl) ?_
                refine tw_puti hx hb hW hown hK hS f_X12_431_11 hz_a0 hk_a0 rfl rfl (lo := (-2147483648)) (hi := 2147483647) rfl h85 rfl dX12_throwsVotes_128 (fun H locs M143 hS k141 f142 => ?_)
                have zA143 : ∀ k : Nat, (k : Int) < x24.toInt → M143 fg k = M25 fg k := (fun k hk => (Fr.kpa f142 hk_fg rfl k).trans ((fun k hk => (Fr.kpa f78 hk_fg rfl k).trans ((fun k hk => (Fr.kpa f61 hk_fg rfl k).trans (z48 k hk)) k hk)) k hk))
                have zB143 : ∀ k : Nat, (k : Int) = x24.toInt → (M143 fg k).toInt = (M25 fg k).toInt + 1 := (fun (k : Nat) (hk : (k : Int) = x24.toInt) => (show (M143 fg k).toInt = (M25 fg k).toInt + 1 from by rw [Fr.kpa f142 hk_fg rfl k]; exact (fun (k : Nat) (hk : (k : Int) = x24.toInt) => (show (M81 fg k).toInt = (M25 fg k).toInt + 1 from by rw [Fr.kpa f78 hk_fg rfl k]; exact (fun (k : Nat) (hk : (k : Int) = x24.toInt) => (show (M64 fg k).toInt = (M25 fg k).toInt + 1 from by rw [Fr.kpa f61 hk_fg rfl k]; exact z49 k hk)) k hk)) k hk))
                refine lv_iconst (v := 0) hx hb dX12_throwsVotes_131 (by decide) ?_
                refine lv_istore (lv' := [(4, .int 0), (3, .int x86), (2, .int x24), (0, .ref (base + a0)), (1, .int a1)]) hx hb dX12_throwsVotes_132 hl (by decide) rfl (fun ls hl => ?_)
                have W134_145 : ∀ (n_145 : Nat) (x144 : Int32) (x150 : Int32) (M145 : MT) (R146 : RT) (J147 : JT) (H : Heap) (locs : List Loc) (ls : Array Slot) (h_x144 : iv 0 4 x144) (h_x150 : iv 1 4 x150) (k151 : M145 a0 30 = x150) (w0_145 : x150.toInt = e4.toInt) (w1_145 : ∀ j, M145 fg j = M143 fg j) (hm_145 : 4 - x144.toInt < (n_145 : Int)) (hS : SB D cy base Z K N Lt_X12_throwsVotes LRt_X12_throwsVotes Ma Ra M145 R146 J147 s H locs) (hl : lv_has ls 5 [(4, .int x144), (3, .int x86), (2, .int x24), (0, .ref (base + a0)), (1, .int a1)]), W p l e (md_rm 6 0 0) s m args below meth c H locs 0 0 Q (F0 m 134 ls []) := by
                  intro n_145
                  induction n_145 with
                  | zero =>
                    intro x144 x150 M145 R146 J147 H locs ls h_x144 h_x150 k151 w0_145 w1_145 hm_145 hS hl
                    exfalso
                    have := (h_a1).1; have := (h_a1).2; have := (h_e4).1; have := (h_e4).2; have := (h_x144).1; have := (h_x144).2; omega
                  | succ n_145 ih_145 =>
                    intro x144 x150 M145 R146 J147 H locs ls h_x144 h_x150 k151 w0_145 w1_145 hm_145 hS hl
                    have f148 := hS.2.2.1
                    have g149 := hS.2.2.2
                    refine lv_iload hx hb dX12_throwsVotes_134 (lv_at hl 0 rfl) ?_
                    refine lv_aload_n hx hb dX12_throwsVotes_136 rfl (lv_at hl 3 rfl) ?_
                    refine tw_getk hx hb hW hown hK hS f_X12_351_11 hz_a0 hk_a0 (v := x150) k151 dX12_throwsVotes_137 ?_
                    refine lv_icmp_ge (tgt := 163) hx hb dX12_throwsVotes_140 (by decide) (fun c152 => ?_) (fun c152 => ?_)
                    · have q153 : x150.toInt ≤ x144.toInt := ti_le c152
                      have h154 : iv 1 4 x144 := iv_geL (y := x150) h_x144 h_x150 q153 (by decide)
                      refine lv_goto (tgt := 23) hx hb dX12_throwsVotes_163 (by decide) ?_
                      have w155 : x150.toInt = e4.toInt ∧ x24.toInt < x150.toInt := by
                        have := (h_a1).1; have := (h_a1).2; have := (h_e4).1; have := (h_e4).2; have := (h_x150).1; have := (h_x150).2; have := (h36).1; have := (h36).2; have := (h_x30).1; have := (h_x30).2; have := (h94).1; have := (h94).2; exact ⟨by omega, by omega⟩
                      have zS156 : ∀ k : Nat, (k : Int) < x24.toInt → M145 fg k = M25 fg k := (fun k hk => (w1_145 k).trans (zA143 k hk))
                      have zP156 : ∀ k : Nat, (k : Int) = x24.toInt → (M145 fg k).toInt = (M25 fg k).toInt + 1 := (fun (k : Nat) (hk : (k : Int) = x24.toInt) => (show (M145 fg k).toInt = (M25 fg k).toInt + 1 from by rw [w1_145 k]; exact zB143 k hk))
                      have zT156 : ∀ k : Nat, (k : Int) = x24.toInt → -1 ≤ (M145 fg k).toInt ∧ (M145 fg k).toInt < figG a1 := fun k hk => by rw [zP156 k hk]; have q := w1_25 k (by omega); have q2 := zP156 k hk; rw [show k = x24.toNatClampNeg by (have := ti_cl (x := x24) (by have := (h36).1; omega); omega), k39] at q ⊢; exact ⟨by omega, by omega⟩
                      have w156 : figI M145 fg (figG a1) x24.toInt := fun k hk => if h1 : (k : Int) < x24.toInt then (by rw [zS156 k (by omega)]; exact w1_25 k (by omega)) else zT156 k (by omega)
                      have hm157 : muT M145 fg (figG a1) x24.toInt < (n_25 : Int) := (by have q := mu_lt (M := M25) (M1 := M145) (fg := fg) (F := figG a1) (p := x24.toInt) (q := x24.toInt) ⟨by have := (h36).1; omega, by have := (h36).2; omega⟩ zS156 zP156 (Or.inl rfl); omega)
                      exact ih_25 x24 x150 M145 R146 J147 H locs _ (iv_mono h36 (by decide) (by decide)) h_x150 k151 w155 w156 hm157 hS (lv_sub hl [2, 3, 4] rfl)
                    · have q158 : x144.toInt < x150.toInt := ti_nle c152
                      have h159 : iv 0 3 x144 := iv_ltL (y := x150) h_x144 h_x150 q158 (by decide)
                      refine lv_aload_n hx hb dX12_throwsVotes_143 rfl (lv_at hl 3 rfl) ?_
                      refine tw_getr hx hb hW hown hK hS f_X12_78_11 hz_a0 hk_a0 (t := 14) (n := 5) rfl dX12_throwsVotes_144 (fun b160 k161 hz_b160 hk_b160 hn_b160 => ?_)
                      have hn_b160 := hn_b160 (by decide)
                      refine lv_iload hx hb dX12_throwsVotes_147 (lv_at hl 0 rfl) ?_
                      refine lv_aload_n hx hb dX12_throwsVotes_149 rfl (lv_at hl 3 rfl) ?_
                      have k162 : R146 a0 38 = some fg := (Fr.kp (k := 38) g149 hk_a0 rfl).trans k_fg
                      refine tw_getrk hx hb hW hown hK hS f_X12_66_11 hz_a0 hk_a0 (b := fg) k162 dX12_throwsVotes_150 ?_
                      refine lv_iload hx hb dX12_throwsVotes_153 (lv_at hl 0 rfl) ?_
                      refine tw_iald hx hb hK hS hz_fg hk_fg (Or.inr (by decide)) hn_fg (lo := (-1)) (hi := 27) h159 ⟨by decide, by decide⟩ rg_u41 dX12_throwsVotes_155 (fun x165 k164 h163 => ?_)
                      refine tw_iast hx hb hK hS hz_b160 hk_b160 (Or.inl rfl) hn_b160 h159 ⟨by decide, by decide⟩ h163 (rg_s14 ⟨by decide, by decide⟩) (jl := 0) (jh := 1999999) ⟨by decide, by decide⟩ rfl dX12_throwsVotes_156 (fun H locs M168 hS k166 f167 => ?_)
                      refine tw_iinc (lv' := fun x171 => [(4, .int x171), (3, .int x86), (2, .int x24), (0, .ref (base + a0)), (1, .int a1)]) (lo := 1) (hi := 4) hx hb dX12_throwsVotes_157 hl (k := 0) rfl h159 (by decide) ⟨by decide, by decide⟩ ⟨by decide, by decide⟩ (by decide) (fun _ => rfl) (fun x171 ls e170 h169 hl => ?_)
                      refine lv_goto (tgt := 134) hx hb dX12_throwsVotes_160 (by decide) ?_
                      have k172 : M168 a0 30 = x150 := (Fr.kp (k := 30) f167 hk_a0 rfl).trans k151
                      have w173 : x150.toInt = e4.toInt := by
                        have := (h_a1).1; have := (h_a1).2; have := (h_e4).1; have := (h_e4).2; have := (h_x150).1; have := (h_x150).2; have := (h36).1; have := (h36).2; have := (h_x30).1; have := (h_x30).2; have := (h94).1; have := (h94).2; omega
                      have w174 : ∀ j, M168 fg j = M143 fg j := fun j => ((Fr.kpa f167 hk_fg rfl j).trans (w1_145 j))
                      have hm175 : 4 - x171.toInt < (n_145 : Int) := by
                        have := (h_a1).1; have := (h_a1).2; have := (h_e4).1; have := (h_e4).2; have := (h159).1; have := (h159).2; have := (h169).1; have := (h169).2; omega
                      exact ih_145 x171 x150 M168 R146 J147 H locs _ (iv_mono h169 (by decide) (by decide)) h_x150 k172 w173 w174 hm175 hS hl
                have k176 : M143 a0 30 = x30 := (Fr.kp (k := 30) f142 hk_a0 rfl).trans k93
                have w177 : x30.toInt = e4.toInt := by
                  have := (h_a1).1; have := (h_a1).2; have := (h_e4).1; have := (h_e4).2; have := (h36).1; have := (h36).2; have := (h_x30).1; have := (h_x30).2; have := (h94).1; have := (h94).2; omega
                have w178 : ∀ j, M143 fg j = M143 fg j := fun j => rfl
                have hm179 : 4 - (0 : Int32).toInt < (((5 : Nat) : Int) : Int) := by
                  have := (h_a1).1; have := (h_a1).2; have := (h_e4).1; have := (h_e4).2; have : (0 : Int32).toInt = 0 := (by decide); omega
                exact W134_145 5 0 x30 M143 R26 J133 H locs _ (iv_mono (iv_c (c := 0) (n := 0) (by decide)) (by decide) (by decide)) h_x30 k176 w177 w178 hm179 hS hl
              · have q180 : ¬ x137.toInt = 1 := ti_ne c138
                refine lv_goto (tgt := 23) hx hb dX12_throwsVotes_123 (by decide) ?_
                have w181 : x30.toInt = e4.toInt ∧ x24.toInt < x30.toInt := by
                  have := (h_a1).1; have := (h_a1).2; have := (h_e4).1; have := (h_e4).2; have := (h36).1; have := (h36).2; have := (h_x30).1; have := (h_x30).2; have := (h94).1; have := (h94).2; exact ⟨by omega, by omega⟩
                have zS182 : ∀ k : Nat, (k : Int) < x24.toInt → M81 fg k = M25 fg k := (fun k hk => (Fr.kpa f78 hk_fg rfl k).trans ((fun k hk => (Fr.kpa f61 hk_fg rfl k).trans (z48 k hk)) k hk))
                have zP182 : ∀ k : Nat, (k : Int) = x24.toInt → (M81 fg k).toInt = (M25 fg k).toInt + 1 := (fun (k : Nat) (hk : (k : Int) = x24.toInt) => (show (M81 fg k).toInt = (M25 fg k).toInt + 1 from by rw [Fr.kpa f78 hk_fg rfl k]; exact (fun (k : Nat) (hk : (k : Int) = x24.toInt) => (show (M64 fg k).toInt = (M25 fg k).toInt + 1 from by rw [Fr.kpa f61 hk_fg rfl k]; exact z49 k hk)) k hk))
                have zT182 : ∀ k : Nat, (k : Int) = x24.toInt → -1 ≤ (M81 fg k).toInt ∧ (M81 fg k).toInt < figG a1 := fun k hk => by rw [zP182 k hk]; have q := w1_25 k (by omega); have q2 := zP182 k hk; rw [show k = x24.toNatClampNeg by (have := ti_cl (x := x24) (by have := (h36).1; omega); omega), k39] at q ⊢; exact ⟨by omega, by omega⟩
                have w182 : figI M81 fg (figG a1) x24.toInt := fun k hk => if h1 : (k : Int) < x24.toInt then (by rw [zS182 k (by omega)]; exact w1_25 k (by omega)) else zT182 k (by omega)
                have hm183 : muT M81 fg (figG a1) x24.toInt < (n_25 : Int) := (by have q := mu_lt (M := M25) (M1 := M81) (fg := fg) (F := figG a1) (p := x24.toInt) (q := x24.toInt) ⟨by have := (h36).1; omega, by have := (h36).2; omega⟩ zS182 zP182 (Or.inl rfl); omega)
                exact ih_25 x24 x30 M81 R26 J133 H locs _ (iv_mono h36 (by decide) (by decide)) h_x30 k93 w181 w182 hm183 hS (lv_sub hl [1, 2, 3] rfl)
          · have q184 : 0 ≤ x89.toInt := ti_nlt c90
            have h185 : iv 0 2147483647 x89 := iv_geL (y := 0) h87 (iv_c (c := 0) (n := 0) (by decide)) q184 (by decide)
            refine lv_iload_n hx hb dX12_throwsVotes_94 rfl (lv_at hl 0 rfl) ?_
            refine lv_aload_n hx hb dX12_throwsVotes_95 rfl (lv_at hl 2 rfl) ?_
            refine tw_getk hx hb hW hown hK hS f_X12_431_11 hz_a0 hk_a0 (v := x89) k88 dX12_throwsVotes_96 ?_
            refine lv_icmp_lt (tgt := 105) hx hb dX12_throwsVotes_99 (by decide) (fun c186 => ?_) (fun c186 => ?_)
            · have q187 : x86.toInt < x89.toInt := ti_lt c186
              have h188 : iv (-2147483648) 2147483646 x86 := iv_ltL (y := x89) h85 h185 q187 (by decide)
              refine lv_iload_n hx hb dX12_throwsVotes_105 rfl (lv_at hl 1 rfl) ?_
              refine lv_aload_n hx hb dX12_throwsVotes_106 rfl (lv_at hl 2 rfl) ?_
              have k189 : M81 a0 30 = x30 := ((Fr.kp (k := 30) f78 hk_a0 rfl).trans ((Fr.kp (k := 30) f61 hk_a0 rfl).trans (Fr.kp (k := 30) f45 hk_a0 rfl))).trans k31
              refine tw_getk hx hb hW hown hK hS f_X12_351_11 hz_a0 hk_a0 (v := x30) k189 dX12_throwsVotes_107 ?_
              refine lv_iconst (v := 1) hx hb dX12_throwsVotes_110 (by decide) ?_
              refine tw_isub (lo := 0) (hi := 3) hx hb h_x30 (iv_c (c := 1) (n := 1) (by decide)) ⟨by decide, by decide⟩ ⟨by decide, by decide⟩ dX12_throwsVotes_111 (fun x192 e191 h190 => ?_)
              have e191 : x192.toInt = x30.toInt - 1 := e191
              refine lv_icmp_ne (tgt := 166) hx hb dX12_throwsVotes_112 (by decide) (fun c193 => ?_) (fun c193 => ?_)
              · have q194 : ¬ x24.toInt = x192.toInt := ti_ne c193
                refine lv_aload_n hx hb dX12_throwsVotes_166 rfl (lv_at hl 2 rfl) ?_
                refine tw_goi hS (md_runV (As := []) (rest := []) hx hb hml hown hW hK hT hS.1 (t_X12_settles_ l D cy tx base Z K N M81 R26 J80 hS.2.1 a0 hz_a0 hk_a0) s_X12_399 ⟨rfl, rfl, ⟨Nat.le_of_ble_eq_true rfl, Nat.le_of_ble_eq_true rfl⟩, ⟨Nat.le_of_ble_eq_true rfl, Nat.le_of_ble_eq_true rfl⟩⟩ hz_a0 hk_a0 (by decide) rfl rfl hl.1 rfl (Nat.le_of_ble_eq_true rfl) dX12_throwsVotes_167) rfl rfl (fun x201 H locs M198 R199 J197 hS f195 g196 E200 => ?_)
                have eR199 := Fr.nil g196 rfl
                subst eR199
                have h_x201 := E200
                clear E200
                refine lv_pop hx hb dX12_throwsVotes_170 rfl ?_
                refine tw_iinc (lv' := fun x204 => [(2, .int x204), (3, .int x86), (0, .ref (base + a0)), (1, .int a1)]) (lo := 1) (hi := 4) hx hb dX12_throwsVotes_171 hl (k := 1) rfl h36 (by decide) ⟨by decide, by decide⟩ ⟨by decide, by decide⟩ (by decide) (fun _ => rfl) (fun x204 ls e203 h202 hl => ?_)
                refine lv_aload_n hx hb dX12_throwsVotes_174 rfl (lv_at hl 2 rfl) ?_
                have k205 : R26 a0 39 = some b12 := (Fr.kp (k := 39) g29 hk_a0 rfl).trans k13
                refine tw_getrk hx hb hW hown hK hS f_X12_69_11 hz_a0 hk_a0 (b := b12) k205 dX12_throwsVotes_175 ?_
                refine lv_iload_n hx hb dX12_throwsVotes_178 rfl (lv_at hl 0 rfl) ?_
                refine lv_iload_n hx hb dX12_throwsVotes_179 rfl (lv_at hl 1 rfl) ?_
                refine tw_iast hx hb hK hS hz_b12 hk_b12 (Or.inl rfl) hn_b12 h202 ⟨by decide, by decide⟩ h188 (rg_s14 ⟨by decide, by decide⟩) (jl := 0) (jh := 1999999) ⟨by decide, by decide⟩ rfl dX12_throwsVotes_180 (fun H locs M208 hS k206 f207 => ?_)
                refine lv_aload_n hx hb dX12_throwsVotes_181 rfl (lv_at hl 2 rfl) ?_
                refine lv_iload_n hx hb dX12_throwsVotes_182 rfl (lv_at hl 0 rfl) ?_
                have h209 : iv 0 3 x204 := by
                  have := (h_a1).1; have := (h_a1).2; have := (h_e4).1; have := (h_e4).2; have := (h190).1; have := (h190).2; have := (h202).1; have := (h202).2; have := (h36).1; have := (h36).2; have := (h_x30).1; have := (h_x30).2; exact ⟨by omega, by omega⟩
                have k210 : R26 a0 38 = some fg := (Fr.kp (k := 38) g29 hk_a0 rfl).trans k_fg
                refine tw_gov hS (md_runV (As := [.int x204]) (rest := []) hx hb hml hown hW hK hT hS.1 (t_X12_comesTo l D cy tx base Z K N M208 R26 J197 hS.2.1 a0 hz_a0 hk_a0 x204 h209 (Codes.fr co_a0 hTy hz_a0 hk_a0 hS.2.2.1 hS.2.2.2 rfl) fg k210) s_X12_434 ⟨rfl, rfl, ⟨Nat.le_of_ble_eq_true rfl, Nat.le_of_ble_eq_true rfl⟩, ⟨Nat.le_of_ble_eq_true rfl, Nat.le_of_ble_eq_true rfl⟩⟩ hz_a0 hk_a0 (by decide) rfl rfl hl.1 rfl (Nat.le_of_ble_eq_true rfl) dX12_throwsVotes_183) rfl rfl (fun H locs M214 R215 J213 hS f211 g212 E216 => ?_)
                have eR215 := Fr.nil g212 rfl
                subst eR215
                have p217 := E216
                clear E216
                have zi217 := ti_cl (x := x24) (by have := (h36).1; omega); have za217 := ti_cl (x := x204) (by have := (h202).1; omega)
                have z218 : ∀ k : Nat, (k : Int) < x24.toInt → M214 fg k = M25 fg k := fun k hk => (p217.1 k (by omega)).trans ((fun k hk => (Fr.kpa f207 hk_fg rfl k).trans ((fun k hk => (Fr.kpa f195 hk_fg rfl k).trans ((fun k hk => (Fr.kpa f78 hk_fg rfl k).trans ((fun k hk => (Fr.kpa f61 hk_fg rfl k).trans (z48 k hk)) k hk)) k hk)) k hk)) k hk)
                have z219 : ∀ k : Nat, (k : Int) = x24.toInt → (M214 fg k).toInt = (M25 fg k).toInt + 1 := fun k hk => by have q : M214 fg k = M208 fg k := p217.1 k (by omega); rw [q]; exact (fun (k : Nat) (hk : (k : Int) = x24.toInt) => (show (M208 fg k).toInt = (M25 fg k).toInt + 1 from by rw [Fr.kpa f207 hk_fg rfl k]; exact (fun (k : Nat) (hk : (k : Int) = x24.toInt) => (show (M198 fg k).toInt = (M25 fg k).toInt + 1 from by rw [Fr.kpa f195 hk_fg rfl k]; exact (fun (k : Nat) (hk : (k : Int) = x24.toInt) => (show (M81 fg k).toInt = (M25 fg k).toInt + 1 from by rw [Fr.kpa f78 hk_fg rfl k]; exact (fun (k : Nat) (hk : (k : Int) = x24.toInt) => (show (M64 fg k).toInt = (M25 fg k).toInt + 1 from by rw [Fr.kpa f61 hk_fg rfl k]; exact z49 k hk)) k hk)) k hk)) k hk)) k hk
                have z220 : ∀ k : Nat, (k : Int) = x204.toInt → (M214 fg k).toInt = -1 := fun k hk => by rw [show k = x204.toNatClampNeg by omega]; exact p217.2
                refine lv_goto (tgt := 23) hx hb dX12_throwsVotes_186 (by decide) ?_
                have h221 : iv (-1) 3 x204 := by
                  have := (h_a1).1; have := (h_a1).2; have := (h_e4).1; have := (h_e4).2; have := (h190).1; have := (h190).2; have := (h202).1; have := (h202).2; have := (h36).1; have := (h36).2; have := (h_x30).1; have := (h_x30).2; exact ⟨by omega, by omega⟩
                have k222 : M214 a0 30 = x30 := ((Fr.kp (k := 30) f211 hk_a0 rfl).trans ((Fr.kp (k := 30) f207 hk_a0 rfl).trans (Fr.kp (k := 30) f195 hk_a0 rfl))).trans k189
                have w223 : x30.toInt = e4.toInt ∧ x204.toInt < x30.toInt := by
                  have := (h_a1).1; have := (h_a1).2; have := (h_e4).1; have := (h_e4).2; have := (h190).1; have := (h190).2; have := (h202).1; have := (h202).2; have := (h36).1; have := (h36).2; have := (h_x30).1; have := (h_x30).2; exact ⟨by omega, by omega⟩
                have zS224 : ∀ k : Nat, (k : Int) < x24.toInt → M214 fg k = M25 fg k := z218
                have zP224 : ∀ k : Nat, (k : Int) = x24.toInt → (M214 fg k).toInt = (M25 fg k).toInt + 1 := z219
                have zT224 : ∀ k : Nat, (k : Int) = x24.toInt → -1 ≤ (M214 fg k).toInt ∧ (M214 fg k).toInt < figG a1 := fun k hk => by rw [zP224 k hk]; have q := w1_25 k (by omega); have q2 := zP224 k hk; rw [show k = x24.toNatClampNeg by (have := ti_cl (x := x24) (by have := (h36).1; omega); omega), k39] at q ⊢; exact ⟨by omega, by omega⟩
                have w224 : figI M214 fg (figG a1) x204.toInt := fun k hk => if h1 : (k : Int) < x24.toInt then (by rw [zS224 k (by omega)]; exact w1_25 k (by omega)) else if h2 : (k : Int) = x24.toInt then zT224 k h2 else (by rw [z220 k (by omega)]; have := figG_r a1; omega)
                have hm225 : muT M214 fg (figG a1) x204.toInt < (n_25 : Int) := (by have q := mu_dn (M := M25) (M1 := M214) (fg := fg) (F := figG a1) (p := x24.toInt) ⟨by have := (h36).1; omega, by have := (h_a1).2; have := (h_e4).2; have := (h190).2; have := (h202).2; have := (h36).2; have := (h_x30).2; omega⟩ (figG_r a1).2 zS224 zP224 (fun k hk => z220 k (by omega)); rw [show x204.toInt = x24.toInt + 1 by omega]; omega)
                exact ih_25 x204 x30 M214 R26 J213 H locs _ h221 h_x30 k222 w223 w224 hm225 hS (lv_sub hl [0, 2, 3] rfl)
              · have q226 : x24.toInt = x192.toInt := ti_eq c193
                refine lv_aload_n hx hb dX12_throwsVotes_115 rfl (lv_at hl 2 rfl) ?_
                refine tw_goi hS (md_runV (As := []) (rest := []) hx hb hml hown hW hK hT hS.1 (t_X12_result l D cy tx base Z K N M81 R26 J80 hS.2.1 a0 hz_a0 hk_a0) s_X12_383 ⟨rfl, rfl, ⟨Nat.le_of_ble_eq_true rfl, Nat.le_of_ble_eq_true rfl⟩, ⟨Nat.le_of_ble_eq_true rfl, Nat.le_of_ble_eq_true rfl⟩⟩ hz_a0 hk_a0 (by decide) rfl rfl hl.1 rfl (Nat.le_of_ble_eq_true rfl) dX12_throwsVotes_116) rfl rfl (fun x233 H locs M230 R231 J229 hS f227 g228 E232 => ?_)
                have eM230 := Fr.nil f227 rfl
                subst eM230
                have eR231 := Fr.nil g228 rfl
                subst eR231
                have h_x233 := E232
                clear E232
                refine lv_iconst (v := 1) hx hb dX12_throwsVotes_119 (by decide) ?_
                refine lv_icmp_eq (tgt := 126) hx hb dX12_throwsVotes_120 (by decide) (fun c234 => ?_) (fun c234 => ?_)
                · have q235 : x233.toInt = 1 := ti_eq c234
                  have h236 : iv 1 1 x233 := ⟨by have := (h_x233).1; have := ((iv_c (c := 1) (n := 1) (by decide))).1; omega, by have := (h_x233).2; have := ((iv_c (c := 1) (n := 1) (by decide))).2; omega⟩
                  refine lv_aload_n hx hb dX12_throwsVotes_126 rfl (lv_at hl 2 rfl) ?_
                  refine lv_iload_n hx hb dX12_throwsVotes_127 rfl (lv_at hl 0 rfl) ?_
                  refine tw_puti hx hb hW hown hK hS f_X12_431_11 hz_a0 hk_a0 rfl rfl (lo := (-2147483648)) (hi := 2147483647) rfl (iv_mono h188 (by decide) (by decide)) rfl dX12_throwsVotes_128 (fun H locs M239 hS k237 f238 => ?_)
                  have zA239 : ∀ k : Nat, (k : Int) < x24.toInt → M239 fg k = M25 fg k := (fun k hk => (Fr.kpa f238 hk_fg rfl k).trans ((fun k hk => (Fr.kpa f78 hk_fg rfl k).trans ((fun k hk => (Fr.kpa f61 hk_fg rfl k).trans (z48 k hk)) k hk)) k hk))
                  have zB239 : ∀ k : Nat, (k : Int) = x24.toInt → (M239 fg k).toInt = (M25 fg k).toInt + 1 := (fun (k : Nat) (hk : (k : Int) = x24.toInt) => (show (M239 fg k).toInt = (M25 fg k).toInt + 1 from by rw [Fr.kpa f238 hk_fg rfl k]; exact (fun (k : Nat) (hk : (k : Int) = x24.toInt) => (show (M81 fg k).toInt = (M25 fg k).toInt + 1 from by rw [Fr.kpa f78 hk_fg rfl k]; exact (fun (k : Nat) (hk : (k : Int) = x24.toInt) => (show (M64 fg k).toInt = (M25 fg k).toInt + 1 from by rw [Fr.kpa f61 hk_fg rfl k]; exact z49 k hk)) k hk)) k hk))
                  refine lv_iconst (v := 0) hx hb dX12_throwsVotes_131 (by decide) ?_
                  refine lv_istore (lv' := [(4, .int 0), (3, .int x86), (2, .int x24), (0, .ref (base + a0)), (1, .int a1)]) hx hb dX12_throwsVotes_132 hl (by decide) rfl (fun ls hl => ?_)
                  have W134_241 : ∀ (n_241 : Nat) (x240 : Int32) (x246 : Int32) (M241 : MT) (R242 : RT) (J243 : JT) (H : Heap) (locs : List Loc) (ls : Array Slot) (h_x240 : iv 0 4 x240) (h_x246 : iv 1 4 x246) (k247 : M241 a0 30 = x246) (w0_241 : x246.toInt = e4.toInt) (w1_241 : ∀ j, M241 fg j = M239 fg j) (hm_241 : 4 - x240.toInt < (n_241 : Int)) (hS : SB D cy base Z K N Lt_X12_throwsVotes LRt_X12_throwsVotes Ma Ra M241 R242 J243 s H locs) (hl : lv_has ls 5 [(4, .int x240), (3, .int x86), (2, .int x24), (0, .ref (base + a0)), (1, .int a1)]), W p l e (md_rm 6 0 0) s m args below meth c H locs 0 0 Q (F0 m 134 ls []) := by
                    intro n_241
                    induction n_241 with
                    | zero =>
                      intro x240 x246 M241 R242 J243 H locs ls h_x240 h_x246 k247 w0_241 w1_241 hm_241 hS hl
                      exfalso
                      have := (h_a1).1; have := (h_a1).2; have := (h_e4).1; have := (h_e4).2; have := (h_x240).1; have := (h_x240).2; omega
                    | succ n_241 ih_241 =>
                      intro x240 x246 M241 R242 J243 H locs ls h_x240 h_x246 k247 w0_241 w1_241 hm_241 hS hl
                      have f244 := hS.2.2.1
                      have g245 := hS.2.2.2
                      refine lv_iload hx hb dX12_throwsVotes_134 (lv_at hl 0 rfl) ?_
                      refine lv_aload_n hx hb dX12_throwsVotes_136 rfl (lv_at hl 3 rfl) ?_
                      refine tw_getk hx hb hW hown hK hS f_X12_351_11 hz_a0 hk_a0 (v := x246) k247 dX12_throwsVotes_137 ?_
                      refine lv_icmp_ge (tgt := 163) hx hb dX12_throwsVotes_140 (by decide) (fun c248 => ?_) (fun c248 => ?_)
                      · have q249 : x246.toInt ≤ x240.toInt := ti_le c248
                        have h250 : iv 1 4 x240 := iv_geL (y := x246) h_x240 h_x246 q249 (by decide)
                        refine lv_goto (tgt := 23) hx hb dX12_throwsVotes_163 (by decide) ?_
                        have w251 : x246.toInt = e4.toInt ∧ x24.toInt < x246.toInt := by
                          have := (h_a1).1; have := (h_a1).2; have := (h_e4).1; have := (h_e4).2; have := (h190).1; have := (h190).2; have := (h36).1; have := (h36).2; have := (h_x246).1; have := (h_x246).2; have := (h_x30).1; have := (h_x30).2; exact ⟨by omega, by omega⟩
                        have zS252 : ∀ k : Nat, (k : Int) < x24.toInt → M241 fg k = M25 fg k := (fun k hk => (w1_241 k).trans (zA239 k hk))
                        have zP252 : ∀ k : Nat, (k : Int) = x24.toInt → (M241 fg k).toInt = (M25 fg k).toInt + 1 := (fun (k : Nat) (hk : (k : Int) = x24.toInt) => (show (M241 fg k).toInt = (M25 fg k).toInt + 1 from by rw [w1_241 k]; exact zB239 k hk))
                        have zT252 : ∀ k : Nat, (k : Int) = x24.toInt → -1 ≤ (M241 fg k).toInt ∧ (M241 fg k).toInt < figG a1 := fun k hk => by rw [zP252 k hk]; have q := w1_25 k (by omega); have q2 := zP252 k hk; rw [show k = x24.toNatClampNeg by (have := ti_cl (x := x24) (by have := (h36).1; omega); omega), k39] at q ⊢; exact ⟨by omega, by omega⟩
                        have w252 : figI M241 fg (figG a1) x24.toInt := fun k hk => if h1 : (k : Int) < x24.toInt then (by rw [zS252 k (by omega)]; exact w1_25 k (by omega)) else zT252 k (by omega)
                        have hm253 : muT M241 fg (figG a1) x24.toInt < (n_25 : Int) := (by have q := mu_lt (M := M25) (M1 := M241) (fg := fg) (F := figG a1) (p := x24.toInt) (q := x24.toInt) ⟨by have := (h36).1; omega, by have := (h36).2; omega⟩ zS252 zP252 (Or.inl rfl); omega)
                        exact ih_25 x24 x246 M241 R242 J243 H locs _ (iv_mono h36 (by decide) (by decide)) h_x246 k247 w251 w252 hm253 hS (lv_sub hl [2, 3, 4] rfl)
                      · have q254 : x240.toInt < x246.toInt := ti_nle c248
                        have h255 : iv 0 3 x240 := iv_ltL (y := x246) h_x240 h_x246 q254 (by decide)
                        refine lv_aload_n hx hb dX12_throwsVotes_143 rfl (lv_at hl 3 rfl) ?_
                        refine tw_getr hx hb hW hown hK hS f_X12_78_11 hz_a0 hk_a0 (t := 14) (n := 5) rfl dX12_throwsVotes_144 (fun b256 k257 hz_b256 hk_b256 hn_b256 => ?_)
                        have hn_b256 := hn_b256 (by decide)
                        refine lv_iload hx hb dX12_throwsVotes_147 (lv_at hl 0 rfl) ?_
                        refine lv_aload_n hx hb dX12_throwsVotes_149 rfl (lv_at hl 3 rfl) ?_
                        have k258 : R242 a0 38 = some fg := (Fr.kp (k := 38) g245 hk_a0 rfl).trans k_fg
                        refine tw_getrk hx hb hW hown hK hS f_X12_66_11 hz_a0 hk_a0 (b := fg) k258 dX12_throwsVotes_150 ?_
                        refine lv_iload hx hb dX12_throwsVotes_153 (lv_at hl 0 rfl) ?_
                        refine tw_iald hx hb hK hS hz_fg hk_fg (Or.inr (by decide)) hn_fg (lo := (-1)) (hi := 27) h255 ⟨by decide, by decide⟩ rg_u41 dX12_throwsVotes_155 (fun x261 k260 h259 => ?_)
                        refine tw_iast hx hb hK hS hz_b256 hk_b256 (Or.inl rfl) hn_b256 h255 ⟨by decide, by decide⟩ h259 (rg_s14 ⟨by decide, by decide⟩) (jl := 0) (jh := 1999999) ⟨by decide, by decide⟩ rfl dX12_throwsVotes_156 (fun H locs M264 hS k262 f263 => ?_)
                        refine tw_iinc (lv' := fun x267 => [(4, .int x267), (3, .int x86), (2, .int x24), (0, .ref (base + a0)), (1, .int a1)]) (lo := 1) (hi := 4) hx hb dX12_throwsVotes_157 hl (k := 0) rfl h255 (by decide) ⟨by decide, by decide⟩ ⟨by decide, by decide⟩ (by decide) (fun _ => rfl) (fun x267 ls e266 h265 hl => ?_)
                        refine lv_goto (tgt := 134) hx hb dX12_throwsVotes_160 (by decide) ?_
                        have k268 : M264 a0 30 = x246 := (Fr.kp (k := 30) f263 hk_a0 rfl).trans k247
                        have w269 : x246.toInt = e4.toInt := by
                          have := (h_a1).1; have := (h_a1).2; have := (h_e4).1; have := (h_e4).2; have := (h190).1; have := (h190).2; have := (h36).1; have := (h36).2; have := (h_x246).1; have := (h_x246).2; have := (h_x30).1; have := (h_x30).2; omega
                        have w270 : ∀ j, M264 fg j = M239 fg j := fun j => ((Fr.kpa f263 hk_fg rfl j).trans (w1_241 j))
                        have hm271 : 4 - x267.toInt < (n_241 : Int) := by
                          have := (h_a1).1; have := (h_a1).2; have := (h_e4).1; have := (h_e4).2; have := (h255).1; have := (h255).2; have := (h265).1; have := (h265).2; omega
                        exact ih_241 x267 x246 M264 R242 J243 H locs _ (iv_mono h265 (by decide) (by decide)) h_x246 k268 w269 w270 hm271 hS hl
                  have k272 : M239 a0 30 = x30 := (Fr.kp (k := 30) f238 hk_a0 rfl).trans k189
                  have w273 : x30.toInt = e4.toInt := by
                    have := (h_a1).1; have := (h_a1).2; have := (h_e4).1; have := (h_e4).2; have := (h190).1; have := (h190).2; have := (h36).1; have := (h36).2; have := (h_x30).1; have := (h_x30).2; omega
                  have w274 : ∀ j, M239 fg j = M239 fg j := fun j => rfl
                  have hm275 : 4 - (0 : Int32).toInt < (((5 : Nat) : Int) : Int) := by
                    have := (h_a1).1; have := (h_a1).2; have := (h_e4).1; have := (h_e4).2; have : (0 : Int32).toInt = 0 := (by decide); omega
                  exact W134_241 5 0 x30 M239 R26 J229 H locs _ (iv_mono (iv_c (c := 0) (n := 0) (by decide)) (by decide) (by decide)) h_x30 k272 w273 w274 hm275 hS hl
                · have q276 : ¬ x233.toInt = 1 := ti_ne c234
                  refine lv_goto (tgt := 23) hx hb dX12_throwsVotes_123 (by decide) ?_
                  have w277 : x30.toInt = e4.toInt ∧ x24.toInt < x30.toInt := by
                    have := (h_a1).1; have := (h_a1).2; have := (h_e4).1; have := (h_e4).2; have := (h190).1; have := (h190).2; have := (h36).1; have := (h36).2; have := (h_x30).1; have := (h_x30).2; exact ⟨by omega, by omega⟩
                  have zS278 : ∀ k : Nat, (k : Int) < x24.toInt → M81 fg k = M25 fg k := (fun k hk => (Fr.kpa f78 hk_fg rfl k).trans ((fun k hk => (Fr.kpa f61 hk_fg rfl k).trans (z48 k hk)) k hk))
                  have zP278 : ∀ k : Nat, (k : Int) = x24.toInt → (M81 fg k).toInt = (M25 fg k).toInt + 1 := (fun (k : Nat) (hk : (k : Int) = x24.toInt) => (show (M81 fg k).toInt = (M25 fg k).toInt + 1 from by rw [Fr.kpa f78 hk_fg rfl k]; exact (fun (k : Nat) (hk : (k : Int) = x24.toInt) => (show (M64 fg k).toInt = (M25 fg k).toInt + 1 from by rw [Fr.kpa f61 hk_fg rfl k]; exact z49 k hk)) k hk))
                  have zT278 : ∀ k : Nat, (k : Int) = x24.toInt → -1 ≤ (M81 fg k).toInt ∧ (M81 fg k).toInt < figG a1 := fun k hk => by rw [zP278 k hk]; have q := w1_25 k (by omega); have q2 := zP278 k hk; rw [show k = x24.toNatClampNeg by (have := ti_cl (x := x24) (by have := (h36).1; omega); omega), k39] at q ⊢; exact ⟨by omega, by omega⟩
                  have w278 : figI M81 fg (figG a1) x24.toInt := fun k hk => if h1 : (k : Int) < x24.toInt then (by rw [zS278 k (by omega)]; exact w1_25 k (by omega)) else zT278 k (by omega)
                  have hm279 : muT M81 fg (figG a1) x24.toInt < (n_25 : Int) := (by have q := mu_lt (M := M25) (M1 := M81) (fg := fg) (F := figG a1) (p := x24.toInt) (q := x24.toInt) ⟨by have := (h36).1; omega, by have := (h36).2; omega⟩ zS278 zP278 (Or.inl rfl); omega)
                  exact ih_25 x24 x30 M81 R26 J229 H locs _ (iv_mono h36 (by decide) (by decide)) h_x30 k189 w277 w278 hm279 hS (lv_sub hl [1, 2, 3] rfl)
            · have q280 : x89.toInt ≤ x86.toInt := ti_nlt c186
              have h281 : iv 0 2147483647 x86 := iv_geL (y := x89) h85 h185 q280 (by decide)
              refine lv_goto (tgt := 23) hx hb dX12_throwsVotes_102 (by decide) ?_
              have k282 : M81 a0 30 = x30 := ((Fr.kp (k := 30) f78 hk_a0 rfl).trans ((Fr.kp (k := 30) f61 hk_a0 rfl).trans (Fr.kp (k := 30) f45 hk_a0 rfl))).trans k31
              have w283 : x30.toInt = e4.toInt ∧ x24.toInt < x30.toInt := by
                have := (h_a1).1; have := (h_a1).2; have := (h_e4).1; have := (h_e4).2; have := (h36).1; have := (h36).2; have := (h_x30).1; have := (h_x30).2; exact ⟨by omega, by omega⟩
              have zS284 : ∀ k : Nat, (k : Int) < x24.toInt → M81 fg k = M25 fg k := (fun k hk => (Fr.kpa f78 hk_fg rfl k).trans ((fun k hk => (Fr.kpa f61 hk_fg rfl k).trans (z48 k hk)) k hk))
              have zP284 : ∀ k : Nat, (k : Int) = x24.toInt → (M81 fg k).toInt = (M25 fg k).toInt + 1 := (fun (k : Nat) (hk : (k : Int) = x24.toInt) => (show (M81 fg k).toInt = (M25 fg k).toInt + 1 from by rw [Fr.kpa f78 hk_fg rfl k]; exact (fun (k : Nat) (hk : (k : Int) = x24.toInt) => (show (M64 fg k).toInt = (M25 fg k).toInt + 1 from by rw [Fr.kpa f61 hk_fg rfl k]; exact z49 k hk)) k hk))
              have zT284 : ∀ k : Nat, (k : Int) = x24.toInt → -1 ≤ (M81 fg k).toInt ∧ (M81 fg k).toInt < figG a1 := fun k hk => by rw [zP284 k hk]; have q := w1_25 k (by omega); have q2 := zP284 k hk; rw [show k = x24.toNatClampNeg by (have := ti_cl (x := x24) (by have := (h36).1; omega); omega), k39] at q ⊢; exact ⟨by omega, by omega⟩
              have w284 : figI M81 fg (figG a1) x24.toInt := fun k hk => if h1 : (k : Int) < x24.toInt then (by rw [zS284 k (by omega)]; exact w1_25 k (by omega)) else zT284 k (by omega)
              have hm285 : muT M81 fg (figG a1) x24.toInt < (n_25 : Int) := (by have q := mu_lt (M := M25) (M1 := M81) (fg := fg) (F := figG a1) (p := x24.toInt) (q := x24.toInt) ⟨by have := (h36).1; omega, by have := (h36).2; omega⟩ zS284 zP284 (Or.inl rfl); omega)
              exact ih_25 x24 x30 M81 R26 J80 H locs _ (iv_mono h36 (by decide) (by decide)) h_x30 k282 w283 w284 hm285 hS (lv_sub hl [1, 2, 3] rfl)
        · have q286 : x43.toInt = x57.toInt := ti_eq c59
          have h287 : iv 3 27 x43 := ⟨by have := (h41).1; have := (h_x57).1; omega, by have := (h41).2; have := (h_x57).2; omega⟩
          refine tw_iinc (lv' := fun x290 => [(2, .int x290), (0, .ref (base + a0)), (1, .int a1)]) (lo := (-1)) (hi := 2) hx hb dX12_throwsVotes_51 hl (k := 0) rfl h36 (by decide) ⟨by decide, by decide⟩ ⟨by decide, by decide⟩ (by decide) (fun _ => rfl) (fun x290 ls e289 h288 hl => ?_)
          refine lv_goto (tgt := 23) hx hb dX12_throwsVotes_54 (by decide) ?_
          have k291 : M47 a0 30 = x30 := (Fr.kp (k := 30) f45 hk_a0 rfl).trans k31
          have w292 : x30.toInt = e4.toInt ∧ x290.toInt < x30.toInt := by
            have := (h_a1).1; have := (h_a1).2; have := (h_e4).1; have := (h_e4).2; have := (h36).1; have := (h36).2; have := (h288).1; have := (h288).2; have := (h_x30).1; have := (h_x30).2; exact ⟨by omega, by omega⟩
          have zS293 : ∀ k : Nat, (k : Int) < x24.toInt → M47 fg k = M25 fg k := z48
          have zP293 : ∀ k : Nat, (k : Int) = x24.toInt → (M47 fg k).toInt = (M25 fg k).toInt + 1 := z49
          have w293 : figI M47 fg (figG a1) x290.toInt := fun k hk => (by rw [zS293 k (by omega)]; exact w1_25 k (by omega))
          have hm294 : muT M47 fg (figG a1) x290.toInt < (n_25 : Int) := (by have q := mu_lt (M := M25) (M1 := M47) (fg := fg) (F := figG a1) (p := x24.toInt) (q := x290.toInt) ⟨by have := (h36).1; omega, by have := (h36).2; omega⟩ zS293 zP293 (Or.inr ⟨by omega, fun k hk => by rw [show k = x24.toNatClampNeg by (have := ti_cl (x := x24) (by have := (h36).1; omega); omega), k44]; omega⟩); omega)
          exact ih_25 x290 x30 M47 R26 J53 H locs _ (iv_mono h288 (by decide) (by decide)) h_x30 k291 w292 w293 hm294 hS hl
  have k295 : M20 a0 30 = e4 := ((Fr.kp (k := 30) f17 hk_a0 rfl).trans ((Fr.kp (k := 30) f15 hk_a0 rfl).trans (Fr.kp (k := 30) f10 hk_a0 rfl))).trans k8
  have w296 : e4.toInt = e4.toInt ∧ (0 : Int32).toInt < e4.toInt := by
    have := (h_a1).1; have := (h_a1).2; have := (h_e4).1; have := (h_e4).2; have : (0 : Int32).toInt = 0 := (by decide); exact ⟨by omega, by omega⟩
  have w297 : figI M20 fg (figG a1) (0 : Int32).toInt := fun k hk => by have q : (M20 fg (0 : Int32).toNatClampNeg).toInt = -1 := p23.2; have e0 : (0 : Int32).toNatClampNeg = 0 := (by decide); have e1 : (0 : Int32).toInt = 0 := (by decide); rw [e0] at q; rw [show k = 0 by omega, q]; have := figG_r a1; omega
  have hm298 : muT M20 fg (figG a1) (0 : Int32).toInt < (((10000000 : Nat) : Int) : Int) := (by have q : (M20 fg (0 : Int32).toNatClampNeg).toInt = -1 := p23.2; have e0 : (0 : Int32).toNatClampNeg = 0 := (by decide); have e1 : (0 : Int32).toInt = 0 := (by decide); rw [e0] at q; rw [e1]; have := figG_r a1; unfold muT muG; simp; omega)
  exact W23_25 10000000 0 e4 M20 Ra J19 H locs _ (iv_mono (iv_c (c := 0) (n := 0) (by decide)) (by decide) (by decide)) h_e4 k295 w296 w297 hm298 hS hl
def Lt_X12_lose : WL := [(12, 23, 24), (12, 28, 29), (12, 30, 33), (12, 43, 44), (14, 0, 2000000), (30, 0, 2000000), (31, 0, 2000000), (36, 0, 2000000), (41, 0, 2000000)]
def LRt_X12_lose : WL := []
set_option maxRecDepth 100000 in
set_option maxHeartbeats 4000000 in
theorem t_X12_lose (l : Launch) (D : va_G) (cy : Nat → ClassId) (tx : (Nat → Nat) × (Nat → Nat)) (base Z : Nat) (K N : Nat → Nat) (Ma : MT) (Ra : RT) (Ja : JT) (hTy : Ty Z K N Ma Ra) (a0 : Nat) (hz_a0 : a0 < Z) (hk_a0 : K a0 = 12) (a1 : Int32) (h_a1 : iv (-2147483648) 2147483647 a1) (co_a0 : Codes Ma Ra a0) : Met l yX12_lose [Cond.code yX12_lose cX12_lose 2 (some .int)] (md_rm 7 0 0) (va_Pc [.ref (base + a0), .int a1] (md_U D cy tx base Z K N Ma Ra Ja)) (mQi D cy tx base (fun r u => TP Z K N Lt_X12_lose LRt_X12_lose Ma Ra u ∧ (iv (-2) 2147483647 r))) 0 0 (fun q => base ≤ q) := by
  refine tw_ofW (L := Lt_X12_lose) (LR := LRt_X12_lose) (by decide) (Nat.le_of_ble_eq_true rfl) hTy ?_
  intro p e s m args below meth c Q ls hx hb hr hlocks hown hml hW hK hT hS hQ hl
  have hl : lv_has ls 2 [(0, .ref (base + a0)), (1, .int a1)] := hl
  refine lv_aload_n hx hb dX12_lose_0 rfl (lv_at hl 0 rfl) ?_
  refine lv_iload_n hx hb dX12_lose_1 rfl (lv_at hl 1 rfl) ?_
  obtain ⟨b1, k2, hz_b1, hk_b1, hn_b1⟩ := hS.2.1.ref hz_a0 hk_a0 (show rtR 12 25 = (23, 226, 0) from rfl)
  have hn_b1 := hn_b1 (by decide)
  obtain ⟨x5, k3⟩ : ∃ x, Ma b1 (4 : Int32).toNatClampNeg = x := ⟨_, rfl⟩
  have h4 : iv 0 8 x5 := by rw [← k3]; exact hS.2.1.int hz_b1 hk_b1 (show rgI 23 (4 : Int32).toNatClampNeg = (0, 8) from rfl)
  refine tw_goi hS (md_runV (As := [.int a1]) (rest := []) hx hb hml hown hW hK hT hS.1 (t_X12_canLose l D cy tx base Z K N Ma Ra Ja hS.2.1 a0 hz_a0 hk_a0 a1 h_a1 b1 k2 x5 k3 (iv_mono h4 (by decide) (by decide))) s_X12_446 ⟨rfl, rfl, ⟨Nat.le_of_ble_eq_true rfl, Nat.le_of_ble_eq_true rfl⟩, ⟨Nat.le_of_ble_eq_true rfl, Nat.le_of_ble_eq_true rfl⟩⟩ hz_a0 hk_a0 (by decide) rfl rfl hl.1 rfl (Nat.le_of_ble_eq_true rfl) dX12_lose_2) rfl rfl (fun x12 H locs M9 R10 J8 hS f6 g7 E11 => ?_)
  have eM9 := Fr.nil f6 rfl
  subst eM9
  have eR10 := Fr.nil g7 rfl
  subst eR10
  obtain ⟨h_x12, p13⟩ := E11
  refine lv_if_ne (tgt := 10) hx hb dX12_lose_5 (by decide) (fun c14 => ?_) (fun c14 => ?_)
  · have q15 : ¬ x12.toInt = 0 := ti_ne c14
    have h16 : iv 1 1 x12 := ⟨by have := (h_x12).1; have := ((iv_c (c := 0) (n := 0) (by decide))).1; have := ((iv_c (c := 0) (n := 0) (by decide))).2; omega, by have := (h_x12).2; have := ((iv_c (c := 0) (n := 0) (by decide))).1; have := ((iv_c (c := 0) (n := 0) (by decide))).2; omega⟩
    have h17 : iv 1 4 x5 := ⟨by have := (p13 c14).1; have := (h4).1; omega, by have := (p13 c14).2; have := (h4).2; omega⟩
    refine lv_aload_n hx hb dX12_lose_10 rfl (lv_at hl 0 rfl) ?_
    refine lv_iload_n hx hb dX12_lose_11 rfl (lv_at hl 1 rfl) ?_
    obtain ⟨b18, k19, hz_b18, hk_b18, hn_b18⟩ := hS.2.1.ref hz_a0 hk_a0 (show rtR 12 38 = (41, 5, 0) from rfl)
    have hn_b18 := hn_b18 (by decide)
    refine tw_gov hS (md_runV (As := [.int a1]) (rest := []) hx hb hml hown hW hK hT hS.1 (t_X12_throwsVotes l D cy tx base Z K N Ma Ra J8 hS.2.1 a0 hz_a0 hk_a0 a1 h_a1 co_a0 b1 k2 x5 k3 (iv_mono h17 (by decide) (by decide)) b18 k19) s_X12_449 ⟨rfl, rfl, ⟨Nat.le_of_ble_eq_true rfl, Nat.le_of_ble_eq_true rfl⟩, ⟨Nat.le_of_ble_eq_true rfl, Nat.le_of_ble_eq_true rfl⟩⟩ hz_a0 hk_a0 (by decide) rfl rfl hl.1 rfl (Nat.le_of_ble_eq_true rfl) dX12_lose_12) rfl rfl (fun H locs M23 R24 J22 hS f20 g21 E25 => ?_)
    have eR24 := Fr.nil g21 rfl
    subst eR24
    refine lv_aload_n hx hb dX12_lose_15 rfl (lv_at hl 0 rfl) ?_
    refine tw_geti hx hb hW hown hK hS f_X12_431_11 hz_a0 hk_a0 (lo := (-2147483648)) (hi := 2147483647) rfl dX12_lose_16 (fun x28 k27 h26 => ?_)
    refine lv_if_ge (tgt := 27) hx hb dX12_lose_19 (by decide) (fun c29 => ?_) (fun c29 => ?_)
    · have q30 : 0 ≤ x28.toInt := ti_le c29
      have h31 : iv 0 2147483647 x28 := iv_geL (y := 0) h26 (iv_c (c := 0) (n := 0) (by decide)) q30 (by decide)
      refine lv_aload_n hx hb dX12_lose_27 rfl (lv_at hl 0 rfl) ?_
      refine tw_getk hx hb hW hown hK hS f_X12_431_11 hz_a0 hk_a0 (v := x28) k27 dX12_lose_28 ?_
      exact tw_endi hx hb hr hlocks hK hT hS hQ ((iv_mono h31 (by decide) (by decide))) dX12_lose_31
    · have q32 : x28.toInt < 0 := ti_nle c29
      have h33 : iv (-2147483648) (-1) x28 := iv_ltL (y := 0) h26 (iv_c (c := 0) (n := 0) (by decide)) q32 (by decide)
      refine lv_bipush (v := (-2)) hx hb dX12_lose_22 (by decide) ?_
      refine lv_goto (tgt := 31) hx hb dX12_lose_24 (by decide) ?_
      exact tw_endi hx hb hr hlocks hK hT hS hQ ((iv_mono (iv_c (c := (-2)) (n := (-2)) (by decide)) (by decide) (by decide))) dX12_lose_31
  · have q34 : x12.toInt = 0 := ti_eq c14
    have h35 : iv 0 0 x12 := ⟨by have := (h_x12).1; have := ((iv_c (c := 0) (n := 0) (by decide))).1; omega, by have := (h_x12).2; have := ((iv_c (c := 0) (n := 0) (by decide))).2; omega⟩
    refine lv_iconst (v := (-1)) hx hb dX12_lose_8 (by decide) ?_
    exact tw_endi hx hb hr hlocks hK hT hS hQ ((iv_mono (iv_c (c := (-1)) (n := (-1)) (by decide)) (by decide) (by decide))) dX12_lose_9
def Lt_X12_plan : WL := [(12, 23, 24), (12, 28, 29), (12, 30, 33), (12, 43, 44), (14, 0, 2000000), (30, 0, 2000000), (31, 0, 2000000), (36, 0, 2000000), (41, 0, 2000000)]
def LRt_X12_plan : WL := []
set_option maxRecDepth 100000 in
set_option maxHeartbeats 4000000 in
theorem t_X12_plan (l : Launch) (D : va_G) (cy : Nat → ClassId) (tx : (Nat → Nat) × (Nat → Nat)) (base Z : Nat) (K N : Nat → Nat) (Ma : MT) (Ra : RT) (Ja : JT) (hTy : Ty Z K N Ma Ra) (a0 : Nat) (hz_a0 : a0 < Z) (hk_a0 : K a0 = 12) (a1 : Int32) (h_a1 : iv (-2147483648) 2147483647 a1) (a2 : Int32) (h_a2 : iv (-2147483648) 2147483647 a2) (a3 : Int32) (h_a3 : iv (-2147483648) 2147483647 a3) (co_a0 : Codes Ma Ra a0) : Met l yX12_plan [Cond.code yX12_plan cX12_plan 4 (some .int)] (md_rm 7 0 0) (va_Pc [.ref (base + a0), .int a1, .int a2, .int a3] (md_U D cy tx base Z K N Ma Ra Ja)) (mQi D cy tx base (fun r u => TP Z K N Lt_X12_plan LRt_X12_plan Ma Ra u ∧ (iv (-2) 2 r))) 0 0 (fun q => base ≤ q) := by
  refine tw_ofW (L := Lt_X12_plan) (LR := LRt_X12_plan) (by decide) (Nat.le_of_ble_eq_true rfl) hTy ?_
  intro p e s m args below meth c Q ls hx hb hr hlocks hown hml hW hK hT hS hQ hl
  have hl : lv_has ls 4 [(0, .ref (base + a0)), (1, .int a1), (2, .int a2), (3, .int a3)] := hl
  refine lv_aload_n hx hb dX12_plan_0 rfl (lv_at hl 0 rfl) ?_
  refine lv_iload_n hx hb dX12_plan_1 rfl (lv_at hl 1 rfl) ?_
  obtain ⟨b1, k2, hz_b1, hk_b1, hn_b1⟩ := hS.2.1.ref hz_a0 hk_a0 (show rtR 12 25 = (23, 226, 0) from rfl)
  have hn_b1 := hn_b1 (by decide)
  obtain ⟨x5, k3⟩ : ∃ x, Ma b1 (4 : Int32).toNatClampNeg = x := ⟨_, rfl⟩
  have h4 : iv 0 8 x5 := by rw [← k3]; exact hS.2.1.int hz_b1 hk_b1 (show rgI 23 (4 : Int32).toNatClampNeg = (0, 8) from rfl)
  refine tw_goi hS (md_runV (As := [.int a1]) (rest := []) hx hb hml hown hW hK hT hS.1 (t_X12_canLose l D cy tx base Z K N Ma Ra Ja hS.2.1 a0 hz_a0 hk_a0 a1 h_a1 b1 k2 x5 k3 (iv_mono h4 (by decide) (by decide))) s_X12_446 ⟨rfl, rfl, ⟨Nat.le_of_ble_eq_true rfl, Nat.le_of_ble_eq_true rfl⟩, ⟨Nat.le_of_ble_eq_true rfl, Nat.le_of_ble_eq_true rfl⟩⟩ hz_a0 hk_a0 (by decide) rfl rfl hl.1 rfl (Nat.le_of_ble_eq_true rfl) dX12_plan_2) rfl rfl (fun x12 H locs M9 R10 J8 hS f6 g7 E11 => ?_)
  have eM9 := Fr.nil f6 rfl
  subst eM9
  have eR10 := Fr.nil g7 rfl
  subst eR10
  obtain ⟨h_x12, p13⟩ := E11
  refine lv_if_eq (tgt := 42) hx hb dX12_plan_5 (by decide) (fun c14 => ?_) (fun c14 => ?_)
  · have q15 : x12.toInt = 0 := ti_eq c14
    have h16 : iv 0 0 x12 := ⟨by have := (h_x12).1; have := ((iv_c (c := 0) (n := 0) (by decide))).1; omega, by have := (h_x12).2; have := ((iv_c (c := 0) (n := 0) (by decide))).2; omega⟩
    refine lv_iconst (v := (-1)) hx hb dX12_plan_42 (by decide) ?_
    exact tw_endi hx hb hr hlocks hK hT hS hQ ((iv_mono (iv_c (c := (-1)) (n := (-1)) (by decide)) (by decide) (by decide))) dX12_plan_43
  · have q17 : ¬ x12.toInt = 0 := ti_ne c14
    have h18 : iv 1 1 x12 := ⟨by have := (h_x12).1; have := ((iv_c (c := 0) (n := 0) (by decide))).1; have := ((iv_c (c := 0) (n := 0) (by decide))).2; omega, by have := (h_x12).2; have := ((iv_c (c := 0) (n := 0) (by decide))).1; have := ((iv_c (c := 0) (n := 0) (by decide))).2; omega⟩
    have h19 : iv 1 4 x5 := ⟨by have := (p13 c14).1; have := (h4).1; omega, by have := (p13 c14).2; have := (h4).2; omega⟩
    refine lv_iload_n hx hb dX12_plan_8 rfl (lv_at hl 2 rfl) ?_
    refine lv_i2l hx hb dX12_plan_9 rfl ?_
    refine lv_lconst (v := 0) hx hb dX12_plan_10 (by decide) ?_
    refine lv_aload_n hx hb dX12_plan_11 rfl (lv_at hl 0 rfl) ?_
    refine tw_getrk hx hb hW hown hK hS f_X12_45_11 hz_a0 hk_a0 (b := b1) k2 dX12_plan_12 ?_
    refine lv_iconst (v := 4) hx hb dX12_plan_15 (by decide) ?_
    refine tw_ialk hx hb hK hS hz_b1 hk_b1 (Or.inr (by decide)) hn_b1 (iv_c (c := 4) (n := 4) (by decide)) ⟨by decide, by decide⟩ (v := x5) k3 dX12_plan_16 ?_
    refine lv_iconst (v := 1) hx hb dX12_plan_17 (by decide) ?_
    refine tw_isub (lo := 0) (hi := 3) hx hb h19 (iv_c (c := 1) (n := 1) (by decide)) ⟨by decide, by decide⟩ ⟨by decide, by decide⟩ dX12_plan_18 (fun x22 e21 h20 => ?_)
    have e21 : x22.toInt = x5.toInt - 1 := e21
    refine lv_i2l hx hb dX12_plan_19 rfl ?_
    refine tw_goi hS (md_runS (As := [.long a2.toInt64, .long 0, .long x22.toInt64]) (rest := []) hx hb hml hown hW hK hT hS.1 (t_X12_in l D cy tx base Z K N Ma Ra J8 hS.2.1 (a2.toInt64) (0) (x22.toInt64)) s_X12_155 ⟨rfl, rfl, ⟨Nat.le_of_ble_eq_true rfl, Nat.le_of_ble_eq_true rfl⟩, ⟨Nat.le_of_ble_eq_true rfl, Nat.le_of_ble_eq_true rfl⟩⟩ rfl hl.1 rfl (Nat.le_of_ble_eq_true rfl) dX12_plan_20) rfl rfl (fun x29 H locs M26 R27 J25 hS f23 g24 E28 => ?_)
    have eM26 := Fr.nil f23 rfl
    subst eM26
    have eR27 := Fr.nil g24 rfl
    subst eR27
    obtain ⟨h_x29, p30⟩ := E28
    have p31 := p30.1
    refine lv_if_eq (tgt := 42) hx hb dX12_plan_23 (by decide) (fun c32 => ?_) (fun c32 => ?_)
    · have q33 : x29.toInt = 0 := ti_eq c32
      have q34 := p30.2 c32
      have h35 : iv 0 0 x29 := ⟨by have := (h_x29).1; have := ((iv_c (c := 0) (n := 0) (by decide))).1; omega, by have := (h_x29).2; have := ((iv_c (c := 0) (n := 0) (by decide))).2; omega⟩
      refine lv_iconst (v := (-1)) hx hb dX12_plan_42 (by decide) ?_
      exact tw_endi hx hb hr hlocks hK hT hS hQ ((iv_mono (iv_c (c := (-1)) (n := (-1)) (by decide)) (by decide) (by decide))) dX12_plan_43
    · have q36 : ¬ x29.toInt = 0 := ti_ne c32
      have h37 : iv 1 1 x29 := ⟨by have := (h_x29).1; have := ((iv_c (c := 0) (n := 0) (by decide))).1; have := ((iv_c (c := 0) (n := 0) (by decide))).2; omega, by have := (h_x29).2; have := ((iv_c (c := 0) (n := 0) (by decide))).1; have := ((iv_c (c := 0) (n := 0) (by decide))).2; omega⟩
      have h38 : iv 0 3 a2 := in2iv (p31 c32) ((jv_c (x := 0) (n := 0) (by decide))).1 ((jv_o h20)).2
      have q39 := (p31 c32).2
      rw [Int32.toInt_toInt64, Int32.toInt_toInt64] at q39
      refine lv_aload_n hx hb dX12_plan_26 rfl (lv_at hl 0 rfl) ?_
      refine lv_iload_n hx hb dX12_plan_27 rfl (lv_at hl 3 rfl) ?_
      refine tw_goi hS (md_runV (As := [.int a3]) (rest := []) hx hb hml hown hW hK hT hS.1 (t_X12_isMember l D cy tx base Z K N Ma Ra J25 hS.2.1 a0 hz_a0 hk_a0 a3 h_a3) s_X12_319 ⟨rfl, rfl, ⟨Nat.le_of_ble_eq_true rfl, Nat.le_of_ble_eq_true rfl⟩, ⟨Nat.le_of_ble_eq_true rfl, Nat.le_of_ble_eq_true rfl⟩⟩ hz_a0 hk_a0 (by decide) rfl rfl hl.1 rfl (Nat.le_of_ble_eq_true rfl) dX12_plan_28) rfl rfl (fun x46 H locs M43 R44 J42 hS f40 g41 E45 => ?_)
      have eM43 := Fr.nil f40 rfl
      subst eM43
      have eR44 := Fr.nil g41 rfl
      subst eR44
      obtain ⟨h_x46, p47⟩ := E45
      refine lv_if_eq (tgt := 42) hx hb dX12_plan_31 (by decide) (fun c48 => ?_) (fun c48 => ?_)
      · have q49 : x46.toInt = 0 := ti_eq c48
        have h50 : iv 0 0 x46 := ⟨by have := (h_x46).1; have := ((iv_c (c := 0) (n := 0) (by decide))).1; omega, by have := (h_x46).2; have := ((iv_c (c := 0) (n := 0) (by decide))).2; omega⟩
        refine lv_iconst (v := (-1)) hx hb dX12_plan_42 (by decide) ?_
        exact tw_endi hx hb hr hlocks hK hT hS hQ ((iv_mono (iv_c (c := (-1)) (n := (-1)) (by decide)) (by decide) (by decide))) dX12_plan_43
      · have q51 : ¬ x46.toInt = 0 := ti_ne c48
        have h52 : iv 1 1 x46 := ⟨by have := (h_x46).1; have := ((iv_c (c := 0) (n := 0) (by decide))).1; have := ((iv_c (c := 0) (n := 0) (by decide))).2; omega, by have := (h_x46).2; have := ((iv_c (c := 0) (n := 0) (by decide))).1; have := ((iv_c (c := 0) (n := 0) (by decide))).2; omega⟩
        have h53 : iv 0 9 a3 := ⟨by have := (p47 c48).1; have := (h_a3).1; omega, by have := (p47 c48).2; have := (h_a3).2; omega⟩
        refine lv_iload_n hx hb dX12_plan_34 rfl (lv_at hl 1 rfl) ?_
        refine lv_iload_n hx hb dX12_plan_35 rfl (lv_at hl 3 rfl) ?_
        refine tw_goi hS (md_runS (As := [.int a1, .int a3]) (rest := []) hx hb hml hown hW hK hT hS.1 (t_X12_isOf l D cy tx base Z K N Ma Ra J42 hS.2.1 a1 h_a1 a3 h53) s_X12_322 ⟨rfl, rfl, ⟨Nat.le_of_ble_eq_true rfl, Nat.le_of_ble_eq_true rfl⟩, ⟨Nat.le_of_ble_eq_true rfl, Nat.le_of_ble_eq_true rfl⟩⟩ rfl hl.1 rfl (Nat.le_of_ble_eq_true rfl) dX12_plan_36) rfl rfl (fun x60 H locs M57 R58 J56 hS f54 g55 E59 => ?_)
        have eM57 := Fr.nil f54 rfl
        subst eM57
        have eR58 := Fr.nil g55 rfl
        subst eR58
        have h_x60 := E59
        clear E59
        refine lv_if_ne (tgt := 44) hx hb dX12_plan_39 (by decide) (fun c61 => ?_) (fun c61 => ?_)
        · have q62 : ¬ x60.toInt = 0 := ti_ne c61
          have h63 : iv 1 1 x60 := ⟨by have := (h_x60).1; have := ((iv_c (c := 0) (n := 0) (by decide))).1; have := ((iv_c (c := 0) (n := 0) (by decide))).2; omega, by have := (h_x60).2; have := ((iv_c (c := 0) (n := 0) (by decide))).1; have := ((iv_c (c := 0) (n := 0) (by decide))).2; omega⟩
          refine lv_aload_n hx hb dX12_plan_44 rfl (lv_at hl 0 rfl) ?_
          refine lv_iload_n hx hb dX12_plan_45 rfl (lv_at hl 1 rfl) ?_
          obtain ⟨b64, k65, hz_b64, hk_b64, hn_b64⟩ := hS.2.1.ref hz_a0 hk_a0 (show rtR 12 38 = (41, 5, 0) from rfl)
          have hn_b64 := hn_b64 (by decide)
          refine tw_gov hS (md_runV (As := [.int a1]) (rest := []) hx hb hml hown hW hK hT hS.1 (t_X12_throwsVotes l D cy tx base Z K N Ma Ra J56 hS.2.1 a0 hz_a0 hk_a0 a1 h_a1 co_a0 b1 k2 x5 k3 (iv_mono h19 (by decide) (by decide)) b64 k65) s_X12_449 ⟨rfl, rfl, ⟨Nat.le_of_ble_eq_true rfl, Nat.le_of_ble_eq_true rfl⟩, ⟨Nat.le_of_ble_eq_true rfl, Nat.le_of_ble_eq_true rfl⟩⟩ hz_a0 hk_a0 (by decide) rfl rfl hl.1 rfl (Nat.le_of_ble_eq_true rfl) dX12_plan_46) rfl rfl (fun H locs M69 R70 J68 hS f66 g67 E71 => ?_)
          have eR70 := Fr.nil g67 rfl
          subst eR70
          refine lv_aload_n hx hb dX12_plan_49 rfl (lv_at hl 0 rfl) ?_
          refine tw_geti hx hb hW hown hK hS f_X12_431_11 hz_a0 hk_a0 (lo := (-2147483648)) (hi := 2147483647) rfl dX12_plan_50 (fun x74 k73 h72 => ?_)
          refine lv_if_ge (tgt := 61) hx hb dX12_plan_53 (by decide) (fun c75 => ?_) (fun c75 => ?_)
          · have q76 : 0 ≤ x74.toInt := ti_le c75
            have h77 : iv 0 2147483647 x74 := iv_geL (y := 0) h72 (iv_c (c := 0) (n := 0) (by decide)) q76 (by decide)
            refine lv_aload_n hx hb dX12_plan_61 rfl (lv_at hl 0 rfl) ?_
            refine lv_iload_n hx hb dX12_plan_62 rfl (lv_at hl 1 rfl) ?_
            refine lv_iload_n hx hb dX12_plan_63 rfl (lv_at hl 3 rfl) ?_
            refine lv_aload_n hx hb dX12_plan_64 rfl (lv_at hl 0 rfl) ?_
            refine tw_getr hx hb hW hown hK hS f_X12_78_11 hz_a0 hk_a0 (t := 14) (n := 5) rfl dX12_plan_65 (fun b78 k79 hz_b78 hk_b78 hn_b78 => ?_)
            have hn_b78 := hn_b78 (by decide)
            refine lv_iload_n hx hb dX12_plan_68 rfl (lv_at hl 2 rfl) ?_
            refine tw_iald hx hb hK hS hz_b78 hk_b78 (Or.inl rfl) hn_b78 (lo := (-2147483648)) (hi := 2147483647) h38 ⟨by decide, by decide⟩ rg_u14 dX12_plan_69 (fun x82 k81 h80 => ?_)
            refine tw_goi hS (md_runV (As := [.int a1, .int a3, .int x82]) (rest := []) hx hb hml hown hW hK hT hS.1 (t_X12_sayingBy l D cy tx base Z K N M69 Ra J68 hS.2.1 a0 hz_a0 hk_a0 a1 h_a1 a3 h53 x82 h80) s_X12_428 ⟨rfl, rfl, ⟨Nat.le_of_ble_eq_true rfl, Nat.le_of_ble_eq_true rfl⟩, ⟨Nat.le_of_ble_eq_true rfl, Nat.le_of_ble_eq_true rfl⟩⟩ hz_a0 hk_a0 (by decide) rfl rfl hl.1 rfl (Nat.le_of_ble_eq_true rfl) dX12_plan_70) rfl rfl (fun x89 H locs M86 R87 J85 hS f83 g84 E88 => ?_)
            have eM86 := Fr.nil f83 rfl
            subst eM86
            have eR87 := Fr.nil g84 rfl
            subst eR87
            have h_x89 := E88
            clear E88
            exact tw_endi hx hb hr hlocks hK hT hS hQ ((iv_mono h_x89 (by decide) (by decide))) dX12_plan_73
          · have q90 : x74.toInt < 0 := ti_nle c75
            have h91 : iv (-2147483648) (-1) x74 := iv_ltL (y := 0) h72 (iv_c (c := 0) (n := 0) (by decide)) q90 (by decide)
            refine lv_bipush (v := (-2)) hx hb dX12_plan_56 (by decide) ?_
            refine lv_goto (tgt := 73) hx hb dX12_plan_58 (by decide) ?_
            exact tw_endi hx hb hr hlocks hK hT hS hQ ((iv_mono (iv_c (c := (-2)) (n := (-2)) (by decide)) (by decide) (by decide))) dX12_plan_73
        · have q92 : x60.toInt = 0 := ti_eq c61
          have h93 : iv 0 0 x60 := ⟨by have := (h_x60).1; have := ((iv_c (c := 0) (n := 0) (by decide))).1; omega, by have := (h_x60).2; have := ((iv_c (c := 0) (n := 0) (by decide))).2; omega⟩
          refine lv_iconst (v := (-1)) hx hb dX12_plan_42 (by decide) ?_
          exact tw_endi hx hb hr hlocks hK hT hS hQ ((iv_mono (iv_c (c := (-1)) (n := (-1)) (by decide)) (by decide) (by decide))) dX12_plan_43
def Lt_X12_rule : WL := [(12, 1, 3), (12, 7, 10), (12, 13, 20), (12, 21, 22), (14, 0, 2000000), (25, 0, 2000000), (26, 0, 2000000), (27, 0, 2000000), (28, 0, 2000000), (35, 0, 2000000)]
def LRt_X12_rule : WL := []
set_option maxRecDepth 100000 in
set_option maxHeartbeats 4000000 in
theorem t_X12_rule (l : Launch) (D : va_G) (cy : Nat → ClassId) (tx : (Nat → Nat) × (Nat → Nat)) (base Z : Nat) (K N : Nat → Nat) (Ma : MT) (Ra : RT) (Ja : JT) (hTy : Ty Z K N Ma Ra) (a0 : Nat) (hz_a0 : a0 < Z) (hk_a0 : K a0 = 12) (co_a0 : Codes Ma Ra a0) (sg : Nat) (k_sg : Ra a0 3 = some sg) (cl : Nat) (k_cl : Ra a0 5 = some cl) (cs : Nat) (k_cs : Ra a0 6 = some cs) : Met l yX12_rule [Cond.code yX12_rule cX12_rule 1 (some .int)] (md_rm 13 0 0) (va_Pc [.ref (base + a0)] (md_U D cy tx base Z K N Ma Ra Ja)) (mQi D cy tx base (fun r u => TP Z K N Lt_X12_rule LRt_X12_rule Ma Ra u ∧ (iv (-2147483648) 2147483647 r ∧ Codes u.2.2.2.1 u.2.2.2.2.1 a0))) 0 0 (fun q => base ≤ q) := by
  refine tw_ofW (L := Lt_X12_rule) (LR := LRt_X12_rule) (by decide) (Nat.le_of_ble_eq_true rfl) hTy ?_
  intro p e s m args below meth c Q ls hx hb hr hlocks hown hml hW hK hT hS hQ hl
  have hl : lv_has ls 1 [(0, .ref (base + a0))] := hl
  obtain ⟨hz_sg, hk_sg, hn_sg⟩ := hTy.refn hz_a0 hk_a0 (show rtR 12 3 = (25, 2400, 0) from rfl) k_sg
  have hn_sg := hn_sg (by decide)
  obtain ⟨hz_cl, hk_cl, hn_cl⟩ := hTy.refn hz_a0 hk_a0 (show rtR 12 5 = (27, 216, 0) from rfl) k_cl
  have hn_cl := hn_cl (by decide)
  obtain ⟨hz_cs, hk_cs, hn_cs⟩ := hTy.refn hz_a0 hk_a0 (show rtR 12 6 = (28, 6, 0) from rfl) k_cs
  have hn_cs := hn_cs (by decide)
  refine lv_aload_n hx hb dX12_rule_0 rfl (lv_at hl 0 rfl) ?_
  refine tw_geti hx hb hW hown hK hS f_X12_298_11 hz_a0 hk_a0 (lo := 0) (hi := 6) rfl dX12_rule_1 (fun x3 k2 h1 => ?_)
  refine lv_bipush (v := 6) hx hb dX12_rule_4 (by decide) ?_
  refine lv_icmp_ne (tgt := 11) hx hb dX12_rule_6 (by decide) (fun c4 => ?_) (fun c4 => ?_)
  · have q5 : ¬ x3.toInt = 6 := ti_ne c4
    have h6 : iv 0 5 x3 := ⟨by have := (h1).1; have := ((iv_c (c := 6) (n := 6) (by decide))).1; have := ((iv_c (c := 6) (n := 6) (by decide))).2; omega, by have := (h1).2; have := ((iv_c (c := 6) (n := 6) (by decide))).1; have := ((iv_c (c := 6) (n := 6) (by decide))).2; omega⟩
    refine lv_aload_n hx hb dX12_rule_11 rfl (lv_at hl 0 rfl) ?_
    refine lv_aload_n hx hb dX12_rule_12 rfl (lv_at hl 0 rfl) ?_
    refine tw_getk hx hb hW hown hK hS f_X12_298_11 hz_a0 hk_a0 (v := x3) k2 dX12_rule_13 ?_
    refine tw_puti hx hb hW hown hK hS f_X12_179_11 hz_a0 hk_a0 rfl rfl (lo := 0) (hi := 6) rfl (iv_mono h6 (by decide) (by decide)) rfl dX12_rule_16 (fun H locs M9 hS k7 f8 => ?_)
    refine lv_aload_n hx hb dX12_rule_19 rfl (lv_at hl 0 rfl) ?_
    refine tw_getrk hx hb hW hown hK hS f_X12_23_11 hz_a0 hk_a0 (b := cs) k_cs dX12_rule_20 ?_
    refine lv_aload_n hx hb dX12_rule_23 rfl (lv_at hl 0 rfl) ?_
    refine tw_getk hx hb hW hown hK hS f_X12_179_11 hz_a0 hk_a0 (v := x3) k7 dX12_rule_24 ?_
    refine lv_iconst (v := 0) hx hb dX12_rule_27 (by decide) ?_
    refine tw_iasx hx hb hK hS hz_cs hk_cs (Or.inr (by decide)) hn_cs h6 ⟨by decide, by decide⟩ (okI_0 28 _) (jl := 0) (jh := 1999999) ⟨by decide, by decide⟩ rfl dX12_rule_28 (fun H locs M13 hS k10 f11 e12 => ?_)
    have z14 : ∀ j, j ≠ x3.toNatClampNeg → M13 cs j = Ma cs j := fun j hj => by rw [e12, u2_nk hj]; exact (Fr.kpa f8 hk_cs rfl j)
    refine lv_aload_n hx hb dX12_rule_29 rfl (lv_at hl 0 rfl) ?_
    obtain ⟨b15, k16, hz_b15, hk_b15, hn_b15⟩ := hS.2.1.ref hz_a0 hk_a0 (show rtR 12 0 = (13, 400, 0) from rfl)
    have hn_b15 := hn_b15 (by decide)
    obtain ⟨x19, k17⟩ : ∃ x, M13 a0 1 = x := ⟨_, rfl⟩
    have h18 : iv 0 400 x19 := by rw [← k17]; exact hS.2.1.int hz_a0 hk_a0 (show rgI 12 1 = (0, 400) from rfl)
    obtain ⟨b20, k21, hz_b20, hk_b20, hn_b20⟩ := hS.2.1.ref hz_a0 hk_a0 (show rtR 12 4 = (26, 7, 0) from rfl)
    have hn_b20 := hn_b20 (by decide)
    have k22 : M13 a0 16 = x3 := (Fr.kp (k := 16) f11 hk_a0 rfl).trans k7
    obtain ⟨b23, k24, hz_b23, hk_b23, hn_b23⟩ := hS.2.1.ref hz_a0 hk_a0 (show rtR 12 20 = (14, 400, 0) from rfl)
    have hn_b23 := hn_b23 (by decide)
    have q25 : x3.toInt = 6 ∨ (0 : Int32).toInt = 0 := by
      have := (h6).1; have := (h6).2; have : (0 : Int32).toInt = 0 := (by decide); omega
    refine tw_goi hS (md_runV (As := []) (rest := []) hx hb hml hown hW hK hT hS.1 (t_X12_readsAll l D cy tx base Z K N M13 Ra Ja hS.2.1 a0 hz_a0 hk_a0 b15 k16 x19 k17 (iv_mono h18 (by decide) (by decide)) b20 k21 sg k_sg x3 k22 (iv_mono h6 (by decide) (by decide)) b23 k24 cs k_cs cl k_cl 0 k10 (iv_mono (iv_c (c := 0) (n := 0) (by decide)) (by decide) (by decide)) q25) s_X12_301 ⟨rfl, rfl, ⟨Nat.le_of_ble_eq_true rfl, Nat.le_of_ble_eq_true rfl⟩, ⟨Nat.le_of_ble_eq_true rfl, Nat.le_of_ble_eq_true rfl⟩⟩ hz_a0 hk_a0 (by decide) rfl rfl hl.1 rfl (Nat.le_of_ble_eq_true rfl) dX12_rule_30) rfl rfl (fun x32 H locs M29 R30 J28 hS f26 g27 E31 => ?_)
    have eR30 := Fr.nil g27 rfl
    subst eR30
    obtain ⟨h_x32, p33⟩ := E31
    obtain ⟨zf33, zg33, zh33, zc33⟩ := p33
    have zt33 := ti_cl (x := x3) (by have := (h6).1; omega)
    have k35 : M29 a0 2 = x3 := ((Fr.kp (k := 2) f26 hk_a0 rfl).trans ((Fr.kp (k := 2) f11 hk_a0 rfl).trans (Fr.kp (k := 2) f8 hk_a0 rfl))).trans k2
    have zb33 : ∀ t, (Ma cs t).toInt ≤ 12 := fun t => (hTy.int hz_cs hk_cs (k := t) (lo := 0) (hi := 12) rfl).2
    have z34 : Codes M29 Ra a0 := Codes.low (T := x3.toNatClampNeg) co_a0 k_sg k_cl k_cs k_sg k_cl k_cs (by rw [← ((Fr.kp (k := 2) f26 hk_a0 rfl).trans ((Fr.kp (k := 2) f11 hk_a0 rfl).trans (Fr.kp (k := 2) f8 hk_a0 rfl))), k35]; have := (h6).2; have := (h6).1; omega) (((Fr.kp (k := 2) f26 hk_a0 rfl).trans ((Fr.kp (k := 2) f11 hk_a0 rfl).trans (Fr.kp (k := 2) f8 hk_a0 rfl)))) zb33 (fun j hj => (zf33 j hj).trans ((fun j _ => ((Fr.kpa f11 hk_sg rfl j).trans (Fr.kpa f8 hk_sg rfl j))) j hj)) (fun j hj => (zg33 j hj).trans ((fun j _ => ((Fr.kpa f11 hk_cl rfl j).trans (Fr.kpa f8 hk_cl rfl j))) j hj)) (fun j hj => (zh33 j hj).trans (z14 j hj))
    have k36 : M29 a0 2 = x3 := ((Fr.kp (k := 2) f26 hk_a0 rfl).trans ((Fr.kp (k := 2) f11 hk_a0 rfl).trans (Fr.kp (k := 2) f8 hk_a0 rfl))).trans k2
    refine lv_if_ne (tgt := 44) hx hb dX12_rule_33 (by decide) (fun c37 => ?_) (fun c37 => ?_)
    · have q38 : ¬ x32.toInt = 0 := ti_ne c37
      have h39 : iv 1 1 x32 := ⟨by have := (h_x32).1; have := ((iv_c (c := 0) (n := 0) (by decide))).1; have := ((iv_c (c := 0) (n := 0) (by decide))).2; omega, by have := (h_x32).2; have := ((iv_c (c := 0) (n := 0) (by decide))).1; have := ((iv_c (c := 0) (n := 0) (by decide))).2; omega⟩
      refine lv_aload_n hx hb dX12_rule_44 rfl (lv_at hl 0 rfl) ?_
      refine lv_dup hx hb dX12_rule_45 rfl ?_
      have k40 : M29 a0 2 = x3 := ((Fr.kp (k := 2) f26 hk_a0 rfl).trans ((Fr.kp (k := 2) f11 hk_a0 rfl).trans (Fr.kp (k := 2) f8 hk_a0 rfl))).trans k2
      refine tw_getk hx hb hW hown hK hS f_X12_298_11 hz_a0 hk_a0 (v := x3) k40 dX12_rule_46 ?_
      refine lv_iconst (v := 1) hx hb dX12_rule_49 (by decide) ?_
      refine tw_iadd (lo := 1) (hi := 6) hx hb h6 (iv_c (c := 1) (n := 1) (by decide)) ⟨by decide, by decide⟩ ⟨by decide, by decide⟩ dX12_rule_50 (fun x43 e42 h41 => ?_)
      have e42 : x43.toInt = x3.toInt + 1 := e42
      refine tw_puti hx hb hW hown hK hS f_X12_298_11 hz_a0 hk_a0 rfl rfl (lo := 0) (hi := 6) rfl (iv_mono h41 (by decide) (by decide)) rfl dX12_rule_51 (fun H locs M46 hS k44 f45 => ?_)
      obtain ⟨y233, y433, u233, u433, u533, u633⟩ := (zc33.resolve_left c37).resolve_left (by have := (h6).2; omega)
      have u433 : M29 cs x3.toNatClampNeg = y433 := u433
      have zy33 : (M29 cs x3.toNatClampNeg).toInt ≤ ((y433.toNatClampNeg : Nat) : Int) := by rw [u433]; show _ ≤ ((y433.toInt.toNat : Nat) : Int); omega
      have z47 : Codes M46 Ra a0 := Codes.add (T := x3.toNatClampNeg) z34 k_sg k_cl k_cs k_sg k_cl k_cs (by rw [k36]; omega) (by rw [k44]; omega) (fun j => Fr.kpa f45 hk_sg rfl j) (fun j => Fr.kpa f45 hk_cl rfl j) (fun j => Fr.kpa f45 hk_cs rfl j) zy33 u533 u633
      refine lv_aload_n hx hb dX12_rule_54 rfl (lv_at hl 0 rfl) ?_
      refine tw_getk hx hb hW hown hK hS f_X12_298_11 hz_a0 hk_a0 (v := x43) k44 dX12_rule_55 ?_
      refine lv_iconst (v := 1) hx hb dX12_rule_58 (by decide) ?_
      refine tw_isub (lo := 0) (hi := 5) hx hb h41 (iv_c (c := 1) (n := 1) (by decide)) ⟨by decide, by decide⟩ ⟨by decide, by decide⟩ dX12_rule_59 (fun x50 e49 h48 => ?_)
      have e49 : x50.toInt = x43.toInt - 1 := e49
      exact tw_endi hx hb hr hlocks hK hT hS hQ (⟨(iv_mono h48 (by decide) (by decide)), z47⟩) dX12_rule_60
    · have q51 : x32.toInt = 0 := ti_eq c37
      have h52 : iv 0 0 x32 := ⟨by have := (h_x32).1; have := ((iv_c (c := 0) (n := 0) (by decide))).1; omega, by have := (h_x32).2; have := ((iv_c (c := 0) (n := 0) (by decide))).2; omega⟩
      refine lv_bipush (v := (-2)) hx hb dX12_rule_36 (by decide) ?_
      refine lv_aload_n hx hb dX12_rule_38 rfl (lv_at hl 0 rfl) ?_
      refine tw_geti hx hb hW hown hK hS f_X12_124_11 hz_a0 hk_a0 (lo := (-2147483648)) (hi := 2147483647) rfl dX12_rule_39 (fun x55 k54 h53 => ?_)
      refine lv_isub hx hb dX12_rule_42 ?_
      refine tw_top (fun x57 => ?_)
      have h56 := iv_any x57
      exact tw_endi hx hb hr hlocks hK hT hS hQ (⟨h56, z34⟩) dX12_rule_43
  · have q58 : x3.toInt = 6 := ti_eq c4
    have h59 : iv 6 6 x3 := ⟨by have := (h1).1; have := ((iv_c (c := 6) (n := 6) (by decide))).1; omega, by have := (h1).2; have := ((iv_c (c := 6) (n := 6) (by decide))).2; omega⟩
    refine lv_iconst (v := (-1)) hx hb dX12_rule_9 (by decide) ?_
    exact tw_endi hx hb hr hlocks hK hT hS hQ (⟨(iv_mono (iv_c (c := (-1)) (n := (-1)) (by decide)) (by decide) (by decide)), co_a0⟩) dX12_rule_10
def Lt_X12_spoilers : WL := [(12, 23, 24), (12, 28, 29), (12, 30, 33), (12, 43, 44), (14, 0, 2000000), (30, 0, 2000000), (31, 0, 2000000), (36, 0, 2000000), (41, 0, 2000000)]
def LRt_X12_spoilers : WL := []
set_option maxRecDepth 100000 in
set_option maxHeartbeats 4000000 in
theorem t_X12_spoilers (l : Launch) (D : va_G) (cy : Nat → ClassId) (tx : (Nat → Nat) × (Nat → Nat)) (base Z : Nat) (K N : Nat → Nat) (Ma : MT) (Ra : RT) (Ja : JT) (hTy : Ty Z K N Ma Ra) (a0 : Nat) (hz_a0 : a0 < Z) (hk_a0 : K a0 = 12) (a1 : Int32) (h_a1 : iv (-2147483648) 2147483647 a1) (co_a0 : Codes Ma Ra a0) : Met l yX12_spoilers [Cond.code yX12_spoilers cX12_spoilers 6 (some .int)] (md_rm 7 0 0) (va_Pc [.ref (base + a0), .int a1] (md_U D cy tx base Z K N Ma Ra Ja)) (mQi D cy tx base (fun r u => TP Z K N Lt_X12_spoilers LRt_X12_spoilers Ma Ra u ∧ (iv (-2147483648) 2147483647 r))) 0 0 (fun q => base ≤ q) := by
  refine tw_ofW (L := Lt_X12_spoilers) (LR := LRt_X12_spoilers) (by decide) (Nat.le_of_ble_eq_true rfl) hTy ?_
  intro p e s m args below meth c Q ls hx hb hr hlocks hown hml hW hK hT hS hQ hl
  have hl : lv_has ls 6 [(0, .ref (base + a0)), (1, .int a1)] := hl
  refine lv_aload_n hx hb dX12_spoilers_0 rfl (lv_at hl 0 rfl) ?_
  refine lv_iload_n hx hb dX12_spoilers_1 rfl (lv_at hl 1 rfl) ?_
  obtain ⟨b1, k2, hz_b1, hk_b1, hn_b1⟩ := hS.2.1.ref hz_a0 hk_a0 (show rtR 12 25 = (23, 226, 0) from rfl)
  have hn_b1 := hn_b1 (by decide)
  obtain ⟨x5, k3⟩ : ∃ x, Ma b1 (4 : Int32).toNatClampNeg = x := ⟨_, rfl⟩
  have h4 : iv 0 8 x5 := by rw [← k3]; exact hS.2.1.int hz_b1 hk_b1 (show rgI 23 (4 : Int32).toNatClampNeg = (0, 8) from rfl)
  refine tw_goi hS (md_runV (As := [.int a1]) (rest := []) hx hb hml hown hW hK hT hS.1 (t_X12_canLose l D cy tx base Z K N Ma Ra Ja hS.2.1 a0 hz_a0 hk_a0 a1 h_a1 b1 k2 x5 k3 (iv_mono h4 (by decide) (by decide))) s_X12_446 ⟨rfl, rfl, ⟨Nat.le_of_ble_eq_true rfl, Nat.le_of_ble_eq_true rfl⟩, ⟨Nat.le_of_ble_eq_true rfl, Nat.le_of_ble_eq_true rfl⟩⟩ hz_a0 hk_a0 (by decide) rfl rfl hl.1 rfl (Nat.le_of_ble_eq_true rfl) dX12_spoilers_2) rfl rfl (fun x12 H locs M9 R10 J8 hS f6 g7 E11 => ?_)
  have eM9 := Fr.nil f6 rfl
  subst eM9
  have eR10 := Fr.nil g7 rfl
  subst eR10
  obtain ⟨h_x12, p13⟩ := E11
  refine lv_if_ne (tgt := 10) hx hb dX12_spoilers_5 (by decide) (fun c14 => ?_) (fun c14 => ?_)
  · have q15 : ¬ x12.toInt = 0 := ti_ne c14
    have h16 : iv 1 1 x12 := ⟨by have := (h_x12).1; have := ((iv_c (c := 0) (n := 0) (by decide))).1; have := ((iv_c (c := 0) (n := 0) (by decide))).2; omega, by have := (h_x12).2; have := ((iv_c (c := 0) (n := 0) (by decide))).1; have := ((iv_c (c := 0) (n := 0) (by decide))).2; omega⟩
    have h17 : iv 1 4 x5 := ⟨by have := (p13 c14).1; have := (h4).1; omega, by have := (p13 c14).2; have := (h4).2; omega⟩
    refine lv_aload_n hx hb dX12_spoilers_10 rfl (lv_at hl 0 rfl) ?_
    refine lv_iload_n hx hb dX12_spoilers_11 rfl (lv_at hl 1 rfl) ?_
    obtain ⟨b18, k19, hz_b18, hk_b18, hn_b18⟩ := hS.2.1.ref hz_a0 hk_a0 (show rtR 12 38 = (41, 5, 0) from rfl)
    have hn_b18 := hn_b18 (by decide)
    refine tw_gov hS (md_runV (As := [.int a1]) (rest := []) hx hb hml hown hW hK hT hS.1 (t_X12_throwsVotes l D cy tx base Z K N Ma Ra J8 hS.2.1 a0 hz_a0 hk_a0 a1 h_a1 co_a0 b1 k2 x5 k3 (iv_mono h17 (by decide) (by decide)) b18 k19) s_X12_449 ⟨rfl, rfl, ⟨Nat.le_of_ble_eq_true rfl, Nat.le_of_ble_eq_true rfl⟩, ⟨Nat.le_of_ble_eq_true rfl, Nat.le_of_ble_eq_true rfl⟩⟩ hz_a0 hk_a0 (by decide) rfl rfl hl.1 rfl (Nat.le_of_ble_eq_true rfl) dX12_spoilers_12) rfl rfl (fun H locs M23 R24 J22 hS f20 g21 E25 => ?_)
    have eR24 := Fr.nil g21 rfl
    subst eR24
    refine lv_aload_n hx hb dX12_spoilers_15 rfl (lv_at hl 0 rfl) ?_
    refine tw_geti hx hb hW hown hK hS f_X12_431_11 hz_a0 hk_a0 (lo := (-2147483648)) (hi := 2147483647) rfl dX12_spoilers_16 (fun x28 k27 h26 => ?_)
    refine lv_if_ge (tgt := 25) hx hb dX12_spoilers_19 (by decide) (fun c29 => ?_) (fun c29 => ?_)
    · have q30 : 0 ≤ x28.toInt := ti_le c29
      have h31 : iv 0 2147483647 x28 := iv_geL (y := 0) h26 (iv_c (c := 0) (n := 0) (by decide)) q30 (by decide)
      refine lv_iconst (v := 1) hx hb dX12_spoilers_25 (by decide) ?_
      refine lv_istore_n (lv' := [(2, .int 1), (0, .ref (base + a0)), (1, .int a1)]) hx hb dX12_spoilers_26 rfl hl (by decide) rfl (fun ls hl => ?_)
      refine lv_iconst (v := 0) hx hb dX12_spoilers_27 (by decide) ?_
      refine lv_istore_n (lv' := [(3, .int 0), (2, .int 1), (0, .ref (base + a0)), (1, .int a1)]) hx hb dX12_spoilers_28 rfl hl (by decide) rfl (fun ls hl => ?_)
      have W29_34 : ∀ (n_34 : Nat) (x32 : Int32) (x33 : Int32) (M34 : MT) (R35 : RT) (J36 : JT) (H : Heap) (locs : List Loc) (ls : Array Slot) (h_x32 : iv (-2147483648) 2147483647 x32) (h_x33 : iv 0 4 x33) (hm_34 : 4 - x33.toInt < (n_34 : Int)) (hS : SB D cy base Z K N Lt_X12_spoilers LRt_X12_spoilers Ma Ra M34 R35 J36 s H locs) (hl : lv_has ls 6 [(2, .int x32), (3, .int x33), (0, .ref (base + a0)), (1, .int a1)]), W p l e (md_rm 7 0 0) s m args below meth c H locs 0 0 Q (F0 m 29 ls []) := by
        intro n_34
        induction n_34 with
        | zero =>
          intro x32 x33 M34 R35 J36 H locs ls h_x32 h_x33 hm_34 hS hl
          exfalso
          have := (h_a1).1; have := (h_a1).2; have := (h_x33).1; have := (h_x33).2; omega
        | succ n_34 ih_34 =>
          intro x32 x33 M34 R35 J36 H locs ls h_x32 h_x33 hm_34 hS hl
          have f37 := hS.2.2.1
          have g38 := hS.2.2.2
          refine lv_iload_n hx hb dX12_spoilers_29 rfl (lv_at hl 1 rfl) ?_
          refine lv_aload_n hx hb dX12_spoilers_30 rfl (lv_at hl 2 rfl) ?_
          have k39 : R35 a0 25 = some b1 := (Fr.kp (k := 25) g38 hk_a0 rfl).trans k2
          refine tw_getrk hx hb hW hown hK hS f_X12_45_11 hz_a0 hk_a0 (b := b1) k39 dX12_spoilers_31 ?_
          refine lv_iconst (v := 4) hx hb dX12_spoilers_34 (by decide) ?_
          have k40 : M34 b1 (4 : Int32).toNatClampNeg = x5 := (Fr.kp (k := (4 : Int32).toNatClampNeg) f37 hk_b1 rfl).trans k3
          refine tw_ialk hx hb hK hS hz_b1 hk_b1 (Or.inr (by decide)) hn_b1 (iv_c (c := 4) (n := 4) (by decide)) ⟨by decide, by decide⟩ (v := x5) k40 dX12_spoilers_35 ?_
          refine lv_icmp_ge (tgt := 49) hx hb dX12_spoilers_36 (by decide) (fun c41 => ?_) (fun c41 => ?_)
          · have q42 : x5.toInt ≤ x33.toInt := ti_le c41
            have h43 : iv 1 4 x33 := iv_geL (y := x5) h_x33 h17 q42 (by decide)
            refine lv_iconst (v := 0) hx hb dX12_spoilers_49 (by decide) ?_
            refine lv_istore_n (lv' := [(3, .int 0), (2, .int x32), (0, .ref (base + a0)), (1, .int a1)]) hx hb dX12_spoilers_50 rfl hl (by decide) rfl (fun ls hl => ?_)
            refine lv_iconst (v := 0) hx hb dX12_spoilers_51 (by decide) ?_
            refine lv_istore (lv' := [(4, .int 0), (3, .int 0), (2, .int x32), (0, .ref (base + a0)), (1, .int a1)]) hx hb dX12_spoilers_52 hl (by decide) rfl (fun ls hl => ?_)
            have W54_46 : ∀ (n_46 : Nat) (x44 : Int32) (x45 : Int32) (M46 : MT) (R47 : RT) (J48 : JT) (H : Heap) (locs : List Loc) (ls : Array Slot) (h_x44 : iv (-2147483648) 2147483647 x44) (h_x45 : iv 0 10 x45) (hm_46 : 10 - x45.toInt < (n_46 : Int)) (hS : SB D cy base Z K N Lt_X12_spoilers LRt_X12_spoilers Ma Ra M46 R47 J48 s H locs) (hl : lv_has ls 6 [(3, .int x44), (4, .int x45), (2, .int x32), (0, .ref (base + a0)), (1, .int a1)]), W p l e (md_rm 7 0 0) s m args below meth c H locs 0 0 Q (F0 m 54 ls []) := by
              intro n_46
              induction n_46 with
              | zero =>
                intro x44 x45 M46 R47 J48 H locs ls h_x44 h_x45 hm_46 hS hl
                exfalso
                have := (h_a1).1; have := (h_a1).2; have := (h_x45).1; have := (h_x45).2; omega
              | succ n_46 ih_46 =>
                intro x44 x45 M46 R47 J48 H locs ls h_x44 h_x45 hm_46 hS hl
                have f49 := hS.2.2.1
                have g50 := hS.2.2.2
                refine lv_iload hx hb dX12_spoilers_54 (lv_at hl 1 rfl) ?_
                refine lv_aload_n hx hb dX12_spoilers_56 rfl (lv_at hl 3 rfl) ?_
                have k51 : R47 a0 25 = some b1 := (Fr.kp (k := 25) g50 hk_a0 rfl).trans k2
                refine tw_getrk hx hb hW hown hK hS f_X12_45_11 hz_a0 hk_a0 (b := b1) k51 dX12_spoilers_57 ?_
                refine lv_iconst (v := 0) hx hb dX12_spoilers_60 (by decide) ?_
                refine tw_iald hx hb hK hS hz_b1 hk_b1 (Or.inr (by decide)) hn_b1 (lo := 0) (hi := 10) (iv_c (c := 0) (n := 0) (by decide)) ⟨by decide, by decide⟩ (rg_c (k0 := 0) rfl rfl rfl) dX12_spoilers_61 (fun x54 k53 h52 => ?_)
                refine lv_icmp_ge (tgt := 129) hx hb dX12_spoilers_62 (by decide) (fun c55 => ?_) (fun c55 => ?_)
                · have q56 : x54.toInt ≤ x45.toInt := ti_le c55
                  refine lv_iload_n hx hb dX12_spoilers_129 rfl (lv_at hl 0 rfl) ?_
                  exact tw_endi hx hb hr hlocks hK hT hS hQ (h_x44) dX12_spoilers_130
                · have q57 : x45.toInt < x54.toInt := ti_nle c55
                  have h58 : iv 0 9 x45 := iv_ltL (y := x54) h_x45 h52 q57 (by decide)
                  have h59 : iv 1 10 x54 := iv_gtL (y := x45) h52 h_x45 q57 (by decide)
                  refine lv_iconst (v := 0) hx hb dX12_spoilers_65 (by decide) ?_
                  refine lv_istore (lv' := [(5, .int 0), (3, .int x44), (4, .int x45), (2, .int x32), (0, .ref (base + a0)), (1, .int a1)]) hx hb dX12_spoilers_66 hl (by decide) rfl (fun ls hl => ?_)
                  have W68_62 : ∀ (n_62 : Nat) (x60 : Int32) (x61 : Int32) (M62 : MT) (R63 : RT) (J64 : JT) (H : Heap) (locs : List Loc) (ls : Array Slot) (h_x60 : iv (-2147483648) 2147483647 x60) (h_x61 : iv 0 2147483647 x61) (hm_62 : 2147483647 - x61.toInt < (n_62 : Int)) (hS : SB D cy base Z K N Lt_X12_spoilers LRt_X12_spoilers Ma Ra M62 R63 J64 s H locs) (hl : lv_has ls 6 [(3, .int x60), (5, .int x61), (4, .int x45), (2, .int x32), (0, .ref (base + a0)), (1, .int a1)]), W p l e (md_rm 7 0 0) s m args below meth c H locs 0 0 Q (F0 m 68 ls []) := by
                    intro n_62
                    induction n_62 with
                    | zero =>
                      intro x60 x61 M62 R63 J64 H locs ls h_x60 h_x61 hm_62 hS hl
                      exfalso
                      have := (h_a1).1; have := (h_a1).2; have := (h_x61).1; have := (h_x61).2; omega
                    | succ n_62 ih_62 =>
                      intro x60 x61 M62 R63 J64 H locs ls h_x60 h_x61 hm_62 hS hl
                      have f65 := hS.2.2.1
                      have g66 := hS.2.2.2
                      refine lv_iload hx hb dX12_spoilers_68 (lv_at hl 1 rfl) ?_
                      refine lv_iload_n hx hb dX12_spoilers_70 rfl (lv_at hl 3 rfl) ?_
                      refine lv_icmp_ge (tgt := 123) hx hb dX12_spoilers_71 (by decide) (fun c67 => ?_) (fun c67 => ?_)
                      · have q68 : x32.toInt ≤ x61.toInt := ti_le c67
                        refine tw_iinc (lv' := fun x71 => [(4, .int x71), (3, .int x60), (5, .int x61), (2, .int x32), (0, .ref (base + a0)), (1, .int a1)]) (lo := 1) (hi := 10) hx hb dX12_spoilers_123 hl (k := 2) rfl h58 (by decide) ⟨by decide, by decide⟩ ⟨by decide, by decide⟩ (by decide) (fun _ => rfl) (fun x71 ls e70 h69 hl => ?_)
                        refine lv_goto (tgt := 54) hx hb dX12_spoilers_126 (by decide) ?_
                        have hm72 : 10 - x71.toInt < (n_46 : Int) := by
                          have := (h_a1).1; have := (h_a1).2; have := (h58).1; have := (h58).2; have := (h69).1; have := (h69).2; omega
                        exact ih_46 x60 x71 M62 R63 J64 H locs _ h_x60 (iv_mono h69 (by decide) (by decide)) hm72 hS (lv_sub hl [1, 0, 3, 4, 5] rfl)
                      · have q73 : x61.toInt < x32.toInt := ti_nle c67
                        have h74 : iv 0 2147483646 x61 := iv_ltL (y := x32) h_x61 h_x32 q73 (by decide)
                        have h75 : iv 1 2147483647 x32 := iv_gtL (y := x61) h_x32 h_x61 q73 (by decide)
                        refine lv_aload_n hx hb dX12_spoilers_74 rfl (lv_at hl 4 rfl) ?_
                        refine lv_iload hx hb dX12_spoilers_75 (lv_at hl 2 rfl) ?_
                        refine tw_goi hS (md_runV (As := [.int x45]) (rest := []) hx hb hml hown hW hK hT hS.1 (t_X12_isPresent l D cy tx base Z K N M62 R63 J64 hS.2.1 a0 hz_a0 hk_a0 x45 (iv_mono h58 (by decide) (by decide))) s_X12_390 ⟨rfl, rfl, ⟨Nat.le_of_ble_eq_true rfl, Nat.le_of_ble_eq_true rfl⟩, ⟨Nat.le_of_ble_eq_true rfl, Nat.le_of_ble_eq_true rfl⟩⟩ hz_a0 hk_a0 (by decide) rfl rfl hl.1 rfl (Nat.le_of_ble_eq_true rfl) dX12_spoilers_77) rfl rfl (fun x82 H locs M79 R80 J78 hS f76 g77 E81 => ?_)
                        have eM79 := Fr.nil f76 rfl
                        subst eM79
                        have eR80 := Fr.nil g77 rfl
                        subst eR80
                        obtain ⟨h_x82, p83⟩ := E81
                        refine lv_if_eq (tgt := 123) hx hb dX12_spoilers_80 (by decide) (fun c84 => ?_) (fun c84 => ?_)
                        · have q85 : x82.toInt = 0 := ti_eq c84
                          have h86 : iv 0 0 x82 := ⟨by have := (h_x82).1; have := ((iv_c (c := 0) (n := 0) (by decide))).1; omega, by have := (h_x82).2; have := ((iv_c (c := 0) (n := 0) (by decide))).2; omega⟩
                          refine tw_iinc (lv' := fun x89 => [(4, .int x89), (3, .int x60), (5, .int x61), (2, .int x32), (0, .ref (base + a0)), (1, .int a1)]) (lo := 1) (hi := 10) hx hb dX12_spoilers_123 hl (k := 2) rfl h58 (by decide) ⟨by decide, by decide⟩ ⟨by decide, by decide⟩ (by decide) (fun _ => rfl) (fun x89 ls e88 h87 hl => ?_)
                          refine lv_goto (tgt := 54) hx hb dX12_spoilers_126 (by decide) ?_
                          have hm90 : 10 - x89.toInt < (n_46 : Int) := by
                            have := (h_a1).1; have := (h_a1).2; have := (h58).1; have := (h58).2; have := (h87).1; have := (h87).2; omega
                          exact ih_46 x60 x89 M62 R63 J78 H locs _ h_x60 (iv_mono h87 (by decide) (by decide)) hm90 hS (lv_sub hl [1, 0, 3, 4, 5] rfl)
                        · have q91 : ¬ x82.toInt = 0 := ti_ne c84
                          have h92 : iv 1 1 x82 := ⟨by have := (h_x82).1; have := ((iv_c (c := 0) (n := 0) (by decide))).1; have := ((iv_c (c := 0) (n := 0) (by decide))).2; omega, by have := (h_x82).2; have := ((iv_c (c := 0) (n := 0) (by decide))).1; have := ((iv_c (c := 0) (n := 0) (by decide))).2; omega⟩
                          refine lv_iload_n hx hb dX12_spoilers_83 rfl (lv_at hl 5 rfl) ?_
                          refine lv_iload_n hx hb dX12_spoilers_84 rfl (lv_at hl 0 rfl) ?_
                          refine lv_ior hx hb dX12_spoilers_85 ?_
                          refine tw_top (fun x94 => ?_)
                          have h93 := iv_any x94
                          refine lv_iload hx hb dX12_spoilers_86 (lv_at hl 2 rfl) ?_
                          refine tw_goi hS (md_runS (As := [.int x94, .int x45]) (rest := []) hx hb hml hown hW hK hT hS.1 (t_X12_isOf l D cy tx base Z K N M62 R63 J78 hS.2.1 x94 h93 x45 h58) s_X12_322 ⟨rfl, rfl, ⟨Nat.le_of_ble_eq_true rfl, Nat.le_of_ble_eq_true rfl⟩, ⟨Nat.le_of_ble_eq_true rfl, Nat.le_of_ble_eq_true rfl⟩⟩ rfl hl.1 rfl (Nat.le_of_ble_eq_true rfl) dX12_spoilers_88) rfl rfl (fun x101 H locs M98 R99 J97 hS f95 g96 E100 => ?_)
                          have eM98 := Fr.nil f95 rfl
                          subst eM98
                          have eR99 := Fr.nil g96 rfl
                          subst eR99
                          have h_x101 := E100
                          clear E100
                          refine lv_if_ne (tgt := 123) hx hb dX12_spoilers_91 (by decide) (fun c102 => ?_) (fun c102 => ?_)
                          · have q103 : ¬ x101.toInt = 0 := ti_ne c102
                            have h104 : iv 1 1 x101 := ⟨by have := (h_x101).1; have := ((iv_c (c := 0) (n := 0) (by decide))).1; have := ((iv_c (c := 0) (n := 0) (by decide))).2; omega, by have := (h_x101).2; have := ((iv_c (c := 0) (n := 0) (by decide))).1; have := ((iv_c (c := 0) (n := 0) (by decide))).2; omega⟩
                            refine tw_iinc (lv' := fun x107 => [(4, .int x107), (3, .int x60), (5, .int x61), (2, .int x32), (0, .ref (base + a0)), (1, .int a1)]) (lo := 1) (hi := 10) hx hb dX12_spoilers_123 hl (k := 2) rfl h58 (by decide) ⟨by decide, by decide⟩ ⟨by decide, by decide⟩ (by decide) (fun _ => rfl) (fun x107 ls e106 h105 hl => ?_)
                            refine lv_goto (tgt := 54) hx hb dX12_spoilers_126 (by decide) ?_
                            have hm108 : 10 - x107.toInt < (n_46 : Int) := by
                              have := (h_a1).1; have := (h_a1).2; have := (h105).1; have := (h105).2; have := (h58).1; have := (h58).2; omega
                            exact ih_46 x60 x107 M62 R63 J97 H locs _ h_x60 (iv_mono h105 (by decide) (by decide)) hm108 hS (lv_sub hl [1, 0, 3, 4, 5] rfl)
                          · have q109 : x101.toInt = 0 := ti_eq c102
                            have h110 : iv 0 0 x101 := ⟨by have := (h_x101).1; have := ((iv_c (c := 0) (n := 0) (by decide))).1; omega, by have := (h_x101).2; have := ((iv_c (c := 0) (n := 0) (by decide))).2; omega⟩
                            refine lv_iload_n hx hb dX12_spoilers_94 rfl (lv_at hl 0 rfl) ?_
                            refine lv_aload_n hx hb dX12_spoilers_95 rfl (lv_at hl 4 rfl) ?_
                            refine lv_iload_n hx hb dX12_spoilers_96 rfl (lv_at hl 5 rfl) ?_
                            refine lv_iload hx hb dX12_spoilers_97 (lv_at hl 2 rfl) ?_
                            refine lv_iload hx hb dX12_spoilers_99 (lv_at hl 1 rfl) ?_
                            have k111 : R63 a0 25 = some b1 := (Fr.kp (k := 25) g66 hk_a0 rfl).trans k2
                            have k112 : M62 b1 (4 : Int32).toNatClampNeg = x5 := (Fr.kp (k := (4 : Int32).toNatClampNeg) f65 hk_b1 rfl).trans k3
                            refine tw_goi hS (md_runV (As := [.int a1, .int x45, .int x61]) (rest := [.int x60]) hx hb hml hown hW hK hT hS.1 (t_X12_spoils l D cy tx base Z K N M62 R63 J97 hS.2.1 a0 hz_a0 hk_a0 a1 h_a1 x45 h58 x61 (iv_mono h74 (by decide) (by decide)) (Codes.fr co_a0 hTy hz_a0 hk_a0 hS.2.2.1 hS.2.2.2 rfl) b1 k111 x5 k112 (iv_mono h17 (by decide) (by decide))) s_X12_452 ⟨rfl, rfl, ⟨Nat.le_of_ble_eq_true rfl, Nat.le_of_ble_eq_true rfl⟩, ⟨Nat.le_of_ble_eq_true rfl, Nat.le_of_ble_eq_true rfl⟩⟩ hz_a0 hk_a0 (by decide) rfl rfl hl.1 rfl (Nat.le_of_ble_eq_true rfl) dX12_spoilers_101) rfl rfl (fun x119 H locs M116 R117 J115 hS f113 g114 E118 => ?_)
                            have eR117 := Fr.nil g114 rfl
                            subst eR117
                            have h_x119 := E118
                            clear E118
                            refine lv_if_eq (tgt := 114) hx hb dX12_spoilers_104 (by decide) (fun c120 => ?_) (fun c120 => ?_)
                            · have q121 : x119.toInt = 0 := ti_eq c120
                              have h122 : iv 0 0 x119 := ⟨by have := (h_x119).1; have := ((iv_c (c := 0) (n := 0) (by decide))).1; omega, by have := (h_x119).2; have := ((iv_c (c := 0) (n := 0) (by decide))).2; omega⟩
                              refine lv_iconst (v := 0) hx hb dX12_spoilers_114 (by decide) ?_
                              refine lv_ior hx hb dX12_spoilers_115 ?_
                              refine tw_top (fun x124 => ?_)
                              have h123 := iv_any x124
                              refine lv_istore_n (lv' := [(3, .int x124), (5, .int x61), (4, .int x45), (2, .int x32), (0, .ref (base + a0)), (1, .int a1)]) hx hb dX12_spoilers_116 rfl hl (by decide) rfl (fun ls hl => ?_)
                              refine tw_iinc (lv' := fun x127 => [(5, .int x127), (3, .int x124), (4, .int x45), (2, .int x32), (0, .ref (base + a0)), (1, .int a1)]) (lo := 1) (hi := 2147483647) hx hb dX12_spoilers_117 hl (k := 1) rfl h74 (by decide) ⟨by decide, by decide⟩ ⟨by decide, by decide⟩ (by decide) (fun _ => rfl) (fun x127 ls e126 h125 hl => ?_)
                              refine lv_goto (tgt := 68) hx hb dX12_spoilers_120 (by decide) ?_
                              have hm128 : 2147483647 - x127.toInt < (n_62 : Int) := by
                                have := (h_a1).1; have := (h_a1).2; have := (h125).1; have := (h125).2; have := (h74).1; have := (h74).2; omega
                              exact ih_62 x124 x127 M116 R63 J115 H locs _ h123 (iv_mono h125 (by decide) (by decide)) hm128 hS (lv_sub hl [1, 0, 2, 3, 4, 5] rfl)
                            · have q129 : ¬ x119.toInt = 0 := ti_ne c120
                              have h130 : iv 1 1 x119 := ⟨by have := (h_x119).1; have := ((iv_c (c := 0) (n := 0) (by decide))).1; have := ((iv_c (c := 0) (n := 0) (by decide))).2; omega, by have := (h_x119).2; have := ((iv_c (c := 0) (n := 0) (by decide))).1; have := ((iv_c (c := 0) (n := 0) (by decide))).2; omega⟩
                              refine lv_iconst (v := 1) hx hb dX12_spoilers_107 (by decide) ?_
                              refine lv_iload hx hb dX12_spoilers_108 (lv_at hl 2 rfl) ?_
                              refine lv_ishl hx hb dX12_spoilers_110 ?_
                              refine tw_top (fun x132 => ?_)
                              have h131 := iv_any x132
                              refine lv_goto (tgt := 115) hx hb dX12_spoilers_111 (by decide) ?_
                              refine lv_ior hx hb dX12_spoilers_115 ?_
                              refine tw_top (fun x134 => ?_)
                              have h133 := iv_any x134
                              refine lv_istore_n (lv' := [(3, .int x134), (5, .int x61), (4, .int x45), (2, .int x32), (0, .ref (base + a0)), (1, .int a1)]) hx hb dX12_spoilers_116 rfl hl (by decide) rfl (fun ls hl => ?_)
                              refine tw_iinc (lv' := fun x137 => [(5, .int x137), (3, .int x134), (4, .int x45), (2, .int x32), (0, .ref (base + a0)), (1, .int a1)]) (lo := 1) (hi := 2147483647) hx hb dX12_spoilers_117 hl (k := 1) rfl h74 (by decide) ⟨by decide, by decide⟩ ⟨by decide, by decide⟩ (by decide) (fun _ => rfl) (fun x137 ls e136 h135 hl => ?_)
                              refine lv_goto (tgt := 68) hx hb dX12_spoilers_120 (by decide) ?_
                              have hm138 : 2147483647 - x137.toInt < (n_62 : Int) := by
                                have := (h_a1).1; have := (h_a1).2; have := (h135).1; have := (h135).2; have := (h74).1; have := (h74).2; omega
                              exact ih_62 x134 x137 M116 R63 J115 H locs _ h133 (iv_mono h135 (by decide) (by decide)) hm138 hS (lv_sub hl [1, 0, 2, 3, 4, 5] rfl)
                  have hm139 : 2147483647 - (0 : Int32).toInt < (((2147483648 : Nat) : Int) : Int) := by
                    have := (h_a1).1; have := (h_a1).2; have : (0 : Int32).toInt = 0 := (by decide); omega
                  exact W68_62 2147483648 x44 0 M46 R47 J48 H locs _ h_x44 (iv_mono (iv_c (c := 0) (n := 0) (by decide)) (by decide) (by decide)) hm139 hS (lv_sub hl [1, 0, 2, 3, 4, 5] rfl)
            have hm140 : 10 - (0 : Int32).toInt < (((11 : Nat) : Int) : Int) := by
              have := (h_a1).1; have := (h_a1).2; have : (0 : Int32).toInt = 0 := (by decide); omega
            exact W54_46 11 0 0 M34 R35 J36 H locs _ (iv_mono (iv_c (c := 0) (n := 0) (by decide)) (by decide) (by decide)) (iv_mono (iv_c (c := 0) (n := 0) (by decide)) (by decide) (by decide)) hm140 hS (lv_sub hl [1, 0, 2, 3, 4] rfl)
          · have q141 : x33.toInt < x5.toInt := ti_nle c41
            have h142 : iv 0 3 x33 := iv_ltL (y := x5) h_x33 h17 q141 (by decide)
            refine lv_iload_n hx hb dX12_spoilers_39 rfl (lv_at hl 0 rfl) ?_
            refine lv_iconst (v := 3) hx hb dX12_spoilers_40 (by decide) ?_
            refine lv_imul hx hb dX12_spoilers_41 ?_
            refine tw_top (fun x144 => ?_)
            have h143 := iv_any x144
            refine lv_istore_n (lv' := [(2, .int x144), (3, .int x33), (0, .ref (base + a0)), (1, .int a1)]) hx hb dX12_spoilers_42 rfl hl (by decide) rfl (fun ls hl => ?_)
            refine tw_iinc (lv' := fun x147 => [(3, .int x147), (2, .int x144), (0, .ref (base + a0)), (1, .int a1)]) (lo := 1) (hi := 4) hx hb dX12_spoilers_43 hl (k := 1) rfl h142 (by decide) ⟨by decide, by decide⟩ ⟨by decide, by decide⟩ (by decide) (fun _ => rfl) (fun x147 ls e146 h145 hl => ?_)
            refine lv_goto (tgt := 29) hx hb dX12_spoilers_46 (by decide) ?_
            have hm148 : 4 - x147.toInt < (n_34 : Int) := by
              have := (h_a1).1; have := (h_a1).2; have := (h145).1; have := (h145).2; have := (h142).1; have := (h142).2; omega
            exact ih_34 x144 x147 M34 R35 J36 H locs _ h143 (iv_mono h145 (by decide) (by decide)) hm148 hS (lv_sub hl [1, 0, 2, 3] rfl)
      have hm149 : 4 - (0 : Int32).toInt < (((5 : Nat) : Int) : Int) := by
        have := (h_a1).1; have := (h_a1).2; have : (0 : Int32).toInt = 0 := (by decide); omega
      exact W29_34 5 1 0 M23 Ra J22 H locs _ (iv_mono (iv_c (c := 1) (n := 1) (by decide)) (by decide) (by decide)) (iv_mono (iv_c (c := 0) (n := 0) (by decide)) (by decide) (by decide)) hm149 hS (lv_sub hl [1, 0, 2, 3] rfl)
    · have q150 : x28.toInt < 0 := ti_nle c29
      have h151 : iv (-2147483648) (-1) x28 := iv_ltL (y := 0) h26 (iv_c (c := 0) (n := 0) (by decide)) q150 (by decide)
      refine lv_bipush (v := (-2)) hx hb dX12_spoilers_22 (by decide) ?_
      exact tw_endi hx hb hr hlocks hK hT hS hQ ((iv_mono (iv_c (c := (-2)) (n := (-2)) (by decide)) (by decide) (by decide))) dX12_spoilers_24
  · have q152 : x12.toInt = 0 := ti_eq c14
    have h153 : iv 0 0 x12 := ⟨by have := (h_x12).1; have := ((iv_c (c := 0) (n := 0) (by decide))).1; omega, by have := (h_x12).2; have := ((iv_c (c := 0) (n := 0) (by decide))).2; omega⟩
    refine lv_iconst (v := (-1)) hx hb dX12_spoilers_8 (by decide) ?_
    exact tw_endi hx hb hr hlocks hK hT hS hQ ((iv_mono (iv_c (c := (-1)) (n := (-1)) (by decide)) (by decide) (by decide))) dX12_spoilers_9
