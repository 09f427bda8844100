def Lt_X2_readPoint : WL := [(3, 2, 4), (10, 1, 2), (14, 0, 2000000)]
def LRt_X2_readPoint : WL := []
set_option maxRecDepth 100000 in
set_option maxHeartbeats 4000000 in
theorem t_X2_readPoint (l : Launch) (D : va_G) (cy : Nat → ClassId) (tx : (Nat → Nat) × (Nat → Nat)) (base Z : Nat) (K N : Nat → Nat) (Ma : MT) (Ra : RT) (Ja : JT) (hTy : Ty Z K N Ma Ra) (a0 : Nat) (hz_a0 : a0 < Z) (hk_a0 : K a0 = 3) (tb : Nat) (k_tb : Ra a0 0 = some tb) (ln : Int32) (k_ln : Ma a0 1 = ln) (h_ln : iv 0 400 ln) (pa : Int32) (k_pa : Ma a0 2 = pa) (h_pa : iv 0 400 pa) (hin : pa.toInt ≤ ln.toInt) (dr : Nat) (k_dr : Ra a0 5 = some dr) (po : Int32) (k_po : Ma dr 1 = po) (h_po : iv 0 11 po) : Met l yX2_readPoint [Cond.code yX2_readPoint cX2_readPoint 5 none] (md_rm 3 0 0) (va_Pc [.ref (base + a0)] (md_U D cy tx base Z K N Ma Ra Ja)) (mQv D cy tx base (fun u => TP Z K N Lt_X2_readPoint LRt_X2_readPoint Ma Ra u ∧ ((∃ x0 : Int32, u.2.2.2.1 a0 2 = x0 ∧ iv 0 400 x0 ∧ (x0.toInt ≤ ln.toInt))))) 0 0 (fun q => base ≤ q) := by
  refine tw_ofW (L := Lt_X2_readPoint) (LR := LRt_X2_readPoint) (by decide) (Nat.le_of_ble_eq_true rfl) hTy ?_
  intro p e s m args below meth c Q ls hx hb hr hlocks hown hml hW hK hT hS hQ hl
  have hl : lv_has ls 5 [(0, .ref (base + a0))] := hl
  obtain ⟨hz_tb, hk_tb, hn_tb⟩ := hTy.refn hz_a0 hk_a0 (show rtR 3 0 = (13, 400, 1) from rfl) k_tb
  have hn_tb := hn_tb (by decide)
  obtain ⟨hz_dr, hk_dr, hn_dr⟩ := hTy.refn hz_a0 hk_a0 (show rtR 3 5 = (10, 0, 0) from rfl) k_dr
  refine lv_aload_n hx hb dX2_readPoint_0 rfl (lv_at hl 0 rfl) ?_
  refine tw_getrk hx hb hW hown hK hS f_X2_12_2 hz_a0 hk_a0 (b := dr) k_dr dX2_readPoint_1 ?_
  refine tw_getk hx hb hW hown hK hS f_X2_74_9 hz_dr hk_dr (v := po) k_po dX2_readPoint_4 ?_
  refine lv_bipush (v := 10) hx hb dX2_readPoint_7 (by decide) ?_
  refine tw_imulc (k := 10) (lo := 0) (hi := 110) hx hb h_po (by decide) (by decide) ⟨by decide, by decide⟩ ⟨by decide, by decide⟩ dX2_readPoint_9 (fun x3 e2 h1 => ?_)
  refine lv_istore_n (lv' := [(1, .int x3), (0, .ref (base + a0))]) hx hb dX2_readPoint_10 rfl hl (by decide) rfl (fun ls hl => ?_)
  refine lv_iconst (v := 0) hx hb dX2_readPoint_11 (by decide) ?_
  refine lv_istore_n (lv' := [(2, .int 0), (1, .int x3), (0, .ref (base + a0))]) hx hb dX2_readPoint_12 rfl hl (by decide) rfl (fun ls hl => ?_)
  have W13_5 : ∀ (n_5 : Nat) (x4 : Int32) (x10 : Int32) (x12 : Int32) (M5 : MT) (R6 : RT) (J7 : JT) (H : Heap) (locs : List Loc) (ls : Array Slot) (h_x4 : iv 0 10 x4) (h_x10 : iv 0 1000 x10) (k11 : M5 a0 2 = x10) (h_x12 : iv 0 11 x12) (k13 : M5 dr 1 = x12) (w0_5 : x10.toInt ≤ ln.toInt) (hm_5 : 10 - x4.toInt < (n_5 : Int)) (hS : SB D cy base Z K N Lt_X2_readPoint LRt_X2_readPoint Ma Ra M5 R6 J7 s H locs) (hl : lv_has ls 5 [(2, .int x4), (1, .int x3), (0, .ref (base + a0))]), W p l e (md_rm 3 0 0) s m args below meth c H locs 0 0 Q (F0 m 13 ls []) := by
    intro n_5
    induction n_5 with
    | zero =>
      intro x4 x10 x12 M5 R6 J7 H locs ls h_x4 h_x10 k11 h_x12 k13 w0_5 hm_5 hS hl
      exfalso
      have := (h_ln).1; have := (h_ln).2; have := (h_pa).1; have := (h_pa).2; have := (h_po).1; have := (h_po).2; have := (h_x4).1; have := (h_x4).2; omega
    | succ n_5 ih_5 =>
      intro x4 x10 x12 M5 R6 J7 H locs ls h_x4 h_x10 k11 h_x12 k13 w0_5 hm_5 hS hl
      have f8 := hS.2.2.1
      have g9 := hS.2.2.2
      refine lv_iload_n hx hb dX2_readPoint_13 rfl (lv_at hl 0 rfl) ?_
      refine lv_aload_n hx hb dX2_readPoint_14 rfl (lv_at hl 2 rfl) ?_
      have k14 : R6 a0 5 = some dr := (Fr.kp (k := 5) g9 hk_a0 rfl).trans k_dr
      refine tw_getrk hx hb hW hown hK hS f_X2_12_2 hz_a0 hk_a0 (b := dr) k14 dX2_readPoint_15 ?_
      refine tw_geti hx hb hW hown hK hS f_X2_37_9 hz_dr hk_dr (lo := (-2147483648)) (hi := 10) rfl dX2_readPoint_18 (fun x17 k16 h15 => ?_)
      refine lv_icmp_ge (tgt := 98) hx hb dX2_readPoint_21 (by decide) (fun c18 => ?_) (fun c18 => ?_)
      · have q19 : x17.toInt ≤ x4.toInt := ti_le c18
        refine lv_aload_n hx hb dX2_readPoint_98 rfl (lv_at hl 2 rfl) ?_
        have k20 : R6 a0 5 = some dr := (Fr.kp (k := 5) g9 hk_a0 rfl).trans k_dr
        refine tw_getrk hx hb hW hown hK hS f_X2_12_2 hz_a0 hk_a0 (b := dr) k20 dX2_readPoint_99 ?_
        refine lv_dup hx hb dX2_readPoint_102 rfl ?_
        refine tw_getk hx hb hW hown hK hS f_X2_74_9 hz_dr hk_dr (v := x12) k13 dX2_readPoint_103 ?_
        refine lv_iconst (v := 1) hx hb dX2_readPoint_106 (by decide) ?_
        refine tw_iadd (lo := 1) (hi := 12) hx hb h_x12 (iv_c (c := 1) (n := 1) (by decide)) ⟨by decide, by decide⟩ ⟨by decide, by decide⟩ dX2_readPoint_107 (fun x23 e22 h21 => ?_)
        have e22 : x23.toInt = x12.toInt + 1 := e22
        refine tw_puti hx hb hW hown hK hS f_X2_74_9 hz_dr hk_dr rfl rfl (lo := 0) (hi := 12) rfl (iv_mono h21 (by decide) (by decide)) rfl dX2_readPoint_108 (fun H locs M26 hS k24 f25 => ?_)
        have k27 : M26 a0 2 = x10 := (Fr.kp (k := 2) f25 hk_a0 rfl).trans k11
        have h28 : iv 0 400 x10 := by
          have := (h_ln).1; have := (h_ln).2; have := (h_pa).1; have := (h_pa).2; have := (h_po).1; have := (h_po).2; have := (h_x10).1; have := (h_x10).2; exact ⟨by omega, by omega⟩
        have q29 : x10.toInt ≤ ln.toInt := by
          have := (h_ln).1; have := (h_ln).2; have := (h_pa).1; have := (h_pa).2; have := (h_po).1; have := (h_po).2; have := (h_x10).1; have := (h_x10).2; omega
        exact tw_endv hx hb hr hlocks hK hT hS hQ (⟨x10, k27, h28, q29⟩) dX2_readPoint_111
      · have q30 : x4.toInt < x17.toInt := ti_nle c18
        have h31 : iv 0 9 x4 := iv_ltL (y := x17) h_x4 h15 q30 (by decide)
        have h32 : iv 1 10 x17 := iv_gtL (y := x4) h15 h_x4 q30 (by decide)
        refine lv_aload_n hx hb dX2_readPoint_24 rfl (lv_at hl 2 rfl) ?_
        refine tw_geti hx hb hW hown hK hS f_X2_44_2 hz_a0 hk_a0 (lo := (-2147483648)) (hi := 2147483647) rfl dX2_readPoint_25 (fun x35 k34 h33 => ?_)
        refine lv_if_ne (tgt := 98) hx hb dX2_readPoint_28 (by decide) (fun c36 => ?_) (fun c36 => ?_)
        · have q37 : ¬ x35.toInt = 0 := ti_ne c36
          refine lv_aload_n hx hb dX2_readPoint_98 rfl (lv_at hl 2 rfl) ?_
          have k38 : R6 a0 5 = some dr := (Fr.kp (k := 5) g9 hk_a0 rfl).trans k_dr
          refine tw_getrk hx hb hW hown hK hS f_X2_12_2 hz_a0 hk_a0 (b := dr) k38 dX2_readPoint_99 ?_
          refine lv_dup hx hb dX2_readPoint_102 rfl ?_
          refine tw_getk hx hb hW hown hK hS f_X2_74_9 hz_dr hk_dr (v := x12) k13 dX2_readPoint_103 ?_
          refine lv_iconst (v := 1) hx hb dX2_readPoint_106 (by decide) ?_
          refine tw_iadd (lo := 1) (hi := 12) hx hb h_x12 (iv_c (c := 1) (n := 1) (by decide)) ⟨by decide, by decide⟩ ⟨by decide, by decide⟩ dX2_readPoint_107 (fun x41 e40 h39 => ?_)
          have e40 : x41.toInt = x12.toInt + 1 := e40
          refine tw_puti hx hb hW hown hK hS f_X2_74_9 hz_dr hk_dr rfl rfl (lo := 0) (hi := 12) rfl (iv_mono h39 (by decide) (by decide)) rfl dX2_readPoint_108 (fun H locs M44 hS k42 f43 => ?_)
          have k45 : M44 a0 2 = x10 := (Fr.kp (k := 2) f43 hk_a0 rfl).trans k11
          have h46 : iv 0 400 x10 := by
            have := (h_ln).1; have := (h_ln).2; have := (h_pa).1; have := (h_pa).2; have := (h_po).1; have := (h_po).2; have := (h_x10).1; have := (h_x10).2; exact ⟨by omega, by omega⟩
          have q47 : x10.toInt ≤ ln.toInt := by
            have := (h_ln).1; have := (h_ln).2; have := (h_pa).1; have := (h_pa).2; have := (h_po).1; have := (h_po).2; have := (h_x10).1; have := (h_x10).2; omega
          exact tw_endv hx hb hr hlocks hK hT hS hQ (⟨x10, k45, h46, q47⟩) dX2_readPoint_111
        · have q48 : x35.toInt = 0 := ti_eq c36
          have h49 : iv 0 0 x35 := ⟨by have := (h33).1; have := ((iv_c (c := 0) (n := 0) (by decide))).1; omega, by have := (h33).2; have := ((iv_c (c := 0) (n := 0) (by decide))).2; omega⟩
          refine lv_aload_n hx hb dX2_readPoint_31 rfl (lv_at hl 2 rfl) ?_
          have k50 : R6 a0 0 = some tb := (Fr.kp (k := 0) g9 hk_a0 rfl).trans k_tb
          have k51 : M5 a0 1 = ln := (Fr.kp (k := 1) f8 hk_a0 rfl).trans k_ln
          refine tw_goi hS (md_runU (As := []) (rest := []) hx hb hml hown hW hK hT hS.1 (t_X10_hereBehindBlanks_1 l D cy tx base Z K N M5 R6 J7 hS.2.1 a0 hz_a0 hk_a0 tb k50 ln k51 (iv_mono h_ln (by decide) (by decide)) x10 k11 (iv_mono h_x10 (by decide) (by decide))) s_X2_47_X2 ⟨rfl, rfl, ⟨Nat.le_of_ble_eq_true rfl, Nat.le_of_ble_eq_true rfl⟩, ⟨Nat.le_of_ble_eq_true rfl, Nat.le_of_ble_eq_true rfl⟩⟩ hz_a0 hk_a0 (by decide) rfl rfl hl.1 rfl (Nat.le_of_ble_eq_true rfl) dX2_readPoint_32) rfl rfl (fun x58 H locs M55 R56 J54 hS f52 g53 E57 => ?_)
          have eR56 := Fr.nil g53 rfl
          subst eR56
          obtain ⟨h_x58, p59⟩ := E57
          obtain ⟨x61, k62, h60, q63⟩ := p59
          have k62 : M55 a0 2 = x61 := k62
          refine lv_istore_n (lv' := [(3, .int x58), (2, .int x4), (1, .int x3), (0, .ref (base + a0))]) hx hb dX2_readPoint_35 rfl hl (by decide) rfl (fun ls hl => ?_)
          refine lv_iload_n hx hb dX2_readPoint_36 rfl (lv_at hl 0 rfl) ?_
          refine lv_bipush (v := 43) hx hb dX2_readPoint_37 (by decide) ?_
          refine lv_icmp_eq (tgt := 48) hx hb dX2_readPoint_39 (by decide) (fun c64 => ?_) (fun c64 => ?_)
          · have q65 : x58.toInt = 43 := ti_eq c64
            have h66 : iv 43 43 x58 := ⟨by have := (h_x58).1; have := ((iv_c (c := 43) (n := 43) (by decide))).1; omega, by have := (h_x58).2; have := ((iv_c (c := 43) (n := 43) (by decide))).2; omega⟩
            refine lv_aload_n hx hb dX2_readPoint_48 rfl (lv_at hl 3 rfl) ?_
            refine lv_dup hx hb dX2_readPoint_49 rfl ?_
            refine tw_getk hx hb hW hown hK hS f_X2_57_2 hz_a0 hk_a0 (v := x61) k62 dX2_readPoint_50 ?_
            refine lv_iconst (v := 1) hx hb dX2_readPoint_53 (by decide) ?_
            refine tw_iadd (lo := 1) (hi := 1001) hx hb h60 (iv_c (c := 1) (n := 1) (by decide)) ⟨by decide, by decide⟩ ⟨by decide, by decide⟩ dX2_readPoint_54 (fun x69 e68 h67 => ?_)
            have e68 : x69.toInt = x61.toInt + 1 := e68
            have h72 : iv 0 1000 x69 := by
              have := (h_ln).1; have := (h_ln).2; have := (h_pa).1; have := (h_pa).2; have := (h_po).1; have := (h_po).2; have := (h_x10).1; have := (h_x10).2; have := (h60).1; have := (h60).2; have := (h67).1; have := (h67).2; exact ⟨by omega, by omega⟩
            refine tw_puti hx hb hW hown hK hS f_X2_57_2 hz_a0 hk_a0 rfl rfl (lo := 0) (hi := 1000) rfl h72 rfl dX2_readPoint_55 (fun H locs M73 hS k70 f71 => ?_)
            refine lv_aload_n hx hb dX2_readPoint_58 rfl (lv_at hl 3 rfl) ?_
            refine lv_iconst (v := 0) hx hb dX2_readPoint_59 (by decide) ?_
            refine lv_bipush (v := 99) hx hb dX2_readPoint_60 (by decide) ?_
            have k74 : R6 a0 0 = some tb := (Fr.kp (k := 0) g9 hk_a0 rfl).trans k_tb
            have k75 : M73 a0 1 = ln := ((Fr.kp (k := 1) f71 hk_a0 rfl).trans ((Fr.kp (k := 1) f52 hk_a0 rfl).trans (Fr.kp (k := 1) f8 hk_a0 rfl))).trans k_ln
            have k76 : M73 a0 3 = x35 := ((Fr.kp (k := 3) f71 hk_a0 rfl).trans (Fr.kp (k := 3) f52 hk_a0 rfl)).trans k34
            refine tw_goi hS (md_runU (As := [.int 0, .int 99]) (rest := []) hx hb hml hown hW hK hT hS.1 (t_X10_number_1 l D cy tx base Z K N M73 R6 J54 hS.2.1 a0 hz_a0 hk_a0 0 (iv_mono (iv_c (c := 0) (n := 0) (by decide)) (by decide) (by decide)) 99 (iv_mono (iv_c (c := 99) (n := 99) (by decide)) (by decide) (by decide)) tb k74 ln k75 (iv_mono h_ln (by decide) (by decide)) x69 k70 (iv_mono h72 (by decide) (by decide)) x35 k76 (iv_mono h49 (by decide) (by decide))) s_X2_96_X2 ⟨rfl, rfl, ⟨Nat.le_of_ble_eq_true rfl, Nat.le_of_ble_eq_true rfl⟩, ⟨Nat.le_of_ble_eq_true rfl, Nat.le_of_ble_eq_true rfl⟩⟩ hz_a0 hk_a0 (by decide) rfl rfl hl.1 rfl (Nat.le_of_ble_eq_true rfl) dX2_readPoint_62) rfl rfl (fun x83 H locs M80 R81 J79 hS f77 g78 E82 => ?_)
            have eR81 := Fr.nil g78 rfl
            subst eR81
            obtain ⟨h_x83, p84⟩ := E82
            obtain ⟨x86, x88, k89, k90, h85, h87, q91⟩ := p84
            have k89 : M80 a0 2 = x86 := k89
            have k90 : M80 a0 3 = x88 := k90
            refine lv_istore (lv' := [(4, .int x83), (3, .int x58), (2, .int x4), (1, .int x3), (0, .ref (base + a0))]) hx hb dX2_readPoint_65 hl (by decide) rfl (fun ls hl => ?_)
            refine lv_aload_n hx hb dX2_readPoint_67 rfl (lv_at hl 4 rfl) ?_
            have k92 : R6 a0 5 = some dr := (Fr.kp (k := 5) g9 hk_a0 rfl).trans k_dr
            refine tw_getrk hx hb hW hown hK hS f_X2_12_2 hz_a0 hk_a0 (b := dr) k92 dX2_readPoint_68 ?_
            refine tw_getr hx hb hW hown hK hS f_X2_99_9 hz_dr hk_dr (t := 14) (n := 120) rfl dX2_readPoint_71 (fun b93 k94 hz_b93 hk_b93 hn_b93 => ?_)
            have hn_b93 := hn_b93 (by decide)
            refine lv_iload_n hx hb dX2_readPoint_74 rfl (lv_at hl 3 rfl) ?_
            refine lv_iload_n hx hb dX2_readPoint_75 rfl (lv_at hl 2 rfl) ?_
            refine tw_iadd (lo := 0) (hi := 119) hx hb h1 h31 ⟨by decide, by decide⟩ ⟨by decide, by decide⟩ dX2_readPoint_76 (fun x97 e96 h95 => ?_)
            refine lv_iload_n hx hb dX2_readPoint_77 rfl (lv_at hl 1 rfl) ?_
            refine lv_bipush (v := 45) hx hb dX2_readPoint_78 (by decide) ?_
            refine lv_icmp_ne (tgt := 89) hx hb dX2_readPoint_80 (by decide) (fun c98 => ?_) (fun c98 => False.elim (by have q : x58.toInt = 45 := ti_eq c98; have := (h66).1; have := (h66).2; omega))
            have q99 : ¬ x58.toInt = 45 := ti_ne c98
            refine lv_iload hx hb dX2_readPoint_89 (lv_at hl 0 rfl) ?_
            refine tw_iast hx hb hK hS hz_b93 hk_b93 (Or.inl rfl) hn_b93 h95 ⟨by decide, by decide⟩ h_x83 (rg_s14 ⟨by decide, by decide⟩) (jl := 0) (jh := 1999999) ⟨by decide, by decide⟩ rfl dX2_readPoint_91 (fun H locs M102 hS k100 f101 => ?_)
            refine tw_iinc (lv' := fun x105 => [(2, .int x105), (4, .int x83), (3, .int x58), (1, .int x3), (0, .ref (base + a0))]) (lo := 1) (hi := 10) hx hb dX2_readPoint_92 hl (k := 2) rfl h31 (by decide) ⟨by decide, by decide⟩ ⟨by decide, by decide⟩ (by decide) (fun _ => rfl) (fun x105 ls e104 h103 hl => ?_)
            refine lv_goto (tgt := 13) hx hb dX2_readPoint_95 (by decide) ?_
            have k106 : M102 a0 2 = x86 := (Fr.kp (k := 2) f101 hk_a0 rfl).trans k89
            have k107 : M102 dr 1 = x12 := ((Fr.kp (k := 1) f101 hk_dr rfl).trans ((Fr.kp (k := 1) f77 hk_dr rfl).trans ((Fr.kp (k := 1) f71 hk_dr rfl).trans (Fr.kp (k := 1) f52 hk_dr rfl)))).trans k13
            have w108 : x86.toInt ≤ ln.toInt := by
              have := (h_ln).1; have := (h_ln).2; have := (h_pa).1; have := (h_pa).2; have := (h_po).1; have := (h_po).2; have := (h_x10).1; have := (h_x10).2; have := (h49).1; have := (h49).2; have := (h60).1; have := (h60).2; have := (h72).1; have := (h72).2; have := (h85).1; have := (h85).2; have := (h87).1; have := (h87).2; omega
            have hm109 : 10 - x105.toInt < (n_5 : Int) := by
              have := (h_ln).1; have := (h_ln).2; have := (h_pa).1; have := (h_pa).2; have := (h_po).1; have := (h_po).2; have := (h103).1; have := (h103).2; have := (h31).1; have := (h31).2; have := (h95).1; have := (h95).2; omega
            exact ih_5 x105 x86 x12 M102 R6 J79 H locs _ (iv_mono h103 (by decide) (by decide)) h85 k106 h_x12 k107 w108 hm109 hS (lv_sub hl [0, 3, 4] rfl)
          · have q110 : ¬ x58.toInt = 43 := ti_ne c64
            refine lv_iload_n hx hb dX2_readPoint_42 rfl (lv_at hl 0 rfl) ?_
            refine lv_bipush (v := 45) hx hb dX2_readPoint_43 (by decide) ?_
            refine lv_icmp_ne (tgt := 58) hx hb dX2_readPoint_45 (by decide) (fun c111 => ?_) (fun c111 => ?_)
            · have q112 : ¬ x58.toInt = 45 := ti_ne c111
              refine lv_aload_n hx hb dX2_readPoint_58 rfl (lv_at hl 3 rfl) ?_
              refine lv_iconst (v := 0) hx hb dX2_readPoint_59 (by decide) ?_
              refine lv_bipush (v := 99) hx hb dX2_readPoint_60 (by decide) ?_
              have k113 : R6 a0 0 = some tb := (Fr.kp (k := 0) g9 hk_a0 rfl).trans k_tb
              have k114 : M55 a0 1 = ln := ((Fr.kp (k := 1) f52 hk_a0 rfl).trans (Fr.kp (k := 1) f8 hk_a0 rfl)).trans k_ln
              have k115 : M55 a0 3 = x35 := (Fr.kp (k := 3) f52 hk_a0 rfl).trans k34
              refine tw_goi hS (md_runU (As := [.int 0, .int 99]) (rest := []) hx hb hml hown hW hK hT hS.1 (t_X10_number_1 l D cy tx base Z K N M55 R6 J54 hS.2.1 a0 hz_a0 hk_a0 0 (iv_mono (iv_c (c := 0) (n := 0) (by decide)) (by decide) (by decide)) 99 (iv_mono (iv_c (c := 99) (n := 99) (by decide)) (by decide) (by decide)) tb k113 ln k114 (iv_mono h_ln (by decide) (by decide)) x61 k62 (iv_mono h60 (by decide) (by decide)) x35 k115 (iv_mono h49 (by decide) (by decide))) s_X2_96_X2 ⟨rfl, rfl, ⟨Nat.le_of_ble_eq_true rfl, Nat.le_of_ble_eq_true rfl⟩, ⟨Nat.le_of_ble_eq_true rfl, Nat.le_of_ble_eq_true rfl⟩⟩ hz_a0 hk_a0 (by decide) rfl rfl hl.1 rfl (Nat.le_of_ble_eq_true rfl) dX2_readPoint_62) rfl rfl (fun x122 H locs M119 R120 J118 hS f116 g117 E121 => ?_)
              have eR120 := Fr.nil g117 rfl
              subst eR120
              obtain ⟨h_x122, p123⟩ := E121
              obtain ⟨x125, x127, k128, k129, h124, h126, q130⟩ := p123
              have k128 : M119 a0 2 = x125 := k128
              have k129 : M119 a0 3 = x127 := k129
              refine lv_istore (lv' := [(4, .int x122), (3, .int x58), (2, .int x4), (1, .int x3), (0, .ref (base + a0))]) hx hb dX2_readPoint_65 hl (by decide) rfl (fun ls hl => ?_)
              refine lv_aload_n hx hb dX2_readPoint_67 rfl (lv_at hl 4 rfl) ?_
              have k131 : R6 a0 5 = some dr := (Fr.kp (k := 5) g9 hk_a0 rfl).trans k_dr
              refine tw_getrk hx hb hW hown hK hS f_X2_12_2 hz_a0 hk_a0 (b := dr) k131 dX2_readPoint_68 ?_
              refine tw_getr hx hb hW hown hK hS f_X2_99_9 hz_dr hk_dr (t := 14) (n := 120) rfl dX2_readPoint_71 (fun b132 k133 hz_b132 hk_b132 hn_b132 => ?_)
              have hn_b132 := hn_b132 (by decide)
              refine lv_iload_n hx hb dX2_readPoint_74 rfl (lv_at hl 3 rfl) ?_
              refine lv_iload_n hx hb dX2_readPoint_75 rfl (lv_at hl 2 rfl) ?_
              refine tw_iadd (lo := 0) (hi := 119) hx hb h1 h31 ⟨by decide, by decide⟩ ⟨by decide, by decide⟩ dX2_readPoint_76 (fun x136 e135 h134 => ?_)
              refine lv_iload_n hx hb dX2_readPoint_77 rfl (lv_at hl 1 rfl) ?_
              refine lv_bipush (v := 45) hx hb dX2_readPoint_78 (by decide) ?_
              refine lv_icmp_ne (tgt := 89) hx hb dX2_readPoint_80 (by decide) (fun c137 => ?_) (fun c137 => ?_)
              · have q138 : ¬ x58.toInt = 45 := ti_ne c137
                refine lv_iload hx hb dX2_readPoint_89 (lv_at hl 0 rfl) ?_
                refine tw_iast hx hb hK hS hz_b132 hk_b132 (Or.inl rfl) hn_b132 h134 ⟨by decide, by decide⟩ h_x122 (rg_s14 ⟨by decide, by decide⟩) (jl := 0) (jh := 1999999) ⟨by decide, by decide⟩ rfl dX2_readPoint_91 (fun H locs M141 hS k139 f140 => ?_)
                refine tw_iinc (lv' := fun x144 => [(2, .int x144), (4, .int x122), (3, .int x58), (1, .int x3), (0, .ref (base + a0))]) (lo := 1) (hi := 10) hx hb dX2_readPoint_92 hl (k := 2) rfl h31 (by decide) ⟨by decide, by decide⟩ ⟨by decide, by decide⟩ (by decide) (fun _ => rfl) (fun x144 ls e143 h142 hl => ?_)
                refine lv_goto (tgt := 13) hx hb dX2_readPoint_95 (by decide) ?_
                have k145 : M141 a0 2 = x125 := (Fr.kp (k := 2) f140 hk_a0 rfl).trans k128
                have k146 : M141 dr 1 = x12 := ((Fr.kp (k := 1) f140 hk_dr rfl).trans ((Fr.kp (k := 1) f116 hk_dr rfl).trans (Fr.kp (k := 1) f52 hk_dr rfl))).trans k13
                have w147 : x125.toInt ≤ ln.toInt := by
                  have := (h_ln).1; have := (h_ln).2; have := (h_pa).1; have := (h_pa).2; have := (h_po).1; have := (h_po).2; have := (h_x10).1; have := (h_x10).2; have := (h124).1; have := (h124).2; have := (h126).1; have := (h126).2; have := (h49).1; have := (h49).2; have := (h60).1; have := (h60).2; omega
                have hm148 : 10 - x144.toInt < (n_5 : Int) := by
                  have := (h_ln).1; have := (h_ln).2; have := (h_pa).1; have := (h_pa).2; have := (h_po).1; have := (h_po).2; have := (h134).1; have := (h134).2; have := (h142).1; have := (h142).2; have := (h31).1; have := (h31).2; omega
                exact ih_5 x144 x125 x12 M141 R6 J118 H locs _ (iv_mono h142 (by decide) (by decide)) h124 k145 h_x12 k146 w147 hm148 hS (lv_sub hl [0, 3, 4] rfl)
              · have q149 : x58.toInt = 45 := ti_eq c137
                have h150 : iv 45 45 x58 := ⟨by have := (h_x58).1; have := ((iv_c (c := 45) (n := 45) (by decide))).1; omega, by have := (h_x58).2; have := ((iv_c (c := 45) (n := 45) (by decide))).2; omega⟩
                refine lv_iload hx hb dX2_readPoint_83 (lv_at hl 0 rfl) ?_
                refine lv_ineg hx hb dX2_readPoint_85 ?_
                refine tw_top (fun x152 => ?_)
                have h151 := iv_any x152
                refine lv_goto (tgt := 91) hx hb dX2_readPoint_86 (by decide) ?_
                refine tw_iast hx hb hK hS hz_b132 hk_b132 (Or.inl rfl) hn_b132 h134 ⟨by decide, by decide⟩ h151 (rg_s14 ⟨by decide, by decide⟩) (jl := 0) (jh := 1999999) ⟨by decide, by decide⟩ rfl dX2_readPoint_91 (fun H locs M155 hS k153 f154 => ?_)
                refine tw_iinc (lv' := fun x158 => [(2, .int x158), (4, .int x122), (3, .int x58), (1, .int x3), (0, .ref (base + a0))]) (lo := 1) (hi := 10) hx hb dX2_readPoint_92 hl (k := 2) rfl h31 (by decide) ⟨by decide, by decide⟩ ⟨by decide, by decide⟩ (by decide) (fun _ => rfl) (fun x158 ls e157 h156 hl => ?_)
                refine lv_goto (tgt := 13) hx hb dX2_readPoint_95 (by decide) ?_
                have k159 : M155 a0 2 = x125 := (Fr.kp (k := 2) f154 hk_a0 rfl).trans k128
                have k160 : M155 dr 1 = x12 := ((Fr.kp (k := 1) f154 hk_dr rfl).trans ((Fr.kp (k := 1) f116 hk_dr rfl).trans (Fr.kp (k := 1) f52 hk_dr rfl))).trans k13
                have w161 : x125.toInt ≤ ln.toInt := by
                  have := (h_ln).1; have := (h_ln).2; have := (h_pa).1; have := (h_pa).2; have := (h_po).1; have := (h_po).2; have := (h_x10).1; have := (h_x10).2; have := (h124).1; have := (h124).2; have := (h126).1; have := (h126).2; have := (h49).1; have := (h49).2; have := (h60).1; have := (h60).2; omega
                have hm162 : 10 - x158.toInt < (n_5 : Int) := by
                  have := (h_ln).1; have := (h_ln).2; have := (h_pa).1; have := (h_pa).2; have := (h_po).1; have := (h_po).2; have := (h134).1; have := (h134).2; have := (h156).1; have := (h156).2; have := (h31).1; have := (h31).2; omega
                exact ih_5 x158 x125 x12 M155 R6 J118 H locs _ (iv_mono h156 (by decide) (by decide)) h124 k159 h_x12 k160 w161 hm162 hS (lv_sub hl [0, 3, 4] rfl)
            · have q163 : x58.toInt = 45 := ti_eq c111
              have h164 : iv 45 45 x58 := ⟨by have := (h_x58).1; have := ((iv_c (c := 45) (n := 45) (by decide))).1; omega, by have := (h_x58).2; have := ((iv_c (c := 45) (n := 45) (by decide))).2; omega⟩
              refine lv_aload_n hx hb dX2_readPoint_48 rfl (lv_at hl 3 rfl) ?_
              refine lv_dup hx hb dX2_readPoint_49 rfl ?_
              refine tw_getk hx hb hW hown hK hS f_X2_57_2 hz_a0 hk_a0 (v := x61) k62 dX2_readPoint_50 ?_
              refine lv_iconst (v := 1) hx hb dX2_readPoint_53 (by decide) ?_
              refine tw_iadd (lo := 1) (hi := 1001) hx hb h60 (iv_c (c := 1) (n := 1) (by decide)) ⟨by decide, by decide⟩ ⟨by decide, by decide⟩ dX2_readPoint_54 (fun x167 e166 h165 => ?_)
              have e166 : x167.toInt = x61.toInt + 1 := e166
              have h170 : iv 0 1000 x167 := by
                have := (h_ln).1; have := (h_ln).2; have := (h_pa).1; have := (h_pa).2; have := (h_po).1; have := (h_po).2; have := (h_x10).1; have := (h_x10).2; have := (h165).1; have := (h165).2; have := (h60).1; have := (h60).2; exact ⟨by omega, by omega⟩
              refine tw_puti hx hb hW hown hK hS f_X2_57_2 hz_a0 hk_a0 rfl rfl (lo := 0) (hi := 1000) rfl h170 rfl dX2_readPoint_55 (fun H locs M171 hS k168 f169 => ?_)
              refine lv_aload_n hx hb dX2_readPoint_58 rfl (lv_at hl 3 rfl) ?_
              refine lv_iconst (v := 0) hx hb dX2_readPoint_59 (by decide) ?_
              refine lv_bipush (v := 99) hx hb dX2_readPoint_60 (by decide) ?_
              have k172 : R6 a0 0 = some tb := (Fr.kp (k := 0) g9 hk_a0 rfl).trans k_tb
              have k173 : M171 a0 1 = ln := ((Fr.kp (k := 1) f169 hk_a0 rfl).trans ((Fr.kp (k := 1) f52 hk_a0 rfl).trans (Fr.kp (k := 1) f8 hk_a0 rfl))).trans k_ln
              have k174 : M171 a0 3 = x35 := ((Fr.kp (k := 3) f169 hk_a0 rfl).trans (Fr.kp (k := 3) f52 hk_a0 rfl)).trans k34
              refine tw_goi hS (md_runU (As := [.int 0, .int 99]) (rest := []) hx hb hml hown hW hK hT hS.1 (t_X10_number_1 l D cy tx base Z K N M171 R6 J54 hS.2.1 a0 hz_a0 hk_a0 0 (iv_mono (iv_c (c := 0) (n := 0) (by decide)) (by decide) (by decide)) 99 (iv_mono (iv_c (c := 99) (n := 99) (by decide)) (by decide) (by decide)) tb k172 ln k173 (iv_mono h_ln (by decide) (by decide)) x167 k168 (iv_mono h170 (by decide) (by decide)) x35 k174 (iv_mono h49 (by decide) (by decide))) s_X2_96_X2 ⟨rfl, rfl, ⟨Nat.le_of_ble_eq_true rfl, Nat.le_of_ble_eq_true rfl⟩, ⟨Nat.le_of_ble_eq_true rfl, Nat.le_of_ble_eq_true rfl⟩⟩ hz_a0 hk_a0 (by decide) rfl rfl hl.1 rfl (Nat.le_of_ble_eq_true rfl) dX2_readPoint_62) rfl rfl (fun x181 H locs M178 R179 J177 hS f175 g176 E180 => ?_)
              have eR179 := Fr.nil g176 rfl
              subst eR179
              obtain ⟨h_x181, p182⟩ := E180
              obtain ⟨x184, x186, k187, k188, h183, h185, q189⟩ := p182
              have k187 : M178 a0 2 = x184 := k187
              have k188 : M178 a0 3 = x186 := k188
              refine lv_istore (lv' := [(4, .int x181), (3, .int x58), (2, .int x4), (1, .int x3), (0, .ref (base + a0))]) hx hb dX2_readPoint_65 hl (by decide) rfl (fun ls hl => ?_)
              refine lv_aload_n hx hb dX2_readPoint_67 rfl (lv_at hl 4 rfl) ?_
              have k190 : R6 a0 5 = some dr := (Fr.kp (k := 5) g9 hk_a0 rfl).trans k_dr
              refine tw_getrk hx hb hW hown hK hS f_X2_12_2 hz_a0 hk_a0 (b := dr) k190 dX2_readPoint_68 ?_
              refine tw_getr hx hb hW hown hK hS f_X2_99_9 hz_dr hk_dr (t := 14) (n := 120) rfl dX2_readPoint_71 (fun b191 k192 hz_b191 hk_b191 hn_b191 => ?_)
              have hn_b191 := hn_b191 (by decide)
              refine lv_iload_n hx hb dX2_readPoint_74 rfl (lv_at hl 3 rfl) ?_
              refine lv_iload_n hx hb dX2_readPoint_75 rfl (lv_at hl 2 rfl) ?_
              refine tw_iadd (lo := 0) (hi := 119) hx hb h1 h31 ⟨by decide, by decide⟩ ⟨by decide, by decide⟩ dX2_readPoint_76 (fun x195 e194 h193 => ?_)
              refine lv_iload_n hx hb dX2_readPoint_77 rfl (lv_at hl 1 rfl) ?_
              refine lv_bipush (v := 45) hx hb dX2_readPoint_78 (by decide) ?_
              refine lv_icmp_ne (tgt := 89) hx hb dX2_readPoint_80 (by decide) (fun c196 => False.elim (by have q : ¬ x58.toInt = 45 := ti_ne c196; have := (h164).1; have := (h164).2; omega)) (fun c196 => ?_)
              have q197 : x58.toInt = 45 := ti_eq c196
              refine lv_iload hx hb dX2_readPoint_83 (lv_at hl 0 rfl) ?_
              refine lv_ineg hx hb dX2_readPoint_85 ?_
              refine tw_top (fun x199 => ?_)
              have h198 := iv_any x199
              refine lv_goto (tgt := 91) hx hb dX2_readPoint_86 (by decide) ?_
              refine tw_iast hx hb hK hS hz_b191 hk_b191 (Or.inl rfl) hn_b191 h193 ⟨by decide, by decide⟩ h198 (rg_s14 ⟨by decide, by decide⟩) (jl := 0) (jh := 1999999) ⟨by decide, by decide⟩ rfl dX2_readPoint_91 (fun H locs M202 hS k200 f201 => ?_)
              refine tw_iinc (lv' := fun x205 => [(2, .int x205), (4, .int x181), (3, .int x58), (1, .int x3), (0, .ref (base + a0))]) (lo := 1) (hi := 10) hx hb dX2_readPoint_92 hl (k := 2) rfl h31 (by decide) ⟨by decide, by decide⟩ ⟨by decide, by decide⟩ (by decide) (fun _ => rfl) (fun x205 ls e204 h203 hl => ?_)
              refine lv_goto (tgt := 13) hx hb dX2_readPoint_95 (by decide) ?_
              have k206 : M202 a0 2 = x184 := (Fr.kp (k := 2) f201 hk_a0 rfl).trans k187
              have k207 : M202 dr 1 = x12 := ((Fr.kp (k := 1) f201 hk_dr rfl).trans ((Fr.kp (k := 1) f175 hk_dr rfl).trans ((Fr.kp (k := 1) f169 hk_dr rfl).trans (Fr.kp (k := 1) f52 hk_dr rfl)))).trans k13
              have w208 : x184.toInt ≤ ln.toInt := by
                have := (h_ln).1; have := (h_ln).2; have := (h_pa).1; have := (h_pa).2; have := (h_po).1; have := (h_po).2; have := (h_x10).1; have := (h_x10).2; have := (h170).1; have := (h170).2; have := (h183).1; have := (h183).2; have := (h185).1; have := (h185).2; have := (h49).1; have := (h49).2; have := (h60).1; have := (h60).2; omega
              have hm209 : 10 - x205.toInt < (n_5 : Int) := by
                have := (h_ln).1; have := (h_ln).2; have := (h_pa).1; have := (h_pa).2; have := (h_po).1; have := (h_po).2; have := (h193).1; have := (h193).2; have := (h203).1; have := (h203).2; have := (h31).1; have := (h31).2; omega
              exact ih_5 x205 x184 x12 M202 R6 J177 H locs _ (iv_mono h203 (by decide) (by decide)) h183 k206 h_x12 k207 w208 hm209 hS (lv_sub hl [0, 3, 4] rfl)
  have w210 : pa.toInt ≤ ln.toInt := by
    have := (h_ln).1; have := (h_ln).2; have := (h_pa).1; have := (h_pa).2; have := (h_po).1; have := (h_po).2; omega
  have hm211 : 10 - (0 : Int32).toInt < (((11 : Nat) : Int) : Int) := by
    have := (h_ln).1; have := (h_ln).2; have := (h_pa).1; have := (h_pa).2; have := (h_po).1; have := (h_po).2; have : (0 : Int32).toInt = 0 := (by decide); omega
  exact W13_5 11 0 pa po Ma Ra Ja s.heap [] _ (iv_mono (iv_c (c := 0) (n := 0) (by decide)) (by decide) (by decide)) (iv_mono h_pa (by decide) (by decide)) k_pa h_po k_po w210 hm211 hS hl
def Lt_X2_readRest : WL := [(3, 2, 4), (3, 6, 7), (10, 0, 2), (14, 0, 2000000), (20, 0, 2000000)]
def LRt_X2_readRest : WL := []
set_option maxRecDepth 100000 in
set_option maxHeartbeats 4000000 in
theorem t_X2_readRest (l : Launch) (D : va_G) (cy : Nat → ClassId) (tx : (Nat → Nat) × (Nat → Nat)) (base Z : Nat) (K N : Nat → Nat) (Ma : MT) (Ra : RT) (Ja : JT) (hTy : Ty Z K N Ma Ra) (a0 : Nat) (hz_a0 : a0 < Z) (hk_a0 : K a0 = 3) (a1 : Int32) (h_a1 : iv (-2147483648) 2147483647 a1) (tb : Nat) (k_tb : Ra a0 0 = some tb) (ln : Int32) (k_ln : Ma a0 1 = ln) (h_ln : iv 0 400 ln) (pa : Int32) (k_pa : Ma a0 2 = pa) (h_pa : iv 0 400 pa) (hin : pa.toInt ≤ ln.toInt) (dr : Nat) (k_dr : Ra a0 5 = some dr) (po : Int32) (k_po : Ma dr 1 = po) (h_po : iv 0 12 po) (hpo : ¬ a1.toInt = 1 ∨ po.toInt ≤ 11) : Met l yX2_readRest [Cond.code yX2_readRest cX2_readRest 3 none] (md_rm 5 0 0) (va_Pc [.ref (base + a0), .int a1] (md_U D cy tx base Z K N Ma Ra Ja)) (mQv D cy tx base (fun u => TP Z K N Lt_X2_readRest LRt_X2_readRest Ma Ra u ∧ ((∃ x0 : Int32, u.2.2.2.1 a0 2 = x0 ∧ iv 0 400 x0 ∧ (x0.toInt ≤ ln.toInt))))) 0 0 (fun q => base ≤ q) := by
  refine tw_ofW (L := Lt_X2_readRest) (LR := LRt_X2_readRest) (by decide) (Nat.le_of_ble_eq_true rfl) hTy ?_
  intro p e s m args below meth c Q ls hx hb hr hlocks hown hml hW hK hT hS hQ hl
  have hl : lv_has ls 3 [(0, .ref (base + a0)), (1, .int a1)] := hl
  obtain ⟨hz_tb, hk_tb, hn_tb⟩ := hTy.refn hz_a0 hk_a0 (show rtR 3 0 = (13, 400, 1) from rfl) k_tb
  have hn_tb := hn_tb (by decide)
  obtain ⟨hz_dr, hk_dr, hn_dr⟩ := hTy.refn hz_a0 hk_a0 (show rtR 3 5 = (10, 0, 0) from rfl) k_dr
  refine lv_iload_n hx hb dX2_readRest_0 rfl (lv_at hl 1 rfl) ?_
  by_cases c1 : a1 = 0
  · subst c1
    refine lv_tableIn (off := 27) (tgt := 28) hx hb dX2_readRest_1 (by decide) (by decide) rfl (by decide) ?_
    refine lv_aload_n hx hb dX2_readRest_28 rfl (lv_at hl 0 rfl) ?_
    refine tw_getrk hx hb hW hown hK hS f_X2_12_2 hz_a0 hk_a0 (b := dr) k_dr dX2_readRest_29 ?_
    refine lv_aload_n hx hb dX2_readRest_32 rfl (lv_at hl 0 rfl) ?_
    refine lv_iconst (v := 1) hx hb dX2_readRest_33 (by decide) ?_
    refine lv_bipush (v := 10) hx hb dX2_readRest_34 (by decide) ?_
    have q2 : pa.toInt ≤ ln.toInt := by
      have := (h_ln).1; have := (h_ln).2; have := (h_pa).1; have := (h_pa).2; have := (h_po).1; have := (h_po).2; omega
    refine tw_goi hS (md_runV (As := [.int 1, .int 10]) (rest := [.ref (base + dr)]) hx hb hml hown hW hK hT hS.1 (t_X2_numberBehindBlanks l D cy tx base Z K N Ma Ra Ja hS.2.1 a0 hz_a0 hk_a0 1 (iv_mono (iv_c (c := 1) (n := 1) (by decide)) (by decide) (by decide)) 10 (iv_mono (iv_c (c := 10) (n := 10) (by decide)) (by decide) (by decide)) tb k_tb ln k_ln (iv_mono h_ln (by decide) (by decide)) pa k_pa (iv_mono h_pa (by decide) (by decide)) q2) s_X2_77 ⟨rfl, rfl, ⟨Nat.le_of_ble_eq_true rfl, Nat.le_of_ble_eq_true rfl⟩, ⟨Nat.le_of_ble_eq_true rfl, Nat.le_of_ble_eq_true rfl⟩⟩ hz_a0 hk_a0 (by decide) rfl rfl hl.1 rfl (Nat.le_of_ble_eq_true rfl) dX2_readRest_36) rfl rfl (fun x9 H locs M6 R7 J5 hS f3 g4 E8 => ?_)
    have eR7 := Fr.nil g4 rfl
    subst eR7
    obtain ⟨h_x9, p10⟩ := E8
    obtain ⟨x12, k13, h11, q14⟩ := p10
    have k13 : M6 a0 2 = x12 := k13
    refine lv_bipush (v := 10) hx hb dX2_readRest_39 (by decide) ?_
    refine va_mmin hx hb (hml.trans hl.1.symm) hown (hW _ w_3_200 rfl) (hW _ w_3_86 rfl) (hW _ w_1_13 rfl) (hW _ w_3_87 rfl) (Nat.le_of_ble_eq_true rfl) (Nat.le_of_ble_eq_true rfl) (Nat.le_of_ble_eq_true rfl) (Nat.le_of_ble_eq_true rfl) dX2_readRest_41 ?_
    refine tw_mmin (lo := (-2147483648)) (hi := 10) h_x9 (iv_c (c := 10) (n := 10) (by decide)) (by decide) (fun x17 e16 h15 => ?_)
    refine tw_puti hx hb hW hown hK hS f_X2_37_9 hz_dr hk_dr rfl rfl (lo := (-2147483648)) (hi := 10) rfl h15 rfl dX2_readRest_44 (fun H locs M20 hS k18 f19 => ?_)
    refine lv_goto (tgt := 112) hx hb dX2_readRest_47 (by decide) ?_
    have k21 : M20 a0 2 = x12 := (Fr.kp (k := 2) f19 hk_a0 rfl).trans k13
    have q22 : x12.toInt ≤ ln.toInt := by
      have := (h_ln).1; have := (h_ln).2; have := (h_pa).1; have := (h_pa).2; have := (h_po).1; have := (h_po).2; have := (h11).1; have := (h11).2; omega
    exact tw_endv hx hb hr hlocks hK hT hS hQ (⟨x12, k21, h11, q22⟩) dX2_readRest_112
  have q23 : ¬ a1.toInt = 0 := ti_ne c1
  by_cases c24 : a1 = 1
  · subst c24
    refine lv_tableIn (off := 49) (tgt := 50) hx hb dX2_readRest_1 (by decide) (by decide) rfl (by decide) ?_
    refine lv_aload_n hx hb dX2_readRest_50 rfl (lv_at hl 0 rfl) ?_
    have q25 : pa.toInt ≤ ln.toInt := by
      have := (h_ln).1; have := (h_ln).2; have := (h_pa).1; have := (h_pa).2; have := (h_po).1; have := (h_po).2; omega
    have h26 : iv 0 11 po := by
      have : (0 : Int32).toInt = 0 := (by decide); have : (1 : Int32).toInt = 1 := (by decide); have : (2 : Int32).toInt = 2 := (by decide); have := (h_ln).1; have := (h_ln).2; have := (h_pa).1; have := (h_pa).2; have := (h_po).1; have := (h_po).2; exact ⟨by omega, by omega⟩
    refine tw_gov hS (md_runV (As := []) (rest := []) hx hb hml hown hW hK hT hS.1 (t_X2_readPoint l D cy tx base Z K N Ma Ra Ja hS.2.1 a0 hz_a0 hk_a0 tb k_tb ln k_ln (iv_mono h_ln (by decide) (by decide)) pa k_pa (iv_mono h_pa (by decide) (by decide)) q25 dr k_dr po k_po h26) s_X2_86 ⟨rfl, rfl, ⟨Nat.le_of_ble_eq_true rfl, Nat.le_of_ble_eq_true rfl⟩, ⟨Nat.le_of_ble_eq_true rfl, Nat.le_of_ble_eq_true rfl⟩⟩ hz_a0 hk_a0 (by decide) rfl rfl hl.1 rfl (Nat.le_of_ble_eq_true rfl) dX2_readRest_51) rfl rfl (fun H locs M30 R31 J29 hS f27 g28 E32 => ?_)
    have eR31 := Fr.nil g28 rfl
    subst eR31
    have p33 := E32
    clear E32
    obtain ⟨x35, k36, h34, q37⟩ := p33
    have k36 : M30 a0 2 = x35 := k36
    refine lv_goto (tgt := 112) hx hb dX2_readRest_54 (by decide) ?_
    have q38 : x35.toInt ≤ ln.toInt := by
      have := (h_ln).1; have := (h_ln).2; have := (h_pa).1; have := (h_pa).2; have := (h_po).1; have := (h_po).2; have := (h34).1; have := (h34).2; omega
    exact tw_endv hx hb hr hlocks hK hT hS hQ (⟨x35, k36, h34, q38⟩) dX2_readRest_112
  have q39 : ¬ a1.toInt = 1 := ti_ne c24
  by_cases c40 : a1 = 2
  · subst c40
    refine lv_tableIn (off := 56) (tgt := 57) hx hb dX2_readRest_1 (by decide) (by decide) rfl (by decide) ?_
    refine lv_iconst (v := 0) hx hb dX2_readRest_57 (by decide) ?_
    refine lv_istore_n (lv' := [(2, .int 0), (0, .ref (base + a0)), (1, .int 2)]) hx hb dX2_readRest_58 rfl hl (by decide) rfl (fun ls hl => ?_)
    have W59_42 : ∀ (n_42 : Nat) (x41 : Int32) (x47 : Int32) (M42 : MT) (R43 : RT) (J44 : JT) (H : Heap) (locs : List Loc) (ls : Array Slot) (h_x41 : iv 0 10 x41) (h_x47 : iv 0 400 x47) (k48 : M42 a0 2 = x47) (w0_42 : x47.toInt ≤ ln.toInt) (hm_42 : 10 - x41.toInt < (n_42 : Int)) (hS : SB D cy base Z K N Lt_X2_readRest LRt_X2_readRest Ma Ra M42 R43 J44 s H locs) (hl : lv_has ls 3 [(2, .int x41), (0, .ref (base + a0)), (1, .int 2)]), W p l e (md_rm 5 0 0) s m args below meth c H locs 0 0 Q (F0 m 59 ls []) := by
      intro n_42
      induction n_42 with
      | zero =>
        intro x41 x47 M42 R43 J44 H locs ls h_x41 h_x47 k48 w0_42 hm_42 hS hl
        exfalso
        have := (h_ln).1; have := (h_ln).2; have := (h_pa).1; have := (h_pa).2; have := (h_po).1; have := (h_po).2; have := (h_x41).1; have := (h_x41).2; omega
      | succ n_42 ih_42 =>
        intro x41 x47 M42 R43 J44 H locs ls h_x41 h_x47 k48 w0_42 hm_42 hS hl
        have f45 := hS.2.2.1
        have g46 := hS.2.2.2
        refine lv_iload_n hx hb dX2_readRest_59 rfl (lv_at hl 0 rfl) ?_
        refine lv_aload_n hx hb dX2_readRest_60 rfl (lv_at hl 1 rfl) ?_
        have k49 : R43 a0 5 = some dr := (Fr.kp (k := 5) g46 hk_a0 rfl).trans k_dr
        refine tw_getrk hx hb hW hown hK hS f_X2_12_2 hz_a0 hk_a0 (b := dr) k49 dX2_readRest_61 ?_
        refine tw_geti hx hb hW hown hK hS f_X2_37_9 hz_dr hk_dr (lo := (-2147483648)) (hi := 10) rfl dX2_readRest_64 (fun x52 k51 h50 => ?_)
        refine lv_icmp_ge (tgt := 100) hx hb dX2_readRest_67 (by decide) (fun c53 => ?_) (fun c53 => ?_)
        · have q54 : x52.toInt ≤ x41.toInt := ti_le c53
          refine lv_aload_n hx hb dX2_readRest_100 rfl (lv_at hl 1 rfl) ?_
          refine lv_iconst (v := 1) hx hb dX2_readRest_101 (by decide) ?_
          refine tw_puti hx hb hW hown hK hS f_X2_25_2 hz_a0 hk_a0 rfl rfl (lo := (-2147483648)) (hi := 2147483647) rfl (iv_mono (iv_c (c := 1) (n := 1) (by decide)) (by decide) (by decide)) rfl dX2_readRest_102 (fun H locs M57 hS k55 f56 => ?_)
          refine lv_goto (tgt := 112) hx hb dX2_readRest_105 (by decide) ?_
          have k58 : M57 a0 2 = x47 := (Fr.kp (k := 2) f56 hk_a0 rfl).trans k48
          have q59 : x47.toInt ≤ ln.toInt := by
            have := (h_ln).1; have := (h_ln).2; have := (h_pa).1; have := (h_pa).2; have := (h_po).1; have := (h_po).2; have := (h_x47).1; have := (h_x47).2; omega
          exact tw_endv hx hb hr hlocks hK hT hS hQ (⟨x47, k58, h_x47, q59⟩) dX2_readRest_112
        · have q60 : x41.toInt < x52.toInt := ti_nle c53
          have h61 : iv 0 9 x41 := iv_ltL (y := x52) h_x41 h50 q60 (by decide)
          have h62 : iv 1 10 x52 := iv_gtL (y := x41) h50 h_x41 q60 (by decide)
          refine lv_aload_n hx hb dX2_readRest_70 rfl (lv_at hl 1 rfl) ?_
          refine tw_geti hx hb hW hown hK hS f_X2_44_2 hz_a0 hk_a0 (lo := (-2147483648)) (hi := 2147483647) rfl dX2_readRest_71 (fun x65 k64 h63 => ?_)
          refine lv_if_ne (tgt := 100) hx hb dX2_readRest_74 (by decide) (fun c66 => ?_) (fun c66 => ?_)
          · have q67 : ¬ x65.toInt = 0 := ti_ne c66
            refine lv_aload_n hx hb dX2_readRest_100 rfl (lv_at hl 1 rfl) ?_
            refine lv_iconst (v := 1) hx hb dX2_readRest_101 (by decide) ?_
            refine tw_puti hx hb hW hown hK hS f_X2_25_2 hz_a0 hk_a0 rfl rfl (lo := (-2147483648)) (hi := 2147483647) rfl (iv_mono (iv_c (c := 1) (n := 1) (by decide)) (by decide) (by decide)) rfl dX2_readRest_102 (fun H locs M70 hS k68 f69 => ?_)
            refine lv_goto (tgt := 112) hx hb dX2_readRest_105 (by decide) ?_
            have k71 : M70 a0 2 = x47 := (Fr.kp (k := 2) f69 hk_a0 rfl).trans k48
            have q72 : x47.toInt ≤ ln.toInt := by
              have := (h_ln).1; have := (h_ln).2; have := (h_pa).1; have := (h_pa).2; have := (h_po).1; have := (h_po).2; have := (h_x47).1; have := (h_x47).2; omega
            exact tw_endv hx hb hr hlocks hK hT hS hQ (⟨x47, k71, h_x47, q72⟩) dX2_readRest_112
          · have q73 : x65.toInt = 0 := ti_eq c66
            have h74 : iv 0 0 x65 := ⟨by have := (h63).1; have := ((iv_c (c := 0) (n := 0) (by decide))).1; omega, by have := (h63).2; have := ((iv_c (c := 0) (n := 0) (by decide))).2; omega⟩
            refine lv_aload_n hx hb dX2_readRest_77 rfl (lv_at hl 1 rfl) ?_
            have k75 : R43 a0 5 = some dr := (Fr.kp (k := 5) g46 hk_a0 rfl).trans k_dr
            refine tw_getrk hx hb hW hown hK hS f_X2_12_2 hz_a0 hk_a0 (b := dr) k75 dX2_readRest_78 ?_
            refine tw_getr hx hb hW hown hK hS f_X2_89_9 hz_dr hk_dr (t := 20) (n := 10) rfl dX2_readRest_81 (fun b76 k77 hz_b76 hk_b76 hn_b76 => ?_)
            have hn_b76 := hn_b76 (by decide)
            refine lv_iload_n hx hb dX2_readRest_84 rfl (lv_at hl 0 rfl) ?_
            refine lv_aload_n hx hb dX2_readRest_85 rfl (lv_at hl 1 rfl) ?_
            refine lv_iconst (v := 1) hx hb dX2_readRest_86 (by decide) ?_
            refine lv_sipush (v := 999) hx hb dX2_readRest_87 (by decide) ?_
            have k78 : R43 a0 0 = some tb := (Fr.kp (k := 0) g46 hk_a0 rfl).trans k_tb
            have k79 : M42 a0 1 = ln := (Fr.kp (k := 1) f45 hk_a0 rfl).trans k_ln
            have q80 : x47.toInt ≤ ln.toInt := by
              have := (h_ln).1; have := (h_ln).2; have := (h_pa).1; have := (h_pa).2; have := (h_po).1; have := (h_po).2; have := (h_x47).1; have := (h_x47).2; omega
            refine tw_goi hS (md_runV (As := [.int 1, .int 999]) (rest := [.int x41, .ref (base + b76)]) hx hb hml hown hW hK hT hS.1 (t_X2_numberBehindBlanks l D cy tx base Z K N M42 R43 J44 hS.2.1 a0 hz_a0 hk_a0 1 (iv_mono (iv_c (c := 1) (n := 1) (by decide)) (by decide) (by decide)) 999 (iv_mono (iv_c (c := 999) (n := 999) (by decide)) (by decide) (by decide)) tb k78 ln k79 (iv_mono h_ln (by decide) (by decide)) x47 k48 (iv_mono h_x47 (by decide) (by decide)) q80) s_X2_77 ⟨rfl, rfl, ⟨Nat.le_of_ble_eq_true rfl, Nat.le_of_ble_eq_true rfl⟩, ⟨Nat.le_of_ble_eq_true rfl, Nat.le_of_ble_eq_true rfl⟩⟩ hz_a0 hk_a0 (by decide) rfl rfl hl.1 rfl (Nat.le_of_ble_eq_true rfl) dX2_readRest_90) rfl rfl (fun x87 H locs M84 R85 J83 hS f81 g82 E86 => ?_)
            have eR85 := Fr.nil g82 rfl
            subst eR85
            obtain ⟨h_x87, p88⟩ := E86
            obtain ⟨x90, k91, h89, q92⟩ := p88
            have k91 : M84 a0 2 = x90 := k91
            refine tw_iast hx hb hK hS hz_b76 hk_b76 (Or.inr (by decide)) hn_b76 h61 ⟨by decide, by decide⟩ h_x87 (rg_s20 ⟨by decide, by decide⟩) (jl := 0) (jh := 1999999) ⟨by decide, by decide⟩ rfl dX2_readRest_93 (fun H locs M95 hS k93 f94 => ?_)
            refine tw_iinc (lv' := fun x98 => [(2, .int x98), (0, .ref (base + a0)), (1, .int 2)]) (lo := 1) (hi := 10) hx hb dX2_readRest_94 hl (k := 0) rfl h61 (by decide) ⟨by decide, by decide⟩ ⟨by decide, by decide⟩ (by decide) (fun _ => rfl) (fun x98 ls e97 h96 hl => ?_)
            refine lv_goto (tgt := 59) hx hb dX2_readRest_97 (by decide) ?_
            have k99 : M95 a0 2 = x90 := (Fr.kp (k := 2) f94 hk_a0 rfl).trans k91
            have w100 : x90.toInt ≤ ln.toInt := by
              have := (h_ln).1; have := (h_ln).2; have := (h_pa).1; have := (h_pa).2; have := (h_po).1; have := (h_po).2; have := (h_x47).1; have := (h_x47).2; have := (h89).1; have := (h89).2; omega
            have hm101 : 10 - x98.toInt < (n_42 : Int) := by
              have := (h_ln).1; have := (h_ln).2; have := (h_pa).1; have := (h_pa).2; have := (h_po).1; have := (h_po).2; have := (h61).1; have := (h61).2; have := (h96).1; have := (h96).2; omega
            exact ih_42 x98 x90 M95 R43 J83 H locs _ (iv_mono h96 (by decide) (by decide)) h89 k99 w100 hm101 hS hl
    have w102 : pa.toInt ≤ ln.toInt := by
      have := (h_ln).1; have := (h_ln).2; have := (h_pa).1; have := (h_pa).2; have := (h_po).1; have := (h_po).2; omega
    have hm103 : 10 - (0 : Int32).toInt < (((11 : Nat) : Int) : Int) := by
      have := (h_ln).1; have := (h_ln).2; have := (h_pa).1; have := (h_pa).2; have := (h_po).1; have := (h_po).2; have : (0 : Int32).toInt = 0 := (by decide); omega
    exact W59_42 11 0 pa Ma Ra Ja s.heap [] _ (iv_mono (iv_c (c := 0) (n := 0) (by decide)) (by decide) (by decide)) h_pa k_pa w102 hm103 hS hl
  have q104 : ¬ a1.toInt = 2 := ti_ne c40
  refine lv_tableOut (tgt := 108) hx hb dX2_readRest_1 (by have := (h_a1).1; have := (h_a1).2; omega) (by decide) ?_
  refine lv_aload_n hx hb dX2_readRest_108 rfl (lv_at hl 0 rfl) ?_
  have q105 : pa.toInt ≤ ln.toInt := by
    have := (h_a1).1; have := (h_a1).2; have := (h_ln).1; have := (h_ln).2; have := (h_pa).1; have := (h_pa).2; have := (h_po).1; have := (h_po).2; omega
  refine tw_gov hS (md_runV (As := []) (rest := []) hx hb hml hown hW hK hT hS.1 (t_X2_readBent l D cy tx base Z K N Ma Ra Ja hS.2.1 a0 hz_a0 hk_a0 tb k_tb ln k_ln (iv_mono h_ln (by decide) (by decide)) pa k_pa (iv_mono h_pa (by decide) (by decide)) q105) s_X2_93 ⟨rfl, rfl, ⟨Nat.le_of_ble_eq_true rfl, Nat.le_of_ble_eq_true rfl⟩, ⟨Nat.le_of_ble_eq_true rfl, Nat.le_of_ble_eq_true rfl⟩⟩ hz_a0 hk_a0 (by decide) rfl rfl hl.1 rfl (Nat.le_of_ble_eq_true rfl) dX2_readRest_109) rfl rfl (fun H locs M109 R110 J108 hS f106 g107 E111 => ?_)
  have eR110 := Fr.nil g107 rfl
  subst eR110
  have p112 := E111
  clear E111
  obtain ⟨x114, k115, h113, q116⟩ := p112
  have k115 : M109 a0 2 = x114 := k115
  have q117 : x114.toInt ≤ ln.toInt := by
    have := (h_a1).1; have := (h_a1).2; have := (h_ln).1; have := (h_ln).2; have := (h_pa).1; have := (h_pa).2; have := (h_po).1; have := (h_po).2; have := (h113).1; have := (h113).2; omega
  exact tw_endv hx hb hr hlocks hK hT hS hQ (⟨x114, k115, h113, q117⟩) dX2_readRest_112
def Lt_X2_readClause : WL := [(3, 2, 5), (3, 6, 7), (10, 0, 2), (14, 0, 2000000), (20, 0, 2000000)]
def LRt_X2_readClause : WL := []
set_option maxRecDepth 100000 in
set_option maxHeartbeats 4000000 in
theorem t_X2_readClause (l : Launch) (D : va_G) (cy : Nat → ClassId) (tx : (Nat → Nat) × (Nat → Nat)) (base Z : Nat) (K N : Nat → Nat) (Ma : MT) (Ra : RT) (Ja : JT) (hTy : Ty Z K N Ma Ra) (a0 : Nat) (hz_a0 : a0 < Z) (hk_a0 : K a0 = 3) (a1 : Int32) (h_a1 : iv 0 27 a1) (tb : Nat) (k_tb : Ra a0 0 = some tb) (ln : Int32) (k_ln : Ma a0 1 = ln) (h_ln : iv 0 400 ln) (pa : Int32) (k_pa : Ma a0 2 = pa) (h_pa : iv 0 400 pa) (hin : pa.toInt ≤ ln.toInt) (dr : Nat) (k_dr : Ra a0 5 = some dr) (po : Int32) (k_po : Ma dr 1 = po) (h_po : iv 0 12 po) : Met l yX2_readClause [Cond.code yX2_readClause cX2_readClause 3 none] (md_rm 7 0 0) (va_Pc [.ref (base + a0), .int a1] (md_U D cy tx base Z K N Ma Ra Ja)) (mQv D cy tx base (fun u => TP Z K N Lt_X2_readClause LRt_X2_readClause Ma Ra u ∧ ((∃ x0 : Int32, u.2.2.2.1 a0 2 = x0 ∧ iv 0 400 x0 ∧ (x0.toInt ≤ ln.toInt))))) 0 0 (fun q => base ≤ q) := by
  refine tw_ofW (L := Lt_X2_readClause) (LR := LRt_X2_readClause) (by decide) (Nat.le_of_ble_eq_true rfl) hTy ?_
  intro p e s m args below meth c Q ls hx hb hr hlocks hown hml hW hK hT hS hQ hl
  have hl : lv_has ls 3 [(0, .ref (base + a0)), (1, .int a1)] := hl
  obtain ⟨hz_tb, hk_tb, hn_tb⟩ := hTy.refn hz_a0 hk_a0 (show rtR 3 0 = (13, 400, 1) from rfl) k_tb
  have hn_tb := hn_tb (by decide)
  obtain ⟨hz_dr, hk_dr, hn_dr⟩ := hTy.refn hz_a0 hk_a0 (show rtR 3 5 = (10, 0, 0) from rfl) k_dr
  refine lv_aload_n hx hb dX2_readClause_0 rfl (lv_at hl 0 rfl) ?_
  refine tw_goi hS (md_runU (As := []) (rest := []) hx hb hml hown hW hK hT hS.1 (t_X10_hereBehindBlanks_1 l D cy tx base Z K N Ma Ra Ja hS.2.1 a0 hz_a0 hk_a0 tb k_tb ln k_ln (iv_mono h_ln (by decide) (by decide)) pa k_pa (iv_mono h_pa (by decide) (by decide))) s_X2_47_X2 ⟨rfl, rfl, ⟨Nat.le_of_ble_eq_true rfl, Nat.le_of_ble_eq_true rfl⟩, ⟨Nat.le_of_ble_eq_true rfl, Nat.le_of_ble_eq_true rfl⟩⟩ hz_a0 hk_a0 (by decide) rfl rfl hl.1 rfl (Nat.le_of_ble_eq_true rfl) dX2_readClause_1) rfl rfl (fun x7 H locs M4 R5 J3 hS f1 g2 E6 => ?_)
  have eR5 := Fr.nil g2 rfl
  subst eR5
  obtain ⟨h_x7, p8⟩ := E6
  obtain ⟨x10, k11, h9, q12⟩ := p8
  have k11 : M4 a0 2 = x10 := k11
  have h13 : iv 0 400 x10 := by
    have := (h_a1).1; have := (h_a1).2; have := (h_ln).1; have := (h_ln).2; have := (h_pa).1; have := (h_pa).2; have := (h_po).1; have := (h_po).2; have := (h9).1; have := (h9).2; exact ⟨by omega, by omega⟩
  refine lv_pop hx hb dX2_readClause_4 rfl ?_
  refine lv_aload_n hx hb dX2_readClause_5 rfl (lv_at hl 0 rfl) ?_
  refine va_ldcS hx hb hown hT.2.1.1 dX2_readClause_6 ?_
  have k14 : M4 a0 1 = ln := (Fr.kp (k := 1) f1 hk_a0 rfl).trans k_ln
  refine tw_goi hS (md_runU (As := [.ref (tx.1 0)]) (rest := []) hx hb hml hown hW hK hT hS.1 (t_X10_whichWord_1 l D cy tx base Z K N M4 Ra J3 hS.2.1 a0 hz_a0 hk_a0 0 (by decide) tb k_tb ln k14 (iv_mono h_ln (by decide) (by decide)) x10 k11 (iv_mono h13 (by decide) (by decide))) s_X2_53_X2 ⟨rfl, rfl, ⟨Nat.le_of_ble_eq_true rfl, Nat.le_of_ble_eq_true rfl⟩, ⟨Nat.le_of_ble_eq_true rfl, Nat.le_of_ble_eq_true rfl⟩⟩ hz_a0 hk_a0 (by decide) rfl rfl hl.1 rfl (Nat.le_of_ble_eq_true rfl) dX2_readClause_8) rfl rfl (fun x21 H locs M18 R19 J17 hS f15 g16 E20 => ?_)
  have eR19 := Fr.nil g16 rfl
  subst eR19
  obtain ⟨h_x21, p22⟩ := E20
  obtain ⟨x24, k25, h23, q26⟩ := p22
  have k25 : M18 a0 4 = x24 := k25
  have h27 : iv 0 400 x24 := by
    have := (h_a1).1; have := (h_a1).2; have := (h_ln).1; have := (h_ln).2; have := (h_pa).1; have := (h_pa).2; have := (h_po).1; have := (h_po).2; have := (h13).1; have := (h13).2; have := (h23).1; have := (h23).2; exact ⟨by omega, by omega⟩
  refine lv_istore_n (lv' := [(2, .int x21), (0, .ref (base + a0)), (1, .int a1)]) hx hb dX2_readClause_11 rfl hl (by decide) rfl (fun ls hl => ?_)
  refine lv_iload_n hx hb dX2_readClause_12 rfl (lv_at hl 0 rfl) ?_
  refine lv_iconst (v := (-1)) hx hb dX2_readClause_13 (by decide) ?_
  refine lv_icmp_ne (tgt := 29) hx hb dX2_readClause_14 (by decide) (fun c28 => ?_) (fun c28 => ?_)
  · have q29 : ¬ x21.toInt = (-1) := ti_ne c28
    refine lv_iload_n hx hb dX2_readClause_29 rfl (lv_at hl 2 rfl) ?_
    refine lv_bipush (v := 16) hx hb dX2_readClause_30 (by decide) ?_
    refine lv_icmp_ge (tgt := 52) hx hb dX2_readClause_32 (by decide) (fun c30 => ?_) (fun c30 => ?_)
    · have q31 : 16 ≤ a1.toInt := ti_le c30
      have h32 : iv 16 27 a1 := iv_geL (y := 16) h_a1 (iv_c (c := 16) (n := 16) (by decide)) q31 (by decide)
      refine lv_aload_n hx hb dX2_readClause_52 rfl (lv_at hl 1 rfl) ?_
      refine lv_aload_n hx hb dX2_readClause_53 rfl (lv_at hl 1 rfl) ?_
      have k33 : M18 a0 2 = x10 := (Fr.kp (k := 2) f15 hk_a0 rfl).trans k11
      refine tw_getk hx hb hW hown hK hS f_X2_57_2 hz_a0 hk_a0 (v := x10) k33 dX2_readClause_54 ?_
      refine lv_iconst (v := 4) hx hb dX2_readClause_57 (by decide) ?_
      refine tw_gov hS (md_runU (As := [.int x10, .int 4]) (rest := []) hx hb hml hown hW hK hT hS.1 (t_X10_fail_1 l D cy tx base Z K N M18 Ra J17 hS.2.1 a0 hz_a0 hk_a0 x10 (iv_mono h13 (by decide) (by decide)) 4 (iv_mono (iv_c (c := 4) (n := 4) (by decide)) (by decide) (by decide))) s_X2_60_X2 ⟨rfl, rfl, ⟨Nat.le_of_ble_eq_true rfl, Nat.le_of_ble_eq_true rfl⟩, ⟨Nat.le_of_ble_eq_true rfl, Nat.le_of_ble_eq_true rfl⟩⟩ hz_a0 hk_a0 (by decide) rfl rfl hl.1 rfl (Nat.le_of_ble_eq_true rfl) dX2_readClause_58) rfl rfl (fun H locs M37 R38 J36 hS f34 g35 E39 => ?_)
      have eR38 := Fr.nil g35 rfl
      subst eR38
      have p40 := E39
      clear E39
      obtain ⟨x42, k43, h41, q44⟩ := p40
      have k43 : M37 a0 3 = x42 := k43
      refine lv_goto (tgt := 73) hx hb dX2_readClause_61 (by decide) ?_
      have k45 : M37 a0 2 = x10 := (Fr.kp (k := 2) f34 hk_a0 rfl).trans k33
      have q46 : x10.toInt ≤ ln.toInt := by
        have := (h32).1; have := (h32).2; have := (h_ln).1; have := (h_ln).2; have := (h_pa).1; have := (h_pa).2; have := (h_po).1; have := (h_po).2; have := (h13).1; have := (h13).2; have := (h27).1; have := (h27).2; omega
      exact tw_endv hx hb hr hlocks hK hT hS hQ (⟨x10, k45, h13, q46⟩) dX2_readClause_73
    · have q47 : a1.toInt < 16 := ti_nle c30
      have h48 : iv 0 15 a1 := iv_ltL (y := 16) h_a1 (iv_c (c := 16) (n := 16) (by decide)) q47 (by decide)
      refine lv_aload_n hx hb dX2_readClause_35 rfl (lv_at hl 1 rfl) ?_
      refine lv_iload_n hx hb dX2_readClause_36 rfl (lv_at hl 0 rfl) ?_
      refine lv_iload_n hx hb dX2_readClause_37 rfl (lv_at hl 2 rfl) ?_
      refine lv_if_ne (tgt := 45) hx hb dX2_readClause_38 (by decide) (fun c49 => ?_) (fun c49 => ?_)
      · have q50 : ¬ a1.toInt = 0 := ti_ne c49
        have h51 : iv 1 15 a1 := ⟨by have := (h48).1; have := ((iv_c (c := 0) (n := 0) (by decide))).1; have := ((iv_c (c := 0) (n := 0) (by decide))).2; omega, by have := (h48).2; have := ((iv_c (c := 0) (n := 0) (by decide))).1; have := ((iv_c (c := 0) (n := 0) (by decide))).2; omega⟩
        refine lv_iconst (v := 0) hx hb dX2_readClause_45 (by decide) ?_
        have k52 : M18 dr 1 = po := ((Fr.kp (k := 1) f15 hk_dr rfl).trans (Fr.kp (k := 1) f1 hk_dr rfl)).trans k_po
        refine tw_goi hS (md_runV (As := [.int x21, .int 0]) (rest := []) hx hb hml hown hW hK hT hS.1 (t_X2_mayStand l D cy tx base Z K N M18 Ra J17 hS.2.1 a0 hz_a0 hk_a0 x21 h_x21 0 (iv_mono (iv_c (c := 0) (n := 0) (by decide)) (by decide) (by decide)) dr k_dr po k52 (iv_mono h_po (by decide) (by decide))) s_X2_64 ⟨rfl, rfl, ⟨Nat.le_of_ble_eq_true rfl, Nat.le_of_ble_eq_true rfl⟩, ⟨Nat.le_of_ble_eq_true rfl, Nat.le_of_ble_eq_true rfl⟩⟩ hz_a0 hk_a0 (by decide) rfl rfl hl.1 rfl (Nat.le_of_ble_eq_true rfl) dX2_readClause_46) rfl rfl (fun x59 H locs M56 R57 J55 hS f53 g54 E58 => ?_)
        have eM56 := Fr.nil f53 rfl
        subst eM56
        have eR57 := Fr.nil g54 rfl
        subst eR57
        obtain ⟨h_x59, p60⟩ := E58
        refine lv_if_ne (tgt := 64) hx hb dX2_readClause_49 (by decide) (fun c61 => ?_) (fun c61 => ?_)
        · have q62 : ¬ x59.toInt = 0 := ti_ne c61
          have h63 : iv 1 1 x59 := ⟨by have := (h_x59).1; have := ((iv_c (c := 0) (n := 0) (by decide))).1; have := ((iv_c (c := 0) (n := 0) (by decide))).2; omega, by have := (h_x59).2; have := ((iv_c (c := 0) (n := 0) (by decide))).1; have := ((iv_c (c := 0) (n := 0) (by decide))).2; omega⟩
          have q64 := p60 c61
          refine lv_aload_n hx hb dX2_readClause_64 rfl (lv_at hl 1 rfl) ?_
          refine tw_gov hS (md_runU (As := []) (rest := []) hx hb hml hown hW hK hT hS.1 (t_X10_passWord_1 l D cy tx base Z K N M18 Ra J55 hS.2.1 a0 hz_a0 hk_a0 x24 k25 (iv_mono h27 (by decide) (by decide))) s_X2_68_X2 ⟨rfl, rfl, ⟨Nat.le_of_ble_eq_true rfl, Nat.le_of_ble_eq_true rfl⟩, ⟨Nat.le_of_ble_eq_true rfl, Nat.le_of_ble_eq_true rfl⟩⟩ hz_a0 hk_a0 (by decide) rfl rfl hl.1 rfl (Nat.le_of_ble_eq_true rfl) dX2_readClause_65) rfl rfl (fun H locs M68 R69 J67 hS f65 g66 E70 => ?_)
          have eR69 := Fr.nil g66 rfl
          subst eR69
          have p71 := E70
          clear E70
          have k72 : M68 a0 2 = x24 := p71
          refine lv_aload_n hx hb dX2_readClause_68 rfl (lv_at hl 1 rfl) ?_
          refine lv_iload_n hx hb dX2_readClause_69 rfl (lv_at hl 0 rfl) ?_
          have k73 : M68 a0 1 = ln := ((Fr.kp (k := 1) f65 hk_a0 rfl).trans ((Fr.kp (k := 1) f15 hk_a0 rfl).trans (Fr.kp (k := 1) f1 hk_a0 rfl))).trans k_ln
          have q74 : x24.toInt ≤ ln.toInt := by
            have := (h51).1; have := (h51).2; have := (h_ln).1; have := (h_ln).2; have := (h_pa).1; have := (h_pa).2; have := (h_po).1; have := (h_po).2; have := (h13).1; have := (h13).2; have := (h27).1; have := (h27).2; omega
          have k75 : M68 dr 1 = po := ((Fr.kp (k := 1) f65 hk_dr rfl).trans ((Fr.kp (k := 1) f15 hk_dr rfl).trans (Fr.kp (k := 1) f1 hk_dr rfl))).trans k_po
          have q76 : ¬ x21.toInt = 1 ∨ po.toInt ≤ 11 := by
            have := (h51).1; have := (h51).2; have := (h_ln).1; have := (h_ln).2; have := (h_pa).1; have := (h_pa).2; have := (h_po).1; have := (h_po).2; have := (h_x21).1; have := (h_x21).2; omega
          refine tw_gov hS (md_runV (As := [.int x21]) (rest := []) hx hb hml hown hW hK hT hS.1 (t_X2_readRest l D cy tx base Z K N M68 Ra J67 hS.2.1 a0 hz_a0 hk_a0 x21 h_x21 tb k_tb ln k73 (iv_mono h_ln (by decide) (by decide)) x24 k72 (iv_mono h27 (by decide) (by decide)) q74 dr k_dr po k75 (iv_mono h_po (by decide) (by decide)) q76) s_X2_71 ⟨rfl, rfl, ⟨Nat.le_of_ble_eq_true rfl, Nat.le_of_ble_eq_true rfl⟩, ⟨Nat.le_of_ble_eq_true rfl, Nat.le_of_ble_eq_true rfl⟩⟩ hz_a0 hk_a0 (by decide) rfl rfl hl.1 rfl (Nat.le_of_ble_eq_true rfl) dX2_readClause_70) rfl rfl (fun H locs M80 R81 J79 hS f77 g78 E82 => ?_)
          have eR81 := Fr.nil g78 rfl
          subst eR81
          have p83 := E82
          clear E82
          obtain ⟨x85, k86, h84, q87⟩ := p83
          have k86 : M80 a0 2 = x85 := k86
          have q88 : x85.toInt ≤ ln.toInt := by
            have := (h51).1; have := (h51).2; have := (h_ln).1; have := (h_ln).2; have := (h_pa).1; have := (h_pa).2; have := (h_po).1; have := (h_po).2; have := (h13).1; have := (h13).2; have := (h27).1; have := (h27).2; have := (h84).1; have := (h84).2; omega
          exact tw_endv hx hb hr hlocks hK hT hS hQ (⟨x85, k86, h84, q88⟩) dX2_readClause_73
        · have q89 : x59.toInt = 0 := ti_eq c61
          have h90 : iv 0 0 x59 := ⟨by have := (h_x59).1; have := ((iv_c (c := 0) (n := 0) (by decide))).1; omega, by have := (h_x59).2; have := ((iv_c (c := 0) (n := 0) (by decide))).2; omega⟩
          refine lv_aload_n hx hb dX2_readClause_52 rfl (lv_at hl 1 rfl) ?_
          refine lv_aload_n hx hb dX2_readClause_53 rfl (lv_at hl 1 rfl) ?_
          have k91 : M18 a0 2 = x10 := (Fr.kp (k := 2) f15 hk_a0 rfl).trans k11
          refine tw_getk hx hb hW hown hK hS f_X2_57_2 hz_a0 hk_a0 (v := x10) k91 dX2_readClause_54 ?_
          refine lv_iconst (v := 4) hx hb dX2_readClause_57 (by decide) ?_
          refine tw_gov hS (md_runU (As := [.int x10, .int 4]) (rest := []) hx hb hml hown hW hK hT hS.1 (t_X10_fail_1 l D cy tx base Z K N M18 Ra J55 hS.2.1 a0 hz_a0 hk_a0 x10 (iv_mono h13 (by decide) (by decide)) 4 (iv_mono (iv_c (c := 4) (n := 4) (by decide)) (by decide) (by decide))) s_X2_60_X2 ⟨rfl, rfl, ⟨Nat.le_of_ble_eq_true rfl, Nat.le_of_ble_eq_true rfl⟩, ⟨Nat.le_of_ble_eq_true rfl, Nat.le_of_ble_eq_true rfl⟩⟩ hz_a0 hk_a0 (by decide) rfl rfl hl.1 rfl (Nat.le_of_ble_eq_true rfl) dX2_readClause_58) rfl rfl (fun H locs M95 R96 J94 hS f92 g93 E97 => ?_)
          have eR96 := Fr.nil g93 rfl
          subst eR96
          have p98 := E97
          clear E97
          obtain ⟨x100, k101, h99, q102⟩ := p98
          have k101 : M95 a0 3 = x100 := k101
          refine lv_goto (tgt := 73) hx hb dX2_readClause_61 (by decide) ?_
          have k103 : M95 a0 2 = x10 := (Fr.kp (k := 2) f92 hk_a0 rfl).trans k91
          have q104 : x10.toInt ≤ ln.toInt := by
            have := (h51).1; have := (h51).2; have := (h_ln).1; have := (h_ln).2; have := (h_pa).1; have := (h_pa).2; have := (h_po).1; have := (h_po).2; have := (h13).1; have := (h13).2; have := (h27).1; have := (h27).2; omega
          exact tw_endv hx hb hr hlocks hK hT hS hQ (⟨x10, k103, h13, q104⟩) dX2_readClause_73
      · have q105 : a1.toInt = 0 := ti_eq c49
        have h106 : iv 0 0 a1 := ⟨by have := (h48).1; have := ((iv_c (c := 0) (n := 0) (by decide))).1; omega, by have := (h48).2; have := ((iv_c (c := 0) (n := 0) (by decide))).2; omega⟩
        refine lv_iconst (v := 1) hx hb dX2_readClause_41 (by decide) ?_
        refine lv_goto (tgt := 46) hx hb dX2_readClause_42 (by decide) ?_
        have k107 : M18 dr 1 = po := ((Fr.kp (k := 1) f15 hk_dr rfl).trans (Fr.kp (k := 1) f1 hk_dr rfl)).trans k_po
        refine tw_goi hS (md_runV (As := [.int x21, .int 1]) (rest := []) hx hb hml hown hW hK hT hS.1 (t_X2_mayStand l D cy tx base Z K N M18 Ra J17 hS.2.1 a0 hz_a0 hk_a0 x21 h_x21 1 (iv_mono (iv_c (c := 1) (n := 1) (by decide)) (by decide) (by decide)) dr k_dr po k107 (iv_mono h_po (by decide) (by decide))) s_X2_64 ⟨rfl, rfl, ⟨Nat.le_of_ble_eq_true rfl, Nat.le_of_ble_eq_true rfl⟩, ⟨Nat.le_of_ble_eq_true rfl, Nat.le_of_ble_eq_true rfl⟩⟩ hz_a0 hk_a0 (by decide) rfl rfl hl.1 rfl (Nat.le_of_ble_eq_true rfl) dX2_readClause_46) rfl rfl (fun x114 H locs M111 R112 J110 hS f108 g109 E113 => ?_)
        have eM111 := Fr.nil f108 rfl
        subst eM111
        have eR112 := Fr.nil g109 rfl
        subst eR112
        obtain ⟨h_x114, p115⟩ := E113
        refine lv_if_ne (tgt := 64) hx hb dX2_readClause_49 (by decide) (fun c116 => ?_) (fun c116 => ?_)
        · have q117 : ¬ x114.toInt = 0 := ti_ne c116
          have h118 : iv 1 1 x114 := ⟨by have := (h_x114).1; have := ((iv_c (c := 0) (n := 0) (by decide))).1; have := ((iv_c (c := 0) (n := 0) (by decide))).2; omega, by have := (h_x114).2; have := ((iv_c (c := 0) (n := 0) (by decide))).1; have := ((iv_c (c := 0) (n := 0) (by decide))).2; omega⟩
          have q119 := p115 c116
          refine lv_aload_n hx hb dX2_readClause_64 rfl (lv_at hl 1 rfl) ?_
          refine tw_gov hS (md_runU (As := []) (rest := []) hx hb hml hown hW hK hT hS.1 (t_X10_passWord_1 l D cy tx base Z K N M18 Ra J110 hS.2.1 a0 hz_a0 hk_a0 x24 k25 (iv_mono h27 (by decide) (by decide))) s_X2_68_X2 ⟨rfl, rfl, ⟨Nat.le_of_ble_eq_true rfl, Nat.le_of_ble_eq_true rfl⟩, ⟨Nat.le_of_ble_eq_true rfl, Nat.le_of_ble_eq_true rfl⟩⟩ hz_a0 hk_a0 (by decide) rfl rfl hl.1 rfl (Nat.le_of_ble_eq_true rfl) dX2_readClause_65) rfl rfl (fun H locs M123 R124 J122 hS f120 g121 E125 => ?_)
          have eR124 := Fr.nil g121 rfl
          subst eR124
          have p126 := E125
          clear E125
          have k127 : M123 a0 2 = x24 := p126
          refine lv_aload_n hx hb dX2_readClause_68 rfl (lv_at hl 1 rfl) ?_
          refine lv_iload_n hx hb dX2_readClause_69 rfl (lv_at hl 0 rfl) ?_
          have k128 : M123 a0 1 = ln := ((Fr.kp (k := 1) f120 hk_a0 rfl).trans ((Fr.kp (k := 1) f15 hk_a0 rfl).trans (Fr.kp (k := 1) f1 hk_a0 rfl))).trans k_ln
          have q129 : x24.toInt ≤ ln.toInt := by
            have := (h106).1; have := (h106).2; have := (h_ln).1; have := (h_ln).2; have := (h_pa).1; have := (h_pa).2; have := (h_po).1; have := (h_po).2; have := (h13).1; have := (h13).2; have := (h27).1; have := (h27).2; omega
          have k130 : M123 dr 1 = po := ((Fr.kp (k := 1) f120 hk_dr rfl).trans ((Fr.kp (k := 1) f15 hk_dr rfl).trans (Fr.kp (k := 1) f1 hk_dr rfl))).trans k_po
          have q131 : ¬ x21.toInt = 1 ∨ po.toInt ≤ 11 := by
            have := (h106).1; have := (h106).2; have := (h_ln).1; have := (h_ln).2; have := (h_pa).1; have := (h_pa).2; have := (h_po).1; have := (h_po).2; have := (h_x21).1; have := (h_x21).2; omega
          refine tw_gov hS (md_runV (As := [.int x21]) (rest := []) hx hb hml hown hW hK hT hS.1 (t_X2_readRest l D cy tx base Z K N M123 Ra J122 hS.2.1 a0 hz_a0 hk_a0 x21 h_x21 tb k_tb ln k128 (iv_mono h_ln (by decide) (by decide)) x24 k127 (iv_mono h27 (by decide) (by decide)) q129 dr k_dr po k130 (iv_mono h_po (by decide) (by decide)) q131) s_X2_71 ⟨rfl, rfl, ⟨Nat.le_of_ble_eq_true rfl, Nat.le_of_ble_eq_true rfl⟩, ⟨Nat.le_of_ble_eq_true rfl, Nat.le_of_ble_eq_true rfl⟩⟩ hz_a0 hk_a0 (by decide) rfl rfl hl.1 rfl (Nat.le_of_ble_eq_true rfl) dX2_readClause_70) rfl rfl (fun H locs M135 R136 J134 hS f132 g133 E137 => ?_)
          have eR136 := Fr.nil g133 rfl
          subst eR136
          have p138 := E137
          clear E137
          obtain ⟨x140, k141, h139, q142⟩ := p138
          have k141 : M135 a0 2 = x140 := k141
          have q143 : x140.toInt ≤ ln.toInt := by
            have := (h106).1; have := (h106).2; have := (h_ln).1; have := (h_ln).2; have := (h_pa).1; have := (h_pa).2; have := (h_po).1; have := (h_po).2; have := (h13).1; have := (h13).2; have := (h139).1; have := (h139).2; have := (h27).1; have := (h27).2; omega
          exact tw_endv hx hb hr hlocks hK hT hS hQ (⟨x140, k141, h139, q143⟩) dX2_readClause_73
        · have q144 : x114.toInt = 0 := ti_eq c116
          have h145 : iv 0 0 x114 := ⟨by have := (h_x114).1; have := ((iv_c (c := 0) (n := 0) (by decide))).1; omega, by have := (h_x114).2; have := ((iv_c (c := 0) (n := 0) (by decide))).2; omega⟩
          refine lv_aload_n hx hb dX2_readClause_52 rfl (lv_at hl 1 rfl) ?_
          refine lv_aload_n hx hb dX2_readClause_53 rfl (lv_at hl 1 rfl) ?_
          have k146 : M18 a0 2 = x10 := (Fr.kp (k := 2) f15 hk_a0 rfl).trans k11
          refine tw_getk hx hb hW hown hK hS f_X2_57_2 hz_a0 hk_a0 (v := x10) k146 dX2_readClause_54 ?_
          refine lv_iconst (v := 4) hx hb dX2_readClause_57 (by decide) ?_
          refine tw_gov hS (md_runU (As := [.int x10, .int 4]) (rest := []) hx hb hml hown hW hK hT hS.1 (t_X10_fail_1 l D cy tx base Z K N M18 Ra J110 hS.2.1 a0 hz_a0 hk_a0 x10 (iv_mono h13 (by decide) (by decide)) 4 (iv_mono (iv_c (c := 4) (n := 4) (by decide)) (by decide) (by decide))) s_X2_60_X2 ⟨rfl, rfl, ⟨Nat.le_of_ble_eq_true rfl, Nat.le_of_ble_eq_true rfl⟩, ⟨Nat.le_of_ble_eq_true rfl, Nat.le_of_ble_eq_true rfl⟩⟩ hz_a0 hk_a0 (by decide) rfl rfl hl.1 rfl (Nat.le_of_ble_eq_true rfl) dX2_readClause_58) rfl rfl (fun H locs M150 R151 J149 hS f147 g148 E152 => ?_)
          have eR151 := Fr.nil g148 rfl
          subst eR151
          have p153 := E152
          clear E152
          obtain ⟨x155, k156, h154, q157⟩ := p153
          have k156 : M150 a0 3 = x155 := k156
          refine lv_goto (tgt := 73) hx hb dX2_readClause_61 (by decide) ?_
          have k158 : M150 a0 2 = x10 := (Fr.kp (k := 2) f147 hk_a0 rfl).trans k146
          have q159 : x10.toInt ≤ ln.toInt := by
            have := (h106).1; have := (h106).2; have := (h_ln).1; have := (h_ln).2; have := (h_pa).1; have := (h_pa).2; have := (h_po).1; have := (h_po).2; have := (h13).1; have := (h13).2; have := (h27).1; have := (h27).2; omega
          exact tw_endv hx hb hr hlocks hK hT hS hQ (⟨x10, k158, h13, q159⟩) dX2_readClause_73
  · have q160 : x21.toInt = (-1) := ti_eq c28
    have h161 : iv (-1) (-1) x21 := ⟨by have := (h_x21).1; have := ((iv_c (c := (-1)) (n := (-1)) (by decide))).1; omega, by have := (h_x21).2; have := ((iv_c (c := (-1)) (n := (-1)) (by decide))).2; omega⟩
    refine lv_aload_n hx hb dX2_readClause_17 rfl (lv_at hl 1 rfl) ?_
    refine lv_aload_n hx hb dX2_readClause_18 rfl (lv_at hl 1 rfl) ?_
    have k162 : M18 a0 2 = x10 := (Fr.kp (k := 2) f15 hk_a0 rfl).trans k11
    refine tw_getk hx hb hW hown hK hS f_X2_57_2 hz_a0 hk_a0 (v := x10) k162 dX2_readClause_19 ?_
    refine lv_iconst (v := 0) hx hb dX2_readClause_22 (by decide) ?_
    refine tw_gov hS (md_runU (As := [.int x10, .int 0]) (rest := []) hx hb hml hown hW hK hT hS.1 (t_X10_fail_1 l D cy tx base Z K N M18 Ra J17 hS.2.1 a0 hz_a0 hk_a0 x10 (iv_mono h13 (by decide) (by decide)) 0 (iv_mono (iv_c (c := 0) (n := 0) (by decide)) (by decide) (by decide))) s_X2_60_X2 ⟨rfl, rfl, ⟨Nat.le_of_ble_eq_true rfl, Nat.le_of_ble_eq_true rfl⟩, ⟨Nat.le_of_ble_eq_true rfl, Nat.le_of_ble_eq_true rfl⟩⟩ hz_a0 hk_a0 (by decide) rfl rfl hl.1 rfl (Nat.le_of_ble_eq_true rfl) dX2_readClause_23) rfl rfl (fun H locs M166 R167 J165 hS f163 g164 E168 => ?_)
    have eR167 := Fr.nil g164 rfl
    subst eR167
    have p169 := E168
    clear E168
    obtain ⟨x171, k172, h170, q173⟩ := p169
    have k172 : M166 a0 3 = x171 := k172
    refine lv_goto (tgt := 73) hx hb dX2_readClause_26 (by decide) ?_
    have k174 : M166 a0 2 = x10 := (Fr.kp (k := 2) f163 hk_a0 rfl).trans k162
    have q175 : x10.toInt ≤ ln.toInt := by
      have := (h_a1).1; have := (h_a1).2; have := (h_ln).1; have := (h_ln).2; have := (h_pa).1; have := (h_pa).2; have := (h_po).1; have := (h_po).2; have := (h13).1; have := (h13).2; have := (h27).1; have := (h27).2; omega
    exact tw_endv hx hb hr hlocks hK hT hS hQ (⟨x10, k174, h13, q175⟩) dX2_readClause_73
def Lt_X9_makeFresh : WL := [(10, 0, 6), (10, 7, 9), (14, 0, 2000000), (20, 0, 2000000)]
def LRt_X9_makeFresh : WL := []
set_option maxRecDepth 100000 in
set_option maxHeartbeats 4000000 in
theorem t_X9_makeFresh (l : Launch) (D : va_G) (cy : Nat → ClassId) (tx : (Nat → Nat) × (Nat → Nat)) (base Z : Nat) (K N : Nat → Nat) (Ma : MT) (Ra : RT) (Ja : JT) (hTy : Ty Z K N Ma Ra) (a0 : Nat) (hz_a0 : a0 < Z) (hk_a0 : K a0 = 10) : Met l yX9_makeFresh [Cond.code yX9_makeFresh cX9_makeFresh 2 none] (md_rm 1 0 0) (va_Pc [.ref (base + a0)] (md_U D cy tx base Z K N Ma Ra Ja)) (mQv D cy tx base (fun u => TP Z K N Lt_X9_makeFresh LRt_X9_makeFresh Ma Ra u ∧ (True))) 0 0 (fun q => base ≤ q) := by
  refine tw_ofW (L := Lt_X9_makeFresh) (LR := LRt_X9_makeFresh) (by decide) (Nat.le_of_ble_eq_true rfl) hTy ?_
  intro p e s m args below meth c Q ls hx hb hr hlocks hown hml hW hK hT hS hQ hl
  have hl : lv_has ls 2 [(0, .ref (base + a0))] := hl
  refine lv_aload_n hx hb dX9_makeFresh_0 rfl (lv_at hl 0 rfl) ?_
  refine lv_iconst (v := 0) hx hb dX9_makeFresh_1 (by decide) ?_
  refine tw_puti hx hb hW hown hK hS f_X9_33_9 hz_a0 hk_a0 rfl rfl (lo := (-2147483648)) (hi := 10) rfl (iv_mono (iv_c (c := 0) (n := 0) (by decide)) (by decide) (by decide)) rfl dX9_makeFresh_2 (fun H locs M3 hS k1 f2 => ?_)
  refine lv_aload_n hx hb dX9_makeFresh_5 rfl (lv_at hl 0 rfl) ?_
  refine lv_iconst (v := 0) hx hb dX9_makeFresh_6 (by decide) ?_
  refine tw_puti hx hb hW hown hK hS f_X9_37_9 hz_a0 hk_a0 rfl rfl (lo := 0) (hi := 12) rfl (iv_mono (iv_c (c := 0) (n := 0) (by decide)) (by decide) (by decide)) rfl dX9_makeFresh_7 (fun H locs M6 hS k4 f5 => ?_)
  refine lv_aload_n hx hb dX9_makeFresh_10 rfl (lv_at hl 0 rfl) ?_
  refine lv_iconst (v := 0) hx hb dX9_makeFresh_11 (by decide) ?_
  refine tw_puti hx hb hW hown hK hS f_X9_40_9 hz_a0 hk_a0 rfl rfl (lo := (-2147483648)) (hi := 2147483647) rfl (iv_mono (iv_c (c := 0) (n := 0) (by decide)) (by decide) (by decide)) rfl dX9_makeFresh_12 (fun H locs M9 hS k7 f8 => ?_)
  refine lv_aload_n hx hb dX9_makeFresh_15 rfl (lv_at hl 0 rfl) ?_
  refine lv_iconst (v := 0) hx hb dX9_makeFresh_16 (by decide) ?_
  refine tw_puti hx hb hW hown hK hS f_X9_43_9 hz_a0 hk_a0 rfl rfl (lo := (-2147483648)) (hi := 2147483647) rfl (iv_mono (iv_c (c := 0) (n := 0) (by decide)) (by decide) (by decide)) rfl dX9_makeFresh_17 (fun H locs M12 hS k10 f11 => ?_)
  refine lv_aload_n hx hb dX9_makeFresh_20 rfl (lv_at hl 0 rfl) ?_
  refine lv_iconst (v := 0) hx hb dX9_makeFresh_21 (by decide) ?_
  refine tw_puti hx hb hW hown hK hS f_X9_46_9 hz_a0 hk_a0 rfl rfl (lo := (-2147483648)) (hi := 2147483647) rfl (iv_mono (iv_c (c := 0) (n := 0) (by decide)) (by decide) (by decide)) rfl dX9_makeFresh_22 (fun H locs M15 hS k13 f14 => ?_)
  refine lv_aload_n hx hb dX9_makeFresh_25 rfl (lv_at hl 0 rfl) ?_
  refine lv_sipush (v := 9999) hx hb dX9_makeFresh_26 (by decide) ?_
  refine tw_puti hx hb hW hown hK hS f_X9_49_9 hz_a0 hk_a0 rfl rfl (lo := 0) (hi := 9999) rfl (iv_mono (iv_c (c := 9999) (n := 9999) (by decide)) (by decide) (by decide)) rfl dX9_makeFresh_29 (fun H locs M18 hS k16 f17 => ?_)
  refine lv_aload_n hx hb dX9_makeFresh_32 rfl (lv_at hl 0 rfl) ?_
  refine lv_iconst (v := 0) hx hb dX9_makeFresh_33 (by decide) ?_
  refine tw_puti hx hb hW hown hK hS f_X9_52_9 hz_a0 hk_a0 rfl rfl (lo := 0) (hi := 8) rfl (iv_mono (iv_c (c := 0) (n := 0) (by decide)) (by decide) (by decide)) rfl dX9_makeFresh_34 (fun H locs M21 hS k19 f20 => ?_)
  refine lv_aload_n hx hb dX9_makeFresh_37 rfl (lv_at hl 0 rfl) ?_
  refine lv_iconst (v := 0) hx hb dX9_makeFresh_38 (by decide) ?_
  refine tw_puti hx hb hW hown hK hS f_X9_55_9 hz_a0 hk_a0 rfl rfl (lo := 0) (hi := 12) rfl (iv_mono (iv_c (c := 0) (n := 0) (by decide)) (by decide) (by decide)) rfl dX9_makeFresh_39 (fun H locs M24 hS k22 f23 => ?_)
  refine lv_iconst (v := 0) hx hb dX9_makeFresh_42 (by decide) ?_
  refine lv_istore_n (lv' := [(1, .int 0), (0, .ref (base + a0))]) hx hb dX9_makeFresh_43 rfl hl (by decide) rfl (fun ls hl => ?_)
  have W44_26 : ∀ (n_26 : Nat) (x25 : Int32) (M26 : MT) (R27 : RT) (J28 : JT) (H : Heap) (locs : List Loc) (ls : Array Slot) (h_x25 : iv 0 10 x25) (hm_26 : 10 - x25.toInt < (n_26 : Int)) (hS : SB D cy base Z K N Lt_X9_makeFresh LRt_X9_makeFresh Ma Ra M26 R27 J28 s H locs) (hl : lv_has ls 2 [(1, .int x25), (0, .ref (base + a0))]), W p l e (md_rm 1 0 0) s m args below meth c H locs 0 0 Q (F0 m 44 ls []) := by
    intro n_26
    induction n_26 with
    | zero =>
      intro x25 M26 R27 J28 H locs ls h_x25 hm_26 hS hl
      exfalso
      have := (h_x25).1; have := (h_x25).2; omega
    | succ n_26 ih_26 =>
      intro x25 M26 R27 J28 H locs ls h_x25 hm_26 hS hl
      have f29 := hS.2.2.1
      have g30 := hS.2.2.2
      refine lv_iload_n hx hb dX9_makeFresh_44 rfl (lv_at hl 0 rfl) ?_
      refine lv_bipush (v := 10) hx hb dX9_makeFresh_45 (by decide) ?_
      refine lv_icmp_ge (tgt := 84) hx hb dX9_makeFresh_47 (by decide) (fun c31 => ?_) (fun c31 => ?_)
      · have q32 : 10 ≤ x25.toInt := ti_le c31
        have h33 : iv 10 10 x25 := iv_geL (y := 10) h_x25 (iv_c (c := 10) (n := 10) (by decide)) q32 (by decide)
        exact tw_endv hx hb hr hlocks hK hT hS hQ (trivial) dX9_makeFresh_84
      · have q34 : x25.toInt < 10 := ti_nle c31
        have h35 : iv 0 9 x25 := iv_ltL (y := 10) h_x25 (iv_c (c := 10) (n := 10) (by decide)) q34 (by decide)
        refine lv_aload_n hx hb dX9_makeFresh_50 rfl (lv_at hl 1 rfl) ?_
        refine tw_getr hx hb hW hown hK hS f_X9_15_9 hz_a0 hk_a0 (t := 20) (n := 10) rfl dX9_makeFresh_51 (fun b36 k37 hz_b36 hk_b36 hn_b36 => ?_)
        have hn_b36 := hn_b36 (by decide)
        refine lv_iload_n hx hb dX9_makeFresh_54 rfl (lv_at hl 0 rfl) ?_
        refine lv_iconst (v := 1) hx hb dX9_makeFresh_55 (by decide) ?_
        refine tw_iast hx hb hK hS hz_b36 hk_b36 (Or.inr (by decide)) hn_b36 h35 ⟨by decide, by decide⟩ (iv_c (c := 1) (n := 1) (by decide)) (rg_s20 ⟨by decide, by decide⟩) (jl := 0) (jh := 1999999) ⟨by decide, by decide⟩ rfl dX9_makeFresh_56 (fun H locs M40 hS k38 f39 => ?_)
        refine lv_aload_n hx hb dX9_makeFresh_57 rfl (lv_at hl 1 rfl) ?_
        refine tw_getr hx hb hW hown hK hS f_X9_18_9 hz_a0 hk_a0 (t := 14) (n := 10) rfl dX9_makeFresh_58 (fun b41 k42 hz_b41 hk_b41 hn_b41 => ?_)
        have hn_b41 := hn_b41 (by decide)
        refine lv_iload_n hx hb dX9_makeFresh_61 rfl (lv_at hl 0 rfl) ?_
        refine lv_iconst (v := (-1)) hx hb dX9_makeFresh_62 (by decide) ?_
        refine tw_iast hx hb hK hS hz_b41 hk_b41 (Or.inl rfl) hn_b41 h35 ⟨by decide, by decide⟩ (iv_c (c := (-1)) (n := (-1)) (by decide)) (rg_s14 ⟨by decide, by decide⟩) (jl := 0) (jh := 1999999) ⟨by decide, by decide⟩ rfl dX9_makeFresh_63 (fun H locs M45 hS k43 f44 => ?_)
        refine lv_aload_n hx hb dX9_makeFresh_64 rfl (lv_at hl 1 rfl) ?_
        refine tw_getr hx hb hW hown hK hS f_X9_21_9 hz_a0 hk_a0 (t := 14) (n := 10) rfl dX9_makeFresh_65 (fun b46 k47 hz_b46 hk_b46 hn_b46 => ?_)
        have hn_b46 := hn_b46 (by decide)
        refine lv_iload_n hx hb dX9_makeFresh_68 rfl (lv_at hl 0 rfl) ?_
        refine lv_iconst (v := 0) hx hb dX9_makeFresh_69 (by decide) ?_
        refine tw_iast hx hb hK hS hz_b46 hk_b46 (Or.inl rfl) hn_b46 h35 ⟨by decide, by decide⟩ (iv_c (c := 0) (n := 0) (by decide)) (rg_s14 ⟨by decide, by decide⟩) (jl := 0) (jh := 1999999) ⟨by decide, by decide⟩ rfl dX9_makeFresh_70 (fun H locs M50 hS k48 f49 => ?_)
        refine lv_aload_n hx hb dX9_makeFresh_71 rfl (lv_at hl 1 rfl) ?_
        refine tw_getr hx hb hW hown hK hS f_X9_24_9 hz_a0 hk_a0 (t := 14) (n := 10) rfl dX9_makeFresh_72 (fun b51 k52 hz_b51 hk_b51 hn_b51 => ?_)
        have hn_b51 := hn_b51 (by decide)
        refine lv_iload_n hx hb dX9_makeFresh_75 rfl (lv_at hl 0 rfl) ?_
        refine lv_iconst (v := 0) hx hb dX9_makeFresh_76 (by decide) ?_
        refine tw_iast hx hb hK hS hz_b51 hk_b51 (Or.inl rfl) hn_b51 h35 ⟨by decide, by decide⟩ (iv_c (c := 0) (n := 0) (by decide)) (rg_s14 ⟨by decide, by decide⟩) (jl := 0) (jh := 1999999) ⟨by decide, by decide⟩ rfl dX9_makeFresh_77 (fun H locs M55 hS k53 f54 => ?_)
        refine tw_iinc (lv' := fun x58 => [(1, .int x58), (0, .ref (base + a0))]) (lo := 1) (hi := 10) hx hb dX9_makeFresh_78 hl (k := 0) rfl h35 (by decide) ⟨by decide, by decide⟩ ⟨by decide, by decide⟩ (by decide) (fun _ => rfl) (fun x58 ls e57 h56 hl => ?_)
        refine lv_goto (tgt := 44) hx hb dX9_makeFresh_81 (by decide) ?_
        have hm59 : 10 - x58.toInt < (n_26 : Int) := by
          have := (h35).1; have := (h35).2; have := (h56).1; have := (h56).2; omega
        exact ih_26 x58 M55 R27 J28 H locs _ (iv_mono h56 (by decide) (by decide)) hm59 hS hl
  have hm60 : 10 - (0 : Int32).toInt < (((11 : Nat) : Int) : Int) := by
    have : (0 : Int32).toInt = 0 := (by decide); omega
  exact W44_26 11 0 M24 Ra Ja H locs _ (iv_mono (iv_c (c := 0) (n := 0) (by decide)) (by decide) (by decide)) hm60 hS hl
def Lt_X2_read : WL := [(3, 1, 5), (3, 6, 7), (10, 0, 6), (10, 7, 9), (14, 0, 2000000), (20, 0, 2000000)]
def LRt_X2_read : WL := [(3, 0, 1)]
set_option maxRecDepth 100000 in
set_option maxHeartbeats 4000000 in
theorem t_X2_read (l : Launch) (D : va_G) (cy : Nat → ClassId) (tx : (Nat → Nat) × (Nat → Nat)) (base Z : Nat) (K N : Nat → Nat) (Ma : MT) (Ra : RT) (Ja : JT) (hTy : Ty Z K N Ma Ra) (a0 : Nat) (hz_a0 : a0 < Z) (hk_a0 : K a0 = 3) (a1 : Nat) (hz_a1 : a1 < Z) (hk_a1 : K a1 = 13) (hn_a1 : N a1 = 400) (a2 : Int32) (h_a2 : iv 0 400 a2) : Met l yX2_read [Cond.code yX2_read cX2_read 5 (some .int)] (md_rm 8 0 0) (va_Pc [.ref (base + a0), .ref (base + a1), .int a2] (md_U D cy tx base Z K N Ma Ra Ja)) (mQi D cy tx base (fun r u => TP Z K N Lt_X2_read LRt_X2_read Ma Ra u ∧ (iv (-2147483648) 2147483647 r))) 0 0 (fun q => base ≤ q) := by
  refine tw_ofW (L := Lt_X2_read) (LR := LRt_X2_read) (by decide) (Nat.le_of_ble_eq_true rfl) hTy ?_
  intro p e s m args below meth c Q ls hx hb hr hlocks hown hml hW hK hT hS hQ hl
  have hl : lv_has ls 5 [(0, .ref (base + a0)), (1, .ref (base + a1)), (2, .int a2)] := hl
  refine lv_aload_n hx hb dX2_read_0 rfl (lv_at hl 0 rfl) ?_
  refine lv_aload_n hx hb dX2_read_1 rfl (lv_at hl 1 rfl) ?_
  refine lv_iload_n hx hb dX2_read_2 rfl (lv_at hl 2 rfl) ?_
  refine tw_gov hS (md_runU (As := [.ref (base + a1), .int a2]) (rest := []) hx hb hml hown hW hK hT hS.1 (t_X10_begin l D cy tx base Z K N Ma Ra Ja hS.2.1 a0 hz_a0 hk_a0 a1 hz_a1 hk_a1 hn_a1 a2 h_a2) s_X2_18_X2 ⟨rfl, rfl, ⟨Nat.le_of_ble_eq_true rfl, Nat.le_of_ble_eq_true rfl⟩, ⟨Nat.le_of_ble_eq_true rfl, Nat.le_of_ble_eq_true rfl⟩⟩ hz_a0 hk_a0 (by decide) rfl rfl hl.1 rfl (Nat.le_of_ble_eq_true rfl) dX2_read_3) rfl rfl (fun H locs M4 R5 J3 hS f1 g2 E6 => ?_)
  obtain ⟨p7, p8⟩ := E6
  have k9 : R5 a0 0 = some a1 := p7
  obtain ⟨x11, x13, x15, k16, k17, k18, h10, h12, h14, q19⟩ := p8
  have k16 : M4 a0 1 = x11 := k16
  have k17 : M4 a0 2 = x13 := k17
  have k18 : M4 a0 3 = x15 := k18
  refine lv_aload_n hx hb dX2_read_6 rfl (lv_at hl 0 rfl) ?_
  refine tw_getr hx hb hW hown hK hS f_X2_12_2 hz_a0 hk_a0 (t := 10) (n := 0) rfl dX2_read_7 (fun b20 k21 hz_b20 hk_b20 hn_b20 => ?_)
  refine tw_gov hS (md_runV (As := []) (rest := []) hx hb hml hown hW hK hT hS.1 (t_X9_makeFresh l D cy tx base Z K N M4 R5 J3 hS.2.1 b20 hz_b20 hk_b20) s_X2_22 ⟨rfl, rfl, ⟨Nat.le_of_ble_eq_true rfl, Nat.le_of_ble_eq_true rfl⟩, ⟨Nat.le_of_ble_eq_true rfl, Nat.le_of_ble_eq_true rfl⟩⟩ hz_b20 hk_b20 (by decide) rfl rfl hl.1 rfl (Nat.le_of_ble_eq_true rfl) dX2_read_10) rfl rfl (fun H locs M25 R26 J24 hS f22 g23 E27 => ?_)
  have eR26 := Fr.nil g23 rfl
  subst eR26
  refine lv_aload_n hx hb dX2_read_13 rfl (lv_at hl 0 rfl) ?_
  refine lv_iconst (v := 0) hx hb dX2_read_14 (by decide) ?_
  refine tw_puti hx hb hW hown hK hS f_X2_25_2 hz_a0 hk_a0 rfl rfl (lo := (-2147483648)) (hi := 2147483647) rfl (iv_mono (iv_c (c := 0) (n := 0) (by decide)) (by decide) (by decide)) rfl dX2_read_15 (fun H locs M30 hS k28 f29 => ?_)
  refine lv_iconst (v := 1) hx hb dX2_read_18 (by decide) ?_
  refine lv_istore_n (lv' := [(3, .int 1), (0, .ref (base + a0)), (1, .ref (base + a1)), (2, .int a2)]) hx hb dX2_read_19 rfl hl (by decide) rfl (fun ls hl => ?_)
  refine lv_iconst (v := 0) hx hb dX2_read_20 (by decide) ?_
  refine lv_istore (lv' := [(4, .int 0), (3, .int 1), (0, .ref (base + a0)), (1, .ref (base + a1)), (2, .int a2)]) hx hb dX2_read_21 hl (by decide) rfl (fun ls hl => ?_)
  have W23_33 : ∀ (n_33 : Nat) (x31 : Int32) (x32 : Int32) (x38 : Int32) (x40 : Int32) (M33 : MT) (R34 : RT) (J35 : JT) (H : Heap) (locs : List Loc) (ls : Array Slot) (h_x31 : iv 0 1 x31) (h_x32 : iv 0 17 x32) (h_x38 : iv 0 400 x38) (k39 : M33 a0 1 = x38) (h_x40 : iv 0 400 x40) (k41 : M33 a0 2 = x40) (k42 : R34 a0 0 = some a1) (w0_33 : x40.toInt ≤ x38.toInt) (hm_33 : 17 - x32.toInt < (n_33 : Int)) (hS : SB D cy base Z K N Lt_X2_read LRt_X2_read Ma Ra M33 R34 J35 s H locs) (hl : lv_has ls 5 [(3, .int x31), (4, .int x32), (0, .ref (base + a0)), (1, .ref (base + a1)), (2, .int a2)]), W p l e (md_rm 8 0 0) s m args below meth c H locs 0 0 Q (F0 m 23 ls []) := by
    intro n_33
    induction n_33 with
    | zero =>
      intro x31 x32 x38 x40 M33 R34 J35 H locs ls h_x31 h_x32 h_x38 k39 h_x40 k41 k42 w0_33 hm_33 hS hl
      exfalso
      have := (h_a2).1; have := (h_a2).2; have := (h_x32).1; have := (h_x32).2; omega
    | succ n_33 ih_33 =>
      intro x31 x32 x38 x40 M33 R34 J35 H locs ls h_x31 h_x32 h_x38 k39 h_x40 k41 k42 w0_33 hm_33 hS hl
      have f36 := hS.2.2.1
      have g37 := hS.2.2.2
      refine lv_iload_n hx hb dX2_read_23 rfl (lv_at hl 0 rfl) ?_
      refine lv_if_eq (tgt := 51) hx hb dX2_read_24 (by decide) (fun c43 => ?_) (fun c43 => ?_)
      · have q44 : x31.toInt = 0 := ti_eq c43
        have h45 : iv 0 0 x31 := ⟨by have := (h_x31).1; have := ((iv_c (c := 0) (n := 0) (by decide))).1; omega, by have := (h_x31).2; have := ((iv_c (c := 0) (n := 0) (by decide))).2; omega⟩
        refine lv_aload_n hx hb dX2_read_51 rfl (lv_at hl 2 rfl) ?_
        refine tw_getr hx hb hW hown hK hS f_X2_12_2 hz_a0 hk_a0 (t := 10) (n := 0) rfl dX2_read_52 (fun b46 k47 hz_b46 hk_b46 hn_b46 => ?_)
        refine lv_iconst (v := 1) hx hb dX2_read_55 (by decide) ?_
        refine lv_aload_n hx hb dX2_read_56 rfl (lv_at hl 2 rfl) ?_
        refine tw_getrk hx hb hW hown hK hS f_X2_12_2 hz_a0 hk_a0 (b := b46) k47 dX2_read_57 ?_
        refine tw_geti hx hb hW hown hK hS f_X2_37_9 hz_b46 hk_b46 (lo := (-2147483648)) (hi := 10) rfl dX2_read_60 (fun x50 k49 h48 => ?_)
        refine lv_ishl hx hb dX2_read_63 ?_
        refine tw_top (fun x52 => ?_)
        have h51 := iv_any x52
        refine lv_iconst (v := 1) hx hb dX2_read_64 (by decide) ?_
        refine lv_isub hx hb dX2_read_65 ?_
        refine tw_top (fun x54 => ?_)
        have h53 := iv_any x54
        refine tw_puti hx hb hW hown hK hS f_X2_41_9 hz_b46 hk_b46 rfl rfl (lo := (-2147483648)) (hi := 2147483647) rfl h53 rfl dX2_read_66 (fun H locs M57 hS k55 f56 => ?_)
        refine lv_aload_n hx hb dX2_read_69 rfl (lv_at hl 2 rfl) ?_
        refine tw_geti hx hb hW hown hK hS f_X2_44_2 hz_a0 hk_a0 (lo := (-2147483648)) (hi := 2147483647) rfl dX2_read_70 (fun x60 k59 h58 => ?_)
        exact tw_endi hx hb hr hlocks hK hT hS hQ (h58) dX2_read_73
      · have q61 : ¬ x31.toInt = 0 := ti_ne c43
        have h62 : iv 1 1 x31 := ⟨by have := (h_x31).1; have := ((iv_c (c := 0) (n := 0) (by decide))).1; have := ((iv_c (c := 0) (n := 0) (by decide))).2; omega, by have := (h_x31).2; have := ((iv_c (c := 0) (n := 0) (by decide))).1; have := ((iv_c (c := 0) (n := 0) (by decide))).2; omega⟩
        refine lv_iload hx hb dX2_read_27 (lv_at hl 1 rfl) ?_
        refine lv_bipush (v := 16) hx hb dX2_read_29 (by decide) ?_
        refine lv_icmp_gt (tgt := 51) hx hb dX2_read_31 (by decide) (fun c63 => ?_) (fun c63 => ?_)
        · have q64 : 16 < x32.toInt := ti_lt c63
          have h65 : iv 17 17 x32 := iv_gtL (y := 16) h_x32 (iv_c (c := 16) (n := 16) (by decide)) q64 (by decide)
          refine lv_aload_n hx hb dX2_read_51 rfl (lv_at hl 2 rfl) ?_
          refine tw_getr hx hb hW hown hK hS f_X2_12_2 hz_a0 hk_a0 (t := 10) (n := 0) rfl dX2_read_52 (fun b66 k67 hz_b66 hk_b66 hn_b66 => ?_)
          refine lv_iconst (v := 1) hx hb dX2_read_55 (by decide) ?_
          refine lv_aload_n hx hb dX2_read_56 rfl (lv_at hl 2 rfl) ?_
          refine tw_getrk hx hb hW hown hK hS f_X2_12_2 hz_a0 hk_a0 (b := b66) k67 dX2_read_57 ?_
          refine tw_geti hx hb hW hown hK hS f_X2_37_9 hz_b66 hk_b66 (lo := (-2147483648)) (hi := 10) rfl dX2_read_60 (fun x70 k69 h68 => ?_)
          refine lv_ishl hx hb dX2_read_63 ?_
          refine tw_top (fun x72 => ?_)
          have h71 := iv_any x72
          refine lv_iconst (v := 1) hx hb dX2_read_64 (by decide) ?_
          refine lv_isub hx hb dX2_read_65 ?_
          refine tw_top (fun x74 => ?_)
          have h73 := iv_any x74
          refine tw_puti hx hb hW hown hK hS f_X2_41_9 hz_b66 hk_b66 rfl rfl (lo := (-2147483648)) (hi := 2147483647) rfl h73 rfl dX2_read_66 (fun H locs M77 hS k75 f76 => ?_)
          refine lv_aload_n hx hb dX2_read_69 rfl (lv_at hl 2 rfl) ?_
          refine tw_geti hx hb hW hown hK hS f_X2_44_2 hz_a0 hk_a0 (lo := (-2147483648)) (hi := 2147483647) rfl dX2_read_70 (fun x80 k79 h78 => ?_)
          exact tw_endi hx hb hr hlocks hK hT hS hQ (h78) dX2_read_73
        · have q81 : x32.toInt ≤ 16 := ti_nlt c63
          have h82 : iv 0 16 x32 := iv_leL (y := 16) h_x32 (iv_c (c := 16) (n := 16) (by decide)) q81 (by decide)
          refine lv_aload_n hx hb dX2_read_34 rfl (lv_at hl 2 rfl) ?_
          refine lv_iload hx hb dX2_read_35 (lv_at hl 1 rfl) ?_
          have q83 : x40.toInt ≤ x38.toInt := by
            have := (h_a2).1; have := (h_a2).2; have := (h_x38).1; have := (h_x38).2; have := (h_x40).1; have := (h_x40).2; omega
          obtain ⟨b84, k85, hz_b84, hk_b84, hn_b84⟩ := hS.2.1.ref hz_a0 hk_a0 (show rtR 3 5 = (10, 0, 0) from rfl)
          obtain ⟨x88, k86⟩ : ∃ x, M33 b84 1 = x := ⟨_, rfl⟩
          have h87 : iv 0 12 x88 := by rw [← k86]; exact hS.2.1.int hz_b84 hk_b84 (show rgI 10 1 = (0, 12) from rfl)
          refine tw_gov hS (md_runV (As := [.int x32]) (rest := []) hx hb hml hown hW hK hT hS.1 (t_X2_readClause l D cy tx base Z K N M33 R34 J35 hS.2.1 a0 hz_a0 hk_a0 x32 (iv_mono h82 (by decide) (by decide)) a1 k42 x38 k39 (iv_mono h_x38 (by decide) (by decide)) x40 k41 (iv_mono h_x40 (by decide) (by decide)) q83 b84 k85 x88 k86 (iv_mono h87 (by decide) (by decide))) s_X2_29 ⟨rfl, rfl, ⟨Nat.le_of_ble_eq_true rfl, Nat.le_of_ble_eq_true rfl⟩, ⟨Nat.le_of_ble_eq_true rfl, Nat.le_of_ble_eq_true rfl⟩⟩ hz_a0 hk_a0 (by decide) rfl rfl hl.1 rfl (Nat.le_of_ble_eq_true rfl) dX2_read_37) rfl rfl (fun H locs M92 R93 J91 hS f89 g90 E94 => ?_)
          have eR93 := Fr.nil g90 rfl
          subst eR93
          have p95 := E94
          clear E94
          obtain ⟨x97, k98, h96, q99⟩ := p95
          have k98 : M92 a0 2 = x97 := k98
          refine lv_aload_n hx hb dX2_read_40 rfl (lv_at hl 2 rfl) ?_
          have k100 : M92 a0 1 = x38 := (Fr.kp (k := 1) f89 hk_a0 rfl).trans k39
          obtain ⟨x103, k101⟩ : ∃ x, M92 a0 3 = x := ⟨_, rfl⟩
          have h102 : iv (-2147483648) 2147483647 x103 := by rw [← k101]; exact hS.2.1.int hz_a0 hk_a0 (show rgI 3 3 = ((-2147483648), 2147483647) from rfl)
          refine tw_goi hS (md_runU (As := []) (rest := []) hx hb hml hown hW hK hT hS.1 (t_X10_goesOn_1 l D cy tx base Z K N M92 R34 J91 hS.2.1 a0 hz_a0 hk_a0 a1 k42 x38 k100 (iv_mono h_x38 (by decide) (by decide)) x97 k98 (iv_mono h96 (by decide) (by decide)) x103 k101 (iv_mono h102 (by decide) (by decide))) s_X2_33_X2 ⟨rfl, rfl, ⟨Nat.le_of_ble_eq_true rfl, Nat.le_of_ble_eq_true rfl⟩, ⟨Nat.le_of_ble_eq_true rfl, Nat.le_of_ble_eq_true rfl⟩⟩ hz_a0 hk_a0 (by decide) rfl rfl hl.1 rfl (Nat.le_of_ble_eq_true rfl) dX2_read_41) rfl rfl (fun x110 H locs M107 R108 J106 hS f104 g105 E109 => ?_)
          have eR108 := Fr.nil g105 rfl
          subst eR108
          obtain ⟨h_x110, p111⟩ := E109
          obtain ⟨x113, x115, k116, k117, h112, h114, q118⟩ := p111
          have k116 : M107 a0 2 = x113 := k116
          have k117 : M107 a0 3 = x115 := k117
          have h119 : iv 0 400 x113 := by
            have := (h_a2).1; have := (h_a2).2; have := (h112).1; have := (h112).2; have := (h114).1; have := (h114).2; have := (h_x38).1; have := (h_x38).2; have := (h_x40).1; have := (h_x40).2; have := (h96).1; have := (h96).2; exact ⟨by omega, by omega⟩
          refine lv_istore_n (lv' := [(3, .int x110), (4, .int x32), (0, .ref (base + a0)), (1, .ref (base + a1)), (2, .int a2)]) hx hb dX2_read_44 rfl hl (by decide) rfl (fun ls hl => ?_)
          refine tw_iinc (lv' := fun x122 => [(4, .int x122), (3, .int x110), (0, .ref (base + a0)), (1, .ref (base + a1)), (2, .int a2)]) (lo := 1) (hi := 17) hx hb dX2_read_45 hl (k := 1) rfl h82 (by decide) ⟨by decide, by decide⟩ ⟨by decide, by decide⟩ (by decide) (fun _ => rfl) (fun x122 ls e121 h120 hl => ?_)
          refine lv_goto (tgt := 23) hx hb dX2_read_48 (by decide) ?_
          have k123 : M107 a0 1 = x38 := (Fr.kp (k := 1) f104 hk_a0 rfl).trans k100
          have w124 : x113.toInt ≤ x38.toInt := by
            have := (h_a2).1; have := (h_a2).2; have := (h119).1; have := (h119).2; have := (h114).1; have := (h114).2; have := (h_x38).1; have := (h_x38).2; have := (h_x40).1; have := (h_x40).2; have := (h96).1; have := (h96).2; omega
          have hm125 : 17 - x122.toInt < (n_33 : Int) := by
            have := (h_a2).1; have := (h_a2).2; have := (h120).1; have := (h120).2; have := (h82).1; have := (h82).2; omega
          exact ih_33 x110 x122 x38 x113 M107 R34 J106 H locs _ h_x110 (iv_mono h120 (by decide) (by decide)) h_x38 k123 h119 k116 k42 w124 hm125 hS (lv_sub hl [1, 0, 2, 3, 4] rfl)
  have k126 : M30 a0 1 = x11 := ((Fr.kp (k := 1) f29 hk_a0 rfl).trans (Fr.kp (k := 1) f22 hk_a0 rfl)).trans k16
  have k127 : M30 a0 2 = x13 := ((Fr.kp (k := 2) f29 hk_a0 rfl).trans (Fr.kp (k := 2) f22 hk_a0 rfl)).trans k17
  have w128 : x13.toInt ≤ x11.toInt := by
    have := (h_a2).1; have := (h_a2).2; have := (h10).1; have := (h10).2; have := (h12).1; have := (h12).2; have := (h14).1; have := (h14).2; omega
  have hm129 : 17 - (0 : Int32).toInt < (((18 : Nat) : Int) : Int) := by
    have := (h_a2).1; have := (h_a2).2; have : (0 : Int32).toInt = 0 := (by decide); omega
  exact W23_33 18 1 0 x11 x13 M30 R5 J24 H locs _ (iv_mono (iv_c (c := 1) (n := 1) (by decide)) (by decide) (by decide)) (iv_mono (iv_c (c := 0) (n := 0) (by decide)) (by decide) (by decide)) h10 k126 (iv_mono h12 (by decide) (by decide)) k127 k9 w128 hm129 hS (lv_sub hl [1, 0, 2, 3, 4] rfl)
def Lt_X11_council : WL := [(3, 1, 5), (3, 6, 7), (10, 0, 9), (11, 1, 2), (14, 0, 2000000), (20, 0, 2000000), (21, 0, 2000000)]
def LRt_X11_council : WL := [(3, 0, 1)]
set_option maxRecDepth 100000 in
set_option maxHeartbeats 4000000 in
theorem t_X11_council (l : Launch) (D : va_G) (cy : Nat → ClassId) (tx : (Nat → Nat) × (Nat → Nat)) (base Z : Nat) (K N : Nat → Nat) (Ma : MT) (Ra : RT) (Ja : JT) (hTy : Ty Z K N Ma Ra) (a0 : Nat) (hz_a0 : a0 < Z) (hk_a0 : K a0 = 11) : Met l yX11_council [Cond.code yX11_council cX11_council 3 (some .int)] (md_rm 9 0 0) (va_Pc [.ref (base + a0)] (md_U D cy tx base Z K N Ma Ra Ja)) (mQi D cy tx base (fun r u => TP Z K N Lt_X11_council LRt_X11_council Ma Ra u ∧ (iv (-2147483648) 2147483647 r))) 0 0 (fun q => base ≤ q) := by
  refine tw_ofW (L := Lt_X11_council) (LR := LRt_X11_council) (by decide) (Nat.le_of_ble_eq_true rfl) hTy ?_
  intro p e s m args below meth c Q ls hx hb hr hlocks hown hml hW hK hT hS hQ hl
  have hl : lv_has ls 3 [(0, .ref (base + a0))] := hl
  refine lv_aload_n hx hb dX11_council_0 rfl (lv_at hl 0 rfl) ?_
  refine tw_getr hx hb hW hown hK hS f_X11_46_10 hz_a0 hk_a0 (t := 3) (n := 0) rfl dX11_council_1 (fun b1 k2 hz_b1 hk_b1 hn_b1 => ?_)
  refine lv_aload_n hx hb dX11_council_4 rfl (lv_at hl 0 rfl) ?_
  refine tw_getr hx hb hW hown hK hS f_X11_9_10 hz_a0 hk_a0 (t := 13) (n := 400) rfl dX11_council_5 (fun b3 k4 hz_b3 hk_b3 hn_b3 => ?_)
  have hn_b3 := hn_b3 (by decide)
  refine lv_aload_n hx hb dX11_council_8 rfl (lv_at hl 0 rfl) ?_
  refine tw_geti hx hb hW hown hK hS f_X11_94_10 hz_a0 hk_a0 (lo := 0) (hi := 400) rfl dX11_council_9 (fun x7 k6 h5 => ?_)
  refine tw_goi hS (md_runV (As := [.ref (base + b3), .int x7]) (rest := []) hx hb hml hown hW hK hT hS.1 (t_X2_read l D cy tx base Z K N Ma Ra Ja hS.2.1 b1 hz_b1 hk_b1 b3 hz_b3 hk_b3 hn_b3 x7 h5) s_X11_102 ⟨rfl, rfl, ⟨Nat.le_of_ble_eq_true rfl, Nat.le_of_ble_eq_true rfl⟩, ⟨Nat.le_of_ble_eq_true rfl, Nat.le_of_ble_eq_true rfl⟩⟩ hz_b1 hk_b1 (by decide) rfl rfl hl.1 rfl (Nat.le_of_ble_eq_true rfl) dX11_council_12) rfl rfl (fun x14 H locs M11 R12 J10 hS f8 g9 E13 => ?_)
  have h_x14 := E13
  clear E13
  refine lv_istore_n (lv' := [(1, .int x14), (0, .ref (base + a0))]) hx hb dX11_council_15 rfl hl (by decide) rfl (fun ls hl => ?_)
  refine lv_iload_n hx hb dX11_council_16 rfl (lv_at hl 0 rfl) ?_
  refine lv_if_eq (tgt := 25) hx hb dX11_council_17 (by decide) (fun c15 => ?_) (fun c15 => ?_)
  · have q16 : x14.toInt = 0 := ti_eq c15
    have h17 : iv 0 0 x14 := ⟨by have := (h_x14).1; have := ((iv_c (c := 0) (n := 0) (by decide))).1; omega, by have := (h_x14).2; have := ((iv_c (c := 0) (n := 0) (by decide))).2; omega⟩
    refine lv_aload_n hx hb dX11_council_25 rfl (lv_at hl 1 rfl) ?_
    refine tw_getr hx hb hW hown hK hS f_X11_31_10 hz_a0 hk_a0 (t := 10) (n := 0) rfl dX11_council_26 (fun b18 k19 hz_b18 hk_b18 hn_b18 => ?_)
    refine tw_geti hx hb hW hown hK hS f_X11_106_9 hz_b18 hk_b18 (lo := 0) (hi := 2147483647) rfl dX11_council_29 (fun x22 k21 h20 => ?_)
    refine lv_istore_n (lv' := [(2, .int x22), (1, .int x14), (0, .ref (base + a0))]) hx hb dX11_council_32 rfl hl (by decide) rfl (fun ls hl => ?_)
    refine lv_aload_n hx hb dX11_council_33 rfl (lv_at hl 2 rfl) ?_
    refine tw_getrk hx hb hW hown hK hS f_X11_31_10 hz_a0 hk_a0 (b := b18) k19 dX11_council_34 ?_
    refine lv_aload_n hx hb dX11_council_37 rfl (lv_at hl 2 rfl) ?_
    have k23 : R12 a0 7 = some b1 := (Fr.kp (k := 7) g9 hk_a0 rfl).trans k2
    refine tw_getrk hx hb hW hown hK hS f_X11_46_10 hz_a0 hk_a0 (b := b1) k23 dX11_council_38 ?_
    refine tw_getr hx hb hW hown hK hS f_X11_109_2 hz_b1 hk_b1 (t := 10) (n := 0) rfl dX11_council_41 (fun b24 k25 hz_b24 hk_b24 hn_b24 => ?_)
    refine tw_gov hS (md_runV (As := [.ref (base + b24)]) (rest := []) hx hb hml hown hW hK hT hS.1 (t_X9_takeFrom l D cy tx base Z K N M11 R12 J10 hS.2.1 b18 hz_b18 hk_b18 b24 hz_b24 hk_b24) s_X11_112 ⟨rfl, rfl, ⟨Nat.le_of_ble_eq_true rfl, Nat.le_of_ble_eq_true rfl⟩, ⟨Nat.le_of_ble_eq_true rfl, Nat.le_of_ble_eq_true rfl⟩⟩ hz_b18 hk_b18 (by decide) rfl rfl hl.1 rfl (Nat.le_of_ble_eq_true rfl) dX11_council_44) rfl rfl (fun H locs M29 R30 J28 hS f26 g27 E31 => ?_)
    have eR30 := Fr.nil g27 rfl
    subst eR30
    refine lv_aload_n hx hb dX11_council_47 rfl (lv_at hl 2 rfl) ?_
    refine tw_getrk hx hb hW hown hK hS f_X11_31_10 hz_a0 hk_a0 (b := b18) k19 dX11_council_48 ?_
    refine lv_iload_n hx hb dX11_council_51 rfl (lv_at hl 0 rfl) ?_
    refine tw_puti hx hb hW hown hK hS f_X11_106_9 hz_b18 hk_b18 rfl rfl (lo := 0) (hi := 2147483647) rfl h20 rfl dX11_council_52 (fun H locs M34 hS k32 f33 => ?_)
    refine lv_aload_n hx hb dX11_council_55 rfl (lv_at hl 2 rfl) ?_
    refine lv_iconst (v := 0) hx hb dX11_council_56 (by decide) ?_
    refine tw_puti hx hb hW hown hK hS f_X11_94_10 hz_a0 hk_a0 rfl rfl (lo := 0) (hi := 400) rfl (iv_mono (iv_c (c := 0) (n := 0) (by decide)) (by decide) (by decide)) rfl dX11_council_57 (fun H locs M37 hS k35 f36 => ?_)
    refine lv_aload_n hx hb dX11_council_60 rfl (lv_at hl 2 rfl) ?_
    refine tw_getrk hx hb hW hown hK hS f_X11_31_10 hz_a0 hk_a0 (b := b18) k19 dX11_council_61 ?_
    refine tw_geti hx hb hW hown hK hS f_X11_116_9 hz_b18 hk_b18 (lo := (-2147483648)) (hi := 10) rfl dX11_council_64 (fun x40 k39 h38 => ?_)
    exact tw_endi hx hb hr hlocks hK hT hS hQ ((iv_mono h38 (by decide) (by decide))) dX11_council_67
  · have q41 : ¬ x14.toInt = 0 := ti_ne c15
    refine lv_bipush (v := (-2)) hx hb dX11_council_20 (by decide) ?_
    refine lv_iload_n hx hb dX11_council_22 rfl (lv_at hl 0 rfl) ?_
    refine lv_isub hx hb dX11_council_23 ?_
    refine tw_top (fun x43 => ?_)
    have h42 := iv_any x43
    exact tw_endi hx hb hr hlocks hK hT hS hQ (h42) dX11_council_24
def Lt_X9_sumOf : WL := []
def LRt_X9_sumOf : WL := []
set_option maxRecDepth 100000 in
set_option maxHeartbeats 4000000 in
theorem t_X9_sumOf (l : Launch) (D : va_G) (cy : Nat → ClassId) (tx : (Nat → Nat) × (Nat → Nat)) (base Z : Nat) (K N : Nat → Nat) (Ma : MT) (Ra : RT) (Ja : JT) (hTy : Ty Z K N Ma Ra) (a0 : Nat) (hz_a0 : a0 < Z) (hk_a0 : K a0 = 10) (a1 : Nat) (hz_a1 : a1 < Z) (hk_a1 : K a1 = 20) (hn_a1 : N a1 = 10) (a2 : Int32) (h_a2 : iv (-2147483648) 2147483647 a2) : Met l yX9_sumOf [Cond.code yX9_sumOf cX9_sumOf 5 (some .int)] (md_rm 1 0 0) (va_Pc [.ref (base + a0), .ref (base + a1), .int a2] (md_U D cy tx base Z K N Ma Ra Ja)) (mQi D cy tx base (fun r u => TP Z K N Lt_X9_sumOf LRt_X9_sumOf Ma Ra u ∧ (iv (-2147483648) 2147483647 r))) 0 0 (fun q => base ≤ q) := by
  refine tw_ofW (L := Lt_X9_sumOf) (LR := LRt_X9_sumOf) (by decide) (Nat.le_of_ble_eq_true rfl) hTy ?_
  intro p e s m args below meth c Q ls hx hb hr hlocks hown hml hW hK hT hS hQ hl
  have hl : lv_has ls 5 [(0, .ref (base + a0)), (1, .ref (base + a1)), (2, .int a2)] := hl
  refine lv_iconst (v := 0) hx hb dX9_sumOf_0 (by decide) ?_
  refine lv_istore_n (lv' := [(3, .int 0), (0, .ref (base + a0)), (1, .ref (base + a1)), (2, .int a2)]) hx hb dX9_sumOf_1 rfl hl (by decide) rfl (fun ls hl => ?_)
  refine lv_iconst (v := 0) hx hb dX9_sumOf_2 (by decide) ?_
  refine lv_istore (lv' := [(4, .int 0), (3, .int 0), (0, .ref (base + a0)), (1, .ref (base + a1)), (2, .int a2)]) hx hb dX9_sumOf_3 hl (by decide) rfl (fun ls hl => ?_)
  have W5_3 : ∀ (n_3 : Nat) (x1 : Int32) (x2 : Int32) (M3 : MT) (R4 : RT) (J5 : JT) (H : Heap) (locs : List Loc) (ls : Array Slot) (h_x1 : iv (-2147483648) 2147483647 x1) (h_x2 : iv 0 10 x2) (hm_3 : 10 - x2.toInt < (n_3 : Int)) (hS : SB D cy base Z K N Lt_X9_sumOf LRt_X9_sumOf Ma Ra M3 R4 J5 s H locs) (hl : lv_has ls 5 [(3, .int x1), (4, .int x2), (0, .ref (base + a0)), (1, .ref (base + a1)), (2, .int a2)]), W p l e (md_rm 1 0 0) s m args below meth c H locs 0 0 Q (F0 m 5 ls []) := by
    intro n_3
    induction n_3 with
    | zero =>
      intro x1 x2 M3 R4 J5 H locs ls h_x1 h_x2 hm_3 hS hl
      exfalso
      have := (h_a2).1; have := (h_a2).2; have := (h_x2).1; have := (h_x2).2; omega
    | succ n_3 ih_3 =>
      intro x1 x2 M3 R4 J5 H locs ls h_x1 h_x2 hm_3 hS hl
      have f6 := hS.2.2.1
      have g7 := hS.2.2.2
      refine lv_iload hx hb dX9_sumOf_5 (lv_at hl 1 rfl) ?_
      refine lv_aload_n hx hb dX9_sumOf_7 rfl (lv_at hl 2 rfl) ?_
      refine tw_geti hx hb hW hown hK hS f_X9_33_9 hz_a0 hk_a0 (lo := (-2147483648)) (hi := 10) rfl dX9_sumOf_8 (fun x10 k9 h8 => ?_)
      refine lv_icmp_ge (tgt := 37) hx hb dX9_sumOf_11 (by decide) (fun c11 => ?_) (fun c11 => ?_)
      · have q12 : x10.toInt ≤ x2.toInt := ti_le c11
        refine lv_iload_n hx hb dX9_sumOf_37 rfl (lv_at hl 0 rfl) ?_
        exact tw_endi hx hb hr hlocks hK hT hS hQ (h_x1) dX9_sumOf_38
      · have q13 : x2.toInt < x10.toInt := ti_nle c11
        have h14 : iv 0 9 x2 := iv_ltL (y := x10) h_x2 h8 q13 (by decide)
        have h15 : iv 1 10 x10 := iv_gtL (y := x2) h8 h_x2 q13 (by decide)
        refine lv_iload_n hx hb dX9_sumOf_14 rfl (lv_at hl 4 rfl) ?_
        refine lv_iload hx hb dX9_sumOf_15 (lv_at hl 1 rfl) ?_
        refine lv_ishr hx hb dX9_sumOf_17 ?_
        refine tw_top (fun x17 => ?_)
        have h16 := iv_any x17
        refine lv_iconst (v := 1) hx hb dX9_sumOf_18 (by decide) ?_
        refine tw_iand (hi := 1) hx hb (iv_mono (iv_c (c := 1) (n := 1) (by decide)) (lo := 0) (hi := 1) (by decide) (by decide)) (by decide) dX9_sumOf_19 (fun x20 h18 => ?_)
        refine lv_iconst (v := 1) hx hb dX9_sumOf_20 (by decide) ?_
        refine lv_icmp_ne (tgt := 31) hx hb dX9_sumOf_21 (by decide) (fun c21 => ?_) (fun c21 => ?_)
        · have q22 : ¬ x20.toInt = 1 := ti_ne c21
          have h23 : iv 0 0 x20 := ⟨by have := (h18).1; have := ((iv_c (c := 1) (n := 1) (by decide))).1; have := ((iv_c (c := 1) (n := 1) (by decide))).2; omega, by have := (h18).2; have := ((iv_c (c := 1) (n := 1) (by decide))).1; have := ((iv_c (c := 1) (n := 1) (by decide))).2; omega⟩
          refine tw_iinc (lv' := fun x26 => [(4, .int x26), (3, .int x1), (0, .ref (base + a0)), (1, .ref (base + a1)), (2, .int a2)]) (lo := 1) (hi := 10) hx hb dX9_sumOf_31 hl (k := 1) rfl h14 (by decide) ⟨by decide, by decide⟩ ⟨by decide, by decide⟩ (by decide) (fun _ => rfl) (fun x26 ls e25 h24 hl => ?_)
          refine lv_goto (tgt := 5) hx hb dX9_sumOf_34 (by decide) ?_
          have hm27 : 10 - x26.toInt < (n_3 : Int) := by
            have := (h_a2).1; have := (h_a2).2; have := (h14).1; have := (h14).2; have := (h24).1; have := (h24).2; omega
          exact ih_3 x1 x26 M3 R4 J5 H locs _ h_x1 (iv_mono h24 (by decide) (by decide)) hm27 hS (lv_sub hl [1, 0, 2, 3, 4] rfl)
        · have q28 : x20.toInt = 1 := ti_eq c21
          have h29 : iv 1 1 x20 := ⟨by have := (h18).1; have := ((iv_c (c := 1) (n := 1) (by decide))).1; omega, by have := (h18).2; have := ((iv_c (c := 1) (n := 1) (by decide))).2; omega⟩
          refine lv_iload_n hx hb dX9_sumOf_24 rfl (lv_at hl 0 rfl) ?_
          refine lv_aload_n hx hb dX9_sumOf_25 rfl (lv_at hl 3 rfl) ?_
          refine lv_iload hx hb dX9_sumOf_26 (lv_at hl 1 rfl) ?_
          refine tw_iald hx hb hK hS hz_a1 hk_a1 (Or.inr (by decide)) hn_a1 (lo := (-2147483648)) (hi := 2147483647) h14 ⟨by decide, by decide⟩ rg_u20 dX9_sumOf_28 (fun x32 k31 h30 => ?_)
          refine lv_iadd hx hb dX9_sumOf_29 ?_
          refine tw_top (fun x34 => ?_)
          have h33 := iv_any x34
          refine lv_istore_n (lv' := [(3, .int x34), (4, .int x2), (0, .ref (base + a0)), (1, .ref (base + a1)), (2, .int a2)]) hx hb dX9_sumOf_30 rfl hl (by decide) rfl (fun ls hl => ?_)
          refine tw_iinc (lv' := fun x37 => [(4, .int x37), (3, .int x34), (0, .ref (base + a0)), (1, .ref (base + a1)), (2, .int a2)]) (lo := 1) (hi := 10) hx hb dX9_sumOf_31 hl (k := 1) rfl h14 (by decide) ⟨by decide, by decide⟩ ⟨by decide, by decide⟩ (by decide) (fun _ => rfl) (fun x37 ls e36 h35 hl => ?_)
          refine lv_goto (tgt := 5) hx hb dX9_sumOf_34 (by decide) ?_
          have hm38 : 10 - x37.toInt < (n_3 : Int) := by
            have := (h_a2).1; have := (h_a2).2; have := (h14).1; have := (h14).2; have := (h35).1; have := (h35).2; omega
          exact ih_3 x34 x37 M3 R4 J5 H locs _ h33 (iv_mono h35 (by decide) (by decide)) hm38 hS (lv_sub hl [1, 0, 2, 3, 4] rfl)
  have hm39 : 10 - (0 : Int32).toInt < (((11 : Nat) : Int) : Int) := by
    have := (h_a2).1; have := (h_a2).2; have : (0 : Int32).toInt = 0 := (by decide); omega
  exact W5_3 11 0 0 Ma Ra Ja s.heap [] _ (iv_mono (iv_c (c := 0) (n := 0) (by decide)) (by decide) (by decide)) (iv_mono (iv_c (c := 0) (n := 0) (by decide)) (by decide) (by decide)) hm39 hS (lv_sub hl [1, 0, 2, 3, 4] rfl)
def Lt_X11_count : WL := []
def LRt_X11_count : WL := []
set_option maxRecDepth 100000 in
set_option maxHeartbeats 4000000 in
theorem t_X11_count (l : Launch) (D : va_G) (cy : Nat → ClassId) (tx : (Nat → Nat) × (Nat → Nat)) (base Z : Nat) (K N : Nat → Nat) (Ma : MT) (Ra : RT) (Ja : JT) (hTy : Ty Z K N Ma Ra) (a0 : Nat) (hz_a0 : a0 < Z) (hk_a0 : K a0 = 11) (a1 : Int32) (h_a1 : iv (-2147483648) 2147483647 a1) : Met l yX11_count [Cond.code yX11_count cX11_count 2 (some .int)] (md_rm 2 0 0) (va_Pc [.ref (base + a0), .int a1] (md_U D cy tx base Z K N Ma Ra Ja)) (mQi D cy tx base (fun r u => TP Z K N Lt_X11_count LRt_X11_count Ma Ra u ∧ (iv (-2147483648) 2147483647 r))) 0 0 (fun q => base ≤ q) := by
  refine tw_ofW (L := Lt_X11_count) (LR := LRt_X11_count) (by decide) (Nat.le_of_ble_eq_true rfl) hTy ?_
  intro p e s m args below meth c Q ls hx hb hr hlocks hown hml hW hK hT hS hQ hl
  have hl : lv_has ls 2 [(0, .ref (base + a0)), (1, .int a1)] := hl
  refine lv_iload_n hx hb dX11_count_0 rfl (lv_at hl 1 rfl) ?_
  by_cases c1 : a1 = 0
  · subst c1
    refine lv_tableIn (off := 63) (tgt := 64) hx hb dX11_count_1 (by decide) (by decide) rfl (by decide) ?_
    refine lv_aload_n hx hb dX11_count_64 rfl (lv_at hl 0 rfl) ?_
    refine tw_getr hx hb hW hown hK hS f_X11_31_10 hz_a0 hk_a0 (t := 10) (n := 0) rfl dX11_count_65 (fun b2 k3 hz_b2 hk_b2 hn_b2 => ?_)
    refine tw_geti hx hb hW hown hK hS f_X11_116_9 hz_b2 hk_b2 (lo := (-2147483648)) (hi := 10) rfl dX11_count_68 (fun x6 k5 h4 => ?_)
    exact tw_endi hx hb hr hlocks hK hT hS hQ ((iv_mono h4 (by decide) (by decide))) dX11_count_71
  have q7 : ¬ a1.toInt = 0 := ti_ne c1
  by_cases c8 : a1 = 1
  · subst c8
    refine lv_tableIn (off := 71) (tgt := 72) hx hb dX11_count_1 (by decide) (by decide) rfl (by decide) ?_
    refine lv_aload_n hx hb dX11_count_72 rfl (lv_at hl 0 rfl) ?_
    refine tw_getr hx hb hW hown hK hS f_X11_31_10 hz_a0 hk_a0 (t := 10) (n := 0) rfl dX11_count_73 (fun b9 k10 hz_b9 hk_b9 hn_b9 => ?_)
    refine tw_geti hx hb hW hown hK hS f_X11_310_9 hz_b9 hk_b9 (lo := 0) (hi := 12) rfl dX11_count_76 (fun x13 k12 h11 => ?_)
    exact tw_endi hx hb hr hlocks hK hT hS hQ ((iv_mono h11 (by decide) (by decide))) dX11_count_79
  have q14 : ¬ a1.toInt = 1 := ti_ne c8
  by_cases c15 : a1 = 2
  · subst c15
    refine lv_tableIn (off := 79) (tgt := 80) hx hb dX11_count_1 (by decide) (by decide) rfl (by decide) ?_
    refine lv_aload_n hx hb dX11_count_80 rfl (lv_at hl 0 rfl) ?_
    refine tw_geti hx hb hW hown hK hS f_X11_119_10 hz_a0 hk_a0 (lo := 0) (hi := 6) rfl dX11_count_81 (fun x18 k17 h16 => ?_)
    exact tw_endi hx hb hr hlocks hK hT hS hQ ((iv_mono h16 (by decide) (by decide))) dX11_count_84
  have q19 : ¬ a1.toInt = 2 := ti_ne c15
  by_cases c20 : a1 = 3
  · subst c20
    refine lv_tableIn (off := 84) (tgt := 85) hx hb dX11_count_1 (by decide) (by decide) rfl (by decide) ?_
    refine lv_aload_n hx hb dX11_count_85 rfl (lv_at hl 0 rfl) ?_
    refine tw_getr hx hb hW hown hK hS f_X11_31_10 hz_a0 hk_a0 (t := 10) (n := 0) rfl dX11_count_86 (fun b21 k22 hz_b21 hk_b21 hn_b21 => ?_)
    refine tw_geti hx hb hW hown hK hS f_X11_142_9 hz_b21 hk_b21 (lo := (-2147483648)) (hi := 2147483647) rfl dX11_count_89 (fun x25 k24 h23 => ?_)
    refine tw_goi hS (md_runS (As := [.int x25]) (rest := []) hx hb hml hown hW hK hT hS.1 (t_J6_bitCount_0f7a4 l D cy tx base Z K N Ma Ra Ja hS.2.1 x25 h23) s_X11_165 ⟨rfl, rfl, ⟨Nat.le_of_ble_eq_true rfl, Nat.le_of_ble_eq_true rfl⟩, ⟨Nat.le_of_ble_eq_true rfl, Nat.le_of_ble_eq_true rfl⟩⟩ rfl hl.1 rfl (Nat.le_of_ble_eq_true rfl) dX11_count_92) rfl rfl (fun x32 H locs M29 R30 J28 hS f26 g27 E31 => ?_)
    have eM29 := Fr.nil f26 rfl
    subst eM29
    have eR30 := Fr.nil g27 rfl
    subst eR30
    have h_x32 := E31
    clear E31
    exact tw_endi hx hb hr hlocks hK hT hS hQ ((iv_mono h_x32 (by decide) (by decide))) dX11_count_95
  have q33 : ¬ a1.toInt = 3 := ti_ne c20
  by_cases c34 : a1 = 4
  · subst c34
    refine lv_tableIn (off := 95) (tgt := 96) hx hb dX11_count_1 (by decide) (by decide) rfl (by decide) ?_
    refine lv_aload_n hx hb dX11_count_96 rfl (lv_at hl 0 rfl) ?_
    refine tw_getr hx hb hW hown hK hS f_X11_31_10 hz_a0 hk_a0 (t := 10) (n := 0) rfl dX11_count_97 (fun b35 k36 hz_b35 hk_b35 hn_b35 => ?_)
    refine lv_aload_n hx hb dX11_count_100 rfl (lv_at hl 0 rfl) ?_
    refine tw_getrk hx hb hW hown hK hS f_X11_31_10 hz_a0 hk_a0 (b := b35) k36 dX11_count_101 ?_
    refine tw_getr hx hb hW hown hK hS f_X11_136_9 hz_b35 hk_b35 (t := 20) (n := 10) rfl dX11_count_104 (fun b37 k38 hz_b37 hk_b37 hn_b37 => ?_)
    have hn_b37 := hn_b37 (by decide)
    refine lv_aload_n hx hb dX11_count_107 rfl (lv_at hl 0 rfl) ?_
    refine tw_getrk hx hb hW hown hK hS f_X11_31_10 hz_a0 hk_a0 (b := b35) k36 dX11_count_108 ?_
    refine tw_geti hx hb hW hown hK hS f_X11_142_9 hz_b35 hk_b35 (lo := (-2147483648)) (hi := 2147483647) rfl dX11_count_111 (fun x41 k40 h39 => ?_)
    refine tw_goi hS (md_runV (As := [.ref (base + b37), .int x41]) (rest := []) hx hb hml hown hW hK hT hS.1 (t_X9_sumOf l D cy tx base Z K N Ma Ra Ja hS.2.1 b35 hz_b35 hk_b35 b37 hz_b37 hk_b37 hn_b37 x41 h39) s_X11_320 ⟨rfl, rfl, ⟨Nat.le_of_ble_eq_true rfl, Nat.le_of_ble_eq_true rfl⟩, ⟨Nat.le_of_ble_eq_true rfl, Nat.le_of_ble_eq_true rfl⟩⟩ hz_b35 hk_b35 (by decide) rfl rfl hl.1 rfl (Nat.le_of_ble_eq_true rfl) dX11_count_114) rfl rfl (fun x48 H locs M45 R46 J44 hS f42 g43 E47 => ?_)
    have eM45 := Fr.nil f42 rfl
    subst eM45
    have eR46 := Fr.nil g43 rfl
    subst eR46
    have h_x48 := E47
    clear E47
    exact tw_endi hx hb hr hlocks hK hT hS hQ (h_x48) dX11_count_117
  have q49 : ¬ a1.toInt = 4 := ti_ne c34
  by_cases c50 : a1 = 5
  · subst c50
    refine lv_tableIn (off := 117) (tgt := 118) hx hb dX11_count_1 (by decide) (by decide) rfl (by decide) ?_
    refine lv_aload_n hx hb dX11_count_118 rfl (lv_at hl 0 rfl) ?_
    refine tw_getr hx hb hW hown hK hS f_X11_31_10 hz_a0 hk_a0 (t := 10) (n := 0) rfl dX11_count_119 (fun b51 k52 hz_b51 hk_b51 hn_b51 => ?_)
    refine tw_geti hx hb hW hown hK hS f_X11_180_9 hz_b51 hk_b51 (lo := (-2147483648)) (hi := 2147483647) rfl dX11_count_122 (fun x55 k54 h53 => ?_)
    exact tw_endi hx hb hr hlocks hK hT hS hQ (h53) dX11_count_125
  have q56 : ¬ a1.toInt = 5 := ti_ne c50
  by_cases c57 : a1 = 6
  · subst c57
    refine lv_tableIn (off := 125) (tgt := 126) hx hb dX11_count_1 (by decide) (by decide) rfl (by decide) ?_
    refine lv_aload_n hx hb dX11_count_126 rfl (lv_at hl 0 rfl) ?_
    refine tw_getr hx hb hW hown hK hS f_X11_31_10 hz_a0 hk_a0 (t := 10) (n := 0) rfl dX11_count_127 (fun b58 k59 hz_b58 hk_b58 hn_b58 => ?_)
    refine tw_geti hx hb hW hown hK hS f_X11_202_9 hz_b58 hk_b58 (lo := 0) (hi := 8) rfl dX11_count_130 (fun x62 k61 h60 => ?_)
    exact tw_endi hx hb hr hlocks hK hT hS hQ ((iv_mono h60 (by decide) (by decide))) dX11_count_133
  have q63 : ¬ a1.toInt = 6 := ti_ne c57
  by_cases c64 : a1 = 7
  · subst c64
    refine lv_tableIn (off := 133) (tgt := 134) hx hb dX11_count_1 (by decide) (by decide) rfl (by decide) ?_
    refine lv_aload_n hx hb dX11_count_134 rfl (lv_at hl 0 rfl) ?_
    refine tw_getr hx hb hW hown hK hS f_X11_31_10 hz_a0 hk_a0 (t := 10) (n := 0) rfl dX11_count_135 (fun b65 k66 hz_b65 hk_b65 hn_b65 => ?_)
    refine tw_geti hx hb hW hown hK hS f_X11_276_9 hz_b65 hk_b65 (lo := 0) (hi := 12) rfl dX11_count_138 (fun x69 k68 h67 => ?_)
    exact tw_endi hx hb hr hlocks hK hT hS hQ ((iv_mono h67 (by decide) (by decide))) dX11_count_141
  have q70 : ¬ a1.toInt = 7 := ti_ne c64
  by_cases c71 : a1 = 8
  · subst c71
    refine lv_tableIn (off := 141) (tgt := 142) hx hb dX11_count_1 (by decide) (by decide) rfl (by decide) ?_
    refine lv_aload_n hx hb dX11_count_142 rfl (lv_at hl 0 rfl) ?_
    refine tw_getr hx hb hW hown hK hS f_X11_31_10 hz_a0 hk_a0 (t := 10) (n := 0) rfl dX11_count_143 (fun b72 k73 hz_b72 hk_b72 hn_b72 => ?_)
    refine tw_geti hx hb hW hown hK hS f_X11_106_9 hz_b72 hk_b72 (lo := 0) (hi := 2147483647) rfl dX11_count_146 (fun x76 k75 h74 => ?_)
    exact tw_endi hx hb hr hlocks hK hT hS hQ ((iv_mono h74 (by decide) (by decide))) dX11_count_149
  have q77 : ¬ a1.toInt = 8 := ti_ne c71
  by_cases c78 : a1 = 9
  · subst c78
    refine lv_tableIn (off := 149) (tgt := 150) hx hb dX11_count_1 (by decide) (by decide) rfl (by decide) ?_
    refine lv_aload_n hx hb dX11_count_150 rfl (lv_at hl 0 rfl) ?_
    refine tw_geti hx hb hW hown hK hS f_X11_94_10 hz_a0 hk_a0 (lo := 0) (hi := 400) rfl dX11_count_151 (fun x81 k80 h79 => ?_)
    exact tw_endi hx hb hr hlocks hK hT hS hQ ((iv_mono h79 (by decide) (by decide))) dX11_count_154
  have q82 : ¬ a1.toInt = 9 := ti_ne c78
  by_cases c83 : a1 = 10
  · subst c83
    refine lv_tableIn (off := 154) (tgt := 155) hx hb dX11_count_1 (by decide) (by decide) rfl (by decide) ?_
    refine lv_aload_n hx hb dX11_count_155 rfl (lv_at hl 0 rfl) ?_
    refine tw_getr hx hb hW hown hK hS f_X11_31_10 hz_a0 hk_a0 (t := 10) (n := 0) rfl dX11_count_156 (fun b84 k85 hz_b84 hk_b84 hn_b84 => ?_)
    refine tw_geti hx hb hW hown hK hS f_X11_174_9 hz_b84 hk_b84 (lo := (-2147483648)) (hi := 2147483647) rfl dX11_count_159 (fun x88 k87 h86 => ?_)
    exact tw_endi hx hb hr hlocks hK hT hS hQ (h86) dX11_count_162
  have q89 : ¬ a1.toInt = 10 := ti_ne c83
  by_cases c90 : a1 = 11
  · subst c90
    refine lv_tableIn (off := 162) (tgt := 163) hx hb dX11_count_1 (by decide) (by decide) rfl (by decide) ?_
    refine lv_aload_n hx hb dX11_count_163 rfl (lv_at hl 0 rfl) ?_
    refine tw_getr hx hb hW hown hK hS f_X11_31_10 hz_a0 hk_a0 (t := 10) (n := 0) rfl dX11_count_164 (fun b91 k92 hz_b91 hk_b91 hn_b91 => ?_)
    refine tw_geti hx hb hW hown hK hS f_X11_177_9 hz_b91 hk_b91 (lo := 0) (hi := 9999) rfl dX11_count_167 (fun x95 k94 h93 => ?_)
    exact tw_endi hx hb hr hlocks hK hT hS hQ ((iv_mono h93 (by decide) (by decide))) dX11_count_170
  have q96 : ¬ a1.toInt = 11 := ti_ne c90
  refine lv_tableOut (tgt := 171) hx hb dX11_count_1 (by have := (h_a1).1; have := (h_a1).2; omega) (by decide) ?_
  refine lv_iconst (v := (-1)) hx hb dX11_count_171 (by decide) ?_
  exact tw_endi hx hb hr hlocks hK hT hS hQ ((iv_mono (iv_c (c := (-1)) (n := (-1)) (by decide)) (by decide) (by decide))) dX11_count_172
def Lt_X5_bring : WL := [(6, 2, 4), (6, 6, 9)]
def LRt_X5_bring : WL := [(6, 4, 6)]
set_option maxRecDepth 100000 in
set_option maxHeartbeats 4000000 in
theorem t_X5_bring (l : Launch) (D : va_G) (cy : Nat → ClassId) (tx : (Nat → Nat) × (Nat → Nat)) (base Z : Nat) (K N : Nat → Nat) (Ma : MT) (Ra : RT) (Ja : JT) (hTy : Ty Z K N Ma Ra) (a0 : Nat) (hz_a0 : a0 < Z) (hk_a0 : K a0 = 6) (a1 : Nat) (hz_a1 : a1 < Z) (hk_a1 : K a1 = 21) (hn_a1 : N a1 = 8) (a2 : Int32) (h_a2 : iv 0 7 a2) (a3 : Int32) (h_a3 : iv 0 8 a3) (a4 : Nat) (hz_a4 : a4 < Z) (hk_a4 : K a4 = 20) (hn_a4 : N a4 = 10) (a5 : Int32) (h_a5 : iv (-2147483648) 2147483647 a5) : Met l yX5_bring [Cond.code yX5_bring cX5_bring 6 none] (md_rm 1 0 0) (va_Pc [.ref (base + a0), .ref (base + a1), .int a2, .int a3, .ref (base + a4), .int a5] (md_U D cy tx base Z K N Ma Ra Ja)) (mQv D cy tx base (fun u => TP Z K N Lt_X5_bring LRt_X5_bring Ma Ra u ∧ (RowOK N u.2.2.2.1 u.2.2.2.2.1 a0))) 0 0 (fun q => base ≤ q) := by
  refine tw_ofW (L := Lt_X5_bring) (LR := LRt_X5_bring) (by decide) (Nat.le_of_ble_eq_true rfl) hTy ?_
  intro p e s m args below meth c Q ls hx hb hr hlocks hown hml hW hK hT hS hQ hl
  have hl : lv_has ls 6 [(0, .ref (base + a0)), (1, .ref (base + a1)), (2, .int a2), (3, .int a3), (4, .ref (base + a4)), (5, .int a5)] := hl
  refine lv_aload_n hx hb dX5_bring_0 rfl (lv_at hl 0 rfl) ?_
  refine lv_aload_n hx hb dX5_bring_1 rfl (lv_at hl 1 rfl) ?_
  refine lv_iload_n hx hb dX5_bring_2 rfl (lv_at hl 2 rfl) ?_
  refine tw_iald hx hb hK hS hz_a1 hk_a1 (Or.inr (by decide)) hn_a1 (lo := 0) (hi := 11) h_a2 ⟨by decide, by decide⟩ rg_u21 dX5_bring_3 (fun x3 k2 h1 => ?_)
  refine tw_puti hx hb hW hown hK hS f_X5_30_5 hz_a0 hk_a0 rfl rfl (lo := 0) (hi := 11) rfl h1 rfl dX5_bring_4 (fun H locs M6 hS k4 f5 => ?_)
  refine lv_aload_n hx hb dX5_bring_7 rfl (lv_at hl 0 rfl) ?_
  refine lv_aload hx hb dX5_bring_8 (lv_at hl 4 rfl) ?_
  refine tw_putr hx hb hW hown hK hS f_X5_25_5 hz_a0 hk_a0 rfl rfl (t := 20) (n := 10) rfl hz_a4 hk_a4 (fun _ => hn_a4) rfl dX5_bring_10 (fun H locs R9 hS k7 f8 => ?_)
  refine lv_aload_n hx hb dX5_bring_13 rfl (lv_at hl 0 rfl) ?_
  refine lv_iload hx hb dX5_bring_14 (lv_at hl 5 rfl) ?_
  refine tw_puti hx hb hW hown hK hS f_X5_34_5 hz_a0 hk_a0 rfl rfl (lo := (-2147483648)) (hi := 2147483647) rfl h_a5 rfl dX5_bring_16 (fun H locs M12 hS k10 f11 => ?_)
  refine lv_aload_n hx hb dX5_bring_19 rfl (lv_at hl 0 rfl) ?_
  refine lv_aload_n hx hb dX5_bring_20 rfl (lv_at hl 1 rfl) ?_
  refine tw_putr hx hb hW hown hK hS f_X5_29_5 hz_a0 hk_a0 rfl rfl (t := 21) (n := 0) rfl hz_a1 hk_a1 (fun h => absurd rfl h) rfl dX5_bring_21 (fun H locs R15 hS k13 f14 => ?_)
  refine lv_aload_n hx hb dX5_bring_24 rfl (lv_at hl 0 rfl) ?_
  refine lv_iload_n hx hb dX5_bring_25 rfl (lv_at hl 2 rfl) ?_
  refine lv_iconst (v := 1) hx hb dX5_bring_26 (by decide) ?_
  refine tw_iadd (lo := 1) (hi := 8) hx hb h_a2 (iv_c (c := 1) (n := 1) (by decide)) ⟨by decide, by decide⟩ ⟨by decide, by decide⟩ dX5_bring_27 (fun x18 e17 h16 => ?_)
  have e17 : x18.toInt = a2.toInt + 1 := e17
  refine tw_puti hx hb hW hown hK hS f_X5_37_5 hz_a0 hk_a0 rfl rfl (lo := 0) (hi := 8) rfl (iv_mono h16 (by decide) (by decide)) rfl dX5_bring_28 (fun H locs M21 hS k19 f20 => ?_)
  refine lv_aload_n hx hb dX5_bring_31 rfl (lv_at hl 0 rfl) ?_
  refine lv_iload_n hx hb dX5_bring_32 rfl (lv_at hl 3 rfl) ?_
  refine tw_puti hx hb hW hown hK hS f_X5_40_5 hz_a0 hk_a0 rfl rfl (lo := 0) (hi := 8) rfl h_a3 rfl dX5_bring_33 (fun H locs M24 hS k22 f23 => ?_)
  refine lv_aload_n hx hb dX5_bring_36 rfl (lv_at hl 0 rfl) ?_
  refine lv_iconst (v := 0) hx hb dX5_bring_37 (by decide) ?_
  refine tw_puti hx hb hW hown hK hS f_X5_43_5 hz_a0 hk_a0 rfl rfl (lo := 0) (hi := 1) rfl (iv_mono (iv_c (c := 0) (n := 0) (by decide)) (by decide) (by decide)) rfl dX5_bring_38 (fun H locs M27 hS k25 f26 => ?_)
  have k28 : M27 a0 7 = a3 := (Fr.kp (k := 7) f26 hk_a0 rfl).trans k22
  exact tw_endv hx hb hr hlocks hK hT hS hQ ((show RowOK N M27 R15 a0 from fun b hb => by rw [k13] at hb; cases hb; rw [k28, hn_a1]; have := (h_a3).2; omega)) dX5_bring_41
def Lt_X11_day : WL := [(6, 2, 4), (6, 6, 15), (10, 3, 4), (14, 0, 2000000), (20, 0, 2000000)]
def LRt_X11_day : WL := [(6, 4, 6)]
set_option maxRecDepth 100000 in
set_option maxHeartbeats 4000000 in
theorem t_X11_day (l : Launch) (D : va_G) (cy : Nat → ClassId) (tx : (Nat → Nat) × (Nat → Nat)) (base Z : Nat) (K N : Nat → Nat) (Ma : MT) (Ra : RT) (Ja : JT) (hTy : Ty Z K N Ma Ra) (a0 : Nat) (hz_a0 : a0 < Z) (hk_a0 : K a0 = 11) : Met l yX11_day [Cond.code yX11_day cX11_day 3 (some .int)] (md_rm 5 0 0) (va_Pc [.ref (base + a0)] (md_U D cy tx base Z K N Ma Ra Ja)) (mQi D cy tx base (fun r u => TP Z K N Lt_X11_day LRt_X11_day Ma Ra u ∧ (iv (-2147483648) 2147483647 r))) 0 0 (fun q => base ≤ q) := by
  refine tw_ofW (L := Lt_X11_day) (LR := LRt_X11_day) (by decide) (Nat.le_of_ble_eq_true rfl) hTy ?_
  intro p e s m args below meth c Q ls hx hb hr hlocks hown hml hW hK hT hS hQ hl
  have hl : lv_has ls 3 [(0, .ref (base + a0))] := hl
  refine lv_aload_n hx hb dX11_day_0 rfl (lv_at hl 0 rfl) ?_
  refine tw_getr hx hb hW hown hK hS f_X11_31_10 hz_a0 hk_a0 (t := 10) (n := 0) rfl dX11_day_1 (fun b1 k2 hz_b1 hk_b1 hn_b1 => ?_)
  refine tw_goi hS (md_runV (As := []) (rest := []) hx hb hml hown hW hK hT hS.1 (t_X9_hasCouncil l D cy tx base Z K N Ma Ra Ja hS.2.1 b1 hz_b1 hk_b1) s_X11_170 ⟨rfl, rfl, ⟨Nat.le_of_ble_eq_true rfl, Nat.le_of_ble_eq_true rfl⟩, ⟨Nat.le_of_ble_eq_true rfl, Nat.le_of_ble_eq_true rfl⟩⟩ hz_b1 hk_b1 (by decide) rfl rfl hl.1 rfl (Nat.le_of_ble_eq_true rfl) dX11_day_4) rfl rfl (fun x9 H locs M6 R7 J5 hS f3 g4 E8 => ?_)
  have eM6 := Fr.nil f3 rfl
  subst eM6
  have eR7 := Fr.nil g4 rfl
  subst eR7
  have h_x9 := E8
  clear E8
  refine lv_if_ne (tgt := 16) hx hb dX11_day_7 (by decide) (fun c10 => ?_) (fun c10 => ?_)
  · have q11 : ¬ x9.toInt = 0 := ti_ne c10
    have h12 : iv 1 1 x9 := ⟨by have := (h_x9).1; have := ((iv_c (c := 0) (n := 0) (by decide))).1; have := ((iv_c (c := 0) (n := 0) (by decide))).2; omega, by have := (h_x9).2; have := ((iv_c (c := 0) (n := 0) (by decide))).1; have := ((iv_c (c := 0) (n := 0) (by decide))).2; omega⟩
    refine lv_iconst (v := 0) hx hb dX11_day_16 (by decide) ?_
    refine lv_istore_n (lv' := [(1, .int 0), (0, .ref (base + a0))]) hx hb dX11_day_17 rfl hl (by decide) rfl (fun ls hl => ?_)
    refine lv_iconst (v := 0) hx hb dX11_day_18 (by decide) ?_
    refine lv_istore_n (lv' := [(2, .int 0), (1, .int 0), (0, .ref (base + a0))]) hx hb dX11_day_19 rfl hl (by decide) rfl (fun ls hl => ?_)
    have W20_15 : ∀ (n_15 : Nat) (x13 : Int32) (x14 : Int32) (M15 : MT) (R16 : RT) (J17 : JT) (H : Heap) (locs : List Loc) (ls : Array Slot) (h_x13 : iv (-2147483648) 2147483647 x13) (h_x14 : iv 0 8 x14) (hm_15 : 8 - x14.toInt < (n_15 : Int)) (hS : SB D cy base Z K N Lt_X11_day LRt_X11_day Ma Ra M15 R16 J17 s H locs) (hl : lv_has ls 3 [(1, .int x13), (2, .int x14), (0, .ref (base + a0))]), W p l e (md_rm 5 0 0) s m args below meth c H locs 0 0 Q (F0 m 20 ls []) := by
      intro n_15
      induction n_15 with
      | zero =>
        intro x13 x14 M15 R16 J17 H locs ls h_x13 h_x14 hm_15 hS hl
        exfalso
        have := (h_x14).1; have := (h_x14).2; omega
      | succ n_15 ih_15 =>
        intro x13 x14 M15 R16 J17 H locs ls h_x13 h_x14 hm_15 hS hl
        have f18 := hS.2.2.1
        have g19 := hS.2.2.2
        refine lv_iload_n hx hb dX11_day_20 rfl (lv_at hl 1 rfl) ?_
        refine lv_aload_n hx hb dX11_day_21 rfl (lv_at hl 2 rfl) ?_
        have k20 : R16 a0 3 = some b1 := (Fr.kp (k := 3) g19 hk_a0 rfl).trans k2
        refine tw_getrk hx hb hW hown hK hS f_X11_31_10 hz_a0 hk_a0 (b := b1) k20 dX11_day_22 ?_
        refine tw_geti hx hb hW hown hK hS f_X11_202_9 hz_b1 hk_b1 (lo := 0) (hi := 8) rfl dX11_day_25 (fun x23 k22 h21 => ?_)
        refine lv_icmp_ge (tgt := 115) hx hb dX11_day_28 (by decide) (fun c24 => ?_) (fun c24 => ?_)
        · have q25 : x23.toInt ≤ x14.toInt := ti_le c24
          refine lv_iload_n hx hb dX11_day_115 rfl (lv_at hl 0 rfl) ?_
          exact tw_endi hx hb hr hlocks hK hT hS hQ (h_x13) dX11_day_116
        · have q26 : x14.toInt < x23.toInt := ti_nle c24
          have h27 : iv 0 7 x14 := iv_ltL (y := x23) h_x14 h21 q26 (by decide)
          have h28 : iv 1 8 x23 := iv_gtL (y := x14) h21 h_x14 q26 (by decide)
          refine lv_aload_n hx hb dX11_day_31 rfl (lv_at hl 2 rfl) ?_
          refine tw_getr hx hb hW hown hK hS f_X11_39_10 hz_a0 hk_a0 (t := 6) (n := 0) rfl dX11_day_32 (fun b29 k30 hz_b29 hk_b29 hn_b29 => ?_)
          refine lv_aload_n hx hb dX11_day_35 rfl (lv_at hl 2 rfl) ?_
          have k31 : R16 a0 3 = some b1 := (Fr.kp (k := 3) g19 hk_a0 rfl).trans k2
          refine tw_getrk hx hb hW hown hK hS f_X11_31_10 hz_a0 hk_a0 (b := b1) k31 dX11_day_36 ?_
          refine tw_getr hx hb hW hown hK hS f_X11_205_9 hz_b1 hk_b1 (t := 21) (n := 8) rfl dX11_day_39 (fun b32 k33 hz_b32 hk_b32 hn_b32 => ?_)
          have hn_b32 := hn_b32 (by decide)
          refine lv_iload_n hx hb dX11_day_42 rfl (lv_at hl 1 rfl) ?_
          refine lv_aload_n hx hb dX11_day_43 rfl (lv_at hl 2 rfl) ?_
          have k34 : R16 a0 3 = some b1 := (Fr.kp (k := 3) g19 hk_a0 rfl).trans k2
          refine tw_getrk hx hb hW hown hK hS f_X11_31_10 hz_a0 hk_a0 (b := b1) k34 dX11_day_44 ?_
          refine tw_getk hx hb hW hown hK hS f_X11_202_9 hz_b1 hk_b1 (v := x23) k22 dX11_day_47 ?_
          refine lv_aload_n hx hb dX11_day_50 rfl (lv_at hl 2 rfl) ?_
          have k35 : R16 a0 3 = some b1 := (Fr.kp (k := 3) g19 hk_a0 rfl).trans k2
          refine tw_getrk hx hb hW hown hK hS f_X11_31_10 hz_a0 hk_a0 (b := b1) k35 dX11_day_51 ?_
          refine tw_getr hx hb hW hown hK hS f_X11_136_9 hz_b1 hk_b1 (t := 20) (n := 10) rfl dX11_day_54 (fun b36 k37 hz_b36 hk_b36 hn_b36 => ?_)
          have hn_b36 := hn_b36 (by decide)
          refine lv_aload_n hx hb dX11_day_57 rfl (lv_at hl 2 rfl) ?_
          have k38 : R16 a0 3 = some b1 := (Fr.kp (k := 3) g19 hk_a0 rfl).trans k2
          refine tw_getrk hx hb hW hown hK hS f_X11_31_10 hz_a0 hk_a0 (b := b1) k38 dX11_day_58 ?_
          refine tw_geti hx hb hW hown hK hS f_X11_180_9 hz_b1 hk_b1 (lo := (-2147483648)) (hi := 2147483647) rfl dX11_day_61 (fun x41 k40 h39 => ?_)
          refine tw_gov hS (md_runV (As := [.ref (base + b32), .int x14, .int x23, .ref (base + b36), .int x41]) (rest := []) hx hb hml hown hW hK hT hS.1 (t_X5_bring l D cy tx base Z K N M15 R16 J17 hS.2.1 b29 hz_b29 hk_b29 b32 hz_b32 hk_b32 hn_b32 x14 h27 x23 (iv_mono h28 (by decide) (by decide)) b36 hz_b36 hk_b36 hn_b36 x41 h39) s_X11_211 ⟨rfl, rfl, ⟨Nat.le_of_ble_eq_true rfl, Nat.le_of_ble_eq_true rfl⟩, ⟨Nat.le_of_ble_eq_true rfl, Nat.le_of_ble_eq_true rfl⟩⟩ hz_b29 hk_b29 (by decide) rfl rfl hl.1 rfl (Nat.le_of_ble_eq_true rfl) dX11_day_64) rfl rfl (fun H locs M45 R46 J44 hS f42 g43 E47 => ?_)
          have p48 := E47
          clear E47
          have k49 : RowOK N M45 R46 b29 := p48
          refine lv_aload_n hx hb dX11_day_67 rfl (lv_at hl 2 rfl) ?_
          have k50 : R46 a0 9 = some b29 := (Fr.kp (k := 9) g43 hk_a0 rfl).trans k30
          refine tw_getrk hx hb hW hown hK hS f_X11_39_10 hz_a0 hk_a0 (b := b29) k50 dX11_day_68 ?_
          refine lv_aload_n hx hb dX11_day_71 rfl (lv_at hl 2 rfl) ?_
          have k51 : R46 a0 3 = some b1 := ((Fr.kp (k := 3) g43 hk_a0 rfl).trans (Fr.kp (k := 3) g19 hk_a0 rfl)).trans k2
          refine tw_getrk hx hb hW hown hK hS f_X11_31_10 hz_a0 hk_a0 (b := b1) k51 dX11_day_72 ?_
          refine tw_geti hx hb hW hown hK hS f_X11_142_9 hz_b1 hk_b1 (lo := (-2147483648)) (hi := 2147483647) rfl dX11_day_75 (fun x54 k53 h52 => ?_)
          refine tw_gov hS (md_runV (As := [.int x54]) (rest := []) hx hb hml hown hW hK hT hS.1 (t_X5_ask l D cy tx base Z K N M45 R46 J44 hS.2.1 b29 hz_b29 hk_b29 x54 h52 k49) s_X11_187 ⟨rfl, rfl, ⟨Nat.le_of_ble_eq_true rfl, Nat.le_of_ble_eq_true rfl⟩, ⟨Nat.le_of_ble_eq_true rfl, Nat.le_of_ble_eq_true rfl⟩⟩ hz_b29 hk_b29 (by decide) rfl rfl hl.1 rfl (Nat.le_of_ble_eq_true rfl) dX11_day_78) rfl rfl (fun H locs M58 R59 J57 hS f55 g56 E60 => ?_)
          have eR59 := Fr.nil g56 rfl
          subst eR59
          refine lv_aload_n hx hb dX11_day_81 rfl (lv_at hl 2 rfl) ?_
          refine tw_getrk hx hb hW hown hK hS f_X11_39_10 hz_a0 hk_a0 (b := b29) k50 dX11_day_82 ?_
          refine lv_aload_n hx hb dX11_day_85 rfl (lv_at hl 2 rfl) ?_
          refine tw_getrk hx hb hW hown hK hS f_X11_39_10 hz_a0 hk_a0 (b := b29) k50 dX11_day_86 ?_
          refine tw_geti hx hb hW hown hK hS f_X11_190_5 hz_b29 hk_b29 (lo := (-2147483648)) (hi := 2147483647) rfl dX11_day_89 (fun x63 k62 h61 => ?_)
          refine lv_aload_n hx hb dX11_day_92 rfl (lv_at hl 2 rfl) ?_
          refine tw_getrk hx hb hW hown hK hS f_X11_39_10 hz_a0 hk_a0 (b := b29) k50 dX11_day_93 ?_
          refine tw_geti hx hb hW hown hK hS f_X11_193_5 hz_b29 hk_b29 (lo := (-2147483648)) (hi := 2147483647) rfl dX11_day_96 (fun x66 k65 h64 => ?_)
          refine tw_goi hS (md_runV (As := [.int x63, .int x66]) (rest := []) hx hb hml hown hW hK hT hS.1 (t_X5_holdForGood l D cy tx base Z K N M58 R46 J57 hS.2.1 b29 hz_b29 hk_b29 x63 h61 x66 h64) s_X11_196 ⟨rfl, rfl, ⟨Nat.le_of_ble_eq_true rfl, Nat.le_of_ble_eq_true rfl⟩, ⟨Nat.le_of_ble_eq_true rfl, Nat.le_of_ble_eq_true rfl⟩⟩ hz_b29 hk_b29 (by decide) rfl rfl hl.1 rfl (Nat.le_of_ble_eq_true rfl) dX11_day_99) rfl rfl (fun x73 H locs M70 R71 J69 hS f67 g68 E72 => ?_)
          have eR71 := Fr.nil g68 rfl
          subst eR71
          have h_x73 := E72
          clear E72
          refine lv_iconst (v := 1) hx hb dX11_day_102 (by decide) ?_
          refine lv_icmp_ne (tgt := 109) hx hb dX11_day_103 (by decide) (fun c74 => ?_) (fun c74 => ?_)
          · have q75 : ¬ x73.toInt = 1 := ti_ne c74
            refine tw_iinc (lv' := fun x78 => [(2, .int x78), (1, .int x13), (0, .ref (base + a0))]) (lo := 1) (hi := 8) hx hb dX11_day_109 hl (k := 1) rfl h27 (by decide) ⟨by decide, by decide⟩ ⟨by decide, by decide⟩ (by decide) (fun _ => rfl) (fun x78 ls e77 h76 hl => ?_)
            refine lv_goto (tgt := 20) hx hb dX11_day_112 (by decide) ?_
            have hm79 : 8 - x78.toInt < (n_15 : Int) := by
              have := (h27).1; have := (h27).2; have := (h76).1; have := (h76).2; omega
            exact ih_15 x13 x78 M70 R46 J69 H locs _ h_x13 (iv_mono h76 (by decide) (by decide)) hm79 hS (lv_sub hl [1, 0, 2] rfl)
          · have q80 : x73.toInt = 1 := ti_eq c74
            have h81 : iv 1 1 x73 := ⟨by have := (h_x73).1; have := ((iv_c (c := 1) (n := 1) (by decide))).1; omega, by have := (h_x73).2; have := ((iv_c (c := 1) (n := 1) (by decide))).2; omega⟩
            refine tw_iincw (lv' := fun x83 => [(1, .int x83), (2, .int x14), (0, .ref (base + a0))]) hx hb dX11_day_106 hl (k := 0) rfl (by decide) (fun _ => rfl) (fun x83 ls hl => ?_)
            have h82 := iv_any x83
            refine tw_iinc (lv' := fun x86 => [(2, .int x86), (1, .int x83), (0, .ref (base + a0))]) (lo := 1) (hi := 8) hx hb dX11_day_109 hl (k := 1) rfl h27 (by decide) ⟨by decide, by decide⟩ ⟨by decide, by decide⟩ (by decide) (fun _ => rfl) (fun x86 ls e85 h84 hl => ?_)
            refine lv_goto (tgt := 20) hx hb dX11_day_112 (by decide) ?_
            have hm87 : 8 - x86.toInt < (n_15 : Int) := by
              have := (h27).1; have := (h27).2; have := (h84).1; have := (h84).2; omega
            exact ih_15 x83 x86 M70 R46 J69 H locs _ h82 (iv_mono h84 (by decide) (by decide)) hm87 hS (lv_sub hl [1, 0, 2] rfl)
    have hm88 : 8 - (0 : Int32).toInt < (((9 : Nat) : Int) : Int) := by
      have : (0 : Int32).toInt = 0 := (by decide); omega
    exact W20_15 9 0 0 Ma Ra J5 H locs _ (iv_mono (iv_c (c := 0) (n := 0) (by decide)) (by decide) (by decide)) (iv_mono (iv_c (c := 0) (n := 0) (by decide)) (by decide) (by decide)) hm88 hS (lv_sub hl [1, 0, 2] rfl)
  · have q89 : x9.toInt = 0 := ti_eq c10
    have h90 : iv 0 0 x9 := ⟨by have := (h_x9).1; have := ((iv_c (c := 0) (n := 0) (by decide))).1; omega, by have := (h_x9).2; have := ((iv_c (c := 0) (n := 0) (by decide))).2; omega⟩
    refine lv_aload_n hx hb dX11_day_10 rfl (lv_at hl 0 rfl) ?_
    refine lv_iconst (v := 0) hx hb dX11_day_11 (by decide) ?_
    refine tw_goi hS (md_runV (As := [.int 0]) (rest := []) hx hb hml hown hW hK hT hS.1 (t_X11_refuse l D cy tx base Z K N Ma Ra J5 hS.2.1 a0 hz_a0 hk_a0 0 (iv_mono (iv_c (c := 0) (n := 0) (by decide)) (by decide) (by decide))) s_X11_158 ⟨rfl, rfl, ⟨Nat.le_of_ble_eq_true rfl, Nat.le_of_ble_eq_true rfl⟩, ⟨Nat.le_of_ble_eq_true rfl, Nat.le_of_ble_eq_true rfl⟩⟩ hz_a0 hk_a0 (by decide) rfl rfl hl.1 rfl (Nat.le_of_ble_eq_true rfl) dX11_day_12) rfl rfl (fun x97 H locs M94 R95 J93 hS f91 g92 E96 => ?_)
    have eR95 := Fr.nil g92 rfl
    subst eR95
    have h_x97 := E96
    clear E96
    exact tw_endi hx hb hr hlocks hK hT hS hQ ((iv_mono h_x97 (by decide) (by decide))) dX11_day_15
def Lt_X11_end : WL := [(11, 1, 2)]
def LRt_X11_end : WL := []
set_option maxRecDepth 100000 in
set_option maxHeartbeats 4000000 in
theorem t_X11_end (l : Launch) (D : va_G) (cy : Nat → ClassId) (tx : (Nat → Nat) × (Nat → Nat)) (base Z : Nat) (K N : Nat → Nat) (Ma : MT) (Ra : RT) (Ja : JT) (hTy : Ty Z K N Ma Ra) (a0 : Nat) (hz_a0 : a0 < Z) (hk_a0 : K a0 = 11) (a1 : Int32) (h_a1 : iv (-2147483648) 2147483647 a1) : Met l yX11_end [Cond.code yX11_end cX11_end 2 (some .int)] (md_rm 1 0 0) (va_Pc [.ref (base + a0), .int a1] (md_U D cy tx base Z K N Ma Ra Ja)) (mQi D cy tx base (fun r u => TP Z K N Lt_X11_end LRt_X11_end Ma Ra u ∧ (iv (-1) 400 r))) 0 0 (fun q => base ≤ q) := by
  refine tw_ofW (L := Lt_X11_end) (LR := LRt_X11_end) (by decide) (Nat.le_of_ble_eq_true rfl) hTy ?_
  intro p e s m args below meth c Q ls hx hb hr hlocks hown hml hW hK hT hS hQ hl
  have hl : lv_has ls 2 [(0, .ref (base + a0)), (1, .int a1)] := hl
  refine lv_iload_n hx hb dX11_end_0 rfl (lv_at hl 1 rfl) ?_
  refine lv_if_lt (tgt := 12) hx hb dX11_end_1 (by decide) (fun c1 => ?_) (fun c1 => ?_)
  · have q2 : a1.toInt < 0 := ti_lt c1
    have h3 : iv (-2147483648) (-1) a1 := iv_ltL (y := 0) h_a1 (iv_c (c := 0) (n := 0) (by decide)) q2 (by decide)
    refine lv_iconst (v := (-1)) hx hb dX11_end_12 (by decide) ?_
    exact tw_endi hx hb hr hlocks hK hT hS hQ ((iv_mono (iv_c (c := (-1)) (n := (-1)) (by decide)) (by decide) (by decide))) dX11_end_13
  · have q4 : 0 ≤ a1.toInt := ti_nlt c1
    have h5 : iv 0 2147483647 a1 := iv_geL (y := 0) h_a1 (iv_c (c := 0) (n := 0) (by decide)) q4 (by decide)
    refine lv_iload_n hx hb dX11_end_4 rfl (lv_at hl 1 rfl) ?_
    refine lv_aload_n hx hb dX11_end_5 rfl (lv_at hl 0 rfl) ?_
    refine tw_geti hx hb hW hown hK hS f_X11_94_10 hz_a0 hk_a0 (lo := 0) (hi := 400) rfl dX11_end_6 (fun x8 k7 h6 => ?_)
    refine lv_icmp_le (tgt := 14) hx hb dX11_end_9 (by decide) (fun c9 => ?_) (fun c9 => ?_)
    · have q10 : a1.toInt ≤ x8.toInt := ti_le c9
      have h11 : iv 0 400 a1 := iv_leL (y := x8) h5 h6 q10 (by decide)
      refine lv_aload_n hx hb dX11_end_14 rfl (lv_at hl 0 rfl) ?_
      refine lv_iload_n hx hb dX11_end_15 rfl (lv_at hl 1 rfl) ?_
      refine tw_puti hx hb hW hown hK hS f_X11_94_10 hz_a0 hk_a0 rfl rfl (lo := 0) (hi := 400) rfl h11 rfl dX11_end_16 (fun H locs M14 hS k12 f13 => ?_)
      refine lv_iload_n hx hb dX11_end_19 rfl (lv_at hl 1 rfl) ?_
      exact tw_endi hx hb hr hlocks hK hT hS hQ ((iv_mono h11 (by decide) (by decide))) dX11_end_20
    · have q15 : x8.toInt < a1.toInt := ti_nle c9
      have h16 : iv 1 2147483647 a1 := iv_gtL (y := x8) h5 h6 q15 (by decide)
      refine lv_iconst (v := (-1)) hx hb dX11_end_12 (by decide) ?_
      exact tw_endi hx hb hr hlocks hK hT hS hQ ((iv_mono (iv_c (c := (-1)) (n := (-1)) (by decide)) (by decide) (by decide))) dX11_end_13
def Lt_X11_isSum : WL := []
def LRt_X11_isSum : WL := []
set_option maxRecDepth 100000 in
set_option maxHeartbeats 4000000 in
theorem t_X11_isSum (l : Launch) (D : va_G) (cy : Nat → ClassId) (tx : (Nat → Nat) × (Nat → Nat)) (base Z : Nat) (K N : Nat → Nat) (Ma : MT) (Ra : RT) (Ja : JT) (hTy : Ty Z K N Ma Ra) (a0 : Int32) (h_a0 : iv (-2147483648) 2147483647 a0) : Met l yX11_isSum [Cond.code yX11_isSum cX11_isSum 1 (some .boolean)] (md_rm 1 0 0) (va_Pc [.int a0] (md_U D cy tx base Z K N Ma Ra Ja)) (mQi D cy tx base (fun r u => TP Z K N Lt_X11_isSum LRt_X11_isSum Ma Ra u ∧ (iv 0 1 r ∧ (¬ r = 0 → iv 0 99999 a0)))) 0 0 (fun q => base ≤ q) := by
  refine tw_ofW (L := Lt_X11_isSum) (LR := LRt_X11_isSum) (by decide) (Nat.le_of_ble_eq_true rfl) hTy ?_
  intro p e s m args below meth c Q ls hx hb hr hlocks hown hml hW hK hT hS hQ hl
  have hl : lv_has ls 1 [(0, .int a0)] := hl
  refine lv_iload_n hx hb dX11_isSum_0 rfl (lv_at hl 0 rfl) ?_
  refine lv_if_lt (tgt := 15) hx hb dX11_isSum_1 (by decide) (fun c1 => ?_) (fun c1 => ?_)
  · have q2 : a0.toInt < 0 := ti_lt c1
    have h3 : iv (-2147483648) (-1) a0 := iv_ltL (y := 0) h_a0 (iv_c (c := 0) (n := 0) (by decide)) q2 (by decide)
    refine lv_iconst (v := 0) hx hb dX11_isSum_15 (by decide) ?_
    exact tw_endz hx hb hr hlocks hK hT hS hQ rfl (⟨(iv_mono (iv_c (c := 0) (n := 0) (by decide)) (by decide) (by decide)), (fun h => absurd rfl h)⟩) dX11_isSum_16
  · have q4 : 0 ≤ a0.toInt := ti_nlt c1
    have h5 : iv 0 2147483647 a0 := iv_geL (y := 0) h_a0 (iv_c (c := 0) (n := 0) (by decide)) q4 (by decide)
    refine lv_iload_n hx hb dX11_isSum_4 rfl (lv_at hl 0 rfl) ?_
    refine lv_ldcw hx hb hown (hW _ w_5_181 rfl) dX11_isSum_5 ?_
    refine lv_icmp_gt (tgt := 15) hx hb dX11_isSum_8 (by decide) (fun c6 => ?_) (fun c6 => ?_)
    · have q7 : 99999 < a0.toInt := ti_lt c6
      have h8 : iv 100000 2147483647 a0 := iv_gtL (y := 99999) h5 (iv_c (c := 99999) (n := 99999) (by decide)) q7 (by decide)
      refine lv_iconst (v := 0) hx hb dX11_isSum_15 (by decide) ?_
      exact tw_endz hx hb hr hlocks hK hT hS hQ rfl (⟨(iv_mono (iv_c (c := 0) (n := 0) (by decide)) (by decide) (by decide)), (fun h => absurd rfl h)⟩) dX11_isSum_16
    · have q9 : a0.toInt ≤ 99999 := ti_nlt c6
      have h10 : iv 0 99999 a0 := iv_leL (y := 99999) h5 (iv_c (c := 99999) (n := 99999) (by decide)) q9 (by decide)
      refine lv_iconst (v := 1) hx hb dX11_isSum_11 (by decide) ?_
      refine lv_goto (tgt := 16) hx hb dX11_isSum_12 (by decide) ?_
      exact tw_endz hx hb hr hlocks hK hT hS hQ rfl (⟨(iv_mono (iv_c (c := 1) (n := 1) (by decide)) (by decide) (by decide)), (fun _ => h10)⟩) dX11_isSum_16
def Lt_X9_write : WL := [(10, 8, 9), (14, 0, 2000000)]
def LRt_X9_write : WL := []
set_option maxRecDepth 100000 in
set_option maxHeartbeats 4000000 in
theorem t_X9_write (l : Launch) (D : va_G) (cy : Nat → ClassId) (tx : (Nat → Nat) × (Nat → Nat)) (base Z : Nat) (K N : Nat → Nat) (Ma : MT) (Ra : RT) (Ja : JT) (hTy : Ty Z K N Ma Ra) (a0 : Nat) (hz_a0 : a0 < Z) (hk_a0 : K a0 = 10) (a1 : Int32) (h_a1 : iv (-2147483648) 2147483647 a1) (a2 : Int32) (h_a2 : iv (-2147483648) 2147483647 a2) (a3 : Int32) (h_a3 : iv 0 99999 a3) (a4 : Int32) (h_a4 : iv 0 99999 a4) : Met l yX9_write [Cond.code yX9_write cX9_write 6 none] (md_rm 1 0 0) (va_Pc [.ref (base + a0), .int a1, .int a2, .int a3, .int a4] (md_U D cy tx base Z K N Ma Ra Ja)) (mQv D cy tx base (fun u => TP Z K N Lt_X9_write LRt_X9_write Ma Ra u ∧ (True))) 0 0 (fun q => base ≤ q) := by
  refine tw_ofW (L := Lt_X9_write) (LR := LRt_X9_write) (by decide) (Nat.le_of_ble_eq_true rfl) hTy ?_
  intro p e s m args below meth c Q ls hx hb hr hlocks hown hml hW hK hT hS hQ hl
  have hl : lv_has ls 6 [(0, .ref (base + a0)), (1, .int a1), (2, .int a2), (3, .int a3), (4, .int a4)] := hl
  refine lv_aload_n hx hb dX9_write_0 rfl (lv_at hl 0 rfl) ?_
  refine tw_geti hx hb hW hown hK hS f_X9_55_9 hz_a0 hk_a0 (lo := 0) (hi := 12) rfl dX9_write_1 (fun x3 k2 h1 => ?_)
  refine lv_iconst (v := 4) hx hb dX9_write_4 (by decide) ?_
  refine tw_imulc (k := 4) (lo := 0) (hi := 48) hx hb h1 (by decide) (by decide) ⟨by decide, by decide⟩ ⟨by decide, by decide⟩ dX9_write_5 (fun x6 e5 h4 => ?_)
  refine lv_istore (lv' := [(5, .int x6), (0, .ref (base + a0)), (1, .int a1), (2, .int a2), (3, .int a3), (4, .int a4)]) hx hb dX9_write_6 hl (by decide) rfl (fun ls hl => ?_)
  refine lv_iload hx hb dX9_write_8 (lv_at hl 0 rfl) ?_
  refine lv_iconst (v := 4) hx hb dX9_write_10 (by decide) ?_
  refine tw_iadd (lo := 4) (hi := 52) hx hb h4 (iv_c (c := 4) (n := 4) (by decide)) ⟨by decide, by decide⟩ ⟨by decide, by decide⟩ dX9_write_11 (fun x9 e8 h7 => ?_)
  have e8 : x9.toInt = x6.toInt + 4 := e8
  refine lv_aload_n hx hb dX9_write_12 rfl (lv_at hl 1 rfl) ?_
  refine tw_getr hx hb hW hown hK hS f_X9_30_9 hz_a0 hk_a0 (t := 14) (n := 48) rfl dX9_write_13 (fun b10 k11 hz_b10 hk_b10 hn_b10 => ?_)
  have hn_b10 := hn_b10 (by decide)
  refine tw_alenk hx hb hK hS hz_b10 hk_b10 (by decide) hn_b10 (v := 48) (by decide) dX9_write_16 ?_
  refine lv_icmp_gt (tgt := 69) hx hb dX9_write_17 (by decide) (fun c12 => ?_) (fun c12 => ?_)
  · have q13 : 48 < x9.toInt := ti_lt c12
    have h14 : iv 49 52 x9 := iv_gtL (y := 48) h7 (iv_c (c := 48) (n := 48) (by decide)) q13 (by decide)
    exact tw_endv hx hb hr hlocks hK hT hS hQ (trivial) dX9_write_69
  · have q15 : x9.toInt ≤ 48 := ti_nlt c12
    have h16 : iv 4 48 x9 := iv_leL (y := 48) h7 (iv_c (c := 48) (n := 48) (by decide)) q15 (by decide)
    refine lv_aload_n hx hb dX9_write_20 rfl (lv_at hl 1 rfl) ?_
    refine tw_getrk hx hb hW hown hK hS f_X9_30_9 hz_a0 hk_a0 (b := b10) k11 dX9_write_21 ?_
    refine lv_iload hx hb dX9_write_24 (lv_at hl 0 rfl) ?_
    refine lv_iload_n hx hb dX9_write_26 rfl (lv_at hl 2 rfl) ?_
    have h17 : iv 0 47 x6 := by
      have := (h_a1).1; have := (h_a1).2; have := (h_a2).1; have := (h_a2).2; have := (h_a3).1; have := (h_a3).2; have := (h_a4).1; have := (h_a4).2; have := (h1).1; have := (h1).2; have := (h4).1; have := (h4).2; have := (h16).1; have := (h16).2; exact ⟨by omega, by omega⟩
    refine tw_iast hx hb hK hS hz_b10 hk_b10 (Or.inl rfl) hn_b10 h17 ⟨by decide, by decide⟩ h_a1 (rg_s14 ⟨by decide, by decide⟩) (jl := 0) (jh := 1999999) ⟨by decide, by decide⟩ rfl dX9_write_27 (fun H locs M20 hS k18 f19 => ?_)
    refine lv_aload_n hx hb dX9_write_28 rfl (lv_at hl 1 rfl) ?_
    refine tw_getrk hx hb hW hown hK hS f_X9_30_9 hz_a0 hk_a0 (b := b10) k11 dX9_write_29 ?_
    refine lv_iload hx hb dX9_write_32 (lv_at hl 0 rfl) ?_
    refine lv_iconst (v := 1) hx hb dX9_write_34 (by decide) ?_
    refine tw_iadd (lo := 1) (hi := 48) hx hb h17 (iv_c (c := 1) (n := 1) (by decide)) ⟨by decide, by decide⟩ ⟨by decide, by decide⟩ dX9_write_35 (fun x23 e22 h21 => ?_)
    have e22 : x23.toInt = x6.toInt + 1 := e22
    refine lv_iload_n hx hb dX9_write_36 rfl (lv_at hl 3 rfl) ?_
    have h24 : iv 0 47 x23 := by
      have := (h_a1).1; have := (h_a1).2; have := (h_a2).1; have := (h_a2).2; have := (h_a3).1; have := (h_a3).2; have := (h_a4).1; have := (h_a4).2; have := (h21).1; have := (h21).2; have := (h1).1; have := (h1).2; have := (h17).1; have := (h17).2; have := (h16).1; have := (h16).2; exact ⟨by omega, by omega⟩
    refine tw_iast hx hb hK hS hz_b10 hk_b10 (Or.inl rfl) hn_b10 h24 ⟨by decide, by decide⟩ h_a2 (rg_s14 ⟨by decide, by decide⟩) (jl := 0) (jh := 1999999) ⟨by decide, by decide⟩ rfl dX9_write_37 (fun H locs M27 hS k25 f26 => ?_)
    refine lv_aload_n hx hb dX9_write_38 rfl (lv_at hl 1 rfl) ?_
    refine tw_getrk hx hb hW hown hK hS f_X9_30_9 hz_a0 hk_a0 (b := b10) k11 dX9_write_39 ?_
    refine lv_iload hx hb dX9_write_42 (lv_at hl 0 rfl) ?_
    refine lv_iconst (v := 2) hx hb dX9_write_44 (by decide) ?_
    refine tw_iadd (lo := 2) (hi := 49) hx hb h17 (iv_c (c := 2) (n := 2) (by decide)) ⟨by decide, by decide⟩ ⟨by decide, by decide⟩ dX9_write_45 (fun x30 e29 h28 => ?_)
    have e29 : x30.toInt = x6.toInt + 2 := e29
    refine lv_iload_n hx hb dX9_write_46 rfl (lv_at hl 4 rfl) ?_
    have h31 : iv 0 47 x30 := by
      have := (h_a1).1; have := (h_a1).2; have := (h_a2).1; have := (h_a2).2; have := (h_a3).1; have := (h_a3).2; have := (h_a4).1; have := (h_a4).2; have := (h24).1; have := (h24).2; have := (h1).1; have := (h1).2; have := (h28).1; have := (h28).2; have := (h17).1; have := (h17).2; have := (h16).1; have := (h16).2; exact ⟨by omega, by omega⟩
    refine tw_iast hx hb hK hS hz_b10 hk_b10 (Or.inl rfl) hn_b10 h31 ⟨by decide, by decide⟩ h_a3 (rg_s14 ⟨by decide, by decide⟩) (jl := 0) (jh := 1999999) ⟨by decide, by decide⟩ rfl dX9_write_47 (fun H locs M34 hS k32 f33 => ?_)
    refine lv_aload_n hx hb dX9_write_48 rfl (lv_at hl 1 rfl) ?_
    refine tw_getrk hx hb hW hown hK hS f_X9_30_9 hz_a0 hk_a0 (b := b10) k11 dX9_write_49 ?_
    refine lv_iload hx hb dX9_write_52 (lv_at hl 0 rfl) ?_
    refine lv_iconst (v := 3) hx hb dX9_write_54 (by decide) ?_
    refine tw_iadd (lo := 3) (hi := 50) hx hb h17 (iv_c (c := 3) (n := 3) (by decide)) ⟨by decide, by decide⟩ ⟨by decide, by decide⟩ dX9_write_55 (fun x37 e36 h35 => ?_)
    have e36 : x37.toInt = x6.toInt + 3 := e36
    refine lv_iload hx hb dX9_write_56 (lv_at hl 5 rfl) ?_
    have h38 : iv 0 47 x37 := by
      have := (h_a1).1; have := (h_a1).2; have := (h_a2).1; have := (h_a2).2; have := (h_a3).1; have := (h_a3).2; have := (h_a4).1; have := (h_a4).2; have := (h24).1; have := (h24).2; have := (h1).1; have := (h1).2; have := (h31).1; have := (h31).2; have := (h35).1; have := (h35).2; have := (h17).1; have := (h17).2; have := (h16).1; have := (h16).2; exact ⟨by omega, by omega⟩
    refine tw_iast hx hb hK hS hz_b10 hk_b10 (Or.inl rfl) hn_b10 h38 ⟨by decide, by decide⟩ h_a4 (rg_s14 ⟨by decide, by decide⟩) (jl := 0) (jh := 1999999) ⟨by decide, by decide⟩ rfl dX9_write_58 (fun H locs M41 hS k39 f40 => ?_)
    refine lv_aload_n hx hb dX9_write_59 rfl (lv_at hl 1 rfl) ?_
    refine lv_dup hx hb dX9_write_60 rfl ?_
    have k42 : M41 a0 8 = x3 := ((Fr.kp (k := 8) f40 hk_a0 rfl).trans ((Fr.kp (k := 8) f33 hk_a0 rfl).trans ((Fr.kp (k := 8) f26 hk_a0 rfl).trans (Fr.kp (k := 8) f19 hk_a0 rfl)))).trans k2
    refine tw_getk hx hb hW hown hK hS f_X9_55_9 hz_a0 hk_a0 (v := x3) k42 dX9_write_61 ?_
    refine lv_iconst (v := 1) hx hb dX9_write_64 (by decide) ?_
    refine tw_iadd (lo := 1) (hi := 13) hx hb h1 (iv_c (c := 1) (n := 1) (by decide)) ⟨by decide, by decide⟩ ⟨by decide, by decide⟩ dX9_write_65 (fun x45 e44 h43 => ?_)
    have e44 : x45.toInt = x3.toInt + 1 := e44
    have h48 : iv 0 12 x45 := by
      have := (h_a1).1; have := (h_a1).2; have := (h_a2).1; have := (h_a2).2; have := (h_a3).1; have := (h_a3).2; have := (h_a4).1; have := (h_a4).2; have := (h1).1; have := (h1).2; have := (h43).1; have := (h43).2; have := (h17).1; have := (h17).2; exact ⟨by omega, by omega⟩
    refine tw_puti hx hb hW hown hK hS f_X9_55_9 hz_a0 hk_a0 rfl rfl (lo := 0) (hi := 12) rfl h48 rfl dX9_write_66 (fun H locs M49 hS k46 f47 => ?_)
    exact tw_endv hx hb hr hlocks hK hT hS hQ (trivial) dX9_write_69
