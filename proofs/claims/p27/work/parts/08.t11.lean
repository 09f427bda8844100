def Lt_X12_settles_ : WL := [(12, 28, 29), (14, 0, 2000000), (30, 0, 2000000)]
def LRt_X12_settles_ : WL := []
set_option maxRecDepth 100000 in
set_option maxHeartbeats 4000000 in
theorem t_X12_settles_ (l : Launch) (D : va_G) (cy : Nat → ClassId) (tx : (Nat → Nat) × (Nat → Nat)) (base Z : Nat) (K N : Nat → Nat) (Ma : MT) (Ra : RT) (Ja : JT) (hTy : Ty Z K N Ma Ra) (a0 : Nat) (hz_a0 : a0 < Z) (hk_a0 : K a0 = 12) : Met l yX12_settles_ [Cond.code yX12_settles_ cX12_settles_ 3 (some .int)] (md_rm 4 0 0) (va_Pc [.ref (base + a0)] (md_U D cy tx base Z K N Ma Ra Ja)) (mQi D cy tx base (fun r u => TP Z K N Lt_X12_settles_ LRt_X12_settles_ Ma Ra u ∧ (iv 0 2 r))) 0 0 (fun q => base ≤ q) := by
  refine tw_ofW (L := Lt_X12_settles_) (LR := LRt_X12_settles_) (by decide) (Nat.le_of_ble_eq_true rfl) hTy ?_
  intro p e s m args below meth c Q ls hx hb hr hlocks hown hml hW hK hT hS hQ hl
  have hl : lv_has ls 3 [(0, .ref (base + a0))] := hl
  refine lv_aload_n hx hb dX12_settles__0 rfl (lv_at hl 0 rfl) ?_
  refine tw_goi hS (md_runV (As := []) (rest := []) hx hb hml hown hW hK hT hS.1 (t_X12_result l D cy tx base Z K N Ma Ra Ja hS.2.1 a0 hz_a0 hk_a0) s_X12_383 ⟨rfl, rfl, ⟨Nat.le_of_ble_eq_true rfl, Nat.le_of_ble_eq_true rfl⟩, ⟨Nat.le_of_ble_eq_true rfl, Nat.le_of_ble_eq_true rfl⟩⟩ hz_a0 hk_a0 (by decide) rfl rfl hl.1 rfl (Nat.le_of_ble_eq_true rfl) dX12_settles__1) rfl rfl (fun x7 H locs M4 R5 J3 hS f1 g2 E6 => ?_)
  have eM4 := Fr.nil f1 rfl
  subst eM4
  have eR5 := Fr.nil g2 rfl
  subst eR5
  have h_x7 := E6
  clear E6
  refine lv_istore_n (lv' := [(1, .int x7), (0, .ref (base + a0))]) hx hb dX12_settles__4 rfl hl (by decide) rfl (fun ls hl => ?_)
  refine lv_iconst (v := 0) hx hb dX12_settles__5 (by decide) ?_
  refine lv_istore_n (lv' := [(2, .int 0), (1, .int x7), (0, .ref (base + a0))]) hx hb dX12_settles__6 rfl hl (by decide) rfl (fun ls hl => ?_)
  have W7_9 : ∀ (n_9 : Nat) (x8 : Int32) (M9 : MT) (R10 : RT) (J11 : JT) (H : Heap) (locs : List Loc) (ls : Array Slot) (h_x8 : iv 0 10 x8) (hm_9 : 10 - x8.toInt < (n_9 : Int)) (hS : SB D cy base Z K N Lt_X12_settles_ LRt_X12_settles_ Ma Ra M9 R10 J11 s H locs) (hl : lv_has ls 3 [(2, .int x8), (1, .int x7), (0, .ref (base + a0))]), W p l e (md_rm 4 0 0) s m args below meth c H locs 0 0 Q (F0 m 7 ls []) := by
    intro n_9
    induction n_9 with
    | zero =>
      intro x8 M9 R10 J11 H locs ls h_x8 hm_9 hS hl
      exfalso
      have := (h_x8).1; have := (h_x8).2; omega
    | succ n_9 ih_9 =>
      intro x8 M9 R10 J11 H locs ls h_x8 hm_9 hS hl
      have f12 := hS.2.2.1
      have g13 := hS.2.2.2
      refine lv_iload_n hx hb dX12_settles__7 rfl (lv_at hl 0 rfl) ?_
      refine lv_aload_n hx hb dX12_settles__8 rfl (lv_at hl 2 rfl) ?_
      refine tw_getr hx hb hW hown hK hS f_X12_45_11 hz_a0 hk_a0 (t := 23) (n := 226) rfl dX12_settles__9 (fun b14 k15 hz_b14 hk_b14 hn_b14 => ?_)
      have hn_b14 := hn_b14 (by decide)
      refine lv_iconst (v := 0) hx hb dX12_settles__12 (by decide) ?_
      refine tw_iald hx hb hK hS hz_b14 hk_b14 (Or.inr (by decide)) hn_b14 (lo := 0) (hi := 10) (iv_c (c := 0) (n := 0) (by decide)) ⟨by decide, by decide⟩ (rg_c (k0 := 0) rfl rfl rfl) dX12_settles__13 (fun x18 k17 h16 => ?_)
      refine lv_icmp_ge (tgt := 74) hx hb dX12_settles__14 (by decide) (fun c19 => ?_) (fun c19 => ?_)
      · have q20 : x18.toInt ≤ x8.toInt := ti_le c19
        refine lv_aload_n hx hb dX12_settles__74 rfl (lv_at hl 2 rfl) ?_
        refine lv_dup hx hb dX12_settles__75 rfl ?_
        refine tw_geti hx hb hW hown hK hS f_X12_348_11 hz_a0 hk_a0 (lo := (-2147483648)) (hi := 2147483647) rfl dX12_settles__76 (fun x23 k22 h21 => ?_)
        refine lv_iconst (v := 1) hx hb dX12_settles__79 (by decide) ?_
        refine lv_iadd hx hb dX12_settles__80 ?_
        refine tw_top (fun x25 => ?_)
        have h24 := iv_any x25
        refine tw_puti hx hb hW hown hK hS f_X12_348_11 hz_a0 hk_a0 rfl rfl (lo := (-2147483648)) (hi := 2147483647) rfl h24 rfl dX12_settles__81 (fun H locs M28 hS k26 f27 => ?_)
        refine lv_iload_n hx hb dX12_settles__84 rfl (lv_at hl 1 rfl) ?_
        exact tw_endi hx hb hr hlocks hK hT hS hQ (h_x7) dX12_settles__85
      · have q29 : x8.toInt < x18.toInt := ti_nle c19
        have h30 : iv 0 9 x8 := iv_ltL (y := x18) h_x8 h16 q29 (by decide)
        have h31 : iv 1 10 x18 := iv_gtL (y := x8) h16 h_x8 q29 (by decide)
        refine lv_aload_n hx hb dX12_settles__17 rfl (lv_at hl 2 rfl) ?_
        refine tw_geti hx hb hW hown hK hS f_X12_364_11 hz_a0 hk_a0 (lo := (-2147483648)) (hi := 2147483647) rfl dX12_settles__18 (fun x34 k33 h32 => ?_)
        refine lv_iload_n hx hb dX12_settles__21 rfl (lv_at hl 0 rfl) ?_
        refine tw_goi hS (md_runS (As := [.int x34, .int x8]) (rest := []) hx hb hml hown hW hK hT hS.1 (t_X12_isOf l D cy tx base Z K N M9 R10 J11 hS.2.1 x34 h32 x8 h30) s_X12_322 ⟨rfl, rfl, ⟨Nat.le_of_ble_eq_true rfl, Nat.le_of_ble_eq_true rfl⟩, ⟨Nat.le_of_ble_eq_true rfl, Nat.le_of_ble_eq_true rfl⟩⟩ rfl hl.1 rfl (Nat.le_of_ble_eq_true rfl) dX12_settles__22) rfl rfl (fun x41 H locs M38 R39 J37 hS f35 g36 E40 => ?_)
        have eM38 := Fr.nil f35 rfl
        subst eM38
        have eR39 := Fr.nil g36 rfl
        subst eR39
        have h_x41 := E40
        clear E40
        have J43_42 : ∀  (M42 : MT) (R43 : RT) (J44 : JT) (H : Heap) (locs : List Loc) (ls : Array Slot) (hS : SB D cy base Z K N Lt_X12_settles_ LRt_X12_settles_ Ma Ra M42 R43 J44 s H locs) (hl : lv_has ls 3 [(2, .int x8), (1, .int x7), (0, .ref (base + a0))]), W p l e (md_rm 4 0 0) s m args below meth c H locs 0 0 Q (F0 m 43 ls []) := by
          intro  M42 R43 J44 H locs ls  hS hl
          have f45 := hS.2.2.1
          have g46 := hS.2.2.2
          refine lv_aload_n hx hb dX12_settles__43 rfl (lv_at hl 2 rfl) ?_
          refine tw_geti hx hb hW hown hK hS f_X12_367_11 hz_a0 hk_a0 (lo := (-2147483648)) (hi := 2147483647) rfl dX12_settles__44 (fun x49 k48 h47 => ?_)
          refine lv_iload_n hx hb dX12_settles__47 rfl (lv_at hl 0 rfl) ?_
          refine tw_goi hS (md_runS (As := [.int x49, .int x8]) (rest := []) hx hb hml hown hW hK hT hS.1 (t_X12_isOf l D cy tx base Z K N M42 R43 J44 hS.2.1 x49 h47 x8 h30) s_X12_322 ⟨rfl, rfl, ⟨Nat.le_of_ble_eq_true rfl, Nat.le_of_ble_eq_true rfl⟩, ⟨Nat.le_of_ble_eq_true rfl, Nat.le_of_ble_eq_true rfl⟩⟩ rfl hl.1 rfl (Nat.le_of_ble_eq_true rfl) dX12_settles__48) rfl rfl (fun x56 H locs M53 R54 J52 hS f50 g51 E55 => ?_)
          have eM53 := Fr.nil f50 rfl
          subst eM53
          have eR54 := Fr.nil g51 rfl
          subst eR54
          have h_x56 := E55
          clear E55
          refine lv_if_eq (tgt := 68) hx hb dX12_settles__51 (by decide) (fun c57 => ?_) (fun c57 => ?_)
          · have q58 : x56.toInt = 0 := ti_eq c57
            have h59 : iv 0 0 x56 := ⟨by have := (h_x56).1; have := ((iv_c (c := 0) (n := 0) (by decide))).1; omega, by have := (h_x56).2; have := ((iv_c (c := 0) (n := 0) (by decide))).2; omega⟩
            refine tw_iinc (lv' := fun x62 => [(2, .int x62), (1, .int x7), (0, .ref (base + a0))]) (lo := 1) (hi := 10) hx hb dX12_settles__68 hl (k := 0) rfl h30 (by decide) ⟨by decide, by decide⟩ ⟨by decide, by decide⟩ (by decide) (fun _ => rfl) (fun x62 ls e61 h60 hl => ?_)
            refine lv_goto (tgt := 7) hx hb dX12_settles__71 (by decide) ?_
            have hm63 : 10 - x62.toInt < (n_9 : Int) := by
              have := (h60).1; have := (h60).2; have := (h30).1; have := (h30).2; omega
            exact ih_9 x62 M42 R43 J52 H locs _ (iv_mono h60 (by decide) (by decide)) hm63 hS hl
          · have q64 : ¬ x56.toInt = 0 := ti_ne c57
            have h65 : iv 1 1 x56 := ⟨by have := (h_x56).1; have := ((iv_c (c := 0) (n := 0) (by decide))).1; have := ((iv_c (c := 0) (n := 0) (by decide))).2; omega, by have := (h_x56).2; have := ((iv_c (c := 0) (n := 0) (by decide))).1; have := ((iv_c (c := 0) (n := 0) (by decide))).2; omega⟩
            refine lv_aload_n hx hb dX12_settles__54 rfl (lv_at hl 2 rfl) ?_
            refine lv_iload_n hx hb dX12_settles__55 rfl (lv_at hl 0 rfl) ?_
            refine lv_iload_n hx hb dX12_settles__56 rfl (lv_at hl 1 rfl) ?_
            refine lv_if_ne (tgt := 64) hx hb dX12_settles__57 (by decide) (fun c66 => ?_) (fun c66 => ?_)
            · have q67 : ¬ x7.toInt = 0 := ti_ne c66
              have h68 : iv 1 2 x7 := ⟨by have := (h_x7).1; have := ((iv_c (c := 0) (n := 0) (by decide))).1; have := ((iv_c (c := 0) (n := 0) (by decide))).2; omega, by have := (h_x7).2; have := ((iv_c (c := 0) (n := 0) (by decide))).1; have := ((iv_c (c := 0) (n := 0) (by decide))).2; omega⟩
              refine lv_iconst (v := 0) hx hb dX12_settles__64 (by decide) ?_
              refine tw_gov hS (md_runV (As := [.int x8, .int 0]) (rest := []) hx hb hml hown hW hK hT hS.1 (t_X12_grows l D cy tx base Z K N M42 R43 J52 hS.2.1 a0 hz_a0 hk_a0 x8 h30 0 (iv_mono (iv_c (c := 0) (n := 0) (by decide)) (by decide) (by decide))) s_X12_386 ⟨rfl, rfl, ⟨Nat.le_of_ble_eq_true rfl, Nat.le_of_ble_eq_true rfl⟩, ⟨Nat.le_of_ble_eq_true rfl, Nat.le_of_ble_eq_true rfl⟩⟩ hz_a0 hk_a0 (by decide) rfl rfl hl.1 rfl (Nat.le_of_ble_eq_true rfl) dX12_settles__65) rfl rfl (fun H locs M72 R73 J71 hS f69 g70 E74 => ?_)
              have eR73 := Fr.nil g70 rfl
              subst eR73
              refine tw_iinc (lv' := fun x77 => [(2, .int x77), (1, .int x7), (0, .ref (base + a0))]) (lo := 1) (hi := 10) hx hb dX12_settles__68 hl (k := 0) rfl h30 (by decide) ⟨by decide, by decide⟩ ⟨by decide, by decide⟩ (by decide) (fun _ => rfl) (fun x77 ls e76 h75 hl => ?_)
              refine lv_goto (tgt := 7) hx hb dX12_settles__71 (by decide) ?_
              have hm78 : 10 - x77.toInt < (n_9 : Int) := by
                have := (h75).1; have := (h75).2; have := (h30).1; have := (h30).2; omega
              exact ih_9 x77 M72 R43 J71 H locs _ (iv_mono h75 (by decide) (by decide)) hm78 hS hl
            · have q79 : x7.toInt = 0 := ti_eq c66
              have h80 : iv 0 0 x7 := ⟨by have := (h_x7).1; have := ((iv_c (c := 0) (n := 0) (by decide))).1; omega, by have := (h_x7).2; have := ((iv_c (c := 0) (n := 0) (by decide))).2; omega⟩
              refine lv_iconst (v := 1) hx hb dX12_settles__60 (by decide) ?_
              refine lv_goto (tgt := 65) hx hb dX12_settles__61 (by decide) ?_
              refine tw_gov hS (md_runV (As := [.int x8, .int 1]) (rest := []) hx hb hml hown hW hK hT hS.1 (t_X12_grows l D cy tx base Z K N M42 R43 J52 hS.2.1 a0 hz_a0 hk_a0 x8 h30 1 (iv_mono (iv_c (c := 1) (n := 1) (by decide)) (by decide) (by decide))) s_X12_386 ⟨rfl, rfl, ⟨Nat.le_of_ble_eq_true rfl, Nat.le_of_ble_eq_true rfl⟩, ⟨Nat.le_of_ble_eq_true rfl, Nat.le_of_ble_eq_true rfl⟩⟩ hz_a0 hk_a0 (by decide) rfl rfl hl.1 rfl (Nat.le_of_ble_eq_true rfl) dX12_settles__65) rfl rfl (fun H locs M84 R85 J83 hS f81 g82 E86 => ?_)
              have eR85 := Fr.nil g82 rfl
              subst eR85
              refine tw_iinc (lv' := fun x89 => [(2, .int x89), (1, .int x7), (0, .ref (base + a0))]) (lo := 1) (hi := 10) hx hb dX12_settles__68 hl (k := 0) rfl h30 (by decide) ⟨by decide, by decide⟩ ⟨by decide, by decide⟩ (by decide) (fun _ => rfl) (fun x89 ls e88 h87 hl => ?_)
              refine lv_goto (tgt := 7) hx hb dX12_settles__71 (by decide) ?_
              have hm90 : 10 - x89.toInt < (n_9 : Int) := by
                have := (h30).1; have := (h30).2; have := (h87).1; have := (h87).2; omega
              exact ih_9 x89 M84 R43 J83 H locs _ (iv_mono h87 (by decide) (by decide)) hm90 hS hl
        refine lv_if_eq (tgt := 43) hx hb dX12_settles__25 (by decide) (fun c91 => ?_) (fun c91 => ?_)
        · have q92 : x41.toInt = 0 := ti_eq c91
          have h93 : iv 0 0 x41 := ⟨by have := (h_x41).1; have := ((iv_c (c := 0) (n := 0) (by decide))).1; omega, by have := (h_x41).2; have := ((iv_c (c := 0) (n := 0) (by decide))).2; omega⟩
          exact J43_42  M9 R10 J37 H locs _  hS hl
        · have q94 : ¬ x41.toInt = 0 := ti_ne c91
          have h95 : iv 1 1 x41 := ⟨by have := (h_x41).1; have := ((iv_c (c := 0) (n := 0) (by decide))).1; have := ((iv_c (c := 0) (n := 0) (by decide))).2; omega, by have := (h_x41).2; have := ((iv_c (c := 0) (n := 0) (by decide))).1; have := ((iv_c (c := 0) (n := 0) (by decide))).2; omega⟩
          refine lv_aload_n hx hb dX12_settles__28 rfl (lv_at hl 2 rfl) ?_
          refine lv_iload_n hx hb dX12_settles__29 rfl (lv_at hl 0 rfl) ?_
          refine lv_iload_n hx hb dX12_settles__30 rfl (lv_at hl 1 rfl) ?_
          refine lv_iconst (v := 1) hx hb dX12_settles__31 (by decide) ?_
          refine lv_icmp_ne (tgt := 39) hx hb dX12_settles__32 (by decide) (fun c96 => ?_) (fun c96 => ?_)
          · have q97 : ¬ x7.toInt = 1 := ti_ne c96
            refine lv_iconst (v := 0) hx hb dX12_settles__39 (by decide) ?_
            refine tw_gov hS (md_runV (As := [.int x8, .int 0]) (rest := []) hx hb hml hown hW hK hT hS.1 (t_X12_grows l D cy tx base Z K N M9 R10 J37 hS.2.1 a0 hz_a0 hk_a0 x8 h30 0 (iv_mono (iv_c (c := 0) (n := 0) (by decide)) (by decide) (by decide))) s_X12_386 ⟨rfl, rfl, ⟨Nat.le_of_ble_eq_true rfl, Nat.le_of_ble_eq_true rfl⟩, ⟨Nat.le_of_ble_eq_true rfl, Nat.le_of_ble_eq_true rfl⟩⟩ hz_a0 hk_a0 (by decide) rfl rfl hl.1 rfl (Nat.le_of_ble_eq_true rfl) dX12_settles__40) rfl rfl (fun H locs M101 R102 J100 hS f98 g99 E103 => ?_)
            have eR102 := Fr.nil g99 rfl
            subst eR102
            exact J43_42  M101 R10 J100 H locs _  hS hl
          · have q104 : x7.toInt = 1 := ti_eq c96
            have h105 : iv 1 1 x7 := ⟨by have := (h_x7).1; have := ((iv_c (c := 1) (n := 1) (by decide))).1; omega, by have := (h_x7).2; have := ((iv_c (c := 1) (n := 1) (by decide))).2; omega⟩
            refine lv_iconst (v := 1) hx hb dX12_settles__35 (by decide) ?_
            refine lv_goto (tgt := 40) hx hb dX12_settles__36 (by decide) ?_
            refine tw_gov hS (md_runV (As := [.int x8, .int 1]) (rest := []) hx hb hml hown hW hK hT hS.1 (t_X12_grows l D cy tx base Z K N M9 R10 J37 hS.2.1 a0 hz_a0 hk_a0 x8 h30 1 (iv_mono (iv_c (c := 1) (n := 1) (by decide)) (by decide) (by decide))) s_X12_386 ⟨rfl, rfl, ⟨Nat.le_of_ble_eq_true rfl, Nat.le_of_ble_eq_true rfl⟩, ⟨Nat.le_of_ble_eq_true rfl, Nat.le_of_ble_eq_true rfl⟩⟩ hz_a0 hk_a0 (by decide) rfl rfl hl.1 rfl (Nat.le_of_ble_eq_true rfl) dX12_settles__40) rfl rfl (fun H locs M109 R110 J108 hS f106 g107 E111 => ?_)
            have eR110 := Fr.nil g107 rfl
            subst eR110
            exact J43_42  M109 R10 J108 H locs _  hS hl
  have hm112 : 10 - (0 : Int32).toInt < (((11 : Nat) : Int) : Int) := by
    have : (0 : Int32).toInt = 0 := (by decide); omega
  exact W7_9 11 0 Ma Ra J3 H locs _ (iv_mono (iv_c (c := 0) (n := 0) (by decide)) (by decide) (by decide)) hm112 hS hl
def Lt_X12_stays : WL := [(23, 3, 4), (23, 10, 20), (23, 30, 50)]
def LRt_X12_stays : WL := []
set_option maxRecDepth 100000 in
set_option maxHeartbeats 4000000 in
theorem t_X12_stays (l : Launch) (D : va_G) (cy : Nat → ClassId) (tx : (Nat → Nat) × (Nat → Nat)) (base Z : Nat) (K N : Nat → Nat) (Ma : MT) (Ra : RT) (Ja : JT) (hTy : Ty Z K N Ma Ra) (a0 : Nat) (hz_a0 : a0 < Z) (hk_a0 : K a0 = 12) : Met l yX12_stays [Cond.code yX12_stays cX12_stays 2 none] (md_rm 1 0 0) (va_Pc [.ref (base + a0)] (md_U D cy tx base Z K N Ma Ra Ja)) (mQv D cy tx base (fun u => TP Z K N Lt_X12_stays LRt_X12_stays Ma Ra u ∧ (True))) 0 0 (fun q => base ≤ q) := by
  refine tw_ofW (L := Lt_X12_stays) (LR := LRt_X12_stays) (by decide) (Nat.le_of_ble_eq_true rfl) hTy ?_
  intro p e s m args below meth c Q ls hx hb hr hlocks hown hml hW hK hT hS hQ hl
  have hl : lv_has ls 2 [(0, .ref (base + a0))] := hl
  refine lv_iconst (v := 0) hx hb dX12_stays_0 (by decide) ?_
  refine lv_istore_n (lv' := [(1, .int 0), (0, .ref (base + a0))]) hx hb dX12_stays_1 rfl hl (by decide) rfl (fun ls hl => ?_)
  have W2_2 : ∀ (n_2 : Nat) (x1 : Int32) (M2 : MT) (R3 : RT) (J4 : JT) (H : Heap) (locs : List Loc) (ls : Array Slot) (h_x1 : iv 0 10 x1) (hm_2 : 10 - x1.toInt < (n_2 : Int)) (hS : SB D cy base Z K N Lt_X12_stays LRt_X12_stays Ma Ra M2 R3 J4 s H locs) (hl : lv_has ls 2 [(1, .int x1), (0, .ref (base + a0))]), W p l e (md_rm 1 0 0) s m args below meth c H locs 0 0 Q (F0 m 2 ls []) := by
    intro n_2
    induction n_2 with
    | zero =>
      intro x1 M2 R3 J4 H locs ls h_x1 hm_2 hS hl
      exfalso
      have := (h_x1).1; have := (h_x1).2; omega
    | succ n_2 ih_2 =>
      intro x1 M2 R3 J4 H locs ls h_x1 hm_2 hS hl
      have f5 := hS.2.2.1
      have g6 := hS.2.2.2
      refine lv_iload_n hx hb dX12_stays_2 rfl (lv_at hl 0 rfl) ?_
      refine lv_bipush (v := 10) hx hb dX12_stays_3 (by decide) ?_
      refine lv_icmp_ge (tgt := 65) hx hb dX12_stays_5 (by decide) (fun c7 => ?_) (fun c7 => ?_)
      · have q8 : 10 ≤ x1.toInt := ti_le c7
        have h9 : iv 10 10 x1 := iv_geL (y := 10) h_x1 (iv_c (c := 10) (n := 10) (by decide)) q8 (by decide)
        refine lv_aload_n hx hb dX12_stays_65 rfl (lv_at hl 1 rfl) ?_
        refine tw_getr hx hb hW hown hK hS f_X12_45_11 hz_a0 hk_a0 (t := 23) (n := 226) rfl dX12_stays_66 (fun b10 k11 hz_b10 hk_b10 hn_b10 => ?_)
        have hn_b10 := hn_b10 (by decide)
        refine lv_iconst (v := 3) hx hb dX12_stays_69 (by decide) ?_
        refine lv_aload_n hx hb dX12_stays_70 rfl (lv_at hl 1 rfl) ?_
        refine tw_geti hx hb hW hown hK hS f_X12_348_11 hz_a0 hk_a0 (lo := (-2147483648)) (hi := 2147483647) rfl dX12_stays_71 (fun x14 k13 h12 => ?_)
        refine tw_iast hx hb hK hS hz_b10 hk_b10 (Or.inr (by decide)) hn_b10 (iv_c (c := 3) (n := 3) (by decide)) ⟨by decide, by decide⟩ h12 (rg_cs (k0 := 3) rfl rfl rfl ⟨by decide, by decide⟩) (jl := 3) (jh := 3) ⟨by decide, by decide⟩ rfl dX12_stays_74 (fun H locs M17 hS k15 f16 => ?_)
        exact tw_endv hx hb hr hlocks hK hT hS hQ (trivial) dX12_stays_75
      · have q18 : x1.toInt < 10 := ti_nle c7
        have h19 : iv 0 9 x1 := iv_ltL (y := 10) h_x1 (iv_c (c := 10) (n := 10) (by decide)) q18 (by decide)
        refine lv_aload_n hx hb dX12_stays_8 rfl (lv_at hl 1 rfl) ?_
        refine tw_getr hx hb hW hown hK hS f_X12_45_11 hz_a0 hk_a0 (t := 23) (n := 226) rfl dX12_stays_9 (fun b20 k21 hz_b20 hk_b20 hn_b20 => ?_)
        have hn_b20 := hn_b20 (by decide)
        refine lv_bipush (v := 10) hx hb dX12_stays_12 (by decide) ?_
        refine lv_iload_n hx hb dX12_stays_14 rfl (lv_at hl 0 rfl) ?_
        refine tw_iadd (lo := 10) (hi := 19) hx hb (iv_c (c := 10) (n := 10) (by decide)) h19 ⟨by decide, by decide⟩ ⟨by decide, by decide⟩ dX12_stays_15 (fun x24 e23 h22 => ?_)
        have e23 : x24.toInt = 10 + x1.toInt := e23
        refine lv_aload_n hx hb dX12_stays_16 rfl (lv_at hl 1 rfl) ?_
        refine tw_getr hx hb hW hown hK hS f_X12_51_11 hz_a0 hk_a0 (t := 30) (n := 10) rfl dX12_stays_17 (fun b25 k26 hz_b25 hk_b25 hn_b25 => ?_)
        have hn_b25 := hn_b25 (by decide)
        refine lv_iload_n hx hb dX12_stays_20 rfl (lv_at hl 0 rfl) ?_
        refine tw_iald hx hb hK hS hz_b25 hk_b25 (Or.inr (by decide)) hn_b25 (lo := 0) (hi := 9999) h19 ⟨by decide, by decide⟩ rg_u30 dX12_stays_21 (fun x29 k28 h27 => ?_)
        refine tw_iast hx hb hK hS hz_b20 hk_b20 (Or.inr (by decide)) hn_b20 h22 ⟨by decide, by decide⟩ h27 (rg_svs ⟨by decide, by decide⟩ ⟨by decide, by decide⟩) (jl := 10) (jh := 19) ⟨by decide, by decide⟩ rfl dX12_stays_22 (fun H locs M32 hS k30 f31 => ?_)
        refine lv_aload_n hx hb dX12_stays_23 rfl (lv_at hl 1 rfl) ?_
        refine tw_getrk hx hb hW hown hK hS f_X12_45_11 hz_a0 hk_a0 (b := b20) k21 dX12_stays_24 ?_
        refine lv_bipush (v := 30) hx hb dX12_stays_27 (by decide) ?_
        refine lv_iload_n hx hb dX12_stays_29 rfl (lv_at hl 0 rfl) ?_
        refine tw_iadd (lo := 30) (hi := 39) hx hb (iv_c (c := 30) (n := 30) (by decide)) h19 ⟨by decide, by decide⟩ ⟨by decide, by decide⟩ dX12_stays_30 (fun x35 e34 h33 => ?_)
        have e34 : x35.toInt = 30 + x1.toInt := e34
        refine lv_dup2_11 hx hb dX12_stays_31 rfl rfl ?_
        refine tw_iald hx hb hK hS hz_b20 hk_b20 (Or.inr (by decide)) hn_b20 (lo := (-2147483648)) (hi := 2147483647) h33 ⟨by decide, by decide⟩ rg_full dX12_stays_32 (fun x38 k37 h36 => ?_)
        refine lv_aload_n hx hb dX12_stays_33 rfl (lv_at hl 1 rfl) ?_
        refine tw_getr hx hb hW hown hK hS f_X12_57_11 hz_a0 hk_a0 (t := 14) (n := 10) rfl dX12_stays_34 (fun b39 k40 hz_b39 hk_b39 hn_b39 => ?_)
        have hn_b39 := hn_b39 (by decide)
        refine lv_iload_n hx hb dX12_stays_37 rfl (lv_at hl 0 rfl) ?_
        refine tw_iald hx hb hK hS hz_b39 hk_b39 (Or.inl rfl) hn_b39 (lo := (-2147483648)) (hi := 2147483647) h19 ⟨by decide, by decide⟩ rg_u14 dX12_stays_38 (fun x43 k42 h41 => ?_)
        refine lv_iadd hx hb dX12_stays_39 ?_
        refine tw_top (fun x45 => ?_)
        have h44 := iv_any x45
        refine tw_iast hx hb hK hS hz_b20 hk_b20 (Or.inr (by decide)) hn_b20 h33 ⟨by decide, by decide⟩ h44 (rg_sas (Or.inl ⟨by decide, by decide⟩) ⟨by decide, by decide⟩) (jl := 30) (jh := 39) ⟨by decide, by decide⟩ rfl dX12_stays_40 (fun H locs M48 hS k46 f47 => ?_)
        refine lv_aload_n hx hb dX12_stays_41 rfl (lv_at hl 1 rfl) ?_
        refine tw_getrk hx hb hW hown hK hS f_X12_45_11 hz_a0 hk_a0 (b := b20) k21 dX12_stays_42 ?_
        refine lv_bipush (v := 40) hx hb dX12_stays_45 (by decide) ?_
        refine lv_iload_n hx hb dX12_stays_47 rfl (lv_at hl 0 rfl) ?_
        refine tw_iadd (lo := 40) (hi := 49) hx hb (iv_c (c := 40) (n := 40) (by decide)) h19 ⟨by decide, by decide⟩ ⟨by decide, by decide⟩ dX12_stays_48 (fun x51 e50 h49 => ?_)
        have e50 : x51.toInt = 40 + x1.toInt := e50
        refine lv_dup2_11 hx hb dX12_stays_49 rfl rfl ?_
        refine tw_iald hx hb hK hS hz_b20 hk_b20 (Or.inr (by decide)) hn_b20 (lo := (-2147483648)) (hi := 2147483647) h49 ⟨by decide, by decide⟩ rg_full dX12_stays_50 (fun x54 k53 h52 => ?_)
        refine lv_aload_n hx hb dX12_stays_51 rfl (lv_at hl 1 rfl) ?_
        refine tw_getr hx hb hW hown hK hS f_X12_60_11 hz_a0 hk_a0 (t := 14) (n := 10) rfl dX12_stays_52 (fun b55 k56 hz_b55 hk_b55 hn_b55 => ?_)
        have hn_b55 := hn_b55 (by decide)
        refine lv_iload_n hx hb dX12_stays_55 rfl (lv_at hl 0 rfl) ?_
        refine tw_iald hx hb hK hS hz_b55 hk_b55 (Or.inl rfl) hn_b55 (lo := (-2147483648)) (hi := 2147483647) h19 ⟨by decide, by decide⟩ rg_u14 dX12_stays_56 (fun x59 k58 h57 => ?_)
        refine lv_iadd hx hb dX12_stays_57 ?_
        refine tw_top (fun x61 => ?_)
        have h60 := iv_any x61
        refine tw_iast hx hb hK hS hz_b20 hk_b20 (Or.inr (by decide)) hn_b20 h49 ⟨by decide, by decide⟩ h60 (rg_sas (Or.inl ⟨by decide, by decide⟩) ⟨by decide, by decide⟩) (jl := 40) (jh := 49) ⟨by decide, by decide⟩ rfl dX12_stays_58 (fun H locs M64 hS k62 f63 => ?_)
        refine tw_iinc (lv' := fun x67 => [(1, .int x67), (0, .ref (base + a0))]) (lo := 1) (hi := 10) hx hb dX12_stays_59 hl (k := 0) rfl h19 (by decide) ⟨by decide, by decide⟩ ⟨by decide, by decide⟩ (by decide) (fun _ => rfl) (fun x67 ls e66 h65 hl => ?_)
        refine lv_goto (tgt := 2) hx hb dX12_stays_62 (by decide) ?_
        have hm68 : 10 - x67.toInt < (n_2 : Int) := by
          have := (h19).1; have := (h19).2; have := (h22).1; have := (h22).2; have := (h33).1; have := (h33).2; have := (h49).1; have := (h49).2; have := (h65).1; have := (h65).2; omega
        exact ih_2 x67 M64 R3 J4 H locs _ (iv_mono h65 (by decide) (by decide)) hm68 hS hl
  have hm69 : 10 - (0 : Int32).toInt < (((11 : Nat) : Int) : Int) := by
    have : (0 : Int32).toInt = 0 := (by decide); omega
  exact W2_2 11 0 Ma Ra Ja s.heap [] _ (iv_mono (iv_c (c := 0) (n := 0) (by decide)) (by decide) (by decide)) hm69 hS hl
def Lt_X12_bench : WL := [(12, 28, 29), (12, 30, 33), (14, 0, 2000000), (23, 3, 4), (23, 10, 20), (23, 30, 50), (30, 0, 2000000), (31, 0, 2000000)]
def LRt_X12_bench : WL := []
set_option maxRecDepth 100000 in
set_option maxHeartbeats 4000000 in
theorem t_X12_bench (l : Launch) (D : va_G) (cy : Nat → ClassId) (tx : (Nat → Nat) × (Nat → Nat)) (base Z : Nat) (K N : Nat → Nat) (Ma : MT) (Ra : RT) (Ja : JT) (hTy : Ty Z K N Ma Ra) (a0 : Nat) (hz_a0 : a0 < Z) (hk_a0 : K a0 = 12) (a1 : Int32) (h_a1 : iv (-2147483648) 2147483647 a1) (a2 : Int32) (h_a2 : iv (-2147483648) 2147483647 a2) : Met l yX12_bench [Cond.code yX12_bench cX12_bench 4 (some .int)] (md_rm 5 0 0) (va_Pc [.ref (base + a0), .int a1, .int a2] (md_U D cy tx base Z K N Ma Ra Ja)) (mQi D cy tx base (fun r u => TP Z K N Lt_X12_bench LRt_X12_bench Ma Ra u ∧ (iv (-2) 2 r))) 0 0 (fun q => base ≤ q) := by
  refine tw_ofW (L := Lt_X12_bench) (LR := LRt_X12_bench) (by decide) (Nat.le_of_ble_eq_true rfl) hTy ?_
  intro p e s m args below meth c Q ls hx hb hr hlocks hown hml hW hK hT hS hQ hl
  have hl : lv_has ls 4 [(0, .ref (base + a0)), (1, .int a1), (2, .int a2)] := hl
  refine lv_aload_n hx hb dX12_bench_0 rfl (lv_at hl 0 rfl) ?_
  refine tw_getr hx hb hW hown hK hS f_X12_45_11 hz_a0 hk_a0 (t := 23) (n := 226) rfl dX12_bench_1 (fun b1 k2 hz_b1 hk_b1 hn_b1 => ?_)
  have hn_b1 := hn_b1 (by decide)
  refine lv_iconst (v := 0) hx hb dX12_bench_4 (by decide) ?_
  refine tw_iald hx hb hK hS hz_b1 hk_b1 (Or.inr (by decide)) hn_b1 (lo := 0) (hi := 10) (iv_c (c := 0) (n := 0) (by decide)) ⟨by decide, by decide⟩ (rg_c (k0 := 0) rfl rfl rfl) dX12_bench_5 (fun x5 k4 h3 => ?_)
  refine lv_if_eq (tgt := 31) hx hb dX12_bench_6 (by decide) (fun c6 => ?_) (fun c6 => ?_)
  · have q7 : x5.toInt = 0 := ti_eq c6
    have h8 : iv 0 0 x5 := ⟨by have := (h3).1; have := ((iv_c (c := 0) (n := 0) (by decide))).1; omega, by have := (h3).2; have := ((iv_c (c := 0) (n := 0) (by decide))).2; omega⟩
    refine lv_aload_n hx hb dX12_bench_31 rfl (lv_at hl 0 rfl) ?_
    refine lv_iconst (v := 0) hx hb dX12_bench_32 (by decide) ?_
    refine tw_goi hS (md_runV (As := [.int 0]) (rest := []) hx hb hml hown hW hK hT hS.1 (t_X12_refuses l D cy tx base Z K N Ma Ra Ja hS.2.1 a0 hz_a0 hk_a0 0 (iv_mono (iv_c (c := 0) (n := 0) (by decide)) (by decide) (by decide))) s_X12_338 ⟨rfl, rfl, ⟨Nat.le_of_ble_eq_true rfl, Nat.le_of_ble_eq_true rfl⟩, ⟨Nat.le_of_ble_eq_true rfl, Nat.le_of_ble_eq_true rfl⟩⟩ hz_a0 hk_a0 (by decide) rfl rfl hl.1 rfl (Nat.le_of_ble_eq_true rfl) dX12_bench_33) rfl rfl (fun x15 H locs M12 R13 J11 hS f9 g10 E14 => ?_)
    have eR13 := Fr.nil g10 rfl
    subst eR13
    have h_x15 := E14
    clear E14
    exact tw_endi hx hb hr hlocks hK hT hS hQ ((iv_mono h_x15 (by decide) (by decide))) dX12_bench_36
  · have q16 : ¬ x5.toInt = 0 := ti_ne c6
    have h17 : iv 1 10 x5 := ⟨by have := (h3).1; have := ((iv_c (c := 0) (n := 0) (by decide))).1; have := ((iv_c (c := 0) (n := 0) (by decide))).2; omega, by have := (h3).2; have := ((iv_c (c := 0) (n := 0) (by decide))).1; have := ((iv_c (c := 0) (n := 0) (by decide))).2; omega⟩
    refine lv_aload_n hx hb dX12_bench_9 rfl (lv_at hl 0 rfl) ?_
    refine lv_iload_n hx hb dX12_bench_10 rfl (lv_at hl 1 rfl) ?_
    refine tw_goi hS (md_runV (As := [.int a1]) (rest := []) hx hb hml hown hW hK hT hS.1 (t_X12_isSet l D cy tx base Z K N Ma Ra Ja hS.2.1 a0 hz_a0 hk_a0 a1 h_a1) s_X12_404 ⟨rfl, rfl, ⟨Nat.le_of_ble_eq_true rfl, Nat.le_of_ble_eq_true rfl⟩, ⟨Nat.le_of_ble_eq_true rfl, Nat.le_of_ble_eq_true rfl⟩⟩ hz_a0 hk_a0 (by decide) rfl rfl hl.1 rfl (Nat.le_of_ble_eq_true rfl) dX12_bench_11) rfl rfl (fun x24 H locs M21 R22 J20 hS f18 g19 E23 => ?_)
    have eM21 := Fr.nil f18 rfl
    subst eM21
    have eR22 := Fr.nil g19 rfl
    subst eR22
    have h_x24 := E23
    clear E23
    refine lv_if_eq (tgt := 31) hx hb dX12_bench_14 (by decide) (fun c25 => ?_) (fun c25 => ?_)
    · have q26 : x24.toInt = 0 := ti_eq c25
      have h27 : iv 0 0 x24 := ⟨by have := (h_x24).1; have := ((iv_c (c := 0) (n := 0) (by decide))).1; omega, by have := (h_x24).2; have := ((iv_c (c := 0) (n := 0) (by decide))).2; omega⟩
      refine lv_aload_n hx hb dX12_bench_31 rfl (lv_at hl 0 rfl) ?_
      refine lv_iconst (v := 0) hx hb dX12_bench_32 (by decide) ?_
      refine tw_goi hS (md_runV (As := [.int 0]) (rest := []) hx hb hml hown hW hK hT hS.1 (t_X12_refuses l D cy tx base Z K N Ma Ra J20 hS.2.1 a0 hz_a0 hk_a0 0 (iv_mono (iv_c (c := 0) (n := 0) (by decide)) (by decide) (by decide))) s_X12_338 ⟨rfl, rfl, ⟨Nat.le_of_ble_eq_true rfl, Nat.le_of_ble_eq_true rfl⟩, ⟨Nat.le_of_ble_eq_true rfl, Nat.le_of_ble_eq_true rfl⟩⟩ hz_a0 hk_a0 (by decide) rfl rfl hl.1 rfl (Nat.le_of_ble_eq_true rfl) dX12_bench_33) rfl rfl (fun x34 H locs M31 R32 J30 hS f28 g29 E33 => ?_)
      have eR32 := Fr.nil g29 rfl
      subst eR32
      have h_x34 := E33
      clear E33
      exact tw_endi hx hb hr hlocks hK hT hS hQ ((iv_mono h_x34 (by decide) (by decide))) dX12_bench_36
    · have q35 : ¬ x24.toInt = 0 := ti_ne c25
      have h36 : iv 1 1 x24 := ⟨by have := (h_x24).1; have := ((iv_c (c := 0) (n := 0) (by decide))).1; have := ((iv_c (c := 0) (n := 0) (by decide))).2; omega, by have := (h_x24).2; have := ((iv_c (c := 0) (n := 0) (by decide))).1; have := ((iv_c (c := 0) (n := 0) (by decide))).2; omega⟩
      refine lv_aload_n hx hb dX12_bench_17 rfl (lv_at hl 0 rfl) ?_
      refine lv_iload_n hx hb dX12_bench_18 rfl (lv_at hl 2 rfl) ?_
      refine tw_goi hS (md_runV (As := [.int a2]) (rest := []) hx hb hml hown hW hK hT hS.1 (t_X12_isSet l D cy tx base Z K N Ma Ra J20 hS.2.1 a0 hz_a0 hk_a0 a2 h_a2) s_X12_404 ⟨rfl, rfl, ⟨Nat.le_of_ble_eq_true rfl, Nat.le_of_ble_eq_true rfl⟩, ⟨Nat.le_of_ble_eq_true rfl, Nat.le_of_ble_eq_true rfl⟩⟩ hz_a0 hk_a0 (by decide) rfl rfl hl.1 rfl (Nat.le_of_ble_eq_true rfl) dX12_bench_19) rfl rfl (fun x43 H locs M40 R41 J39 hS f37 g38 E42 => ?_)
      have eM40 := Fr.nil f37 rfl
      subst eM40
      have eR41 := Fr.nil g38 rfl
      subst eR41
      have h_x43 := E42
      clear E42
      refine lv_if_eq (tgt := 31) hx hb dX12_bench_22 (by decide) (fun c44 => ?_) (fun c44 => ?_)
      · have q45 : x43.toInt = 0 := ti_eq c44
        have h46 : iv 0 0 x43 := ⟨by have := (h_x43).1; have := ((iv_c (c := 0) (n := 0) (by decide))).1; omega, by have := (h_x43).2; have := ((iv_c (c := 0) (n := 0) (by decide))).2; omega⟩
        refine lv_aload_n hx hb dX12_bench_31 rfl (lv_at hl 0 rfl) ?_
        refine lv_iconst (v := 0) hx hb dX12_bench_32 (by decide) ?_
        refine tw_goi hS (md_runV (As := [.int 0]) (rest := []) hx hb hml hown hW hK hT hS.1 (t_X12_refuses l D cy tx base Z K N Ma Ra J39 hS.2.1 a0 hz_a0 hk_a0 0 (iv_mono (iv_c (c := 0) (n := 0) (by decide)) (by decide) (by decide))) s_X12_338 ⟨rfl, rfl, ⟨Nat.le_of_ble_eq_true rfl, Nat.le_of_ble_eq_true rfl⟩, ⟨Nat.le_of_ble_eq_true rfl, Nat.le_of_ble_eq_true rfl⟩⟩ hz_a0 hk_a0 (by decide) rfl rfl hl.1 rfl (Nat.le_of_ble_eq_true rfl) dX12_bench_33) rfl rfl (fun x53 H locs M50 R51 J49 hS f47 g48 E52 => ?_)
        have eR51 := Fr.nil g48 rfl
        subst eR51
        have h_x53 := E52
        clear E52
        exact tw_endi hx hb hr hlocks hK hT hS hQ ((iv_mono h_x53 (by decide) (by decide))) dX12_bench_36
      · have q54 : ¬ x43.toInt = 0 := ti_ne c44
        have h55 : iv 1 1 x43 := ⟨by have := (h_x43).1; have := ((iv_c (c := 0) (n := 0) (by decide))).1; have := ((iv_c (c := 0) (n := 0) (by decide))).2; omega, by have := (h_x43).2; have := ((iv_c (c := 0) (n := 0) (by decide))).1; have := ((iv_c (c := 0) (n := 0) (by decide))).2; omega⟩
        refine lv_iload_n hx hb dX12_bench_25 rfl (lv_at hl 1 rfl) ?_
        refine lv_iload_n hx hb dX12_bench_26 rfl (lv_at hl 2 rfl) ?_
        refine lv_iand hx hb dX12_bench_27 ?_
        refine tw_top (fun x57 => ?_)
        have h56 := iv_any x57
        refine lv_if_eq (tgt := 37) hx hb dX12_bench_28 (by decide) (fun c58 => ?_) (fun c58 => ?_)
        · have q59 : x57.toInt = 0 := ti_eq c58
          have h60 : iv 0 0 x57 := ⟨by have := (h56).1; have := ((iv_c (c := 0) (n := 0) (by decide))).1; omega, by have := (h56).2; have := ((iv_c (c := 0) (n := 0) (by decide))).2; omega⟩
          refine lv_aload_n hx hb dX12_bench_37 rfl (lv_at hl 0 rfl) ?_
          obtain ⟨x63, k61⟩ : ∃ x, Ma b1 (4 : Int32).toNatClampNeg = x := ⟨_, rfl⟩
          have h62 : iv 0 8 x63 := by rw [← k61]; exact hS.2.1.int hz_b1 hk_b1 (show rgI 23 (4 : Int32).toNatClampNeg = (0, 8) from rfl)
          refine tw_gov hS (md_runV (As := []) (rest := []) hx hb hml hown hW hK hT hS.1 (t_X12_begins l D cy tx base Z K N Ma Ra J39 hS.2.1 a0 hz_a0 hk_a0 b1 k2 x63 k61 (iv_mono h62 (by decide) (by decide))) s_X12_393 ⟨rfl, rfl, ⟨Nat.le_of_ble_eq_true rfl, Nat.le_of_ble_eq_true rfl⟩, ⟨Nat.le_of_ble_eq_true rfl, Nat.le_of_ble_eq_true rfl⟩⟩ hz_a0 hk_a0 (by decide) rfl rfl hl.1 rfl (Nat.le_of_ble_eq_true rfl) dX12_bench_38) rfl rfl (fun H locs M67 R68 J66 hS f64 g65 E69 => ?_)
          have eR68 := Fr.nil g65 rfl
          subst eR68
          have p70 := E69
          clear E69
          have k71 : M67 a0 30 = x63 := p70
          refine lv_aload_n hx hb dX12_bench_41 rfl (lv_at hl 0 rfl) ?_
          refine lv_iload_n hx hb dX12_bench_42 rfl (lv_at hl 1 rfl) ?_
          refine lv_aload_n hx hb dX12_bench_43 rfl (lv_at hl 0 rfl) ?_
          refine tw_getrk hx hb hW hown hK hS f_X12_45_11 hz_a0 hk_a0 (b := b1) k2 dX12_bench_44 ?_
          refine lv_iconst (v := 2) hx hb dX12_bench_47 (by decide) ?_
          refine tw_iald hx hb hK hS hz_b1 hk_b1 (Or.inr (by decide)) hn_b1 (lo := (-2147483648)) (hi := 2147483647) (iv_c (c := 2) (n := 2) (by decide)) ⟨by decide, by decide⟩ (rg_c (k0 := 2) rfl rfl rfl) dX12_bench_48 (fun x74 k73 h72 => ?_)
          refine lv_iand hx hb dX12_bench_49 ?_
          refine tw_top (fun x76 => ?_)
          have h75 := iv_any x76
          refine tw_puti hx hb hW hown hK hS f_X12_364_11 hz_a0 hk_a0 rfl rfl (lo := (-2147483648)) (hi := 2147483647) rfl h75 rfl dX12_bench_50 (fun H locs M79 hS k77 f78 => ?_)
          refine lv_aload_n hx hb dX12_bench_53 rfl (lv_at hl 0 rfl) ?_
          refine lv_iload_n hx hb dX12_bench_54 rfl (lv_at hl 2 rfl) ?_
          refine lv_aload_n hx hb dX12_bench_55 rfl (lv_at hl 0 rfl) ?_
          refine tw_getrk hx hb hW hown hK hS f_X12_45_11 hz_a0 hk_a0 (b := b1) k2 dX12_bench_56 ?_
          refine lv_iconst (v := 2) hx hb dX12_bench_59 (by decide) ?_
          have k80 : M79 b1 (2 : Int32).toNatClampNeg = x74 := (Fr.kp (k := (2 : Int32).toNatClampNeg) f78 hk_b1 rfl).trans k73
          refine tw_ialk hx hb hK hS hz_b1 hk_b1 (Or.inr (by decide)) hn_b1 (iv_c (c := 2) (n := 2) (by decide)) ⟨by decide, by decide⟩ (v := x74) k80 dX12_bench_60 ?_
          refine lv_iand hx hb dX12_bench_61 ?_
          refine tw_top (fun x82 => ?_)
          have h81 := iv_any x82
          refine tw_puti hx hb hW hown hK hS f_X12_367_11 hz_a0 hk_a0 rfl rfl (lo := (-2147483648)) (hi := 2147483647) rfl h81 rfl dX12_bench_62 (fun H locs M85 hS k83 f84 => ?_)
          refine lv_aload_n hx hb dX12_bench_65 rfl (lv_at hl 0 rfl) ?_
          refine tw_goi hS (md_runV (As := []) (rest := []) hx hb hml hown hW hK hT hS.1 (t_X12_settles_ l D cy tx base Z K N M85 Ra J66 hS.2.1 a0 hz_a0 hk_a0) s_X12_399 ⟨rfl, rfl, ⟨Nat.le_of_ble_eq_true rfl, Nat.le_of_ble_eq_true rfl⟩, ⟨Nat.le_of_ble_eq_true rfl, Nat.le_of_ble_eq_true rfl⟩⟩ hz_a0 hk_a0 (by decide) rfl rfl hl.1 rfl (Nat.le_of_ble_eq_true rfl) dX12_bench_66) rfl rfl (fun x92 H locs M89 R90 J88 hS f86 g87 E91 => ?_)
          have eR90 := Fr.nil g87 rfl
          subst eR90
          have h_x92 := E91
          clear E91
          refine lv_istore_n (lv' := [(3, .int x92), (0, .ref (base + a0)), (1, .int a1), (2, .int a2)]) hx hb dX12_bench_69 rfl hl (by decide) rfl (fun ls hl => ?_)
          refine lv_aload_n hx hb dX12_bench_70 rfl (lv_at hl 1 rfl) ?_
          refine tw_gov hS (md_runV (As := []) (rest := []) hx hb hml hown hW hK hT hS.1 (t_X12_stays l D cy tx base Z K N M89 Ra J88 hS.2.1 a0 hz_a0 hk_a0) s_X12_401 ⟨rfl, rfl, ⟨Nat.le_of_ble_eq_true rfl, Nat.le_of_ble_eq_true rfl⟩, ⟨Nat.le_of_ble_eq_true rfl, Nat.le_of_ble_eq_true rfl⟩⟩ hz_a0 hk_a0 (by decide) rfl rfl hl.1 rfl (Nat.le_of_ble_eq_true rfl) dX12_bench_71) rfl rfl (fun H locs M96 R97 J95 hS f93 g94 E98 => ?_)
          have eR97 := Fr.nil g94 rfl
          subst eR97
          refine lv_iload_n hx hb dX12_bench_74 rfl (lv_at hl 0 rfl) ?_
          exact tw_endi hx hb hr hlocks hK hT hS hQ ((iv_mono h_x92 (by decide) (by decide))) dX12_bench_75
        · have q99 : ¬ x57.toInt = 0 := ti_ne c58
          refine lv_aload_n hx hb dX12_bench_31 rfl (lv_at hl 0 rfl) ?_
          refine lv_iconst (v := 0) hx hb dX12_bench_32 (by decide) ?_
          refine tw_goi hS (md_runV (As := [.int 0]) (rest := []) hx hb hml hown hW hK hT hS.1 (t_X12_refuses l D cy tx base Z K N Ma Ra J39 hS.2.1 a0 hz_a0 hk_a0 0 (iv_mono (iv_c (c := 0) (n := 0) (by decide)) (by decide) (by decide))) s_X12_338 ⟨rfl, rfl, ⟨Nat.le_of_ble_eq_true rfl, Nat.le_of_ble_eq_true rfl⟩, ⟨Nat.le_of_ble_eq_true rfl, Nat.le_of_ble_eq_true rfl⟩⟩ hz_a0 hk_a0 (by decide) rfl rfl hl.1 rfl (Nat.le_of_ble_eq_true rfl) dX12_bench_33) rfl rfl (fun x106 H locs M103 R104 J102 hS f100 g101 E105 => ?_)
          have eR104 := Fr.nil g101 rfl
          subst eR104
          have h_x106 := E105
          clear E105
          exact tw_endi hx hb hr hlocks hK hT hS hQ ((iv_mono h_x106 (by decide) (by decide))) dX12_bench_36
def Lt_X12_bend : WL := [(14, 0, 2000000), (23, 20, 30)]
def LRt_X12_bend : WL := []
set_option maxRecDepth 100000 in
set_option maxHeartbeats 4000000 in
theorem t_X12_bend (l : Launch) (D : va_G) (cy : Nat → ClassId) (tx : (Nat → Nat) × (Nat → Nat)) (base Z : Nat) (K N : Nat → Nat) (Ma : MT) (Ra : RT) (Ja : JT) (hTy : Ty Z K N Ma Ra) (a0 : Nat) (hz_a0 : a0 < Z) (hk_a0 : K a0 = 12) (a1 : Int32) (h_a1 : iv (-2147483648) 2147483647 a1) (a2 : Int32) (h_a2 : iv (-2147483648) 2147483647 a2) : Met l yX12_bend [Cond.code yX12_bend cX12_bend 4 (some .int)] (md_rm 2 0 0) (va_Pc [.ref (base + a0), .int a1, .int a2] (md_U D cy tx base Z K N Ma Ra Ja)) (mQi D cy tx base (fun r u => TP Z K N Lt_X12_bend LRt_X12_bend Ma Ra u ∧ (iv (-2147483648) 2147483647 r))) 0 0 (fun q => base ≤ q) := by
  refine tw_ofW (L := Lt_X12_bend) (LR := LRt_X12_bend) (by decide) (Nat.le_of_ble_eq_true rfl) hTy ?_
  intro p e s m args below meth c Q ls hx hb hr hlocks hown hml hW hK hT hS hQ hl
  have hl : lv_has ls 4 [(0, .ref (base + a0)), (1, .int a1), (2, .int a2)] := hl
  refine lv_aload_n hx hb dX12_bend_0 rfl (lv_at hl 0 rfl) ?_
  refine lv_iload_n hx hb dX12_bend_1 rfl (lv_at hl 1 rfl) ?_
  refine tw_goi hS (md_runV (As := [.int a1]) (rest := []) hx hb hml hown hW hK hT hS.1 (t_X12_isMember l D cy tx base Z K N Ma Ra Ja hS.2.1 a0 hz_a0 hk_a0 a1 h_a1) s_X12_319 ⟨rfl, rfl, ⟨Nat.le_of_ble_eq_true rfl, Nat.le_of_ble_eq_true rfl⟩, ⟨Nat.le_of_ble_eq_true rfl, Nat.le_of_ble_eq_true rfl⟩⟩ hz_a0 hk_a0 (by decide) rfl rfl hl.1 rfl (Nat.le_of_ble_eq_true rfl) dX12_bend_2) rfl rfl (fun x7 H locs M4 R5 J3 hS f1 g2 E6 => ?_)
  have eM4 := Fr.nil f1 rfl
  subst eM4
  have eR5 := Fr.nil g2 rfl
  subst eR5
  obtain ⟨h_x7, p8⟩ := E6
  refine lv_if_eq (tgt := 22) hx hb dX12_bend_5 (by decide) (fun c9 => ?_) (fun c9 => ?_)
  · have q10 : x7.toInt = 0 := ti_eq c9
    have h11 : iv 0 0 x7 := ⟨by have := (h_x7).1; have := ((iv_c (c := 0) (n := 0) (by decide))).1; omega, by have := (h_x7).2; have := ((iv_c (c := 0) (n := 0) (by decide))).2; omega⟩
    refine lv_aload_n hx hb dX12_bend_22 rfl (lv_at hl 0 rfl) ?_
    refine lv_iconst (v := 0) hx hb dX12_bend_23 (by decide) ?_
    refine tw_goi hS (md_runV (As := [.int 0]) (rest := []) hx hb hml hown hW hK hT hS.1 (t_X12_refuses l D cy tx base Z K N Ma Ra J3 hS.2.1 a0 hz_a0 hk_a0 0 (iv_mono (iv_c (c := 0) (n := 0) (by decide)) (by decide) (by decide))) s_X12_338 ⟨rfl, rfl, ⟨Nat.le_of_ble_eq_true rfl, Nat.le_of_ble_eq_true rfl⟩, ⟨Nat.le_of_ble_eq_true rfl, Nat.le_of_ble_eq_true rfl⟩⟩ hz_a0 hk_a0 (by decide) rfl rfl hl.1 rfl (Nat.le_of_ble_eq_true rfl) dX12_bend_24) rfl rfl (fun x18 H locs M15 R16 J14 hS f12 g13 E17 => ?_)
    have eR16 := Fr.nil g13 rfl
    subst eR16
    have h_x18 := E17
    clear E17
    exact tw_endi hx hb hr hlocks hK hT hS hQ ((iv_mono h_x18 (by decide) (by decide))) dX12_bend_27
  · have q19 : ¬ x7.toInt = 0 := ti_ne c9
    have h20 : iv 1 1 x7 := ⟨by have := (h_x7).1; have := ((iv_c (c := 0) (n := 0) (by decide))).1; have := ((iv_c (c := 0) (n := 0) (by decide))).2; omega, by have := (h_x7).2; have := ((iv_c (c := 0) (n := 0) (by decide))).1; have := ((iv_c (c := 0) (n := 0) (by decide))).2; omega⟩
    have h21 : iv 0 9 a1 := ⟨by have := (p8 c9).1; have := (h_a1).1; omega, by have := (p8 c9).2; have := (h_a1).2; omega⟩
    refine lv_iload_n hx hb dX12_bend_8 rfl (lv_at hl 2 rfl) ?_
    refine lv_i2l hx hb dX12_bend_9 rfl ?_
    refine lv_ldc2 hx hb hown (hW _ w_7_161 rfl) dX12_bend_10 ?_
    refine lv_ldc2 hx hb hown (hW _ w_7_162 rfl) dX12_bend_13 ?_
    refine tw_goi hS (md_runS (As := [.long a2.toInt64, .long (-1), .long 5]) (rest := []) hx hb hml hown hW hK hT hS.1 (t_X12_in l D cy tx base Z K N Ma Ra J3 hS.2.1 (a2.toInt64) ((-1)) (5)) s_X12_155 ⟨rfl, rfl, ⟨Nat.le_of_ble_eq_true rfl, Nat.le_of_ble_eq_true rfl⟩, ⟨Nat.le_of_ble_eq_true rfl, Nat.le_of_ble_eq_true rfl⟩⟩ rfl hl.1 rfl (Nat.le_of_ble_eq_true rfl) dX12_bend_16) rfl rfl (fun x28 H locs M25 R26 J24 hS f22 g23 E27 => ?_)
    have eM25 := Fr.nil f22 rfl
    subst eM25
    have eR26 := Fr.nil g23 rfl
    subst eR26
    obtain ⟨h_x28, p29⟩ := E27
    have p30 := p29.1
    refine lv_if_ne (tgt := 28) hx hb dX12_bend_19 (by decide) (fun c31 => ?_) (fun c31 => ?_)
    · have q32 : ¬ x28.toInt = 0 := ti_ne c31
      have h33 : iv 1 1 x28 := ⟨by have := (h_x28).1; have := ((iv_c (c := 0) (n := 0) (by decide))).1; have := ((iv_c (c := 0) (n := 0) (by decide))).2; omega, by have := (h_x28).2; have := ((iv_c (c := 0) (n := 0) (by decide))).1; have := ((iv_c (c := 0) (n := 0) (by decide))).2; omega⟩
      have h34 : iv (-1) 5 a2 := in2iv (p30 c31) ((jv_c (x := (-1)) (n := (-1)) (by decide))).1 ((jv_c (x := 5) (n := 5) (by decide))).2
      refine lv_aload_n hx hb dX12_bend_28 rfl (lv_at hl 0 rfl) ?_
      refine tw_getr hx hb hW hown hK hS f_X12_45_11 hz_a0 hk_a0 (t := 23) (n := 226) rfl dX12_bend_29 (fun b35 k36 hz_b35 hk_b35 hn_b35 => ?_)
      have hn_b35 := hn_b35 (by decide)
      refine lv_bipush (v := 20) hx hb dX12_bend_32 (by decide) ?_
      refine lv_iload_n hx hb dX12_bend_34 rfl (lv_at hl 1 rfl) ?_
      refine tw_iadd (lo := 20) (hi := 29) hx hb (iv_c (c := 20) (n := 20) (by decide)) h21 ⟨by decide, by decide⟩ ⟨by decide, by decide⟩ dX12_bend_35 (fun x39 e38 h37 => ?_)
      have e38 : x39.toInt = 20 + a1.toInt := e38
      refine tw_iald hx hb hK hS hz_b35 hk_b35 (Or.inr (by decide)) hn_b35 (lo := (-2147483648)) (hi := 2147483647) h37 ⟨by decide, by decide⟩ rg_full dX12_bend_36 (fun x42 k41 h40 => ?_)
      refine lv_istore_n (lv' := [(3, .int x42), (0, .ref (base + a0)), (1, .int a1), (2, .int a2)]) hx hb dX12_bend_37 rfl hl (by decide) rfl (fun ls hl => ?_)
      refine lv_aload_n hx hb dX12_bend_38 rfl (lv_at hl 1 rfl) ?_
      refine tw_getrk hx hb hW hown hK hS f_X12_45_11 hz_a0 hk_a0 (b := b35) k36 dX12_bend_39 ?_
      refine lv_bipush (v := 20) hx hb dX12_bend_42 (by decide) ?_
      refine lv_iload_n hx hb dX12_bend_44 rfl (lv_at hl 2 rfl) ?_
      refine tw_iadd (lo := 20) (hi := 29) hx hb (iv_c (c := 20) (n := 20) (by decide)) h21 ⟨by decide, by decide⟩ ⟨by decide, by decide⟩ dX12_bend_45 (fun x45 e44 h43 => ?_)
      have e44 : x45.toInt = 20 + a1.toInt := e44
      refine lv_iload_n hx hb dX12_bend_46 rfl (lv_at hl 3 rfl) ?_
      refine tw_iast hx hb hK hS hz_b35 hk_b35 (Or.inr (by decide)) hn_b35 h43 ⟨by decide, by decide⟩ h34 (rg_sas (Or.inl ⟨by decide, by decide⟩) ⟨by decide, by decide⟩) (jl := 20) (jh := 29) ⟨by decide, by decide⟩ rfl dX12_bend_47 (fun H locs M48 hS k46 f47 => ?_)
      refine lv_iload_n hx hb dX12_bend_48 rfl (lv_at hl 0 rfl) ?_
      exact tw_endi hx hb hr hlocks hK hT hS hQ (h40) dX12_bend_49
    · have q49 : x28.toInt = 0 := ti_eq c31
      have q50 := p29.2 c31
      have q50 : a2.toInt < (-1) ∨ 5 < a2.toInt := by rw [Int32.toInt_toInt64] at q50; exact q50
      have h51 : iv 0 0 x28 := ⟨by have := (h_x28).1; have := ((iv_c (c := 0) (n := 0) (by decide))).1; omega, by have := (h_x28).2; have := ((iv_c (c := 0) (n := 0) (by decide))).2; omega⟩
      refine lv_aload_n hx hb dX12_bend_22 rfl (lv_at hl 0 rfl) ?_
      refine lv_iconst (v := 0) hx hb dX12_bend_23 (by decide) ?_
      refine tw_goi hS (md_runV (As := [.int 0]) (rest := []) hx hb hml hown hW hK hT hS.1 (t_X12_refuses l D cy tx base Z K N Ma Ra J24 hS.2.1 a0 hz_a0 hk_a0 0 (iv_mono (iv_c (c := 0) (n := 0) (by decide)) (by decide) (by decide))) s_X12_338 ⟨rfl, rfl, ⟨Nat.le_of_ble_eq_true rfl, Nat.le_of_ble_eq_true rfl⟩, ⟨Nat.le_of_ble_eq_true rfl, Nat.le_of_ble_eq_true rfl⟩⟩ hz_a0 hk_a0 (by decide) rfl rfl hl.1 rfl (Nat.le_of_ble_eq_true rfl) dX12_bend_24) rfl rfl (fun x58 H locs M55 R56 J54 hS f52 g53 E57 => ?_)
      have eR56 := Fr.nil g53 rfl
      subst eR56
      have h_x58 := E57
      clear E57
      exact tw_endi hx hb hr hlocks hK hT hS hQ ((iv_mono h_x58 (by decide) (by decide))) dX12_bend_27
def Lt_X12_beside : WL := [(14, 0, 2000000), (23, 7, 9)]
def LRt_X12_beside : WL := []
set_option maxRecDepth 100000 in
set_option maxHeartbeats 4000000 in
theorem t_X12_beside (l : Launch) (D : va_G) (cy : Nat → ClassId) (tx : (Nat → Nat) × (Nat → Nat)) (base Z : Nat) (K N : Nat → Nat) (Ma : MT) (Ra : RT) (Ja : JT) (hTy : Ty Z K N Ma Ra) (a0 : Nat) (hz_a0 : a0 < Z) (hk_a0 : K a0 = 12) (a1 : Int32) (h_a1 : iv (-2147483648) 2147483647 a1) (a2 : Int32) (h_a2 : iv (-2147483648) 2147483647 a2) : Met l yX12_beside [Cond.code yX12_beside cX12_beside 4 (some .int)] (md_rm 2 0 0) (va_Pc [.ref (base + a0), .int a1, .int a2] (md_U D cy tx base Z K N Ma Ra Ja)) (mQi D cy tx base (fun r u => TP Z K N Lt_X12_beside LRt_X12_beside Ma Ra u ∧ (iv (-2147483648) 2147483647 r))) 0 0 (fun q => base ≤ q) := by
  refine tw_ofW (L := Lt_X12_beside) (LR := LRt_X12_beside) (by decide) (Nat.le_of_ble_eq_true rfl) hTy ?_
  intro p e s m args below meth c Q ls hx hb hr hlocks hown hml hW hK hT hS hQ hl
  have hl : lv_has ls 4 [(0, .ref (base + a0)), (1, .int a1), (2, .int a2)] := hl
  refine lv_aload_n hx hb dX12_beside_0 rfl (lv_at hl 0 rfl) ?_
  refine tw_getr hx hb hW hown hK hS f_X12_45_11 hz_a0 hk_a0 (t := 23) (n := 226) rfl dX12_beside_1 (fun b1 k2 hz_b1 hk_b1 hn_b1 => ?_)
  have hn_b1 := hn_b1 (by decide)
  refine lv_iconst (v := 0) hx hb dX12_beside_4 (by decide) ?_
  refine tw_iald hx hb hK hS hz_b1 hk_b1 (Or.inr (by decide)) hn_b1 (lo := 0) (hi := 10) (iv_c (c := 0) (n := 0) (by decide)) ⟨by decide, by decide⟩ (rg_c (k0 := 0) rfl rfl rfl) dX12_beside_5 (fun x5 k4 h3 => ?_)
  refine lv_if_eq (tgt := 33) hx hb dX12_beside_6 (by decide) (fun c6 => ?_) (fun c6 => ?_)
  · have q7 : x5.toInt = 0 := ti_eq c6
    have h8 : iv 0 0 x5 := ⟨by have := (h3).1; have := ((iv_c (c := 0) (n := 0) (by decide))).1; omega, by have := (h3).2; have := ((iv_c (c := 0) (n := 0) (by decide))).2; omega⟩
    refine lv_aload_n hx hb dX12_beside_33 rfl (lv_at hl 0 rfl) ?_
    refine lv_iconst (v := 0) hx hb dX12_beside_34 (by decide) ?_
    refine tw_goi hS (md_runV (As := [.int 0]) (rest := []) hx hb hml hown hW hK hT hS.1 (t_X12_refuses l D cy tx base Z K N Ma Ra Ja hS.2.1 a0 hz_a0 hk_a0 0 (iv_mono (iv_c (c := 0) (n := 0) (by decide)) (by decide) (by decide))) s_X12_338 ⟨rfl, rfl, ⟨Nat.le_of_ble_eq_true rfl, Nat.le_of_ble_eq_true rfl⟩, ⟨Nat.le_of_ble_eq_true rfl, Nat.le_of_ble_eq_true rfl⟩⟩ hz_a0 hk_a0 (by decide) rfl rfl hl.1 rfl (Nat.le_of_ble_eq_true rfl) dX12_beside_35) rfl rfl (fun x15 H locs M12 R13 J11 hS f9 g10 E14 => ?_)
    have eR13 := Fr.nil g10 rfl
    subst eR13
    have h_x15 := E14
    clear E14
    exact tw_endi hx hb hr hlocks hK hT hS hQ ((iv_mono h_x15 (by decide) (by decide))) dX12_beside_38
  · have q16 : ¬ x5.toInt = 0 := ti_ne c6
    have h17 : iv 1 10 x5 := ⟨by have := (h3).1; have := ((iv_c (c := 0) (n := 0) (by decide))).1; have := ((iv_c (c := 0) (n := 0) (by decide))).2; omega, by have := (h3).2; have := ((iv_c (c := 0) (n := 0) (by decide))).1; have := ((iv_c (c := 0) (n := 0) (by decide))).2; omega⟩
    refine lv_iload_n hx hb dX12_beside_9 rfl (lv_at hl 1 rfl) ?_
    refine lv_i2l hx hb dX12_beside_10 rfl ?_
    refine lv_lconst (v := 0) hx hb dX12_beside_11 (by decide) ?_
    refine lv_ldc2 hx hb hown (hW _ w_7_178 rfl) dX12_beside_12 ?_
    refine tw_goi hS (md_runS (As := [.long a1.toInt64, .long 0, .long 2]) (rest := []) hx hb hml hown hW hK hT hS.1 (t_X12_in l D cy tx base Z K N Ma Ra Ja hS.2.1 (a1.toInt64) (0) (2)) s_X12_155 ⟨rfl, rfl, ⟨Nat.le_of_ble_eq_true rfl, Nat.le_of_ble_eq_true rfl⟩, ⟨Nat.le_of_ble_eq_true rfl, Nat.le_of_ble_eq_true rfl⟩⟩ rfl hl.1 rfl (Nat.le_of_ble_eq_true rfl) dX12_beside_15) rfl rfl (fun x24 H locs M21 R22 J20 hS f18 g19 E23 => ?_)
    have eM21 := Fr.nil f18 rfl
    subst eM21
    have eR22 := Fr.nil g19 rfl
    subst eR22
    obtain ⟨h_x24, p25⟩ := E23
    have p26 := p25.1
    refine lv_if_eq (tgt := 33) hx hb dX12_beside_18 (by decide) (fun c27 => ?_) (fun c27 => ?_)
    · have q28 : x24.toInt = 0 := ti_eq c27
      have q29 := p25.2 c27
      have q29 : a1.toInt < 0 ∨ 2 < a1.toInt := by rw [Int32.toInt_toInt64] at q29; exact q29
      have h30 : iv 0 0 x24 := ⟨by have := (h_x24).1; have := ((iv_c (c := 0) (n := 0) (by decide))).1; omega, by have := (h_x24).2; have := ((iv_c (c := 0) (n := 0) (by decide))).2; omega⟩
      refine lv_aload_n hx hb dX12_beside_33 rfl (lv_at hl 0 rfl) ?_
      refine lv_iconst (v := 0) hx hb dX12_beside_34 (by decide) ?_
      refine tw_goi hS (md_runV (As := [.int 0]) (rest := []) hx hb hml hown hW hK hT hS.1 (t_X12_refuses l D cy tx base Z K N Ma Ra J20 hS.2.1 a0 hz_a0 hk_a0 0 (iv_mono (iv_c (c := 0) (n := 0) (by decide)) (by decide) (by decide))) s_X12_338 ⟨rfl, rfl, ⟨Nat.le_of_ble_eq_true rfl, Nat.le_of_ble_eq_true rfl⟩, ⟨Nat.le_of_ble_eq_true rfl, Nat.le_of_ble_eq_true rfl⟩⟩ hz_a0 hk_a0 (by decide) rfl rfl hl.1 rfl (Nat.le_of_ble_eq_true rfl) dX12_beside_35) rfl rfl (fun x37 H locs M34 R35 J33 hS f31 g32 E36 => ?_)
      have eR35 := Fr.nil g32 rfl
      subst eR35
      have h_x37 := E36
      clear E36
      exact tw_endi hx hb hr hlocks hK hT hS hQ ((iv_mono h_x37 (by decide) (by decide))) dX12_beside_38
    · have q38 : ¬ x24.toInt = 0 := ti_ne c27
      have h39 : iv 1 1 x24 := ⟨by have := (h_x24).1; have := ((iv_c (c := 0) (n := 0) (by decide))).1; have := ((iv_c (c := 0) (n := 0) (by decide))).2; omega, by have := (h_x24).2; have := ((iv_c (c := 0) (n := 0) (by decide))).1; have := ((iv_c (c := 0) (n := 0) (by decide))).2; omega⟩
      have h40 : iv 0 2 a1 := in2iv (p26 c27) ((jv_c (x := 0) (n := 0) (by decide))).1 ((jv_c (x := 2) (n := 2) (by decide))).2
      refine lv_iload_n hx hb dX12_beside_21 rfl (lv_at hl 2 rfl) ?_
      refine lv_i2l hx hb dX12_beside_22 rfl ?_
      refine lv_lconst (v := 1) hx hb dX12_beside_23 (by decide) ?_
      refine lv_ldc2 hx hb hown (hW _ w_7_179 rfl) dX12_beside_24 ?_
      refine tw_goi hS (md_runS (As := [.long a2.toInt64, .long 1, .long 9999]) (rest := []) hx hb hml hown hW hK hT hS.1 (t_X12_in l D cy tx base Z K N Ma Ra J20 hS.2.1 (a2.toInt64) (1) (9999)) s_X12_155 ⟨rfl, rfl, ⟨Nat.le_of_ble_eq_true rfl, Nat.le_of_ble_eq_true rfl⟩, ⟨Nat.le_of_ble_eq_true rfl, Nat.le_of_ble_eq_true rfl⟩⟩ rfl hl.1 rfl (Nat.le_of_ble_eq_true rfl) dX12_beside_27) rfl rfl (fun x47 H locs M44 R45 J43 hS f41 g42 E46 => ?_)
      have eM44 := Fr.nil f41 rfl
      subst eM44
      have eR45 := Fr.nil g42 rfl
      subst eR45
      obtain ⟨h_x47, p48⟩ := E46
      have p49 := p48.1
      refine lv_if_ne (tgt := 39) hx hb dX12_beside_30 (by decide) (fun c50 => ?_) (fun c50 => ?_)
      · have q51 : ¬ x47.toInt = 0 := ti_ne c50
        have h52 : iv 1 1 x47 := ⟨by have := (h_x47).1; have := ((iv_c (c := 0) (n := 0) (by decide))).1; have := ((iv_c (c := 0) (n := 0) (by decide))).2; omega, by have := (h_x47).2; have := ((iv_c (c := 0) (n := 0) (by decide))).1; have := ((iv_c (c := 0) (n := 0) (by decide))).2; omega⟩
        have h53 : iv 1 9999 a2 := in2iv (p49 c50) ((jv_c (x := 1) (n := 1) (by decide))).1 ((jv_c (x := 9999) (n := 9999) (by decide))).2
        refine lv_aload_n hx hb dX12_beside_39 rfl (lv_at hl 0 rfl) ?_
        refine tw_getrk hx hb hW hown hK hS f_X12_45_11 hz_a0 hk_a0 (b := b1) k2 dX12_beside_40 ?_
        refine lv_bipush (v := 7) hx hb dX12_beside_43 (by decide) ?_
        refine tw_iald hx hb hK hS hz_b1 hk_b1 (Or.inr (by decide)) hn_b1 (lo := (-2147483648)) (hi := 2147483647) (iv_c (c := 7) (n := 7) (by decide)) ⟨by decide, by decide⟩ (rg_c (k0 := 7) rfl rfl rfl) dX12_beside_45 (fun x56 k55 h54 => ?_)
        refine lv_istore_n (lv' := [(3, .int x56), (0, .ref (base + a0)), (1, .int a1), (2, .int a2)]) hx hb dX12_beside_46 rfl hl (by decide) rfl (fun ls hl => ?_)
        refine lv_aload_n hx hb dX12_beside_47 rfl (lv_at hl 1 rfl) ?_
        refine tw_getrk hx hb hW hown hK hS f_X12_45_11 hz_a0 hk_a0 (b := b1) k2 dX12_beside_48 ?_
        refine lv_bipush (v := 7) hx hb dX12_beside_51 (by decide) ?_
        refine lv_iload_n hx hb dX12_beside_53 rfl (lv_at hl 2 rfl) ?_
        refine tw_iast hx hb hK hS hz_b1 hk_b1 (Or.inr (by decide)) hn_b1 (iv_c (c := 7) (n := 7) (by decide)) ⟨by decide, by decide⟩ h40 (rg_cs (k0 := 7) rfl rfl rfl ⟨by decide, by decide⟩) (jl := 7) (jh := 7) ⟨by decide, by decide⟩ rfl dX12_beside_54 (fun H locs M59 hS k57 f58 => ?_)
        refine lv_aload_n hx hb dX12_beside_55 rfl (lv_at hl 1 rfl) ?_
        refine tw_getrk hx hb hW hown hK hS f_X12_45_11 hz_a0 hk_a0 (b := b1) k2 dX12_beside_56 ?_
        refine lv_bipush (v := 8) hx hb dX12_beside_59 (by decide) ?_
        refine lv_iload_n hx hb dX12_beside_61 rfl (lv_at hl 3 rfl) ?_
        refine tw_iast hx hb hK hS hz_b1 hk_b1 (Or.inr (by decide)) hn_b1 (iv_c (c := 8) (n := 8) (by decide)) ⟨by decide, by decide⟩ h53 (rg_cs (k0 := 8) rfl rfl rfl ⟨by decide, by decide⟩) (jl := 8) (jh := 8) ⟨by decide, by decide⟩ rfl dX12_beside_62 (fun H locs M62 hS k60 f61 => ?_)
        refine lv_iload_n hx hb dX12_beside_63 rfl (lv_at hl 0 rfl) ?_
        exact tw_endi hx hb hr hlocks hK hT hS hQ (h54) dX12_beside_64
      · have q63 : x47.toInt = 0 := ti_eq c50
        have q64 := p48.2 c50
        have q64 : a2.toInt < 1 ∨ 9999 < a2.toInt := by rw [Int32.toInt_toInt64] at q64; exact q64
        have h65 : iv 0 0 x47 := ⟨by have := (h_x47).1; have := ((iv_c (c := 0) (n := 0) (by decide))).1; omega, by have := (h_x47).2; have := ((iv_c (c := 0) (n := 0) (by decide))).2; omega⟩
        refine lv_aload_n hx hb dX12_beside_33 rfl (lv_at hl 0 rfl) ?_
        refine lv_iconst (v := 0) hx hb dX12_beside_34 (by decide) ?_
        refine tw_goi hS (md_runV (As := [.int 0]) (rest := []) hx hb hml hown hW hK hT hS.1 (t_X12_refuses l D cy tx base Z K N Ma Ra J43 hS.2.1 a0 hz_a0 hk_a0 0 (iv_mono (iv_c (c := 0) (n := 0) (by decide)) (by decide) (by decide))) s_X12_338 ⟨rfl, rfl, ⟨Nat.le_of_ble_eq_true rfl, Nat.le_of_ble_eq_true rfl⟩, ⟨Nat.le_of_ble_eq_true rfl, Nat.le_of_ble_eq_true rfl⟩⟩ hz_a0 hk_a0 (by decide) rfl rfl hl.1 rfl (Nat.le_of_ble_eq_true rfl) dX12_beside_35) rfl rfl (fun x72 H locs M69 R70 J68 hS f66 g67 E71 => ?_)
        have eR70 := Fr.nil g67 rfl
        subst eR70
        have h_x72 := E71
        clear E71
        exact tw_endi hx hb hr hlocks hK hT hS hQ ((iv_mono h_x72 (by decide) (by decide))) dX12_beside_38
def Lt_X12_best : WL := []
def LRt_X12_best : WL := []
set_option maxRecDepth 100000 in
set_option maxHeartbeats 4000000 in
theorem t_X12_best (l : Launch) (D : va_G) (cy : Nat → ClassId) (tx : (Nat → Nat) × (Nat → Nat)) (base Z : Nat) (K N : Nat → Nat) (Ma : MT) (Ra : RT) (Ja : JT) (hTy : Ty Z K N Ma Ra) (a0 : Nat) (hz_a0 : a0 < Z) (hk_a0 : K a0 = 12) (a1 : Int32) (h_a1 : iv 0 728 a1) (a2 : Int32) (h_a2 : iv 0 1 a2) : Met l yX12_best [Cond.code yX12_best cX12_best 8 (some .int)] (md_rm 1 0 0) (va_Pc [.ref (base + a0), .int a1, .int a2] (md_U D cy tx base Z K N Ma Ra Ja)) (mQi D cy tx base (fun r u => TP Z K N Lt_X12_best LRt_X12_best Ma Ra u ∧ (iv (-2147483648) 2147483647 r))) 0 0 (fun q => base ≤ q) := by
  refine tw_ofW (L := Lt_X12_best) (LR := LRt_X12_best) (by decide) (Nat.le_of_ble_eq_true rfl) hTy ?_
  intro p e s m args below meth c Q ls hx hb hr hlocks hown hml hW hK hT hS hQ hl
  have hl : lv_has ls 8 [(0, .ref (base + a0)), (1, .int a1), (2, .int a2)] := hl
  refine lv_iconst (v := 0) hx hb dX12_best_0 (by decide) ?_
  refine lv_istore_n (lv' := [(3, .int 0), (0, .ref (base + a0)), (1, .int a1), (2, .int a2)]) hx hb dX12_best_1 rfl hl (by decide) rfl (fun ls hl => ?_)
  refine lv_iconst (v := 0) hx hb dX12_best_2 (by decide) ?_
  refine lv_istore (lv' := [(4, .int 0), (3, .int 0), (0, .ref (base + a0)), (1, .int a1), (2, .int a2)]) hx hb dX12_best_3 hl (by decide) rfl (fun ls hl => ?_)
  refine lv_iconst (v := 0) hx hb dX12_best_5 (by decide) ?_
  refine lv_istore (lv' := [(5, .int 0), (4, .int 0), (3, .int 0), (0, .ref (base + a0)), (1, .int a1), (2, .int a2)]) hx hb dX12_best_6 hl (by decide) rfl (fun ls hl => ?_)
  have W8_4 : ∀ (n_4 : Nat) (x1 : Int32) (x2 : Int32) (x3 : Int32) (M4 : MT) (R5 : RT) (J6 : JT) (H : Heap) (locs : List Loc) (ls : Array Slot) (h_x1 : iv 0 2 x1) (h_x2 : iv (-2147483648) 2147483647 x2) (h_x3 : iv 0 3 x3) (hm_4 : 3 - x3.toInt < (n_4 : Int)) (hS : SB D cy base Z K N Lt_X12_best LRt_X12_best Ma Ra M4 R5 J6 s H locs) (hl : lv_has ls 8 [(3, .int x1), (4, .int x2), (5, .int x3), (0, .ref (base + a0)), (1, .int a1), (2, .int a2)]), W p l e (md_rm 1 0 0) s m args below meth c H locs 0 0 Q (F0 m 8 ls []) := by
    intro n_4
    induction n_4 with
    | zero =>
      intro x1 x2 x3 M4 R5 J6 H locs ls h_x1 h_x2 h_x3 hm_4 hS hl
      exfalso
      have := (h_a1).1; have := (h_a1).2; have := (h_a2).1; have := (h_a2).2; have := (h_x3).1; have := (h_x3).2; omega
    | succ n_4 ih_4 =>
      intro x1 x2 x3 M4 R5 J6 H locs ls h_x1 h_x2 h_x3 hm_4 hS hl
      have f7 := hS.2.2.1
      have g8 := hS.2.2.2
      refine lv_iload hx hb dX12_best_8 (lv_at hl 2 rfl) ?_
      refine lv_iconst (v := 3) hx hb dX12_best_10 (by decide) ?_
      refine lv_icmp_ge (tgt := 119) hx hb dX12_best_11 (by decide) (fun c9 => ?_) (fun c9 => ?_)
      · have q10 : 3 ≤ x3.toInt := ti_le c9
        have h11 : iv 3 3 x3 := iv_geL (y := 3) h_x3 (iv_c (c := 3) (n := 3) (by decide)) q10 (by decide)
        refine lv_iload_n hx hb dX12_best_119 rfl (lv_at hl 5 rfl) ?_
        refine lv_if_eq (tgt := 127) hx hb dX12_best_120 (by decide) (fun c12 => ?_) (fun c12 => ?_)
        · have q13 : a2.toInt = 0 := ti_eq c12
          have h14 : iv 0 0 a2 := ⟨by have := (h_a2).1; have := ((iv_c (c := 0) (n := 0) (by decide))).1; omega, by have := (h_a2).2; have := ((iv_c (c := 0) (n := 0) (by decide))).2; omega⟩
          refine lv_iload hx hb dX12_best_127 (lv_at hl 1 rfl) ?_
          exact tw_endi hx hb hr hlocks hK hT hS hQ (h_x2) dX12_best_129
        · have q15 : ¬ a2.toInt = 0 := ti_ne c12
          have h16 : iv 1 1 a2 := ⟨by have := (h_a2).1; have := ((iv_c (c := 0) (n := 0) (by decide))).1; have := ((iv_c (c := 0) (n := 0) (by decide))).2; omega, by have := (h_a2).2; have := ((iv_c (c := 0) (n := 0) (by decide))).1; have := ((iv_c (c := 0) (n := 0) (by decide))).2; omega⟩
          refine lv_iload_n hx hb dX12_best_123 rfl (lv_at hl 0 rfl) ?_
          refine lv_goto (tgt := 129) hx hb dX12_best_124 (by decide) ?_
          exact tw_endi hx hb hr hlocks hK hT hS hQ ((iv_mono h_x1 (by decide) (by decide))) dX12_best_129
      · have q17 : x3.toInt < 3 := ti_nle c9
        have h18 : iv 0 2 x3 := iv_ltL (y := 3) h_x3 (iv_c (c := 3) (n := 3) (by decide)) q17 (by decide)
        refine lv_aload_n hx hb dX12_best_14 rfl (lv_at hl 3 rfl) ?_
        refine tw_getr hx hb hW hown hK hS f_X12_81_11 hz_a0 hk_a0 (t := 14) (n := 6561) rfl dX12_best_15 (fun b19 k20 hz_b19 hk_b19 hn_b19 => ?_)
        have hn_b19 := hn_b19 (by decide)
        refine lv_bipush (v := 9) hx hb dX12_best_18 (by decide) ?_
        refine lv_iload_n hx hb dX12_best_20 rfl (lv_at hl 4 rfl) ?_
        refine tw_icmul (k := 9) (lo := 0) (hi := 6552) hx hb (by decide) h_a1 (by decide) ⟨by decide, by decide⟩ ⟨by decide, by decide⟩ dX12_best_21 (fun x23 e22 h21 => ?_)
        refine lv_iconst (v := 3) hx hb dX12_best_22 (by decide) ?_
        refine lv_iload hx hb dX12_best_23 (lv_at hl 2 rfl) ?_
        refine tw_icmul (k := 3) (lo := 0) (hi := 6) hx hb (by decide) h18 (by decide) ⟨by decide, by decide⟩ ⟨by decide, by decide⟩ dX12_best_25 (fun x26 e25 h24 => ?_)
        refine tw_iadd (lo := 0) (hi := 6558) hx hb h21 h24 ⟨by decide, by decide⟩ ⟨by decide, by decide⟩ dX12_best_26 (fun x29 e28 h27 => ?_)
        refine tw_iald hx hb hK hS hz_b19 hk_b19 (Or.inl rfl) hn_b19 (lo := (-2147483648)) (hi := 2147483647) h27 ⟨by decide, by decide⟩ rg_u14 dX12_best_27 (fun x32 k31 h30 => ?_)
        refine lv_istore (lv' := [(6, .int x32), (3, .int x1), (4, .int x2), (5, .int x3), (0, .ref (base + a0)), (1, .int a1), (2, .int a2)]) hx hb dX12_best_28 hl (by decide) rfl (fun ls hl => ?_)
        refine lv_iconst (v := 1) hx hb dX12_best_30 (by decide) ?_
        refine lv_istore (lv' := [(7, .int 1), (6, .int x32), (3, .int x1), (4, .int x2), (5, .int x3), (0, .ref (base + a0)), (1, .int a1), (2, .int a2)]) hx hb dX12_best_31 hl (by decide) rfl (fun ls hl => ?_)
        have W33_35 : ∀ (n_35 : Nat) (x33 : Int32) (x34 : Int32) (M35 : MT) (R36 : RT) (J37 : JT) (H : Heap) (locs : List Loc) (ls : Array Slot) (h_x33 : iv (-2147483648) 2147483647 x33) (h_x34 : iv 1 3 x34) (hm_35 : 3 - x34.toInt < (n_35 : Int)) (hS : SB D cy base Z K N Lt_X12_best LRt_X12_best Ma Ra M35 R36 J37 s H locs) (hl : lv_has ls 8 [(6, .int x33), (7, .int x34), (3, .int x1), (4, .int x2), (5, .int x3), (0, .ref (base + a0)), (1, .int a1), (2, .int a2)]), W p l e (md_rm 1 0 0) s m args below meth c H locs 0 0 Q (F0 m 33 ls []) := by
          intro n_35
          induction n_35 with
          | zero =>
            intro x33 x34 M35 R36 J37 H locs ls h_x33 h_x34 hm_35 hS hl
            exfalso
            have := (h_a1).1; have := (h_a1).2; have := (h_a2).1; have := (h_a2).2; have := (h_x34).1; have := (h_x34).2; omega
          | succ n_35 ih_35 =>
            intro x33 x34 M35 R36 J37 H locs ls h_x33 h_x34 hm_35 hS hl
            have f38 := hS.2.2.1
            have g39 := hS.2.2.2
            refine lv_iload hx hb dX12_best_33 (lv_at hl 1 rfl) ?_
            refine lv_iconst (v := 3) hx hb dX12_best_35 (by decide) ?_
            refine lv_icmp_ge (tgt := 91) hx hb dX12_best_36 (by decide) (fun c40 => ?_) (fun c40 => ?_)
            · have q41 : 3 ≤ x34.toInt := ti_le c40
              have h42 : iv 3 3 x34 := iv_geL (y := 3) h_x34 (iv_c (c := 3) (n := 3) (by decide)) q41 (by decide)
              refine lv_iload hx hb dX12_best_91 (lv_at hl 4 rfl) ?_
              refine lv_if_le (tgt := 106) hx hb dX12_best_93 (by decide) (fun c43 => ?_) (fun c43 => ?_)
              · have q44 : x3.toInt ≤ 0 := ti_le c43
                have h45 : iv 0 0 x3 := iv_leL (y := 0) h18 (iv_c (c := 0) (n := 0) (by decide)) q44 (by decide)
                refine lv_iload hx hb dX12_best_106 (lv_at hl 4 rfl) ?_
                refine lv_istore_n (lv' := [(3, .int x3), (6, .int x33), (7, .int x34), (4, .int x2), (5, .int x3), (0, .ref (base + a0)), (1, .int a1), (2, .int a2)]) hx hb dX12_best_108 rfl hl (by decide) rfl (fun ls hl => ?_)
                refine lv_iload hx hb dX12_best_109 (lv_at hl 1 rfl) ?_
                refine lv_istore (lv' := [(4, .int x33), (3, .int x3), (6, .int x33), (7, .int x34), (5, .int x3), (0, .ref (base + a0)), (1, .int a1), (2, .int a2)]) hx hb dX12_best_111 hl (by decide) rfl (fun ls hl => ?_)
                refine tw_iinc (lv' := fun x48 => [(5, .int x48), (4, .int x33), (3, .int x3), (6, .int x33), (7, .int x34), (0, .ref (base + a0)), (1, .int a1), (2, .int a2)]) (lo := 1) (hi := 1) hx hb dX12_best_113 hl (k := 4) rfl h45 (by decide) ⟨by decide, by decide⟩ ⟨by decide, by decide⟩ (by decide) (fun _ => rfl) (fun x48 ls e47 h46 hl => ?_)
                refine lv_goto (tgt := 8) hx hb dX12_best_116 (by decide) ?_
                have hm49 : 3 - x48.toInt < (n_4 : Int) := by
                  have := (h_a1).1; have := (h_a1).2; have := (h_a2).1; have := (h_a2).2; have := (h24).1; have := (h24).2; have := (h45).1; have := (h45).2; have := (h46).1; have := (h46).2; omega
                exact ih_4 x3 x33 x48 M35 R36 J37 H locs _ (iv_mono h45 (by decide) (by decide)) h_x33 (iv_mono h46 (by decide) (by decide)) hm49 hS (lv_sub hl [2, 1, 0, 5, 6, 7] rfl)
              · have q50 : 0 < x3.toInt := ti_nle c43
                have h51 : iv 1 2 x3 := iv_gtL (y := 0) h18 (iv_c (c := 0) (n := 0) (by decide)) q50 (by decide)
                refine lv_iload hx hb dX12_best_96 (lv_at hl 0 rfl) ?_
                refine lv_iload hx hb dX12_best_98 (lv_at hl 3 rfl) ?_
                refine lv_icmp_gt (tgt := 106) hx hb dX12_best_100 (by decide) (fun c52 => ?_) (fun c52 => ?_)
                · have q53 : x2.toInt < x33.toInt := ti_lt c52
                  have h54 : iv (-2147483647) 2147483647 x33 := iv_gtL (y := x2) h_x33 h_x2 q53 (by decide)
                  have h55 : iv (-2147483648) 2147483646 x2 := iv_ltL (y := x33) h_x2 h_x33 q53 (by decide)
                  refine lv_iload hx hb dX12_best_106 (lv_at hl 4 rfl) ?_
                  refine lv_istore_n (lv' := [(3, .int x3), (6, .int x33), (7, .int x34), (4, .int x2), (5, .int x3), (0, .ref (base + a0)), (1, .int a1), (2, .int a2)]) hx hb dX12_best_108 rfl hl (by decide) rfl (fun ls hl => ?_)
                  refine lv_iload hx hb dX12_best_109 (lv_at hl 1 rfl) ?_
                  refine lv_istore (lv' := [(4, .int x33), (3, .int x3), (6, .int x33), (7, .int x34), (5, .int x3), (0, .ref (base + a0)), (1, .int a1), (2, .int a2)]) hx hb dX12_best_111 hl (by decide) rfl (fun ls hl => ?_)
                  refine tw_iinc (lv' := fun x58 => [(5, .int x58), (4, .int x33), (3, .int x3), (6, .int x33), (7, .int x34), (0, .ref (base + a0)), (1, .int a1), (2, .int a2)]) (lo := 2) (hi := 3) hx hb dX12_best_113 hl (k := 4) rfl h51 (by decide) ⟨by decide, by decide⟩ ⟨by decide, by decide⟩ (by decide) (fun _ => rfl) (fun x58 ls e57 h56 hl => ?_)
                  refine lv_goto (tgt := 8) hx hb dX12_best_116 (by decide) ?_
                  have hm59 : 3 - x58.toInt < (n_4 : Int) := by
                    have := (h_a1).1; have := (h_a1).2; have := (h_a2).1; have := (h_a2).2; have := (h24).1; have := (h24).2; have := (h51).1; have := (h51).2; have := (h56).1; have := (h56).2; omega
                  exact ih_4 x3 x33 x58 M35 R36 J37 H locs _ (iv_mono h51 (by decide) (by decide)) (iv_mono h54 (by decide) (by decide)) (iv_mono h56 (by decide) (by decide)) hm59 hS (lv_sub hl [2, 1, 0, 5, 6, 7] rfl)
                · have q60 : x33.toInt ≤ x2.toInt := ti_nlt c52
                  refine lv_goto (tgt := 113) hx hb dX12_best_103 (by decide) ?_
                  refine tw_iinc (lv' := fun x63 => [(5, .int x63), (6, .int x33), (7, .int x34), (3, .int x1), (4, .int x2), (0, .ref (base + a0)), (1, .int a1), (2, .int a2)]) (lo := 2) (hi := 3) hx hb dX12_best_113 hl (k := 4) rfl h51 (by decide) ⟨by decide, by decide⟩ ⟨by decide, by decide⟩ (by decide) (fun _ => rfl) (fun x63 ls e62 h61 hl => ?_)
                  refine lv_goto (tgt := 8) hx hb dX12_best_116 (by decide) ?_
                  have hm64 : 3 - x63.toInt < (n_4 : Int) := by
                    have := (h_a1).1; have := (h_a1).2; have := (h_a2).1; have := (h_a2).2; have := (h24).1; have := (h24).2; have := (h51).1; have := (h51).2; have := (h61).1; have := (h61).2; omega
                  exact ih_4 x1 x2 x63 M35 R36 J37 H locs _ h_x1 h_x2 (iv_mono h61 (by decide) (by decide)) hm64 hS (lv_sub hl [3, 4, 0, 5, 6, 7] rfl)
            · have q65 : x34.toInt < 3 := ti_nle c40
              have h66 : iv 1 2 x34 := iv_ltL (y := 3) h_x34 (iv_c (c := 3) (n := 3) (by decide)) q65 (by decide)
              refine lv_aload_n hx hb dX12_best_39 rfl (lv_at hl 5 rfl) ?_
              refine tw_getr hx hb hW hown hK hS f_X12_81_11 hz_a0 hk_a0 (t := 14) (n := 6561) rfl dX12_best_40 (fun b67 k68 hz_b67 hk_b67 hn_b67 => ?_)
              have hn_b67 := hn_b67 (by decide)
              refine lv_bipush (v := 9) hx hb dX12_best_43 (by decide) ?_
              refine lv_iload_n hx hb dX12_best_45 rfl (lv_at hl 6 rfl) ?_
              refine tw_icmul (k := 9) (lo := 0) (hi := 6552) hx hb (by decide) h_a1 (by decide) ⟨by decide, by decide⟩ ⟨by decide, by decide⟩ dX12_best_46 (fun x71 e70 h69 => ?_)
              refine lv_iconst (v := 3) hx hb dX12_best_47 (by decide) ?_
              refine lv_iload hx hb dX12_best_48 (lv_at hl 4 rfl) ?_
              refine tw_icmul (k := 3) (lo := 0) (hi := 6) hx hb (by decide) h18 (by decide) ⟨by decide, by decide⟩ ⟨by decide, by decide⟩ dX12_best_50 (fun x74 e73 h72 => ?_)
              refine tw_iadd (lo := 0) (hi := 6558) hx hb h69 h72 ⟨by decide, by decide⟩ ⟨by decide, by decide⟩ dX12_best_51 (fun x77 e76 h75 => ?_)
              refine lv_iload hx hb dX12_best_52 (lv_at hl 1 rfl) ?_
              refine tw_iadd (lo := 1) (hi := 6560) hx hb h75 h66 ⟨by decide, by decide⟩ ⟨by decide, by decide⟩ dX12_best_54 (fun x80 e79 h78 => ?_)
              refine tw_iald hx hb hK hS hz_b67 hk_b67 (Or.inl rfl) hn_b67 (lo := (-2147483648)) (hi := 2147483647) h78 ⟨by decide, by decide⟩ rg_u14 dX12_best_55 (fun x83 k82 h81 => ?_)
              refine lv_iload hx hb dX12_best_56 (lv_at hl 0 rfl) ?_
              refine lv_icmp_ge (tgt := 81) hx hb dX12_best_58 (by decide) (fun c84 => ?_) (fun c84 => ?_)
              · have q85 : x33.toInt ≤ x83.toInt := ti_le c84
                refine lv_iload hx hb dX12_best_81 (lv_at hl 0 rfl) ?_
                refine lv_istore (lv' := [(6, .int x33), (7, .int x34), (3, .int x1), (4, .int x2), (5, .int x3), (0, .ref (base + a0)), (1, .int a1), (2, .int a2)]) hx hb dX12_best_83 hl (by decide) rfl (fun ls hl => ?_)
                refine tw_iinc (lv' := fun x88 => [(7, .int x88), (6, .int x33), (3, .int x1), (4, .int x2), (5, .int x3), (0, .ref (base + a0)), (1, .int a1), (2, .int a2)]) (lo := 2) (hi := 3) hx hb dX12_best_85 hl (k := 1) rfl h66 (by decide) ⟨by decide, by decide⟩ ⟨by decide, by decide⟩ (by decide) (fun _ => rfl) (fun x88 ls e87 h86 hl => ?_)
                refine lv_goto (tgt := 33) hx hb dX12_best_88 (by decide) ?_
                have hm89 : 3 - x88.toInt < (n_35 : Int) := by
                  have := (h_a1).1; have := (h_a1).2; have := (h_a2).1; have := (h_a2).2; have := (h66).1; have := (h66).2; have := (h78).1; have := (h78).2; have := (h86).1; have := (h86).2; omega
                exact ih_35 x33 x88 M35 R36 J37 H locs _ h_x33 (iv_mono h86 (by decide) (by decide)) hm89 hS (lv_sub hl [1, 0, 2, 3, 4, 5, 6, 7] rfl)
              · have q90 : x83.toInt < x33.toInt := ti_nle c84
                have h91 : iv (-2147483648) 2147483646 x83 := iv_ltL (y := x33) h81 h_x33 q90 (by decide)
                have h92 : iv (-2147483647) 2147483647 x33 := iv_gtL (y := x83) h_x33 h81 q90 (by decide)
                refine lv_aload_n hx hb dX12_best_61 rfl (lv_at hl 5 rfl) ?_
                refine tw_getrk hx hb hW hown hK hS f_X12_81_11 hz_a0 hk_a0 (b := b67) k68 dX12_best_62 ?_
                refine lv_bipush (v := 9) hx hb dX12_best_65 (by decide) ?_
                refine lv_iload_n hx hb dX12_best_67 rfl (lv_at hl 6 rfl) ?_
                refine tw_icmul (k := 9) (lo := 0) (hi := 6552) hx hb (by decide) h_a1 (by decide) ⟨by decide, by decide⟩ ⟨by decide, by decide⟩ dX12_best_68 (fun x95 e94 h93 => ?_)
                refine lv_iconst (v := 3) hx hb dX12_best_69 (by decide) ?_
                refine lv_iload hx hb dX12_best_70 (lv_at hl 4 rfl) ?_
                refine tw_icmul (k := 3) (lo := 0) (hi := 6) hx hb (by decide) h18 (by decide) ⟨by decide, by decide⟩ ⟨by decide, by decide⟩ dX12_best_72 (fun x98 e97 h96 => ?_)
                refine tw_iadd (lo := 0) (hi := 6558) hx hb h93 h96 ⟨by decide, by decide⟩ ⟨by decide, by decide⟩ dX12_best_73 (fun x101 e100 h99 => ?_)
                refine lv_iload hx hb dX12_best_74 (lv_at hl 1 rfl) ?_
                refine tw_iadd (lo := 1) (hi := 6560) hx hb h99 h66 ⟨by decide, by decide⟩ ⟨by decide, by decide⟩ dX12_best_76 (fun x104 e103 h102 => ?_)
                refine tw_iald hx hb hK hS hz_b67 hk_b67 (Or.inl rfl) hn_b67 (lo := (-2147483648)) (hi := 2147483647) h102 ⟨by decide, by decide⟩ rg_u14 dX12_best_77 (fun x107 k106 h105 => ?_)
                refine lv_goto (tgt := 83) hx hb dX12_best_78 (by decide) ?_
                refine lv_istore (lv' := [(6, .int x107), (7, .int x34), (3, .int x1), (4, .int x2), (5, .int x3), (0, .ref (base + a0)), (1, .int a1), (2, .int a2)]) hx hb dX12_best_83 hl (by decide) rfl (fun ls hl => ?_)
                refine tw_iinc (lv' := fun x110 => [(7, .int x110), (6, .int x107), (3, .int x1), (4, .int x2), (5, .int x3), (0, .ref (base + a0)), (1, .int a1), (2, .int a2)]) (lo := 2) (hi := 3) hx hb dX12_best_85 hl (k := 1) rfl h66 (by decide) ⟨by decide, by decide⟩ ⟨by decide, by decide⟩ (by decide) (fun _ => rfl) (fun x110 ls e109 h108 hl => ?_)
                refine lv_goto (tgt := 33) hx hb dX12_best_88 (by decide) ?_
                have hm111 : 3 - x110.toInt < (n_35 : Int) := by
                  have := (h_a1).1; have := (h_a1).2; have := (h_a2).1; have := (h_a2).2; have := (h102).1; have := (h102).2; have := (h108).1; have := (h108).2; have := (h66).1; have := (h66).2; have := (h78).1; have := (h78).2; omega
                exact ih_35 x107 x110 M35 R36 J37 H locs _ h105 (iv_mono h108 (by decide) (by decide)) hm111 hS (lv_sub hl [1, 0, 2, 3, 4, 5, 6, 7] rfl)
        have hm112 : 3 - (1 : Int32).toInt < (((3 : Nat) : Int) : Int) := by
          have := (h_a1).1; have := (h_a1).2; have := (h_a2).1; have := (h_a2).2; have : (1 : Int32).toInt = 1 := (by decide); omega
        exact W33_35 3 x32 1 M4 R5 J6 H locs _ h30 (iv_mono (iv_c (c := 1) (n := 1) (by decide)) (by decide) (by decide)) hm112 hS (lv_sub hl [1, 0, 2, 3, 4, 5, 6, 7] rfl)
  have hm113 : 3 - (0 : Int32).toInt < (((4 : Nat) : Int) : Int) := by
    have := (h_a1).1; have := (h_a1).2; have := (h_a2).1; have := (h_a2).2; have : (0 : Int32).toInt = 0 := (by decide); omega
  exact W8_4 4 0 0 0 Ma Ra Ja s.heap [] _ (iv_mono (iv_c (c := 0) (n := 0) (by decide)) (by decide) (by decide)) (iv_mono (iv_c (c := 0) (n := 0) (by decide)) (by decide) (by decide)) (iv_mono (iv_c (c := 0) (n := 0) (by decide)) (by decide) (by decide)) hm113 hS (lv_sub hl [2, 1, 0, 3, 4, 5] rfl)
def Lt_X12_canFit : WL := []
def LRt_X12_canFit : WL := []
set_option maxRecDepth 100000 in
set_option maxHeartbeats 4000000 in
theorem t_X12_canFit (l : Launch) (D : va_G) (cy : Nat → ClassId) (tx : (Nat → Nat) × (Nat → Nat)) (base Z : Nat) (K N : Nat → Nat) (Ma : MT) (Ra : RT) (Ja : JT) (hTy : Ty Z K N Ma Ra) (a0 : Nat) (hz_a0 : a0 < Z) (hk_a0 : K a0 = 12) (a1 : Int32) (h_a1 : iv (-2147483648) 2147483647 a1) (sd : Nat) (k_sd : Ra a0 25 = some sd) (e0 : Int32) (k_e0 : Ma sd (0 : Int32).toNatClampNeg = e0) (h_e0 : iv 0 10 e0) : Met l yX12_canFit [Cond.code yX12_canFit cX12_canFit 2 (some .boolean)] (md_rm 2 0 0) (va_Pc [.ref (base + a0), .int a1] (md_U D cy tx base Z K N Ma Ra Ja)) (mQi D cy tx base (fun r u => TP Z K N Lt_X12_canFit LRt_X12_canFit Ma Ra u ∧ (iv 0 1 r ∧ (¬ r = 0 → iv 1 5 e0) ∧ (¬ r = 0 → iv 1 6 a1)))) 0 0 (fun q => base ≤ q) := by
  refine tw_ofW (L := Lt_X12_canFit) (LR := LRt_X12_canFit) (by decide) (Nat.le_of_ble_eq_true rfl) hTy ?_
  intro p e s m args below meth c Q ls hx hb hr hlocks hown hml hW hK hT hS hQ hl
  have hl : lv_has ls 2 [(0, .ref (base + a0)), (1, .int a1)] := hl
  obtain ⟨hz_sd, hk_sd, hn_sd⟩ := hTy.refn hz_a0 hk_a0 (show rtR 12 25 = (23, 226, 0) from rfl) k_sd
  have hn_sd := hn_sd (by decide)
  refine lv_aload_n hx hb dX12_canFit_0 rfl (lv_at hl 0 rfl) ?_
  refine tw_getrk hx hb hW hown hK hS f_X12_45_11 hz_a0 hk_a0 (b := sd) k_sd dX12_canFit_1 ?_
  refine lv_iconst (v := 0) hx hb dX12_canFit_4 (by decide) ?_
  refine tw_ialk hx hb hK hS hz_sd hk_sd (Or.inr (by decide)) hn_sd (iv_c (c := 0) (n := 0) (by decide)) ⟨by decide, by decide⟩ (v := e0) k_e0 dX12_canFit_5 ?_
  refine lv_i2l hx hb dX12_canFit_6 rfl ?_
  refine lv_lconst (v := 1) hx hb dX12_canFit_7 (by decide) ?_
  refine lv_ldc2 hx hb hown (hW _ w_7_162 rfl) dX12_canFit_8 ?_
  refine tw_goi hS (md_runS (As := [.long e0.toInt64, .long 1, .long 5]) (rest := []) hx hb hml hown hW hK hT hS.1 (t_X12_in l D cy tx base Z K N Ma Ra Ja hS.2.1 (e0.toInt64) (1) (5)) s_X12_155 ⟨rfl, rfl, ⟨Nat.le_of_ble_eq_true rfl, Nat.le_of_ble_eq_true rfl⟩, ⟨Nat.le_of_ble_eq_true rfl, Nat.le_of_ble_eq_true rfl⟩⟩ rfl hl.1 rfl (Nat.le_of_ble_eq_true rfl) dX12_canFit_11) rfl rfl (fun x7 H locs M4 R5 J3 hS f1 g2 E6 => ?_)
  have eM4 := Fr.nil f1 rfl
  subst eM4
  have eR5 := Fr.nil g2 rfl
  subst eR5
  obtain ⟨h_x7, p8⟩ := E6
  have p9 := p8.1
  refine lv_if_eq (tgt := 33) hx hb dX12_canFit_14 (by decide) (fun c10 => ?_) (fun c10 => ?_)
  · have q11 : x7.toInt = 0 := ti_eq c10
    have q12 := p8.2 c10
    have q12 : e0.toInt < 1 ∨ 5 < e0.toInt := by rw [Int32.toInt_toInt64] at q12; exact q12
    have h13 : iv 0 0 x7 := ⟨by have := (h_x7).1; have := ((iv_c (c := 0) (n := 0) (by decide))).1; omega, by have := (h_x7).2; have := ((iv_c (c := 0) (n := 0) (by decide))).2; omega⟩
    refine lv_iconst (v := 0) hx hb dX12_canFit_33 (by decide) ?_
    exact tw_endz hx hb hr hlocks hK hT hS hQ rfl (⟨(iv_mono (iv_c (c := 0) (n := 0) (by decide)) (by decide) (by decide)), (fun h => absurd rfl h), (fun h => absurd rfl h)⟩) dX12_canFit_34
  · have q14 : ¬ x7.toInt = 0 := ti_ne c10
    have h15 : iv 1 1 x7 := ⟨by have := (h_x7).1; have := ((iv_c (c := 0) (n := 0) (by decide))).1; have := ((iv_c (c := 0) (n := 0) (by decide))).2; omega, by have := (h_x7).2; have := ((iv_c (c := 0) (n := 0) (by decide))).1; have := ((iv_c (c := 0) (n := 0) (by decide))).2; omega⟩
    have h16 : iv 1 5 e0 := in2iv (p9 c10) ((jv_c (x := 1) (n := 1) (by decide))).1 ((jv_c (x := 5) (n := 5) (by decide))).2
    refine lv_iload_n hx hb dX12_canFit_17 rfl (lv_at hl 1 rfl) ?_
    refine lv_i2l hx hb dX12_canFit_18 rfl ?_
    refine lv_lconst (v := 1) hx hb dX12_canFit_19 (by decide) ?_
    refine lv_ldc2 hx hb hown (hW _ w_8_120 rfl) dX12_canFit_20 ?_
    refine tw_goi hS (md_runS (As := [.long a1.toInt64, .long 1, .long 6]) (rest := []) hx hb hml hown hW hK hT hS.1 (t_X12_in l D cy tx base Z K N Ma Ra J3 hS.2.1 (a1.toInt64) (1) (6)) s_X12_155 ⟨rfl, rfl, ⟨Nat.le_of_ble_eq_true rfl, Nat.le_of_ble_eq_true rfl⟩, ⟨Nat.le_of_ble_eq_true rfl, Nat.le_of_ble_eq_true rfl⟩⟩ rfl hl.1 rfl (Nat.le_of_ble_eq_true rfl) dX12_canFit_23) rfl rfl (fun x23 H locs M20 R21 J19 hS f17 g18 E22 => ?_)
    have eM20 := Fr.nil f17 rfl
    subst eM20
    have eR21 := Fr.nil g18 rfl
    subst eR21
    obtain ⟨h_x23, p24⟩ := E22
    have p25 := p24.1
    refine lv_if_eq (tgt := 33) hx hb dX12_canFit_26 (by decide) (fun c26 => ?_) (fun c26 => ?_)
    · have q27 : x23.toInt = 0 := ti_eq c26
      have q28 := p24.2 c26
      have q28 : a1.toInt < 1 ∨ 6 < a1.toInt := by rw [Int32.toInt_toInt64] at q28; exact q28
      have h29 : iv 0 0 x23 := ⟨by have := (h_x23).1; have := ((iv_c (c := 0) (n := 0) (by decide))).1; omega, by have := (h_x23).2; have := ((iv_c (c := 0) (n := 0) (by decide))).2; omega⟩
      refine lv_iconst (v := 0) hx hb dX12_canFit_33 (by decide) ?_
      exact tw_endz hx hb hr hlocks hK hT hS hQ rfl (⟨(iv_mono (iv_c (c := 0) (n := 0) (by decide)) (by decide) (by decide)), (fun h => absurd rfl h), (fun h => absurd rfl h)⟩) dX12_canFit_34
    · have q30 : ¬ x23.toInt = 0 := ti_ne c26
      have h31 : iv 1 1 x23 := ⟨by have := (h_x23).1; have := ((iv_c (c := 0) (n := 0) (by decide))).1; have := ((iv_c (c := 0) (n := 0) (by decide))).2; omega, by have := (h_x23).2; have := ((iv_c (c := 0) (n := 0) (by decide))).1; have := ((iv_c (c := 0) (n := 0) (by decide))).2; omega⟩
      have h32 : iv 1 6 a1 := in2iv (p25 c26) ((jv_c (x := 1) (n := 1) (by decide))).1 ((jv_c (x := 6) (n := 6) (by decide))).2
      refine lv_iconst (v := 1) hx hb dX12_canFit_29 (by decide) ?_
      refine lv_goto (tgt := 34) hx hb dX12_canFit_30 (by decide) ?_
      exact tw_endz hx hb hr hlocks hK hT hS hQ rfl (⟨(iv_mono (iv_c (c := 1) (n := 1) (by decide)) (by decide) (by decide)), (fun _ => h16), (fun _ => h32)⟩) dX12_canFit_34
def Lt_X12_isAhead : WL := []
def LRt_X12_isAhead : WL := []
set_option maxRecDepth 100000 in
set_option maxHeartbeats 4000000 in
theorem t_X12_isAhead (l : Launch) (D : va_G) (cy : Nat → ClassId) (tx : (Nat → Nat) × (Nat → Nat)) (base Z : Nat) (K N : Nat → Nat) (Ma : MT) (Ra : RT) (Ja : JT) (hTy : Ty Z K N Ma Ra) (a0 : Nat) (hz_a0 : a0 < Z) (hk_a0 : K a0 = 12) (rm : Int32) (k_rm : Ma a0 30 = rm) (h_rm : iv 0 6 rm) : Met l yX12_isAhead [Cond.code yX12_isAhead cX12_isAhead 2 (some .boolean)] (md_rm 1 0 0) (va_Pc [.ref (base + a0)] (md_U D cy tx base Z K N Ma Ra Ja)) (mQi D cy tx base (fun r u => TP Z K N Lt_X12_isAhead LRt_X12_isAhead Ma Ra u ∧ (iv 0 1 r))) 0 0 (fun q => base ≤ q) := by
  refine tw_ofW (L := Lt_X12_isAhead) (LR := LRt_X12_isAhead) (by decide) (Nat.le_of_ble_eq_true rfl) hTy ?_
  intro p e s m args below meth c Q ls hx hb hr hlocks hown hml hW hK hT hS hQ hl
  have hl : lv_has ls 2 [(0, .ref (base + a0))] := hl
  refine lv_iconst (v := 0) hx hb dX12_isAhead_0 (by decide) ?_
  refine lv_istore_n (lv' := [(1, .int 0), (0, .ref (base + a0))]) hx hb dX12_isAhead_1 rfl hl (by decide) rfl (fun ls hl => ?_)
  have W2_2 : ∀ (n_2 : Nat) (x1 : Int32) (M2 : MT) (R3 : RT) (J4 : JT) (H : Heap) (locs : List Loc) (ls : Array Slot) (h_x1 : iv 0 6 x1) (hm_2 : 6 - x1.toInt < (n_2 : Int)) (hS : SB D cy base Z K N Lt_X12_isAhead LRt_X12_isAhead Ma Ra M2 R3 J4 s H locs) (hl : lv_has ls 2 [(1, .int x1), (0, .ref (base + a0))]), W p l e (md_rm 1 0 0) s m args below meth c H locs 0 0 Q (F0 m 2 ls []) := by
    intro n_2
    induction n_2 with
    | zero =>
      intro x1 M2 R3 J4 H locs ls h_x1 hm_2 hS hl
      exfalso
      have := (h_rm).1; have := (h_rm).2; have := (h_x1).1; have := (h_x1).2; omega
    | succ n_2 ih_2 =>
      intro x1 M2 R3 J4 H locs ls h_x1 hm_2 hS hl
      have f5 := hS.2.2.1
      have g6 := hS.2.2.2
      refine lv_iload_n hx hb dX12_isAhead_2 rfl (lv_at hl 0 rfl) ?_
      refine lv_aload_n hx hb dX12_isAhead_3 rfl (lv_at hl 1 rfl) ?_
      have k7 : M2 a0 30 = rm := (Fr.kp (k := 30) f5 hk_a0 rfl).trans k_rm
      refine tw_getk hx hb hW hown hK hS f_X12_351_11 hz_a0 hk_a0 (v := rm) k7 dX12_isAhead_4 ?_
      refine lv_icmp_ge (tgt := 52) hx hb dX12_isAhead_7 (by decide) (fun c8 => ?_) (fun c8 => ?_)
      · have q9 : rm.toInt ≤ x1.toInt := ti_le c8
        refine lv_iconst (v := 0) hx hb dX12_isAhead_52 (by decide) ?_
        exact tw_endz hx hb hr hlocks hK hT hS hQ rfl ((iv_mono (iv_c (c := 0) (n := 0) (by decide)) (by decide) (by decide))) dX12_isAhead_53
      · have q10 : x1.toInt < rm.toInt := ti_nle c8
        have h11 : iv 0 5 x1 := iv_ltL (y := rm) h_x1 h_rm q10 (by decide)
        have h12 : iv 1 6 rm := iv_gtL (y := x1) h_rm h_x1 q10 (by decide)
        refine lv_aload_n hx hb dX12_isAhead_10 rfl (lv_at hl 1 rfl) ?_
        refine tw_getr hx hb hW hown hK hS f_X12_54_11 hz_a0 hk_a0 (t := 31) (n := 8) rfl dX12_isAhead_11 (fun b13 k14 hz_b13 hk_b13 hn_b13 => ?_)
        have hn_b13 := hn_b13 (by decide)
        refine lv_iload_n hx hb dX12_isAhead_14 rfl (lv_at hl 0 rfl) ?_
        refine tw_iald hx hb hK hS hz_b13 hk_b13 (Or.inr (by decide)) hn_b13 (lo := 0) (hi := 11) h11 ⟨by decide, by decide⟩ rg_u31 dX12_isAhead_15 (fun x17 k16 h15 => ?_)
        refine lv_aload_n hx hb dX12_isAhead_16 rfl (lv_at hl 1 rfl) ?_
        refine tw_getr hx hb hW hown hK hS f_X12_87_11 hz_a0 hk_a0 (t := 14) (n := 6) rfl dX12_isAhead_17 (fun b18 k19 hz_b18 hk_b18 hn_b18 => ?_)
        have hn_b18 := hn_b18 (by decide)
        refine lv_iload_n hx hb dX12_isAhead_20 rfl (lv_at hl 0 rfl) ?_
        refine tw_iald hx hb hK hS hz_b18 hk_b18 (Or.inl rfl) hn_b18 (lo := (-2147483648)) (hi := 2147483647) h11 ⟨by decide, by decide⟩ rg_u14 dX12_isAhead_21 (fun x22 k21 h20 => ?_)
        refine lv_icmp_eq (tgt := 46) hx hb dX12_isAhead_22 (by decide) (fun c23 => ?_) (fun c23 => ?_)
        · have q24 : x17.toInt = x22.toInt := ti_eq c23
          have h25 : iv 0 11 x22 := ⟨by have := (h15).1; have := (h20).1; omega, by have := (h15).2; have := (h20).2; omega⟩
          refine tw_iinc (lv' := fun x28 => [(1, .int x28), (0, .ref (base + a0))]) (lo := 1) (hi := 6) hx hb dX12_isAhead_46 hl (k := 0) rfl h11 (by decide) ⟨by decide, by decide⟩ ⟨by decide, by decide⟩ (by decide) (fun _ => rfl) (fun x28 ls e27 h26 hl => ?_)
          refine lv_goto (tgt := 2) hx hb dX12_isAhead_49 (by decide) ?_
          have hm29 : 6 - x28.toInt < (n_2 : Int) := by
            have := (h12).1; have := (h12).2; have := (h11).1; have := (h11).2; have := (h26).1; have := (h26).2; omega
          exact ih_2 x28 M2 R3 J4 H locs _ (iv_mono h26 (by decide) (by decide)) hm29 hS hl
        · have q30 : ¬ x17.toInt = x22.toInt := ti_ne c23
          refine lv_aload_n hx hb dX12_isAhead_25 rfl (lv_at hl 1 rfl) ?_
          refine tw_getrk hx hb hW hown hK hS f_X12_54_11 hz_a0 hk_a0 (b := b13) k14 dX12_isAhead_26 ?_
          refine lv_iload_n hx hb dX12_isAhead_29 rfl (lv_at hl 0 rfl) ?_
          refine tw_ialk hx hb hK hS hz_b13 hk_b13 (Or.inr (by decide)) hn_b13 h11 ⟨by decide, by decide⟩ (v := x17) k16 dX12_isAhead_30 ?_
          refine lv_aload_n hx hb dX12_isAhead_31 rfl (lv_at hl 1 rfl) ?_
          refine tw_getrk hx hb hW hown hK hS f_X12_87_11 hz_a0 hk_a0 (b := b18) k19 dX12_isAhead_32 ?_
          refine lv_iload_n hx hb dX12_isAhead_35 rfl (lv_at hl 0 rfl) ?_
          refine tw_ialk hx hb hK hS hz_b18 hk_b18 (Or.inl rfl) hn_b18 h11 ⟨by decide, by decide⟩ (v := x22) k21 dX12_isAhead_36 ?_
          refine lv_icmp_ge (tgt := 44) hx hb dX12_isAhead_37 (by decide) (fun c31 => ?_) (fun c31 => ?_)
          · have q32 : x22.toInt ≤ x17.toInt := ti_le c31
            have h33 : iv (-2147483648) 11 x22 := iv_leL (y := x17) h20 h15 q32 (by decide)
            refine lv_iconst (v := 0) hx hb dX12_isAhead_44 (by decide) ?_
            exact tw_endz hx hb hr hlocks hK hT hS hQ rfl ((iv_mono (iv_c (c := 0) (n := 0) (by decide)) (by decide) (by decide))) dX12_isAhead_45
          · have q34 : x17.toInt < x22.toInt := ti_nle c31
            have h35 : iv 1 2147483647 x22 := iv_gtL (y := x17) h20 h15 q34 (by decide)
            refine lv_iconst (v := 1) hx hb dX12_isAhead_40 (by decide) ?_
            refine lv_goto (tgt := 45) hx hb dX12_isAhead_41 (by decide) ?_
            exact tw_endz hx hb hr hlocks hK hT hS hQ rfl ((iv_mono (iv_c (c := 1) (n := 1) (by decide)) (by decide) (by decide))) dX12_isAhead_45
  have hm36 : 6 - (0 : Int32).toInt < (((7 : Nat) : Int) : Int) := by
    have := (h_rm).1; have := (h_rm).2; have : (0 : Int32).toInt = 0 := (by decide); omega
  exact W2_2 7 0 Ma Ra Ja s.heap [] _ (iv_mono (iv_c (c := 0) (n := 0) (by decide)) (by decide) (by decide)) hm36 hS hl
def Lt_X12_isRow : WL := [(33, 0, 2000000)]
def LRt_X12_isRow : WL := []
set_option maxRecDepth 100000 in
set_option maxHeartbeats 4000000 in
theorem t_X12_isRow (l : Launch) (D : va_G) (cy : Nat → ClassId) (tx : (Nat → Nat) × (Nat → Nat)) (base Z : Nat) (K N : Nat → Nat) (Ma : MT) (Ra : RT) (Ja : JT) (hTy : Ty Z K N Ma Ra) (a0 : Nat) (hz_a0 : a0 < Z) (hk_a0 : K a0 = 12) (a1 : Int32) (h_a1 : iv 0 2147483647 a1) (a2 : Int32) (h_a2 : iv 1 6 a2) : Met l yX12_isRow [Cond.code yX12_isRow cX12_isRow 6 (some .boolean)] (md_rm 1 0 0) (va_Pc [.ref (base + a0), .int a1, .int a2] (md_U D cy tx base Z K N Ma Ra Ja)) (mQi D cy tx base (fun r u => TP Z K N Lt_X12_isRow LRt_X12_isRow Ma Ra u ∧ (iv 0 1 r))) 0 0 (fun q => base ≤ q) := by
  refine tw_ofW (L := Lt_X12_isRow) (LR := LRt_X12_isRow) (by decide) (Nat.le_of_ble_eq_true rfl) hTy ?_
  intro p e s m args below meth c Q ls hx hb hr hlocks hown hml hW hK hT hS hQ hl
  have hl : lv_has ls 6 [(0, .ref (base + a0)), (1, .int a1), (2, .int a2)] := hl
  refine lv_iload_n hx hb dX12_isRow_0 rfl (lv_at hl 1 rfl) ?_
  refine lv_istore_n (lv' := [(3, .int a1), (0, .ref (base + a0)), (1, .int a1), (2, .int a2)]) hx hb dX12_isRow_1 rfl hl (by decide) rfl (fun ls hl => ?_)
  refine lv_iconst (v := 0) hx hb dX12_isRow_2 (by decide) ?_
  refine lv_istore (lv' := [(4, .int 0), (3, .int a1), (0, .ref (base + a0)), (1, .int a1), (2, .int a2)]) hx hb dX12_isRow_3 hl (by decide) rfl (fun ls hl => ?_)
  refine lv_iload_n hx hb dX12_isRow_5 rfl (lv_at hl 4 rfl) ?_
  refine lv_iconst (v := 1) hx hb dX12_isRow_6 (by decide) ?_
  refine tw_isub (lo := 0) (hi := 5) hx hb h_a2 (iv_c (c := 1) (n := 1) (by decide)) ⟨by decide, by decide⟩ ⟨by decide, by decide⟩ dX12_isRow_7 (fun x3 e2 h1 => ?_)
  have e2 : x3.toInt = a2.toInt - 1 := e2
  refine lv_istore (lv' := [(5, .int x3), (4, .int 0), (3, .int a1), (0, .ref (base + a0)), (1, .int a1), (2, .int a2)]) hx hb dX12_isRow_8 hl (by decide) rfl (fun ls hl => ?_)
  have W10_7 : ∀ (n_7 : Nat) (x4 : Int32) (x5 : Int32) (x6 : Int32) (M7 : MT) (R8 : RT) (J9 : JT) (H : Heap) (locs : List Loc) (ls : Array Slot) (h_x4 : iv 0 2147483647 x4) (h_x5 : iv (-2147483648) 2147483647 x5) (h_x6 : iv (-1) 5 x6) (hm_7 : x6.toInt - (-1) < (n_7 : Int)) (hS : SB D cy base Z K N Lt_X12_isRow LRt_X12_isRow Ma Ra M7 R8 J9 s H locs) (hl : lv_has ls 6 [(3, .int x4), (4, .int x5), (5, .int x6), (0, .ref (base + a0)), (1, .int a1), (2, .int a2)]), W p l e (md_rm 1 0 0) s m args below meth c H locs 0 0 Q (F0 m 10 ls []) := by
    intro n_7
    induction n_7 with
    | zero =>
      intro x4 x5 x6 M7 R8 J9 H locs ls h_x4 h_x5 h_x6 hm_7 hS hl
      exfalso
      have := (h_a1).1; have := (h_a1).2; have := (h_a2).1; have := (h_a2).2; have := (h_x6).1; have := (h_x6).2; omega
    | succ n_7 ih_7 =>
      intro x4 x5 x6 M7 R8 J9 H locs ls h_x4 h_x5 h_x6 hm_7 hS hl
      have f10 := hS.2.2.1
      have g11 := hS.2.2.2
      refine lv_iload hx hb dX12_isRow_10 (lv_at hl 2 rfl) ?_
      refine lv_if_lt (tgt := 49) hx hb dX12_isRow_12 (by decide) (fun c12 => ?_) (fun c12 => ?_)
      · have q13 : x6.toInt < 0 := ti_lt c12
        have h14 : iv (-1) (-1) x6 := iv_ltL (y := 0) h_x6 (iv_c (c := 0) (n := 0) (by decide)) q13 (by decide)
        refine lv_iload hx hb dX12_isRow_49 (lv_at hl 1 rfl) ?_
        refine lv_iconst (v := 1) hx hb dX12_isRow_51 (by decide) ?_
        refine lv_iload_n hx hb dX12_isRow_52 rfl (lv_at hl 5 rfl) ?_
        refine lv_ishl hx hb dX12_isRow_53 ?_
        refine tw_top (fun x16 => ?_)
        have h15 := iv_any x16
        refine lv_iconst (v := 1) hx hb dX12_isRow_54 (by decide) ?_
        refine lv_isub hx hb dX12_isRow_55 ?_
        refine tw_top (fun x18 => ?_)
        have h17 := iv_any x18
        refine lv_icmp_ne (tgt := 63) hx hb dX12_isRow_56 (by decide) (fun c19 => ?_) (fun c19 => ?_)
        · have q20 : ¬ x5.toInt = x18.toInt := ti_ne c19
          refine lv_iconst (v := 0) hx hb dX12_isRow_63 (by decide) ?_
          exact tw_endz hx hb hr hlocks hK hT hS hQ rfl ((iv_mono (iv_c (c := 0) (n := 0) (by decide)) (by decide) (by decide))) dX12_isRow_64
        · have q21 : x5.toInt = x18.toInt := ti_eq c19
          refine lv_iconst (v := 1) hx hb dX12_isRow_59 (by decide) ?_
          refine lv_goto (tgt := 64) hx hb dX12_isRow_60 (by decide) ?_
          exact tw_endz hx hb hr hlocks hK hT hS hQ rfl ((iv_mono (iv_c (c := 1) (n := 1) (by decide)) (by decide) (by decide))) dX12_isRow_64
      · have q22 : 0 ≤ x6.toInt := ti_nlt c12
        have h23 : iv 0 5 x6 := iv_geL (y := 0) h_x6 (iv_c (c := 0) (n := 0) (by decide)) q22 (by decide)
        refine lv_aload_n hx hb dX12_isRow_15 rfl (lv_at hl 3 rfl) ?_
        refine tw_getr hx hb hW hown hK hS f_X12_90_11 hz_a0 hk_a0 (t := 33) (n := 6) rfl dX12_isRow_16 (fun b24 k25 hz_b24 hk_b24 hn_b24 => ?_)
        have hn_b24 := hn_b24 (by decide)
        refine lv_iload hx hb dX12_isRow_19 (lv_at hl 2 rfl) ?_
        refine lv_iload_n hx hb dX12_isRow_21 rfl (lv_at hl 0 rfl) ?_
        refine lv_iload_n hx hb dX12_isRow_22 rfl (lv_at hl 5 rfl) ?_
        refine tw_irem (lo := 0) (hi := 5) hx hb h_x4 h_a2 ⟨by decide, by decide⟩ ⟨by decide, by decide⟩ dX12_isRow_23 (fun x28 e27 h26 => ?_)
        refine tw_iast hx hb hK hS hz_b24 hk_b24 (Or.inr (by decide)) hn_b24 h23 ⟨by decide, by decide⟩ h26 (rg_s33 ⟨by decide, by decide⟩) (jl := 0) (jh := 1999999) ⟨by decide, by decide⟩ rfl dX12_isRow_24 (fun H locs M31 hS k29 f30 => ?_)
        refine lv_iload_n hx hb dX12_isRow_25 rfl (lv_at hl 0 rfl) ?_
        refine lv_iload_n hx hb dX12_isRow_26 rfl (lv_at hl 5 rfl) ?_
        refine tw_idiv (lo := 0) (hi := 2147483647) hx hb h_x4 h_a2 ⟨by decide, by decide⟩ ⟨by decide, by decide⟩ dX12_isRow_27 (fun x34 e33 h32 => ?_)
        refine lv_istore_n (lv' := [(3, .int x34), (4, .int x5), (5, .int x6), (0, .ref (base + a0)), (1, .int a1), (2, .int a2)]) hx hb dX12_isRow_28 rfl hl (by decide) rfl (fun ls hl => ?_)
        refine lv_iload hx hb dX12_isRow_29 (lv_at hl 1 rfl) ?_
        refine lv_iconst (v := 1) hx hb dX12_isRow_31 (by decide) ?_
        refine lv_aload_n hx hb dX12_isRow_32 rfl (lv_at hl 3 rfl) ?_
        refine tw_getrk hx hb hW hown hK hS f_X12_90_11 hz_a0 hk_a0 (b := b24) k25 dX12_isRow_33 ?_
        refine lv_iload hx hb dX12_isRow_36 (lv_at hl 2 rfl) ?_
        refine tw_ialk hx hb hK hS hz_b24 hk_b24 (Or.inr (by decide)) hn_b24 h23 ⟨by decide, by decide⟩ (v := x28) k29 dX12_isRow_38 ?_
        refine lv_ishl hx hb dX12_isRow_39 ?_
        refine tw_top (fun x36 => ?_)
        have h35 := iv_any x36
        refine lv_ior hx hb dX12_isRow_40 ?_
        refine tw_top (fun x38 => ?_)
        have h37 := iv_any x38
        refine lv_istore (lv' := [(4, .int x38), (3, .int x34), (5, .int x6), (0, .ref (base + a0)), (1, .int a1), (2, .int a2)]) hx hb dX12_isRow_41 hl (by decide) rfl (fun ls hl => ?_)
        refine tw_iinc (lv' := fun x41 => [(5, .int x41), (4, .int x38), (3, .int x34), (0, .ref (base + a0)), (1, .int a1), (2, .int a2)]) (lo := (-1)) (hi := 4) hx hb dX12_isRow_43 hl (k := 2) rfl h23 (by decide) ⟨by decide, by decide⟩ ⟨by decide, by decide⟩ (by decide) (fun _ => rfl) (fun x41 ls e40 h39 hl => ?_)
        refine lv_goto (tgt := 10) hx hb dX12_isRow_46 (by decide) ?_
        have hm42 : x41.toInt - (-1) < (n_7 : Int) := by
          have := (h_a1).1; have := (h_a1).2; have := (h_a2).1; have := (h_a2).2; have := (h39).1; have := (h39).2; have := (h23).1; have := (h23).2; omega
        exact ih_7 x34 x38 x41 M31 R8 J9 H locs _ h32 h37 (iv_mono h39 (by decide) (by decide)) hm42 hS (lv_sub hl [2, 1, 0, 3, 4, 5] rfl)
  have hm43 : x3.toInt - (-1) < (((7 : Nat) : Int) : Int) := by
    have := (h_a1).1; have := (h_a1).2; have := (h_a2).1; have := (h_a2).2; have := (h1).1; have := (h1).2; omega
  exact W10_7 7 a1 0 x3 Ma Ra Ja s.heap [] _ h_a1 (iv_mono (iv_c (c := 0) (n := 0) (by decide)) (by decide) (by decide)) (iv_mono h1 (by decide) (by decide)) hm43 hS (lv_sub hl [2, 1, 0, 3, 4, 5] rfl)
def Lt_X12_counts : WL := [(12, 35, 37)]
def LRt_X12_counts : WL := []
set_option maxRecDepth 100000 in
set_option maxHeartbeats 4000000 in
theorem t_X12_counts (l : Launch) (D : va_G) (cy : Nat → ClassId) (tx : (Nat → Nat) × (Nat → Nat)) (base Z : Nat) (K N : Nat → Nat) (Ma : MT) (Ra : RT) (Ja : JT) (hTy : Ty Z K N Ma Ra) (a0 : Nat) (hz_a0 : a0 < Z) (hk_a0 : K a0 = 12) (a1 : Int32) (h_a1 : iv 0 9 a1) (a2 : Int32) (h_a2 : iv 0 11 a2) (a3 : Int32) (h_a3 : iv 0 2 a3) : Met l yX12_counts [Cond.code yX12_counts cX12_counts 4 none] (md_rm 2 0 0) (va_Pc [.ref (base + a0), .int a1, .int a2, .int a3] (md_U D cy tx base Z K N Ma Ra Ja)) (mQv D cy tx base (fun u => TP Z K N Lt_X12_counts LRt_X12_counts Ma Ra u ∧ (True))) 0 0 (fun q => base ≤ q) := by
  refine tw_ofW (L := Lt_X12_counts) (LR := LRt_X12_counts) (by decide) (Nat.le_of_ble_eq_true rfl) hTy ?_
  intro p e s m args below meth c Q ls hx hb hr hlocks hown hml hW hK hT hS hQ hl
  have hl : lv_has ls 4 [(0, .ref (base + a0)), (1, .int a1), (2, .int a2), (3, .int a3)] := hl
  refine lv_iload_n hx hb dX12_counts_0 rfl (lv_at hl 3 rfl) ?_
  refine lv_iconst (v := 1) hx hb dX12_counts_1 (by decide) ?_
  refine lv_icmp_eq (tgt := 6) hx hb dX12_counts_2 (by decide) (fun c1 => ?_) (fun c1 => ?_)
  · have q2 : a3.toInt = 1 := ti_eq c1
    have h3 : iv 1 1 a3 := ⟨by have := (h_a3).1; have := ((iv_c (c := 1) (n := 1) (by decide))).1; omega, by have := (h_a3).2; have := ((iv_c (c := 1) (n := 1) (by decide))).2; omega⟩
    refine lv_aload_n hx hb dX12_counts_6 rfl (lv_at hl 0 rfl) ?_
    refine lv_dup hx hb dX12_counts_7 rfl ?_
    refine tw_geti hx hb hW hown hK hS f_X12_407_11 hz_a0 hk_a0 (lo := (-2147483648)) (hi := 2147483647) rfl dX12_counts_8 (fun x6 k5 h4 => ?_)
    refine lv_iconst (v := 1) hx hb dX12_counts_11 (by decide) ?_
    refine lv_iadd hx hb dX12_counts_12 ?_
    refine tw_top (fun x8 => ?_)
    have h7 := iv_any x8
    refine tw_puti hx hb hW hown hK hS f_X12_407_11 hz_a0 hk_a0 rfl rfl (lo := (-2147483648)) (hi := 2147483647) rfl h7 rfl dX12_counts_13 (fun H locs M11 hS k9 f10 => ?_)
    refine lv_aload_n hx hb dX12_counts_16 rfl (lv_at hl 0 rfl) ?_
    refine lv_dup hx hb dX12_counts_17 rfl ?_
    refine tw_geti hx hb hW hown hK hS f_X12_410_11 hz_a0 hk_a0 (lo := (-2147483648)) (hi := 2147483647) rfl dX12_counts_18 (fun x14 k13 h12 => ?_)
    refine lv_aload_n hx hb dX12_counts_21 rfl (lv_at hl 0 rfl) ?_
    refine lv_iload_n hx hb dX12_counts_22 rfl (lv_at hl 1 rfl) ?_
    refine lv_iload_n hx hb dX12_counts_23 rfl (lv_at hl 2 rfl) ?_
    refine tw_goi hS (md_runV (As := [.int a1, .int a2]) (rest := [.int x14, .ref (base + a0)]) hx hb hml hown hW hK hT hS.1 (t_X12_worthOf l D cy tx base Z K N M11 Ra Ja hS.2.1 a0 hz_a0 hk_a0 a1 h_a1 a2 h_a2) s_X12_330 ⟨rfl, rfl, ⟨Nat.le_of_ble_eq_true rfl, Nat.le_of_ble_eq_true rfl⟩, ⟨Nat.le_of_ble_eq_true rfl, Nat.le_of_ble_eq_true rfl⟩⟩ hz_a0 hk_a0 (by decide) rfl rfl hl.1 rfl (Nat.le_of_ble_eq_true rfl) dX12_counts_24) rfl rfl (fun x21 H locs M18 R19 J17 hS f15 g16 E20 => ?_)
    have eM18 := Fr.nil f15 rfl
    subst eM18
    have eR19 := Fr.nil g16 rfl
    subst eR19
    have h_x21 := E20
    clear E20
    refine lv_iadd hx hb dX12_counts_27 ?_
    refine tw_top (fun x23 => ?_)
    have h22 := iv_any x23
    refine tw_puti hx hb hW hown hK hS f_X12_410_11 hz_a0 hk_a0 rfl rfl (lo := (-2147483648)) (hi := 2147483647) rfl h22 rfl dX12_counts_28 (fun H locs M26 hS k24 f25 => ?_)
    exact tw_endv hx hb hr hlocks hK hT hS hQ (trivial) dX12_counts_31
  · have q27 : ¬ a3.toInt = 1 := ti_ne c1
    exact tw_endv hx hb hr hlocks hK hT hS hQ (trivial) dX12_counts_5
def Lt_X12_passes : WL := [(12, 23, 24), (12, 28, 29), (12, 31, 33), (12, 35, 37), (14, 0, 2000000), (30, 0, 2000000)]
def LRt_X12_passes : WL := []
set_option maxRecDepth 100000 in
set_option maxHeartbeats 4000000 in
theorem t_X12_passes (l : Launch) (D : va_G) (cy : Nat → ClassId) (tx : (Nat → Nat) × (Nat → Nat)) (base Z : Nat) (K N : Nat → Nat) (Ma : MT) (Ra : RT) (Ja : JT) (hTy : Ty Z K N Ma Ra) (a0 : Nat) (hz_a0 : a0 < Z) (hk_a0 : K a0 = 12) (a1 : Int32) (h_a1 : iv 0 9 a1) (co_a0 : Codes Ma Ra a0) : Met l yX12_passes [Cond.code yX12_passes cX12_passes 3 none] (md_rm 5 0 0) (va_Pc [.ref (base + a0), .int a1] (md_U D cy tx base Z K N Ma Ra Ja)) (mQv D cy tx base (fun u => TP Z K N Lt_X12_passes LRt_X12_passes Ma Ra u ∧ (True))) 0 0 (fun q => base ≤ q) := by
  refine tw_ofW (L := Lt_X12_passes) (LR := LRt_X12_passes) (by decide) (Nat.le_of_ble_eq_true rfl) hTy ?_
  intro p e s m args below meth c Q ls hx hb hr hlocks hown hml hW hK hT hS hQ hl
  have hl : lv_has ls 3 [(0, .ref (base + a0)), (1, .int a1)] := hl
  refine lv_iconst (v := 0) hx hb dX12_passes_0 (by decide) ?_
  refine lv_istore_n (lv' := [(2, .int 0), (0, .ref (base + a0)), (1, .int a1)]) hx hb dX12_passes_1 rfl hl (by decide) rfl (fun ls hl => ?_)
  have W2_2 : ∀ (n_2 : Nat) (x1 : Int32) (M2 : MT) (R3 : RT) (J4 : JT) (H : Heap) (locs : List Loc) (ls : Array Slot) (h_x1 : iv 0 8 x1) (hm_2 : 8 - x1.toInt < (n_2 : Int)) (hS : SB D cy base Z K N Lt_X12_passes LRt_X12_passes Ma Ra M2 R3 J4 s H locs) (hl : lv_has ls 3 [(2, .int x1), (0, .ref (base + a0)), (1, .int a1)]), W p l e (md_rm 5 0 0) s m args below meth c H locs 0 0 Q (F0 m 2 ls []) := by
    intro n_2
    induction n_2 with
    | zero =>
      intro x1 M2 R3 J4 H locs ls h_x1 hm_2 hS hl
      exfalso
      have := (h_a1).1; have := (h_a1).2; have := (h_x1).1; have := (h_x1).2; omega
    | succ n_2 ih_2 =>
      intro x1 M2 R3 J4 H locs ls h_x1 hm_2 hS hl
      have f5 := hS.2.2.1
      have g6 := hS.2.2.2
      refine lv_iload_n hx hb dX12_passes_2 rfl (lv_at hl 0 rfl) ?_
      refine lv_aload_n hx hb dX12_passes_3 rfl (lv_at hl 1 rfl) ?_
      refine tw_geti hx hb hW hown hK hS f_X12_351_11 hz_a0 hk_a0 (lo := 0) (hi := 8) rfl dX12_passes_4 (fun x9 k8 h7 => ?_)
      refine lv_icmp_ge (tgt := 42) hx hb dX12_passes_7 (by decide) (fun c10 => ?_) (fun c10 => ?_)
      · have q11 : x9.toInt ≤ x1.toInt := ti_le c10
        exact tw_endv hx hb hr hlocks hK hT hS hQ (trivial) dX12_passes_42
      · have q12 : x1.toInt < x9.toInt := ti_nle c10
        have h13 : iv 0 7 x1 := iv_ltL (y := x9) h_x1 h7 q12 (by decide)
        have h14 : iv 1 8 x9 := iv_gtL (y := x1) h7 h_x1 q12 (by decide)
        refine lv_aload_n hx hb dX12_passes_10 rfl (lv_at hl 1 rfl) ?_
        refine lv_aload_n hx hb dX12_passes_11 rfl (lv_at hl 1 rfl) ?_
        refine tw_getr hx hb hW hown hK hS f_X12_54_11 hz_a0 hk_a0 (t := 31) (n := 8) rfl dX12_passes_12 (fun b15 k16 hz_b15 hk_b15 hn_b15 => ?_)
        have hn_b15 := hn_b15 (by decide)
        refine lv_iload_n hx hb dX12_passes_15 rfl (lv_at hl 0 rfl) ?_
        refine tw_iald hx hb hK hS hz_b15 hk_b15 (Or.inr (by decide)) hn_b15 (lo := 0) (hi := 11) h13 ⟨by decide, by decide⟩ rg_u31 dX12_passes_16 (fun x19 k18 h17 => ?_)
        refine lv_iload_n hx hb dX12_passes_17 rfl (lv_at hl 0 rfl) ?_
        refine tw_gov hS (md_runV (As := [.int x19, .int x1]) (rest := []) hx hb hml hown hW hK hT hS.1 (t_X12_asks l D cy tx base Z K N M2 R3 J4 hS.2.1 a0 hz_a0 hk_a0 x19 h17 x1 (iv_mono h13 (by decide) (by decide)) (Codes.fr co_a0 hTy hz_a0 hk_a0 hS.2.2.1 hS.2.2.2 rfl)) s_X12_396 ⟨rfl, rfl, ⟨Nat.le_of_ble_eq_true rfl, Nat.le_of_ble_eq_true rfl⟩, ⟨Nat.le_of_ble_eq_true rfl, Nat.le_of_ble_eq_true rfl⟩⟩ hz_a0 hk_a0 (by decide) rfl rfl hl.1 rfl (Nat.le_of_ble_eq_true rfl) dX12_passes_18) rfl rfl (fun H locs M23 R24 J22 hS f20 g21 E25 => ?_)
        have eR24 := Fr.nil g21 rfl
        subst eR24
        refine lv_aload_n hx hb dX12_passes_21 rfl (lv_at hl 1 rfl) ?_
        refine lv_iload_n hx hb dX12_passes_22 rfl (lv_at hl 2 rfl) ?_
        refine lv_aload_n hx hb dX12_passes_23 rfl (lv_at hl 1 rfl) ?_
        refine tw_getrk hx hb hW hown hK hS f_X12_54_11 hz_a0 hk_a0 (b := b15) k16 dX12_passes_24 ?_
        refine lv_iload_n hx hb dX12_passes_27 rfl (lv_at hl 0 rfl) ?_
        have k26 : M23 b15 x1.toNatClampNeg = x19 := (Fr.kpa f20 hk_b15 rfl x1.toNatClampNeg).trans k18
        refine tw_ialk hx hb hK hS hz_b15 hk_b15 (Or.inr (by decide)) hn_b15 h13 ⟨by decide, by decide⟩ (v := x19) k26 dX12_passes_28 ?_
        refine lv_aload_n hx hb dX12_passes_29 rfl (lv_at hl 1 rfl) ?_
        refine tw_goi hS (md_runV (As := []) (rest := [.int x19, .int a1, .ref (base + a0)]) hx hb hml hown hW hK hT hS.1 (t_X12_settles_ l D cy tx base Z K N M23 R3 J22 hS.2.1 a0 hz_a0 hk_a0) s_X12_399 ⟨rfl, rfl, ⟨Nat.le_of_ble_eq_true rfl, Nat.le_of_ble_eq_true rfl⟩, ⟨Nat.le_of_ble_eq_true rfl, Nat.le_of_ble_eq_true rfl⟩⟩ hz_a0 hk_a0 (by decide) rfl rfl hl.1 rfl (Nat.le_of_ble_eq_true rfl) dX12_passes_30) rfl rfl (fun x33 H locs M30 R31 J29 hS f27 g28 E32 => ?_)
        have eR31 := Fr.nil g28 rfl
        subst eR31
        have h_x33 := E32
        clear E32
        refine tw_gov hS (md_runV (As := [.int a1, .int x19, .int x33]) (rest := []) hx hb hml hown hW hK hT hS.1 (t_X12_counts l D cy tx base Z K N M30 R3 J29 hS.2.1 a0 hz_a0 hk_a0 a1 h_a1 x19 h17 x33 h_x33) s_X12_413 ⟨rfl, rfl, ⟨Nat.le_of_ble_eq_true rfl, Nat.le_of_ble_eq_true rfl⟩, ⟨Nat.le_of_ble_eq_true rfl, Nat.le_of_ble_eq_true rfl⟩⟩ hz_a0 hk_a0 (by decide) rfl rfl hl.1 rfl (Nat.le_of_ble_eq_true rfl) dX12_passes_33) rfl rfl (fun H locs M37 R38 J36 hS f34 g35 E39 => ?_)
        have eR38 := Fr.nil g35 rfl
        subst eR38
        refine tw_iinc (lv' := fun x42 => [(2, .int x42), (0, .ref (base + a0)), (1, .int a1)]) (lo := 1) (hi := 8) hx hb dX12_passes_36 hl (k := 0) rfl h13 (by decide) ⟨by decide, by decide⟩ ⟨by decide, by decide⟩ (by decide) (fun _ => rfl) (fun x42 ls e41 h40 hl => ?_)
        refine lv_goto (tgt := 2) hx hb dX12_passes_39 (by decide) ?_
        have hm43 : 8 - x42.toInt < (n_2 : Int) := by
          have := (h_a1).1; have := (h_a1).2; have := (h13).1; have := (h13).2; have := (h40).1; have := (h40).2; omega
        exact ih_2 x42 M37 R3 J36 H locs _ (iv_mono h40 (by decide) (by decide)) hm43 hS hl
  have hm44 : 8 - (0 : Int32).toInt < (((9 : Nat) : Int) : Int) := by
    have := (h_a1).1; have := (h_a1).2; have : (0 : Int32).toInt = 0 := (by decide); omega
  exact W2_2 9 0 Ma Ra Ja s.heap [] _ (iv_mono (iv_c (c := 0) (n := 0) (by decide)) (by decide) (by decide)) hm44 hS hl
