def Lt_X10_whichWord : WL := [(9, 4, 5)]
def LRt_X10_whichWord : WL := []
set_option maxRecDepth 100000 in
set_option maxHeartbeats 4000000 in
theorem t_X10_whichWord (l : Launch) (D : va_G) (cy : Nat → ClassId) (tx : (Nat → Nat) × (Nat → Nat)) (base Z : Nat) (K N : Nat → Nat) (Ma : MT) (Ra : RT) (Ja : JT) (hTy : Ty Z K N Ma Ra) (a0 : Nat) (hz_a0 : a0 < Z) (hk_a0 : K a0 = 9) (a1 : Nat) (hi_a1 : a1 < 6) (tb : Nat) (k_tb : Ra a0 0 = some tb) (ln : Int32) (k_ln : Ma a0 1 = ln) (h_ln : iv 0 400 ln) (pa : Int32) (k_pa : Ma a0 2 = pa) (h_pa : iv 0 1000 pa) : Met l yX10_whichWord [Cond.code yX10_whichWord cX10_whichWord 7 (some .int)] (md_rm 6 0 0) (va_Pc [.ref (base + a0), .ref (tx.1 a1)] (md_U D cy tx base Z K N Ma Ra Ja)) (mQi D cy tx base (fun r u => TP Z K N Lt_X10_whichWord LRt_X10_whichWord Ma Ra u ∧ (iv (-2147483648) 2147483647 r ∧ (∃ x0 : Int32, u.2.2.2.1 a0 4 = x0 ∧ iv 0 1000 x0 ∧ ((pa.toInt ≤ x0.toInt ∧ (x0.toInt ≤ ln.toInt ∨ x0.toInt = pa.toInt))))))) 0 0 (fun q => base ≤ q) := by
  refine tw_ofW (L := Lt_X10_whichWord) (LR := LRt_X10_whichWord) (by decide) (Nat.le_of_ble_eq_true rfl) hTy ?_
  intro p e s m args below meth c Q ls hx hb hr hlocks hown hml hW hK hT hS hQ hl
  have hl : lv_has ls 7 [(0, .ref (base + a0)), (1, .ref (tx.1 a1))] := hl
  obtain ⟨hz_tb, hk_tb, hn_tb⟩ := hTy.refn hz_a0 hk_a0 (show rtR 9 0 = (13, 400, 1) from rfl) k_tb
  have hn_tb := hn_tb (by decide)
  refine lv_aload_n hx hb dX10_whichWord_0 rfl (lv_at hl 0 rfl) ?_
  refine tw_getk hx hb hW hown hK hS f_X10_25_8 hz_a0 hk_a0 (v := pa) k_pa dX10_whichWord_1 ?_
  refine lv_istore_n (lv' := [(2, .int pa), (0, .ref (base + a0)), (1, .ref (tx.1 a1))]) hx hb dX10_whichWord_4 rfl hl (by decide) rfl (fun ls hl => ?_)
  have W5_2 : ∀ (n_2 : Nat) (x1 : Int32) (M2 : MT) (R3 : RT) (J4 : JT) (H : Heap) (locs : List Loc) (ls : Array Slot) (h_x1 : iv 0 1000 x1) (w0_2 : pa.toInt ≤ x1.toInt ∧ (x1.toInt ≤ ln.toInt ∨ x1.toInt = pa.toInt)) (hm_2 : 1000 - x1.toInt < (n_2 : Int)) (hS : SB D cy base Z K N Lt_X10_whichWord LRt_X10_whichWord Ma Ra M2 R3 J4 s H locs) (hl : lv_has ls 7 [(2, .int x1), (0, .ref (base + a0)), (1, .ref (tx.1 a1))]), W p l e (md_rm 6 0 0) s m args below meth c H locs 0 0 Q (F0 m 5 ls []) := by
    intro n_2
    induction n_2 with
    | zero =>
      intro x1 M2 R3 J4 H locs ls h_x1 w0_2 hm_2 hS hl
      exfalso
      have := (h_ln).1; have := (h_ln).2; have := (h_pa).1; have := (h_pa).2; have := (h_x1).1; have := (h_x1).2; omega
    | succ n_2 ih_2 =>
      intro x1 M2 R3 J4 H locs ls h_x1 w0_2 hm_2 hS hl
      have f5 := hS.2.2.1
      have g6 := hS.2.2.2
      refine lv_iload_n hx hb dX10_whichWord_5 rfl (lv_at hl 0 rfl) ?_
      refine lv_aload_n hx hb dX10_whichWord_6 rfl (lv_at hl 1 rfl) ?_
      have k7 : M2 a0 1 = ln := (Fr.kp (k := 1) f5 hk_a0 rfl).trans k_ln
      refine tw_getk hx hb hW hown hK hS f_X10_21_8 hz_a0 hk_a0 (v := ln) k7 dX10_whichWord_7 ?_
      have J41_8 : ∀  (M8 : MT) (R9 : RT) (J10 : JT) (H : Heap) (locs : List Loc) (ls : Array Slot) (w0_8 : pa.toInt ≤ x1.toInt ∧ (x1.toInt ≤ ln.toInt ∨ x1.toInt = pa.toInt)) (hS : SB D cy base Z K N Lt_X10_whichWord LRt_X10_whichWord Ma Ra M8 R9 J10 s H locs) (hl : lv_has ls 7 [(2, .int x1), (0, .ref (base + a0)), (1, .ref (tx.1 a1))]), W p l e (md_rm 6 0 0) s m args below meth c H locs 0 0 Q (F0 m 41 ls []) := by
        intro  M8 R9 J10 H locs ls w0_8 hS hl
        have f11 := hS.2.2.1
        have g12 := hS.2.2.2
        refine lv_aload_n hx hb dX10_whichWord_41 rfl (lv_at hl 1 rfl) ?_
        refine lv_iload_n hx hb dX10_whichWord_42 rfl (lv_at hl 0 rfl) ?_
        refine tw_puti hx hb hW hown hK hS f_X10_35_8 hz_a0 hk_a0 rfl rfl (lo := 0) (hi := 1000) rfl h_x1 rfl dX10_whichWord_43 (fun H locs M15 hS k13 f14 => ?_)
        refine lv_iconst (v := 0) hx hb dX10_whichWord_46 (by decide) ?_
        refine lv_istore_n (lv' := [(3, .int 0), (2, .int x1), (0, .ref (base + a0)), (1, .ref (tx.1 a1))]) hx hb dX10_whichWord_47 rfl hl (by decide) rfl (fun ls hl => ?_)
        refine lv_aload_n hx hb dX10_whichWord_48 rfl (lv_at hl 2 rfl) ?_
        have k16 : M15 a0 2 = pa := ((Fr.kp (k := 2) f14 hk_a0 rfl).trans (Fr.kp (k := 2) f11 hk_a0 rfl)).trans k_pa
        refine tw_getk hx hb hW hown hK hS f_X10_25_8 hz_a0 hk_a0 (v := pa) k16 dX10_whichWord_49 ?_
        refine lv_istore (lv' := [(4, .int pa), (3, .int 0), (2, .int x1), (0, .ref (base + a0)), (1, .ref (tx.1 a1))]) hx hb dX10_whichWord_52 hl (by decide) rfl (fun ls hl => ?_)
        refine lv_iconst (v := 0) hx hb dX10_whichWord_54 (by decide) ?_
        refine lv_istore (lv' := [(5, .int 0), (4, .int pa), (3, .int 0), (2, .int x1), (0, .ref (base + a0)), (1, .ref (tx.1 a1))]) hx hb dX10_whichWord_55 hl (by decide) rfl (fun ls hl => ?_)
        have W57_20 : ∀ (n_20 : Nat) (x17 : Int32) (x18 : Int32) (x19 : Int32) (x25 : Int32) (M20 : MT) (R21 : RT) (J22 : JT) (H : Heap) (locs : List Loc) (ls : Array Slot) (h_x17 : iv (-2147483648) 2147483647 x17) (h_x18 : iv (-1) 1000 x18) (h_x19 : iv 0 57 x19) (h_x25 : iv 0 1000 x25) (k26 : M20 a0 4 = x25) (w0_20 : x25.toInt = x1.toInt) (hm_20 : 57 - x19.toInt < (n_20 : Int)) (hS : SB D cy base Z K N Lt_X10_whichWord LRt_X10_whichWord Ma Ra M20 R21 J22 s H locs) (hl : lv_has ls 7 [(3, .int x17), (4, .int x18), (5, .int x19), (2, .int x1), (0, .ref (base + a0)), (1, .ref (tx.1 a1))]), W p l e (md_rm 6 0 0) s m args below meth c H locs 0 0 Q (F0 m 57 ls []) := by
          intro n_20
          induction n_20 with
          | zero =>
            intro x17 x18 x19 x25 M20 R21 J22 H locs ls h_x17 h_x18 h_x19 h_x25 k26 w0_20 hm_20 hS hl
            exfalso
            have := (h_ln).1; have := (h_ln).2; have := (h_pa).1; have := (h_pa).2; have := (h_x19).1; have := (h_x19).2; omega
          | succ n_20 ih_20 =>
            intro x17 x18 x19 x25 M20 R21 J22 H locs ls h_x17 h_x18 h_x19 h_x25 k26 w0_20 hm_20 hS hl
            have f23 := hS.2.2.1
            have g24 := hS.2.2.2
            refine lv_iload hx hb dX10_whichWord_57 (lv_at hl 2 rfl) ?_
            refine lv_aload_n hx hb dX10_whichWord_59 rfl (lv_at hl 5 rfl) ?_
            refine md_goi hS.1 (md_runT (As := []) (rest := [.int x19]) hx hb hml hown hW hK hT hS.1 (c_length l D cy tx base Z K N M20 R21 J22 a1 hi_a1) s_X10_38 ⟨rfl, rfl, ⟨Nat.le_of_ble_eq_true rfl, Nat.le_of_ble_eq_true rfl⟩, ⟨Nat.le_of_ble_eq_true rfl, Nat.le_of_ble_eq_true rfl⟩⟩ hi_a1 rfl hl.1 rfl (Nat.le_of_ble_eq_true rfl) dX10_whichWord_60) (fun x27 u H locs E28 hG => ?_)
            obtain ⟨E28, rfl⟩ := E28
            replace hS := SB.same hS hG
            have h_x27 := str_len hi_a1 E28
            refine lv_icmp_ge (tgt := 144) hx hb dX10_whichWord_63 (by decide) (fun c29 => ?_) (fun c29 => ?_)
            · have q30 : x27.toInt ≤ x19.toInt := ti_le c29
              have h31 : iv 3 57 x19 := iv_geL (y := x27) h_x19 h_x27 q30 (by decide)
              refine lv_iconst (v := (-1)) hx hb dX10_whichWord_144 (by decide) ?_
              have q32 : (pa.toInt ≤ x25.toInt ∧ (x25.toInt ≤ ln.toInt ∨ x25.toInt = pa.toInt)) := by
                have := (h_ln).1; have := (h_ln).2; have := (h_pa).1; have := (h_pa).2; have := (h_x1).1; have := (h_x1).2; have := (h_x25).1; have := (h_x25).2; omega
              exact tw_endi hx hb hr hlocks hK hT hS hQ (⟨(iv_mono (iv_c (c := (-1)) (n := (-1)) (by decide)) (by decide) (by decide)), ⟨x25, k26, h_x25, q32⟩⟩) dX10_whichWord_145
            · have q33 : x19.toInt < x27.toInt := ti_nle c29
              have h34 : iv 0 56 x19 := iv_ltL (y := x27) h_x19 h_x27 q33 (by decide)
              refine lv_aload_n hx hb dX10_whichWord_66 rfl (lv_at hl 5 rfl) ?_
              refine lv_iload hx hb dX10_whichWord_67 (lv_at hl 2 rfl) ?_
              have q35 : x19 < Int32.ofNat (md_sl.getD a1 0) := by rw [← E28]; exact Int32.lt_iff_toInt_lt.mpr (by omega)
              refine md_goi hS.1 (md_runT (As := [.int x19]) (rest := []) hx hb hml hown hW hK hT hS.1 (c_charAt l D cy tx base Z K N M20 R21 J22 a1 hi_a1 x19 (ti_in (h34).1 (by have := str_n hi_a1; have := ti_lt q35; omega)) q35) s_X10_42 ⟨rfl, rfl, ⟨Nat.le_of_ble_eq_true rfl, Nat.le_of_ble_eq_true rfl⟩, ⟨Nat.le_of_ble_eq_true rfl, Nat.le_of_ble_eq_true rfl⟩⟩ hi_a1 rfl hl.1 rfl (Nat.le_of_ble_eq_true rfl) dX10_whichWord_69) (fun x36 u H locs E37 hG => ?_)
              obtain ⟨E37, rfl⟩ := E37
              replace hS := SB.same hS hG
              have h_x36 := iv_any x36
              refine lv_istore (lv' := [(6, .int x36), (3, .int x17), (4, .int x18), (5, .int x19), (2, .int x1), (0, .ref (base + a0)), (1, .ref (tx.1 a1))]) hx hb dX10_whichWord_72 hl (by decide) rfl (fun ls hl => ?_)
              refine lv_iload hx hb dX10_whichWord_74 (lv_at hl 0 rfl) ?_
              refine lv_bipush (v := 32) hx hb dX10_whichWord_76 (by decide) ?_
              refine lv_icmp_ne (tgt := 101) hx hb dX10_whichWord_78 (by decide) (fun c38 => ?_) (fun c38 => ?_)
              · have q39 : ¬ x36.toInt = 32 := ti_ne c38
                refine lv_iload hx hb dX10_whichWord_101 (lv_at hl 2 rfl) ?_
                refine lv_aload_n hx hb dX10_whichWord_103 rfl (lv_at hl 5 rfl) ?_
                have k40 : M20 a0 2 = pa := (Fr.kp (k := 2) f23 hk_a0 rfl).trans k_pa
                refine tw_getk hx hb hW hown hK hS f_X10_25_8 hz_a0 hk_a0 (v := pa) k40 dX10_whichWord_104 ?_
                refine lv_icmp_lt (tgt := 138) hx hb dX10_whichWord_107 (by decide) (fun c41 => ?_) (fun c41 => ?_)
                · have q42 : x18.toInt < pa.toInt := ti_lt c41
                  have h43 : iv (-1) 999 x18 := iv_ltL (y := pa) h_x18 h_pa q42 (by decide)
                  refine tw_iinc (lv' := fun x46 => [(5, .int x46), (6, .int x36), (3, .int x17), (4, .int x18), (2, .int x1), (0, .ref (base + a0)), (1, .ref (tx.1 a1))]) (lo := 1) (hi := 57) hx hb dX10_whichWord_138 hl (k := 3) rfl h34 (by decide) ⟨by decide, by decide⟩ ⟨by decide, by decide⟩ (by decide) (fun _ => rfl) (fun x46 ls e45 h44 hl => ?_)
                  refine lv_goto (tgt := 57) hx hb dX10_whichWord_141 (by decide) ?_
                  have w47 : x25.toInt = x1.toInt := by
                    have := (h_ln).1; have := (h_ln).2; have := (h_pa).1; have := (h_pa).2; have := (h_x1).1; have := (h_x1).2; have := (h_x25).1; have := (h_x25).2; omega
                  have hm48 : 57 - x46.toInt < (n_20 : Int) := by
                    have := (h_ln).1; have := (h_ln).2; have := (h_pa).1; have := (h_pa).2; have := (h34).1; have := (h34).2; have := (h44).1; have := (h44).2; omega
                  exact ih_20 x17 x18 x46 x25 M20 R21 J22 H locs _ h_x17 (iv_mono h43 (by decide) (by decide)) (iv_mono h44 (by decide) (by decide)) h_x25 k26 w47 hm48 hS (lv_sub hl [2, 3, 0, 4, 5, 6] rfl)
                · have q49 : pa.toInt ≤ x18.toInt := ti_nlt c41
                  have h50 : iv 0 1000 x18 := iv_geL (y := pa) h_x18 h_pa q49 (by decide)
                  refine lv_iload hx hb dX10_whichWord_110 (lv_at hl 2 rfl) ?_
                  refine lv_iload_n hx hb dX10_whichWord_112 rfl (lv_at hl 4 rfl) ?_
                  refine lv_icmp_ge (tgt := 135) hx hb dX10_whichWord_113 (by decide) (fun c51 => ?_) (fun c51 => ?_)
                  · have q52 : x1.toInt ≤ x18.toInt := ti_le c51
                    refine lv_iconst (v := (-1)) hx hb dX10_whichWord_135 (by decide) ?_
                    refine lv_istore (lv' := [(4, .int (-1)), (6, .int x36), (3, .int x17), (5, .int x19), (2, .int x1), (0, .ref (base + a0)), (1, .ref (tx.1 a1))]) hx hb dX10_whichWord_136 hl (by decide) rfl (fun ls hl => ?_)
                    refine tw_iinc (lv' := fun x55 => [(5, .int x55), (4, .int (-1)), (6, .int x36), (3, .int x17), (2, .int x1), (0, .ref (base + a0)), (1, .ref (tx.1 a1))]) (lo := 1) (hi := 57) hx hb dX10_whichWord_138 hl (k := 3) rfl h34 (by decide) ⟨by decide, by decide⟩ ⟨by decide, by decide⟩ (by decide) (fun _ => rfl) (fun x55 ls e54 h53 hl => ?_)
                    refine lv_goto (tgt := 57) hx hb dX10_whichWord_141 (by decide) ?_
                    have w56 : x25.toInt = x1.toInt := by
                      have := (h_ln).1; have := (h_ln).2; have := (h_pa).1; have := (h_pa).2; have := (h_x1).1; have := (h_x1).2; have := (h_x25).1; have := (h_x25).2; omega
                    have hm57 : 57 - x55.toInt < (n_20 : Int) := by
                      have := (h_ln).1; have := (h_ln).2; have := (h_pa).1; have := (h_pa).2; have := (h34).1; have := (h34).2; have := (h53).1; have := (h53).2; omega
                    exact ih_20 x17 (-1) x55 x25 M20 R21 J22 H locs _ h_x17 (iv_mono (iv_c (c := (-1)) (n := (-1)) (by decide)) (by decide) (by decide)) (iv_mono h53 (by decide) (by decide)) h_x25 k26 w56 hm57 hS (lv_sub hl [3, 1, 0, 4, 5, 6] rfl)
                  · have q58 : x18.toInt < x1.toInt := ti_nle c51
                    have h59 : iv 0 999 x18 := iv_ltL (y := x1) h50 h_x1 q58 (by decide)
                    have h60 : iv 1 1000 x1 := iv_gtL (y := x18) h_x1 h50 q58 (by decide)
                    refine lv_aload_n hx hb dX10_whichWord_116 rfl (lv_at hl 5 rfl) ?_
                    have k61 : R21 a0 0 = some tb := (Fr.kp (k := 0) g24 hk_a0 rfl).trans k_tb
                    refine tw_getrk hx hb hW hown hK hS f_X10_9_8 hz_a0 hk_a0 (b := tb) k61 dX10_whichWord_117 ?_
                    refine lv_iload hx hb dX10_whichWord_120 (lv_at hl 2 rfl) ?_
                    have h62 : iv 0 399 x18 := by
                      have := (h_ln).1; have := (h_ln).2; have := (h_pa).1; have := (h_pa).2; have := (h59).1; have := (h59).2; exact ⟨by omega, by omega⟩
                    refine tw_bald hx hb hK hS hz_tb hk_tb hn_tb h62 ⟨by decide, by decide⟩ dX10_whichWord_122 (fun x65 k64 => ?_)
                    have h63 := iv_any x65
                    refine lv_iload hx hb dX10_whichWord_123 (lv_at hl 0 rfl) ?_
                    refine lv_icmp_ne (tgt := 135) hx hb dX10_whichWord_125 (by decide) (fun c66 => ?_) (fun c66 => ?_)
                    · have q67 : ¬ x65.toInt = x36.toInt := ti_ne c66
                      refine lv_iconst (v := (-1)) hx hb dX10_whichWord_135 (by decide) ?_
                      refine lv_istore (lv' := [(4, .int (-1)), (6, .int x36), (3, .int x17), (5, .int x19), (2, .int x1), (0, .ref (base + a0)), (1, .ref (tx.1 a1))]) hx hb dX10_whichWord_136 hl (by decide) rfl (fun ls hl => ?_)
                      refine tw_iinc (lv' := fun x70 => [(5, .int x70), (4, .int (-1)), (6, .int x36), (3, .int x17), (2, .int x1), (0, .ref (base + a0)), (1, .ref (tx.1 a1))]) (lo := 1) (hi := 57) hx hb dX10_whichWord_138 hl (k := 3) rfl h34 (by decide) ⟨by decide, by decide⟩ ⟨by decide, by decide⟩ (by decide) (fun _ => rfl) (fun x70 ls e69 h68 hl => ?_)
                      refine lv_goto (tgt := 57) hx hb dX10_whichWord_141 (by decide) ?_
                      have w71 : x25.toInt = x1.toInt := by
                        have := (h_ln).1; have := (h_ln).2; have := (h_pa).1; have := (h_pa).2; have := (h60).1; have := (h60).2; have := (h_x25).1; have := (h_x25).2; omega
                      have hm72 : 57 - x70.toInt < (n_20 : Int) := by
                        have := (h_ln).1; have := (h_ln).2; have := (h_pa).1; have := (h_pa).2; have := (h34).1; have := (h34).2; have := (h68).1; have := (h68).2; omega
                      exact ih_20 x17 (-1) x70 x25 M20 R21 J22 H locs _ h_x17 (iv_mono (iv_c (c := (-1)) (n := (-1)) (by decide)) (by decide) (by decide)) (iv_mono h68 (by decide) (by decide)) h_x25 k26 w71 hm72 hS (lv_sub hl [3, 1, 0, 4, 5, 6] rfl)
                    · have q73 : x65.toInt = x36.toInt := ti_eq c66
                      refine lv_iload hx hb dX10_whichWord_128 (lv_at hl 2 rfl) ?_
                      refine lv_iconst (v := 1) hx hb dX10_whichWord_130 (by decide) ?_
                      refine tw_iadd (lo := 1) (hi := 400) hx hb h62 (iv_c (c := 1) (n := 1) (by decide)) ⟨by decide, by decide⟩ ⟨by decide, by decide⟩ dX10_whichWord_131 (fun x76 e75 h74 => ?_)
                      have e75 : x76.toInt = x18.toInt + 1 := e75
                      refine lv_goto (tgt := 136) hx hb dX10_whichWord_132 (by decide) ?_
                      refine lv_istore (lv' := [(4, .int x76), (6, .int x36), (3, .int x17), (5, .int x19), (2, .int x1), (0, .ref (base + a0)), (1, .ref (tx.1 a1))]) hx hb dX10_whichWord_136 hl (by decide) rfl (fun ls hl => ?_)
                      refine tw_iinc (lv' := fun x79 => [(5, .int x79), (4, .int x76), (6, .int x36), (3, .int x17), (2, .int x1), (0, .ref (base + a0)), (1, .ref (tx.1 a1))]) (lo := 1) (hi := 57) hx hb dX10_whichWord_138 hl (k := 3) rfl h34 (by decide) ⟨by decide, by decide⟩ ⟨by decide, by decide⟩ (by decide) (fun _ => rfl) (fun x79 ls e78 h77 hl => ?_)
                      refine lv_goto (tgt := 57) hx hb dX10_whichWord_141 (by decide) ?_
                      have w80 : x25.toInt = x1.toInt := by
                        have := (h_ln).1; have := (h_ln).2; have := (h_pa).1; have := (h_pa).2; have := (h60).1; have := (h60).2; have := (h_x25).1; have := (h_x25).2; omega
                      have hm81 : 57 - x79.toInt < (n_20 : Int) := by
                        have := (h_ln).1; have := (h_ln).2; have := (h_pa).1; have := (h_pa).2; have := (h34).1; have := (h34).2; have := (h77).1; have := (h77).2; omega
                      exact ih_20 x17 x76 x79 x25 M20 R21 J22 H locs _ h_x17 (iv_mono h74 (by decide) (by decide)) (iv_mono h77 (by decide) (by decide)) h_x25 k26 w80 hm81 hS (lv_sub hl [3, 1, 0, 4, 5, 6] rfl)
              · have q82 : x36.toInt = 32 := ti_eq c38
                have h83 : iv 32 32 x36 := ⟨by have := (h_x36).1; have := ((iv_c (c := 32) (n := 32) (by decide))).1; omega, by have := (h_x36).2; have := ((iv_c (c := 32) (n := 32) (by decide))).2; omega⟩
                refine lv_iload hx hb dX10_whichWord_81 (lv_at hl 2 rfl) ?_
                refine lv_iload_n hx hb dX10_whichWord_83 rfl (lv_at hl 4 rfl) ?_
                refine lv_icmp_ne (tgt := 89) hx hb dX10_whichWord_84 (by decide) (fun c84 => ?_) (fun c84 => ?_)
                · have q85 : ¬ x18.toInt = x1.toInt := ti_ne c84
                  refine tw_iincw (lv' := fun x87 => [(3, .int x87), (6, .int x36), (4, .int x18), (5, .int x19), (2, .int x1), (0, .ref (base + a0)), (1, .ref (tx.1 a1))]) hx hb dX10_whichWord_89 hl (k := 1) rfl (by decide) (fun _ => rfl) (fun x87 ls hl => ?_)
                  have h86 := iv_any x87
                  refine lv_aload_n hx hb dX10_whichWord_92 rfl (lv_at hl 5 rfl) ?_
                  have k88 : M20 a0 2 = pa := (Fr.kp (k := 2) f23 hk_a0 rfl).trans k_pa
                  refine tw_getk hx hb hW hown hK hS f_X10_25_8 hz_a0 hk_a0 (v := pa) k88 dX10_whichWord_93 ?_
                  refine lv_istore (lv' := [(4, .int pa), (3, .int x87), (6, .int x36), (5, .int x19), (2, .int x1), (0, .ref (base + a0)), (1, .ref (tx.1 a1))]) hx hb dX10_whichWord_96 hl (by decide) rfl (fun ls hl => ?_)
                  refine lv_goto (tgt := 138) hx hb dX10_whichWord_98 (by decide) ?_
                  refine tw_iinc (lv' := fun x91 => [(5, .int x91), (4, .int pa), (3, .int x87), (6, .int x36), (2, .int x1), (0, .ref (base + a0)), (1, .ref (tx.1 a1))]) (lo := 1) (hi := 57) hx hb dX10_whichWord_138 hl (k := 3) rfl h34 (by decide) ⟨by decide, by decide⟩ ⟨by decide, by decide⟩ (by decide) (fun _ => rfl) (fun x91 ls e90 h89 hl => ?_)
                  refine lv_goto (tgt := 57) hx hb dX10_whichWord_141 (by decide) ?_
                  have w92 : x25.toInt = x1.toInt := by
                    have := (h_ln).1; have := (h_ln).2; have := (h_pa).1; have := (h_pa).2; have := (h_x1).1; have := (h_x1).2; have := (h_x25).1; have := (h_x25).2; omega
                  have hm93 : 57 - x91.toInt < (n_20 : Int) := by
                    have := (h_ln).1; have := (h_ln).2; have := (h_pa).1; have := (h_pa).2; have := (h34).1; have := (h34).2; have := (h89).1; have := (h89).2; omega
                  exact ih_20 x87 pa x91 x25 M20 R21 J22 H locs _ h86 (iv_mono h_pa (by decide) (by decide)) (iv_mono h89 (by decide) (by decide)) h_x25 k26 w92 hm93 hS (lv_sub hl [2, 1, 0, 4, 5, 6] rfl)
                · have q94 : x18.toInt = x1.toInt := ti_eq c84
                  have h95 : iv 0 1000 x18 := ⟨by have := (h_x18).1; have := (h_x1).1; omega, by have := (h_x18).2; have := (h_x1).2; omega⟩
                  refine lv_iload_n hx hb dX10_whichWord_87 rfl (lv_at hl 1 rfl) ?_
                  have q96 : (pa.toInt ≤ x25.toInt ∧ (x25.toInt ≤ ln.toInt ∨ x25.toInt = pa.toInt)) := by
                    have := (h_ln).1; have := (h_ln).2; have := (h_pa).1; have := (h_pa).2; have := (h_x1).1; have := (h_x1).2; have := (h_x25).1; have := (h_x25).2; omega
                  exact tw_endi hx hb hr hlocks hK hT hS hQ (⟨h_x17, ⟨x25, k26, h_x25, q96⟩⟩) dX10_whichWord_88
        have w97 : x1.toInt = x1.toInt := by
          have := (h_ln).1; have := (h_ln).2; have := (h_pa).1; have := (h_pa).2; have := (h_x1).1; have := (h_x1).2; omega
        have hm98 : 57 - (0 : Int32).toInt < (((58 : Nat) : Int) : Int) := by
          have := (h_ln).1; have := (h_ln).2; have := (h_pa).1; have := (h_pa).2; have : (0 : Int32).toInt = 0 := (by decide); omega
        exact W57_20 58 0 pa 0 x1 M15 R9 J10 H locs _ (iv_mono (iv_c (c := 0) (n := 0) (by decide)) (by decide) (by decide)) (iv_mono h_pa (by decide) (by decide)) (iv_mono (iv_c (c := 0) (n := 0) (by decide)) (by decide) (by decide)) h_x1 k13 w97 hm98 hS (lv_sub hl [2, 1, 0, 3, 4, 5] rfl)
      refine lv_icmp_ge (tgt := 41) hx hb dX10_whichWord_10 (by decide) (fun c99 => ?_) (fun c99 => ?_)
      · have q100 : ln.toInt ≤ x1.toInt := ti_le c99
        have w101 : pa.toInt ≤ x1.toInt ∧ (x1.toInt ≤ ln.toInt ∨ x1.toInt = pa.toInt) := by
          have := (h_ln).1; have := (h_ln).2; have := (h_pa).1; have := (h_pa).2; have := (h_x1).1; have := (h_x1).2; omega
        exact J41_8  M2 R3 J4 H locs _ w101 hS hl
      · have q102 : x1.toInt < ln.toInt := ti_nle c99
        have h103 : iv 0 399 x1 := iv_ltL (y := ln) h_x1 h_ln q102 (by decide)
        have h104 : iv 1 400 ln := iv_gtL (y := x1) h_ln h_x1 q102 (by decide)
        refine lv_aload_n hx hb dX10_whichWord_13 rfl (lv_at hl 1 rfl) ?_
        have k105 : R3 a0 0 = some tb := (Fr.kp (k := 0) g6 hk_a0 rfl).trans k_tb
        refine tw_getrk hx hb hW hown hK hS f_X10_9_8 hz_a0 hk_a0 (b := tb) k105 dX10_whichWord_14 ?_
        refine lv_iload_n hx hb dX10_whichWord_17 rfl (lv_at hl 0 rfl) ?_
        refine tw_bald hx hb hK hS hz_tb hk_tb hn_tb h103 ⟨by decide, by decide⟩ dX10_whichWord_18 (fun x108 k107 => ?_)
        have h106 := iv_any x108
        refine lv_bipush (v := 97) hx hb dX10_whichWord_19 (by decide) ?_
        refine lv_icmp_lt (tgt := 41) hx hb dX10_whichWord_21 (by decide) (fun c109 => ?_) (fun c109 => ?_)
        · have q110 : x108.toInt < 97 := ti_lt c109
          have h111 : iv (-2147483648) 96 x108 := iv_ltL (y := 97) h106 (iv_c (c := 97) (n := 97) (by decide)) q110 (by decide)
          have w112 : pa.toInt ≤ x1.toInt ∧ (x1.toInt ≤ ln.toInt ∨ x1.toInt = pa.toInt) := by
            have := (h104).1; have := (h104).2; have := (h_pa).1; have := (h_pa).2; have := (h103).1; have := (h103).2; omega
          exact J41_8  M2 R3 J4 H locs _ w112 hS hl
        · have q113 : 97 ≤ x108.toInt := ti_nlt c109
          have h114 : iv 97 2147483647 x108 := iv_geL (y := 97) h106 (iv_c (c := 97) (n := 97) (by decide)) q113 (by decide)
          refine lv_aload_n hx hb dX10_whichWord_24 rfl (lv_at hl 1 rfl) ?_
          have k115 : R3 a0 0 = some tb := (Fr.kp (k := 0) g6 hk_a0 rfl).trans k_tb
          refine tw_getrk hx hb hW hown hK hS f_X10_9_8 hz_a0 hk_a0 (b := tb) k115 dX10_whichWord_25 ?_
          refine lv_iload_n hx hb dX10_whichWord_28 rfl (lv_at hl 0 rfl) ?_
          refine tw_balk hx hb hK hS hz_tb hk_tb hn_tb h103 ⟨by decide, by decide⟩ (v := x108) k107 dX10_whichWord_29 ?_
          refine lv_bipush (v := 122) hx hb dX10_whichWord_30 (by decide) ?_
          refine lv_icmp_gt (tgt := 41) hx hb dX10_whichWord_32 (by decide) (fun c116 => ?_) (fun c116 => ?_)
          · have q117 : 122 < x108.toInt := ti_lt c116
            have h118 : iv 123 2147483647 x108 := iv_gtL (y := 122) h114 (iv_c (c := 122) (n := 122) (by decide)) q117 (by decide)
            have w119 : pa.toInt ≤ x1.toInt ∧ (x1.toInt ≤ ln.toInt ∨ x1.toInt = pa.toInt) := by
              have := (h104).1; have := (h104).2; have := (h_pa).1; have := (h_pa).2; have := (h103).1; have := (h103).2; omega
            exact J41_8  M2 R3 J4 H locs _ w119 hS hl
          · have q120 : x108.toInt ≤ 122 := ti_nlt c116
            have h121 : iv 97 122 x108 := iv_leL (y := 122) h114 (iv_c (c := 122) (n := 122) (by decide)) q120 (by decide)
            refine tw_iinc (lv' := fun x124 => [(2, .int x124), (0, .ref (base + a0)), (1, .ref (tx.1 a1))]) (lo := 1) (hi := 400) hx hb dX10_whichWord_35 hl (k := 0) rfl h103 (by decide) ⟨by decide, by decide⟩ ⟨by decide, by decide⟩ (by decide) (fun _ => rfl) (fun x124 ls e123 h122 hl => ?_)
            refine lv_goto (tgt := 5) hx hb dX10_whichWord_38 (by decide) ?_
            have w125 : pa.toInt ≤ x124.toInt ∧ (x124.toInt ≤ ln.toInt ∨ x124.toInt = pa.toInt) := by
              have := (h104).1; have := (h104).2; have := (h_pa).1; have := (h_pa).2; have := (h103).1; have := (h103).2; have := (h122).1; have := (h122).2; omega
            have hm126 : 1000 - x124.toInt < (n_2 : Int) := by
              have := (h104).1; have := (h104).2; have := (h_pa).1; have := (h_pa).2; have := (h103).1; have := (h103).2; have := (h122).1; have := (h122).2; omega
            exact ih_2 x124 M2 R3 J4 H locs _ (iv_mono h122 (by decide) (by decide)) w125 hm126 hS hl
  have w127 : pa.toInt ≤ pa.toInt ∧ (pa.toInt ≤ ln.toInt ∨ pa.toInt = pa.toInt) := by
    have := (h_ln).1; have := (h_ln).2; have := (h_pa).1; have := (h_pa).2; omega
  have hm128 : 1000 - pa.toInt < (((1001 : Nat) : Int) : Int) := by
    have := (h_ln).1; have := (h_ln).2; have := (h_pa).1; have := (h_pa).2; omega
  exact W5_2 1001 pa Ma Ra Ja s.heap [] _ h_pa w127 hm128 hS hl
def Lt_X10_whichWord_1 : WL := [(3, 4, 5)]
def LRt_X10_whichWord_1 : WL := []
set_option maxRecDepth 100000 in
set_option maxHeartbeats 4000000 in
theorem t_X10_whichWord_1 (l : Launch) (D : va_G) (cy : Nat → ClassId) (tx : (Nat → Nat) × (Nat → Nat)) (base Z : Nat) (K N : Nat → Nat) (Ma : MT) (Ra : RT) (Ja : JT) (hTy : Ty Z K N Ma Ra) (a0 : Nat) (hz_a0 : a0 < Z) (hk_a0 : K a0 = 3) (a1 : Nat) (hi_a1 : a1 < 6) (tb : Nat) (k_tb : Ra a0 0 = some tb) (ln : Int32) (k_ln : Ma a0 1 = ln) (h_ln : iv 0 400 ln) (pa : Int32) (k_pa : Ma a0 2 = pa) (h_pa : iv 0 1000 pa) : Met l yX10_whichWord [Cond.code yX10_whichWord cX10_whichWord 7 (some .int)] (md_rm 6 0 0) (va_Pc [.ref (base + a0), .ref (tx.1 a1)] (md_U D cy tx base Z K N Ma Ra Ja)) (mQi D cy tx base (fun r u => TP Z K N Lt_X10_whichWord_1 LRt_X10_whichWord_1 Ma Ra u ∧ (iv (-2147483648) 2147483647 r ∧ (∃ x0 : Int32, u.2.2.2.1 a0 4 = x0 ∧ iv 0 1000 x0 ∧ ((pa.toInt ≤ x0.toInt ∧ (x0.toInt ≤ ln.toInt ∨ x0.toInt = pa.toInt))))))) 0 0 (fun q => base ≤ q) := by
  refine tw_ofW (L := Lt_X10_whichWord_1) (LR := LRt_X10_whichWord_1) (by decide) (Nat.le_of_ble_eq_true rfl) hTy ?_
  intro p e s m args below meth c Q ls hx hb hr hlocks hown hml hW hK hT hS hQ hl
  have hl : lv_has ls 7 [(0, .ref (base + a0)), (1, .ref (tx.1 a1))] := hl
  obtain ⟨hz_tb, hk_tb, hn_tb⟩ := hTy.refn hz_a0 hk_a0 (show rtR 3 0 = (13, 400, 1) from rfl) k_tb
  have hn_tb := hn_tb (by decide)
  refine lv_aload_n hx hb dX10_whichWord_0 rfl (lv_at hl 0 rfl) ?_
  refine tw_getk hx hb hW hown hK hS f_X10_25_2 hz_a0 hk_a0 (v := pa) k_pa dX10_whichWord_1 ?_
  refine lv_istore_n (lv' := [(2, .int pa), (0, .ref (base + a0)), (1, .ref (tx.1 a1))]) hx hb dX10_whichWord_4 rfl hl (by decide) rfl (fun ls hl => ?_)
  have W5_2 : ∀ (n_2 : Nat) (x1 : Int32) (M2 : MT) (R3 : RT) (J4 : JT) (H : Heap) (locs : List Loc) (ls : Array Slot) (h_x1 : iv 0 1000 x1) (w0_2 : pa.toInt ≤ x1.toInt ∧ (x1.toInt ≤ ln.toInt ∨ x1.toInt = pa.toInt)) (hm_2 : 1000 - x1.toInt < (n_2 : Int)) (hS : SB D cy base Z K N Lt_X10_whichWord_1 LRt_X10_whichWord_1 Ma Ra M2 R3 J4 s H locs) (hl : lv_has ls 7 [(2, .int x1), (0, .ref (base + a0)), (1, .ref (tx.1 a1))]), W p l e (md_rm 6 0 0) s m args below meth c H locs 0 0 Q (F0 m 5 ls []) := by
    intro n_2
    induction n_2 with
    | zero =>
      intro x1 M2 R3 J4 H locs ls h_x1 w0_2 hm_2 hS hl
      exfalso
      have := (h_ln).1; have := (h_ln).2; have := (h_pa).1; have := (h_pa).2; have := (h_x1).1; have := (h_x1).2; omega
    | succ n_2 ih_2 =>
      intro x1 M2 R3 J4 H locs ls h_x1 w0_2 hm_2 hS hl
      have f5 := hS.2.2.1
      have g6 := hS.2.2.2
      refine lv_iload_n hx hb dX10_whichWord_5 rfl (lv_at hl 0 rfl) ?_
      refine lv_aload_n hx hb dX10_whichWord_6 rfl (lv_at hl 1 rfl) ?_
      have k7 : M2 a0 1 = ln := (Fr.kp (k := 1) f5 hk_a0 rfl).trans k_ln
      refine tw_getk hx hb hW hown hK hS f_X10_21_2 hz_a0 hk_a0 (v := ln) k7 dX10_whichWord_7 ?_
      have J41_8 : ∀  (M8 : MT) (R9 : RT) (J10 : JT) (H : Heap) (locs : List Loc) (ls : Array Slot) (w0_8 : pa.toInt ≤ x1.toInt ∧ (x1.toInt ≤ ln.toInt ∨ x1.toInt = pa.toInt)) (hS : SB D cy base Z K N Lt_X10_whichWord_1 LRt_X10_whichWord_1 Ma Ra M8 R9 J10 s H locs) (hl : lv_has ls 7 [(2, .int x1), (0, .ref (base + a0)), (1, .ref (tx.1 a1))]), W p l e (md_rm 6 0 0) s m args below meth c H locs 0 0 Q (F0 m 41 ls []) := by
        intro  M8 R9 J10 H locs ls w0_8 hS hl
        have f11 := hS.2.2.1
        have g12 := hS.2.2.2
        refine lv_aload_n hx hb dX10_whichWord_41 rfl (lv_at hl 1 rfl) ?_
        refine lv_iload_n hx hb dX10_whichWord_42 rfl (lv_at hl 0 rfl) ?_
        refine tw_puti hx hb hW hown hK hS f_X10_35_2 hz_a0 hk_a0 rfl rfl (lo := 0) (hi := 1000) rfl h_x1 rfl dX10_whichWord_43 (fun H locs M15 hS k13 f14 => ?_)
        refine lv_iconst (v := 0) hx hb dX10_whichWord_46 (by decide) ?_
        refine lv_istore_n (lv' := [(3, .int 0), (2, .int x1), (0, .ref (base + a0)), (1, .ref (tx.1 a1))]) hx hb dX10_whichWord_47 rfl hl (by decide) rfl (fun ls hl => ?_)
        refine lv_aload_n hx hb dX10_whichWord_48 rfl (lv_at hl 2 rfl) ?_
        have k16 : M15 a0 2 = pa := ((Fr.kp (k := 2) f14 hk_a0 rfl).trans (Fr.kp (k := 2) f11 hk_a0 rfl)).trans k_pa
        refine tw_getk hx hb hW hown hK hS f_X10_25_2 hz_a0 hk_a0 (v := pa) k16 dX10_whichWord_49 ?_
        refine lv_istore (lv' := [(4, .int pa), (3, .int 0), (2, .int x1), (0, .ref (base + a0)), (1, .ref (tx.1 a1))]) hx hb dX10_whichWord_52 hl (by decide) rfl (fun ls hl => ?_)
        refine lv_iconst (v := 0) hx hb dX10_whichWord_54 (by decide) ?_
        refine lv_istore (lv' := [(5, .int 0), (4, .int pa), (3, .int 0), (2, .int x1), (0, .ref (base + a0)), (1, .ref (tx.1 a1))]) hx hb dX10_whichWord_55 hl (by decide) rfl (fun ls hl => ?_)
        have W57_20 : ∀ (n_20 : Nat) (x17 : Int32) (x18 : Int32) (x19 : Int32) (x25 : Int32) (M20 : MT) (R21 : RT) (J22 : JT) (H : Heap) (locs : List Loc) (ls : Array Slot) (h_x17 : iv (-2147483648) 2147483647 x17) (h_x18 : iv (-1) 1000 x18) (h_x19 : iv 0 57 x19) (h_x25 : iv 0 1000 x25) (k26 : M20 a0 4 = x25) (w0_20 : x25.toInt = x1.toInt) (hm_20 : 57 - x19.toInt < (n_20 : Int)) (hS : SB D cy base Z K N Lt_X10_whichWord_1 LRt_X10_whichWord_1 Ma Ra M20 R21 J22 s H locs) (hl : lv_has ls 7 [(3, .int x17), (4, .int x18), (5, .int x19), (2, .int x1), (0, .ref (base + a0)), (1, .ref (tx.1 a1))]), W p l e (md_rm 6 0 0) s m args below meth c H locs 0 0 Q (F0 m 57 ls []) := by
          intro n_20
          induction n_20 with
          | zero =>
            intro x17 x18 x19 x25 M20 R21 J22 H locs ls h_x17 h_x18 h_x19 h_x25 k26 w0_20 hm_20 hS hl
            exfalso
            have := (h_ln).1; have := (h_ln).2; have := (h_pa).1; have := (h_pa).2; have := (h_x19).1; have := (h_x19).2; omega
          | succ n_20 ih_20 =>
            intro x17 x18 x19 x25 M20 R21 J22 H locs ls h_x17 h_x18 h_x19 h_x25 k26 w0_20 hm_20 hS hl
            have f23 := hS.2.2.1
            have g24 := hS.2.2.2
            refine lv_iload hx hb dX10_whichWord_57 (lv_at hl 2 rfl) ?_
            refine lv_aload_n hx hb dX10_whichWord_59 rfl (lv_at hl 5 rfl) ?_
            refine md_goi hS.1 (md_runT (As := []) (rest := [.int x19]) hx hb hml hown hW hK hT hS.1 (c_length l D cy tx base Z K N M20 R21 J22 a1 hi_a1) s_X10_38 ⟨rfl, rfl, ⟨Nat.le_of_ble_eq_true rfl, Nat.le_of_ble_eq_true rfl⟩, ⟨Nat.le_of_ble_eq_true rfl, Nat.le_of_ble_eq_true rfl⟩⟩ hi_a1 rfl hl.1 rfl (Nat.le_of_ble_eq_true rfl) dX10_whichWord_60) (fun x27 u H locs E28 hG => ?_)
            obtain ⟨E28, rfl⟩ := E28
            replace hS := SB.same hS hG
            have h_x27 := str_len hi_a1 E28
            refine lv_icmp_ge (tgt := 144) hx hb dX10_whichWord_63 (by decide) (fun c29 => ?_) (fun c29 => ?_)
            · have q30 : x27.toInt ≤ x19.toInt := ti_le c29
              have h31 : iv 3 57 x19 := iv_geL (y := x27) h_x19 h_x27 q30 (by decide)
              refine lv_iconst (v := (-1)) hx hb dX10_whichWord_144 (by decide) ?_
              have q32 : (pa.toInt ≤ x25.toInt ∧ (x25.toInt ≤ ln.toInt ∨ x25.toInt = pa.toInt)) := by
                have := (h_ln).1; have := (h_ln).2; have := (h_pa).1; have := (h_pa).2; have := (h_x1).1; have := (h_x1).2; have := (h_x25).1; have := (h_x25).2; omega
              exact tw_endi hx hb hr hlocks hK hT hS hQ (⟨(iv_mono (iv_c (c := (-1)) (n := (-1)) (by decide)) (by decide) (by decide)), ⟨x25, k26, h_x25, q32⟩⟩) dX10_whichWord_145
            · have q33 : x19.toInt < x27.toInt := ti_nle c29
              have h34 : iv 0 56 x19 := iv_ltL (y := x27) h_x19 h_x27 q33 (by decide)
              refine lv_aload_n hx hb dX10_whichWord_66 rfl (lv_at hl 5 rfl) ?_
              refine lv_iload hx hb dX10_whichWord_67 (lv_at hl 2 rfl) ?_
              have q35 : x19 < Int32.ofNat (md_sl.getD a1 0) := by rw [← E28]; exact Int32.lt_iff_toInt_lt.mpr (by omega)
              refine md_goi hS.1 (md_runT (As := [.int x19]) (rest := []) hx hb hml hown hW hK hT hS.1 (c_charAt l D cy tx base Z K N M20 R21 J22 a1 hi_a1 x19 (ti_in (h34).1 (by have := str_n hi_a1; have := ti_lt q35; omega)) q35) s_X10_42 ⟨rfl, rfl, ⟨Nat.le_of_ble_eq_true rfl, Nat.le_of_ble_eq_true rfl⟩, ⟨Nat.le_of_ble_eq_true rfl, Nat.le_of_ble_eq_true rfl⟩⟩ hi_a1 rfl hl.1 rfl (Nat.le_of_ble_eq_true rfl) dX10_whichWord_69) (fun x36 u H locs E37 hG => ?_)
              obtain ⟨E37, rfl⟩ := E37
              replace hS := SB.same hS hG
              have h_x36 := iv_any x36
              refine lv_istore (lv' := [(6, .int x36), (3, .int x17), (4, .int x18), (5, .int x19), (2, .int x1), (0, .ref (base + a0)), (1, .ref (tx.1 a1))]) hx hb dX10_whichWord_72 hl (by decide) rfl (fun ls hl => ?_)
              refine lv_iload hx hb dX10_whichWord_74 (lv_at hl 0 rfl) ?_
              refine lv_bipush (v := 32) hx hb dX10_whichWord_76 (by decide) ?_
              refine lv_icmp_ne (tgt := 101) hx hb dX10_whichWord_78 (by decide) (fun c38 => ?_) (fun c38 => ?_)
              · have q39 : ¬ x36.toInt = 32 := ti_ne c38
                refine lv_iload hx hb dX10_whichWord_101 (lv_at hl 2 rfl) ?_
                refine lv_aload_n hx hb dX10_whichWord_103 rfl (lv_at hl 5 rfl) ?_
                have k40 : M20 a0 2 = pa := (Fr.kp (k := 2) f23 hk_a0 rfl).trans k_pa
                refine tw_getk hx hb hW hown hK hS f_X10_25_2 hz_a0 hk_a0 (v := pa) k40 dX10_whichWord_104 ?_
                refine lv_icmp_lt (tgt := 138) hx hb dX10_whichWord_107 (by decide) (fun c41 => ?_) (fun c41 => ?_)
                · have q42 : x18.toInt < pa.toInt := ti_lt c41
                  have h43 : iv (-1) 999 x18 := iv_ltL (y := pa) h_x18 h_pa q42 (by decide)
                  refine tw_iinc (lv' := fun x46 => [(5, .int x46), (6, .int x36), (3, .int x17), (4, .int x18), (2, .int x1), (0, .ref (base + a0)), (1, .ref (tx.1 a1))]) (lo := 1) (hi := 57) hx hb dX10_whichWord_138 hl (k := 3) rfl h34 (by decide) ⟨by decide, by decide⟩ ⟨by decide, by decide⟩ (by decide) (fun _ => rfl) (fun x46 ls e45 h44 hl => ?_)
                  refine lv_goto (tgt := 57) hx hb dX10_whichWord_141 (by decide) ?_
                  have w47 : x25.toInt = x1.toInt := by
                    have := (h_ln).1; have := (h_ln).2; have := (h_pa).1; have := (h_pa).2; have := (h_x1).1; have := (h_x1).2; have := (h_x25).1; have := (h_x25).2; omega
                  have hm48 : 57 - x46.toInt < (n_20 : Int) := by
                    have := (h_ln).1; have := (h_ln).2; have := (h_pa).1; have := (h_pa).2; have := (h34).1; have := (h34).2; have := (h44).1; have := (h44).2; omega
                  exact ih_20 x17 x18 x46 x25 M20 R21 J22 H locs _ h_x17 (iv_mono h43 (by decide) (by decide)) (iv_mono h44 (by decide) (by decide)) h_x25 k26 w47 hm48 hS (lv_sub hl [2, 3, 0, 4, 5, 6] rfl)
                · have q49 : pa.toInt ≤ x18.toInt := ti_nlt c41
                  have h50 : iv 0 1000 x18 := iv_geL (y := pa) h_x18 h_pa q49 (by decide)
                  refine lv_iload hx hb dX10_whichWord_110 (lv_at hl 2 rfl) ?_
                  refine lv_iload_n hx hb dX10_whichWord_112 rfl (lv_at hl 4 rfl) ?_
                  refine lv_icmp_ge (tgt := 135) hx hb dX10_whichWord_113 (by decide) (fun c51 => ?_) (fun c51 => ?_)
                  · have q52 : x1.toInt ≤ x18.toInt := ti_le c51
                    refine lv_iconst (v := (-1)) hx hb dX10_whichWord_135 (by decide) ?_
                    refine lv_istore (lv' := [(4, .int (-1)), (6, .int x36), (3, .int x17), (5, .int x19), (2, .int x1), (0, .ref (base + a0)), (1, .ref (tx.1 a1))]) hx hb dX10_whichWord_136 hl (by decide) rfl (fun ls hl => ?_)
                    refine tw_iinc (lv' := fun x55 => [(5, .int x55), (4, .int (-1)), (6, .int x36), (3, .int x17), (2, .int x1), (0, .ref (base + a0)), (1, .ref (tx.1 a1))]) (lo := 1) (hi := 57) hx hb dX10_whichWord_138 hl (k := 3) rfl h34 (by decide) ⟨by decide, by decide⟩ ⟨by decide, by decide⟩ (by decide) (fun _ => rfl) (fun x55 ls e54 h53 hl => ?_)
                    refine lv_goto (tgt := 57) hx hb dX10_whichWord_141 (by decide) ?_
                    have w56 : x25.toInt = x1.toInt := by
                      have := (h_ln).1; have := (h_ln).2; have := (h_pa).1; have := (h_pa).2; have := (h_x1).1; have := (h_x1).2; have := (h_x25).1; have := (h_x25).2; omega
                    have hm57 : 57 - x55.toInt < (n_20 : Int) := by
                      have := (h_ln).1; have := (h_ln).2; have := (h_pa).1; have := (h_pa).2; have := (h34).1; have := (h34).2; have := (h53).1; have := (h53).2; omega
                    exact ih_20 x17 (-1) x55 x25 M20 R21 J22 H locs _ h_x17 (iv_mono (iv_c (c := (-1)) (n := (-1)) (by decide)) (by decide) (by decide)) (iv_mono h53 (by decide) (by decide)) h_x25 k26 w56 hm57 hS (lv_sub hl [3, 1, 0, 4, 5, 6] rfl)
                  · have q58 : x18.toInt < x1.toInt := ti_nle c51
                    have h59 : iv 0 999 x18 := iv_ltL (y := x1) h50 h_x1 q58 (by decide)
                    have h60 : iv 1 1000 x1 := iv_gtL (y := x18) h_x1 h50 q58 (by decide)
                    refine lv_aload_n hx hb dX10_whichWord_116 rfl (lv_at hl 5 rfl) ?_
                    have k61 : R21 a0 0 = some tb := (Fr.kp (k := 0) g24 hk_a0 rfl).trans k_tb
                    refine tw_getrk hx hb hW hown hK hS f_X10_9_2 hz_a0 hk_a0 (b := tb) k61 dX10_whichWord_117 ?_
                    refine lv_iload hx hb dX10_whichWord_120 (lv_at hl 2 rfl) ?_
                    have h62 : iv 0 399 x18 := by
                      have := (h_ln).1; have := (h_ln).2; have := (h_pa).1; have := (h_pa).2; have := (h59).1; have := (h59).2; exact ⟨by omega, by omega⟩
                    refine tw_bald hx hb hK hS hz_tb hk_tb hn_tb h62 ⟨by decide, by decide⟩ dX10_whichWord_122 (fun x65 k64 => ?_)
                    have h63 := iv_any x65
                    refine lv_iload hx hb dX10_whichWord_123 (lv_at hl 0 rfl) ?_
                    refine lv_icmp_ne (tgt := 135) hx hb dX10_whichWord_125 (by decide) (fun c66 => ?_) (fun c66 => ?_)
                    · have q67 : ¬ x65.toInt = x36.toInt := ti_ne c66
                      refine lv_iconst (v := (-1)) hx hb dX10_whichWord_135 (by decide) ?_
                      refine lv_istore (lv' := [(4, .int (-1)), (6, .int x36), (3, .int x17), (5, .int x19), (2, .int x1), (0, .ref (base + a0)), (1, .ref (tx.1 a1))]) hx hb dX10_whichWord_136 hl (by decide) rfl (fun ls hl => ?_)
                      refine tw_iinc (lv' := fun x70 => [(5, .int x70), (4, .int (-1)), (6, .int x36), (3, .int x17), (2, .int x1), (0, .ref (base + a0)), (1, .ref (tx.1 a1))]) (lo := 1) (hi := 57) hx hb dX10_whichWord_138 hl (k := 3) rfl h34 (by decide) ⟨by decide, by decide⟩ ⟨by decide, by decide⟩ (by decide) (fun _ => rfl) (fun x70 ls e69 h68 hl => ?_)
                      refine lv_goto (tgt := 57) hx hb dX10_whichWord_141 (by decide) ?_
                      have w71 : x25.toInt = x1.toInt := by
                        have := (h_ln).1; have := (h_ln).2; have := (h_pa).1; have := (h_pa).2; have := (h60).1; have := (h60).2; have := (h_x25).1; have := (h_x25).2; omega
                      have hm72 : 57 - x70.toInt < (n_20 : Int) := by
                        have := (h_ln).1; have := (h_ln).2; have := (h_pa).1; have := (h_pa).2; have := (h34).1; have := (h34).2; have := (h68).1; have := (h68).2; omega
                      exact ih_20 x17 (-1) x70 x25 M20 R21 J22 H locs _ h_x17 (iv_mono (iv_c (c := (-1)) (n := (-1)) (by decide)) (by decide) (by decide)) (iv_mono h68 (by decide) (by decide)) h_x25 k26 w71 hm72 hS (lv_sub hl [3, 1, 0, 4, 5, 6] rfl)
                    · have q73 : x65.toInt = x36.toInt := ti_eq c66
                      refine lv_iload hx hb dX10_whichWord_128 (lv_at hl 2 rfl) ?_
                      refine lv_iconst (v := 1) hx hb dX10_whichWord_130 (by decide) ?_
                      refine tw_iadd (lo := 1) (hi := 400) hx hb h62 (iv_c (c := 1) (n := 1) (by decide)) ⟨by decide, by decide⟩ ⟨by decide, by decide⟩ dX10_whichWord_131 (fun x76 e75 h74 => ?_)
                      have e75 : x76.toInt = x18.toInt + 1 := e75
                      refine lv_goto (tgt := 136) hx hb dX10_whichWord_132 (by decide) ?_
                      refine lv_istore (lv' := [(4, .int x76), (6, .int x36), (3, .int x17), (5, .int x19), (2, .int x1), (0, .ref (base + a0)), (1, .ref (tx.1 a1))]) hx hb dX10_whichWord_136 hl (by decide) rfl (fun ls hl => ?_)
                      refine tw_iinc (lv' := fun x79 => [(5, .int x79), (4, .int x76), (6, .int x36), (3, .int x17), (2, .int x1), (0, .ref (base + a0)), (1, .ref (tx.1 a1))]) (lo := 1) (hi := 57) hx hb dX10_whichWord_138 hl (k := 3) rfl h34 (by decide) ⟨by decide, by decide⟩ ⟨by decide, by decide⟩ (by decide) (fun _ => rfl) (fun x79 ls e78 h77 hl => ?_)
                      refine lv_goto (tgt := 57) hx hb dX10_whichWord_141 (by decide) ?_
                      have w80 : x25.toInt = x1.toInt := by
                        have := (h_ln).1; have := (h_ln).2; have := (h_pa).1; have := (h_pa).2; have := (h60).1; have := (h60).2; have := (h_x25).1; have := (h_x25).2; omega
                      have hm81 : 57 - x79.toInt < (n_20 : Int) := by
                        have := (h_ln).1; have := (h_ln).2; have := (h_pa).1; have := (h_pa).2; have := (h34).1; have := (h34).2; have := (h77).1; have := (h77).2; omega
                      exact ih_20 x17 x76 x79 x25 M20 R21 J22 H locs _ h_x17 (iv_mono h74 (by decide) (by decide)) (iv_mono h77 (by decide) (by decide)) h_x25 k26 w80 hm81 hS (lv_sub hl [3, 1, 0, 4, 5, 6] rfl)
              · have q82 : x36.toInt = 32 := ti_eq c38
                have h83 : iv 32 32 x36 := ⟨by have := (h_x36).1; have := ((iv_c (c := 32) (n := 32) (by decide))).1; omega, by have := (h_x36).2; have := ((iv_c (c := 32) (n := 32) (by decide))).2; omega⟩
                refine lv_iload hx hb dX10_whichWord_81 (lv_at hl 2 rfl) ?_
                refine lv_iload_n hx hb dX10_whichWord_83 rfl (lv_at hl 4 rfl) ?_
                refine lv_icmp_ne (tgt := 89) hx hb dX10_whichWord_84 (by decide) (fun c84 => ?_) (fun c84 => ?_)
                · have q85 : ¬ x18.toInt = x1.toInt := ti_ne c84
                  refine tw_iincw (lv' := fun x87 => [(3, .int x87), (6, .int x36), (4, .int x18), (5, .int x19), (2, .int x1), (0, .ref (base + a0)), (1, .ref (tx.1 a1))]) hx hb dX10_whichWord_89 hl (k := 1) rfl (by decide) (fun _ => rfl) (fun x87 ls hl => ?_)
                  have h86 := iv_any x87
                  refine lv_aload_n hx hb dX10_whichWord_92 rfl (lv_at hl 5 rfl) ?_
                  have k88 : M20 a0 2 = pa := (Fr.kp (k := 2) f23 hk_a0 rfl).trans k_pa
                  refine tw_getk hx hb hW hown hK hS f_X10_25_2 hz_a0 hk_a0 (v := pa) k88 dX10_whichWord_93 ?_
                  refine lv_istore (lv' := [(4, .int pa), (3, .int x87), (6, .int x36), (5, .int x19), (2, .int x1), (0, .ref (base + a0)), (1, .ref (tx.1 a1))]) hx hb dX10_whichWord_96 hl (by decide) rfl (fun ls hl => ?_)
                  refine lv_goto (tgt := 138) hx hb dX10_whichWord_98 (by decide) ?_
                  refine tw_iinc (lv' := fun x91 => [(5, .int x91), (4, .int pa), (3, .int x87), (6, .int x36), (2, .int x1), (0, .ref (base + a0)), (1, .ref (tx.1 a1))]) (lo := 1) (hi := 57) hx hb dX10_whichWord_138 hl (k := 3) rfl h34 (by decide) ⟨by decide, by decide⟩ ⟨by decide, by decide⟩ (by decide) (fun _ => rfl) (fun x91 ls e90 h89 hl => ?_)
                  refine lv_goto (tgt := 57) hx hb dX10_whichWord_141 (by decide) ?_
                  have w92 : x25.toInt = x1.toInt := by
                    have := (h_ln).1; have := (h_ln).2; have := (h_pa).1; have := (h_pa).2; have := (h_x1).1; have := (h_x1).2; have := (h_x25).1; have := (h_x25).2; omega
                  have hm93 : 57 - x91.toInt < (n_20 : Int) := by
                    have := (h_ln).1; have := (h_ln).2; have := (h_pa).1; have := (h_pa).2; have := (h34).1; have := (h34).2; have := (h89).1; have := (h89).2; omega
                  exact ih_20 x87 pa x91 x25 M20 R21 J22 H locs _ h86 (iv_mono h_pa (by decide) (by decide)) (iv_mono h89 (by decide) (by decide)) h_x25 k26 w92 hm93 hS (lv_sub hl [2, 1, 0, 4, 5, 6] rfl)
                · have q94 : x18.toInt = x1.toInt := ti_eq c84
                  have h95 : iv 0 1000 x18 := ⟨by have := (h_x18).1; have := (h_x1).1; omega, by have := (h_x18).2; have := (h_x1).2; omega⟩
                  refine lv_iload_n hx hb dX10_whichWord_87 rfl (lv_at hl 1 rfl) ?_
                  have q96 : (pa.toInt ≤ x25.toInt ∧ (x25.toInt ≤ ln.toInt ∨ x25.toInt = pa.toInt)) := by
                    have := (h_ln).1; have := (h_ln).2; have := (h_pa).1; have := (h_pa).2; have := (h_x1).1; have := (h_x1).2; have := (h_x25).1; have := (h_x25).2; omega
                  exact tw_endi hx hb hr hlocks hK hT hS hQ (⟨h_x17, ⟨x25, k26, h_x25, q96⟩⟩) dX10_whichWord_88
        have w97 : x1.toInt = x1.toInt := by
          have := (h_ln).1; have := (h_ln).2; have := (h_pa).1; have := (h_pa).2; have := (h_x1).1; have := (h_x1).2; omega
        have hm98 : 57 - (0 : Int32).toInt < (((58 : Nat) : Int) : Int) := by
          have := (h_ln).1; have := (h_ln).2; have := (h_pa).1; have := (h_pa).2; have : (0 : Int32).toInt = 0 := (by decide); omega
        exact W57_20 58 0 pa 0 x1 M15 R9 J10 H locs _ (iv_mono (iv_c (c := 0) (n := 0) (by decide)) (by decide) (by decide)) (iv_mono h_pa (by decide) (by decide)) (iv_mono (iv_c (c := 0) (n := 0) (by decide)) (by decide) (by decide)) h_x1 k13 w97 hm98 hS (lv_sub hl [2, 1, 0, 3, 4, 5] rfl)
      refine lv_icmp_ge (tgt := 41) hx hb dX10_whichWord_10 (by decide) (fun c99 => ?_) (fun c99 => ?_)
      · have q100 : ln.toInt ≤ x1.toInt := ti_le c99
        have w101 : pa.toInt ≤ x1.toInt ∧ (x1.toInt ≤ ln.toInt ∨ x1.toInt = pa.toInt) := by
          have := (h_ln).1; have := (h_ln).2; have := (h_pa).1; have := (h_pa).2; have := (h_x1).1; have := (h_x1).2; omega
        exact J41_8  M2 R3 J4 H locs _ w101 hS hl
      · have q102 : x1.toInt < ln.toInt := ti_nle c99
        have h103 : iv 0 399 x1 := iv_ltL (y := ln) h_x1 h_ln q102 (by decide)
        have h104 : iv 1 400 ln := iv_gtL (y := x1) h_ln h_x1 q102 (by decide)
        refine lv_aload_n hx hb dX10_whichWord_13 rfl (lv_at hl 1 rfl) ?_
        have k105 : R3 a0 0 = some tb := (Fr.kp (k := 0) g6 hk_a0 rfl).trans k_tb
        refine tw_getrk hx hb hW hown hK hS f_X10_9_2 hz_a0 hk_a0 (b := tb) k105 dX10_whichWord_14 ?_
        refine lv_iload_n hx hb dX10_whichWord_17 rfl (lv_at hl 0 rfl) ?_
        refine tw_bald hx hb hK hS hz_tb hk_tb hn_tb h103 ⟨by decide, by decide⟩ dX10_whichWord_18 (fun x108 k107 => ?_)
        have h106 := iv_any x108
        refine lv_bipush (v := 97) hx hb dX10_whichWord_19 (by decide) ?_
        refine lv_icmp_lt (tgt := 41) hx hb dX10_whichWord_21 (by decide) (fun c109 => ?_) (fun c109 => ?_)
        · have q110 : x108.toInt < 97 := ti_lt c109
          have h111 : iv (-2147483648) 96 x108 := iv_ltL (y := 97) h106 (iv_c (c := 97) (n := 97) (by decide)) q110 (by decide)
          have w112 : pa.toInt ≤ x1.toInt ∧ (x1.toInt ≤ ln.toInt ∨ x1.toInt = pa.toInt) := by
            have := (h104).1; have := (h104).2; have := (h_pa).1; have := (h_pa).2; have := (h103).1; have := (h103).2; omega
          exact J41_8  M2 R3 J4 H locs _ w112 hS hl
        · have q113 : 97 ≤ x108.toInt := ti_nlt c109
          have h114 : iv 97 2147483647 x108 := iv_geL (y := 97) h106 (iv_c (c := 97) (n := 97) (by decide)) q113 (by decide)
          refine lv_aload_n hx hb dX10_whichWord_24 rfl (lv_at hl 1 rfl) ?_
          have k115 : R3 a0 0 = some tb := (Fr.kp (k := 0) g6 hk_a0 rfl).trans k_tb
          refine tw_getrk hx hb hW hown hK hS f_X10_9_2 hz_a0 hk_a0 (b := tb) k115 dX10_whichWord_25 ?_
          refine lv_iload_n hx hb dX10_whichWord_28 rfl (lv_at hl 0 rfl) ?_
          refine tw_balk hx hb hK hS hz_tb hk_tb hn_tb h103 ⟨by decide, by decide⟩ (v := x108) k107 dX10_whichWord_29 ?_
          refine lv_bipush (v := 122) hx hb dX10_whichWord_30 (by decide) ?_
          refine lv_icmp_gt (tgt := 41) hx hb dX10_whichWord_32 (by decide) (fun c116 => ?_) (fun c116 => ?_)
          · have q117 : 122 < x108.toInt := ti_lt c116
            have h118 : iv 123 2147483647 x108 := iv_gtL (y := 122) h114 (iv_c (c := 122) (n := 122) (by decide)) q117 (by decide)
            have w119 : pa.toInt ≤ x1.toInt ∧ (x1.toInt ≤ ln.toInt ∨ x1.toInt = pa.toInt) := by
              have := (h104).1; have := (h104).2; have := (h_pa).1; have := (h_pa).2; have := (h103).1; have := (h103).2; omega
            exact J41_8  M2 R3 J4 H locs _ w119 hS hl
          · have q120 : x108.toInt ≤ 122 := ti_nlt c116
            have h121 : iv 97 122 x108 := iv_leL (y := 122) h114 (iv_c (c := 122) (n := 122) (by decide)) q120 (by decide)
            refine tw_iinc (lv' := fun x124 => [(2, .int x124), (0, .ref (base + a0)), (1, .ref (tx.1 a1))]) (lo := 1) (hi := 400) hx hb dX10_whichWord_35 hl (k := 0) rfl h103 (by decide) ⟨by decide, by decide⟩ ⟨by decide, by decide⟩ (by decide) (fun _ => rfl) (fun x124 ls e123 h122 hl => ?_)
            refine lv_goto (tgt := 5) hx hb dX10_whichWord_38 (by decide) ?_
            have w125 : pa.toInt ≤ x124.toInt ∧ (x124.toInt ≤ ln.toInt ∨ x124.toInt = pa.toInt) := by
              have := (h104).1; have := (h104).2; have := (h_pa).1; have := (h_pa).2; have := (h103).1; have := (h103).2; have := (h122).1; have := (h122).2; omega
            have hm126 : 1000 - x124.toInt < (n_2 : Int) := by
              have := (h104).1; have := (h104).2; have := (h_pa).1; have := (h_pa).2; have := (h103).1; have := (h103).2; have := (h122).1; have := (h122).2; omega
            exact ih_2 x124 M2 R3 J4 H locs _ (iv_mono h122 (by decide) (by decide)) w125 hm126 hS hl
  have w127 : pa.toInt ≤ pa.toInt ∧ (pa.toInt ≤ ln.toInt ∨ pa.toInt = pa.toInt) := by
    have := (h_ln).1; have := (h_ln).2; have := (h_pa).1; have := (h_pa).2; omega
  have hm128 : 1000 - pa.toInt < (((1001 : Nat) : Int) : Int) := by
    have := (h_ln).1; have := (h_ln).2; have := (h_pa).1; have := (h_pa).2; omega
  exact W5_2 1001 pa Ma Ra Ja s.heap [] _ h_pa w127 hm128 hS hl
def Lt_X11_refuse : WL := [(14, 0, 2000000)]
def LRt_X11_refuse : WL := []
set_option maxRecDepth 100000 in
set_option maxHeartbeats 4000000 in
theorem t_X11_refuse (l : Launch) (D : va_G) (cy : Nat → ClassId) (tx : (Nat → Nat) × (Nat → Nat)) (base Z : Nat) (K N : Nat → Nat) (Ma : MT) (Ra : RT) (Ja : JT) (hTy : Ty Z K N Ma Ra) (a0 : Nat) (hz_a0 : a0 < Z) (hk_a0 : K a0 = 11) (a1 : Int32) (h_a1 : iv 0 1 a1) : Met l yX11_refuse [Cond.code yX11_refuse cX11_refuse 2 (some .int)] (md_rm 1 0 0) (va_Pc [.ref (base + a0), .int a1] (md_U D cy tx base Z K N Ma Ra Ja)) (mQi D cy tx base (fun r u => TP Z K N Lt_X11_refuse LRt_X11_refuse Ma Ra u ∧ (iv (-2) (-2) r))) 0 0 (fun q => base ≤ q) := by
  refine tw_ofW (L := Lt_X11_refuse) (LR := LRt_X11_refuse) (by decide) (Nat.le_of_ble_eq_true rfl) hTy ?_
  intro p e s m args below meth c Q ls hx hb hr hlocks hown hml hW hK hT hS hQ hl
  have hl : lv_has ls 2 [(0, .ref (base + a0)), (1, .int a1)] := hl
  refine lv_iload_n hx hb dX11_refuse_0 rfl (lv_at hl 1 rfl) ?_
  refine lv_if_lt (tgt := 23) hx hb dX11_refuse_1 (by decide) (fun c1 => False.elim (by have q : a1.toInt < 0 := ti_lt c1; have := (h_a1).1; have := (h_a1).2; omega)) (fun c1 => ?_)
  have q2 : 0 ≤ a1.toInt := ti_nlt c1
  refine lv_iload_n hx hb dX11_refuse_4 rfl (lv_at hl 1 rfl) ?_
  refine lv_aload_n hx hb dX11_refuse_5 rfl (lv_at hl 0 rfl) ?_
  refine tw_getr hx hb hW hown hK hS f_X11_13_10 hz_a0 hk_a0 (t := 14) (n := 2) rfl dX11_refuse_6 (fun b3 k4 hz_b3 hk_b3 hn_b3 => ?_)
  have hn_b3 := hn_b3 (by decide)
  refine tw_alenk hx hb hK hS hz_b3 hk_b3 (by decide) hn_b3 (v := 2) (by decide) dX11_refuse_9 ?_
  refine lv_icmp_ge (tgt := 23) hx hb dX11_refuse_10 (by decide) (fun c5 => False.elim (by have q : 2 ≤ a1.toInt := ti_le c5; have := (h_a1).1; have := (h_a1).2; omega)) (fun c5 => ?_)
  have q6 : a1.toInt < 2 := ti_nle c5
  refine lv_aload_n hx hb dX11_refuse_13 rfl (lv_at hl 0 rfl) ?_
  refine tw_getrk hx hb hW hown hK hS f_X11_13_10 hz_a0 hk_a0 (b := b3) k4 dX11_refuse_14 ?_
  refine lv_iload_n hx hb dX11_refuse_17 rfl (lv_at hl 1 rfl) ?_
  refine lv_dup2_11 hx hb dX11_refuse_18 rfl rfl ?_
  refine tw_iald hx hb hK hS hz_b3 hk_b3 (Or.inl rfl) hn_b3 (lo := (-2147483648)) (hi := 2147483647) h_a1 ⟨by decide, by decide⟩ rg_u14 dX11_refuse_19 (fun x9 k8 h7 => ?_)
  refine lv_iconst (v := 1) hx hb dX11_refuse_20 (by decide) ?_
  refine lv_iadd hx hb dX11_refuse_21 ?_
  refine tw_top (fun x11 => ?_)
  have h10 := iv_any x11
  refine tw_iast hx hb hK hS hz_b3 hk_b3 (Or.inl rfl) hn_b3 h_a1 ⟨by decide, by decide⟩ h10 (rg_s14 ⟨by decide, by decide⟩) (jl := 0) (jh := 1999999) ⟨by decide, by decide⟩ rfl dX11_refuse_22 (fun H locs M14 hS k12 f13 => ?_)
  refine lv_bipush (v := (-2)) hx hb dX11_refuse_23 (by decide) ?_
  exact tw_endi hx hb hr hlocks hK hT hS hQ ((iv_c (c := (-2)) (n := (-2)) (by decide))) dX11_refuse_25
def Lt_X9_hasMember : WL := []
def LRt_X9_hasMember : WL := []
set_option maxRecDepth 100000 in
set_option maxHeartbeats 4000000 in
theorem t_X9_hasMember (l : Launch) (D : va_G) (cy : Nat → ClassId) (tx : (Nat → Nat) × (Nat → Nat)) (base Z : Nat) (K N : Nat → Nat) (Ma : MT) (Ra : RT) (Ja : JT) (hTy : Ty Z K N Ma Ra) (a0 : Nat) (hz_a0 : a0 < Z) (hk_a0 : K a0 = 10) (a1 : Int32) (h_a1 : iv (-2147483648) 2147483647 a1) : Met l yX9_hasMember [Cond.code yX9_hasMember cX9_hasMember 2 (some .boolean)] (md_rm 1 0 0) (va_Pc [.ref (base + a0), .int a1] (md_U D cy tx base Z K N Ma Ra Ja)) (mQi D cy tx base (fun r u => TP Z K N Lt_X9_hasMember LRt_X9_hasMember Ma Ra u ∧ (iv 0 1 r ∧ (¬ r = 0 → iv 0 9 a1)))) 0 0 (fun q => base ≤ q) := by
  refine tw_ofW (L := Lt_X9_hasMember) (LR := LRt_X9_hasMember) (by decide) (Nat.le_of_ble_eq_true rfl) hTy ?_
  intro p e s m args below meth c Q ls hx hb hr hlocks hown hml hW hK hT hS hQ hl
  have hl : lv_has ls 2 [(0, .ref (base + a0)), (1, .int a1)] := hl
  refine lv_iload_n hx hb dX9_hasMember_0 rfl (lv_at hl 1 rfl) ?_
  refine lv_if_lt (tgt := 16) hx hb dX9_hasMember_1 (by decide) (fun c1 => ?_) (fun c1 => ?_)
  · have q2 : a1.toInt < 0 := ti_lt c1
    have h3 : iv (-2147483648) (-1) a1 := iv_ltL (y := 0) h_a1 (iv_c (c := 0) (n := 0) (by decide)) q2 (by decide)
    refine lv_iconst (v := 0) hx hb dX9_hasMember_16 (by decide) ?_
    exact tw_endz hx hb hr hlocks hK hT hS hQ rfl (⟨(iv_mono (iv_c (c := 0) (n := 0) (by decide)) (by decide) (by decide)), (fun h => absurd rfl h)⟩) dX9_hasMember_17
  · have q4 : 0 ≤ a1.toInt := ti_nlt c1
    have h5 : iv 0 2147483647 a1 := iv_geL (y := 0) h_a1 (iv_c (c := 0) (n := 0) (by decide)) q4 (by decide)
    refine lv_iload_n hx hb dX9_hasMember_4 rfl (lv_at hl 1 rfl) ?_
    refine lv_aload_n hx hb dX9_hasMember_5 rfl (lv_at hl 0 rfl) ?_
    refine tw_geti hx hb hW hown hK hS f_X9_33_9 hz_a0 hk_a0 (lo := (-2147483648)) (hi := 10) rfl dX9_hasMember_6 (fun x8 k7 h6 => ?_)
    refine lv_icmp_ge (tgt := 16) hx hb dX9_hasMember_9 (by decide) (fun c9 => ?_) (fun c9 => ?_)
    · have q10 : x8.toInt ≤ a1.toInt := ti_le c9
      refine lv_iconst (v := 0) hx hb dX9_hasMember_16 (by decide) ?_
      exact tw_endz hx hb hr hlocks hK hT hS hQ rfl (⟨(iv_mono (iv_c (c := 0) (n := 0) (by decide)) (by decide) (by decide)), (fun h => absurd rfl h)⟩) dX9_hasMember_17
    · have q11 : a1.toInt < x8.toInt := ti_nle c9
      have h12 : iv 0 9 a1 := iv_ltL (y := x8) h5 h6 q11 (by decide)
      have h13 : iv 1 10 x8 := iv_gtL (y := a1) h6 h5 q11 (by decide)
      refine lv_iconst (v := 1) hx hb dX9_hasMember_12 (by decide) ?_
      refine lv_goto (tgt := 17) hx hb dX9_hasMember_13 (by decide) ?_
      exact tw_endz hx hb hr hlocks hK hT hS hQ rfl (⟨(iv_mono (iv_c (c := 1) (n := 1) (by decide)) (by decide) (by decide)), (fun _ => h12)⟩) dX9_hasMember_17
def Lt_X9_isPresent : WL := []
def LRt_X9_isPresent : WL := []
set_option maxRecDepth 100000 in
set_option maxHeartbeats 4000000 in
theorem t_X9_isPresent (l : Launch) (D : va_G) (cy : Nat → ClassId) (tx : (Nat → Nat) × (Nat → Nat)) (base Z : Nat) (K N : Nat → Nat) (Ma : MT) (Ra : RT) (Ja : JT) (hTy : Ty Z K N Ma Ra) (a0 : Nat) (hz_a0 : a0 < Z) (hk_a0 : K a0 = 10) (a1 : Int32) (h_a1 : iv 0 9 a1) : Met l yX9_isPresent [Cond.code yX9_isPresent cX9_isPresent 2 (some .boolean)] (md_rm 1 0 0) (va_Pc [.ref (base + a0), .int a1] (md_U D cy tx base Z K N Ma Ra Ja)) (mQi D cy tx base (fun r u => TP Z K N Lt_X9_isPresent LRt_X9_isPresent Ma Ra u ∧ (iv 0 1 r))) 0 0 (fun q => base ≤ q) := by
  refine tw_ofW (L := Lt_X9_isPresent) (LR := LRt_X9_isPresent) (by decide) (Nat.le_of_ble_eq_true rfl) hTy ?_
  intro p e s m args below meth c Q ls hx hb hr hlocks hown hml hW hK hT hS hQ hl
  have hl : lv_has ls 2 [(0, .ref (base + a0)), (1, .int a1)] := hl
  refine lv_aload_n hx hb dX9_isPresent_0 rfl (lv_at hl 0 rfl) ?_
  refine tw_geti hx hb hW hown hK hS f_X9_40_9 hz_a0 hk_a0 (lo := (-2147483648)) (hi := 2147483647) rfl dX9_isPresent_1 (fun x3 k2 h1 => ?_)
  refine lv_iload_n hx hb dX9_isPresent_4 rfl (lv_at hl 1 rfl) ?_
  refine lv_ishr hx hb dX9_isPresent_5 ?_
  refine tw_top (fun x5 => ?_)
  have h4 := iv_any x5
  refine lv_iconst (v := 1) hx hb dX9_isPresent_6 (by decide) ?_
  refine tw_iand (hi := 1) hx hb (iv_mono (iv_c (c := 1) (n := 1) (by decide)) (lo := 0) (hi := 1) (by decide) (by decide)) (by decide) dX9_isPresent_7 (fun x8 h6 => ?_)
  refine lv_iconst (v := 1) hx hb dX9_isPresent_8 (by decide) ?_
  refine lv_icmp_ne (tgt := 16) hx hb dX9_isPresent_9 (by decide) (fun c9 => ?_) (fun c9 => ?_)
  · have q10 : ¬ x8.toInt = 1 := ti_ne c9
    have h11 : iv 0 0 x8 := ⟨by have := (h6).1; have := ((iv_c (c := 1) (n := 1) (by decide))).1; have := ((iv_c (c := 1) (n := 1) (by decide))).2; omega, by have := (h6).2; have := ((iv_c (c := 1) (n := 1) (by decide))).1; have := ((iv_c (c := 1) (n := 1) (by decide))).2; omega⟩
    refine lv_iconst (v := 0) hx hb dX9_isPresent_16 (by decide) ?_
    exact tw_endz hx hb hr hlocks hK hT hS hQ rfl ((iv_mono (iv_c (c := 0) (n := 0) (by decide)) (by decide) (by decide))) dX9_isPresent_17
  · have q12 : x8.toInt = 1 := ti_eq c9
    have h13 : iv 1 1 x8 := ⟨by have := (h6).1; have := ((iv_c (c := 1) (n := 1) (by decide))).1; omega, by have := (h6).2; have := ((iv_c (c := 1) (n := 1) (by decide))).2; omega⟩
    refine lv_iconst (v := 1) hx hb dX9_isPresent_12 (by decide) ?_
    refine lv_goto (tgt := 17) hx hb dX9_isPresent_13 (by decide) ?_
    exact tw_endz hx hb hr hlocks hK hT hS hQ rfl ((iv_mono (iv_c (c := 1) (n := 1) (by decide)) (by decide) (by decide))) dX9_isPresent_17
def Lt_X11_attends : WL := [(10, 2, 3), (14, 0, 2000000), (20, 0, 2000000)]
def LRt_X11_attends : WL := []
set_option maxRecDepth 100000 in
set_option maxHeartbeats 4000000 in
theorem t_X11_attends (l : Launch) (D : va_G) (cy : Nat → ClassId) (tx : (Nat → Nat) × (Nat → Nat)) (base Z : Nat) (K N : Nat → Nat) (Ma : MT) (Ra : RT) (Ja : JT) (hTy : Ty Z K N Ma Ra) (a0 : Nat) (hz_a0 : a0 < Z) (hk_a0 : K a0 = 11) (a1 : Int32) (h_a1 : iv (-2147483648) 2147483647 a1) (a2 : Int32) (h_a2 : iv (-2147483648) 2147483647 a2) : Met l yX11_attends [Cond.code yX11_attends cX11_attends 3 (some .int)] (md_rm 2 0 0) (va_Pc [.ref (base + a0), .int a1, .int a2] (md_U D cy tx base Z K N Ma Ra Ja)) (mQi D cy tx base (fun r u => TP Z K N Lt_X11_attends LRt_X11_attends Ma Ra u ∧ (iv (-2) 63 r))) 0 0 (fun q => base ≤ q) := by
  refine tw_ofW (L := Lt_X11_attends) (LR := LRt_X11_attends) (by decide) (Nat.le_of_ble_eq_true rfl) hTy ?_
  intro p e s m args below meth c Q ls hx hb hr hlocks hown hml hW hK hT hS hQ hl
  have hl : lv_has ls 3 [(0, .ref (base + a0)), (1, .int a1), (2, .int a2)] := hl
  refine lv_aload_n hx hb dX11_attends_0 rfl (lv_at hl 0 rfl) ?_
  refine tw_getr hx hb hW hown hK hS f_X11_31_10 hz_a0 hk_a0 (t := 10) (n := 0) rfl dX11_attends_1 (fun b1 k2 hz_b1 hk_b1 hn_b1 => ?_)
  refine lv_iload_n hx hb dX11_attends_4 rfl (lv_at hl 1 rfl) ?_
  refine tw_goi hS (md_runV (As := [.int a1]) (rest := []) hx hb hml hown hW hK hT hS.1 (t_X9_hasMember l D cy tx base Z K N Ma Ra Ja hS.2.1 b1 hz_b1 hk_b1 a1 h_a1) s_X11_132 ⟨rfl, rfl, ⟨Nat.le_of_ble_eq_true rfl, Nat.le_of_ble_eq_true rfl⟩, ⟨Nat.le_of_ble_eq_true rfl, Nat.le_of_ble_eq_true rfl⟩⟩ hz_b1 hk_b1 (by decide) rfl rfl hl.1 rfl (Nat.le_of_ble_eq_true rfl) dX11_attends_5) rfl rfl (fun x9 H locs M6 R7 J5 hS f3 g4 E8 => ?_)
  have eM6 := Fr.nil f3 rfl
  subst eM6
  have eR7 := Fr.nil g4 rfl
  subst eR7
  obtain ⟨h_x9, p10⟩ := E8
  refine lv_if_eq (tgt := 23) hx hb dX11_attends_8 (by decide) (fun c11 => ?_) (fun c11 => ?_)
  · have q12 : x9.toInt = 0 := ti_eq c11
    have h13 : iv 0 0 x9 := ⟨by have := (h_x9).1; have := ((iv_c (c := 0) (n := 0) (by decide))).1; omega, by have := (h_x9).2; have := ((iv_c (c := 0) (n := 0) (by decide))).2; omega⟩
    refine lv_aload_n hx hb dX11_attends_23 rfl (lv_at hl 0 rfl) ?_
    refine lv_iconst (v := 0) hx hb dX11_attends_24 (by decide) ?_
    refine tw_goi hS (md_runV (As := [.int 0]) (rest := []) hx hb hml hown hW hK hT hS.1 (t_X11_refuse l D cy tx base Z K N Ma Ra J5 hS.2.1 a0 hz_a0 hk_a0 0 (iv_mono (iv_c (c := 0) (n := 0) (by decide)) (by decide) (by decide))) s_X11_158 ⟨rfl, rfl, ⟨Nat.le_of_ble_eq_true rfl, Nat.le_of_ble_eq_true rfl⟩, ⟨Nat.le_of_ble_eq_true rfl, Nat.le_of_ble_eq_true rfl⟩⟩ hz_a0 hk_a0 (by decide) rfl rfl hl.1 rfl (Nat.le_of_ble_eq_true rfl) dX11_attends_25) rfl rfl (fun x20 H locs M17 R18 J16 hS f14 g15 E19 => ?_)
    have eR18 := Fr.nil g15 rfl
    subst eR18
    have h_x20 := E19
    clear E19
    exact tw_endi hx hb hr hlocks hK hT hS hQ ((iv_mono h_x20 (by decide) (by decide))) dX11_attends_28
  · have q21 : ¬ x9.toInt = 0 := ti_ne c11
    have h22 : iv 1 1 x9 := ⟨by have := (h_x9).1; have := ((iv_c (c := 0) (n := 0) (by decide))).1; have := ((iv_c (c := 0) (n := 0) (by decide))).2; omega, by have := (h_x9).2; have := ((iv_c (c := 0) (n := 0) (by decide))).1; have := ((iv_c (c := 0) (n := 0) (by decide))).2; omega⟩
    have h23 : iv 0 9 a1 := ⟨by have := (p10 c11).1; have := (h_a1).1; omega, by have := (p10 c11).2; have := (h_a1).2; omega⟩
    refine lv_aload_n hx hb dX11_attends_11 rfl (lv_at hl 0 rfl) ?_
    refine tw_getrk hx hb hW hown hK hS f_X11_31_10 hz_a0 hk_a0 (b := b1) k2 dX11_attends_12 ?_
    refine lv_iload_n hx hb dX11_attends_15 rfl (lv_at hl 1 rfl) ?_
    refine tw_goi hS (md_runV (As := [.int a1]) (rest := []) hx hb hml hown hW hK hT hS.1 (t_X9_isPresent l D cy tx base Z K N Ma Ra J5 hS.2.1 b1 hz_b1 hk_b1 a1 h23) s_X11_162 ⟨rfl, rfl, ⟨Nat.le_of_ble_eq_true rfl, Nat.le_of_ble_eq_true rfl⟩, ⟨Nat.le_of_ble_eq_true rfl, Nat.le_of_ble_eq_true rfl⟩⟩ hz_b1 hk_b1 (by decide) rfl rfl hl.1 rfl (Nat.le_of_ble_eq_true rfl) dX11_attends_16) rfl rfl (fun x30 H locs M27 R28 J26 hS f24 g25 E29 => ?_)
    have eM27 := Fr.nil f24 rfl
    subst eM27
    have eR28 := Fr.nil g25 rfl
    subst eR28
    have h_x30 := E29
    clear E29
    refine lv_iload_n hx hb dX11_attends_19 rfl (lv_at hl 2 rfl) ?_
    refine lv_icmp_ne (tgt := 29) hx hb dX11_attends_20 (by decide) (fun c31 => ?_) (fun c31 => ?_)
    · have q32 : ¬ x30.toInt = a2.toInt := ti_ne c31
      refine lv_aload_n hx hb dX11_attends_29 rfl (lv_at hl 0 rfl) ?_
      refine tw_getrk hx hb hW hown hK hS f_X11_31_10 hz_a0 hk_a0 (b := b1) k2 dX11_attends_30 ?_
      refine lv_dup hx hb dX11_attends_33 rfl ?_
      refine tw_geti hx hb hW hown hK hS f_X11_142_9 hz_b1 hk_b1 (lo := (-2147483648)) (hi := 2147483647) rfl dX11_attends_34 (fun x35 k34 h33 => ?_)
      refine lv_iconst (v := 1) hx hb dX11_attends_37 (by decide) ?_
      refine lv_iload_n hx hb dX11_attends_38 rfl (lv_at hl 1 rfl) ?_
      refine lv_ishl hx hb dX11_attends_39 ?_
      refine tw_top (fun x37 => ?_)
      have h36 := iv_any x37
      refine lv_ixor hx hb dX11_attends_40 ?_
      refine tw_top (fun x39 => ?_)
      have h38 := iv_any x39
      refine tw_puti hx hb hW hown hK hS f_X11_142_9 hz_b1 hk_b1 rfl rfl (lo := (-2147483648)) (hi := 2147483647) rfl h38 rfl dX11_attends_41 (fun H locs M42 hS k40 f41 => ?_)
      refine lv_aload_n hx hb dX11_attends_44 rfl (lv_at hl 0 rfl) ?_
      refine tw_getrk hx hb hW hown hK hS f_X11_31_10 hz_a0 hk_a0 (b := b1) k2 dX11_attends_45 ?_
      refine tw_getr hx hb hW hown hK hS f_X11_136_9 hz_b1 hk_b1 (t := 20) (n := 10) rfl dX11_attends_48 (fun b43 k44 hz_b43 hk_b43 hn_b43 => ?_)
      have hn_b43 := hn_b43 (by decide)
      refine lv_iload_n hx hb dX11_attends_51 rfl (lv_at hl 1 rfl) ?_
      refine lv_iconst (v := 1) hx hb dX11_attends_52 (by decide) ?_
      refine tw_iast hx hb hK hS hz_b43 hk_b43 (Or.inr (by decide)) hn_b43 h23 ⟨by decide, by decide⟩ (iv_c (c := 1) (n := 1) (by decide)) (rg_s20 ⟨by decide, by decide⟩) (jl := 0) (jh := 1999999) ⟨by decide, by decide⟩ rfl dX11_attends_53 (fun H locs M47 hS k45 f46 => ?_)
      refine lv_aload_n hx hb dX11_attends_54 rfl (lv_at hl 0 rfl) ?_
      refine tw_getrk hx hb hW hown hK hS f_X11_31_10 hz_a0 hk_a0 (b := b1) k2 dX11_attends_55 ?_
      have k48 : M47 b1 2 = x39 := (Fr.kp (k := 2) f46 hk_b1 rfl).trans k40
      refine tw_getk hx hb hW hown hK hS f_X11_142_9 hz_b1 hk_b1 (v := x39) k48 dX11_attends_58 ?_
      refine tw_goi hS (md_runS (As := [.int x39]) (rest := []) hx hb hml hown hW hK hT hS.1 (t_J6_bitCount_0f7a4 l D cy tx base Z K N M47 Ra J26 hS.2.1 x39 h38) s_X11_165 ⟨rfl, rfl, ⟨Nat.le_of_ble_eq_true rfl, Nat.le_of_ble_eq_true rfl⟩, ⟨Nat.le_of_ble_eq_true rfl, Nat.le_of_ble_eq_true rfl⟩⟩ rfl hl.1 rfl (Nat.le_of_ble_eq_true rfl) dX11_attends_61) rfl rfl (fun x55 H locs M52 R53 J51 hS f49 g50 E54 => ?_)
      have eM52 := Fr.nil f49 rfl
      subst eM52
      have eR53 := Fr.nil g50 rfl
      subst eR53
      have h_x55 := E54
      clear E54
      exact tw_endi hx hb hr hlocks hK hT hS hQ ((iv_mono h_x55 (by decide) (by decide))) dX11_attends_64
    · have q56 : x30.toInt = a2.toInt := ti_eq c31
      have h57 : iv 0 1 a2 := ⟨by have := (h_x30).1; have := (h_a2).1; omega, by have := (h_x30).2; have := (h_a2).2; omega⟩
      refine lv_aload_n hx hb dX11_attends_23 rfl (lv_at hl 0 rfl) ?_
      refine lv_iconst (v := 0) hx hb dX11_attends_24 (by decide) ?_
      refine tw_goi hS (md_runV (As := [.int 0]) (rest := []) hx hb hml hown hW hK hT hS.1 (t_X11_refuse l D cy tx base Z K N Ma Ra J26 hS.2.1 a0 hz_a0 hk_a0 0 (iv_mono (iv_c (c := 0) (n := 0) (by decide)) (by decide) (by decide))) s_X11_158 ⟨rfl, rfl, ⟨Nat.le_of_ble_eq_true rfl, Nat.le_of_ble_eq_true rfl⟩, ⟨Nat.le_of_ble_eq_true rfl, Nat.le_of_ble_eq_true rfl⟩⟩ hz_a0 hk_a0 (by decide) rfl rfl hl.1 rfl (Nat.le_of_ble_eq_true rfl) dX11_attends_25) rfl rfl (fun x64 H locs M61 R62 J60 hS f58 g59 E63 => ?_)
      have eR62 := Fr.nil g59 rfl
      subst eR62
      have h_x64 := E63
      clear E63
      exact tw_endi hx hb hr hlocks hK hT hS hQ ((iv_mono h_x64 (by decide) (by decide))) dX11_attends_28
def Lt_X9_takeFrom : WL := [(10, 0, 9), (14, 0, 2000000), (20, 0, 2000000), (21, 0, 2000000)]
def LRt_X9_takeFrom : WL := []
set_option maxRecDepth 100000 in
set_option maxHeartbeats 4000000 in
theorem t_X9_takeFrom (l : Launch) (D : va_G) (cy : Nat → ClassId) (tx : (Nat → Nat) × (Nat → Nat)) (base Z : Nat) (K N : Nat → Nat) (Ma : MT) (Ra : RT) (Ja : JT) (hTy : Ty Z K N Ma Ra) (a0 : Nat) (hz_a0 : a0 < Z) (hk_a0 : K a0 = 10) (a1 : Nat) (hz_a1 : a1 < Z) (hk_a1 : K a1 = 10) : Met l yX9_takeFrom [Cond.code yX9_takeFrom cX9_takeFrom 2 none] (md_rm 1 0 0) (va_Pc [.ref (base + a0), .ref (base + a1)] (md_U D cy tx base Z K N Ma Ra Ja)) (mQv D cy tx base (fun u => TP Z K N Lt_X9_takeFrom LRt_X9_takeFrom Ma Ra u ∧ (True))) 0 0 (fun q => base ≤ q) := by
  refine tw_ofW (L := Lt_X9_takeFrom) (LR := LRt_X9_takeFrom) (by decide) (Nat.le_of_ble_eq_true rfl) hTy ?_
  intro p e s m args below meth c Q ls hx hb hr hlocks hown hml hW hK hT hS hQ hl
  have hl : lv_has ls 2 [(0, .ref (base + a0)), (1, .ref (base + a1))] := hl
  refine lv_aload_n hx hb dX9_takeFrom_0 rfl (lv_at hl 0 rfl) ?_
  refine lv_aload_n hx hb dX9_takeFrom_1 rfl (lv_at hl 1 rfl) ?_
  refine tw_geti hx hb hW hown hK hS f_X9_33_9 hz_a1 hk_a1 (lo := (-2147483648)) (hi := 10) rfl dX9_takeFrom_2 (fun x3 k2 h1 => ?_)
  refine tw_puti hx hb hW hown hK hS f_X9_33_9 hz_a0 hk_a0 rfl rfl (lo := (-2147483648)) (hi := 10) rfl h1 rfl dX9_takeFrom_5 (fun H locs M6 hS k4 f5 => ?_)
  refine lv_aload_n hx hb dX9_takeFrom_8 rfl (lv_at hl 0 rfl) ?_
  refine lv_aload_n hx hb dX9_takeFrom_9 rfl (lv_at hl 1 rfl) ?_
  refine tw_geti hx hb hW hown hK hS f_X9_37_9 hz_a1 hk_a1 (lo := 0) (hi := 12) rfl dX9_takeFrom_10 (fun x9 k8 h7 => ?_)
  refine tw_puti hx hb hW hown hK hS f_X9_37_9 hz_a0 hk_a0 rfl rfl (lo := 0) (hi := 12) rfl h7 rfl dX9_takeFrom_13 (fun H locs M12 hS k10 f11 => ?_)
  refine lv_aload_n hx hb dX9_takeFrom_16 rfl (lv_at hl 0 rfl) ?_
  refine lv_aload_n hx hb dX9_takeFrom_17 rfl (lv_at hl 1 rfl) ?_
  refine tw_geti hx hb hW hown hK hS f_X9_40_9 hz_a1 hk_a1 (lo := (-2147483648)) (hi := 2147483647) rfl dX9_takeFrom_18 (fun x15 k14 h13 => ?_)
  refine tw_puti hx hb hW hown hK hS f_X9_40_9 hz_a0 hk_a0 rfl rfl (lo := (-2147483648)) (hi := 2147483647) rfl h13 rfl dX9_takeFrom_21 (fun H locs M18 hS k16 f17 => ?_)
  refine lv_aload_n hx hb dX9_takeFrom_24 rfl (lv_at hl 0 rfl) ?_
  refine lv_aload_n hx hb dX9_takeFrom_25 rfl (lv_at hl 1 rfl) ?_
  refine tw_geti hx hb hW hown hK hS f_X9_43_9 hz_a1 hk_a1 (lo := (-2147483648)) (hi := 2147483647) rfl dX9_takeFrom_26 (fun x21 k20 h19 => ?_)
  refine tw_puti hx hb hW hown hK hS f_X9_43_9 hz_a0 hk_a0 rfl rfl (lo := (-2147483648)) (hi := 2147483647) rfl h19 rfl dX9_takeFrom_29 (fun H locs M24 hS k22 f23 => ?_)
  refine lv_aload_n hx hb dX9_takeFrom_32 rfl (lv_at hl 0 rfl) ?_
  refine lv_aload_n hx hb dX9_takeFrom_33 rfl (lv_at hl 1 rfl) ?_
  refine tw_geti hx hb hW hown hK hS f_X9_46_9 hz_a1 hk_a1 (lo := (-2147483648)) (hi := 2147483647) rfl dX9_takeFrom_34 (fun x27 k26 h25 => ?_)
  refine tw_puti hx hb hW hown hK hS f_X9_46_9 hz_a0 hk_a0 rfl rfl (lo := (-2147483648)) (hi := 2147483647) rfl h25 rfl dX9_takeFrom_37 (fun H locs M30 hS k28 f29 => ?_)
  refine lv_aload_n hx hb dX9_takeFrom_40 rfl (lv_at hl 0 rfl) ?_
  refine lv_aload_n hx hb dX9_takeFrom_41 rfl (lv_at hl 1 rfl) ?_
  refine tw_geti hx hb hW hown hK hS f_X9_49_9 hz_a1 hk_a1 (lo := 0) (hi := 9999) rfl dX9_takeFrom_42 (fun x33 k32 h31 => ?_)
  refine tw_puti hx hb hW hown hK hS f_X9_49_9 hz_a0 hk_a0 rfl rfl (lo := 0) (hi := 9999) rfl h31 rfl dX9_takeFrom_45 (fun H locs M36 hS k34 f35 => ?_)
  refine lv_aload_n hx hb dX9_takeFrom_48 rfl (lv_at hl 0 rfl) ?_
  refine lv_aload_n hx hb dX9_takeFrom_49 rfl (lv_at hl 1 rfl) ?_
  refine tw_geti hx hb hW hown hK hS f_X9_58_9 hz_a1 hk_a1 (lo := 0) (hi := 2147483647) rfl dX9_takeFrom_50 (fun x39 k38 h37 => ?_)
  refine tw_puti hx hb hW hown hK hS f_X9_58_9 hz_a0 hk_a0 rfl rfl (lo := 0) (hi := 2147483647) rfl h37 rfl dX9_takeFrom_53 (fun H locs M42 hS k40 f41 => ?_)
  refine lv_aload_n hx hb dX9_takeFrom_56 rfl (lv_at hl 0 rfl) ?_
  refine lv_aload_n hx hb dX9_takeFrom_57 rfl (lv_at hl 1 rfl) ?_
  refine tw_geti hx hb hW hown hK hS f_X9_52_9 hz_a1 hk_a1 (lo := 0) (hi := 8) rfl dX9_takeFrom_58 (fun x45 k44 h43 => ?_)
  refine tw_puti hx hb hW hown hK hS f_X9_52_9 hz_a0 hk_a0 rfl rfl (lo := 0) (hi := 8) rfl h43 rfl dX9_takeFrom_61 (fun H locs M48 hS k46 f47 => ?_)
  refine lv_aload_n hx hb dX9_takeFrom_64 rfl (lv_at hl 0 rfl) ?_
  refine lv_aload_n hx hb dX9_takeFrom_65 rfl (lv_at hl 1 rfl) ?_
  refine tw_geti hx hb hW hown hK hS f_X9_55_9 hz_a1 hk_a1 (lo := 0) (hi := 12) rfl dX9_takeFrom_66 (fun x51 k50 h49 => ?_)
  refine tw_puti hx hb hW hown hK hS f_X9_55_9 hz_a0 hk_a0 rfl rfl (lo := 0) (hi := 12) rfl h49 rfl dX9_takeFrom_69 (fun H locs M54 hS k52 f53 => ?_)
  refine lv_aload_n hx hb dX9_takeFrom_72 rfl (lv_at hl 1 rfl) ?_
  refine tw_getr hx hb hW hown hK hS f_X9_9_9 hz_a1 hk_a1 (t := 14) (n := 120) rfl dX9_takeFrom_73 (fun b55 k56 hz_b55 hk_b55 hn_b55 => ?_)
  have hn_b55 := hn_b55 (by decide)
  refine lv_iconst (v := 0) hx hb dX9_takeFrom_76 (by decide) ?_
  refine lv_aload_n hx hb dX9_takeFrom_77 rfl (lv_at hl 0 rfl) ?_
  refine tw_getr hx hb hW hown hK hS f_X9_9_9 hz_a0 hk_a0 (t := 14) (n := 120) rfl dX9_takeFrom_78 (fun b57 k58 hz_b57 hk_b57 hn_b57 => ?_)
  have hn_b57 := hn_b57 (by decide)
  refine lv_iconst (v := 0) hx hb dX9_takeFrom_81 (by decide) ?_
  refine lv_aload_n hx hb dX9_takeFrom_82 rfl (lv_at hl 0 rfl) ?_
  refine tw_getrk hx hb hW hown hK hS f_X9_9_9 hz_a0 hk_a0 (b := b57) k58 dX9_takeFrom_83 ?_
  refine tw_alenk hx hb hK hS hz_b57 hk_b57 (by decide) hn_b57 (v := 120) (by decide) dX9_takeFrom_86 ?_
  refine tw_copy hx hb (hml.trans hl.1.symm) hW hown hK hS (md_okc w_3_224 rfl (md_okc w_3_226 rfl (md_okc w_3_225 rfl (md_okc w_1_18 rfl (md_ok0))))) hz_b57 hk_b57 (Or.inl rfl) hz_b55 hk_b55 (Or.inl rfl) hn_b57 hn_b55 (by have := ((iv_c (c := 120) (n := 120) (by decide))).1; have := ((iv_c (c := 120) (n := 120) (by decide))).2; have := ((iv_c (c := 0) (n := 0) (by decide))).1; have := ((iv_c (c := 0) (n := 0) (by decide))).2; have := ((iv_c (c := 0) (n := 0) (by decide))).1; have := ((iv_c (c := 0) (n := 0) (by decide))).2; omega) (by have := ((iv_c (c := 120) (n := 120) (by decide))).1; have := ((iv_c (c := 120) (n := 120) (by decide))).2; have := ((iv_c (c := 0) (n := 0) (by decide))).1; have := ((iv_c (c := 0) (n := 0) (by decide))).2; have := ((iv_c (c := 0) (n := 0) (by decide))).1; have := ((iv_c (c := 0) (n := 0) (by decide))).2; omega) (by have := ((iv_c (c := 120) (n := 120) (by decide))).1; have := ((iv_c (c := 120) (n := 120) (by decide))).2; have := ((iv_c (c := 0) (n := 0) (by decide))).1; have := ((iv_c (c := 0) (n := 0) (by decide))).2; have := ((iv_c (c := 0) (n := 0) (by decide))).1; have := ((iv_c (c := 0) (n := 0) (by decide))).2; omega) (by have := ((iv_c (c := 120) (n := 120) (by decide))).1; have := ((iv_c (c := 120) (n := 120) (by decide))).2; have := ((iv_c (c := 0) (n := 0) (by decide))).1; have := ((iv_c (c := 0) (n := 0) (by decide))).2; have := ((iv_c (c := 0) (n := 0) (by decide))).1; have := ((iv_c (c := 0) (n := 0) (by decide))).2; omega) (by have := ((iv_c (c := 120) (n := 120) (by decide))).1; have := ((iv_c (c := 120) (n := 120) (by decide))).2; have := ((iv_c (c := 0) (n := 0) (by decide))).1; have := ((iv_c (c := 0) (n := 0) (by decide))).2; have := ((iv_c (c := 0) (n := 0) (by decide))).1; have := ((iv_c (c := 0) (n := 0) (by decide))).2; omega) (fun _ _ => ⟨by show (-2147483648 : Int) ≤ -2147483648; decide, by show (2147483647 : Int) ≤ 2147483647; decide⟩) (Nat.le_of_ble_eq_true rfl) (Nat.le_of_ble_eq_true rfl) rfl dX9_takeFrom_87 (fun H locs M61 hS f59 k60 => ?_)
  refine lv_aload_n hx hb dX9_takeFrom_90 rfl (lv_at hl 1 rfl) ?_
  refine tw_getr hx hb hW hown hK hS f_X9_15_9 hz_a1 hk_a1 (t := 20) (n := 10) rfl dX9_takeFrom_91 (fun b62 k63 hz_b62 hk_b62 hn_b62 => ?_)
  have hn_b62 := hn_b62 (by decide)
  refine lv_iconst (v := 0) hx hb dX9_takeFrom_94 (by decide) ?_
  refine lv_aload_n hx hb dX9_takeFrom_95 rfl (lv_at hl 0 rfl) ?_
  refine tw_getr hx hb hW hown hK hS f_X9_15_9 hz_a0 hk_a0 (t := 20) (n := 10) rfl dX9_takeFrom_96 (fun b64 k65 hz_b64 hk_b64 hn_b64 => ?_)
  have hn_b64 := hn_b64 (by decide)
  refine lv_iconst (v := 0) hx hb dX9_takeFrom_99 (by decide) ?_
  refine lv_bipush (v := 10) hx hb dX9_takeFrom_100 (by decide) ?_
  refine tw_copy hx hb (hml.trans hl.1.symm) hW hown hK hS (md_okc w_3_224 rfl (md_okc w_3_226 rfl (md_okc w_3_225 rfl (md_okc w_1_18 rfl (md_ok0))))) hz_b64 hk_b64 (Or.inr (by decide)) hz_b62 hk_b62 (Or.inr (by decide)) hn_b64 hn_b62 (by have := ((iv_c (c := 10) (n := 10) (by decide))).1; have := ((iv_c (c := 10) (n := 10) (by decide))).2; have := ((iv_c (c := 0) (n := 0) (by decide))).1; have := ((iv_c (c := 0) (n := 0) (by decide))).2; have := ((iv_c (c := 0) (n := 0) (by decide))).1; have := ((iv_c (c := 0) (n := 0) (by decide))).2; omega) (by have := ((iv_c (c := 10) (n := 10) (by decide))).1; have := ((iv_c (c := 10) (n := 10) (by decide))).2; have := ((iv_c (c := 0) (n := 0) (by decide))).1; have := ((iv_c (c := 0) (n := 0) (by decide))).2; have := ((iv_c (c := 0) (n := 0) (by decide))).1; have := ((iv_c (c := 0) (n := 0) (by decide))).2; omega) (by have := ((iv_c (c := 10) (n := 10) (by decide))).1; have := ((iv_c (c := 10) (n := 10) (by decide))).2; have := ((iv_c (c := 0) (n := 0) (by decide))).1; have := ((iv_c (c := 0) (n := 0) (by decide))).2; have := ((iv_c (c := 0) (n := 0) (by decide))).1; have := ((iv_c (c := 0) (n := 0) (by decide))).2; omega) (by have := ((iv_c (c := 10) (n := 10) (by decide))).1; have := ((iv_c (c := 10) (n := 10) (by decide))).2; have := ((iv_c (c := 0) (n := 0) (by decide))).1; have := ((iv_c (c := 0) (n := 0) (by decide))).2; have := ((iv_c (c := 0) (n := 0) (by decide))).1; have := ((iv_c (c := 0) (n := 0) (by decide))).2; omega) (by have := ((iv_c (c := 10) (n := 10) (by decide))).1; have := ((iv_c (c := 10) (n := 10) (by decide))).2; have := ((iv_c (c := 0) (n := 0) (by decide))).1; have := ((iv_c (c := 0) (n := 0) (by decide))).2; have := ((iv_c (c := 0) (n := 0) (by decide))).1; have := ((iv_c (c := 0) (n := 0) (by decide))).2; omega) (fun _ _ => ⟨by show (-2147483648 : Int) ≤ -2147483648; decide, by show (2147483647 : Int) ≤ 2147483647; decide⟩) (Nat.le_of_ble_eq_true rfl) (Nat.le_of_ble_eq_true rfl) rfl dX9_takeFrom_102 (fun H locs M68 hS f66 k67 => ?_)
  refine lv_aload_n hx hb dX9_takeFrom_105 rfl (lv_at hl 1 rfl) ?_
  refine tw_getr hx hb hW hown hK hS f_X9_18_9 hz_a1 hk_a1 (t := 14) (n := 10) rfl dX9_takeFrom_106 (fun b69 k70 hz_b69 hk_b69 hn_b69 => ?_)
  have hn_b69 := hn_b69 (by decide)
  refine lv_iconst (v := 0) hx hb dX9_takeFrom_109 (by decide) ?_
  refine lv_aload_n hx hb dX9_takeFrom_110 rfl (lv_at hl 0 rfl) ?_
  refine tw_getr hx hb hW hown hK hS f_X9_18_9 hz_a0 hk_a0 (t := 14) (n := 10) rfl dX9_takeFrom_111 (fun b71 k72 hz_b71 hk_b71 hn_b71 => ?_)
  have hn_b71 := hn_b71 (by decide)
  refine lv_iconst (v := 0) hx hb dX9_takeFrom_114 (by decide) ?_
  refine lv_bipush (v := 10) hx hb dX9_takeFrom_115 (by decide) ?_
  refine tw_copy hx hb (hml.trans hl.1.symm) hW hown hK hS (md_okc w_3_224 rfl (md_okc w_3_226 rfl (md_okc w_3_225 rfl (md_okc w_1_18 rfl (md_ok0))))) hz_b71 hk_b71 (Or.inl rfl) hz_b69 hk_b69 (Or.inl rfl) hn_b71 hn_b69 (by have := ((iv_c (c := 10) (n := 10) (by decide))).1; have := ((iv_c (c := 10) (n := 10) (by decide))).2; have := ((iv_c (c := 0) (n := 0) (by decide))).1; have := ((iv_c (c := 0) (n := 0) (by decide))).2; have := ((iv_c (c := 0) (n := 0) (by decide))).1; have := ((iv_c (c := 0) (n := 0) (by decide))).2; omega) (by have := ((iv_c (c := 10) (n := 10) (by decide))).1; have := ((iv_c (c := 10) (n := 10) (by decide))).2; have := ((iv_c (c := 0) (n := 0) (by decide))).1; have := ((iv_c (c := 0) (n := 0) (by decide))).2; have := ((iv_c (c := 0) (n := 0) (by decide))).1; have := ((iv_c (c := 0) (n := 0) (by decide))).2; omega) (by have := ((iv_c (c := 10) (n := 10) (by decide))).1; have := ((iv_c (c := 10) (n := 10) (by decide))).2; have := ((iv_c (c := 0) (n := 0) (by decide))).1; have := ((iv_c (c := 0) (n := 0) (by decide))).2; have := ((iv_c (c := 0) (n := 0) (by decide))).1; have := ((iv_c (c := 0) (n := 0) (by decide))).2; omega) (by have := ((iv_c (c := 10) (n := 10) (by decide))).1; have := ((iv_c (c := 10) (n := 10) (by decide))).2; have := ((iv_c (c := 0) (n := 0) (by decide))).1; have := ((iv_c (c := 0) (n := 0) (by decide))).2; have := ((iv_c (c := 0) (n := 0) (by decide))).1; have := ((iv_c (c := 0) (n := 0) (by decide))).2; omega) (by have := ((iv_c (c := 10) (n := 10) (by decide))).1; have := ((iv_c (c := 10) (n := 10) (by decide))).2; have := ((iv_c (c := 0) (n := 0) (by decide))).1; have := ((iv_c (c := 0) (n := 0) (by decide))).2; have := ((iv_c (c := 0) (n := 0) (by decide))).1; have := ((iv_c (c := 0) (n := 0) (by decide))).2; omega) (fun _ _ => ⟨by show (-2147483648 : Int) ≤ -2147483648; decide, by show (2147483647 : Int) ≤ 2147483647; decide⟩) (Nat.le_of_ble_eq_true rfl) (Nat.le_of_ble_eq_true rfl) rfl dX9_takeFrom_117 (fun H locs M75 hS f73 k74 => ?_)
  refine lv_aload_n hx hb dX9_takeFrom_120 rfl (lv_at hl 1 rfl) ?_
  refine tw_getr hx hb hW hown hK hS f_X9_21_9 hz_a1 hk_a1 (t := 14) (n := 10) rfl dX9_takeFrom_121 (fun b76 k77 hz_b76 hk_b76 hn_b76 => ?_)
  have hn_b76 := hn_b76 (by decide)
  refine lv_iconst (v := 0) hx hb dX9_takeFrom_124 (by decide) ?_
  refine lv_aload_n hx hb dX9_takeFrom_125 rfl (lv_at hl 0 rfl) ?_
  refine tw_getr hx hb hW hown hK hS f_X9_21_9 hz_a0 hk_a0 (t := 14) (n := 10) rfl dX9_takeFrom_126 (fun b78 k79 hz_b78 hk_b78 hn_b78 => ?_)
  have hn_b78 := hn_b78 (by decide)
  refine lv_iconst (v := 0) hx hb dX9_takeFrom_129 (by decide) ?_
  refine lv_bipush (v := 10) hx hb dX9_takeFrom_130 (by decide) ?_
  refine tw_copy hx hb (hml.trans hl.1.symm) hW hown hK hS (md_okc w_3_224 rfl (md_okc w_3_226 rfl (md_okc w_3_225 rfl (md_okc w_1_18 rfl (md_ok0))))) hz_b78 hk_b78 (Or.inl rfl) hz_b76 hk_b76 (Or.inl rfl) hn_b78 hn_b76 (by have := ((iv_c (c := 10) (n := 10) (by decide))).1; have := ((iv_c (c := 10) (n := 10) (by decide))).2; have := ((iv_c (c := 0) (n := 0) (by decide))).1; have := ((iv_c (c := 0) (n := 0) (by decide))).2; have := ((iv_c (c := 0) (n := 0) (by decide))).1; have := ((iv_c (c := 0) (n := 0) (by decide))).2; omega) (by have := ((iv_c (c := 10) (n := 10) (by decide))).1; have := ((iv_c (c := 10) (n := 10) (by decide))).2; have := ((iv_c (c := 0) (n := 0) (by decide))).1; have := ((iv_c (c := 0) (n := 0) (by decide))).2; have := ((iv_c (c := 0) (n := 0) (by decide))).1; have := ((iv_c (c := 0) (n := 0) (by decide))).2; omega) (by have := ((iv_c (c := 10) (n := 10) (by decide))).1; have := ((iv_c (c := 10) (n := 10) (by decide))).2; have := ((iv_c (c := 0) (n := 0) (by decide))).1; have := ((iv_c (c := 0) (n := 0) (by decide))).2; have := ((iv_c (c := 0) (n := 0) (by decide))).1; have := ((iv_c (c := 0) (n := 0) (by decide))).2; omega) (by have := ((iv_c (c := 10) (n := 10) (by decide))).1; have := ((iv_c (c := 10) (n := 10) (by decide))).2; have := ((iv_c (c := 0) (n := 0) (by decide))).1; have := ((iv_c (c := 0) (n := 0) (by decide))).2; have := ((iv_c (c := 0) (n := 0) (by decide))).1; have := ((iv_c (c := 0) (n := 0) (by decide))).2; omega) (by have := ((iv_c (c := 10) (n := 10) (by decide))).1; have := ((iv_c (c := 10) (n := 10) (by decide))).2; have := ((iv_c (c := 0) (n := 0) (by decide))).1; have := ((iv_c (c := 0) (n := 0) (by decide))).2; have := ((iv_c (c := 0) (n := 0) (by decide))).1; have := ((iv_c (c := 0) (n := 0) (by decide))).2; omega) (fun _ _ => ⟨by show (-2147483648 : Int) ≤ -2147483648; decide, by show (2147483647 : Int) ≤ 2147483647; decide⟩) (Nat.le_of_ble_eq_true rfl) (Nat.le_of_ble_eq_true rfl) rfl dX9_takeFrom_132 (fun H locs M82 hS f80 k81 => ?_)
  refine lv_aload_n hx hb dX9_takeFrom_135 rfl (lv_at hl 1 rfl) ?_
  refine tw_getr hx hb hW hown hK hS f_X9_24_9 hz_a1 hk_a1 (t := 14) (n := 10) rfl dX9_takeFrom_136 (fun b83 k84 hz_b83 hk_b83 hn_b83 => ?_)
  have hn_b83 := hn_b83 (by decide)
  refine lv_iconst (v := 0) hx hb dX9_takeFrom_139 (by decide) ?_
  refine lv_aload_n hx hb dX9_takeFrom_140 rfl (lv_at hl 0 rfl) ?_
  refine tw_getr hx hb hW hown hK hS f_X9_24_9 hz_a0 hk_a0 (t := 14) (n := 10) rfl dX9_takeFrom_141 (fun b85 k86 hz_b85 hk_b85 hn_b85 => ?_)
  have hn_b85 := hn_b85 (by decide)
  refine lv_iconst (v := 0) hx hb dX9_takeFrom_144 (by decide) ?_
  refine lv_bipush (v := 10) hx hb dX9_takeFrom_145 (by decide) ?_
  refine tw_copy hx hb (hml.trans hl.1.symm) hW hown hK hS (md_okc w_3_224 rfl (md_okc w_3_226 rfl (md_okc w_3_225 rfl (md_okc w_1_18 rfl (md_ok0))))) hz_b85 hk_b85 (Or.inl rfl) hz_b83 hk_b83 (Or.inl rfl) hn_b85 hn_b83 (by have := ((iv_c (c := 10) (n := 10) (by decide))).1; have := ((iv_c (c := 10) (n := 10) (by decide))).2; have := ((iv_c (c := 0) (n := 0) (by decide))).1; have := ((iv_c (c := 0) (n := 0) (by decide))).2; have := ((iv_c (c := 0) (n := 0) (by decide))).1; have := ((iv_c (c := 0) (n := 0) (by decide))).2; omega) (by have := ((iv_c (c := 10) (n := 10) (by decide))).1; have := ((iv_c (c := 10) (n := 10) (by decide))).2; have := ((iv_c (c := 0) (n := 0) (by decide))).1; have := ((iv_c (c := 0) (n := 0) (by decide))).2; have := ((iv_c (c := 0) (n := 0) (by decide))).1; have := ((iv_c (c := 0) (n := 0) (by decide))).2; omega) (by have := ((iv_c (c := 10) (n := 10) (by decide))).1; have := ((iv_c (c := 10) (n := 10) (by decide))).2; have := ((iv_c (c := 0) (n := 0) (by decide))).1; have := ((iv_c (c := 0) (n := 0) (by decide))).2; have := ((iv_c (c := 0) (n := 0) (by decide))).1; have := ((iv_c (c := 0) (n := 0) (by decide))).2; omega) (by have := ((iv_c (c := 10) (n := 10) (by decide))).1; have := ((iv_c (c := 10) (n := 10) (by decide))).2; have := ((iv_c (c := 0) (n := 0) (by decide))).1; have := ((iv_c (c := 0) (n := 0) (by decide))).2; have := ((iv_c (c := 0) (n := 0) (by decide))).1; have := ((iv_c (c := 0) (n := 0) (by decide))).2; omega) (by have := ((iv_c (c := 10) (n := 10) (by decide))).1; have := ((iv_c (c := 10) (n := 10) (by decide))).2; have := ((iv_c (c := 0) (n := 0) (by decide))).1; have := ((iv_c (c := 0) (n := 0) (by decide))).2; have := ((iv_c (c := 0) (n := 0) (by decide))).1; have := ((iv_c (c := 0) (n := 0) (by decide))).2; omega) (fun _ _ => ⟨by show (-2147483648 : Int) ≤ -2147483648; decide, by show (2147483647 : Int) ≤ 2147483647; decide⟩) (Nat.le_of_ble_eq_true rfl) (Nat.le_of_ble_eq_true rfl) rfl dX9_takeFrom_147 (fun H locs M89 hS f87 k88 => ?_)
  refine lv_aload_n hx hb dX9_takeFrom_150 rfl (lv_at hl 1 rfl) ?_
  refine tw_getr hx hb hW hown hK hS f_X9_27_9 hz_a1 hk_a1 (t := 21) (n := 8) rfl dX9_takeFrom_151 (fun b90 k91 hz_b90 hk_b90 hn_b90 => ?_)
  have hn_b90 := hn_b90 (by decide)
  refine lv_iconst (v := 0) hx hb dX9_takeFrom_154 (by decide) ?_
  refine lv_aload_n hx hb dX9_takeFrom_155 rfl (lv_at hl 0 rfl) ?_
  refine tw_getr hx hb hW hown hK hS f_X9_27_9 hz_a0 hk_a0 (t := 21) (n := 8) rfl dX9_takeFrom_156 (fun b92 k93 hz_b92 hk_b92 hn_b92 => ?_)
  have hn_b92 := hn_b92 (by decide)
  refine lv_iconst (v := 0) hx hb dX9_takeFrom_159 (by decide) ?_
  refine lv_bipush (v := 8) hx hb dX9_takeFrom_160 (by decide) ?_
  refine tw_copy hx hb (hml.trans hl.1.symm) hW hown hK hS (md_okc w_3_224 rfl (md_okc w_3_226 rfl (md_okc w_3_225 rfl (md_okc w_1_18 rfl (md_ok0))))) hz_b92 hk_b92 (Or.inr (by decide)) hz_b90 hk_b90 (Or.inr (by decide)) hn_b92 hn_b90 (by have := ((iv_c (c := 8) (n := 8) (by decide))).1; have := ((iv_c (c := 8) (n := 8) (by decide))).2; have := ((iv_c (c := 0) (n := 0) (by decide))).1; have := ((iv_c (c := 0) (n := 0) (by decide))).2; have := ((iv_c (c := 0) (n := 0) (by decide))).1; have := ((iv_c (c := 0) (n := 0) (by decide))).2; omega) (by have := ((iv_c (c := 8) (n := 8) (by decide))).1; have := ((iv_c (c := 8) (n := 8) (by decide))).2; have := ((iv_c (c := 0) (n := 0) (by decide))).1; have := ((iv_c (c := 0) (n := 0) (by decide))).2; have := ((iv_c (c := 0) (n := 0) (by decide))).1; have := ((iv_c (c := 0) (n := 0) (by decide))).2; omega) (by have := ((iv_c (c := 8) (n := 8) (by decide))).1; have := ((iv_c (c := 8) (n := 8) (by decide))).2; have := ((iv_c (c := 0) (n := 0) (by decide))).1; have := ((iv_c (c := 0) (n := 0) (by decide))).2; have := ((iv_c (c := 0) (n := 0) (by decide))).1; have := ((iv_c (c := 0) (n := 0) (by decide))).2; omega) (by have := ((iv_c (c := 8) (n := 8) (by decide))).1; have := ((iv_c (c := 8) (n := 8) (by decide))).2; have := ((iv_c (c := 0) (n := 0) (by decide))).1; have := ((iv_c (c := 0) (n := 0) (by decide))).2; have := ((iv_c (c := 0) (n := 0) (by decide))).1; have := ((iv_c (c := 0) (n := 0) (by decide))).2; omega) (by have := ((iv_c (c := 8) (n := 8) (by decide))).1; have := ((iv_c (c := 8) (n := 8) (by decide))).2; have := ((iv_c (c := 0) (n := 0) (by decide))).1; have := ((iv_c (c := 0) (n := 0) (by decide))).2; have := ((iv_c (c := 0) (n := 0) (by decide))).1; have := ((iv_c (c := 0) (n := 0) (by decide))).2; omega) (fun _ _ => ⟨by show (0 : Int) ≤ 0; decide, by show (11 : Int) ≤ 11; decide⟩) (Nat.le_of_ble_eq_true rfl) (Nat.le_of_ble_eq_true rfl) rfl dX9_takeFrom_162 (fun H locs M96 hS f94 k95 => ?_)
  refine lv_aload_n hx hb dX9_takeFrom_165 rfl (lv_at hl 1 rfl) ?_
  refine tw_getr hx hb hW hown hK hS f_X9_30_9 hz_a1 hk_a1 (t := 14) (n := 48) rfl dX9_takeFrom_166 (fun b97 k98 hz_b97 hk_b97 hn_b97 => ?_)
  have hn_b97 := hn_b97 (by decide)
  refine lv_iconst (v := 0) hx hb dX9_takeFrom_169 (by decide) ?_
  refine lv_aload_n hx hb dX9_takeFrom_170 rfl (lv_at hl 0 rfl) ?_
  refine tw_getr hx hb hW hown hK hS f_X9_30_9 hz_a0 hk_a0 (t := 14) (n := 48) rfl dX9_takeFrom_171 (fun b99 k100 hz_b99 hk_b99 hn_b99 => ?_)
  have hn_b99 := hn_b99 (by decide)
  refine lv_iconst (v := 0) hx hb dX9_takeFrom_174 (by decide) ?_
  refine lv_aload_n hx hb dX9_takeFrom_175 rfl (lv_at hl 0 rfl) ?_
  refine tw_getrk hx hb hW hown hK hS f_X9_30_9 hz_a0 hk_a0 (b := b99) k100 dX9_takeFrom_176 ?_
  refine tw_alenk hx hb hK hS hz_b99 hk_b99 (by decide) hn_b99 (v := 48) (by decide) dX9_takeFrom_179 ?_
  refine tw_copy hx hb (hml.trans hl.1.symm) hW hown hK hS (md_okc w_3_224 rfl (md_okc w_3_226 rfl (md_okc w_3_225 rfl (md_okc w_1_18 rfl (md_ok0))))) hz_b99 hk_b99 (Or.inl rfl) hz_b97 hk_b97 (Or.inl rfl) hn_b99 hn_b97 (by have := ((iv_c (c := 48) (n := 48) (by decide))).1; have := ((iv_c (c := 48) (n := 48) (by decide))).2; have := ((iv_c (c := 0) (n := 0) (by decide))).1; have := ((iv_c (c := 0) (n := 0) (by decide))).2; have := ((iv_c (c := 0) (n := 0) (by decide))).1; have := ((iv_c (c := 0) (n := 0) (by decide))).2; omega) (by have := ((iv_c (c := 48) (n := 48) (by decide))).1; have := ((iv_c (c := 48) (n := 48) (by decide))).2; have := ((iv_c (c := 0) (n := 0) (by decide))).1; have := ((iv_c (c := 0) (n := 0) (by decide))).2; have := ((iv_c (c := 0) (n := 0) (by decide))).1; have := ((iv_c (c := 0) (n := 0) (by decide))).2; omega) (by have := ((iv_c (c := 48) (n := 48) (by decide))).1; have := ((iv_c (c := 48) (n := 48) (by decide))).2; have := ((iv_c (c := 0) (n := 0) (by decide))).1; have := ((iv_c (c := 0) (n := 0) (by decide))).2; have := ((iv_c (c := 0) (n := 0) (by decide))).1; have := ((iv_c (c := 0) (n := 0) (by decide))).2; omega) (by have := ((iv_c (c := 48) (n := 48) (by decide))).1; have := ((iv_c (c := 48) (n := 48) (by decide))).2; have := ((iv_c (c := 0) (n := 0) (by decide))).1; have := ((iv_c (c := 0) (n := 0) (by decide))).2; have := ((iv_c (c := 0) (n := 0) (by decide))).1; have := ((iv_c (c := 0) (n := 0) (by decide))).2; omega) (by have := ((iv_c (c := 48) (n := 48) (by decide))).1; have := ((iv_c (c := 48) (n := 48) (by decide))).2; have := ((iv_c (c := 0) (n := 0) (by decide))).1; have := ((iv_c (c := 0) (n := 0) (by decide))).2; have := ((iv_c (c := 0) (n := 0) (by decide))).1; have := ((iv_c (c := 0) (n := 0) (by decide))).2; omega) (fun _ _ => ⟨by show (-2147483648 : Int) ≤ -2147483648; decide, by show (2147483647 : Int) ≤ 2147483647; decide⟩) (Nat.le_of_ble_eq_true rfl) (Nat.le_of_ble_eq_true rfl) rfl dX9_takeFrom_180 (fun H locs M103 hS f101 k102 => ?_)
  exact tw_endv hx hb hr hlocks hK hT hS hQ (trivial) dX9_takeFrom_183
def Lt_X11_back : WL := [(10, 0, 9), (14, 0, 2000000), (20, 0, 2000000), (21, 0, 2000000)]
def LRt_X11_back : WL := []
set_option maxRecDepth 100000 in
set_option maxHeartbeats 4000000 in
theorem t_X11_back (l : Launch) (D : va_G) (cy : Nat → ClassId) (tx : (Nat → Nat) × (Nat → Nat)) (base Z : Nat) (K N : Nat → Nat) (Ma : MT) (Ra : RT) (Ja : JT) (hTy : Ty Z K N Ma Ra) (a0 : Nat) (hz_a0 : a0 < Z) (hk_a0 : K a0 = 11) (a1 : Int32) (h_a1 : iv (-2147483648) 2147483647 a1) : Met l yX11_back [Cond.code yX11_back cX11_back 2 (some .int)] (md_rm 2 0 0) (va_Pc [.ref (base + a0), .int a1] (md_U D cy tx base Z K N Ma Ra Ja)) (mQi D cy tx base (fun r u => TP Z K N Lt_X11_back LRt_X11_back Ma Ra u ∧ (iv (-2147483648) 2147483647 r))) 0 0 (fun q => base ≤ q) := by
  refine tw_ofW (L := Lt_X11_back) (LR := LRt_X11_back) (by decide) (Nat.le_of_ble_eq_true rfl) hTy ?_
  intro p e s m args below meth c Q ls hx hb hr hlocks hown hml hW hK hT hS hQ hl
  have hl : lv_has ls 2 [(0, .ref (base + a0)), (1, .int a1)] := hl
  refine lv_iload_n hx hb dX11_back_0 rfl (lv_at hl 1 rfl) ?_
  refine lv_if_lt (tgt := 18) hx hb dX11_back_1 (by decide) (fun c1 => ?_) (fun c1 => ?_)
  · have q2 : a1.toInt < 0 := ti_lt c1
    have h3 : iv (-2147483648) (-1) a1 := iv_ltL (y := 0) h_a1 (iv_c (c := 0) (n := 0) (by decide)) q2 (by decide)
    refine lv_aload_n hx hb dX11_back_18 rfl (lv_at hl 0 rfl) ?_
    refine lv_iconst (v := 0) hx hb dX11_back_19 (by decide) ?_
    refine tw_goi hS (md_runV (As := [.int 0]) (rest := []) hx hb hml hown hW hK hT hS.1 (t_X11_refuse l D cy tx base Z K N Ma Ra Ja hS.2.1 a0 hz_a0 hk_a0 0 (iv_mono (iv_c (c := 0) (n := 0) (by decide)) (by decide) (by decide))) s_X11_158 ⟨rfl, rfl, ⟨Nat.le_of_ble_eq_true rfl, Nat.le_of_ble_eq_true rfl⟩, ⟨Nat.le_of_ble_eq_true rfl, Nat.le_of_ble_eq_true rfl⟩⟩ hz_a0 hk_a0 (by decide) rfl rfl hl.1 rfl (Nat.le_of_ble_eq_true rfl) dX11_back_20) rfl rfl (fun x10 H locs M7 R8 J6 hS f4 g5 E9 => ?_)
    have eR8 := Fr.nil g5 rfl
    subst eR8
    have h_x10 := E9
    clear E9
    exact tw_endi hx hb hr hlocks hK hT hS hQ ((iv_mono h_x10 (by decide) (by decide))) dX11_back_23
  · have q11 : 0 ≤ a1.toInt := ti_nlt c1
    have h12 : iv 0 2147483647 a1 := iv_geL (y := 0) h_a1 (iv_c (c := 0) (n := 0) (by decide)) q11 (by decide)
    refine lv_iload_n hx hb dX11_back_4 rfl (lv_at hl 1 rfl) ?_
    refine lv_iconst (v := 4) hx hb dX11_back_5 (by decide) ?_
    refine lv_icmp_ge (tgt := 18) hx hb dX11_back_6 (by decide) (fun c13 => ?_) (fun c13 => ?_)
    · have q14 : 4 ≤ a1.toInt := ti_le c13
      have h15 : iv 4 2147483647 a1 := iv_geL (y := 4) h12 (iv_c (c := 4) (n := 4) (by decide)) q14 (by decide)
      refine lv_aload_n hx hb dX11_back_18 rfl (lv_at hl 0 rfl) ?_
      refine lv_iconst (v := 0) hx hb dX11_back_19 (by decide) ?_
      refine tw_goi hS (md_runV (As := [.int 0]) (rest := []) hx hb hml hown hW hK hT hS.1 (t_X11_refuse l D cy tx base Z K N Ma Ra Ja hS.2.1 a0 hz_a0 hk_a0 0 (iv_mono (iv_c (c := 0) (n := 0) (by decide)) (by decide) (by decide))) s_X11_158 ⟨rfl, rfl, ⟨Nat.le_of_ble_eq_true rfl, Nat.le_of_ble_eq_true rfl⟩, ⟨Nat.le_of_ble_eq_true rfl, Nat.le_of_ble_eq_true rfl⟩⟩ hz_a0 hk_a0 (by decide) rfl rfl hl.1 rfl (Nat.le_of_ble_eq_true rfl) dX11_back_20) rfl rfl (fun x22 H locs M19 R20 J18 hS f16 g17 E21 => ?_)
      have eR20 := Fr.nil g17 rfl
      subst eR20
      have h_x22 := E21
      clear E21
      exact tw_endi hx hb hr hlocks hK hT hS hQ ((iv_mono h_x22 (by decide) (by decide))) dX11_back_23
    · have q23 : a1.toInt < 4 := ti_nle c13
      have h24 : iv 0 3 a1 := iv_ltL (y := 4) h12 (iv_c (c := 4) (n := 4) (by decide)) q23 (by decide)
      refine lv_aload_n hx hb dX11_back_9 rfl (lv_at hl 0 rfl) ?_
      refine tw_getr hx hb hW hown hK hS f_X11_19_10 hz_a0 hk_a0 (t := 18) (n := 4) rfl dX11_back_10 (fun b25 k26 hz_b25 hk_b25 hn_b25 => ?_)
      have hn_b25 := hn_b25 (by decide)
      refine lv_iload_n hx hb dX11_back_13 rfl (lv_at hl 1 rfl) ?_
      refine tw_aald hx hb hK hS hz_b25 hk_b25 ⟨by decide, by decide⟩ hn_b25 h24 ⟨by decide, by decide⟩ (t2 := 10) (n2 := 0) (o := 1) (fun _ => rfl) dX11_back_14 (fun k29 => ?_) (fun b27 k28 hz_b27 hk_b27 hn_b27 => ?_)
      · refine lv_ifnonnullN hx hb dX11_back_15 ?_
        refine lv_aload_n hx hb dX11_back_18 rfl (lv_at hl 0 rfl) ?_
        refine lv_iconst (v := 0) hx hb dX11_back_19 (by decide) ?_
        refine tw_goi hS (md_runV (As := [.int 0]) (rest := []) hx hb hml hown hW hK hT hS.1 (t_X11_refuse l D cy tx base Z K N Ma Ra Ja hS.2.1 a0 hz_a0 hk_a0 0 (iv_mono (iv_c (c := 0) (n := 0) (by decide)) (by decide) (by decide))) s_X11_158 ⟨rfl, rfl, ⟨Nat.le_of_ble_eq_true rfl, Nat.le_of_ble_eq_true rfl⟩, ⟨Nat.le_of_ble_eq_true rfl, Nat.le_of_ble_eq_true rfl⟩⟩ hz_a0 hk_a0 (by decide) rfl rfl hl.1 rfl (Nat.le_of_ble_eq_true rfl) dX11_back_20) rfl rfl (fun x36 H locs M33 R34 J32 hS f30 g31 E35 => ?_)
        have eR34 := Fr.nil g31 rfl
        subst eR34
        have h_x36 := E35
        clear E35
        exact tw_endi hx hb hr hlocks hK hT hS hQ ((iv_mono h_x36 (by decide) (by decide))) dX11_back_23
      · refine lv_ifnonnull (tgt := 24) hx hb dX11_back_15 (by decide) ?_
        refine lv_aload_n hx hb dX11_back_24 rfl (lv_at hl 0 rfl) ?_
        refine tw_getr hx hb hW hown hK hS f_X11_31_10 hz_a0 hk_a0 (t := 10) (n := 0) rfl dX11_back_25 (fun b37 k38 hz_b37 hk_b37 hn_b37 => ?_)
        refine lv_aload_n hx hb dX11_back_28 rfl (lv_at hl 0 rfl) ?_
        refine tw_getrk hx hb hW hown hK hS f_X11_19_10 hz_a0 hk_a0 (b := b25) k26 dX11_back_29 ?_
        refine lv_iload_n hx hb dX11_back_32 rfl (lv_at hl 1 rfl) ?_
        refine tw_aalk hx hb hK hS hz_b25 hk_b25 ⟨by decide, by decide⟩ hn_b25 h24 ⟨by decide, by decide⟩ (b := b27) k28 dX11_back_33 ?_
        refine tw_gov hS (md_runV (As := [.ref (base + b27)]) (rest := []) hx hb hml hown hW hK hT hS.1 (t_X9_takeFrom l D cy tx base Z K N Ma Ra Ja hS.2.1 b37 hz_b37 hk_b37 b27 hz_b27 hk_b27) s_X11_112 ⟨rfl, rfl, ⟨Nat.le_of_ble_eq_true rfl, Nat.le_of_ble_eq_true rfl⟩, ⟨Nat.le_of_ble_eq_true rfl, Nat.le_of_ble_eq_true rfl⟩⟩ hz_b37 hk_b37 (by decide) rfl rfl hl.1 rfl (Nat.le_of_ble_eq_true rfl) dX11_back_34) rfl rfl (fun H locs M42 R43 J41 hS f39 g40 E44 => ?_)
        have eR43 := Fr.nil g40 rfl
        subst eR43
        refine lv_aload_n hx hb dX11_back_37 rfl (lv_at hl 0 rfl) ?_
        refine tw_getrk hx hb hW hown hK hS f_X11_31_10 hz_a0 hk_a0 (b := b37) k38 dX11_back_38 ?_
        refine tw_geti hx hb hW hown hK hS f_X11_180_9 hz_b37 hk_b37 (lo := (-2147483648)) (hi := 2147483647) rfl dX11_back_41 (fun x47 k46 h45 => ?_)
        exact tw_endi hx hb hr hlocks hK hT hS hQ (h45) dX11_back_44
def Lt_X5_grow : WL := [(20, 0, 2000000)]
def LRt_X5_grow : WL := []
set_option maxRecDepth 100000 in
set_option maxHeartbeats 4000000 in
theorem t_X5_grow (l : Launch) (D : va_G) (cy : Nat → ClassId) (tx : (Nat → Nat) × (Nat → Nat)) (base Z : Nat) (K N : Nat → Nat) (Ma : MT) (Ra : RT) (Ja : JT) (hTy : Ty Z K N Ma Ra) (a0 : Nat) (hz_a0 : a0 < Z) (hk_a0 : K a0 = 6) (a1 : Nat) (hz_a1 : a1 < Z) (hk_a1 : K a1 = 20) (hn_a1 : N a1 = 10) (a2 : Int32) (h_a2 : iv (-2147483648) 2147483647 a2) (a3 : Int32) (h_a3 : iv (-2147483648) 2147483647 a3) : Met l yX5_grow [Cond.code yX5_grow cX5_grow 6 none] (md_rm 1 0 0) (va_Pc [.ref (base + a0), .ref (base + a1), .int a2, .int a3] (md_U D cy tx base Z K N Ma Ra Ja)) (mQv D cy tx base (fun u => TP Z K N Lt_X5_grow LRt_X5_grow Ma Ra u ∧ (True))) 0 0 (fun q => base ≤ q) := by
  refine tw_ofW (L := Lt_X5_grow) (LR := LRt_X5_grow) (by decide) (Nat.le_of_ble_eq_true rfl) hTy ?_
  intro p e s m args below meth c Q ls hx hb hr hlocks hown hml hW hK hT hS hQ hl
  have hl : lv_has ls 6 [(0, .ref (base + a0)), (1, .ref (base + a1)), (2, .int a2), (3, .int a3)] := hl
  refine lv_iconst (v := 0) hx hb dX5_grow_0 (by decide) ?_
  refine lv_istore (lv' := [(4, .int 0), (0, .ref (base + a0)), (1, .ref (base + a1)), (2, .int a2), (3, .int a3)]) hx hb dX5_grow_1 hl (by decide) rfl (fun ls hl => ?_)
  have W3_2 : ∀ (n_2 : Nat) (x1 : Int32) (M2 : MT) (R3 : RT) (J4 : JT) (H : Heap) (locs : List Loc) (ls : Array Slot) (h_x1 : iv 0 10 x1) (hm_2 : 10 - x1.toInt < (n_2 : Int)) (hS : SB D cy base Z K N Lt_X5_grow LRt_X5_grow Ma Ra M2 R3 J4 s H locs) (hl : lv_has ls 6 [(4, .int x1), (0, .ref (base + a0)), (1, .ref (base + a1)), (2, .int a2), (3, .int a3)]), W p l e (md_rm 1 0 0) s m args below meth c H locs 0 0 Q (F0 m 3 ls []) := by
    intro n_2
    induction n_2 with
    | zero =>
      intro x1 M2 R3 J4 H locs ls h_x1 hm_2 hS hl
      exfalso
      have := (h_a2).1; have := (h_a2).2; have := (h_a3).1; have := (h_a3).2; have := (h_x1).1; have := (h_x1).2; omega
    | succ n_2 ih_2 =>
      intro x1 M2 R3 J4 H locs ls h_x1 hm_2 hS hl
      have f5 := hS.2.2.1
      have g6 := hS.2.2.2
      refine lv_iload hx hb dX5_grow_3 (lv_at hl 0 rfl) ?_
      refine lv_aload_n hx hb dX5_grow_5 rfl (lv_at hl 1 rfl) ?_
      refine tw_getr hx hb hW hown hK hS f_X5_9_5 hz_a0 hk_a0 (t := 10) (n := 0) rfl dX5_grow_6 (fun b7 k8 hz_b7 hk_b7 hn_b7 => ?_)
      refine tw_geti hx hb hW hown hK hS f_X5_53_9 hz_b7 hk_b7 (lo := (-2147483648)) (hi := 10) rfl dX5_grow_9 (fun x11 k10 h9 => ?_)
      refine lv_icmp_ge (tgt := 117) hx hb dX5_grow_12 (by decide) (fun c12 => ?_) (fun c12 => ?_)
      · have q13 : x11.toInt ≤ x1.toInt := ti_le c12
        exact tw_endv hx hb hr hlocks hK hT hS hQ (trivial) dX5_grow_117
      · have q14 : x1.toInt < x11.toInt := ti_nle c12
        have h15 : iv 0 9 x1 := iv_ltL (y := x11) h_x1 h9 q14 (by decide)
        have h16 : iv 1 10 x11 := iv_gtL (y := x1) h9 h_x1 q14 (by decide)
        refine lv_iload_n hx hb dX5_grow_15 rfl (lv_at hl 3 rfl) ?_
        refine lv_iload hx hb dX5_grow_16 (lv_at hl 0 rfl) ?_
        refine lv_ishr hx hb dX5_grow_18 ?_
        refine tw_top (fun x18 => ?_)
        have h17 := iv_any x18
        refine lv_iconst (v := 1) hx hb dX5_grow_19 (by decide) ?_
        refine tw_iand (hi := 1) hx hb (iv_mono (iv_c (c := 1) (n := 1) (by decide)) (lo := 0) (hi := 1) (by decide) (by decide)) (by decide) dX5_grow_20 (fun x21 h19 => ?_)
        refine lv_iconst (v := 1) hx hb dX5_grow_21 (by decide) ?_
        refine lv_icmp_ne (tgt := 57) hx hb dX5_grow_22 (by decide) (fun c22 => ?_) (fun c22 => ?_)
        · have q23 : ¬ x21.toInt = 1 := ti_ne c22
          have h24 : iv 0 0 x21 := ⟨by have := (h19).1; have := ((iv_c (c := 1) (n := 1) (by decide))).1; have := ((iv_c (c := 1) (n := 1) (by decide))).2; omega, by have := (h19).2; have := ((iv_c (c := 1) (n := 1) (by decide))).1; have := ((iv_c (c := 1) (n := 1) (by decide))).2; omega⟩
          refine lv_iload_n hx hb dX5_grow_57 rfl (lv_at hl 4 rfl) ?_
          refine lv_iload hx hb dX5_grow_58 (lv_at hl 0 rfl) ?_
          refine lv_ishr hx hb dX5_grow_60 ?_
          refine tw_top (fun x26 => ?_)
          have h25 := iv_any x26
          refine lv_iconst (v := 1) hx hb dX5_grow_61 (by decide) ?_
          refine tw_iand (hi := 1) hx hb (iv_mono (iv_c (c := 1) (n := 1) (by decide)) (lo := 0) (hi := 1) (by decide) (by decide)) (by decide) dX5_grow_62 (fun x29 h27 => ?_)
          refine lv_iconst (v := 1) hx hb dX5_grow_63 (by decide) ?_
          refine lv_icmp_ne (tgt := 111) hx hb dX5_grow_64 (by decide) (fun c30 => ?_) (fun c30 => ?_)
          · have q31 : ¬ x29.toInt = 1 := ti_ne c30
            have h32 : iv 0 0 x29 := ⟨by have := (h27).1; have := ((iv_c (c := 1) (n := 1) (by decide))).1; have := ((iv_c (c := 1) (n := 1) (by decide))).2; omega, by have := (h27).2; have := ((iv_c (c := 1) (n := 1) (by decide))).1; have := ((iv_c (c := 1) (n := 1) (by decide))).2; omega⟩
            refine tw_iinc (lv' := fun x35 => [(4, .int x35), (0, .ref (base + a0)), (1, .ref (base + a1)), (2, .int a2), (3, .int a3)]) (lo := 1) (hi := 10) hx hb dX5_grow_111 hl (k := 0) rfl h15 (by decide) ⟨by decide, by decide⟩ ⟨by decide, by decide⟩ (by decide) (fun _ => rfl) (fun x35 ls e34 h33 hl => ?_)
            refine lv_goto (tgt := 3) hx hb dX5_grow_114 (by decide) ?_
            have hm36 : 10 - x35.toInt < (n_2 : Int) := by
              have := (h_a2).1; have := (h_a2).2; have := (h_a3).1; have := (h_a3).2; have := (h15).1; have := (h15).2; have := (h33).1; have := (h33).2; omega
            exact ih_2 x35 M2 R3 J4 H locs _ (iv_mono h33 (by decide) (by decide)) hm36 hS hl
          · have q37 : x29.toInt = 1 := ti_eq c30
            have h38 : iv 1 1 x29 := ⟨by have := (h27).1; have := ((iv_c (c := 1) (n := 1) (by decide))).1; omega, by have := (h27).2; have := ((iv_c (c := 1) (n := 1) (by decide))).2; omega⟩
            refine lv_aload_n hx hb dX5_grow_67 rfl (lv_at hl 1 rfl) ?_
            refine tw_getrk hx hb hW hown hK hS f_X5_9_5 hz_a0 hk_a0 (b := b7) k8 dX5_grow_68 ?_
            refine tw_geti hx hb hW hown hK hS f_X5_105_9 hz_b7 hk_b7 (lo := (-2147483648)) (hi := 2147483647) rfl dX5_grow_71 (fun x41 k40 h39 => ?_)
            refine lv_iconst (v := 1) hx hb dX5_grow_74 (by decide) ?_
            refine lv_icmp_ne (tgt := 87) hx hb dX5_grow_75 (by decide) (fun c42 => ?_) (fun c42 => ?_)
            · have q43 : ¬ x41.toInt = 1 := ti_ne c42
              refine lv_aload_n hx hb dX5_grow_87 rfl (lv_at hl 2 rfl) ?_
              refine lv_iload hx hb dX5_grow_88 (lv_at hl 0 rfl) ?_
              refine tw_iald hx hb hK hS hz_a1 hk_a1 (Or.inr (by decide)) hn_a1 (lo := (-2147483648)) (hi := 2147483647) h15 ⟨by decide, by decide⟩ rg_u20 dX5_grow_90 (fun x46 k45 h44 => ?_)
              refine lv_iconst (v := 1) hx hb dX5_grow_91 (by decide) ?_
              refine lv_iadd hx hb dX5_grow_92 ?_
              refine tw_top (fun x48 => ?_)
              have h47 := iv_any x48
              refine lv_istore (lv' := [(5, .int x48), (4, .int x1), (0, .ref (base + a0)), (1, .ref (base + a1)), (2, .int a2), (3, .int a3)]) hx hb dX5_grow_93 hl (by decide) rfl (fun ls hl => ?_)
              refine lv_aload_n hx hb dX5_grow_95 rfl (lv_at hl 3 rfl) ?_
              refine lv_iload hx hb dX5_grow_96 (lv_at hl 1 rfl) ?_
              refine lv_aload_n hx hb dX5_grow_98 rfl (lv_at hl 2 rfl) ?_
              refine tw_getrk hx hb hW hown hK hS f_X5_9_5 hz_a0 hk_a0 (b := b7) k8 dX5_grow_99 ?_
              refine tw_geti hx hb hW hown hK hS f_X5_113_9 hz_b7 hk_b7 (lo := 0) (hi := 9999) rfl dX5_grow_102 (fun x51 k50 h49 => ?_)
              refine lv_iload hx hb dX5_grow_105 (lv_at hl 0 rfl) ?_
              refine va_mmin hx hb (hml.trans hl.1.symm) hown (hW _ w_4_188 rfl) (hW _ w_3_86 rfl) (hW _ w_1_13 rfl) (hW _ w_3_87 rfl) (Nat.le_of_ble_eq_true rfl) (Nat.le_of_ble_eq_true rfl) (Nat.le_of_ble_eq_true rfl) (Nat.le_of_ble_eq_true rfl) dX5_grow_107 ?_
              refine tw_mmin (lo := (-2147483648)) (hi := 9999) h49 h47 (by decide) (fun x54 e53 h52 => ?_)
              refine tw_iast hx hb hK hS hz_a1 hk_a1 (Or.inr (by decide)) hn_a1 h15 ⟨by decide, by decide⟩ h52 (rg_s20 ⟨by decide, by decide⟩) (jl := 0) (jh := 1999999) ⟨by decide, by decide⟩ rfl dX5_grow_110 (fun H locs M57 hS k55 f56 => ?_)
              refine tw_iinc (lv' := fun x60 => [(4, .int x60), (5, .int x48), (0, .ref (base + a0)), (1, .ref (base + a1)), (2, .int a2), (3, .int a3)]) (lo := 1) (hi := 10) hx hb dX5_grow_111 hl (k := 1) rfl h15 (by decide) ⟨by decide, by decide⟩ ⟨by decide, by decide⟩ (by decide) (fun _ => rfl) (fun x60 ls e59 h58 hl => ?_)
              refine lv_goto (tgt := 3) hx hb dX5_grow_114 (by decide) ?_
              have hm61 : 10 - x60.toInt < (n_2 : Int) := by
                have := (h_a2).1; have := (h_a2).2; have := (h_a3).1; have := (h_a3).2; have := (h15).1; have := (h15).2; have := (h58).1; have := (h58).2; omega
              exact ih_2 x60 M57 R3 J4 H locs _ (iv_mono h58 (by decide) (by decide)) hm61 hS (lv_sub hl [0, 2, 3, 4, 5] rfl)
            · have q62 : x41.toInt = 1 := ti_eq c42
              have h63 : iv 1 1 x41 := ⟨by have := (h39).1; have := ((iv_c (c := 1) (n := 1) (by decide))).1; omega, by have := (h39).2; have := ((iv_c (c := 1) (n := 1) (by decide))).2; omega⟩
              refine lv_iconst (v := 2) hx hb dX5_grow_78 (by decide) ?_
              refine lv_aload_n hx hb dX5_grow_79 rfl (lv_at hl 2 rfl) ?_
              refine lv_iload hx hb dX5_grow_80 (lv_at hl 0 rfl) ?_
              refine tw_iald hx hb hK hS hz_a1 hk_a1 (Or.inr (by decide)) hn_a1 (lo := (-2147483648)) (hi := 2147483647) h15 ⟨by decide, by decide⟩ rg_u20 dX5_grow_82 (fun x66 k65 h64 => ?_)
              refine lv_imul hx hb dX5_grow_83 ?_
              refine tw_top (fun x68 => ?_)
              have h67 := iv_any x68
              refine lv_goto (tgt := 93) hx hb dX5_grow_84 (by decide) ?_
              refine lv_istore (lv' := [(5, .int x68), (4, .int x1), (0, .ref (base + a0)), (1, .ref (base + a1)), (2, .int a2), (3, .int a3)]) hx hb dX5_grow_93 hl (by decide) rfl (fun ls hl => ?_)
              refine lv_aload_n hx hb dX5_grow_95 rfl (lv_at hl 3 rfl) ?_
              refine lv_iload hx hb dX5_grow_96 (lv_at hl 1 rfl) ?_
              refine lv_aload_n hx hb dX5_grow_98 rfl (lv_at hl 2 rfl) ?_
              refine tw_getrk hx hb hW hown hK hS f_X5_9_5 hz_a0 hk_a0 (b := b7) k8 dX5_grow_99 ?_
              refine tw_geti hx hb hW hown hK hS f_X5_113_9 hz_b7 hk_b7 (lo := 0) (hi := 9999) rfl dX5_grow_102 (fun x71 k70 h69 => ?_)
              refine lv_iload hx hb dX5_grow_105 (lv_at hl 0 rfl) ?_
              refine va_mmin hx hb (hml.trans hl.1.symm) hown (hW _ w_4_188 rfl) (hW _ w_3_86 rfl) (hW _ w_1_13 rfl) (hW _ w_3_87 rfl) (Nat.le_of_ble_eq_true rfl) (Nat.le_of_ble_eq_true rfl) (Nat.le_of_ble_eq_true rfl) (Nat.le_of_ble_eq_true rfl) dX5_grow_107 ?_
              refine tw_mmin (lo := (-2147483648)) (hi := 9999) h69 h67 (by decide) (fun x74 e73 h72 => ?_)
              refine tw_iast hx hb hK hS hz_a1 hk_a1 (Or.inr (by decide)) hn_a1 h15 ⟨by decide, by decide⟩ h72 (rg_s20 ⟨by decide, by decide⟩) (jl := 0) (jh := 1999999) ⟨by decide, by decide⟩ rfl dX5_grow_110 (fun H locs M77 hS k75 f76 => ?_)
              refine tw_iinc (lv' := fun x80 => [(4, .int x80), (5, .int x68), (0, .ref (base + a0)), (1, .ref (base + a1)), (2, .int a2), (3, .int a3)]) (lo := 1) (hi := 10) hx hb dX5_grow_111 hl (k := 1) rfl h15 (by decide) ⟨by decide, by decide⟩ ⟨by decide, by decide⟩ (by decide) (fun _ => rfl) (fun x80 ls e79 h78 hl => ?_)
              refine lv_goto (tgt := 3) hx hb dX5_grow_114 (by decide) ?_
              have hm81 : 10 - x80.toInt < (n_2 : Int) := by
                have := (h_a2).1; have := (h_a2).2; have := (h_a3).1; have := (h_a3).2; have := (h15).1; have := (h15).2; have := (h78).1; have := (h78).2; omega
              exact ih_2 x80 M77 R3 J4 H locs _ (iv_mono h78 (by decide) (by decide)) hm81 hS (lv_sub hl [0, 2, 3, 4, 5] rfl)
        · have q82 : x21.toInt = 1 := ti_eq c22
          have h83 : iv 1 1 x21 := ⟨by have := (h19).1; have := ((iv_c (c := 1) (n := 1) (by decide))).1; omega, by have := (h19).2; have := ((iv_c (c := 1) (n := 1) (by decide))).2; omega⟩
          refine lv_aload_n hx hb dX5_grow_25 rfl (lv_at hl 2 rfl) ?_
          refine lv_iload hx hb dX5_grow_26 (lv_at hl 0 rfl) ?_
          refine lv_aload_n hx hb dX5_grow_28 rfl (lv_at hl 1 rfl) ?_
          refine tw_getrk hx hb hW hown hK hS f_X5_9_5 hz_a0 hk_a0 (b := b7) k8 dX5_grow_29 ?_
          refine tw_geti hx hb hW hown hK hS f_X5_105_9 hz_b7 hk_b7 (lo := (-2147483648)) (hi := 2147483647) rfl dX5_grow_32 (fun x86 k85 h84 => ?_)
          refine lv_iconst (v := 2) hx hb dX5_grow_35 (by decide) ?_
          refine lv_icmp_ne (tgt := 52) hx hb dX5_grow_36 (by decide) (fun c87 => ?_) (fun c87 => ?_)
          · have q88 : ¬ x86.toInt = 2 := ti_ne c87
            refine lv_iconst (v := 1) hx hb dX5_grow_52 (by decide) ?_
            refine tw_iast hx hb hK hS hz_a1 hk_a1 (Or.inr (by decide)) hn_a1 h15 ⟨by decide, by decide⟩ (iv_c (c := 1) (n := 1) (by decide)) (rg_s20 ⟨by decide, by decide⟩) (jl := 0) (jh := 1999999) ⟨by decide, by decide⟩ rfl dX5_grow_53 (fun H locs M91 hS k89 f90 => ?_)
            refine lv_goto (tgt := 111) hx hb dX5_grow_54 (by decide) ?_
            refine tw_iinc (lv' := fun x94 => [(4, .int x94), (0, .ref (base + a0)), (1, .ref (base + a1)), (2, .int a2), (3, .int a3)]) (lo := 1) (hi := 10) hx hb dX5_grow_111 hl (k := 0) rfl h15 (by decide) ⟨by decide, by decide⟩ ⟨by decide, by decide⟩ (by decide) (fun _ => rfl) (fun x94 ls e93 h92 hl => ?_)
            refine lv_goto (tgt := 3) hx hb dX5_grow_114 (by decide) ?_
            have hm95 : 10 - x94.toInt < (n_2 : Int) := by
              have := (h_a2).1; have := (h_a2).2; have := (h_a3).1; have := (h_a3).2; have := (h15).1; have := (h15).2; have := (h92).1; have := (h92).2; omega
            exact ih_2 x94 M91 R3 J4 H locs _ (iv_mono h92 (by decide) (by decide)) hm95 hS hl
          · have q96 : x86.toInt = 2 := ti_eq c87
            have h97 : iv 2 2 x86 := ⟨by have := (h84).1; have := ((iv_c (c := 2) (n := 2) (by decide))).1; omega, by have := (h84).2; have := ((iv_c (c := 2) (n := 2) (by decide))).2; omega⟩
            refine lv_iconst (v := 1) hx hb dX5_grow_39 (by decide) ?_
            refine lv_aload_n hx hb dX5_grow_40 rfl (lv_at hl 2 rfl) ?_
            refine lv_iload hx hb dX5_grow_41 (lv_at hl 0 rfl) ?_
            refine tw_iald hx hb hK hS hz_a1 hk_a1 (Or.inr (by decide)) hn_a1 (lo := (-2147483648)) (hi := 2147483647) h15 ⟨by decide, by decide⟩ rg_u20 dX5_grow_43 (fun x100 k99 h98 => ?_)
            refine lv_iconst (v := 2) hx hb dX5_grow_44 (by decide) ?_
            refine tw_idivw hx hb (iv_c (c := 2) (n := 2) (by decide)) (Or.inl (by decide)) dX5_grow_45 (fun x102 => ?_)
            have h101 := iv_any x102
            refine va_mmax hx hb (hml.trans hl.1.symm) hown (hW _ w_4_187 rfl) (hW _ w_4_75 rfl) (hW _ w_1_13 rfl) (hW _ w_4_76 rfl) (Nat.le_of_ble_eq_true rfl) (Nat.le_of_ble_eq_true rfl) (Nat.le_of_ble_eq_true rfl) (Nat.le_of_ble_eq_true rfl) dX5_grow_46 ?_
            refine tw_mmax (lo := 1) (hi := 2147483647) (iv_c (c := 1) (n := 1) (by decide)) h101 (by decide) (fun x105 e104 h103 => ?_)
            refine lv_goto (tgt := 53) hx hb dX5_grow_49 (by decide) ?_
            refine tw_iast hx hb hK hS hz_a1 hk_a1 (Or.inr (by decide)) hn_a1 h15 ⟨by decide, by decide⟩ h103 (rg_s20 ⟨by decide, by decide⟩) (jl := 0) (jh := 1999999) ⟨by decide, by decide⟩ rfl dX5_grow_53 (fun H locs M108 hS k106 f107 => ?_)
            refine lv_goto (tgt := 111) hx hb dX5_grow_54 (by decide) ?_
            refine tw_iinc (lv' := fun x111 => [(4, .int x111), (0, .ref (base + a0)), (1, .ref (base + a1)), (2, .int a2), (3, .int a3)]) (lo := 1) (hi := 10) hx hb dX5_grow_111 hl (k := 0) rfl h15 (by decide) ⟨by decide, by decide⟩ ⟨by decide, by decide⟩ (by decide) (fun _ => rfl) (fun x111 ls e110 h109 hl => ?_)
            refine lv_goto (tgt := 3) hx hb dX5_grow_114 (by decide) ?_
            have hm112 : 10 - x111.toInt < (n_2 : Int) := by
              have := (h_a2).1; have := (h_a2).2; have := (h_a3).1; have := (h_a3).2; have := (h15).1; have := (h15).2; have := (h109).1; have := (h109).2; omega
            exact ih_2 x111 M108 R3 J4 H locs _ (iv_mono h109 (by decide) (by decide)) hm112 hS hl
  have hm113 : 10 - (0 : Int32).toInt < (((11 : Nat) : Int) : Int) := by
    have := (h_a2).1; have := (h_a2).2; have := (h_a3).1; have := (h_a3).2; have : (0 : Int32).toInt = 0 := (by decide); omega
  exact W3_2 11 0 Ma Ra Ja s.heap [] _ (iv_mono (iv_c (c := 0) (n := 0) (by decide)) (by decide) (by decide)) hm113 hS hl
def Lt_X5_lead : WL := []
def LRt_X5_lead : WL := []
set_option maxRecDepth 100000 in
set_option maxHeartbeats 4000000 in
theorem t_X5_lead (l : Launch) (D : va_G) (cy : Nat → ClassId) (tx : (Nat → Nat) × (Nat → Nat)) (base Z : Nat) (K N : Nat → Nat) (Ma : MT) (Ra : RT) (Ja : JT) (hTy : Ty Z K N Ma Ra) (a0 : Nat) (hz_a0 : a0 < Z) (hk_a0 : K a0 = 6) (a1 : Nat) (hz_a1 : a1 < Z) (hk_a1 : K a1 = 20) (hn_a1 : N a1 = 10) (a2 : Int32) (h_a2 : iv (-2147483648) 2147483647 a2) (a3 : Int32) (h_a3 : iv (-2147483648) 2147483647 a3) : Met l yX5_lead [Cond.code yX5_lead cX5_lead 6 (some .int)] (md_rm 1 0 0) (va_Pc [.ref (base + a0), .ref (base + a1), .int a2, .int a3] (md_U D cy tx base Z K N Ma Ra Ja)) (mQi D cy tx base (fun r u => TP Z K N Lt_X5_lead LRt_X5_lead Ma Ra u ∧ (iv (-2147483648) 2147483647 r))) 0 0 (fun q => base ≤ q) := by
  refine tw_ofW (L := Lt_X5_lead) (LR := LRt_X5_lead) (by decide) (Nat.le_of_ble_eq_true rfl) hTy ?_
  intro p e s m args below meth c Q ls hx hb hr hlocks hown hml hW hK hT hS hQ hl
  have hl : lv_has ls 6 [(0, .ref (base + a0)), (1, .ref (base + a1)), (2, .int a2), (3, .int a3)] := hl
  refine lv_iconst (v := 0) hx hb dX5_lead_0 (by decide) ?_
  refine lv_istore (lv' := [(4, .int 0), (0, .ref (base + a0)), (1, .ref (base + a1)), (2, .int a2), (3, .int a3)]) hx hb dX5_lead_1 hl (by decide) rfl (fun ls hl => ?_)
  refine lv_iconst (v := 0) hx hb dX5_lead_3 (by decide) ?_
  refine lv_istore (lv' := [(5, .int 0), (4, .int 0), (0, .ref (base + a0)), (1, .ref (base + a1)), (2, .int a2), (3, .int a3)]) hx hb dX5_lead_4 hl (by decide) rfl (fun ls hl => ?_)
  have W6_3 : ∀ (n_3 : Nat) (x1 : Int32) (x2 : Int32) (M3 : MT) (R4 : RT) (J5 : JT) (H : Heap) (locs : List Loc) (ls : Array Slot) (h_x1 : iv (-2147483648) 2147483647 x1) (h_x2 : iv 0 10 x2) (hm_3 : 10 - x2.toInt < (n_3 : Int)) (hS : SB D cy base Z K N Lt_X5_lead LRt_X5_lead Ma Ra M3 R4 J5 s H locs) (hl : lv_has ls 6 [(4, .int x1), (5, .int x2), (0, .ref (base + a0)), (1, .ref (base + a1)), (2, .int a2), (3, .int a3)]), W p l e (md_rm 1 0 0) s m args below meth c H locs 0 0 Q (F0 m 6 ls []) := by
    intro n_3
    induction n_3 with
    | zero =>
      intro x1 x2 M3 R4 J5 H locs ls h_x1 h_x2 hm_3 hS hl
      exfalso
      have := (h_a2).1; have := (h_a2).2; have := (h_a3).1; have := (h_a3).2; have := (h_x2).1; have := (h_x2).2; omega
    | succ n_3 ih_3 =>
      intro x1 x2 M3 R4 J5 H locs ls h_x1 h_x2 hm_3 hS hl
      have f6 := hS.2.2.1
      have g7 := hS.2.2.2
      refine lv_iload hx hb dX5_lead_6 (lv_at hl 1 rfl) ?_
      refine lv_aload_n hx hb dX5_lead_8 rfl (lv_at hl 2 rfl) ?_
      refine tw_getr hx hb hW hown hK hS f_X5_9_5 hz_a0 hk_a0 (t := 10) (n := 0) rfl dX5_lead_9 (fun b8 k9 hz_b8 hk_b8 hn_b8 => ?_)
      refine tw_geti hx hb hW hown hK hS f_X5_53_9 hz_b8 hk_b8 (lo := (-2147483648)) (hi := 10) rfl dX5_lead_12 (fun x12 k11 h10 => ?_)
      refine lv_icmp_ge (tgt := 65) hx hb dX5_lead_15 (by decide) (fun c13 => ?_) (fun c13 => ?_)
      · have q14 : x12.toInt ≤ x2.toInt := ti_le c13
        refine lv_iload hx hb dX5_lead_65 (lv_at hl 0 rfl) ?_
        exact tw_endi hx hb hr hlocks hK hT hS hQ (h_x1) dX5_lead_67
      · have q15 : x2.toInt < x12.toInt := ti_nle c13
        have h16 : iv 0 9 x2 := iv_ltL (y := x12) h_x2 h10 q15 (by decide)
        have h17 : iv 1 10 x12 := iv_gtL (y := x2) h10 h_x2 q15 (by decide)
        refine lv_iload_n hx hb dX5_lead_18 rfl (lv_at hl 4 rfl) ?_
        refine lv_iload hx hb dX5_lead_19 (lv_at hl 1 rfl) ?_
        refine lv_ishr hx hb dX5_lead_21 ?_
        refine tw_top (fun x19 => ?_)
        have h18 := iv_any x19
        refine lv_iconst (v := 1) hx hb dX5_lead_22 (by decide) ?_
        refine tw_iand (hi := 1) hx hb (iv_mono (iv_c (c := 1) (n := 1) (by decide)) (lo := 0) (hi := 1) (by decide) (by decide)) (by decide) dX5_lead_23 (fun x22 h20 => ?_)
        refine lv_iconst (v := 1) hx hb dX5_lead_24 (by decide) ?_
        refine lv_icmp_ne (tgt := 40) hx hb dX5_lead_25 (by decide) (fun c23 => ?_) (fun c23 => ?_)
        · have q24 : ¬ x22.toInt = 1 := ti_ne c23
          have h25 : iv 0 0 x22 := ⟨by have := (h20).1; have := ((iv_c (c := 1) (n := 1) (by decide))).1; have := ((iv_c (c := 1) (n := 1) (by decide))).2; omega, by have := (h20).2; have := ((iv_c (c := 1) (n := 1) (by decide))).1; have := ((iv_c (c := 1) (n := 1) (by decide))).2; omega⟩
          refine lv_iload_n hx hb dX5_lead_40 rfl (lv_at hl 5 rfl) ?_
          refine lv_iload hx hb dX5_lead_41 (lv_at hl 1 rfl) ?_
          refine lv_ishr hx hb dX5_lead_43 ?_
          refine tw_top (fun x27 => ?_)
          have h26 := iv_any x27
          refine lv_iconst (v := 1) hx hb dX5_lead_44 (by decide) ?_
          refine tw_iand (hi := 1) hx hb (iv_mono (iv_c (c := 1) (n := 1) (by decide)) (lo := 0) (hi := 1) (by decide) (by decide)) (by decide) dX5_lead_45 (fun x30 h28 => ?_)
          refine lv_iconst (v := 1) hx hb dX5_lead_46 (by decide) ?_
          refine lv_icmp_ne (tgt := 59) hx hb dX5_lead_47 (by decide) (fun c31 => ?_) (fun c31 => ?_)
          · have q32 : ¬ x30.toInt = 1 := ti_ne c31
            have h33 : iv 0 0 x30 := ⟨by have := (h28).1; have := ((iv_c (c := 1) (n := 1) (by decide))).1; have := ((iv_c (c := 1) (n := 1) (by decide))).2; omega, by have := (h28).2; have := ((iv_c (c := 1) (n := 1) (by decide))).1; have := ((iv_c (c := 1) (n := 1) (by decide))).2; omega⟩
            refine tw_iinc (lv' := fun x36 => [(5, .int x36), (4, .int x1), (0, .ref (base + a0)), (1, .ref (base + a1)), (2, .int a2), (3, .int a3)]) (lo := 1) (hi := 10) hx hb dX5_lead_59 hl (k := 1) rfl h16 (by decide) ⟨by decide, by decide⟩ ⟨by decide, by decide⟩ (by decide) (fun _ => rfl) (fun x36 ls e35 h34 hl => ?_)
            refine lv_goto (tgt := 6) hx hb dX5_lead_62 (by decide) ?_
            have hm37 : 10 - x36.toInt < (n_3 : Int) := by
              have := (h_a2).1; have := (h_a2).2; have := (h_a3).1; have := (h_a3).2; have := (h16).1; have := (h16).2; have := (h34).1; have := (h34).2; omega
            exact ih_3 x1 x36 M3 R4 J5 H locs _ h_x1 (iv_mono h34 (by decide) (by decide)) hm37 hS (lv_sub hl [1, 0, 2, 3, 4, 5] rfl)
          · have q38 : x30.toInt = 1 := ti_eq c31
            have h39 : iv 1 1 x30 := ⟨by have := (h28).1; have := ((iv_c (c := 1) (n := 1) (by decide))).1; omega, by have := (h28).2; have := ((iv_c (c := 1) (n := 1) (by decide))).2; omega⟩
            refine lv_iload hx hb dX5_lead_50 (lv_at hl 0 rfl) ?_
            refine lv_aload_n hx hb dX5_lead_52 rfl (lv_at hl 3 rfl) ?_
            refine lv_iload hx hb dX5_lead_53 (lv_at hl 1 rfl) ?_
            refine tw_iald hx hb hK hS hz_a1 hk_a1 (Or.inr (by decide)) hn_a1 (lo := (-2147483648)) (hi := 2147483647) h16 ⟨by decide, by decide⟩ rg_u20 dX5_lead_55 (fun x42 k41 h40 => ?_)
            refine lv_isub hx hb dX5_lead_56 ?_
            refine tw_top (fun x44 => ?_)
            have h43 := iv_any x44
            refine lv_istore (lv' := [(4, .int x44), (5, .int x2), (0, .ref (base + a0)), (1, .ref (base + a1)), (2, .int a2), (3, .int a3)]) hx hb dX5_lead_57 hl (by decide) rfl (fun ls hl => ?_)
            refine tw_iinc (lv' := fun x47 => [(5, .int x47), (4, .int x44), (0, .ref (base + a0)), (1, .ref (base + a1)), (2, .int a2), (3, .int a3)]) (lo := 1) (hi := 10) hx hb dX5_lead_59 hl (k := 1) rfl h16 (by decide) ⟨by decide, by decide⟩ ⟨by decide, by decide⟩ (by decide) (fun _ => rfl) (fun x47 ls e46 h45 hl => ?_)
            refine lv_goto (tgt := 6) hx hb dX5_lead_62 (by decide) ?_
            have hm48 : 10 - x47.toInt < (n_3 : Int) := by
              have := (h_a2).1; have := (h_a2).2; have := (h_a3).1; have := (h_a3).2; have := (h16).1; have := (h16).2; have := (h45).1; have := (h45).2; omega
            exact ih_3 x44 x47 M3 R4 J5 H locs _ h43 (iv_mono h45 (by decide) (by decide)) hm48 hS (lv_sub hl [1, 0, 2, 3, 4, 5] rfl)
        · have q49 : x22.toInt = 1 := ti_eq c23
          have h50 : iv 1 1 x22 := ⟨by have := (h20).1; have := ((iv_c (c := 1) (n := 1) (by decide))).1; omega, by have := (h20).2; have := ((iv_c (c := 1) (n := 1) (by decide))).2; omega⟩
          refine lv_iload hx hb dX5_lead_28 (lv_at hl 0 rfl) ?_
          refine lv_aload_n hx hb dX5_lead_30 rfl (lv_at hl 3 rfl) ?_
          refine lv_iload hx hb dX5_lead_31 (lv_at hl 1 rfl) ?_
          refine tw_iald hx hb hK hS hz_a1 hk_a1 (Or.inr (by decide)) hn_a1 (lo := (-2147483648)) (hi := 2147483647) h16 ⟨by decide, by decide⟩ rg_u20 dX5_lead_33 (fun x53 k52 h51 => ?_)
          refine lv_iadd hx hb dX5_lead_34 ?_
          refine tw_top (fun x55 => ?_)
          have h54 := iv_any x55
          refine lv_istore (lv' := [(4, .int x55), (5, .int x2), (0, .ref (base + a0)), (1, .ref (base + a1)), (2, .int a2), (3, .int a3)]) hx hb dX5_lead_35 hl (by decide) rfl (fun ls hl => ?_)
          refine lv_goto (tgt := 59) hx hb dX5_lead_37 (by decide) ?_
          refine tw_iinc (lv' := fun x58 => [(5, .int x58), (4, .int x55), (0, .ref (base + a0)), (1, .ref (base + a1)), (2, .int a2), (3, .int a3)]) (lo := 1) (hi := 10) hx hb dX5_lead_59 hl (k := 1) rfl h16 (by decide) ⟨by decide, by decide⟩ ⟨by decide, by decide⟩ (by decide) (fun _ => rfl) (fun x58 ls e57 h56 hl => ?_)
          refine lv_goto (tgt := 6) hx hb dX5_lead_62 (by decide) ?_
          have hm59 : 10 - x58.toInt < (n_3 : Int) := by
            have := (h_a2).1; have := (h_a2).2; have := (h_a3).1; have := (h_a3).2; have := (h16).1; have := (h16).2; have := (h56).1; have := (h56).2; omega
          exact ih_3 x55 x58 M3 R4 J5 H locs _ h54 (iv_mono h56 (by decide) (by decide)) hm59 hS (lv_sub hl [1, 0, 2, 3, 4, 5] rfl)
  have hm60 : 10 - (0 : Int32).toInt < (((11 : Nat) : Int) : Int) := by
    have := (h_a2).1; have := (h_a2).2; have := (h_a3).1; have := (h_a3).2; have : (0 : Int32).toInt = 0 := (by decide); omega
  exact W6_3 11 0 0 Ma Ra Ja s.heap [] _ (iv_mono (iv_c (c := 0) (n := 0) (by decide)) (by decide) (by decide)) (iv_mono (iv_c (c := 0) (n := 0) (by decide)) (by decide) (by decide)) hm60 hS (lv_sub hl [1, 0, 2, 3, 4, 5] rfl)
def Lt_X5_hold : WL := [(6, 14, 15), (20, 0, 2000000)]
def LRt_X5_hold : WL := []
set_option maxRecDepth 100000 in
set_option maxHeartbeats 4000000 in
theorem t_X5_hold (l : Launch) (D : va_G) (cy : Nat → ClassId) (tx : (Nat → Nat) × (Nat → Nat)) (base Z : Nat) (K N : Nat → Nat) (Ma : MT) (Ra : RT) (Ja : JT) (hTy : Ty Z K N Ma Ra) (a0 : Nat) (hz_a0 : a0 < Z) (hk_a0 : K a0 = 6) (a1 : Nat) (hz_a1 : a1 < Z) (hk_a1 : K a1 = 20) (hn_a1 : N a1 = 10) (a2 : Int32) (h_a2 : iv (-2147483648) 2147483647 a2) (a3 : Int32) (h_a3 : iv (-2147483648) 2147483647 a3) : Met l yX5_hold [Cond.code yX5_hold cX5_hold 5 (some .int)] (md_rm 2 0 0) (va_Pc [.ref (base + a0), .ref (base + a1), .int a2, .int a3] (md_U D cy tx base Z K N Ma Ra Ja)) (mQi D cy tx base (fun r u => TP Z K N Lt_X5_hold LRt_X5_hold Ma Ra u ∧ (iv 0 2 r))) 0 0 (fun q => base ≤ q) := by
  refine tw_ofW (L := Lt_X5_hold) (LR := LRt_X5_hold) (by decide) (Nat.le_of_ble_eq_true rfl) hTy ?_
  intro p e s m args below meth c Q ls hx hb hr hlocks hown hml hW hK hT hS hQ hl
  have hl : lv_has ls 5 [(0, .ref (base + a0)), (1, .ref (base + a1)), (2, .int a2), (3, .int a3)] := hl
  refine lv_aload_n hx hb dX5_hold_0 rfl (lv_at hl 0 rfl) ?_
  refine lv_aload_n hx hb dX5_hold_1 rfl (lv_at hl 1 rfl) ?_
  refine lv_iload_n hx hb dX5_hold_2 rfl (lv_at hl 2 rfl) ?_
  refine lv_iload_n hx hb dX5_hold_3 rfl (lv_at hl 3 rfl) ?_
  refine tw_goi hS (md_runV (As := [.ref (base + a1), .int a2, .int a3]) (rest := []) hx hb hml hown hW hK hT hS.1 (t_X5_lead l D cy tx base Z K N Ma Ra Ja hS.2.1 a0 hz_a0 hk_a0 a1 hz_a1 hk_a1 hn_a1 a2 h_a2 a3 h_a3) s_X5_94 ⟨rfl, rfl, ⟨Nat.le_of_ble_eq_true rfl, Nat.le_of_ble_eq_true rfl⟩, ⟨Nat.le_of_ble_eq_true rfl, Nat.le_of_ble_eq_true rfl⟩⟩ hz_a0 hk_a0 (by decide) rfl rfl hl.1 rfl (Nat.le_of_ble_eq_true rfl) dX5_hold_4) rfl rfl (fun x7 H locs M4 R5 J3 hS f1 g2 E6 => ?_)
  have eM4 := Fr.nil f1 rfl
  subst eM4
  have eR5 := Fr.nil g2 rfl
  subst eR5
  have h_x7 := E6
  clear E6
  refine lv_istore (lv' := [(4, .int x7), (0, .ref (base + a0)), (1, .ref (base + a1)), (2, .int a2), (3, .int a3)]) hx hb dX5_hold_7 hl (by decide) rfl (fun ls hl => ?_)
  refine lv_aload_n hx hb dX5_hold_9 rfl (lv_at hl 1 rfl) ?_
  refine lv_iload hx hb dX5_hold_10 (lv_at hl 0 rfl) ?_
  refine lv_if_le (tgt := 19) hx hb dX5_hold_12 (by decide) (fun c8 => ?_) (fun c8 => ?_)
  · have q9 : x7.toInt ≤ 0 := ti_le c8
    have h10 : iv (-2147483648) 0 x7 := iv_leL (y := 0) h_x7 (iv_c (c := 0) (n := 0) (by decide)) q9 (by decide)
    refine lv_iload hx hb dX5_hold_19 (lv_at hl 0 rfl) ?_
    refine lv_if_ge (tgt := 28) hx hb dX5_hold_21 (by decide) (fun c11 => ?_) (fun c11 => ?_)
    · have q12 : 0 ≤ x7.toInt := ti_le c11
      have h13 : iv 0 0 x7 := iv_geL (y := 0) h10 (iv_c (c := 0) (n := 0) (by decide)) q12 (by decide)
      refine lv_iconst (v := 0) hx hb dX5_hold_28 (by decide) ?_
      refine tw_puti hx hb hW hown hK hS f_X5_98_5 hz_a0 hk_a0 rfl rfl (lo := (-2147483648)) (hi := 2147483647) rfl (iv_mono (iv_c (c := 0) (n := 0) (by decide)) (by decide) (by decide)) rfl dX5_hold_29 (fun H locs M16 hS k14 f15 => ?_)
      refine lv_aload_n hx hb dX5_hold_32 rfl (lv_at hl 1 rfl) ?_
      refine lv_aload_n hx hb dX5_hold_33 rfl (lv_at hl 2 rfl) ?_
      refine lv_aload_n hx hb dX5_hold_34 rfl (lv_at hl 1 rfl) ?_
      refine tw_getk hx hb hW hown hK hS f_X5_98_5 hz_a0 hk_a0 (v := 0) k14 dX5_hold_35 ?_
      refine lv_iload_n hx hb dX5_hold_38 rfl (lv_at hl 3 rfl) ?_
      refine lv_iload_n hx hb dX5_hold_39 rfl (lv_at hl 4 rfl) ?_
      refine lv_ior hx hb dX5_hold_40 ?_
      refine tw_top (fun x18 => ?_)
      have h17 := iv_any x18
      refine lv_aload_n hx hb dX5_hold_41 rfl (lv_at hl 1 rfl) ?_
      refine tw_getk hx hb hW hown hK hS f_X5_98_5 hz_a0 hk_a0 (v := 0) k14 dX5_hold_42 ?_
      refine lv_iconst (v := (-1)) hx hb dX5_hold_45 (by decide) ?_
      refine lv_ixor hx hb dX5_hold_46 ?_
      refine md_top (y := (-1)) (by decide) ?_
      refine lv_iand hx hb dX5_hold_47 ?_
      refine tw_top (fun x20 => ?_)
      have h19 := iv_any x20
      refine tw_gov hS (md_runV (As := [.ref (base + a1), .int 0, .int x20]) (rest := []) hx hb hml hown hW hK hT hS.1 (t_X5_grow l D cy tx base Z K N M16 Ra J3 hS.2.1 a0 hz_a0 hk_a0 a1 hz_a1 hk_a1 hn_a1 0 (iv_mono (iv_c (c := 0) (n := 0) (by decide)) (by decide) (by decide)) x20 h19) s_X5_101 ⟨rfl, rfl, ⟨Nat.le_of_ble_eq_true rfl, Nat.le_of_ble_eq_true rfl⟩, ⟨Nat.le_of_ble_eq_true rfl, Nat.le_of_ble_eq_true rfl⟩⟩ hz_a0 hk_a0 (by decide) rfl rfl hl.1 rfl (Nat.le_of_ble_eq_true rfl) dX5_hold_48) rfl rfl (fun H locs M24 R25 J23 hS f21 g22 E26 => ?_)
      have eR25 := Fr.nil g22 rfl
      subst eR25
      refine lv_iload hx hb dX5_hold_51 (lv_at hl 0 rfl) ?_
      refine lv_if_le (tgt := 60) hx hb dX5_hold_53 (by decide) (fun c27 => ?_) (fun c27 => False.elim (by have q : 0 < x7.toInt := ti_nle c27; have := (h13).1; have := (h13).2; omega))
      have q28 : x7.toInt ≤ 0 := ti_le c27
      refine lv_iload hx hb dX5_hold_60 (lv_at hl 0 rfl) ?_
      refine lv_if_ge (tgt := 69) hx hb dX5_hold_62 (by decide) (fun c29 => ?_) (fun c29 => False.elim (by have q : x7.toInt < 0 := ti_nle c29; have := (h13).1; have := (h13).2; omega))
      have q30 : 0 ≤ x7.toInt := ti_le c29
      refine lv_iconst (v := 2) hx hb dX5_hold_69 (by decide) ?_
      exact tw_endi hx hb hr hlocks hK hT hS hQ ((iv_mono (iv_c (c := 2) (n := 2) (by decide)) (by decide) (by decide))) dX5_hold_70
    · have q31 : x7.toInt < 0 := ti_nle c11
      have h32 : iv (-2147483648) (-1) x7 := iv_ltL (y := 0) h10 (iv_c (c := 0) (n := 0) (by decide)) q31 (by decide)
      refine lv_iload_n hx hb dX5_hold_24 rfl (lv_at hl 4 rfl) ?_
      refine lv_goto (tgt := 29) hx hb dX5_hold_25 (by decide) ?_
      refine tw_puti hx hb hW hown hK hS f_X5_98_5 hz_a0 hk_a0 rfl rfl (lo := (-2147483648)) (hi := 2147483647) rfl h_a3 rfl dX5_hold_29 (fun H locs M35 hS k33 f34 => ?_)
      refine lv_aload_n hx hb dX5_hold_32 rfl (lv_at hl 1 rfl) ?_
      refine lv_aload_n hx hb dX5_hold_33 rfl (lv_at hl 2 rfl) ?_
      refine lv_aload_n hx hb dX5_hold_34 rfl (lv_at hl 1 rfl) ?_
      refine tw_getk hx hb hW hown hK hS f_X5_98_5 hz_a0 hk_a0 (v := a3) k33 dX5_hold_35 ?_
      refine lv_iload_n hx hb dX5_hold_38 rfl (lv_at hl 3 rfl) ?_
      refine lv_iload_n hx hb dX5_hold_39 rfl (lv_at hl 4 rfl) ?_
      refine lv_ior hx hb dX5_hold_40 ?_
      refine tw_top (fun x37 => ?_)
      have h36 := iv_any x37
      refine lv_aload_n hx hb dX5_hold_41 rfl (lv_at hl 1 rfl) ?_
      refine tw_getk hx hb hW hown hK hS f_X5_98_5 hz_a0 hk_a0 (v := a3) k33 dX5_hold_42 ?_
      refine lv_iconst (v := (-1)) hx hb dX5_hold_45 (by decide) ?_
      refine lv_ixor hx hb dX5_hold_46 ?_
      refine tw_top (fun x39 => ?_)
      have h38 := iv_any x39
      refine lv_iand hx hb dX5_hold_47 ?_
      refine tw_top (fun x41 => ?_)
      have h40 := iv_any x41
      refine tw_gov hS (md_runV (As := [.ref (base + a1), .int a3, .int x41]) (rest := []) hx hb hml hown hW hK hT hS.1 (t_X5_grow l D cy tx base Z K N M35 Ra J3 hS.2.1 a0 hz_a0 hk_a0 a1 hz_a1 hk_a1 hn_a1 a3 h_a3 x41 h40) s_X5_101 ⟨rfl, rfl, ⟨Nat.le_of_ble_eq_true rfl, Nat.le_of_ble_eq_true rfl⟩, ⟨Nat.le_of_ble_eq_true rfl, Nat.le_of_ble_eq_true rfl⟩⟩ hz_a0 hk_a0 (by decide) rfl rfl hl.1 rfl (Nat.le_of_ble_eq_true rfl) dX5_hold_48) rfl rfl (fun H locs M45 R46 J44 hS f42 g43 E47 => ?_)
      have eR46 := Fr.nil g43 rfl
      subst eR46
      refine lv_iload hx hb dX5_hold_51 (lv_at hl 0 rfl) ?_
      refine lv_if_le (tgt := 60) hx hb dX5_hold_53 (by decide) (fun c48 => ?_) (fun c48 => False.elim (by have q : 0 < x7.toInt := ti_nle c48; have := (h32).1; have := (h32).2; omega))
      have q49 : x7.toInt ≤ 0 := ti_le c48
      refine lv_iload hx hb dX5_hold_60 (lv_at hl 0 rfl) ?_
      refine lv_if_ge (tgt := 69) hx hb dX5_hold_62 (by decide) (fun c50 => False.elim (by have q : 0 ≤ x7.toInt := ti_le c50; have := (h32).1; have := (h32).2; omega)) (fun c50 => ?_)
      have q51 : x7.toInt < 0 := ti_nle c50
      refine lv_iconst (v := 0) hx hb dX5_hold_65 (by decide) ?_
      refine lv_goto (tgt := 70) hx hb dX5_hold_66 (by decide) ?_
      exact tw_endi hx hb hr hlocks hK hT hS hQ ((iv_mono (iv_c (c := 0) (n := 0) (by decide)) (by decide) (by decide))) dX5_hold_70
  · have q52 : 0 < x7.toInt := ti_nle c8
    have h53 : iv 1 2147483647 x7 := iv_gtL (y := 0) h_x7 (iv_c (c := 0) (n := 0) (by decide)) q52 (by decide)
    refine lv_iload_n hx hb dX5_hold_15 rfl (lv_at hl 3 rfl) ?_
    refine lv_goto (tgt := 29) hx hb dX5_hold_16 (by decide) ?_
    refine tw_puti hx hb hW hown hK hS f_X5_98_5 hz_a0 hk_a0 rfl rfl (lo := (-2147483648)) (hi := 2147483647) rfl h_a2 rfl dX5_hold_29 (fun H locs M56 hS k54 f55 => ?_)
    refine lv_aload_n hx hb dX5_hold_32 rfl (lv_at hl 1 rfl) ?_
    refine lv_aload_n hx hb dX5_hold_33 rfl (lv_at hl 2 rfl) ?_
    refine lv_aload_n hx hb dX5_hold_34 rfl (lv_at hl 1 rfl) ?_
    refine tw_getk hx hb hW hown hK hS f_X5_98_5 hz_a0 hk_a0 (v := a2) k54 dX5_hold_35 ?_
    refine lv_iload_n hx hb dX5_hold_38 rfl (lv_at hl 3 rfl) ?_
    refine lv_iload_n hx hb dX5_hold_39 rfl (lv_at hl 4 rfl) ?_
    refine lv_ior hx hb dX5_hold_40 ?_
    refine tw_top (fun x58 => ?_)
    have h57 := iv_any x58
    refine lv_aload_n hx hb dX5_hold_41 rfl (lv_at hl 1 rfl) ?_
    refine tw_getk hx hb hW hown hK hS f_X5_98_5 hz_a0 hk_a0 (v := a2) k54 dX5_hold_42 ?_
    refine lv_iconst (v := (-1)) hx hb dX5_hold_45 (by decide) ?_
    refine lv_ixor hx hb dX5_hold_46 ?_
    refine tw_top (fun x60 => ?_)
    have h59 := iv_any x60
    refine lv_iand hx hb dX5_hold_47 ?_
    refine tw_top (fun x62 => ?_)
    have h61 := iv_any x62
    refine tw_gov hS (md_runV (As := [.ref (base + a1), .int a2, .int x62]) (rest := []) hx hb hml hown hW hK hT hS.1 (t_X5_grow l D cy tx base Z K N M56 Ra J3 hS.2.1 a0 hz_a0 hk_a0 a1 hz_a1 hk_a1 hn_a1 a2 h_a2 x62 h61) s_X5_101 ⟨rfl, rfl, ⟨Nat.le_of_ble_eq_true rfl, Nat.le_of_ble_eq_true rfl⟩, ⟨Nat.le_of_ble_eq_true rfl, Nat.le_of_ble_eq_true rfl⟩⟩ hz_a0 hk_a0 (by decide) rfl rfl hl.1 rfl (Nat.le_of_ble_eq_true rfl) dX5_hold_48) rfl rfl (fun H locs M66 R67 J65 hS f63 g64 E68 => ?_)
    have eR67 := Fr.nil g64 rfl
    subst eR67
    refine lv_iload hx hb dX5_hold_51 (lv_at hl 0 rfl) ?_
    refine lv_if_le (tgt := 60) hx hb dX5_hold_53 (by decide) (fun c69 => False.elim (by have q : x7.toInt ≤ 0 := ti_le c69; have := (h53).1; have := (h53).2; omega)) (fun c69 => ?_)
    have q70 : 0 < x7.toInt := ti_nle c69
    refine lv_iconst (v := 1) hx hb dX5_hold_56 (by decide) ?_
    refine lv_goto (tgt := 70) hx hb dX5_hold_57 (by decide) ?_
    exact tw_endi hx hb hr hlocks hK hT hS hQ ((iv_mono (iv_c (c := 1) (n := 1) (by decide)) (by decide) (by decide))) dX5_hold_70
def Lt_X5_holdForGood : WL := [(6, 14, 15), (10, 3, 4), (14, 0, 2000000), (20, 0, 2000000)]
def LRt_X5_holdForGood : WL := []
set_option maxRecDepth 100000 in
set_option maxHeartbeats 4000000 in
theorem t_X5_holdForGood (l : Launch) (D : va_G) (cy : Nat → ClassId) (tx : (Nat → Nat) × (Nat → Nat)) (base Z : Nat) (K N : Nat → Nat) (Ma : MT) (Ra : RT) (Ja : JT) (hTy : Ty Z K N Ma Ra) (a0 : Nat) (hz_a0 : a0 < Z) (hk_a0 : K a0 = 6) (a1 : Int32) (h_a1 : iv (-2147483648) 2147483647 a1) (a2 : Int32) (h_a2 : iv (-2147483648) 2147483647 a2) : Met l yX5_holdForGood [Cond.code yX5_holdForGood cX5_holdForGood 5 (some .int)] (md_rm 3 0 0) (va_Pc [.ref (base + a0), .int a1, .int a2] (md_U D cy tx base Z K N Ma Ra Ja)) (mQi D cy tx base (fun r u => TP Z K N Lt_X5_holdForGood LRt_X5_holdForGood Ma Ra u ∧ (iv 0 2 r))) 0 0 (fun q => base ≤ q) := by
  refine tw_ofW (L := Lt_X5_holdForGood) (LR := LRt_X5_holdForGood) (by decide) (Nat.le_of_ble_eq_true rfl) hTy ?_
  intro p e s m args below meth c Q ls hx hb hr hlocks hown hml hW hK hT hS hQ hl
  have hl : lv_has ls 5 [(0, .ref (base + a0)), (1, .int a1), (2, .int a2)] := hl
  refine lv_aload_n hx hb dX5_holdForGood_0 rfl (lv_at hl 0 rfl) ?_
  refine lv_aload_n hx hb dX5_holdForGood_1 rfl (lv_at hl 0 rfl) ?_
  refine tw_getr hx hb hW hown hK hS f_X5_9_5 hz_a0 hk_a0 (t := 10) (n := 0) rfl dX5_holdForGood_2 (fun b1 k2 hz_b1 hk_b1 hn_b1 => ?_)
  refine tw_getr hx hb hW hown hK hS f_X5_19_9 hz_b1 hk_b1 (t := 20) (n := 10) rfl dX5_holdForGood_5 (fun b3 k4 hz_b3 hk_b3 hn_b3 => ?_)
  have hn_b3 := hn_b3 (by decide)
  refine lv_iload_n hx hb dX5_holdForGood_8 rfl (lv_at hl 1 rfl) ?_
  refine lv_iload_n hx hb dX5_holdForGood_9 rfl (lv_at hl 2 rfl) ?_
  refine tw_goi hS (md_runV (As := [.ref (base + b3), .int a1, .int a2]) (rest := []) hx hb hml hown hW hK hT hS.1 (t_X5_hold l D cy tx base Z K N Ma Ra Ja hS.2.1 a0 hz_a0 hk_a0 b3 hz_b3 hk_b3 hn_b3 a1 h_a1 a2 h_a2) s_X5_119 ⟨rfl, rfl, ⟨Nat.le_of_ble_eq_true rfl, Nat.le_of_ble_eq_true rfl⟩, ⟨Nat.le_of_ble_eq_true rfl, Nat.le_of_ble_eq_true rfl⟩⟩ hz_a0 hk_a0 (by decide) rfl rfl hl.1 rfl (Nat.le_of_ble_eq_true rfl) dX5_holdForGood_10) rfl rfl (fun x11 H locs M8 R9 J7 hS f5 g6 E10 => ?_)
  have eR9 := Fr.nil g6 rfl
  subst eR9
  have h_x11 := E10
  clear E10
  refine lv_istore_n (lv' := [(3, .int x11), (0, .ref (base + a0)), (1, .int a1), (2, .int a2)]) hx hb dX5_holdForGood_13 rfl hl (by decide) rfl (fun ls hl => ?_)
  refine lv_iconst (v := 0) hx hb dX5_holdForGood_14 (by decide) ?_
  refine lv_istore (lv' := [(4, .int 0), (3, .int x11), (0, .ref (base + a0)), (1, .int a1), (2, .int a2)]) hx hb dX5_holdForGood_15 hl (by decide) rfl (fun ls hl => ?_)
  have W17_13 : ∀ (n_13 : Nat) (x12 : Int32) (M13 : MT) (R14 : RT) (J15 : JT) (H : Heap) (locs : List Loc) (ls : Array Slot) (h_x12 : iv 0 10 x12) (hm_13 : 10 - x12.toInt < (n_13 : Int)) (hS : SB D cy base Z K N Lt_X5_holdForGood LRt_X5_holdForGood Ma Ra M13 R14 J15 s H locs) (hl : lv_has ls 5 [(4, .int x12), (3, .int x11), (0, .ref (base + a0)), (1, .int a1), (2, .int a2)]), W p l e (md_rm 3 0 0) s m args below meth c H locs 0 0 Q (F0 m 17 ls []) := by
    intro n_13
    induction n_13 with
    | zero =>
      intro x12 M13 R14 J15 H locs ls h_x12 hm_13 hS hl
      exfalso
      have := (h_a1).1; have := (h_a1).2; have := (h_a2).1; have := (h_a2).2; have := (h_x12).1; have := (h_x12).2; omega
    | succ n_13 ih_13 =>
      intro x12 M13 R14 J15 H locs ls h_x12 hm_13 hS hl
      have f16 := hS.2.2.1
      have g17 := hS.2.2.2
      refine lv_iload hx hb dX5_holdForGood_17 (lv_at hl 0 rfl) ?_
      refine lv_aload_n hx hb dX5_holdForGood_19 rfl (lv_at hl 2 rfl) ?_
      have k18 : R14 a0 0 = some b1 := (Fr.kp (k := 0) g17 hk_a0 rfl).trans k2
      refine tw_getrk hx hb hW hown hK hS f_X5_9_5 hz_a0 hk_a0 (b := b1) k18 dX5_holdForGood_20 ?_
      refine tw_geti hx hb hW hown hK hS f_X5_53_9 hz_b1 hk_b1 (lo := (-2147483648)) (hi := 10) rfl dX5_holdForGood_23 (fun x21 k20 h19 => ?_)
      refine lv_icmp_ge (tgt := 91) hx hb dX5_holdForGood_26 (by decide) (fun c22 => ?_) (fun c22 => ?_)
      · have q23 : x21.toInt ≤ x12.toInt := ti_le c22
        refine lv_aload_n hx hb dX5_holdForGood_91 rfl (lv_at hl 2 rfl) ?_
        have k24 : R14 a0 0 = some b1 := (Fr.kp (k := 0) g17 hk_a0 rfl).trans k2
        refine tw_getrk hx hb hW hown hK hS f_X5_9_5 hz_a0 hk_a0 (b := b1) k24 dX5_holdForGood_92 ?_
        refine lv_dup hx hb dX5_holdForGood_95 rfl ?_
        refine tw_geti hx hb hW hown hK hS f_X5_128_9 hz_b1 hk_b1 (lo := (-2147483648)) (hi := 2147483647) rfl dX5_holdForGood_96 (fun x27 k26 h25 => ?_)
        refine lv_iconst (v := 1) hx hb dX5_holdForGood_99 (by decide) ?_
        refine lv_iadd hx hb dX5_holdForGood_100 ?_
        refine tw_top (fun x29 => ?_)
        have h28 := iv_any x29
        refine tw_puti hx hb hW hown hK hS f_X5_128_9 hz_b1 hk_b1 rfl rfl (lo := (-2147483648)) (hi := 2147483647) rfl h28 rfl dX5_holdForGood_101 (fun H locs M32 hS k30 f31 => ?_)
        refine lv_iload_n hx hb dX5_holdForGood_104 rfl (lv_at hl 1 rfl) ?_
        exact tw_endi hx hb hr hlocks hK hT hS hQ (h_x11) dX5_holdForGood_105
      · have q33 : x12.toInt < x21.toInt := ti_nle c22
        have h34 : iv 0 9 x12 := iv_ltL (y := x21) h_x12 h19 q33 (by decide)
        have h35 : iv 1 10 x21 := iv_gtL (y := x12) h19 h_x12 q33 (by decide)
        refine lv_aload_n hx hb dX5_holdForGood_29 rfl (lv_at hl 2 rfl) ?_
        refine tw_geti hx hb hW hown hK hS f_X5_98_5 hz_a0 hk_a0 (lo := (-2147483648)) (hi := 2147483647) rfl dX5_holdForGood_30 (fun x38 k37 h36 => ?_)
        refine lv_iload hx hb dX5_holdForGood_33 (lv_at hl 0 rfl) ?_
        refine lv_ishr hx hb dX5_holdForGood_35 ?_
        refine tw_top (fun x40 => ?_)
        have h39 := iv_any x40
        refine lv_iconst (v := 1) hx hb dX5_holdForGood_36 (by decide) ?_
        refine tw_iand (hi := 1) hx hb (iv_mono (iv_c (c := 1) (n := 1) (by decide)) (lo := 0) (hi := 1) (by decide) (by decide)) (by decide) dX5_holdForGood_37 (fun x43 h41 => ?_)
        refine lv_iconst (v := 1) hx hb dX5_holdForGood_38 (by decide) ?_
        refine lv_icmp_ne (tgt := 59) hx hb dX5_holdForGood_39 (by decide) (fun c44 => ?_) (fun c44 => ?_)
        · have q45 : ¬ x43.toInt = 1 := ti_ne c44
          have h46 : iv 0 0 x43 := ⟨by have := (h41).1; have := ((iv_c (c := 1) (n := 1) (by decide))).1; have := ((iv_c (c := 1) (n := 1) (by decide))).2; omega, by have := (h41).2; have := ((iv_c (c := 1) (n := 1) (by decide))).1; have := ((iv_c (c := 1) (n := 1) (by decide))).2; omega⟩
          refine lv_iload_n hx hb dX5_holdForGood_59 rfl (lv_at hl 3 rfl) ?_
          refine lv_iload_n hx hb dX5_holdForGood_60 rfl (lv_at hl 4 rfl) ?_
          refine lv_ior hx hb dX5_holdForGood_61 ?_
          refine tw_top (fun x48 => ?_)
          have h47 := iv_any x48
          refine lv_iload hx hb dX5_holdForGood_62 (lv_at hl 0 rfl) ?_
          refine lv_ishr hx hb dX5_holdForGood_64 ?_
          refine tw_top (fun x50 => ?_)
          have h49 := iv_any x50
          refine lv_iconst (v := 1) hx hb dX5_holdForGood_65 (by decide) ?_
          refine tw_iand (hi := 1) hx hb (iv_mono (iv_c (c := 1) (n := 1) (by decide)) (lo := 0) (hi := 1) (by decide) (by decide)) (by decide) dX5_holdForGood_66 (fun x53 h51 => ?_)
          refine lv_iconst (v := 1) hx hb dX5_holdForGood_67 (by decide) ?_
          refine lv_icmp_ne (tgt := 85) hx hb dX5_holdForGood_68 (by decide) (fun c54 => ?_) (fun c54 => ?_)
          · have q55 : ¬ x53.toInt = 1 := ti_ne c54
            have h56 : iv 0 0 x53 := ⟨by have := (h51).1; have := ((iv_c (c := 1) (n := 1) (by decide))).1; have := ((iv_c (c := 1) (n := 1) (by decide))).2; omega, by have := (h51).2; have := ((iv_c (c := 1) (n := 1) (by decide))).1; have := ((iv_c (c := 1) (n := 1) (by decide))).2; omega⟩
            refine tw_iinc (lv' := fun x59 => [(4, .int x59), (3, .int x11), (0, .ref (base + a0)), (1, .int a1), (2, .int a2)]) (lo := 1) (hi := 10) hx hb dX5_holdForGood_85 hl (k := 0) rfl h34 (by decide) ⟨by decide, by decide⟩ ⟨by decide, by decide⟩ (by decide) (fun _ => rfl) (fun x59 ls e58 h57 hl => ?_)
            refine lv_goto (tgt := 17) hx hb dX5_holdForGood_88 (by decide) ?_
            have hm60 : 10 - x59.toInt < (n_13 : Int) := by
              have := (h_a1).1; have := (h_a1).2; have := (h_a2).1; have := (h_a2).2; have := (h34).1; have := (h34).2; have := (h57).1; have := (h57).2; omega
            exact ih_13 x59 M13 R14 J15 H locs _ (iv_mono h57 (by decide) (by decide)) hm60 hS hl
          · have q61 : x53.toInt = 1 := ti_eq c54
            have h62 : iv 1 1 x53 := ⟨by have := (h51).1; have := ((iv_c (c := 1) (n := 1) (by decide))).1; omega, by have := (h51).2; have := ((iv_c (c := 1) (n := 1) (by decide))).2; omega⟩
            refine lv_aload_n hx hb dX5_holdForGood_71 rfl (lv_at hl 2 rfl) ?_
            have k63 : R14 a0 0 = some b1 := (Fr.kp (k := 0) g17 hk_a0 rfl).trans k2
            refine tw_getrk hx hb hW hown hK hS f_X5_9_5 hz_a0 hk_a0 (b := b1) k63 dX5_holdForGood_72 ?_
            refine tw_getr hx hb hW hown hK hS f_X5_125_9 hz_b1 hk_b1 (t := 14) (n := 10) rfl dX5_holdForGood_75 (fun b64 k65 hz_b64 hk_b64 hn_b64 => ?_)
            have hn_b64 := hn_b64 (by decide)
            refine lv_iload hx hb dX5_holdForGood_78 (lv_at hl 0 rfl) ?_
            refine lv_dup2_11 hx hb dX5_holdForGood_80 rfl rfl ?_
            refine tw_iald hx hb hK hS hz_b64 hk_b64 (Or.inl rfl) hn_b64 (lo := (-2147483648)) (hi := 2147483647) h34 ⟨by decide, by decide⟩ rg_u14 dX5_holdForGood_81 (fun x68 k67 h66 => ?_)
            refine lv_iconst (v := 1) hx hb dX5_holdForGood_82 (by decide) ?_
            refine lv_iadd hx hb dX5_holdForGood_83 ?_
            refine tw_top (fun x70 => ?_)
            have h69 := iv_any x70
            refine tw_iast hx hb hK hS hz_b64 hk_b64 (Or.inl rfl) hn_b64 h34 ⟨by decide, by decide⟩ h69 (rg_s14 ⟨by decide, by decide⟩) (jl := 0) (jh := 1999999) ⟨by decide, by decide⟩ rfl dX5_holdForGood_84 (fun H locs M73 hS k71 f72 => ?_)
            refine tw_iinc (lv' := fun x76 => [(4, .int x76), (3, .int x11), (0, .ref (base + a0)), (1, .int a1), (2, .int a2)]) (lo := 1) (hi := 10) hx hb dX5_holdForGood_85 hl (k := 0) rfl h34 (by decide) ⟨by decide, by decide⟩ ⟨by decide, by decide⟩ (by decide) (fun _ => rfl) (fun x76 ls e75 h74 hl => ?_)
            refine lv_goto (tgt := 17) hx hb dX5_holdForGood_88 (by decide) ?_
            have hm77 : 10 - x76.toInt < (n_13 : Int) := by
              have := (h_a1).1; have := (h_a1).2; have := (h_a2).1; have := (h_a2).2; have := (h34).1; have := (h34).2; have := (h74).1; have := (h74).2; omega
            exact ih_13 x76 M73 R14 J15 H locs _ (iv_mono h74 (by decide) (by decide)) hm77 hS hl
        · have q78 : x43.toInt = 1 := ti_eq c44
          have h79 : iv 1 1 x43 := ⟨by have := (h41).1; have := ((iv_c (c := 1) (n := 1) (by decide))).1; omega, by have := (h41).2; have := ((iv_c (c := 1) (n := 1) (by decide))).2; omega⟩
          refine lv_aload_n hx hb dX5_holdForGood_42 rfl (lv_at hl 2 rfl) ?_
          have k80 : R14 a0 0 = some b1 := (Fr.kp (k := 0) g17 hk_a0 rfl).trans k2
          refine tw_getrk hx hb hW hown hK hS f_X5_9_5 hz_a0 hk_a0 (b := b1) k80 dX5_holdForGood_43 ?_
          refine tw_getr hx hb hW hown hK hS f_X5_122_9 hz_b1 hk_b1 (t := 14) (n := 10) rfl dX5_holdForGood_46 (fun b81 k82 hz_b81 hk_b81 hn_b81 => ?_)
          have hn_b81 := hn_b81 (by decide)
          refine lv_iload hx hb dX5_holdForGood_49 (lv_at hl 0 rfl) ?_
          refine lv_dup2_11 hx hb dX5_holdForGood_51 rfl rfl ?_
          refine tw_iald hx hb hK hS hz_b81 hk_b81 (Or.inl rfl) hn_b81 (lo := (-2147483648)) (hi := 2147483647) h34 ⟨by decide, by decide⟩ rg_u14 dX5_holdForGood_52 (fun x85 k84 h83 => ?_)
          refine lv_iconst (v := 1) hx hb dX5_holdForGood_53 (by decide) ?_
          refine lv_iadd hx hb dX5_holdForGood_54 ?_
          refine tw_top (fun x87 => ?_)
          have h86 := iv_any x87
          refine tw_iast hx hb hK hS hz_b81 hk_b81 (Or.inl rfl) hn_b81 h34 ⟨by decide, by decide⟩ h86 (rg_s14 ⟨by decide, by decide⟩) (jl := 0) (jh := 1999999) ⟨by decide, by decide⟩ rfl dX5_holdForGood_55 (fun H locs M90 hS k88 f89 => ?_)
          refine lv_goto (tgt := 85) hx hb dX5_holdForGood_56 (by decide) ?_
          refine tw_iinc (lv' := fun x93 => [(4, .int x93), (3, .int x11), (0, .ref (base + a0)), (1, .int a1), (2, .int a2)]) (lo := 1) (hi := 10) hx hb dX5_holdForGood_85 hl (k := 0) rfl h34 (by decide) ⟨by decide, by decide⟩ ⟨by decide, by decide⟩ (by decide) (fun _ => rfl) (fun x93 ls e92 h91 hl => ?_)
          refine lv_goto (tgt := 17) hx hb dX5_holdForGood_88 (by decide) ?_
          have hm94 : 10 - x93.toInt < (n_13 : Int) := by
            have := (h_a1).1; have := (h_a1).2; have := (h_a2).1; have := (h_a2).2; have := (h34).1; have := (h34).2; have := (h91).1; have := (h91).2; omega
          exact ih_13 x93 M90 R14 J15 H locs _ (iv_mono h91 (by decide) (by decide)) hm94 hS hl
  have hm95 : 10 - (0 : Int32).toInt < (((11 : Nat) : Int) : Int) := by
    have := (h_a1).1; have := (h_a1).2; have := (h_a2).1; have := (h_a2).2; have : (0 : Int32).toInt = 0 := (by decide); omega
  exact W17_13 11 0 M8 Ra J7 H locs _ (iv_mono (iv_c (c := 0) (n := 0) (by decide)) (by decide) (by decide)) hm95 hS hl
