def Lt_X12_numberHere : WL := [(12, 13, 16)]
def LRt_X12_numberHere : WL := []
set_option maxRecDepth 100000 in
set_option maxHeartbeats 4000000 in
theorem t_X12_numberHere (l : Launch) (D : va_G) (cy : Nat → ClassId) (tx : (Nat → Nat) × (Nat → Nat)) (base Z : Nat) (K N : Nat → Nat) (Ma : MT) (Ra : RT) (Ja : JT) (hTy : Ty Z K N Ma Ra) (a0 : Nat) (hz_a0 : a0 < Z) (hk_a0 : K a0 = 12) (a1 : Int32) (h_a1 : iv 0 0 a1) (a2 : Int32) (h_a2 : iv 99999 99999 a2) (tb : Nat) (k_tb : Ra a0 0 = some tb) (nx : Int32) (k_nx : Ma a0 13 = nx) (h_nx : iv 0 400 nx) (tp : Int32) (k_tp : Ma a0 1 = tp) (h_tp : iv 0 400 tp) (hnt : nx.toInt ≤ tp.toInt) (nm : Int32) (k_nm : Ma a0 15 = nm) (h_nm : iv (-2147483648) 2147483647 nm) : Met l yX12_numberHere [Cond.code yX12_numberHere cX12_numberHere 5 (some .boolean)] (md_rm 2 0 0) (va_Pc [.ref (base + a0), .int a1, .int a2] (md_U D cy tx base Z K N Ma Ra Ja)) (mQi D cy tx base (fun r u => TP Z K N Lt_X12_numberHere LRt_X12_numberHere Ma Ra u ∧ (iv 0 1 r ∧ (∃ x0 : Int32, u.2.2.2.1 a0 13 = x0 ∧ iv 0 400 x0 ∧ (nx.toInt ≤ x0.toInt ∧ x0.toInt ≤ tp.toInt ∧ (r.toInt = 0 ∨ nx.toInt < x0.toInt))) ∧ (∃ x0 : Int32, u.2.2.2.1 a0 15 = x0 ∧ iv (-2147483648) 2147483647 x0 ∧ (r.toInt = 0 ∨ (a1.toInt ≤ x0.toInt ∧ x0.toInt ≤ a2.toInt)))))) 0 0 (fun q => base ≤ q) := by
  refine tw_ofW (L := Lt_X12_numberHere) (LR := LRt_X12_numberHere) (by decide) (Nat.le_of_ble_eq_true rfl) hTy ?_
  intro p e s m args below meth c Q ls hx hb hr hlocks hown hml hW hK hT hS hQ hl
  have hl : lv_has ls 5 [(0, .ref (base + a0)), (1, .int a1), (2, .int a2)] := hl
  obtain ⟨hz_tb, hk_tb, hn_tb⟩ := hTy.refn hz_a0 hk_a0 (show rtR 12 0 = (13, 400, 0) from rfl) k_tb
  have hn_tb := hn_tb (by decide)
  refine lv_aload_n hx hb dX12_numberHere_0 rfl (lv_at hl 0 rfl) ?_
  have q1 : nx.toInt ≤ tp.toInt := by
    have := (h_a1).1; have := (h_a1).2; have := (h_a2).1; have := (h_a2).2; have := (h_nm).1; have := (h_nm).2; have := (h_nx).1; have := (h_nx).2; have := (h_tp).1; have := (h_tp).2; omega
  refine tw_goi hS (md_runV (As := []) (rest := []) hx hb hml hown hW hK hT hS.1 (t_X12_see l D cy tx base Z K N Ma Ra Ja hS.2.1 a0 hz_a0 hk_a0 tb k_tb nx k_nx (iv_mono h_nx (by decide) (by decide)) tp k_tp (iv_mono h_tp (by decide) (by decide)) q1) s_X12_130 ⟨rfl, rfl, ⟨Nat.le_of_ble_eq_true rfl, Nat.le_of_ble_eq_true rfl⟩, ⟨Nat.le_of_ble_eq_true rfl, Nat.le_of_ble_eq_true rfl⟩⟩ hz_a0 hk_a0 (by decide) rfl rfl hl.1 rfl (Nat.le_of_ble_eq_true rfl) dX12_numberHere_1) rfl rfl (fun x8 H locs M5 R6 J4 hS f2 g3 E7 => ?_)
  have eR6 := Fr.nil g3 rfl
  subst eR6
  obtain ⟨h_x8, p9⟩ := E7
  obtain ⟨x12, k10, h11, q13, z14⟩ := p9
  have k10 : M5 a0 13 = x12 := k10
  refine lv_pop hx hb dX12_numberHere_4 rfl ?_
  refine lv_aload_n hx hb dX12_numberHere_5 rfl (lv_at hl 0 rfl) ?_
  refine lv_aload_n hx hb dX12_numberHere_6 rfl (lv_at hl 0 rfl) ?_
  refine tw_getk hx hb hW hown hK hS f_X12_127_11 hz_a0 hk_a0 (v := x12) k10 dX12_numberHere_7 ?_
  have k16 : M5 a0 1 = tp := (Fr.kp (k := 1) f2 hk_a0 rfl).trans k_tp
  refine tw_goi hS (md_runV (As := [.int x12]) (rest := []) hx hb hml hown hW hK hT hS.1 (t_X12_isDigit l D cy tx base Z K N M5 Ra J4 hS.2.1 a0 hz_a0 hk_a0 x12 h11 tb k_tb tp k16 (iv_mono h_tp (by decide) (by decide))) s_X12_145 ⟨rfl, rfl, ⟨Nat.le_of_ble_eq_true rfl, Nat.le_of_ble_eq_true rfl⟩, ⟨Nat.le_of_ble_eq_true rfl, Nat.le_of_ble_eq_true rfl⟩⟩ hz_a0 hk_a0 (by decide) rfl rfl hl.1 rfl (Nat.le_of_ble_eq_true rfl) dX12_numberHere_10) rfl rfl (fun x23 H locs M20 R21 J19 hS f17 g18 E22 => ?_)
  have eM20 := Fr.nil f17 rfl
  subst eM20
  have eR21 := Fr.nil g18 rfl
  subst eR21
  obtain ⟨h_x23, p24⟩ := E22
  have z25 : ¬ x23 = 0 → chF 48 57 Ma tb x12 tp := fun h => chF.rf (p24.1 h) hS.2.2.1 hk_tb rfl
  have z26 : x23 = 0 → ¬ chF 48 57 Ma tb x12 tp := fun h q => p24.2 h (chF.fr q hS.2.2.1 hk_tb rfl)
  refine lv_if_ne (tgt := 26) hx hb dX12_numberHere_13 (by decide) (fun c27 => ?_) (fun c27 => ?_)
  · have q28 : ¬ x23.toInt = 0 := ti_ne c27
    have h29 : iv 1 1 x23 := ⟨by have := (h_x23).1; have := ((iv_c (c := 0) (n := 0) (by decide))).1; have := ((iv_c (c := 0) (n := 0) (by decide))).2; omega, by have := (h_x23).2; have := ((iv_c (c := 0) (n := 0) (by decide))).1; have := ((iv_c (c := 0) (n := 0) (by decide))).2; omega⟩
    have z30 := z25 c27
    have q31 := z30.1
    have h32 : iv 0 399 x12 := iv_ltL (y := tp) h11 h_tp q31 (by decide)
    refine lv_aload_n hx hb dX12_numberHere_26 rfl (lv_at hl 0 rfl) ?_
    refine tw_getk hx hb hW hown hK hS f_X12_127_11 hz_a0 hk_a0 (v := x12) k10 dX12_numberHere_27 ?_
    refine lv_istore_n (lv' := [(3, .int x12), (0, .ref (base + a0)), (1, .int a1), (2, .int a2)]) hx hb dX12_numberHere_30 rfl hl (by decide) rfl (fun ls hl => ?_)
    refine lv_iconst (v := 0) hx hb dX12_numberHere_31 (by decide) ?_
    refine lv_istore (lv' := [(4, .int 0), (3, .int x12), (0, .ref (base + a0)), (1, .int a1), (2, .int a2)]) hx hb dX12_numberHere_32 hl (by decide) rfl (fun ls hl => ?_)
    have W34_34 : ∀ (n_34 : Nat) (x33 : Int32) (x39 : Int32) (M34 : MT) (R35 : RT) (J36 : JT) (H : Heap) (locs : List Loc) (ls : Array Slot) (h_x33 : iv (-2147483648) 2147483647 x33) (h_x39 : iv 0 400 x39) (k40 : M34 a0 13 = x39) (w0_34 : x12.toInt ≤ x39.toInt ∧ x39.toInt ≤ tp.toInt) (hm_34 : 400 - x39.toInt < (n_34 : Int)) (hS : SB D cy base Z K N Lt_X12_numberHere LRt_X12_numberHere Ma Ra M34 R35 J36 s H locs) (hl : lv_has ls 5 [(4, .int x33), (3, .int x12), (0, .ref (base + a0)), (1, .int a1), (2, .int a2)]), W p l e (md_rm 2 0 0) s m args below meth c H locs 0 0 Q (F0 m 34 ls []) := by
      intro n_34
      induction n_34 with
      | zero =>
        intro x33 x39 M34 R35 J36 H locs ls h_x33 h_x39 k40 w0_34 hm_34 hS hl
        exfalso
        have := (h_a1).1; have := (h_a1).2; have := (h_a2).1; have := (h_a2).2; have := (h_nm).1; have := (h_nm).2; have := (h_nx).1; have := (h_nx).2; have := (h_tp).1; have := (h_tp).2; have := (h32).1; have := (h32).2; have := (h_x39).1; have := (h_x39).2; have := (h_x8).1; have := (h_x8).2; omega
      | succ n_34 ih_34 =>
        intro x33 x39 M34 R35 J36 H locs ls h_x33 h_x39 k40 w0_34 hm_34 hS hl
        have f37 := hS.2.2.1
        have g38 := hS.2.2.2
        refine lv_aload_n hx hb dX12_numberHere_34 rfl (lv_at hl 2 rfl) ?_
        refine lv_aload_n hx hb dX12_numberHere_35 rfl (lv_at hl 2 rfl) ?_
        refine tw_getk hx hb hW hown hK hS f_X12_127_11 hz_a0 hk_a0 (v := x39) k40 dX12_numberHere_36 ?_
        have k41 : R35 a0 0 = some tb := (Fr.kp (k := 0) g38 hk_a0 rfl).trans k_tb
        have k42 : M34 a0 1 = tp := (Fr.kp (k := 1) f37 hk_a0 rfl).trans k_tp
        refine tw_goi hS (md_runV (As := [.int x39]) (rest := []) hx hb hml hown hW hK hT hS.1 (t_X12_isDigit l D cy tx base Z K N M34 R35 J36 hS.2.1 a0 hz_a0 hk_a0 x39 h_x39 tb k41 tp k42 (iv_mono h_tp (by decide) (by decide))) s_X12_145 ⟨rfl, rfl, ⟨Nat.le_of_ble_eq_true rfl, Nat.le_of_ble_eq_true rfl⟩, ⟨Nat.le_of_ble_eq_true rfl, Nat.le_of_ble_eq_true rfl⟩⟩ hz_a0 hk_a0 (by decide) rfl rfl hl.1 rfl (Nat.le_of_ble_eq_true rfl) dX12_numberHere_39) rfl rfl (fun x49 H locs M46 R47 J45 hS f43 g44 E48 => ?_)
        have eM46 := Fr.nil f43 rfl
        subst eM46
        have eR47 := Fr.nil g44 rfl
        subst eR47
        obtain ⟨h_x49, p50⟩ := E48
        have z51 : ¬ x49 = 0 → chF 48 57 Ma tb x39 tp := fun h => chF.rf (p50.1 h) hS.2.2.1 hk_tb rfl
        have z52 : x49 = 0 → ¬ chF 48 57 Ma tb x39 tp := fun h q => p50.2 h (chF.fr q hS.2.2.1 hk_tb rfl)
        refine lv_if_eq (tgt := 88) hx hb dX12_numberHere_42 (by decide) (fun c53 => ?_) (fun c53 => ?_)
        · have q54 : x49.toInt = 0 := ti_eq c53
          have z55 := z52 c53
          have h56 : iv 0 0 x49 := ⟨by have := (h_x49).1; have := ((iv_c (c := 0) (n := 0) (by decide))).1; omega, by have := (h_x49).2; have := ((iv_c (c := 0) (n := 0) (by decide))).2; omega⟩
          have q57 : ¬ x39.toInt = x12.toInt := fun e => z55 (z30.at e)
          refine lv_aload_n hx hb dX12_numberHere_88 rfl (lv_at hl 2 rfl) ?_
          refine lv_iload hx hb dX12_numberHere_89 (lv_at hl 0 rfl) ?_
          refine tw_puti hx hb hW hown hK hS f_X12_152_11 hz_a0 hk_a0 rfl rfl (lo := (-2147483648)) (hi := 2147483647) rfl h_x33 rfl dX12_numberHere_91 (fun H locs M60 hS k58 f59 => ?_)
          refine lv_aload_n hx hb dX12_numberHere_94 rfl (lv_at hl 2 rfl) ?_
          have k61 : M60 a0 13 = x39 := (Fr.kp (k := 13) f59 hk_a0 rfl).trans k40
          refine tw_getk hx hb hW hown hK hS f_X12_127_11 hz_a0 hk_a0 (v := x39) k61 dX12_numberHere_95 ?_
          refine lv_iload_n hx hb dX12_numberHere_98 rfl (lv_at hl 1 rfl) ?_
          refine tw_isub (lo := (-399)) (hi := 400) hx hb h_x39 h32 ⟨by decide, by decide⟩ ⟨by decide, by decide⟩ dX12_numberHere_99 (fun x64 e63 h62 => ?_)
          refine lv_iconst (v := 5) hx hb dX12_numberHere_100 (by decide) ?_
          refine lv_icmp_gt (tgt := 117) hx hb dX12_numberHere_101 (by decide) (fun c65 => ?_) (fun c65 => ?_)
          · have q66 : 5 < x64.toInt := ti_lt c65
            have h67 : iv 6 400 x64 := iv_gtL (y := 5) h62 (iv_c (c := 5) (n := 5) (by decide)) q66 (by decide)
            refine lv_aload_n hx hb dX12_numberHere_117 rfl (lv_at hl 2 rfl) ?_
            refine lv_iconst (v := 1) hx hb dX12_numberHere_118 (by decide) ?_
            refine lv_iload_n hx hb dX12_numberHere_119 rfl (lv_at hl 1 rfl) ?_
            refine tw_goi hS (md_runV (As := [.int 1, .int x12]) (rest := []) hx hb hml hown hW hK hT hS.1 (t_X12_fails l D cy tx base Z K N M60 R35 J45 hS.2.1 a0 hz_a0 hk_a0 1 (iv_mono (iv_c (c := 1) (n := 1) (by decide)) (by decide) (by decide)) x12 (iv_mono h32 (by decide) (by decide))) s_X12_148 ⟨rfl, rfl, ⟨Nat.le_of_ble_eq_true rfl, Nat.le_of_ble_eq_true rfl⟩, ⟨Nat.le_of_ble_eq_true rfl, Nat.le_of_ble_eq_true rfl⟩⟩ hz_a0 hk_a0 (by decide) rfl rfl hl.1 rfl (Nat.le_of_ble_eq_true rfl) dX12_numberHere_120) rfl rfl (fun x74 H locs M71 R72 J70 hS f68 g69 E73 => ?_)
            have eR72 := Fr.nil g69 rfl
            subst eR72
            have h_x74 := E73
            refine lv_if_eq (tgt := 130) hx hb dX12_numberHere_123 (by decide) (fun c75 => ?_) (fun c75 => False.elim (by have q : ¬ x74.toInt = 0 := ti_ne c75; have := (h_x74).1; have := (h_x74).2; omega))
            have q76 : x74.toInt = 0 := ti_eq c75
            refine lv_iconst (v := 0) hx hb dX12_numberHere_130 (by decide) ?_
            have k77 : M71 a0 13 = x39 := (Fr.kp (k := 13) f68 hk_a0 rfl).trans k61
            have q78 : nx.toInt ≤ x39.toInt ∧ x39.toInt ≤ tp.toInt ∧ ((0 : Int32).toInt = 0 ∨ nx.toInt < x39.toInt) := by
              have := (h_a1).1; have := (h_a1).2; have := (h_a2).1; have := (h_a2).2; have := (h_nm).1; have := (h_nm).2; have := (h_nx).1; have := (h_nx).2; have := (h_tp).1; have := (h_tp).2; have := (h32).1; have := (h32).2; have := (h_x39).1; have := (h_x39).2; have := (h67).1; have := (h67).2; have := (h_x8).1; have := (h_x8).2; have : (0 : Int32).toInt = 0 := (by decide); omega
            have k79 : M71 a0 15 = x33 := (Fr.kp (k := 15) f68 hk_a0 rfl).trans k58
            have q80 : (0 : Int32).toInt = 0 ∨ (a1.toInt ≤ x33.toInt ∧ x33.toInt ≤ a2.toInt) := by
              have := (h_a1).1; have := (h_a1).2; have := (h_a2).1; have := (h_a2).2; have := (h_nm).1; have := (h_nm).2; have := (h_nx).1; have := (h_nx).2; have := (h_tp).1; have := (h_tp).2; have := (h_x33).1; have := (h_x33).2; have : (0 : Int32).toInt = 0 := (by decide); omega
            exact tw_endz hx hb hr hlocks hK hT hS hQ rfl (⟨(iv_mono (iv_c (c := 0) (n := 0) (by decide)) (by decide) (by decide)), ⟨x39, k77, h_x39, q78⟩, ⟨x33, k79, h_x33, q80⟩⟩) dX12_numberHere_131
          · have q81 : x64.toInt ≤ 5 := ti_nlt c65
            have h82 : iv (-399) 5 x64 := iv_leL (y := 5) h62 (iv_c (c := 5) (n := 5) (by decide)) q81 (by decide)
            refine lv_iload hx hb dX12_numberHere_104 (lv_at hl 0 rfl) ?_
            refine lv_i2l hx hb dX12_numberHere_106 rfl ?_
            refine lv_iload_n hx hb dX12_numberHere_107 rfl (lv_at hl 3 rfl) ?_
            refine lv_i2l hx hb dX12_numberHere_108 rfl ?_
            refine lv_iload_n hx hb dX12_numberHere_109 rfl (lv_at hl 4 rfl) ?_
            refine lv_i2l hx hb dX12_numberHere_110 rfl ?_
            refine tw_goi hS (md_runS (As := [.long x33.toInt64, .long a1.toInt64, .long a2.toInt64]) (rest := []) hx hb hml hown hW hK hT hS.1 (t_X12_in l D cy tx base Z K N M60 R35 J45 hS.2.1 (x33.toInt64) (a1.toInt64) (a2.toInt64)) s_X12_155 ⟨rfl, rfl, ⟨Nat.le_of_ble_eq_true rfl, Nat.le_of_ble_eq_true rfl⟩, ⟨Nat.le_of_ble_eq_true rfl, Nat.le_of_ble_eq_true rfl⟩⟩ rfl hl.1 rfl (Nat.le_of_ble_eq_true rfl) dX12_numberHere_111) rfl rfl (fun x89 H locs M86 R87 J85 hS f83 g84 E88 => ?_)
            have eM86 := Fr.nil f83 rfl
            subst eM86
            have eR87 := Fr.nil g84 rfl
            subst eR87
            obtain ⟨h_x89, p90⟩ := E88
            refine lv_if_ne (tgt := 126) hx hb dX12_numberHere_114 (by decide) (fun c91 => ?_) (fun c91 => ?_)
            · have q92 : ¬ x89.toInt = 0 := ti_ne c91
              have h93 : iv 1 1 x89 := ⟨by have := (h_x89).1; have := ((iv_c (c := 0) (n := 0) (by decide))).1; have := ((iv_c (c := 0) (n := 0) (by decide))).2; omega, by have := (h_x89).2; have := ((iv_c (c := 0) (n := 0) (by decide))).1; have := ((iv_c (c := 0) (n := 0) (by decide))).2; omega⟩
              have h94 : iv 0 99999 x33 := in2iv (p90 c91) ((jv_o h_a1)).1 ((jv_o h_a2)).2
              have q95 := (p90 c91).1
              rw [Int32.toInt_toInt64, Int32.toInt_toInt64] at q95
              have q96 := (p90 c91).2
              rw [Int32.toInt_toInt64, Int32.toInt_toInt64] at q96
              refine lv_iconst (v := 1) hx hb dX12_numberHere_126 (by decide) ?_
              refine lv_goto (tgt := 131) hx hb dX12_numberHere_127 (by decide) ?_
              have q97 : nx.toInt ≤ x39.toInt ∧ x39.toInt ≤ tp.toInt ∧ ((1 : Int32).toInt = 0 ∨ nx.toInt < x39.toInt) := by
                have := (h_a1).1; have := (h_a1).2; have := (h_a2).1; have := (h_a2).2; have := (h_nm).1; have := (h_nm).2; have := (h_nx).1; have := (h_nx).2; have := (h_tp).1; have := (h_tp).2; have := (h32).1; have := (h32).2; have := (h_x39).1; have := (h_x39).2; have := (h82).1; have := (h82).2; have := (h_x8).1; have := (h_x8).2; have : (1 : Int32).toInt = 1 := (by decide); omega
              have q98 : (1 : Int32).toInt = 0 ∨ (a1.toInt ≤ x33.toInt ∧ x33.toInt ≤ a2.toInt) := by
                have := (h_a1).1; have := (h_a1).2; have := (h_a2).1; have := (h_a2).2; have := (h_nm).1; have := (h_nm).2; have := (h_nx).1; have := (h_nx).2; have := (h_tp).1; have := (h_tp).2; have := (h94).1; have := (h94).2; have : (1 : Int32).toInt = 1 := (by decide); omega
              exact tw_endz hx hb hr hlocks hK hT hS hQ rfl (⟨(iv_mono (iv_c (c := 1) (n := 1) (by decide)) (by decide) (by decide)), ⟨x39, k61, h_x39, q97⟩, ⟨x33, k58, (iv_mono h94 (by decide) (by decide)), q98⟩⟩) dX12_numberHere_131
            · have q99 : x89.toInt = 0 := ti_eq c91
              have h100 : iv 0 0 x89 := ⟨by have := (h_x89).1; have := ((iv_c (c := 0) (n := 0) (by decide))).1; omega, by have := (h_x89).2; have := ((iv_c (c := 0) (n := 0) (by decide))).2; omega⟩
              refine lv_aload_n hx hb dX12_numberHere_117 rfl (lv_at hl 2 rfl) ?_
              refine lv_iconst (v := 1) hx hb dX12_numberHere_118 (by decide) ?_
              refine lv_iload_n hx hb dX12_numberHere_119 rfl (lv_at hl 1 rfl) ?_
              refine tw_goi hS (md_runV (As := [.int 1, .int x12]) (rest := []) hx hb hml hown hW hK hT hS.1 (t_X12_fails l D cy tx base Z K N M60 R35 J85 hS.2.1 a0 hz_a0 hk_a0 1 (iv_mono (iv_c (c := 1) (n := 1) (by decide)) (by decide) (by decide)) x12 (iv_mono h32 (by decide) (by decide))) s_X12_148 ⟨rfl, rfl, ⟨Nat.le_of_ble_eq_true rfl, Nat.le_of_ble_eq_true rfl⟩, ⟨Nat.le_of_ble_eq_true rfl, Nat.le_of_ble_eq_true rfl⟩⟩ hz_a0 hk_a0 (by decide) rfl rfl hl.1 rfl (Nat.le_of_ble_eq_true rfl) dX12_numberHere_120) rfl rfl (fun x107 H locs M104 R105 J103 hS f101 g102 E106 => ?_)
              have eR105 := Fr.nil g102 rfl
              subst eR105
              have h_x107 := E106
              refine lv_if_eq (tgt := 130) hx hb dX12_numberHere_123 (by decide) (fun c108 => ?_) (fun c108 => False.elim (by have q : ¬ x107.toInt = 0 := ti_ne c108; have := (h_x107).1; have := (h_x107).2; omega))
              have q109 : x107.toInt = 0 := ti_eq c108
              refine lv_iconst (v := 0) hx hb dX12_numberHere_130 (by decide) ?_
              have k110 : M104 a0 13 = x39 := (Fr.kp (k := 13) f101 hk_a0 rfl).trans k61
              have q111 : nx.toInt ≤ x39.toInt ∧ x39.toInt ≤ tp.toInt ∧ ((0 : Int32).toInt = 0 ∨ nx.toInt < x39.toInt) := by
                have := (h_a1).1; have := (h_a1).2; have := (h_a2).1; have := (h_a2).2; have := (h_nm).1; have := (h_nm).2; have := (h_nx).1; have := (h_nx).2; have := (h_tp).1; have := (h_tp).2; have := (h32).1; have := (h32).2; have := (h_x39).1; have := (h_x39).2; have := (h82).1; have := (h82).2; have := (h_x8).1; have := (h_x8).2; have : (0 : Int32).toInt = 0 := (by decide); omega
              have k112 : M104 a0 15 = x33 := (Fr.kp (k := 15) f101 hk_a0 rfl).trans k58
              have q113 : (0 : Int32).toInt = 0 ∨ (a1.toInt ≤ x33.toInt ∧ x33.toInt ≤ a2.toInt) := by
                have := (h_a1).1; have := (h_a1).2; have := (h_a2).1; have := (h_a2).2; have := (h_nm).1; have := (h_nm).2; have := (h_nx).1; have := (h_nx).2; have := (h_tp).1; have := (h_tp).2; have := (h_x33).1; have := (h_x33).2; have : (0 : Int32).toInt = 0 := (by decide); omega
              exact tw_endz hx hb hr hlocks hK hT hS hQ rfl (⟨(iv_mono (iv_c (c := 0) (n := 0) (by decide)) (by decide) (by decide)), ⟨x39, k110, h_x39, q111⟩, ⟨x33, k112, h_x33, q113⟩⟩) dX12_numberHere_131
        · have q114 : ¬ x49.toInt = 0 := ti_ne c53
          have h115 : iv 1 1 x49 := ⟨by have := (h_x49).1; have := ((iv_c (c := 0) (n := 0) (by decide))).1; have := ((iv_c (c := 0) (n := 0) (by decide))).2; omega, by have := (h_x49).2; have := ((iv_c (c := 0) (n := 0) (by decide))).1; have := ((iv_c (c := 0) (n := 0) (by decide))).2; omega⟩
          have z116 := z51 c53
          have q117 := z116.1
          have h118 : iv 0 399 x39 := iv_ltL (y := tp) h_x39 h_tp q117 (by decide)
          refine lv_aload_n hx hb dX12_numberHere_45 rfl (lv_at hl 2 rfl) ?_
          refine tw_getk hx hb hW hown hK hS f_X12_127_11 hz_a0 hk_a0 (v := x39) k40 dX12_numberHere_46 ?_
          refine lv_iload_n hx hb dX12_numberHere_49 rfl (lv_at hl 1 rfl) ?_
          refine tw_isub (lo := (-399)) (hi := 399) hx hb h118 h32 ⟨by decide, by decide⟩ ⟨by decide, by decide⟩ dX12_numberHere_50 (fun x121 e120 h119 => ?_)
          refine lv_iconst (v := 5) hx hb dX12_numberHere_51 (by decide) ?_
          refine lv_icmp_ge (tgt := 75) hx hb dX12_numberHere_52 (by decide) (fun c122 => ?_) (fun c122 => ?_)
          · have q123 : 5 ≤ x121.toInt := ti_le c122
            have h124 : iv 5 399 x121 := iv_geL (y := 5) h119 (iv_c (c := 5) (n := 5) (by decide)) q123 (by decide)
            refine lv_aload_n hx hb dX12_numberHere_75 rfl (lv_at hl 2 rfl) ?_
            refine lv_dup hx hb dX12_numberHere_76 rfl ?_
            refine tw_getk hx hb hW hown hK hS f_X12_127_11 hz_a0 hk_a0 (v := x39) k40 dX12_numberHere_77 ?_
            refine lv_iconst (v := 1) hx hb dX12_numberHere_80 (by decide) ?_
            refine tw_iadd (lo := 1) (hi := 400) hx hb h118 (iv_c (c := 1) (n := 1) (by decide)) ⟨by decide, by decide⟩ ⟨by decide, by decide⟩ dX12_numberHere_81 (fun x127 e126 h125 => ?_)
            have e126 : x127.toInt = x39.toInt + 1 := e126
            refine tw_puti hx hb hW hown hK hS f_X12_127_11 hz_a0 hk_a0 rfl rfl (lo := 0) (hi := 400) rfl (iv_mono h125 (by decide) (by decide)) rfl dX12_numberHere_82 (fun H locs M130 hS k128 f129 => ?_)
            refine lv_goto (tgt := 34) hx hb dX12_numberHere_85 (by decide) ?_
            have w131 : x12.toInt ≤ x127.toInt ∧ x127.toInt ≤ tp.toInt := by
              have := (h_a1).1; have := (h_a1).2; have := (h_a2).1; have := (h_a2).2; have := (h_nm).1; have := (h_nm).2; have := (h_nx).1; have := (h_nx).2; have := (h_tp).1; have := (h_tp).2; have := (h32).1; have := (h32).2; have := (h124).1; have := (h124).2; have := (h125).1; have := (h125).2; have := (h118).1; have := (h118).2; have := (h_x8).1; have := (h_x8).2; omega
            have hm132 : 400 - x127.toInt < (n_34 : Int) := by
              have := (h_a1).1; have := (h_a1).2; have := (h_a2).1; have := (h_a2).2; have := (h_nm).1; have := (h_nm).2; have := (h_nx).1; have := (h_nx).2; have := (h_tp).1; have := (h_tp).2; have := (h32).1; have := (h32).2; have := (h124).1; have := (h124).2; have := (h125).1; have := (h125).2; have := (h118).1; have := (h118).2; have := (h_x8).1; have := (h_x8).2; omega
            exact ih_34 x33 x127 M130 R35 J45 H locs _ h_x33 (iv_mono h125 (by decide) (by decide)) k128 w131 hm132 hS hl
          · have q133 : x121.toInt < 5 := ti_nle c122
            have h134 : iv (-399) 4 x121 := iv_ltL (y := 5) h119 (iv_c (c := 5) (n := 5) (by decide)) q133 (by decide)
            refine lv_bipush (v := 10) hx hb dX12_numberHere_55 (by decide) ?_
            refine lv_iload hx hb dX12_numberHere_57 (lv_at hl 0 rfl) ?_
            refine lv_imul hx hb dX12_numberHere_59 ?_
            refine tw_top (fun x136 => ?_)
            have h135 := iv_any x136
            refine lv_aload_n hx hb dX12_numberHere_60 rfl (lv_at hl 2 rfl) ?_
            have k137 : R35 a0 0 = some tb := (Fr.kp (k := 0) g38 hk_a0 rfl).trans k_tb
            refine tw_getrk hx hb hW hown hK hS f_X12_7_11 hz_a0 hk_a0 (b := tb) k137 dX12_numberHere_61 ?_
            refine lv_aload_n hx hb dX12_numberHere_64 rfl (lv_at hl 2 rfl) ?_
            refine tw_getk hx hb hW hown hK hS f_X12_127_11 hz_a0 hk_a0 (v := x39) k40 dX12_numberHere_65 ?_
            refine tw_bald hx hb hK hS hz_tb hk_tb hn_tb h118 ⟨by decide, by decide⟩ dX12_numberHere_68 (fun x140 k139 => ?_)
            have h138 := iv_any x140
            refine lv_iadd hx hb dX12_numberHere_69 ?_
            refine tw_top (fun x142 => ?_)
            have h141 := iv_any x142
            refine lv_bipush (v := 48) hx hb dX12_numberHere_70 (by decide) ?_
            refine lv_isub hx hb dX12_numberHere_72 ?_
            refine tw_top (fun x144 => ?_)
            have h143 := iv_any x144
            refine lv_istore (lv' := [(4, .int x144), (3, .int x12), (0, .ref (base + a0)), (1, .int a1), (2, .int a2)]) hx hb dX12_numberHere_73 hl (by decide) rfl (fun ls hl => ?_)
            refine lv_aload_n hx hb dX12_numberHere_75 rfl (lv_at hl 2 rfl) ?_
            refine lv_dup hx hb dX12_numberHere_76 rfl ?_
            refine tw_getk hx hb hW hown hK hS f_X12_127_11 hz_a0 hk_a0 (v := x39) k40 dX12_numberHere_77 ?_
            refine lv_iconst (v := 1) hx hb dX12_numberHere_80 (by decide) ?_
            refine tw_iadd (lo := 1) (hi := 400) hx hb h118 (iv_c (c := 1) (n := 1) (by decide)) ⟨by decide, by decide⟩ ⟨by decide, by decide⟩ dX12_numberHere_81 (fun x147 e146 h145 => ?_)
            have e146 : x147.toInt = x39.toInt + 1 := e146
            refine tw_puti hx hb hW hown hK hS f_X12_127_11 hz_a0 hk_a0 rfl rfl (lo := 0) (hi := 400) rfl (iv_mono h145 (by decide) (by decide)) rfl dX12_numberHere_82 (fun H locs M150 hS k148 f149 => ?_)
            refine lv_goto (tgt := 34) hx hb dX12_numberHere_85 (by decide) ?_
            have w151 : x12.toInt ≤ x147.toInt ∧ x147.toInt ≤ tp.toInt := by
              have := (h_a1).1; have := (h_a1).2; have := (h_a2).1; have := (h_a2).2; have := (h_nm).1; have := (h_nm).2; have := (h_nx).1; have := (h_nx).2; have := (h_tp).1; have := (h_tp).2; have := (h32).1; have := (h32).2; have := (h134).1; have := (h134).2; have := (h145).1; have := (h145).2; have := (h118).1; have := (h118).2; have := (h_x8).1; have := (h_x8).2; omega
            have hm152 : 400 - x147.toInt < (n_34 : Int) := by
              have := (h_a1).1; have := (h_a1).2; have := (h_a2).1; have := (h_a2).2; have := (h_nm).1; have := (h_nm).2; have := (h_nx).1; have := (h_nx).2; have := (h_tp).1; have := (h_tp).2; have := (h32).1; have := (h32).2; have := (h134).1; have := (h134).2; have := (h145).1; have := (h145).2; have := (h118).1; have := (h118).2; have := (h_x8).1; have := (h_x8).2; omega
            exact ih_34 x144 x147 M150 R35 J45 H locs _ h143 (iv_mono h145 (by decide) (by decide)) k148 w151 hm152 hS hl
    have w153 : x12.toInt ≤ x12.toInt ∧ x12.toInt ≤ tp.toInt := by
      have := (h_a1).1; have := (h_a1).2; have := (h_a2).1; have := (h_a2).2; have := (h_nm).1; have := (h_nm).2; have := (h_nx).1; have := (h_nx).2; have := (h_tp).1; have := (h_tp).2; have := (h32).1; have := (h32).2; have := (h_x8).1; have := (h_x8).2; omega
    have hm154 : 400 - x12.toInt < (((401 : Nat) : Int) : Int) := by
      have := (h_a1).1; have := (h_a1).2; have := (h_a2).1; have := (h_a2).2; have := (h_nm).1; have := (h_nm).2; have := (h_nx).1; have := (h_nx).2; have := (h_tp).1; have := (h_tp).2; have := (h32).1; have := (h32).2; have := (h_x8).1; have := (h_x8).2; omega
    exact W34_34 401 0 x12 M5 Ra J19 H locs _ (iv_mono (iv_c (c := 0) (n := 0) (by decide)) (by decide) (by decide)) (iv_mono h32 (by decide) (by decide)) k10 w153 hm154 hS hl
  · have q155 : x23.toInt = 0 := ti_eq c27
    have z156 := z26 c27
    have h157 : iv 0 0 x23 := ⟨by have := (h_x23).1; have := ((iv_c (c := 0) (n := 0) (by decide))).1; omega, by have := (h_x23).2; have := ((iv_c (c := 0) (n := 0) (by decide))).2; omega⟩
    refine lv_aload_n hx hb dX12_numberHere_16 rfl (lv_at hl 0 rfl) ?_
    refine lv_iconst (v := 0) hx hb dX12_numberHere_17 (by decide) ?_
    refine lv_aload_n hx hb dX12_numberHere_18 rfl (lv_at hl 0 rfl) ?_
    refine tw_getk hx hb hW hown hK hS f_X12_127_11 hz_a0 hk_a0 (v := x12) k10 dX12_numberHere_19 ?_
    refine tw_goi hS (md_runV (As := [.int 0, .int x12]) (rest := []) hx hb hml hown hW hK hT hS.1 (t_X12_fails l D cy tx base Z K N M5 Ra J19 hS.2.1 a0 hz_a0 hk_a0 0 (iv_mono (iv_c (c := 0) (n := 0) (by decide)) (by decide) (by decide)) x12 h11) s_X12_148 ⟨rfl, rfl, ⟨Nat.le_of_ble_eq_true rfl, Nat.le_of_ble_eq_true rfl⟩, ⟨Nat.le_of_ble_eq_true rfl, Nat.le_of_ble_eq_true rfl⟩⟩ hz_a0 hk_a0 (by decide) rfl rfl hl.1 rfl (Nat.le_of_ble_eq_true rfl) dX12_numberHere_22) rfl rfl (fun x164 H locs M161 R162 J160 hS f158 g159 E163 => ?_)
    have eR162 := Fr.nil g159 rfl
    subst eR162
    have h_x164 := E163
    have k165 : M161 a0 13 = x12 := (Fr.kp (k := 13) f158 hk_a0 rfl).trans k10
    have q166 : nx.toInt ≤ x12.toInt ∧ x12.toInt ≤ tp.toInt ∧ (x164.toInt = 0 ∨ nx.toInt < x12.toInt) := by
      have := (h_a1).1; have := (h_a1).2; have := (h_a2).1; have := (h_a2).2; have := (h_nm).1; have := (h_nm).2; have := (h_nx).1; have := (h_nx).2; have := (h_tp).1; have := (h_tp).2; have := (h11).1; have := (h11).2; have := (h_x164).1; have := (h_x164).2; have := (h_x8).1; have := (h_x8).2; omega
    have k167 : M161 a0 15 = nm := ((Fr.kp (k := 15) f158 hk_a0 rfl).trans (Fr.kp (k := 15) f2 hk_a0 rfl)).trans k_nm
    have q168 : x164.toInt = 0 ∨ (a1.toInt ≤ nm.toInt ∧ nm.toInt ≤ a2.toInt) := by
      have := (h_a1).1; have := (h_a1).2; have := (h_a2).1; have := (h_a2).2; have := (h_nm).1; have := (h_nm).2; have := (h_nx).1; have := (h_nx).2; have := (h_tp).1; have := (h_tp).2; have := (h_x164).1; have := (h_x164).2; omega
    exact tw_endz hx hb hr hlocks hK hT hS hQ (nar_b (iv_mono h_x164 (by decide) (by decide))) (⟨(iv_mono h_x164 (by decide) (by decide)), ⟨x12, k165, h11, q166⟩, ⟨nm, k167, h_nm, q168⟩⟩) dX12_numberHere_25
def Lt_X12_isLetter : WL := []
def LRt_X12_isLetter : WL := []
set_option maxRecDepth 100000 in
set_option maxHeartbeats 4000000 in
theorem t_X12_isLetter (l : Launch) (D : va_G) (cy : Nat → ClassId) (tx : (Nat → Nat) × (Nat → Nat)) (base Z : Nat) (K N : Nat → Nat) (Ma : MT) (Ra : RT) (Ja : JT) (hTy : Ty Z K N Ma Ra) (a0 : Nat) (hz_a0 : a0 < Z) (hk_a0 : K a0 = 12) (a1 : Int32) (h_a1 : iv 0 400 a1) (tb : Nat) (k_tb : Ra a0 0 = some tb) (tp : Int32) (k_tp : Ma a0 1 = tp) (h_tp : iv 0 400 tp) : Met l yX12_isLetter [Cond.code yX12_isLetter cX12_isLetter 2 (some .boolean)] (md_rm 1 0 0) (va_Pc [.ref (base + a0), .int a1] (md_U D cy tx base Z K N Ma Ra Ja)) (mQi D cy tx base (fun r u => TP Z K N Lt_X12_isLetter LRt_X12_isLetter Ma Ra u ∧ (iv 0 1 r ∧ ((¬ r = 0 → chF 97 122 Ma tb a1 tp) ∧ (r = 0 → ¬ chF 97 122 Ma tb a1 tp))))) 0 0 (fun q => base ≤ q) := by
  refine tw_ofW (L := Lt_X12_isLetter) (LR := LRt_X12_isLetter) (by decide) (Nat.le_of_ble_eq_true rfl) hTy ?_
  intro p e s m args below meth c Q ls hx hb hr hlocks hown hml hW hK hT hS hQ hl
  have hl : lv_has ls 2 [(0, .ref (base + a0)), (1, .int a1)] := hl
  obtain ⟨hz_tb, hk_tb, hn_tb⟩ := hTy.refn hz_a0 hk_a0 (show rtR 12 0 = (13, 400, 0) from rfl) k_tb
  have hn_tb := hn_tb (by decide)
  refine lv_iload_n hx hb dX12_isLetter_0 rfl (lv_at hl 1 rfl) ?_
  refine lv_aload_n hx hb dX12_isLetter_1 rfl (lv_at hl 0 rfl) ?_
  refine tw_getk hx hb hW hown hK hS f_X12_116_11 hz_a0 hk_a0 (v := tp) k_tp dX12_isLetter_2 ?_
  refine lv_icmp_ge (tgt := 34) hx hb dX12_isLetter_5 (by decide) (fun c1 => ?_) (fun c1 => ?_)
  · have q2 : tp.toInt ≤ a1.toInt := ti_le c1
    refine lv_iconst (v := 0) hx hb dX12_isLetter_34 (by decide) ?_
    exact tw_endz hx hb hr hlocks hK hT hS hQ rfl (⟨(iv_mono (iv_c (c := 0) (n := 0) (by decide)) (by decide) (by decide)), ⟨fun h => absurd rfl h, fun _ h => by obtain ⟨h1, h2, h3⟩ := h; omega⟩⟩) dX12_isLetter_35
  · have q3 : a1.toInt < tp.toInt := ti_nle c1
    have h4 : iv 0 399 a1 := iv_ltL (y := tp) h_a1 h_tp q3 (by decide)
    have h5 : iv 1 400 tp := iv_gtL (y := a1) h_tp h_a1 q3 (by decide)
    refine lv_aload_n hx hb dX12_isLetter_8 rfl (lv_at hl 0 rfl) ?_
    refine tw_getrk hx hb hW hown hK hS f_X12_7_11 hz_a0 hk_a0 (b := tb) k_tb dX12_isLetter_9 ?_
    refine lv_iload_n hx hb dX12_isLetter_12 rfl (lv_at hl 1 rfl) ?_
    refine tw_bald hx hb hK hS hz_tb hk_tb hn_tb h4 ⟨by decide, by decide⟩ dX12_isLetter_13 (fun x8 k7 => ?_)
    have h6 := iv_any x8
    refine lv_bipush (v := 97) hx hb dX12_isLetter_14 (by decide) ?_
    refine lv_icmp_lt (tgt := 34) hx hb dX12_isLetter_16 (by decide) (fun c9 => ?_) (fun c9 => ?_)
    · have q10 : x8.toInt < 97 := ti_lt c9
      have h11 : iv (-2147483648) 96 x8 := iv_ltL (y := 97) h6 (iv_c (c := 97) (n := 97) (by decide)) q10 (by decide)
      refine lv_iconst (v := 0) hx hb dX12_isLetter_34 (by decide) ?_
      exact tw_endz hx hb hr hlocks hK hT hS hQ rfl (⟨(iv_mono (iv_c (c := 0) (n := 0) (by decide)) (by decide) (by decide)), ⟨fun h => absurd rfl h, fun _ h => by obtain ⟨h1, h2, h3⟩ := h; rw [k7] at h2 h3; omega⟩⟩) dX12_isLetter_35
    · have q12 : 97 ≤ x8.toInt := ti_nlt c9
      have h13 : iv 97 2147483647 x8 := iv_geL (y := 97) h6 (iv_c (c := 97) (n := 97) (by decide)) q12 (by decide)
      refine lv_aload_n hx hb dX12_isLetter_19 rfl (lv_at hl 0 rfl) ?_
      refine tw_getrk hx hb hW hown hK hS f_X12_7_11 hz_a0 hk_a0 (b := tb) k_tb dX12_isLetter_20 ?_
      refine lv_iload_n hx hb dX12_isLetter_23 rfl (lv_at hl 1 rfl) ?_
      refine tw_balk hx hb hK hS hz_tb hk_tb hn_tb h4 ⟨by decide, by decide⟩ (v := x8) k7 dX12_isLetter_24 ?_
      refine lv_bipush (v := 122) hx hb dX12_isLetter_25 (by decide) ?_
      refine lv_icmp_gt (tgt := 34) hx hb dX12_isLetter_27 (by decide) (fun c14 => ?_) (fun c14 => ?_)
      · have q15 : 122 < x8.toInt := ti_lt c14
        have h16 : iv 123 2147483647 x8 := iv_gtL (y := 122) h13 (iv_c (c := 122) (n := 122) (by decide)) q15 (by decide)
        refine lv_iconst (v := 0) hx hb dX12_isLetter_34 (by decide) ?_
        exact tw_endz hx hb hr hlocks hK hT hS hQ rfl (⟨(iv_mono (iv_c (c := 0) (n := 0) (by decide)) (by decide) (by decide)), ⟨fun h => absurd rfl h, fun _ h => by obtain ⟨h1, h2, h3⟩ := h; rw [k7] at h2 h3; omega⟩⟩) dX12_isLetter_35
      · have q17 : x8.toInt ≤ 122 := ti_nlt c14
        have h18 : iv 97 122 x8 := iv_leL (y := 122) h13 (iv_c (c := 122) (n := 122) (by decide)) q17 (by decide)
        refine lv_iconst (v := 1) hx hb dX12_isLetter_30 (by decide) ?_
        refine lv_goto (tgt := 35) hx hb dX12_isLetter_31 (by decide) ?_
        exact tw_endz hx hb hr hlocks hK hT hS hQ rfl (⟨(iv_mono (iv_c (c := 1) (n := 1) (by decide)) (by decide) (by decide)), ⟨fun _ => ⟨by omega, by rw [k7]; omega, by rw [k7]; omega⟩, fun h => absurd h (by decide)⟩⟩) dX12_isLetter_35
def Lt_X12_passWord : WL := [(12, 13, 14)]
def LRt_X12_passWord : WL := []
set_option maxRecDepth 100000 in
set_option maxHeartbeats 4000000 in
theorem t_X12_passWord (l : Launch) (D : va_G) (cy : Nat → ClassId) (tx : (Nat → Nat) × (Nat → Nat)) (base Z : Nat) (K N : Nat → Nat) (Ma : MT) (Ra : RT) (Ja : JT) (hTy : Ty Z K N Ma Ra) (a0 : Nat) (hz_a0 : a0 < Z) (hk_a0 : K a0 = 12) (tb : Nat) (k_tb : Ra a0 0 = some tb) (nx : Int32) (k_nx : Ma a0 13 = nx) (h_nx : iv 0 400 nx) (tp : Int32) (k_tp : Ma a0 1 = tp) (h_tp : iv 0 400 tp) (hnt : nx.toInt ≤ tp.toInt) : Met l yX12_passWord [Cond.code yX12_passWord cX12_passWord 1 none] (md_rm 2 0 0) (va_Pc [.ref (base + a0)] (md_U D cy tx base Z K N Ma Ra Ja)) (mQv D cy tx base (fun u => TP Z K N Lt_X12_passWord LRt_X12_passWord Ma Ra u ∧ ((∃ x0 : Int32, u.2.2.2.1 a0 13 = x0 ∧ iv 0 400 x0 ∧ (nx.toInt ≤ x0.toInt ∧ x0.toInt ≤ tp.toInt) ∧ (chF 97 122 Ma tb nx tp → nx.toInt < x0.toInt))))) 0 0 (fun q => base ≤ q) := by
  refine tw_ofW (L := Lt_X12_passWord) (LR := LRt_X12_passWord) (by decide) (Nat.le_of_ble_eq_true rfl) hTy ?_
  intro p e s m args below meth c Q ls hx hb hr hlocks hown hml hW hK hT hS hQ hl
  have hl : lv_has ls 1 [(0, .ref (base + a0))] := hl
  obtain ⟨hz_tb, hk_tb, hn_tb⟩ := hTy.refn hz_a0 hk_a0 (show rtR 12 0 = (13, 400, 0) from rfl) k_tb
  have hn_tb := hn_tb (by decide)
  have W0_1 : ∀ (n_1 : Nat) (x6 : Int32) (M1 : MT) (R2 : RT) (J3 : JT) (H : Heap) (locs : List Loc) (ls : Array Slot) (h_x6 : iv 0 400 x6) (k7 : M1 a0 13 = x6) (w0_1 : nx.toInt ≤ x6.toInt ∧ x6.toInt ≤ tp.toInt) (hm_1 : 400 - x6.toInt < (n_1 : Int)) (hS : SB D cy base Z K N Lt_X12_passWord LRt_X12_passWord Ma Ra M1 R2 J3 s H locs) (hl : lv_has ls 1 [(0, .ref (base + a0))]), W p l e (md_rm 2 0 0) s m args below meth c H locs 0 0 Q (F0 m 0 ls []) := by
    intro n_1
    induction n_1 with
    | zero =>
      intro x6 M1 R2 J3 H locs ls h_x6 k7 w0_1 hm_1 hS hl
      exfalso
      have := (h_nx).1; have := (h_nx).2; have := (h_tp).1; have := (h_tp).2; have := (h_x6).1; have := (h_x6).2; omega
    | succ n_1 ih_1 =>
      intro x6 M1 R2 J3 H locs ls h_x6 k7 w0_1 hm_1 hS hl
      have f4 := hS.2.2.1
      have g5 := hS.2.2.2
      refine lv_aload_n hx hb dX12_passWord_0 rfl (lv_at hl 0 rfl) ?_
      refine lv_aload_n hx hb dX12_passWord_1 rfl (lv_at hl 0 rfl) ?_
      refine tw_getk hx hb hW hown hK hS f_X12_127_11 hz_a0 hk_a0 (v := x6) k7 dX12_passWord_2 ?_
      have k8 : R2 a0 0 = some tb := (Fr.kp (k := 0) g5 hk_a0 rfl).trans k_tb
      have k9 : M1 a0 1 = tp := (Fr.kp (k := 1) f4 hk_a0 rfl).trans k_tp
      refine tw_goi hS (md_runV (As := [.int x6]) (rest := []) hx hb hml hown hW hK hT hS.1 (t_X12_isLetter l D cy tx base Z K N M1 R2 J3 hS.2.1 a0 hz_a0 hk_a0 x6 h_x6 tb k8 tp k9 (iv_mono h_tp (by decide) (by decide))) s_X12_134 ⟨rfl, rfl, ⟨Nat.le_of_ble_eq_true rfl, Nat.le_of_ble_eq_true rfl⟩, ⟨Nat.le_of_ble_eq_true rfl, Nat.le_of_ble_eq_true rfl⟩⟩ hz_a0 hk_a0 (by decide) rfl rfl hl.1 rfl (Nat.le_of_ble_eq_true rfl) dX12_passWord_5) rfl rfl (fun x16 H locs M13 R14 J12 hS f10 g11 E15 => ?_)
      have eM13 := Fr.nil f10 rfl
      subst eM13
      have eR14 := Fr.nil g11 rfl
      subst eR14
      obtain ⟨h_x16, p17⟩ := E15
      have z18 : ¬ x16 = 0 → chF 97 122 Ma tb x6 tp := fun h => chF.rf (p17.1 h) hS.2.2.1 hk_tb rfl
      have z19 : x16 = 0 → ¬ chF 97 122 Ma tb x6 tp := fun h q => p17.2 h (chF.fr q hS.2.2.1 hk_tb rfl)
      refine lv_if_eq (tgt := 24) hx hb dX12_passWord_8 (by decide) (fun c20 => ?_) (fun c20 => ?_)
      · have q21 : x16.toInt = 0 := ti_eq c20
        have z22 := z19 c20
        have h23 : iv 0 0 x16 := ⟨by have := (h_x16).1; have := ((iv_c (c := 0) (n := 0) (by decide))).1; omega, by have := (h_x16).2; have := ((iv_c (c := 0) (n := 0) (by decide))).2; omega⟩
        have q24 : nx.toInt ≤ x6.toInt ∧ x6.toInt ≤ tp.toInt := by
          have := (h_nx).1; have := (h_nx).2; have := (h_tp).1; have := (h_tp).2; have := (h_x6).1; have := (h_x6).2; omega
        exact tw_endv hx hb hr hlocks hK hT hS hQ (⟨x6, k7, h_x6, q24, (fun h => by have := w0_1.1; have q : ¬ x6.toInt = nx.toInt := fun e => z22 (h.at e); omega)⟩) dX12_passWord_24
      · have q25 : ¬ x16.toInt = 0 := ti_ne c20
        have h26 : iv 1 1 x16 := ⟨by have := (h_x16).1; have := ((iv_c (c := 0) (n := 0) (by decide))).1; have := ((iv_c (c := 0) (n := 0) (by decide))).2; omega, by have := (h_x16).2; have := ((iv_c (c := 0) (n := 0) (by decide))).1; have := ((iv_c (c := 0) (n := 0) (by decide))).2; omega⟩
        have z27 := z18 c20
        have q28 := z27.1
        have h29 : iv 0 399 x6 := iv_ltL (y := tp) h_x6 h_tp q28 (by decide)
        refine lv_aload_n hx hb dX12_passWord_11 rfl (lv_at hl 0 rfl) ?_
        refine lv_dup hx hb dX12_passWord_12 rfl ?_
        refine tw_getk hx hb hW hown hK hS f_X12_127_11 hz_a0 hk_a0 (v := x6) k7 dX12_passWord_13 ?_
        refine lv_iconst (v := 1) hx hb dX12_passWord_16 (by decide) ?_
        refine tw_iadd (lo := 1) (hi := 400) hx hb h29 (iv_c (c := 1) (n := 1) (by decide)) ⟨by decide, by decide⟩ ⟨by decide, by decide⟩ dX12_passWord_17 (fun x32 e31 h30 => ?_)
        have e31 : x32.toInt = x6.toInt + 1 := e31
        refine tw_puti hx hb hW hown hK hS f_X12_127_11 hz_a0 hk_a0 rfl rfl (lo := 0) (hi := 400) rfl (iv_mono h30 (by decide) (by decide)) rfl dX12_passWord_18 (fun H locs M35 hS k33 f34 => ?_)
        refine lv_goto (tgt := 0) hx hb dX12_passWord_21 (by decide) ?_
        have w36 : nx.toInt ≤ x32.toInt ∧ x32.toInt ≤ tp.toInt := by
          have := (h_nx).1; have := (h_nx).2; have := (h_tp).1; have := (h_tp).2; have := (h30).1; have := (h30).2; have := (h29).1; have := (h29).2; omega
        have hm37 : 400 - x32.toInt < (n_1 : Int) := by
          have := (h_nx).1; have := (h_nx).2; have := (h_tp).1; have := (h_tp).2; have := (h30).1; have := (h30).2; have := (h29).1; have := (h29).2; omega
        exact ih_1 x32 M35 R2 J12 H locs _ (iv_mono h30 (by decide) (by decide)) k33 w36 hm37 hS hl
  have w38 : nx.toInt ≤ nx.toInt ∧ nx.toInt ≤ tp.toInt := by
    have := (h_nx).1; have := (h_nx).2; have := (h_tp).1; have := (h_tp).2; omega
  have hm39 : 400 - nx.toInt < (((401 : Nat) : Int) : Int) := by
    have := (h_nx).1; have := (h_nx).2; have := (h_tp).1; have := (h_tp).2; omega
  exact W0_1 401 nx Ma Ra Ja s.heap [] _ h_nx k_nx w38 hm39 hS hl
def Lt_X12_isWord : WL := [(12, 13, 14)]
def LRt_X12_isWord : WL := []
set_option maxRecDepth 100000 in
set_option maxHeartbeats 4000000 in
theorem t_X12_isWord (l : Launch) (D : va_G) (cy : Nat → ClassId) (tx : (Nat → Nat) × (Nat → Nat)) (base Z : Nat) (K N : Nat → Nat) (Ma : MT) (Ra : RT) (Ja : JT) (hTy : Ty Z K N Ma Ra) (a0 : Nat) (hz_a0 : a0 < Z) (hk_a0 : K a0 = 12) (a1 : Int64) (tb : Nat) (k_tb : Ra a0 0 = some tb) (nx : Int32) (k_nx : Ma a0 13 = nx) (h_nx : iv 0 400 nx) (tp : Int32) (k_tp : Ma a0 1 = tp) (h_tp : iv 0 400 tp) (hnt : nx.toInt ≤ tp.toInt) : Met l yX12_isWord [Cond.code yX12_isWord cX12_isWord 6 (some .boolean)] (md_rm 2 0 0) (va_Pc [.ref (base + a0), .long a1] (md_U D cy tx base Z K N Ma Ra Ja)) (mQi D cy tx base (fun r u => TP Z K N Lt_X12_isWord LRt_X12_isWord Ma Ra u ∧ (iv 0 1 r ∧ (∃ x0 : Int32, u.2.2.2.1 a0 13 = x0 ∧ iv 0 400 x0 ∧ (nx.toInt ≤ x0.toInt ∧ x0.toInt ≤ tp.toInt) ∧ (∀ lo hi : Int, 33 ≤ lo → chF lo hi Ma tb nx tp → x0.toInt = nx.toInt) ∧ (¬ r = 0 → chF 97 122 Ma tb x0 tp))))) 0 0 (fun q => base ≤ q) := by
  refine tw_ofW (L := Lt_X12_isWord) (LR := LRt_X12_isWord) (by decide) (Nat.le_of_ble_eq_true rfl) hTy ?_
  intro p e s m args below meth c Q ls hx hb hr hlocks hown hml hW hK hT hS hQ hl
  have hl : lv_has ls 6 [(0, .ref (base + a0)), (1, .long a1)] := hl
  obtain ⟨hz_tb, hk_tb, hn_tb⟩ := hTy.refn hz_a0 hk_a0 (show rtR 12 0 = (13, 400, 0) from rfl) k_tb
  have hn_tb := hn_tb (by decide)
  refine lv_aload_n hx hb dX12_isWord_0 rfl (lv_at hl 0 rfl) ?_
  have q1 : nx.toInt ≤ tp.toInt := by
    have := (h_nx).1; have := (h_nx).2; have := (h_tp).1; have := (h_tp).2; omega
  refine tw_goi hS (md_runV (As := []) (rest := []) hx hb hml hown hW hK hT hS.1 (t_X12_see l D cy tx base Z K N Ma Ra Ja hS.2.1 a0 hz_a0 hk_a0 tb k_tb nx k_nx (iv_mono h_nx (by decide) (by decide)) tp k_tp (iv_mono h_tp (by decide) (by decide)) q1) s_X12_130 ⟨rfl, rfl, ⟨Nat.le_of_ble_eq_true rfl, Nat.le_of_ble_eq_true rfl⟩, ⟨Nat.le_of_ble_eq_true rfl, Nat.le_of_ble_eq_true rfl⟩⟩ hz_a0 hk_a0 (by decide) rfl rfl hl.1 rfl (Nat.le_of_ble_eq_true rfl) dX12_isWord_1) rfl rfl (fun x8 H locs M5 R6 J4 hS f2 g3 E7 => ?_)
  have eR6 := Fr.nil g3 rfl
  subst eR6
  obtain ⟨h_x8, p9⟩ := E7
  obtain ⟨x12, k10, h11, q13, z14⟩ := p9
  have k10 : M5 a0 13 = x12 := k10
  refine lv_pop hx hb dX12_isWord_4 rfl ?_
  refine lv_lconst (v := 0) hx hb dX12_isWord_5 (by decide) ?_
  refine lv_lstore_n (lv' := [(3, .long 0), (0, .ref (base + a0)), (1, .long a1)]) hx hb dX12_isWord_6 rfl hl (by decide) rfl (fun ls hl => ?_)
  refine lv_iconst (v := 0) hx hb dX12_isWord_7 (by decide) ?_
  refine lv_istore (lv' := [(5, .int 0), (3, .long 0), (0, .ref (base + a0)), (1, .long a1)]) hx hb dX12_isWord_8 hl (by decide) rfl (fun ls hl => ?_)
  have W10_18 : ∀ (n_18 : Nat) (x16 : Int64) (x17 : Int32) (x23 : Int32) (M18 : MT) (R19 : RT) (J20 : JT) (H : Heap) (locs : List Loc) (ls : Array Slot) (h_x17 : iv 0 400 x17) (h_x23 : iv 0 400 x23) (k24 : M18 a0 13 = x23) (w0_18 : nx.toInt ≤ x23.toInt ∧ x23.toInt + x17.toInt ≤ tp.toInt) (w1_18 : x17.toInt = 0 ∨ chF 97 122 Ma tb x23 tp) (w2_18 : (∀ lo hi : Int, 33 ≤ lo → chF lo hi Ma tb nx tp → x23.toInt = nx.toInt)) (hm_18 : 400 - x17.toInt < (n_18 : Int)) (hS : SB D cy base Z K N Lt_X12_isWord LRt_X12_isWord Ma Ra M18 R19 J20 s H locs) (hl : lv_has ls 6 [(3, .long x16), (5, .int x17), (0, .ref (base + a0)), (1, .long a1)]), W p l e (md_rm 2 0 0) s m args below meth c H locs 0 0 Q (F0 m 10 ls []) := by
    intro n_18
    induction n_18 with
    | zero =>
      intro x16 x17 x23 M18 R19 J20 H locs ls h_x17 h_x23 k24 w0_18 w1_18 w2_18 hm_18 hS hl
      exfalso
      have := (h_nx).1; have := (h_nx).2; have := (h_tp).1; have := (h_tp).2; have := (h11).1; have := (h11).2; have := (h_x17).1; have := (h_x17).2; have := (h_x23).1; have := (h_x23).2; omega
    | succ n_18 ih_18 =>
      intro x16 x17 x23 M18 R19 J20 H locs ls h_x17 h_x23 k24 w0_18 w1_18 w2_18 hm_18 hS hl
      have f21 := hS.2.2.1
      have g22 := hS.2.2.2
      refine lv_aload_n hx hb dX12_isWord_10 rfl (lv_at hl 2 rfl) ?_
      refine lv_aload_n hx hb dX12_isWord_11 rfl (lv_at hl 2 rfl) ?_
      refine tw_getk hx hb hW hown hK hS f_X12_127_11 hz_a0 hk_a0 (v := x23) k24 dX12_isWord_12 ?_
      refine lv_iload hx hb dX12_isWord_15 (lv_at hl 1 rfl) ?_
      refine tw_iadd (lo := 0) (hi := 800) hx hb h_x23 h_x17 ⟨by decide, by decide⟩ ⟨by decide, by decide⟩ dX12_isWord_17 (fun x27 e26 h25 => ?_)
      have h28 : iv 0 400 x27 := by
        have := (h_nx).1; have := (h_nx).2; have := (h_tp).1; have := (h_tp).2; have := (h11).1; have := (h11).2; have := (h_x17).1; have := (h_x17).2; have := (h_x23).1; have := (h_x23).2; have := (h25).1; have := (h25).2; exact ⟨by omega, by omega⟩
      have k29 : R19 a0 0 = some tb := (Fr.kp (k := 0) g22 hk_a0 rfl).trans k_tb
      have k30 : M18 a0 1 = tp := (Fr.kp (k := 1) f21 hk_a0 rfl).trans k_tp
      refine tw_goi hS (md_runV (As := [.int x27]) (rest := []) hx hb hml hown hW hK hT hS.1 (t_X12_isLetter l D cy tx base Z K N M18 R19 J20 hS.2.1 a0 hz_a0 hk_a0 x27 h28 tb k29 tp k30 (iv_mono h_tp (by decide) (by decide))) s_X12_134 ⟨rfl, rfl, ⟨Nat.le_of_ble_eq_true rfl, Nat.le_of_ble_eq_true rfl⟩, ⟨Nat.le_of_ble_eq_true rfl, Nat.le_of_ble_eq_true rfl⟩⟩ hz_a0 hk_a0 (by decide) rfl rfl hl.1 rfl (Nat.le_of_ble_eq_true rfl) dX12_isWord_18) rfl rfl (fun x37 H locs M34 R35 J33 hS f31 g32 E36 => ?_)
      have eM34 := Fr.nil f31 rfl
      subst eM34
      have eR35 := Fr.nil g32 rfl
      subst eR35
      obtain ⟨h_x37, p38⟩ := E36
      have z39 : ¬ x37 = 0 → chF 97 122 Ma tb x27 tp := fun h => chF.rf (p38.1 h) hS.2.2.1 hk_tb rfl
      have z40 : x37 = 0 → ¬ chF 97 122 Ma tb x27 tp := fun h q => p38.2 h (chF.fr q hS.2.2.1 hk_tb rfl)
      refine lv_if_eq (tgt := 56) hx hb dX12_isWord_21 (by decide) (fun c41 => ?_) (fun c41 => ?_)
      · have q42 : x37.toInt = 0 := ti_eq c41
        have z43 := z40 c41
        have h44 : iv 0 0 x37 := ⟨by have := (h_x37).1; have := ((iv_c (c := 0) (n := 0) (by decide))).1; omega, by have := (h_x37).2; have := ((iv_c (c := 0) (n := 0) (by decide))).2; omega⟩
        refine lv_iload hx hb dX12_isWord_56 (lv_at hl 1 rfl) ?_
        refine lv_if_le (tgt := 78) hx hb dX12_isWord_58 (by decide) (fun c45 => ?_) (fun c45 => ?_)
        · have q46 : x17.toInt ≤ 0 := ti_le c45
          have h47 : iv 0 0 x17 := iv_leL (y := 0) h_x17 (iv_c (c := 0) (n := 0) (by decide)) q46 (by decide)
          refine lv_iconst (v := 0) hx hb dX12_isWord_78 (by decide) ?_
          have q48 : nx.toInt ≤ x23.toInt ∧ x23.toInt ≤ tp.toInt := by
            have := (h_nx).1; have := (h_nx).2; have := (h_tp).1; have := (h_tp).2; have := (h11).1; have := (h11).2; have := (h47).1; have := (h47).2; have := (h_x23).1; have := (h_x23).2; have := (h25).1; have := (h25).2; omega
          exact tw_endz hx hb hr hlocks hK hT hS hQ rfl (⟨(iv_mono (iv_c (c := 0) (n := 0) (by decide)) (by decide) (by decide)), ⟨x23, k24, h_x23, q48, w2_18, (fun h => absurd rfl h)⟩⟩) dX12_isWord_79
        · have q49 : 0 < x17.toInt := ti_nle c45
          have h50 : iv 1 400 x17 := iv_gtL (y := 0) h_x17 (iv_c (c := 0) (n := 0) (by decide)) q49 (by decide)
          refine lv_iload hx hb dX12_isWord_61 (lv_at hl 1 rfl) ?_
          refine lv_bipush (v := 8) hx hb dX12_isWord_63 (by decide) ?_
          refine lv_icmp_ge (tgt := 78) hx hb dX12_isWord_65 (by decide) (fun c51 => ?_) (fun c51 => ?_)
          · have q52 : 8 ≤ x17.toInt := ti_le c51
            have h53 : iv 8 400 x17 := iv_geL (y := 8) h50 (iv_c (c := 8) (n := 8) (by decide)) q52 (by decide)
            refine lv_iconst (v := 0) hx hb dX12_isWord_78 (by decide) ?_
            have q54 : nx.toInt ≤ x23.toInt ∧ x23.toInt ≤ tp.toInt := by
              have := (h_nx).1; have := (h_nx).2; have := (h_tp).1; have := (h_tp).2; have := (h11).1; have := (h11).2; have := (h53).1; have := (h53).2; have := (h_x23).1; have := (h_x23).2; have := (h25).1; have := (h25).2; omega
            exact tw_endz hx hb hr hlocks hK hT hS hQ rfl (⟨(iv_mono (iv_c (c := 0) (n := 0) (by decide)) (by decide) (by decide)), ⟨x23, k24, h_x23, q54, w2_18, (fun h => absurd rfl h)⟩⟩) dX12_isWord_79
          · have q55 : x17.toInt < 8 := ti_nle c51
            have h56 : iv 1 7 x17 := iv_ltL (y := 8) h50 (iv_c (c := 8) (n := 8) (by decide)) q55 (by decide)
            refine lv_lload_n hx hb dX12_isWord_68 rfl (lv_at hl 0 rfl) ?_
            refine lv_lload_n hx hb dX12_isWord_69 rfl (lv_at hl 3 rfl) ?_
            refine W.lcmp hx hb dX12_isWord_70 ?_
            refine lv_topi (fun x59 e58 => ?_)
            have h57 := iv_any x59
            refine lv_if_ne (tgt := 78) hx hb dX12_isWord_71 (by decide) (fun c60 => ?_) (fun c60 => ?_)
            · have q61 : ¬ x59.toInt = 0 := ti_ne c60
              have n62 := md_lne e58 c60
              refine lv_iconst (v := 0) hx hb dX12_isWord_78 (by decide) ?_
              have q63 : nx.toInt ≤ x23.toInt ∧ x23.toInt ≤ tp.toInt := by
                have := (h_nx).1; have := (h_nx).2; have := (h_tp).1; have := (h_tp).2; have := (h11).1; have := (h11).2; have := (h56).1; have := (h56).2; have := (h_x23).1; have := (h_x23).2; have := (h25).1; have := (h25).2; omega
              exact tw_endz hx hb hr hlocks hK hT hS hQ rfl (⟨(iv_mono (iv_c (c := 0) (n := 0) (by decide)) (by decide) (by decide)), ⟨x23, k24, h_x23, q63, w2_18, (fun h => absurd rfl h)⟩⟩) dX12_isWord_79
            · have q64 : x59.toInt = 0 := ti_eq c60
              have h65 : iv 0 0 x59 := ⟨by have := (h57).1; have := ((iv_c (c := 0) (n := 0) (by decide))).1; omega, by have := (h57).2; have := ((iv_c (c := 0) (n := 0) (by decide))).2; omega⟩
              refine lv_iconst (v := 1) hx hb dX12_isWord_74 (by decide) ?_
              refine lv_goto (tgt := 79) hx hb dX12_isWord_75 (by decide) ?_
              have q66 : nx.toInt ≤ x23.toInt ∧ x23.toInt ≤ tp.toInt := by
                have := (h_nx).1; have := (h_nx).2; have := (h_tp).1; have := (h_tp).2; have := (h11).1; have := (h11).2; have := (h56).1; have := (h56).2; have := (h_x23).1; have := (h_x23).2; have := (h25).1; have := (h25).2; omega
              exact tw_endz hx hb hr hlocks hK hT hS hQ rfl (⟨(iv_mono (iv_c (c := 1) (n := 1) (by decide)) (by decide) (by decide)), ⟨x23, k24, h_x23, q66, w2_18, (fun _ => w1_18.resolve_left (by omega))⟩⟩) dX12_isWord_79
      · have q67 : ¬ x37.toInt = 0 := ti_ne c41
        have h68 : iv 1 1 x37 := ⟨by have := (h_x37).1; have := ((iv_c (c := 0) (n := 0) (by decide))).1; have := ((iv_c (c := 0) (n := 0) (by decide))).2; omega, by have := (h_x37).2; have := ((iv_c (c := 0) (n := 0) (by decide))).1; have := ((iv_c (c := 0) (n := 0) (by decide))).2; omega⟩
        have z69 := z39 c41
        have q70 := z69.1
        have h71 : iv 0 399 x27 := iv_ltL (y := tp) h25 h_tp q70 (by decide)
        refine lv_iload hx hb dX12_isWord_24 (lv_at hl 1 rfl) ?_
        refine lv_bipush (v := 8) hx hb dX12_isWord_26 (by decide) ?_
        refine lv_icmp_ge (tgt := 50) hx hb dX12_isWord_28 (by decide) (fun c72 => ?_) (fun c72 => ?_)
        · have q73 : 8 ≤ x17.toInt := ti_le c72
          have h74 : iv 8 400 x17 := iv_geL (y := 8) h_x17 (iv_c (c := 8) (n := 8) (by decide)) q73 (by decide)
          refine tw_iinc (lv' := fun x77 => [(5, .int x77), (3, .long x16), (0, .ref (base + a0)), (1, .long a1)]) (lo := 9) (hi := 401) hx hb dX12_isWord_50 hl (k := 1) rfl h74 (by decide) ⟨by decide, by decide⟩ ⟨by decide, by decide⟩ (by decide) (fun _ => rfl) (fun x77 ls e76 h75 hl => ?_)
          refine lv_goto (tgt := 10) hx hb dX12_isWord_53 (by decide) ?_
          have h78 : iv 0 400 x77 := by
            have := (h_nx).1; have := (h_nx).2; have := (h_tp).1; have := (h_tp).2; have := (h11).1; have := (h11).2; have := (h74).1; have := (h74).2; have := (h_x23).1; have := (h_x23).2; have := (h71).1; have := (h71).2; have := (h75).1; have := (h75).2; exact ⟨by omega, by omega⟩
          have w79 : nx.toInt ≤ x23.toInt ∧ x23.toInt + x77.toInt ≤ tp.toInt := by
            have := (h_nx).1; have := (h_nx).2; have := (h_tp).1; have := (h_tp).2; have := (h11).1; have := (h11).2; have := (h74).1; have := (h74).2; have := (h_x23).1; have := (h_x23).2; have := (h71).1; have := (h71).2; have := (h75).1; have := (h75).2; omega
          have w80 : x77.toInt = 0 ∨ chF 97 122 Ma tb x23 tp := by rcases w1_18 with h | h; · exact Or.inr (z69.at (by omega)); · exact Or.inr h
          have w81 : (∀ lo hi : Int, 33 ≤ lo → chF lo hi Ma tb nx tp → x23.toInt = nx.toInt) := w2_18
          have hm82 : 400 - x77.toInt < (n_18 : Int) := by
            have := (h_nx).1; have := (h_nx).2; have := (h_tp).1; have := (h_tp).2; have := (h11).1; have := (h11).2; have := (h74).1; have := (h74).2; have := (h_x23).1; have := (h_x23).2; have := (h71).1; have := (h71).2; have := (h75).1; have := (h75).2; omega
          exact ih_18 (x16) x77 x23 M18 R19 J33 H locs _ h78 h_x23 k24 w79 w80 w81 hm82 hS (lv_sub hl [1, 0, 2, 3] rfl)
        · have q83 : x17.toInt < 8 := ti_nle c72
          have h84 : iv 0 7 x17 := iv_ltL (y := 8) h_x17 (iv_c (c := 8) (n := 8) (by decide)) q83 (by decide)
          refine lv_lload_n hx hb dX12_isWord_31 rfl (lv_at hl 0 rfl) ?_
          refine lv_bipush (v := 8) hx hb dX12_isWord_32 (by decide) ?_
          refine lv_lshl hx hb dX12_isWord_34 rfl ?_
          refine tw_topl (fun x85 => ?_)
          refine lv_aload_n hx hb dX12_isWord_35 rfl (lv_at hl 2 rfl) ?_
          have k86 : R19 a0 0 = some tb := (Fr.kp (k := 0) g22 hk_a0 rfl).trans k_tb
          refine tw_getrk hx hb hW hown hK hS f_X12_7_11 hz_a0 hk_a0 (b := tb) k86 dX12_isWord_36 ?_
          refine lv_aload_n hx hb dX12_isWord_39 rfl (lv_at hl 2 rfl) ?_
          refine tw_getk hx hb hW hown hK hS f_X12_127_11 hz_a0 hk_a0 (v := x23) k24 dX12_isWord_40 ?_
          refine lv_iload hx hb dX12_isWord_43 (lv_at hl 1 rfl) ?_
          refine tw_iadd (lo := 0) (hi := 407) hx hb h_x23 h84 ⟨by decide, by decide⟩ ⟨by decide, by decide⟩ dX12_isWord_45 (fun x89 e88 h87 => ?_)
          have h90 : iv 0 399 x89 := by
            have := (h_nx).1; have := (h_nx).2; have := (h_tp).1; have := (h_tp).2; have := (h11).1; have := (h11).2; have := (h84).1; have := (h84).2; have := (h_x23).1; have := (h_x23).2; have := (h71).1; have := (h71).2; have := (h87).1; have := (h87).2; exact ⟨by omega, by omega⟩
          refine tw_bald hx hb hK hS hz_tb hk_tb hn_tb h90 ⟨by decide, by decide⟩ dX12_isWord_46 (fun x93 k92 => ?_)
          have h91 := iv_any x93
          refine lv_i2l hx hb dX12_isWord_47 rfl ?_
          refine lv_lor hx hb dX12_isWord_48 ?_
          refine tw_topl (fun x94 => ?_)
          refine lv_lstore_n (lv' := [(3, .long x94), (5, .int x17), (0, .ref (base + a0)), (1, .long a1)]) hx hb dX12_isWord_49 rfl hl (by decide) rfl (fun ls hl => ?_)
          refine tw_iinc (lv' := fun x97 => [(5, .int x97), (3, .long x94), (0, .ref (base + a0)), (1, .long a1)]) (lo := 1) (hi := 8) hx hb dX12_isWord_50 hl (k := 1) rfl h84 (by decide) ⟨by decide, by decide⟩ ⟨by decide, by decide⟩ (by decide) (fun _ => rfl) (fun x97 ls e96 h95 hl => ?_)
          refine lv_goto (tgt := 10) hx hb dX12_isWord_53 (by decide) ?_
          have w98 : nx.toInt ≤ x23.toInt ∧ x23.toInt + x97.toInt ≤ tp.toInt := by
            have := (h_nx).1; have := (h_nx).2; have := (h_tp).1; have := (h_tp).2; have := (h11).1; have := (h11).2; have := (h84).1; have := (h84).2; have := (h_x23).1; have := (h_x23).2; have := (h71).1; have := (h71).2; have := (h90).1; have := (h90).2; have := (h95).1; have := (h95).2; omega
          have w99 : x97.toInt = 0 ∨ chF 97 122 Ma tb x23 tp := by rcases w1_18 with h | h; · exact Or.inr (z69.at (by omega)); · exact Or.inr h
          have w100 : (∀ lo hi : Int, 33 ≤ lo → chF lo hi Ma tb nx tp → x23.toInt = nx.toInt) := w2_18
          have hm101 : 400 - x97.toInt < (n_18 : Int) := by
            have := (h_nx).1; have := (h_nx).2; have := (h_tp).1; have := (h_tp).2; have := (h11).1; have := (h11).2; have := (h84).1; have := (h84).2; have := (h_x23).1; have := (h_x23).2; have := (h71).1; have := (h71).2; have := (h90).1; have := (h90).2; have := (h95).1; have := (h95).2; omega
          exact ih_18 (x94) x97 x23 M18 R19 J33 H locs _ (iv_mono h95 (by decide) (by decide)) h_x23 k24 w98 w99 w100 hm101 hS (lv_sub hl [1, 0, 2, 3] rfl)
  have w102 : nx.toInt ≤ x12.toInt ∧ x12.toInt + (0 : Int32).toInt ≤ tp.toInt := by
    have := (h_nx).1; have := (h_nx).2; have := (h_tp).1; have := (h_tp).2; have := (h11).1; have := (h11).2; have := (h_x8).1; have := (h_x8).2; have : (0 : Int32).toInt = 0 := (by decide); omega
  have w103 : (0 : Int32).toInt = 0 ∨ chF 97 122 Ma tb x12 tp := Or.inl (by decide)
  have w104 : (∀ lo hi : Int, 33 ≤ lo → chF lo hi Ma tb nx tp → x12.toInt = nx.toInt) := z14
  have hm105 : 400 - (0 : Int32).toInt < (((401 : Nat) : Int) : Int) := by
    have := (h_nx).1; have := (h_nx).2; have := (h_tp).1; have := (h_tp).2; have : (0 : Int32).toInt = 0 := (by decide); omega
  exact W10_18 401 (0) 0 x12 M5 Ra J4 H locs _ (iv_mono (iv_c (c := 0) (n := 0) (by decide)) (by decide) (by decide)) h11 k10 w102 w103 w104 hm105 hS (lv_sub hl [1, 0, 2, 3] rfl)
def Lt_X12_wordHere : WL := [(12, 13, 14)]
def LRt_X12_wordHere : WL := []
set_option maxRecDepth 100000 in
set_option maxHeartbeats 4000000 in
theorem t_X12_wordHere (l : Launch) (D : va_G) (cy : Nat → ClassId) (tx : (Nat → Nat) × (Nat → Nat)) (base Z : Nat) (K N : Nat → Nat) (Ma : MT) (Ra : RT) (Ja : JT) (hTy : Ty Z K N Ma Ra) (a0 : Nat) (hz_a0 : a0 < Z) (hk_a0 : K a0 = 12) (tb : Nat) (k_tb : Ra a0 0 = some tb) (nx : Int32) (k_nx : Ma a0 13 = nx) (h_nx : iv 0 400 nx) (tp : Int32) (k_tp : Ma a0 1 = tp) (h_tp : iv 0 400 tp) (hnt : nx.toInt ≤ tp.toInt) : Met l yX12_wordHere [Cond.code yX12_wordHere cX12_wordHere 1 (some .int)] (md_rm 3 0 0) (va_Pc [.ref (base + a0)] (md_U D cy tx base Z K N Ma Ra Ja)) (mQi D cy tx base (fun r u => TP Z K N Lt_X12_wordHere LRt_X12_wordHere Ma Ra u ∧ (iv (-1) 9 r ∧ (∃ x0 : Int32, u.2.2.2.1 a0 13 = x0 ∧ iv 0 400 x0 ∧ (nx.toInt ≤ x0.toInt ∧ x0.toInt ≤ tp.toInt) ∧ (r.toInt < 0 ∨ chF 97 122 Ma tb x0 tp))))) 0 0 (fun q => base ≤ q) := by
  refine tw_ofW (L := Lt_X12_wordHere) (LR := LRt_X12_wordHere) (by decide) (Nat.le_of_ble_eq_true rfl) hTy ?_
  intro p e s m args below meth c Q ls hx hb hr hlocks hown hml hW hK hT hS hQ hl
  have hl : lv_has ls 1 [(0, .ref (base + a0))] := hl
  obtain ⟨hz_tb, hk_tb, hn_tb⟩ := hTy.refn hz_a0 hk_a0 (show rtR 12 0 = (13, 400, 0) from rfl) k_tb
  have hn_tb := hn_tb (by decide)
  refine lv_aload_n hx hb dX12_wordHere_0 rfl (lv_at hl 0 rfl) ?_
  refine lv_ldc2 hx hb hown (hW _ w_7_104 rfl) dX12_wordHere_1 ?_
  have q1 : nx.toInt ≤ tp.toInt := by
    have := (h_nx).1; have := (h_nx).2; have := (h_tp).1; have := (h_tp).2; omega
  refine tw_goi hS (md_runV (As := [.long 120282394289522]) (rest := []) hx hb hml hown hW hK hT hS.1 (t_X12_isWord l D cy tx base Z K N Ma Ra Ja hS.2.1 a0 hz_a0 hk_a0 (120282394289522) tb k_tb nx k_nx (iv_mono h_nx (by decide) (by decide)) tp k_tp (iv_mono h_tp (by decide) (by decide)) q1) s_X12_138 ⟨rfl, rfl, ⟨Nat.le_of_ble_eq_true rfl, Nat.le_of_ble_eq_true rfl⟩, ⟨Nat.le_of_ble_eq_true rfl, Nat.le_of_ble_eq_true rfl⟩⟩ hz_a0 hk_a0 (by decide) rfl rfl hl.1 rfl (Nat.le_of_ble_eq_true rfl) dX12_wordHere_4) rfl rfl (fun x8 H locs M5 R6 J4 hS f2 g3 E7 => ?_)
  have eR6 := Fr.nil g3 rfl
  subst eR6
  obtain ⟨h_x8, p9⟩ := E7
  obtain ⟨x12, k10, h11, q13, z14, z15⟩ := p9
  have k10 : M5 a0 13 = x12 := k10
  have z16 : ¬ x8 = 0 → chF 97 122 Ma tb x12 tp := fun h => chF.rf (chF.fr (z15 h) f2 hk_tb rfl) hS.2.2.1 hk_tb rfl
  refine lv_if_eq (tgt := 12) hx hb dX12_wordHere_7 (by decide) (fun c17 => ?_) (fun c17 => ?_)
  · have q18 : x8.toInt = 0 := ti_eq c17
    have h19 : iv 0 0 x8 := ⟨by have := (h_x8).1; have := ((iv_c (c := 0) (n := 0) (by decide))).1; omega, by have := (h_x8).2; have := ((iv_c (c := 0) (n := 0) (by decide))).2; omega⟩
    refine lv_aload_n hx hb dX12_wordHere_12 rfl (lv_at hl 0 rfl) ?_
    refine lv_ldc2 hx hb hown (hW _ w_7_4 rfl) dX12_wordHere_13 ?_
    have k20 : M5 a0 1 = tp := (Fr.kp (k := 1) f2 hk_a0 rfl).trans k_tp
    have q21 : x12.toInt ≤ tp.toInt := by
      have := (h_nx).1; have := (h_nx).2; have := (h_tp).1; have := (h_tp).2; have := (h11).1; have := (h11).2; have := (h19).1; have := (h19).2; omega
    refine tw_goi hS (md_runV (As := [.long 482905517684]) (rest := []) hx hb hml hown hW hK hT hS.1 (t_X12_isWord l D cy tx base Z K N M5 Ra J4 hS.2.1 a0 hz_a0 hk_a0 (482905517684) tb k_tb x12 k10 (iv_mono h11 (by decide) (by decide)) tp k20 (iv_mono h_tp (by decide) (by decide)) q21) s_X12_138 ⟨rfl, rfl, ⟨Nat.le_of_ble_eq_true rfl, Nat.le_of_ble_eq_true rfl⟩, ⟨Nat.le_of_ble_eq_true rfl, Nat.le_of_ble_eq_true rfl⟩⟩ hz_a0 hk_a0 (by decide) rfl rfl hl.1 rfl (Nat.le_of_ble_eq_true rfl) dX12_wordHere_16) rfl rfl (fun x28 H locs M25 R26 J24 hS f22 g23 E27 => ?_)
    have eR26 := Fr.nil g23 rfl
    subst eR26
    obtain ⟨h_x28, p29⟩ := E27
    obtain ⟨x32, k30, h31, q33, z34, z35⟩ := p29
    have k30 : M25 a0 13 = x32 := k30
    have z36 : ¬ x28 = 0 → chF 97 122 Ma tb x32 tp := fun h => chF.rf (chF.fr (z35 h) f22 hk_tb rfl) hS.2.2.1 hk_tb rfl
    refine lv_if_eq (tgt := 24) hx hb dX12_wordHere_19 (by decide) (fun c37 => ?_) (fun c37 => ?_)
    · have q38 : x28.toInt = 0 := ti_eq c37
      have h39 : iv 0 0 x28 := ⟨by have := (h_x28).1; have := ((iv_c (c := 0) (n := 0) (by decide))).1; omega, by have := (h_x28).2; have := ((iv_c (c := 0) (n := 0) (by decide))).2; omega⟩
      refine lv_aload_n hx hb dX12_wordHere_24 rfl (lv_at hl 0 rfl) ?_
      refine lv_ldc2 hx hb hown (hW _ w_7_105 rfl) dX12_wordHere_25 ?_
      have k40 : M25 a0 1 = tp := ((Fr.kp (k := 1) f22 hk_a0 rfl).trans (Fr.kp (k := 1) f2 hk_a0 rfl)).trans k_tp
      have q41 : x32.toInt ≤ tp.toInt := by
        have := (h_nx).1; have := (h_nx).2; have := (h_tp).1; have := (h_tp).2; have := (h11).1; have := (h11).2; have := (h39).1; have := (h39).2; have := (h31).1; have := (h31).2; have := (h19).1; have := (h19).2; omega
      refine tw_goi hS (md_runV (As := [.long 512970880104]) (rest := []) hx hb hml hown hW hK hT hS.1 (t_X12_isWord l D cy tx base Z K N M25 Ra J24 hS.2.1 a0 hz_a0 hk_a0 (512970880104) tb k_tb x32 k30 (iv_mono h31 (by decide) (by decide)) tp k40 (iv_mono h_tp (by decide) (by decide)) q41) s_X12_138 ⟨rfl, rfl, ⟨Nat.le_of_ble_eq_true rfl, Nat.le_of_ble_eq_true rfl⟩, ⟨Nat.le_of_ble_eq_true rfl, Nat.le_of_ble_eq_true rfl⟩⟩ hz_a0 hk_a0 (by decide) rfl rfl hl.1 rfl (Nat.le_of_ble_eq_true rfl) dX12_wordHere_28) rfl rfl (fun x48 H locs M45 R46 J44 hS f42 g43 E47 => ?_)
      have eR46 := Fr.nil g43 rfl
      subst eR46
      obtain ⟨h_x48, p49⟩ := E47
      obtain ⟨x52, k50, h51, q53, z54, z55⟩ := p49
      have k50 : M45 a0 13 = x52 := k50
      have z56 : ¬ x48 = 0 → chF 97 122 Ma tb x52 tp := fun h => chF.rf (chF.fr (z55 h) f42 hk_tb rfl) hS.2.2.1 hk_tb rfl
      refine lv_if_eq (tgt := 36) hx hb dX12_wordHere_31 (by decide) (fun c57 => ?_) (fun c57 => ?_)
      · have q58 : x48.toInt = 0 := ti_eq c57
        have h59 : iv 0 0 x48 := ⟨by have := (h_x48).1; have := ((iv_c (c := 0) (n := 0) (by decide))).1; omega, by have := (h_x48).2; have := ((iv_c (c := 0) (n := 0) (by decide))).2; omega⟩
        refine lv_aload_n hx hb dX12_wordHere_36 rfl (lv_at hl 0 rfl) ?_
        refine lv_ldc2 hx hb hown (hW _ w_7_5 rfl) dX12_wordHere_37 ?_
        have k60 : M45 a0 1 = tp := ((Fr.kp (k := 1) f42 hk_a0 rfl).trans ((Fr.kp (k := 1) f22 hk_a0 rfl).trans (Fr.kp (k := 1) f2 hk_a0 rfl))).trans k_tp
        have q61 : x52.toInt ≤ tp.toInt := by
          have := (h_nx).1; have := (h_nx).2; have := (h_tp).1; have := (h_tp).2; have := (h11).1; have := (h11).2; have := (h39).1; have := (h39).2; have := (h31).1; have := (h31).2; have := (h59).1; have := (h59).2; have := (h51).1; have := (h51).2; have := (h19).1; have := (h19).2; omega
        refine tw_goi hS (md_runV (As := [.long 130220881569139]) (rest := []) hx hb hml hown hW hK hT hS.1 (t_X12_isWord l D cy tx base Z K N M45 Ra J44 hS.2.1 a0 hz_a0 hk_a0 (130220881569139) tb k_tb x52 k50 (iv_mono h51 (by decide) (by decide)) tp k60 (iv_mono h_tp (by decide) (by decide)) q61) s_X12_138 ⟨rfl, rfl, ⟨Nat.le_of_ble_eq_true rfl, Nat.le_of_ble_eq_true rfl⟩, ⟨Nat.le_of_ble_eq_true rfl, Nat.le_of_ble_eq_true rfl⟩⟩ hz_a0 hk_a0 (by decide) rfl rfl hl.1 rfl (Nat.le_of_ble_eq_true rfl) dX12_wordHere_40) rfl rfl (fun x68 H locs M65 R66 J64 hS f62 g63 E67 => ?_)
        have eR66 := Fr.nil g63 rfl
        subst eR66
        obtain ⟨h_x68, p69⟩ := E67
        obtain ⟨x72, k70, h71, q73, z74, z75⟩ := p69
        have k70 : M65 a0 13 = x72 := k70
        have z76 : ¬ x68 = 0 → chF 97 122 Ma tb x72 tp := fun h => chF.rf (chF.fr (z75 h) f62 hk_tb rfl) hS.2.2.1 hk_tb rfl
        refine lv_if_eq (tgt := 48) hx hb dX12_wordHere_43 (by decide) (fun c77 => ?_) (fun c77 => ?_)
        · have q78 : x68.toInt = 0 := ti_eq c77
          have h79 : iv 0 0 x68 := ⟨by have := (h_x68).1; have := ((iv_c (c := 0) (n := 0) (by decide))).1; omega, by have := (h_x68).2; have := ((iv_c (c := 0) (n := 0) (by decide))).2; omega⟩
          refine lv_aload_n hx hb dX12_wordHere_48 rfl (lv_at hl 0 rfl) ?_
          refine lv_ldc2 hx hb hown (hW _ w_7_106 rfl) dX12_wordHere_49 ?_
          have k80 : M65 a0 1 = tp := ((Fr.kp (k := 1) f62 hk_a0 rfl).trans ((Fr.kp (k := 1) f42 hk_a0 rfl).trans ((Fr.kp (k := 1) f22 hk_a0 rfl).trans (Fr.kp (k := 1) f2 hk_a0 rfl)))).trans k_tp
          have q81 : x72.toInt ≤ tp.toInt := by
            have := (h_nx).1; have := (h_nx).2; have := (h_tp).1; have := (h_tp).2; have := (h11).1; have := (h11).2; have := (h39).1; have := (h39).2; have := (h31).1; have := (h31).2; have := (h59).1; have := (h59).2; have := (h51).1; have := (h51).2; have := (h79).1; have := (h79).2; have := (h71).1; have := (h71).2; have := (h19).1; have := (h19).2; omega
          refine tw_goi hS (md_runV (As := [.long 7566701]) (rest := []) hx hb hml hown hW hK hT hS.1 (t_X12_isWord l D cy tx base Z K N M65 Ra J64 hS.2.1 a0 hz_a0 hk_a0 (7566701) tb k_tb x72 k70 (iv_mono h71 (by decide) (by decide)) tp k80 (iv_mono h_tp (by decide) (by decide)) q81) s_X12_138 ⟨rfl, rfl, ⟨Nat.le_of_ble_eq_true rfl, Nat.le_of_ble_eq_true rfl⟩, ⟨Nat.le_of_ble_eq_true rfl, Nat.le_of_ble_eq_true rfl⟩⟩ hz_a0 hk_a0 (by decide) rfl rfl hl.1 rfl (Nat.le_of_ble_eq_true rfl) dX12_wordHere_52) rfl rfl (fun x88 H locs M85 R86 J84 hS f82 g83 E87 => ?_)
          have eR86 := Fr.nil g83 rfl
          subst eR86
          obtain ⟨h_x88, p89⟩ := E87
          obtain ⟨x92, k90, h91, q93, z94, z95⟩ := p89
          have k90 : M85 a0 13 = x92 := k90
          have z96 : ¬ x88 = 0 → chF 97 122 Ma tb x92 tp := fun h => chF.rf (chF.fr (z95 h) f82 hk_tb rfl) hS.2.2.1 hk_tb rfl
          refine lv_if_eq (tgt := 60) hx hb dX12_wordHere_55 (by decide) (fun c97 => ?_) (fun c97 => ?_)
          · have q98 : x88.toInt = 0 := ti_eq c97
            have h99 : iv 0 0 x88 := ⟨by have := (h_x88).1; have := ((iv_c (c := 0) (n := 0) (by decide))).1; omega, by have := (h_x88).2; have := ((iv_c (c := 0) (n := 0) (by decide))).2; omega⟩
            refine lv_aload_n hx hb dX12_wordHere_60 rfl (lv_at hl 0 rfl) ?_
            refine lv_ldc2 hx hb hown (hW _ w_7_107 rfl) dX12_wordHere_61 ?_
            have k100 : M85 a0 1 = tp := ((Fr.kp (k := 1) f82 hk_a0 rfl).trans ((Fr.kp (k := 1) f62 hk_a0 rfl).trans ((Fr.kp (k := 1) f42 hk_a0 rfl).trans ((Fr.kp (k := 1) f22 hk_a0 rfl).trans (Fr.kp (k := 1) f2 hk_a0 rfl))))).trans k_tp
            have q101 : x92.toInt ≤ tp.toInt := by
              have := (h_nx).1; have := (h_nx).2; have := (h_tp).1; have := (h_tp).2; have := (h11).1; have := (h11).2; have := (h39).1; have := (h39).2; have := (h31).1; have := (h31).2; have := (h59).1; have := (h59).2; have := (h51).1; have := (h51).2; have := (h79).1; have := (h79).2; have := (h71).1; have := (h71).2; have := (h19).1; have := (h19).2; have := (h99).1; have := (h99).2; have := (h91).1; have := (h91).2; omega
            refine tw_goi hS (md_runV (As := [.long 6713202]) (rest := []) hx hb hml hown hW hK hT hS.1 (t_X12_isWord l D cy tx base Z K N M85 Ra J84 hS.2.1 a0 hz_a0 hk_a0 (6713202) tb k_tb x92 k90 (iv_mono h91 (by decide) (by decide)) tp k100 (iv_mono h_tp (by decide) (by decide)) q101) s_X12_138 ⟨rfl, rfl, ⟨Nat.le_of_ble_eq_true rfl, Nat.le_of_ble_eq_true rfl⟩, ⟨Nat.le_of_ble_eq_true rfl, Nat.le_of_ble_eq_true rfl⟩⟩ hz_a0 hk_a0 (by decide) rfl rfl hl.1 rfl (Nat.le_of_ble_eq_true rfl) dX12_wordHere_64) rfl rfl (fun x108 H locs M105 R106 J104 hS f102 g103 E107 => ?_)
            have eR106 := Fr.nil g103 rfl
            subst eR106
            obtain ⟨h_x108, p109⟩ := E107
            obtain ⟨x112, k110, h111, q113, z114, z115⟩ := p109
            have k110 : M105 a0 13 = x112 := k110
            have z116 : ¬ x108 = 0 → chF 97 122 Ma tb x112 tp := fun h => chF.rf (chF.fr (z115 h) f102 hk_tb rfl) hS.2.2.1 hk_tb rfl
            refine lv_if_eq (tgt := 72) hx hb dX12_wordHere_67 (by decide) (fun c117 => ?_) (fun c117 => ?_)
            · have q118 : x108.toInt = 0 := ti_eq c117
              have h119 : iv 0 0 x108 := ⟨by have := (h_x108).1; have := ((iv_c (c := 0) (n := 0) (by decide))).1; omega, by have := (h_x108).2; have := ((iv_c (c := 0) (n := 0) (by decide))).2; omega⟩
              refine lv_aload_n hx hb dX12_wordHere_72 rfl (lv_at hl 0 rfl) ?_
              refine lv_ldc2 hx hb hown (hW _ w_7_108 rfl) dX12_wordHere_73 ?_
              have k120 : M105 a0 1 = tp := ((Fr.kp (k := 1) f102 hk_a0 rfl).trans ((Fr.kp (k := 1) f82 hk_a0 rfl).trans ((Fr.kp (k := 1) f62 hk_a0 rfl).trans ((Fr.kp (k := 1) f42 hk_a0 rfl).trans ((Fr.kp (k := 1) f22 hk_a0 rfl).trans (Fr.kp (k := 1) f2 hk_a0 rfl)))))).trans k_tp
              have q121 : x112.toInt ≤ tp.toInt := by
                have := (h_nx).1; have := (h_nx).2; have := (h_tp).1; have := (h_tp).2; have := (h119).1; have := (h119).2; have := (h111).1; have := (h111).2; have := (h11).1; have := (h11).2; have := (h39).1; have := (h39).2; have := (h31).1; have := (h31).2; have := (h59).1; have := (h59).2; have := (h51).1; have := (h51).2; have := (h79).1; have := (h79).2; have := (h71).1; have := (h71).2; have := (h19).1; have := (h19).2; have := (h99).1; have := (h99).2; have := (h91).1; have := (h91).2; omega
              refine tw_goi hS (md_runV (As := [.long 27416740819268468]) (rest := []) hx hb hml hown hW hK hT hS.1 (t_X12_isWord l D cy tx base Z K N M105 Ra J104 hS.2.1 a0 hz_a0 hk_a0 (27416740819268468) tb k_tb x112 k110 (iv_mono h111 (by decide) (by decide)) tp k120 (iv_mono h_tp (by decide) (by decide)) q121) s_X12_138 ⟨rfl, rfl, ⟨Nat.le_of_ble_eq_true rfl, Nat.le_of_ble_eq_true rfl⟩, ⟨Nat.le_of_ble_eq_true rfl, Nat.le_of_ble_eq_true rfl⟩⟩ hz_a0 hk_a0 (by decide) rfl rfl hl.1 rfl (Nat.le_of_ble_eq_true rfl) dX12_wordHere_76) rfl rfl (fun x128 H locs M125 R126 J124 hS f122 g123 E127 => ?_)
              have eR126 := Fr.nil g123 rfl
              subst eR126
              obtain ⟨h_x128, p129⟩ := E127
              obtain ⟨x132, k130, h131, q133, z134, z135⟩ := p129
              have k130 : M125 a0 13 = x132 := k130
              have z136 : ¬ x128 = 0 → chF 97 122 Ma tb x132 tp := fun h => chF.rf (chF.fr (z135 h) f122 hk_tb rfl) hS.2.2.1 hk_tb rfl
              refine lv_if_eq (tgt := 85) hx hb dX12_wordHere_79 (by decide) (fun c137 => ?_) (fun c137 => ?_)
              · have q138 : x128.toInt = 0 := ti_eq c137
                have h139 : iv 0 0 x128 := ⟨by have := (h_x128).1; have := ((iv_c (c := 0) (n := 0) (by decide))).1; omega, by have := (h_x128).2; have := ((iv_c (c := 0) (n := 0) (by decide))).2; omega⟩
                refine lv_aload_n hx hb dX12_wordHere_85 rfl (lv_at hl 0 rfl) ?_
                refine lv_ldc2 hx hb hown (hW _ w_7_109 rfl) dX12_wordHere_86 ?_
                have k140 : M125 a0 1 = tp := ((Fr.kp (k := 1) f122 hk_a0 rfl).trans ((Fr.kp (k := 1) f102 hk_a0 rfl).trans ((Fr.kp (k := 1) f82 hk_a0 rfl).trans ((Fr.kp (k := 1) f62 hk_a0 rfl).trans ((Fr.kp (k := 1) f42 hk_a0 rfl).trans ((Fr.kp (k := 1) f22 hk_a0 rfl).trans (Fr.kp (k := 1) f2 hk_a0 rfl))))))).trans k_tp
                have q141 : x132.toInt ≤ tp.toInt := by
                  have := (h_nx).1; have := (h_nx).2; have := (h_tp).1; have := (h_tp).2; have := (h119).1; have := (h119).2; have := (h111).1; have := (h111).2; have := (h11).1; have := (h11).2; have := (h139).1; have := (h139).2; have := (h131).1; have := (h131).2; have := (h39).1; have := (h39).2; have := (h31).1; have := (h31).2; have := (h59).1; have := (h59).2; have := (h51).1; have := (h51).2; have := (h79).1; have := (h79).2; have := (h71).1; have := (h71).2; have := (h19).1; have := (h19).2; have := (h99).1; have := (h99).2; have := (h91).1; have := (h91).2; omega
                refine tw_goi hS (md_runV (As := [.long 1836020596]) (rest := []) hx hb hml hown hW hK hT hS.1 (t_X12_isWord l D cy tx base Z K N M125 Ra J124 hS.2.1 a0 hz_a0 hk_a0 (1836020596) tb k_tb x132 k130 (iv_mono h131 (by decide) (by decide)) tp k140 (iv_mono h_tp (by decide) (by decide)) q141) s_X12_138 ⟨rfl, rfl, ⟨Nat.le_of_ble_eq_true rfl, Nat.le_of_ble_eq_true rfl⟩, ⟨Nat.le_of_ble_eq_true rfl, Nat.le_of_ble_eq_true rfl⟩⟩ hz_a0 hk_a0 (by decide) rfl rfl hl.1 rfl (Nat.le_of_ble_eq_true rfl) dX12_wordHere_89) rfl rfl (fun x148 H locs M145 R146 J144 hS f142 g143 E147 => ?_)
                have eR146 := Fr.nil g143 rfl
                subst eR146
                obtain ⟨h_x148, p149⟩ := E147
                obtain ⟨x152, k150, h151, q153, z154, z155⟩ := p149
                have k150 : M145 a0 13 = x152 := k150
                have z156 : ¬ x148 = 0 → chF 97 122 Ma tb x152 tp := fun h => chF.rf (chF.fr (z155 h) f142 hk_tb rfl) hS.2.2.1 hk_tb rfl
                refine lv_if_eq (tgt := 98) hx hb dX12_wordHere_92 (by decide) (fun c157 => ?_) (fun c157 => ?_)
                · have q158 : x148.toInt = 0 := ti_eq c157
                  have h159 : iv 0 0 x148 := ⟨by have := (h_x148).1; have := ((iv_c (c := 0) (n := 0) (by decide))).1; omega, by have := (h_x148).2; have := ((iv_c (c := 0) (n := 0) (by decide))).2; omega⟩
                  refine lv_aload_n hx hb dX12_wordHere_98 rfl (lv_at hl 0 rfl) ?_
                  refine lv_ldc2 hx hb hown (hW _ w_7_110 rfl) dX12_wordHere_99 ?_
                  have k160 : M145 a0 1 = tp := ((Fr.kp (k := 1) f142 hk_a0 rfl).trans ((Fr.kp (k := 1) f122 hk_a0 rfl).trans ((Fr.kp (k := 1) f102 hk_a0 rfl).trans ((Fr.kp (k := 1) f82 hk_a0 rfl).trans ((Fr.kp (k := 1) f62 hk_a0 rfl).trans ((Fr.kp (k := 1) f42 hk_a0 rfl).trans ((Fr.kp (k := 1) f22 hk_a0 rfl).trans (Fr.kp (k := 1) f2 hk_a0 rfl)))))))).trans k_tp
                  have q161 : x152.toInt ≤ tp.toInt := by
                    have := (h_nx).1; have := (h_nx).2; have := (h_tp).1; have := (h_tp).2; have := (h119).1; have := (h119).2; have := (h111).1; have := (h111).2; have := (h11).1; have := (h11).2; have := (h139).1; have := (h139).2; have := (h131).1; have := (h131).2; have := (h159).1; have := (h159).2; have := (h151).1; have := (h151).2; have := (h39).1; have := (h39).2; have := (h31).1; have := (h31).2; have := (h59).1; have := (h59).2; have := (h51).1; have := (h51).2; have := (h79).1; have := (h79).2; have := (h71).1; have := (h71).2; have := (h19).1; have := (h19).2; have := (h99).1; have := (h99).2; have := (h91).1; have := (h91).2; omega
                  refine tw_goi hS (md_runV (As := [.long 1818584692]) (rest := []) hx hb hml hown hW hK hT hS.1 (t_X12_isWord l D cy tx base Z K N M145 Ra J144 hS.2.1 a0 hz_a0 hk_a0 (1818584692) tb k_tb x152 k150 (iv_mono h151 (by decide) (by decide)) tp k160 (iv_mono h_tp (by decide) (by decide)) q161) s_X12_138 ⟨rfl, rfl, ⟨Nat.le_of_ble_eq_true rfl, Nat.le_of_ble_eq_true rfl⟩, ⟨Nat.le_of_ble_eq_true rfl, Nat.le_of_ble_eq_true rfl⟩⟩ hz_a0 hk_a0 (by decide) rfl rfl hl.1 rfl (Nat.le_of_ble_eq_true rfl) dX12_wordHere_102) rfl rfl (fun x168 H locs M165 R166 J164 hS f162 g163 E167 => ?_)
                  have eR166 := Fr.nil g163 rfl
                  subst eR166
                  obtain ⟨h_x168, p169⟩ := E167
                  obtain ⟨x172, k170, h171, q173, z174, z175⟩ := p169
                  have k170 : M165 a0 13 = x172 := k170
                  have z176 : ¬ x168 = 0 → chF 97 122 Ma tb x172 tp := fun h => chF.rf (chF.fr (z175 h) f162 hk_tb rfl) hS.2.2.1 hk_tb rfl
                  refine lv_if_eq (tgt := 113) hx hb dX12_wordHere_105 (by decide) (fun c177 => ?_) (fun c177 => ?_)
                  · have q178 : x168.toInt = 0 := ti_eq c177
                    have h179 : iv 0 0 x168 := ⟨by have := (h_x168).1; have := ((iv_c (c := 0) (n := 0) (by decide))).1; omega, by have := (h_x168).2; have := ((iv_c (c := 0) (n := 0) (by decide))).2; omega⟩
                    refine lv_aload_n hx hb dX12_wordHere_113 rfl (lv_at hl 0 rfl) ?_
                    refine lv_ldc2 hx hb hown (hW _ w_7_111 rfl) dX12_wordHere_114 ?_
                    have k180 : M165 a0 1 = tp := ((Fr.kp (k := 1) f162 hk_a0 rfl).trans ((Fr.kp (k := 1) f142 hk_a0 rfl).trans ((Fr.kp (k := 1) f122 hk_a0 rfl).trans ((Fr.kp (k := 1) f102 hk_a0 rfl).trans ((Fr.kp (k := 1) f82 hk_a0 rfl).trans ((Fr.kp (k := 1) f62 hk_a0 rfl).trans ((Fr.kp (k := 1) f42 hk_a0 rfl).trans ((Fr.kp (k := 1) f22 hk_a0 rfl).trans (Fr.kp (k := 1) f2 hk_a0 rfl))))))))).trans k_tp
                    have q181 : x172.toInt ≤ tp.toInt := by
                      have := (h_nx).1; have := (h_nx).2; have := (h_tp).1; have := (h_tp).2; have := (h119).1; have := (h119).2; have := (h111).1; have := (h111).2; have := (h11).1; have := (h11).2; have := (h139).1; have := (h139).2; have := (h131).1; have := (h131).2; have := (h159).1; have := (h159).2; have := (h151).1; have := (h151).2; have := (h179).1; have := (h179).2; have := (h171).1; have := (h171).2; have := (h39).1; have := (h39).2; have := (h31).1; have := (h31).2; have := (h59).1; have := (h59).2; have := (h51).1; have := (h51).2; have := (h79).1; have := (h79).2; have := (h71).1; have := (h71).2; have := (h19).1; have := (h19).2; have := (h99).1; have := (h99).2; have := (h91).1; have := (h91).2; omega
                    refine tw_goi hS (md_runV (As := [.long 1953854062]) (rest := []) hx hb hml hown hW hK hT hS.1 (t_X12_isWord l D cy tx base Z K N M165 Ra J164 hS.2.1 a0 hz_a0 hk_a0 (1953854062) tb k_tb x172 k170 (iv_mono h171 (by decide) (by decide)) tp k180 (iv_mono h_tp (by decide) (by decide)) q181) s_X12_138 ⟨rfl, rfl, ⟨Nat.le_of_ble_eq_true rfl, Nat.le_of_ble_eq_true rfl⟩, ⟨Nat.le_of_ble_eq_true rfl, Nat.le_of_ble_eq_true rfl⟩⟩ hz_a0 hk_a0 (by decide) rfl rfl hl.1 rfl (Nat.le_of_ble_eq_true rfl) dX12_wordHere_117) rfl rfl (fun x188 H locs M185 R186 J184 hS f182 g183 E187 => ?_)
                    have eR186 := Fr.nil g183 rfl
                    subst eR186
                    obtain ⟨h_x188, p189⟩ := E187
                    obtain ⟨x192, k190, h191, q193, z194, z195⟩ := p189
                    have k190 : M185 a0 13 = x192 := k190
                    have z196 : ¬ x188 = 0 → chF 97 122 Ma tb x192 tp := fun h => chF.rf (chF.fr (z195 h) f182 hk_tb rfl) hS.2.2.1 hk_tb rfl
                    refine lv_if_eq (tgt := 128) hx hb dX12_wordHere_120 (by decide) (fun c197 => ?_) (fun c197 => ?_)
                    · have q198 : x188.toInt = 0 := ti_eq c197
                      have h199 : iv 0 0 x188 := ⟨by have := (h_x188).1; have := ((iv_c (c := 0) (n := 0) (by decide))).1; omega, by have := (h_x188).2; have := ((iv_c (c := 0) (n := 0) (by decide))).2; omega⟩
                      refine lv_iconst (v := (-1)) hx hb dX12_wordHere_128 (by decide) ?_
                      have q200 : nx.toInt ≤ x192.toInt ∧ x192.toInt ≤ tp.toInt := by
                        have := (h_nx).1; have := (h_nx).2; have := (h_tp).1; have := (h_tp).2; have := (h119).1; have := (h119).2; have := (h111).1; have := (h111).2; have := (h11).1; have := (h11).2; have := (h139).1; have := (h139).2; have := (h131).1; have := (h131).2; have := (h159).1; have := (h159).2; have := (h151).1; have := (h151).2; have := (h179).1; have := (h179).2; have := (h171).1; have := (h171).2; have := (h199).1; have := (h199).2; have := (h191).1; have := (h191).2; have := (h39).1; have := (h39).2; have := (h31).1; have := (h31).2; have := (h59).1; have := (h59).2; have := (h51).1; have := (h51).2; have := (h79).1; have := (h79).2; have := (h71).1; have := (h71).2; have := (h19).1; have := (h19).2; have := (h99).1; have := (h99).2; have := (h91).1; have := (h91).2; omega
                      exact tw_endi hx hb hr hlocks hK hT hS hQ (⟨(iv_mono (iv_c (c := (-1)) (n := (-1)) (by decide)) (by decide) (by decide)), ⟨x192, k190, h191, q200, Or.inl (by decide)⟩⟩) dX12_wordHere_129
                    · have q201 : ¬ x188.toInt = 0 := ti_ne c197
                      have h202 : iv 1 1 x188 := ⟨by have := (h_x188).1; have := ((iv_c (c := 0) (n := 0) (by decide))).1; have := ((iv_c (c := 0) (n := 0) (by decide))).2; omega, by have := (h_x188).2; have := ((iv_c (c := 0) (n := 0) (by decide))).1; have := ((iv_c (c := 0) (n := 0) (by decide))).2; omega⟩
                      have z203 := z196 c197
                      have q204 := z203.1
                      refine lv_bipush (v := 9) hx hb dX12_wordHere_123 (by decide) ?_
                      refine lv_goto (tgt := 129) hx hb dX12_wordHere_125 (by decide) ?_
                      have q205 : nx.toInt ≤ x192.toInt ∧ x192.toInt ≤ tp.toInt := by
                        have := (h_nx).1; have := (h_nx).2; have := (h_tp).1; have := (h_tp).2; have := (h119).1; have := (h119).2; have := (h111).1; have := (h111).2; have := (h11).1; have := (h11).2; have := (h139).1; have := (h139).2; have := (h131).1; have := (h131).2; have := (h159).1; have := (h159).2; have := (h151).1; have := (h151).2; have := (h179).1; have := (h179).2; have := (h171).1; have := (h171).2; have := (h202).1; have := (h202).2; have := (h191).1; have := (h191).2; have := (h39).1; have := (h39).2; have := (h31).1; have := (h31).2; have := (h59).1; have := (h59).2; have := (h51).1; have := (h51).2; have := (h79).1; have := (h79).2; have := (h71).1; have := (h71).2; have := (h19).1; have := (h19).2; have := (h99).1; have := (h99).2; have := (h91).1; have := (h91).2; omega
                      exact tw_endi hx hb hr hlocks hK hT hS hQ (⟨(iv_mono (iv_c (c := 9) (n := 9) (by decide)) (by decide) (by decide)), ⟨x192, k190, h191, q205, Or.inr z203⟩⟩) dX12_wordHere_129
                  · have q206 : ¬ x168.toInt = 0 := ti_ne c177
                    have h207 : iv 1 1 x168 := ⟨by have := (h_x168).1; have := ((iv_c (c := 0) (n := 0) (by decide))).1; have := ((iv_c (c := 0) (n := 0) (by decide))).2; omega, by have := (h_x168).2; have := ((iv_c (c := 0) (n := 0) (by decide))).1; have := ((iv_c (c := 0) (n := 0) (by decide))).2; omega⟩
                    have z208 := z176 c177
                    have q209 := z208.1
                    refine lv_bipush (v := 8) hx hb dX12_wordHere_108 (by decide) ?_
                    refine lv_goto (tgt := 129) hx hb dX12_wordHere_110 (by decide) ?_
                    have q210 : nx.toInt ≤ x172.toInt ∧ x172.toInt ≤ tp.toInt := by
                      have := (h_nx).1; have := (h_nx).2; have := (h_tp).1; have := (h_tp).2; have := (h119).1; have := (h119).2; have := (h111).1; have := (h111).2; have := (h11).1; have := (h11).2; have := (h139).1; have := (h139).2; have := (h131).1; have := (h131).2; have := (h159).1; have := (h159).2; have := (h151).1; have := (h151).2; have := (h207).1; have := (h207).2; have := (h171).1; have := (h171).2; have := (h39).1; have := (h39).2; have := (h31).1; have := (h31).2; have := (h59).1; have := (h59).2; have := (h51).1; have := (h51).2; have := (h79).1; have := (h79).2; have := (h71).1; have := (h71).2; have := (h19).1; have := (h19).2; have := (h99).1; have := (h99).2; have := (h91).1; have := (h91).2; omega
                    exact tw_endi hx hb hr hlocks hK hT hS hQ (⟨(iv_mono (iv_c (c := 8) (n := 8) (by decide)) (by decide) (by decide)), ⟨x172, k170, h171, q210, Or.inr z208⟩⟩) dX12_wordHere_129
                · have q211 : ¬ x148.toInt = 0 := ti_ne c157
                  have h212 : iv 1 1 x148 := ⟨by have := (h_x148).1; have := ((iv_c (c := 0) (n := 0) (by decide))).1; have := ((iv_c (c := 0) (n := 0) (by decide))).2; omega, by have := (h_x148).2; have := ((iv_c (c := 0) (n := 0) (by decide))).1; have := ((iv_c (c := 0) (n := 0) (by decide))).2; omega⟩
                  have z213 := z156 c157
                  have q214 := z213.1
                  refine lv_bipush (v := 7) hx hb dX12_wordHere_95 (by decide) ?_
                  have q215 : nx.toInt ≤ x152.toInt ∧ x152.toInt ≤ tp.toInt := by
                    have := (h_nx).1; have := (h_nx).2; have := (h_tp).1; have := (h_tp).2; have := (h119).1; have := (h119).2; have := (h111).1; have := (h111).2; have := (h11).1; have := (h11).2; have := (h139).1; have := (h139).2; have := (h131).1; have := (h131).2; have := (h212).1; have := (h212).2; have := (h151).1; have := (h151).2; have := (h39).1; have := (h39).2; have := (h31).1; have := (h31).2; have := (h59).1; have := (h59).2; have := (h51).1; have := (h51).2; have := (h79).1; have := (h79).2; have := (h71).1; have := (h71).2; have := (h19).1; have := (h19).2; have := (h99).1; have := (h99).2; have := (h91).1; have := (h91).2; omega
                  exact tw_endi hx hb hr hlocks hK hT hS hQ (⟨(iv_mono (iv_c (c := 7) (n := 7) (by decide)) (by decide) (by decide)), ⟨x152, k150, h151, q215, Or.inr z213⟩⟩) dX12_wordHere_97
              · have q216 : ¬ x128.toInt = 0 := ti_ne c137
                have h217 : iv 1 1 x128 := ⟨by have := (h_x128).1; have := ((iv_c (c := 0) (n := 0) (by decide))).1; have := ((iv_c (c := 0) (n := 0) (by decide))).2; omega, by have := (h_x128).2; have := ((iv_c (c := 0) (n := 0) (by decide))).1; have := ((iv_c (c := 0) (n := 0) (by decide))).2; omega⟩
                have z218 := z136 c137
                have q219 := z218.1
                refine lv_bipush (v := 6) hx hb dX12_wordHere_82 (by decide) ?_
                have q220 : nx.toInt ≤ x132.toInt ∧ x132.toInt ≤ tp.toInt := by
                  have := (h_nx).1; have := (h_nx).2; have := (h_tp).1; have := (h_tp).2; have := (h119).1; have := (h119).2; have := (h111).1; have := (h111).2; have := (h11).1; have := (h11).2; have := (h217).1; have := (h217).2; have := (h131).1; have := (h131).2; have := (h39).1; have := (h39).2; have := (h31).1; have := (h31).2; have := (h59).1; have := (h59).2; have := (h51).1; have := (h51).2; have := (h79).1; have := (h79).2; have := (h71).1; have := (h71).2; have := (h19).1; have := (h19).2; have := (h99).1; have := (h99).2; have := (h91).1; have := (h91).2; omega
                exact tw_endi hx hb hr hlocks hK hT hS hQ (⟨(iv_mono (iv_c (c := 6) (n := 6) (by decide)) (by decide) (by decide)), ⟨x132, k130, h131, q220, Or.inr z218⟩⟩) dX12_wordHere_84
            · have q221 : ¬ x108.toInt = 0 := ti_ne c117
              have h222 : iv 1 1 x108 := ⟨by have := (h_x108).1; have := ((iv_c (c := 0) (n := 0) (by decide))).1; have := ((iv_c (c := 0) (n := 0) (by decide))).2; omega, by have := (h_x108).2; have := ((iv_c (c := 0) (n := 0) (by decide))).1; have := ((iv_c (c := 0) (n := 0) (by decide))).2; omega⟩
              have z223 := z116 c117
              have q224 := z223.1
              refine lv_iconst (v := 5) hx hb dX12_wordHere_70 (by decide) ?_
              have q225 : nx.toInt ≤ x112.toInt ∧ x112.toInt ≤ tp.toInt := by
                have := (h_nx).1; have := (h_nx).2; have := (h_tp).1; have := (h_tp).2; have := (h222).1; have := (h222).2; have := (h111).1; have := (h111).2; have := (h11).1; have := (h11).2; have := (h39).1; have := (h39).2; have := (h31).1; have := (h31).2; have := (h59).1; have := (h59).2; have := (h51).1; have := (h51).2; have := (h79).1; have := (h79).2; have := (h71).1; have := (h71).2; have := (h19).1; have := (h19).2; have := (h99).1; have := (h99).2; have := (h91).1; have := (h91).2; omega
              exact tw_endi hx hb hr hlocks hK hT hS hQ (⟨(iv_mono (iv_c (c := 5) (n := 5) (by decide)) (by decide) (by decide)), ⟨x112, k110, h111, q225, Or.inr z223⟩⟩) dX12_wordHere_71
          · have q226 : ¬ x88.toInt = 0 := ti_ne c97
            have h227 : iv 1 1 x88 := ⟨by have := (h_x88).1; have := ((iv_c (c := 0) (n := 0) (by decide))).1; have := ((iv_c (c := 0) (n := 0) (by decide))).2; omega, by have := (h_x88).2; have := ((iv_c (c := 0) (n := 0) (by decide))).1; have := ((iv_c (c := 0) (n := 0) (by decide))).2; omega⟩
            have z228 := z96 c97
            have q229 := z228.1
            refine lv_iconst (v := 4) hx hb dX12_wordHere_58 (by decide) ?_
            have q230 : nx.toInt ≤ x92.toInt ∧ x92.toInt ≤ tp.toInt := by
              have := (h_nx).1; have := (h_nx).2; have := (h_tp).1; have := (h_tp).2; have := (h11).1; have := (h11).2; have := (h39).1; have := (h39).2; have := (h31).1; have := (h31).2; have := (h59).1; have := (h59).2; have := (h51).1; have := (h51).2; have := (h79).1; have := (h79).2; have := (h71).1; have := (h71).2; have := (h19).1; have := (h19).2; have := (h227).1; have := (h227).2; have := (h91).1; have := (h91).2; omega
            exact tw_endi hx hb hr hlocks hK hT hS hQ (⟨(iv_mono (iv_c (c := 4) (n := 4) (by decide)) (by decide) (by decide)), ⟨x92, k90, h91, q230, Or.inr z228⟩⟩) dX12_wordHere_59
        · have q231 : ¬ x68.toInt = 0 := ti_ne c77
          have h232 : iv 1 1 x68 := ⟨by have := (h_x68).1; have := ((iv_c (c := 0) (n := 0) (by decide))).1; have := ((iv_c (c := 0) (n := 0) (by decide))).2; omega, by have := (h_x68).2; have := ((iv_c (c := 0) (n := 0) (by decide))).1; have := ((iv_c (c := 0) (n := 0) (by decide))).2; omega⟩
          have z233 := z76 c77
          have q234 := z233.1
          refine lv_iconst (v := 3) hx hb dX12_wordHere_46 (by decide) ?_
          have q235 : nx.toInt ≤ x72.toInt ∧ x72.toInt ≤ tp.toInt := by
            have := (h_nx).1; have := (h_nx).2; have := (h_tp).1; have := (h_tp).2; have := (h11).1; have := (h11).2; have := (h39).1; have := (h39).2; have := (h31).1; have := (h31).2; have := (h59).1; have := (h59).2; have := (h51).1; have := (h51).2; have := (h232).1; have := (h232).2; have := (h71).1; have := (h71).2; have := (h19).1; have := (h19).2; omega
          exact tw_endi hx hb hr hlocks hK hT hS hQ (⟨(iv_mono (iv_c (c := 3) (n := 3) (by decide)) (by decide) (by decide)), ⟨x72, k70, h71, q235, Or.inr z233⟩⟩) dX12_wordHere_47
      · have q236 : ¬ x48.toInt = 0 := ti_ne c57
        have h237 : iv 1 1 x48 := ⟨by have := (h_x48).1; have := ((iv_c (c := 0) (n := 0) (by decide))).1; have := ((iv_c (c := 0) (n := 0) (by decide))).2; omega, by have := (h_x48).2; have := ((iv_c (c := 0) (n := 0) (by decide))).1; have := ((iv_c (c := 0) (n := 0) (by decide))).2; omega⟩
        have z238 := z56 c57
        have q239 := z238.1
        refine lv_iconst (v := 2) hx hb dX12_wordHere_34 (by decide) ?_
        have q240 : nx.toInt ≤ x52.toInt ∧ x52.toInt ≤ tp.toInt := by
          have := (h_nx).1; have := (h_nx).2; have := (h_tp).1; have := (h_tp).2; have := (h11).1; have := (h11).2; have := (h39).1; have := (h39).2; have := (h31).1; have := (h31).2; have := (h237).1; have := (h237).2; have := (h51).1; have := (h51).2; have := (h19).1; have := (h19).2; omega
        exact tw_endi hx hb hr hlocks hK hT hS hQ (⟨(iv_mono (iv_c (c := 2) (n := 2) (by decide)) (by decide) (by decide)), ⟨x52, k50, h51, q240, Or.inr z238⟩⟩) dX12_wordHere_35
    · have q241 : ¬ x28.toInt = 0 := ti_ne c37
      have h242 : iv 1 1 x28 := ⟨by have := (h_x28).1; have := ((iv_c (c := 0) (n := 0) (by decide))).1; have := ((iv_c (c := 0) (n := 0) (by decide))).2; omega, by have := (h_x28).2; have := ((iv_c (c := 0) (n := 0) (by decide))).1; have := ((iv_c (c := 0) (n := 0) (by decide))).2; omega⟩
      have z243 := z36 c37
      have q244 := z243.1
      refine lv_iconst (v := 1) hx hb dX12_wordHere_22 (by decide) ?_
      have q245 : nx.toInt ≤ x32.toInt ∧ x32.toInt ≤ tp.toInt := by
        have := (h_nx).1; have := (h_nx).2; have := (h_tp).1; have := (h_tp).2; have := (h11).1; have := (h11).2; have := (h242).1; have := (h242).2; have := (h31).1; have := (h31).2; have := (h19).1; have := (h19).2; omega
      exact tw_endi hx hb hr hlocks hK hT hS hQ (⟨(iv_mono (iv_c (c := 1) (n := 1) (by decide)) (by decide) (by decide)), ⟨x32, k30, h31, q245, Or.inr z243⟩⟩) dX12_wordHere_23
  · have q246 : ¬ x8.toInt = 0 := ti_ne c17
    have h247 : iv 1 1 x8 := ⟨by have := (h_x8).1; have := ((iv_c (c := 0) (n := 0) (by decide))).1; have := ((iv_c (c := 0) (n := 0) (by decide))).2; omega, by have := (h_x8).2; have := ((iv_c (c := 0) (n := 0) (by decide))).1; have := ((iv_c (c := 0) (n := 0) (by decide))).2; omega⟩
    have z248 := z16 c17
    have q249 := z248.1
    refine lv_iconst (v := 0) hx hb dX12_wordHere_10 (by decide) ?_
    have q250 : nx.toInt ≤ x12.toInt ∧ x12.toInt ≤ tp.toInt := by
      have := (h_nx).1; have := (h_nx).2; have := (h_tp).1; have := (h_tp).2; have := (h11).1; have := (h11).2; have := (h247).1; have := (h247).2; omega
    exact tw_endi hx hb hr hlocks hK hT hS hQ (⟨(iv_mono (iv_c (c := 0) (n := 0) (by decide)) (by decide) (by decide)), ⟨x12, k10, h11, q250, Or.inr z248⟩⟩) dX12_wordHere_11
def Lt_X12_value : WL := [(12, 13, 16), (12, 17, 18), (25, 0, 2000000), (26, 0, 2000000)]
def LRt_X12_value : WL := []
set_option maxRecDepth 100000 in
set_option maxHeartbeats 4000000 in
theorem t_X12_value (l : Launch) (D : va_G) (cy : Nat → ClassId) (tx : (Nat → Nat) × (Nat → Nat)) (base Z : Nat) (K N : Nat → Nat) (Ma : MT) (Ra : RT) (Ja : JT) (hTy : Ty Z K N Ma Ra) (a0 : Nat) (hz_a0 : a0 < Z) (hk_a0 : K a0 = 12) (tb : Nat) (k_tb : Ra a0 0 = some tb) (nx : Int32) (k_nx : Ma a0 13 = nx) (h_nx : iv 0 400 nx) (tp : Int32) (k_tp : Ma a0 1 = tp) (h_tp : iv 0 400 tp) (hnt : nx.toInt ≤ tp.toInt) (lg : Nat) (k_lg : Ra a0 4 = some lg) (sg : Nat) (k_sg : Ra a0 3 = some sg) (tx : Int32) (k_tx : Ma a0 16 = tx) (h_tx : iv 0 5 tx) (le : Int32) (k_le : Ma lg tx.toNatClampNeg = le) (h_le : iv 0 400 le) (md : Int32) (k_md : Ma a0 17 = md) (h_md : iv 0 60 md) (sb : Nat) (sh : Nat) (hseg : SEG Ma sg tx.toNatClampNeg sb le.toNatClampNeg sh) (hsb : (sb : Int) ≤ le.toInt) (hsh : (sh : Int) ≤ md.toInt) (hle : le.toInt ≤ nx.toInt) : Met l yX12_value [Cond.code yX12_value cX12_value 3 (some .boolean)] (md_rm 4 0 0) (va_Pc [.ref (base + a0)] (md_U D cy tx base Z K N Ma Ra Ja)) (mQi D cy tx base (fun r u => TP Z K N Lt_X12_value LRt_X12_value Ma Ra u ∧ (iv 0 1 r ∧ ((∀ j, j < 400 * tx.toNatClampNeg + le.toNatClampNeg → u.2.2.2.1 sg j = Ma sg j) ∧ (∃ x0 : Int32, u.2.2.2.1 a0 13 = x0 ∧ iv 0 400 x0 ∧ nx.toInt ≤ x0.toInt ∧ x0.toInt ≤ tp.toInt) ∧ (¬ r = 0 → ∃ x0 x1 x2 : Int32, u.2.2.2.1 a0 13 = x0 ∧ u.2.2.2.1 lg tx.toNatClampNeg = x1 ∧ u.2.2.2.1 a0 17 = x2 ∧ iv 0 400 x1 ∧ le.toInt ≤ x1.toInt ∧ x1.toInt - le.toInt ≤ x0.toInt - nx.toInt ∧ ((sh + 1 : Nat) : Int) ≤ x2.toInt ∧ SEG u.2.2.2.1 sg tx.toNatClampNeg sb x1.toNatClampNeg (sh + 1)))))) 0 0 (fun q => base ≤ q) := by
  refine tw_ofW (L := Lt_X12_value) (LR := LRt_X12_value) (by decide) (Nat.le_of_ble_eq_true rfl) hTy ?_
  intro p e s m args below meth c Q ls hx hb hr hlocks hown hml hW hK hT hS hQ hl
  have hl : lv_has ls 3 [(0, .ref (base + a0))] := hl
  obtain ⟨hz_tb, hk_tb, hn_tb⟩ := hTy.refn hz_a0 hk_a0 (show rtR 12 0 = (13, 400, 0) from rfl) k_tb
  have hn_tb := hn_tb (by decide)
  obtain ⟨hz_lg, hk_lg, hn_lg⟩ := hTy.refn hz_a0 hk_a0 (show rtR 12 4 = (26, 7, 0) from rfl) k_lg
  have hn_lg := hn_lg (by decide)
  obtain ⟨hz_sg, hk_sg, hn_sg⟩ := hTy.refn hz_a0 hk_a0 (show rtR 12 3 = (25, 2400, 0) from rfl) k_sg
  have hn_sg := hn_sg (by decide)
  refine lv_aload_n hx hb dX12_value_0 rfl (lv_at hl 0 rfl) ?_
  have q1 : nx.toInt ≤ tp.toInt := by
    have := (h_le).1; have := (h_le).2; have := (h_md).1; have := (h_md).2; have := (h_nx).1; have := (h_nx).2; have := (h_tp).1; have := (h_tp).2; have := (h_tx).1; have := (h_tx).2; omega
  refine tw_goi hS (md_runV (As := []) (rest := []) hx hb hml hown hW hK hT hS.1 (t_X12_see l D cy tx base Z K N Ma Ra Ja hS.2.1 a0 hz_a0 hk_a0 tb k_tb nx k_nx (iv_mono h_nx (by decide) (by decide)) tp k_tp (iv_mono h_tp (by decide) (by decide)) q1) s_X12_130 ⟨rfl, rfl, ⟨Nat.le_of_ble_eq_true rfl, Nat.le_of_ble_eq_true rfl⟩, ⟨Nat.le_of_ble_eq_true rfl, Nat.le_of_ble_eq_true rfl⟩⟩ hz_a0 hk_a0 (by decide) rfl rfl hl.1 rfl (Nat.le_of_ble_eq_true rfl) dX12_value_1) rfl rfl (fun x8 H locs M5 R6 J4 hS f2 g3 E7 => ?_)
  have eR6 := Fr.nil g3 rfl
  subst eR6
  obtain ⟨h_x8, p9⟩ := E7
  obtain ⟨x12, k10, h11, q13, z14⟩ := p9
  have k10 : M5 a0 13 = x12 := k10
  refine lv_pop hx hb dX12_value_4 rfl ?_
  refine lv_aload_n hx hb dX12_value_5 rfl (lv_at hl 0 rfl) ?_
  refine tw_getk hx hb hW hown hK hS f_X12_127_11 hz_a0 hk_a0 (v := x12) k10 dX12_value_6 ?_
  refine lv_istore_n (lv' := [(1, .int x12), (0, .ref (base + a0))]) hx hb dX12_value_9 rfl hl (by decide) rfl (fun ls hl => ?_)
  refine lv_aload_n hx hb dX12_value_10 rfl (lv_at hl 1 rfl) ?_
  refine lv_aload_n hx hb dX12_value_11 rfl (lv_at hl 1 rfl) ?_
  refine tw_getk hx hb hW hown hK hS f_X12_127_11 hz_a0 hk_a0 (v := x12) k10 dX12_value_12 ?_
  have k16 : M5 a0 1 = tp := (Fr.kp (k := 1) f2 hk_a0 rfl).trans k_tp
  refine tw_goi hS (md_runV (As := [.int x12]) (rest := []) hx hb hml hown hW hK hT hS.1 (t_X12_isDigit l D cy tx base Z K N M5 Ra J4 hS.2.1 a0 hz_a0 hk_a0 x12 h11 tb k_tb tp k16 (iv_mono h_tp (by decide) (by decide))) s_X12_145 ⟨rfl, rfl, ⟨Nat.le_of_ble_eq_true rfl, Nat.le_of_ble_eq_true rfl⟩, ⟨Nat.le_of_ble_eq_true rfl, Nat.le_of_ble_eq_true rfl⟩⟩ hz_a0 hk_a0 (by decide) rfl rfl hl.1 rfl (Nat.le_of_ble_eq_true rfl) dX12_value_15) rfl rfl (fun x23 H locs M20 R21 J19 hS f17 g18 E22 => ?_)
  have eM20 := Fr.nil f17 rfl
  subst eM20
  have eR21 := Fr.nil g18 rfl
  subst eR21
  obtain ⟨h_x23, p24⟩ := E22
  have z25 : ¬ x23 = 0 → chF 48 57 Ma tb x12 tp := fun h => chF.rf (p24.1 h) hS.2.2.1 hk_tb rfl
  have z26 : x23 = 0 → ¬ chF 48 57 Ma tb x12 tp := fun h q => p24.2 h (chF.fr q hS.2.2.1 hk_tb rfl)
  refine lv_if_eq (tgt := 52) hx hb dX12_value_18 (by decide) (fun c27 => ?_) (fun c27 => ?_)
  · have q28 : x23.toInt = 0 := ti_eq c27
    have z29 := z26 c27
    have h30 : iv 0 0 x23 := ⟨by have := (h_x23).1; have := ((iv_c (c := 0) (n := 0) (by decide))).1; omega, by have := (h_x23).2; have := ((iv_c (c := 0) (n := 0) (by decide))).2; omega⟩
    refine lv_aload_n hx hb dX12_value_52 rfl (lv_at hl 1 rfl) ?_
    have k31 : M5 a0 1 = tp := (Fr.kp (k := 1) f2 hk_a0 rfl).trans k_tp
    have q32 : x12.toInt ≤ tp.toInt := by
      have := (h_le).1; have := (h_le).2; have := (h_md).1; have := (h_md).2; have := (h_nx).1; have := (h_nx).2; have := (h_tp).1; have := (h_tp).2; have := (h_tx).1; have := (h_tx).2; have := (h11).1; have := (h11).2; have := (h_x8).1; have := (h_x8).2; omega
    refine tw_goi hS (md_runV (As := []) (rest := []) hx hb hml hown hW hK hT hS.1 (t_X12_wordHere l D cy tx base Z K N M5 Ra J19 hS.2.1 a0 hz_a0 hk_a0 tb k_tb x12 k10 (iv_mono h11 (by decide) (by decide)) tp k31 (iv_mono h_tp (by decide) (by decide)) q32) s_X12_206 ⟨rfl, rfl, ⟨Nat.le_of_ble_eq_true rfl, Nat.le_of_ble_eq_true rfl⟩, ⟨Nat.le_of_ble_eq_true rfl, Nat.le_of_ble_eq_true rfl⟩⟩ hz_a0 hk_a0 (by decide) rfl rfl hl.1 rfl (Nat.le_of_ble_eq_true rfl) dX12_value_53) rfl rfl (fun x39 H locs M36 R37 J35 hS f33 g34 E38 => ?_)
    have eR37 := Fr.nil g34 rfl
    subst eR37
    obtain ⟨h_x39, p40⟩ := E38
    obtain ⟨x43, k41, h42, q44, z46⟩ := p40
    have k41 : M36 a0 13 = x43 := k41
    have z47 : x39.toInt < 0 ∨ chF 97 122 Ma tb x43 tp := z46.imp id (fun q => chF.rf (chF.fr q f33 hk_tb rfl) hS.2.2.1 hk_tb rfl)
    refine lv_istore_n (lv' := [(2, .int x39), (1, .int x12), (0, .ref (base + a0))]) hx hb dX12_value_56 rfl hl (by decide) rfl (fun ls hl => ?_)
    refine lv_iload_n hx hb dX12_value_57 rfl (lv_at hl 0 rfl) ?_
    refine lv_if_ge (tgt := 68) hx hb dX12_value_58 (by decide) (fun c48 => ?_) (fun c48 => ?_)
    · have q49 : 0 ≤ x39.toInt := ti_le c48
      have h50 : iv 0 9 x39 := iv_geL (y := 0) h_x39 (iv_c (c := 0) (n := 0) (by decide)) q49 (by decide)
      have z51 := z47.resolve_left (by omega)
      have q52 := z51.1
      refine lv_aload_n hx hb dX12_value_68 rfl (lv_at hl 2 rfl) ?_
      refine lv_iload_n hx hb dX12_value_69 rfl (lv_at hl 1 rfl) ?_
      have k53 : M36 a0 17 = md := ((Fr.kp (k := 17) f33 hk_a0 rfl).trans (Fr.kp (k := 17) f2 hk_a0 rfl)).trans k_md
      refine tw_goi hS (md_runV (As := [.int x12]) (rest := []) hx hb hml hown hW hK hT hS.1 (t_X12_makes l D cy tx base Z K N M36 Ra J35 hS.2.1 a0 hz_a0 hk_a0 x12 h11 md k53 (iv_mono h_md (by decide) (by decide))) s_X12_203 ⟨rfl, rfl, ⟨Nat.le_of_ble_eq_true rfl, Nat.le_of_ble_eq_true rfl⟩, ⟨Nat.le_of_ble_eq_true rfl, Nat.le_of_ble_eq_true rfl⟩⟩ hz_a0 hk_a0 (by decide) rfl rfl hl.1 rfl (Nat.le_of_ble_eq_true rfl) dX12_value_70) rfl rfl (fun x60 H locs M57 R58 J56 hS f54 g55 E59 => ?_)
      have eR58 := Fr.nil g55 rfl
      subst eR58
      obtain ⟨h_x60, p61⟩ := E59
      obtain ⟨x63, k64, h62, q65⟩ := p61
      have k64 : M57 a0 17 = x63 := k64
      refine lv_if_ne (tgt := 78) hx hb dX12_value_73 (by decide) (fun c66 => ?_) (fun c66 => ?_)
      · have q67 : ¬ x60.toInt = 0 := ti_ne c66
        have h68 : iv 1 1 x60 := ⟨by have := (h_x60).1; have := ((iv_c (c := 0) (n := 0) (by decide))).1; have := ((iv_c (c := 0) (n := 0) (by decide))).2; omega, by have := (h_x60).2; have := ((iv_c (c := 0) (n := 0) (by decide))).1; have := ((iv_c (c := 0) (n := 0) (by decide))).2; omega⟩
        refine lv_aload_n hx hb dX12_value_78 rfl (lv_at hl 2 rfl) ?_
        have k69 : M57 a0 13 = x43 := (Fr.kp (k := 13) f54 hk_a0 rfl).trans k41
        have k70 : M57 a0 1 = tp := ((Fr.kp (k := 1) f54 hk_a0 rfl).trans ((Fr.kp (k := 1) f33 hk_a0 rfl).trans (Fr.kp (k := 1) f2 hk_a0 rfl))).trans k_tp
        have q71 : x43.toInt ≤ tp.toInt := by
          have := (h_le).1; have := (h_le).2; have := (h_md).1; have := (h_md).2; have := (h_nx).1; have := (h_nx).2; have := (h_tp).1; have := (h_tp).2; have := (h_tx).1; have := (h_tx).2; have := (h11).1; have := (h11).2; have := (h50).1; have := (h50).2; have := (h42).1; have := (h42).2; have := (h_x8).1; have := (h_x8).2; omega
        refine tw_gov hS (md_runV (As := []) (rest := []) hx hb hml hown hW hK hT hS.1 (t_X12_passWord l D cy tx base Z K N M57 Ra J56 hS.2.1 a0 hz_a0 hk_a0 tb k_tb x43 k69 (iv_mono h42 (by decide) (by decide)) tp k70 (iv_mono h_tp (by decide) (by decide)) q71) s_X12_142 ⟨rfl, rfl, ⟨Nat.le_of_ble_eq_true rfl, Nat.le_of_ble_eq_true rfl⟩, ⟨Nat.le_of_ble_eq_true rfl, Nat.le_of_ble_eq_true rfl⟩⟩ hz_a0 hk_a0 (by decide) rfl rfl hl.1 rfl (Nat.le_of_ble_eq_true rfl) dX12_value_79) rfl rfl (fun H locs M75 R76 J74 hS f72 g73 E77 => ?_)
        have eR76 := Fr.nil g73 rfl
        subst eR76
        have p78 := E77
        obtain ⟨x81, k79, h80, q82, z84⟩ := p78
        have k79 : M75 a0 13 = x81 := k79
        have q85 := z84 (chF.rf (chF.fr z51 hS.2.2.1 hk_tb rfl) f72 hk_tb rfl)
        refine lv_aload_n hx hb dX12_value_82 rfl (lv_at hl 2 rfl) ?_
        refine lv_iconst (v := 1) hx hb dX12_value_83 (by decide) ?_
        refine lv_iload_n hx hb dX12_value_84 rfl (lv_at hl 0 rfl) ?_
        have k86 : M75 a0 16 = tx := ((Fr.kp (k := 16) f72 hk_a0 rfl).trans ((Fr.kp (k := 16) f54 hk_a0 rfl).trans ((Fr.kp (k := 16) f33 hk_a0 rfl).trans (Fr.kp (k := 16) f2 hk_a0 rfl)))).trans k_tx
        have k87 : M75 lg tx.toNatClampNeg = le := ((Fr.kpa f72 hk_lg rfl tx.toNatClampNeg).trans ((Fr.kpa f54 hk_lg rfl tx.toNatClampNeg).trans ((Fr.kpa f33 hk_lg rfl tx.toNatClampNeg).trans (Fr.kpa f2 hk_lg rfl tx.toNatClampNeg)))).trans k_le
        have h88 : iv 0 399 le := by
          have := (h_le).1; have := (h_le).2; have := (h_md).1; have := (h_md).2; have := (h_nx).1; have := (h_nx).2; have := (h_tp).1; have := (h_tp).2; have := (h_tx).1; have := (h_tx).2; exact ⟨by omega, by omega⟩
        refine tw_gov hS (md_runV (As := [.int 1, .int x39]) (rest := []) hx hb hml hown hW hK hT hS.1 (t_X12_puts l D cy tx base Z K N M75 Ra J74 hS.2.1 a0 hz_a0 hk_a0 1 (iv_mono (iv_c (c := 1) (n := 1) (by decide)) (by decide) (by decide)) x39 (iv_mono h50 (by decide) (by decide)) sg k_sg lg k_lg tx k86 (iv_mono h_tx (by decide) (by decide)) le k87 h88) s_X12_195 ⟨rfl, rfl, ⟨Nat.le_of_ble_eq_true rfl, Nat.le_of_ble_eq_true rfl⟩, ⟨Nat.le_of_ble_eq_true rfl, Nat.le_of_ble_eq_true rfl⟩⟩ hz_a0 hk_a0 (by decide) rfl rfl hl.1 rfl (Nat.le_of_ble_eq_true rfl) dX12_value_85) rfl rfl (fun H locs M92 R93 J91 hS f89 g90 E94 => ?_)
        have eR93 := Fr.nil g90 rfl
        subst eR93
        have p95 := E94
        obtain ⟨x96, x98, zc95, zd95, zo95, k99, h97, zl95⟩ := p95
        have k99 : M92 lg tx.toNatClampNeg = x98 := k99
        have zt95 := ti_cl (x := tx) (by have := h_tx.1; omega); have zn95 := ti_cl (x := le) (by have := (h_le).1; omega); have zm95 := ti_cl (x := x98) (by have := (h97).1; omega)
        have q100 : (1 : Int32).toInt = 1 := (by decide)
        have k101 : M92 a0 17 = x63 := ((Fr.kp (k := 17) f89 hk_a0 rfl).trans (Fr.kp (k := 17) f72 hk_a0 rfl)).trans k64
        have zs95 := stp_word (h := sh) (show x96.toInt = 1 + 16 * x39.toInt by omega) (by have := ((iv_c (c := 1) (n := 1) (by decide))).1; have := ((iv_c (c := 1) (n := 1) (by decide))).2; have := (h50).1; have := (h50).2; omega) (by have := (h62).2; omega)
        have z102 : SEG M92 sg tx.toNatClampNeg sb x98.toNatClampNeg (sh + 1) := SEG.cast (SEG.ext (SEG.to (SEG.to (SEG.to (SEG.to hseg (fun j _ _ => Fr.kpa f2 hk_sg rfl j)) (fun j _ _ => Fr.kpa f33 hk_sg rfl j)) (fun j _ _ => Fr.kpa f54 hk_sg rfl j)) (fun j _ _ => Fr.kpa f72 hk_sg rfl j)) (by omega) zd95 zo95 zs95) (by omega) (by omega)
        have zw95 := ti_cl (x := le) (by have := h_le.1; omega)
        have z103 : ∀ j, j < 400 * tx.toNatClampNeg + le.toNatClampNeg → M92 sg j = Ma sg j := fun j hj => (zo95 j (by omega)).trans ((fun j hj => (Fr.kpa f72 hk_sg rfl j).trans ((fun j hj => (Fr.kpa f54 hk_sg rfl j).trans ((fun j hj => (Fr.kpa f33 hk_sg rfl j).trans ((fun j hj => (Fr.kpa f2 hk_sg rfl j).trans ((fun j _ => rfl) j hj)) j hj)) j hj)) j hj)) j hj)
        refine lv_iconst (v := 1) hx hb dX12_value_88 (by decide) ?_
        have k104 : M92 a0 13 = x81 := (Fr.kp (k := 13) f89 hk_a0 rfl).trans k79
        have q105 : nx.toInt ≤ x81.toInt ∧ x81.toInt ≤ tp.toInt := by
          have := (h_le).1; have := (h_le).2; have := (h_md).1; have := (h_md).2; have := (h_nx).1; have := (h_nx).2; have := (h_tp).1; have := (h_tp).2; have := (h_tx).1; have := (h_tx).2; have := (h11).1; have := (h11).2; have := (h50).1; have := (h50).2; have := (h42).1; have := (h42).2; have := (h_x8).1; have := (h_x8).2; have := (h80).1; have := (h80).2; omega
        have q106 : le.toInt ≤ x98.toInt ∧ x98.toInt - le.toInt ≤ x81.toInt - nx.toInt ∧ ((sh + 1 : Nat) : Int) ≤ x63.toInt := by
          have := (h_le).1; have := (h_le).2; have := (h_md).1; have := (h_md).2; have := (h_nx).1; have := (h_nx).2; have := (h_tp).1; have := (h_tp).2; have := (h_tx).1; have := (h_tx).2; have := (h11).1; have := (h11).2; have := (h50).1; have := (h50).2; have := (h42).1; have := (h42).2; have := (h62).1; have := (h62).2; have := (h_x8).1; have := (h_x8).2; have := (h80).1; have := (h80).2; have := (h97).1; have := (h97).2; omega
        exact tw_endz hx hb hr hlocks hK hT hS hQ rfl (⟨(iv_mono (iv_c (c := 1) (n := 1) (by decide)) (by decide) (by decide)), ⟨z103, ⟨x81, k104, h80, q105.1, q105.2⟩, fun _ => ⟨x81, x98, x63, k104, k99, k101, (iv_mono h97 (by decide) (by decide)), q106.1, q106.2.1, q106.2.2, z102⟩⟩⟩) dX12_value_89
      · have q107 : x60.toInt = 0 := ti_eq c66
        have h108 : iv 0 0 x60 := ⟨by have := (h_x60).1; have := ((iv_c (c := 0) (n := 0) (by decide))).1; omega, by have := (h_x60).2; have := ((iv_c (c := 0) (n := 0) (by decide))).2; omega⟩
        refine lv_iconst (v := 0) hx hb dX12_value_76 (by decide) ?_
        have k109 : M57 a0 13 = x43 := (Fr.kp (k := 13) f54 hk_a0 rfl).trans k41
        have q110 : nx.toInt ≤ x43.toInt ∧ x43.toInt ≤ tp.toInt := by
          have := (h_le).1; have := (h_le).2; have := (h_md).1; have := (h_md).2; have := (h_nx).1; have := (h_nx).2; have := (h_tp).1; have := (h_tp).2; have := (h_tx).1; have := (h_tx).2; have := (h11).1; have := (h11).2; have := (h50).1; have := (h50).2; have := (h42).1; have := (h42).2; have := (h_x8).1; have := (h_x8).2; omega
        exact tw_endz hx hb hr hlocks hK hT hS hQ rfl (⟨(iv_mono (iv_c (c := 0) (n := 0) (by decide)) (by decide) (by decide)), ⟨(fun j hj => (Fr.kpa f54 hk_sg rfl j).trans ((fun j hj => (Fr.kpa f33 hk_sg rfl j).trans ((fun j hj => (Fr.kpa f2 hk_sg rfl j).trans ((fun j _ => rfl) j hj)) j hj)) j hj)), ⟨x43, k109, h42, q110.1, q110.2⟩, (fun h => absurd rfl h)⟩⟩) dX12_value_77
    · have q111 : x39.toInt < 0 := ti_nle c48
      have h112 : iv (-1) (-1) x39 := iv_ltL (y := 0) h_x39 (iv_c (c := 0) (n := 0) (by decide)) q111 (by decide)
      refine lv_aload_n hx hb dX12_value_61 rfl (lv_at hl 2 rfl) ?_
      refine lv_iconst (v := 0) hx hb dX12_value_62 (by decide) ?_
      refine lv_iload_n hx hb dX12_value_63 rfl (lv_at hl 1 rfl) ?_
      refine tw_goi hS (md_runV (As := [.int 0, .int x12]) (rest := []) hx hb hml hown hW hK hT hS.1 (t_X12_fails l D cy tx base Z K N M36 Ra J35 hS.2.1 a0 hz_a0 hk_a0 0 (iv_mono (iv_c (c := 0) (n := 0) (by decide)) (by decide) (by decide)) x12 h11) s_X12_148 ⟨rfl, rfl, ⟨Nat.le_of_ble_eq_true rfl, Nat.le_of_ble_eq_true rfl⟩, ⟨Nat.le_of_ble_eq_true rfl, Nat.le_of_ble_eq_true rfl⟩⟩ hz_a0 hk_a0 (by decide) rfl rfl hl.1 rfl (Nat.le_of_ble_eq_true rfl) dX12_value_64) rfl rfl (fun x119 H locs M116 R117 J115 hS f113 g114 E118 => ?_)
      have eR117 := Fr.nil g114 rfl
      subst eR117
      have h_x119 := E118
      have k120 : M116 a0 13 = x43 := (Fr.kp (k := 13) f113 hk_a0 rfl).trans k41
      have q121 : nx.toInt ≤ x43.toInt ∧ x43.toInt ≤ tp.toInt := by
        have := (h_le).1; have := (h_le).2; have := (h_md).1; have := (h_md).2; have := (h_nx).1; have := (h_nx).2; have := (h_tp).1; have := (h_tp).2; have := (h_tx).1; have := (h_tx).2; have := (h11).1; have := (h11).2; have := (h112).1; have := (h112).2; have := (h42).1; have := (h42).2; have := (h_x8).1; have := (h_x8).2; omega
      exact tw_endz hx hb hr hlocks hK hT hS hQ (nar_b (iv_mono h_x119 (by decide) (by decide))) (⟨(iv_mono h_x119 (by decide) (by decide)), ⟨(fun j hj => (Fr.kpa f113 hk_sg rfl j).trans ((fun j hj => (Fr.kpa f33 hk_sg rfl j).trans ((fun j hj => (Fr.kpa f2 hk_sg rfl j).trans ((fun j _ => rfl) j hj)) j hj)) j hj)), ⟨x43, k120, h42, q121.1, q121.2⟩, (fun h => absurd (iv0 h_x119) h)⟩⟩) dX12_value_67
  · have q122 : ¬ x23.toInt = 0 := ti_ne c27
    have h123 : iv 1 1 x23 := ⟨by have := (h_x23).1; have := ((iv_c (c := 0) (n := 0) (by decide))).1; have := ((iv_c (c := 0) (n := 0) (by decide))).2; omega, by have := (h_x23).2; have := ((iv_c (c := 0) (n := 0) (by decide))).1; have := ((iv_c (c := 0) (n := 0) (by decide))).2; omega⟩
    have z124 := z25 c27
    have q125 := z124.1
    have h126 : iv 0 399 x12 := iv_ltL (y := tp) h11 h_tp q125 (by decide)
    refine lv_aload_n hx hb dX12_value_21 rfl (lv_at hl 1 rfl) ?_
    refine lv_iconst (v := 0) hx hb dX12_value_22 (by decide) ?_
    refine lv_ldc hx hb hown (hW _ w_7_91 rfl) dX12_value_23 ?_
    have k127 : M5 a0 1 = tp := (Fr.kp (k := 1) f2 hk_a0 rfl).trans k_tp
    have q128 : x12.toInt ≤ tp.toInt := by
      have := (h_le).1; have := (h_le).2; have := (h_md).1; have := (h_md).2; have := (h_nx).1; have := (h_nx).2; have := (h_tp).1; have := (h_tp).2; have := (h_tx).1; have := (h_tx).2; have := (h126).1; have := (h126).2; have := (h_x8).1; have := (h_x8).2; omega
    obtain ⟨x131, k129⟩ : ∃ x, M5 a0 15 = x := ⟨_, rfl⟩
    have h130 : iv (-2147483648) 2147483647 x131 := by rw [← k129]; exact hS.2.1.int hz_a0 hk_a0 (show rgI 12 15 = ((-2147483648), 2147483647) from rfl)
    refine tw_goi hS (md_runV (As := [.int 0, .int 99999]) (rest := []) hx hb hml hown hW hK hT hS.1 (t_X12_numberHere l D cy tx base Z K N M5 Ra J19 hS.2.1 a0 hz_a0 hk_a0 0 (iv_c (c := 0) (n := 0) (by decide)) 99999 (iv_c (c := 99999) (n := 99999) (by decide)) tb k_tb x12 k10 (iv_mono h126 (by decide) (by decide)) tp k127 (iv_mono h_tp (by decide) (by decide)) q128 x131 k129 (iv_mono h130 (by decide) (by decide))) s_X12_200 ⟨rfl, rfl, ⟨Nat.le_of_ble_eq_true rfl, Nat.le_of_ble_eq_true rfl⟩, ⟨Nat.le_of_ble_eq_true rfl, Nat.le_of_ble_eq_true rfl⟩⟩ hz_a0 hk_a0 (by decide) rfl rfl hl.1 rfl (Nat.le_of_ble_eq_true rfl) dX12_value_25) rfl rfl (fun x138 H locs M135 R136 J134 hS f132 g133 E137 => ?_)
    have eR136 := Fr.nil g133 rfl
    subst eR136
    obtain ⟨h_x138, p139, p140⟩ := E137
    obtain ⟨x143, k141, h142, q144⟩ := p139
    have k141 : M135 a0 13 = x143 := k141
    obtain ⟨x148, k149, h147, q150⟩ := p140
    have k149 : M135 a0 15 = x148 := k149
    have q151 : (0 : Int32).toInt = 0 := (by decide)
    have q152 : (99999 : Int32).toInt = 99999 := (by decide)
    refine lv_if_eq (tgt := 39) hx hb dX12_value_28 (by decide) (fun c153 => ?_) (fun c153 => ?_)
    · have q154 : x138.toInt = 0 := ti_eq c153
      have h155 : iv 0 0 x138 := ⟨by have := (h_x138).1; have := ((iv_c (c := 0) (n := 0) (by decide))).1; omega, by have := (h_x138).2; have := ((iv_c (c := 0) (n := 0) (by decide))).2; omega⟩
      refine lv_iconst (v := 0) hx hb dX12_value_39 (by decide) ?_
      have q156 : nx.toInt ≤ x143.toInt ∧ x143.toInt ≤ tp.toInt := by
        have := (h_le).1; have := (h_le).2; have := (h_md).1; have := (h_md).2; have := (h_nx).1; have := (h_nx).2; have := (h_tp).1; have := (h_tp).2; have := (h_tx).1; have := (h_tx).2; have := (h126).1; have := (h126).2; have := (h155).1; have := (h155).2; have := (h142).1; have := (h142).2; have := (h_x8).1; have := (h_x8).2; omega
      exact tw_endz hx hb hr hlocks hK hT hS hQ rfl (⟨(iv_mono (iv_c (c := 0) (n := 0) (by decide)) (by decide) (by decide)), ⟨(fun j hj => (Fr.kpa f132 hk_sg rfl j).trans ((fun j hj => (Fr.kpa f2 hk_sg rfl j).trans ((fun j _ => rfl) j hj)) j hj)), ⟨x143, k141, h142, q156.1, q156.2⟩, (fun h => absurd rfl h)⟩⟩) dX12_value_40
    · have q157 : ¬ x138.toInt = 0 := ti_ne c153
      have h158 : iv 1 1 x138 := ⟨by have := (h_x138).1; have := ((iv_c (c := 0) (n := 0) (by decide))).1; have := ((iv_c (c := 0) (n := 0) (by decide))).2; omega, by have := (h_x138).2; have := ((iv_c (c := 0) (n := 0) (by decide))).1; have := ((iv_c (c := 0) (n := 0) (by decide))).2; omega⟩
      refine lv_aload_n hx hb dX12_value_31 rfl (lv_at hl 1 rfl) ?_
      refine lv_iload_n hx hb dX12_value_32 rfl (lv_at hl 0 rfl) ?_
      have k159 : M135 a0 17 = md := ((Fr.kp (k := 17) f132 hk_a0 rfl).trans (Fr.kp (k := 17) f2 hk_a0 rfl)).trans k_md
      refine tw_goi hS (md_runV (As := [.int x12]) (rest := []) hx hb hml hown hW hK hT hS.1 (t_X12_makes l D cy tx base Z K N M135 Ra J134 hS.2.1 a0 hz_a0 hk_a0 x12 (iv_mono h126 (by decide) (by decide)) md k159 (iv_mono h_md (by decide) (by decide))) s_X12_203 ⟨rfl, rfl, ⟨Nat.le_of_ble_eq_true rfl, Nat.le_of_ble_eq_true rfl⟩, ⟨Nat.le_of_ble_eq_true rfl, Nat.le_of_ble_eq_true rfl⟩⟩ hz_a0 hk_a0 (by decide) rfl rfl hl.1 rfl (Nat.le_of_ble_eq_true rfl) dX12_value_33) rfl rfl (fun x166 H locs M163 R164 J162 hS f160 g161 E165 => ?_)
      have eR164 := Fr.nil g161 rfl
      subst eR164
      obtain ⟨h_x166, p167⟩ := E165
      obtain ⟨x169, k170, h168, q171⟩ := p167
      have k170 : M163 a0 17 = x169 := k170
      refine lv_if_ne (tgt := 41) hx hb dX12_value_36 (by decide) (fun c172 => ?_) (fun c172 => ?_)
      · have q173 : ¬ x166.toInt = 0 := ti_ne c172
        have h174 : iv 1 1 x166 := ⟨by have := (h_x166).1; have := ((iv_c (c := 0) (n := 0) (by decide))).1; have := ((iv_c (c := 0) (n := 0) (by decide))).2; omega, by have := (h_x166).2; have := ((iv_c (c := 0) (n := 0) (by decide))).1; have := ((iv_c (c := 0) (n := 0) (by decide))).2; omega⟩
        refine lv_aload_n hx hb dX12_value_41 rfl (lv_at hl 1 rfl) ?_
        refine lv_iconst (v := 0) hx hb dX12_value_42 (by decide) ?_
        refine lv_aload_n hx hb dX12_value_43 rfl (lv_at hl 1 rfl) ?_
        have k175 : M163 a0 15 = x148 := (Fr.kp (k := 15) f160 hk_a0 rfl).trans k149
        refine tw_getk hx hb hW hown hK hS f_X12_152_11 hz_a0 hk_a0 (v := x148) k175 dX12_value_44 ?_
        have h176 : iv 0 99999 x148 := by
          have := (h_le).1; have := (h_le).2; have := (h_md).1; have := (h_md).2; have := (h_nx).1; have := (h_nx).2; have := (h_tp).1; have := (h_tp).2; have := (h_tx).1; have := (h_tx).2; have := (h147).1; have := (h147).2; exact ⟨by omega, by omega⟩
        have k177 : M163 a0 16 = tx := ((Fr.kp (k := 16) f160 hk_a0 rfl).trans ((Fr.kp (k := 16) f132 hk_a0 rfl).trans (Fr.kp (k := 16) f2 hk_a0 rfl))).trans k_tx
        have k178 : M163 lg tx.toNatClampNeg = le := ((Fr.kpa f160 hk_lg rfl tx.toNatClampNeg).trans ((Fr.kpa f132 hk_lg rfl tx.toNatClampNeg).trans (Fr.kpa f2 hk_lg rfl tx.toNatClampNeg))).trans k_le
        have h179 : iv 0 399 le := by
          have := (h_le).1; have := (h_le).2; have := (h_md).1; have := (h_md).2; have := (h_nx).1; have := (h_nx).2; have := (h_tp).1; have := (h_tp).2; have := (h_tx).1; have := (h_tx).2; exact ⟨by omega, by omega⟩
        refine tw_gov hS (md_runV (As := [.int 0, .int x148]) (rest := []) hx hb hml hown hW hK hT hS.1 (t_X12_puts l D cy tx base Z K N M163 Ra J162 hS.2.1 a0 hz_a0 hk_a0 0 (iv_mono (iv_c (c := 0) (n := 0) (by decide)) (by decide) (by decide)) x148 h176 sg k_sg lg k_lg tx k177 (iv_mono h_tx (by decide) (by decide)) le k178 h179) s_X12_195 ⟨rfl, rfl, ⟨Nat.le_of_ble_eq_true rfl, Nat.le_of_ble_eq_true rfl⟩, ⟨Nat.le_of_ble_eq_true rfl, Nat.le_of_ble_eq_true rfl⟩⟩ hz_a0 hk_a0 (by decide) rfl rfl hl.1 rfl (Nat.le_of_ble_eq_true rfl) dX12_value_47) rfl rfl (fun H locs M183 R184 J182 hS f180 g181 E185 => ?_)
        have eR184 := Fr.nil g181 rfl
        subst eR184
        have p186 := E185
        obtain ⟨x187, x189, zc186, zd186, zo186, k190, h188, zl186⟩ := p186
        have k190 : M183 lg tx.toNatClampNeg = x189 := k190
        have zt186 := ti_cl (x := tx) (by have := h_tx.1; omega); have zn186 := ti_cl (x := le) (by have := (h_le).1; omega); have zm186 := ti_cl (x := x189) (by have := (h188).1; omega)
        have q191 : (0 : Int32).toInt = 0 := (by decide)
        have k192 : M183 a0 17 = x169 := (Fr.kp (k := 17) f180 hk_a0 rfl).trans k170
        have zs186 := stp_num (h := sh) (show x187.toInt = 0 + 16 * x148.toInt by omega) (by have := ((iv_c (c := 0) (n := 0) (by decide))).1; have := ((iv_c (c := 0) (n := 0) (by decide))).2; have := (h147).1; have := (h147).2; omega) (by have := (h168).2; omega)
        have z193 : SEG M183 sg tx.toNatClampNeg sb x189.toNatClampNeg (sh + 1) := SEG.cast (SEG.ext (SEG.to (SEG.to (SEG.to hseg (fun j _ _ => Fr.kpa f2 hk_sg rfl j)) (fun j _ _ => Fr.kpa f132 hk_sg rfl j)) (fun j _ _ => Fr.kpa f160 hk_sg rfl j)) (by omega) zd186 zo186 zs186) (by omega) (by omega)
        have zw186 := ti_cl (x := le) (by have := h_le.1; omega)
        have z194 : ∀ j, j < 400 * tx.toNatClampNeg + le.toNatClampNeg → M183 sg j = Ma sg j := fun j hj => (zo186 j (by omega)).trans ((fun j hj => (Fr.kpa f160 hk_sg rfl j).trans ((fun j hj => (Fr.kpa f132 hk_sg rfl j).trans ((fun j hj => (Fr.kpa f2 hk_sg rfl j).trans ((fun j _ => rfl) j hj)) j hj)) j hj)) j hj)
        refine lv_iconst (v := 1) hx hb dX12_value_50 (by decide) ?_
        have k195 : M183 a0 13 = x143 := ((Fr.kp (k := 13) f180 hk_a0 rfl).trans (Fr.kp (k := 13) f160 hk_a0 rfl)).trans k141
        have q196 : nx.toInt ≤ x143.toInt ∧ x143.toInt ≤ tp.toInt := by
          have := (h_le).1; have := (h_le).2; have := (h_md).1; have := (h_md).2; have := (h_nx).1; have := (h_nx).2; have := (h_tp).1; have := (h_tp).2; have := (h_tx).1; have := (h_tx).2; have := (h126).1; have := (h126).2; have := (h158).1; have := (h158).2; have := (h142).1; have := (h142).2; have := (h_x8).1; have := (h_x8).2; omega
        have q197 : le.toInt ≤ x189.toInt ∧ x189.toInt - le.toInt ≤ x143.toInt - nx.toInt ∧ ((sh + 1 : Nat) : Int) ≤ x169.toInt := by
          have := (h_le).1; have := (h_le).2; have := (h_md).1; have := (h_md).2; have := (h_nx).1; have := (h_nx).2; have := (h_tp).1; have := (h_tp).2; have := (h_tx).1; have := (h_tx).2; have := (h126).1; have := (h126).2; have := (h158).1; have := (h158).2; have := (h142).1; have := (h142).2; have := (h168).1; have := (h168).2; have := (h188).1; have := (h188).2; have := (h_x8).1; have := (h_x8).2; omega
        exact tw_endz hx hb hr hlocks hK hT hS hQ rfl (⟨(iv_mono (iv_c (c := 1) (n := 1) (by decide)) (by decide) (by decide)), ⟨z194, ⟨x143, k195, h142, q196.1, q196.2⟩, fun _ => ⟨x143, x189, x169, k195, k190, k192, (iv_mono h188 (by decide) (by decide)), q197.1, q197.2.1, q197.2.2, z193⟩⟩⟩) dX12_value_51
      · have q198 : x166.toInt = 0 := ti_eq c172
        have h199 : iv 0 0 x166 := ⟨by have := (h_x166).1; have := ((iv_c (c := 0) (n := 0) (by decide))).1; omega, by have := (h_x166).2; have := ((iv_c (c := 0) (n := 0) (by decide))).2; omega⟩
        refine lv_iconst (v := 0) hx hb dX12_value_39 (by decide) ?_
        have k200 : M163 a0 13 = x143 := (Fr.kp (k := 13) f160 hk_a0 rfl).trans k141
        have q201 : nx.toInt ≤ x143.toInt ∧ x143.toInt ≤ tp.toInt := by
          have := (h_le).1; have := (h_le).2; have := (h_md).1; have := (h_md).2; have := (h_nx).1; have := (h_nx).2; have := (h_tp).1; have := (h_tp).2; have := (h_tx).1; have := (h_tx).2; have := (h126).1; have := (h126).2; have := (h158).1; have := (h158).2; have := (h142).1; have := (h142).2; have := (h_x8).1; have := (h_x8).2; omega
        exact tw_endz hx hb hr hlocks hK hT hS hQ rfl (⟨(iv_mono (iv_c (c := 0) (n := 0) (by decide)) (by decide) (by decide)), ⟨(fun j hj => (Fr.kpa f160 hk_sg rfl j).trans ((fun j hj => (Fr.kpa f132 hk_sg rfl j).trans ((fun j hj => (Fr.kpa f2 hk_sg rfl j).trans ((fun j _ => rfl) j hj)) j hj)) j hj)), ⟨x143, k200, h142, q201.1, q201.2⟩, (fun h => absurd rfl h)⟩⟩) dX12_value_40
