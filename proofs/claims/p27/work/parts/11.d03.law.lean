section LAWC24
variable {p : Program} {l : Launch} {e : Env} {s : State} {m : MethodId} {below : List Frame} {meth : Method} {c : Code} {b Ln : Nat} {xs : Nat → Int32} {D : va_G} {cy : Nat → ClassId} {tx : (Nat → Nat) × (Nat → Nat)}
set_option maxRecDepth 100000 in
set_option maxHeartbeats 4000000 in
theorem law_tells (C0 : lw_F p s m meth c b Ln xs D cy tx) {i : Int32} (hI : ∀ k : Int32, 0 ≤ k.toInt ∧ k.toInt ≤ 5 → vp_in (i + k) Ln) {Z : Nat} {K N : Nat → Nat} {M : MT} {R : RT} {J : JT} {H : Heap} {locs : List Loc} (hG : md_G D cy s.heap.size Z K N M R J s H locs) (hL : LI Z K N M R) {ls : Array Slot} (hl : lv_has ls 4 [(3, .int i), (2, .ref (s.heap.size + 69)), (1, .ref (s.heap.size + 0)), (0, .ref b)]) (kt : lw_KT p l e s m below meth c b D cy i) : W p l e room_1 s m #[Value.ref b] below meth c H locs 4000 500000 (lw_Z below #[Value.ref b] s) (F0 m 966 ls []) := by
  obtain ⟨hx, hb, hr, hml, hown, hW, hX, hbl, hlocks, hK, hT⟩ := C0
  have hbA : ¬ (fun q : Nat => s.heap.size ≤ q) b := Nat.not_le.mpr hbl
  refine lv_aload_n hx hb dL_law_966 rfl (lv_at hl 2 rfl) ?_
  refine lv_aload_n hx hb dL_law_967 rfl (lv_at hl 3 rfl) ?_
  refine lv_iload_n hx hb dL_law_968 rfl (lv_at hl 0 rfl) ?_
  refine lv_iconst (v := 1) hx hb dL_law_969 (by decide) ?_
  refine lv_iadd hx hb dL_law_970 ?_
  refine va_sld hx hb hX hbl hbA hG.2.2 (hI 1 ⟨by decide, by decide⟩) dL_law_971 ?_
  refine lv_aload_n hx hb dL_law_972 rfl (lv_at hl 3 rfl) ?_
  refine lv_iload_n hx hb dL_law_973 rfl (lv_at hl 0 rfl) ?_
  refine lv_iconst (v := 2) hx hb dL_law_974 (by decide) ?_
  refine lv_iadd hx hb dL_law_975 ?_
  refine va_sld hx hb hX hbl hbA hG.2.2 (hI 2 ⟨by decide, by decide⟩) dL_law_976 ?_
  obtain ⟨en, ta, su, ⟨r_en, r_ta, r_su⟩, ⟨hB_en, hB_ta, hB_su⟩, -, -⟩ := hL.2.2.2.2
  refine lw_gom hG (md_runV (As := [.int (xs (i + 1).toNatClampNeg), .int (xs (i + 2).toNatClampNeg)]) (rest := []) hx hb hml hown hW hK hT hG (t_X11_tells l D cy tx s.heap.size Z K N M R J hL.1.1 0 (show 0 < Z by have := hL.2.1.1.1; omega) hL.2.1.1.2.1 (xs (i + 1).toNatClampNeg) (iv_any _) (xs (i + 2).toNatClampNeg) (iv_any _) 4 hL.2.1.2.1.1 61 hL.2.1.2.1.2.2.2 hL.2.1.2.2.1.2 en r_en ta r_ta su r_su hB_en hB_ta hB_su) s_L_117 ⟨rfl, rfl, ⟨Nat.le_of_ble_eq_true rfl, Nat.le_of_ble_eq_true rfl⟩, Nat.le_of_ble_eq_true rfl, Nat.le_of_ble_eq_true rfl⟩ (show 0 < Z by have := hL.2.1.1.1; omega) hL.2.1.1.2.1 (by decide) rfl rfl hl.1 rfl (Nat.le_of_ble_eq_true rfl) dL_law_977) (fun r1 H locs Z1 K1 N1 M1 R1 J1 hG ht hE => ?_)
  have hL : LI Z1 K1 N1 M1 R1 := LI.books hL ht hE.2 rfl rfl rfl rfl
  refine lv_pop hx hb dL_law_980 rfl ?_
  refine lv_aload_n hx hb dL_law_981 rfl (lv_at hl 1 rfl) ?_
  refine lv_aload_n hx hb dL_law_982 rfl (lv_at hl 3 rfl) ?_
  refine lv_iload_n hx hb dL_law_983 rfl (lv_at hl 0 rfl) ?_
  refine lv_iconst (v := 1) hx hb dL_law_984 (by decide) ?_
  refine lv_iadd hx hb dL_law_985 ?_
  refine va_sld hx hb hX hbl hbA hG.2.2 (hI 1 ⟨by decide, by decide⟩) dL_law_986 ?_
  refine lv_aload_n hx hb dL_law_987 rfl (lv_at hl 3 rfl) ?_
  refine lv_iload_n hx hb dL_law_988 rfl (lv_at hl 0 rfl) ?_
  refine lv_iconst (v := 2) hx hb dL_law_989 (by decide) ?_
  refine lv_iadd hx hb dL_law_990 ?_
  refine va_sld hx hb hX hbl hbA hG.2.2 (hI 2 ⟨by decide, by decide⟩) dL_law_991 ?_
  refine lw_goi hG hL (md_runV (As := [.int (xs (i + 1).toNatClampNeg), .int (xs (i + 2).toNatClampNeg)]) (rest := []) hx hb hml hown hW hK hT hG (t_X12_tells l D cy tx s.heap.size Z1 K1 N1 M1 R1 J1 hL.1.1 69 (show 69 < Z1 by have := hL.2.1.1.1; omega) hL.2.1.1.2.2 (xs (i + 1).toNatClampNeg) (iv_any _) (xs (i + 2).toNatClampNeg) (iv_any _) 81 hL.2.1.2.2.2.2.1.1 (M1 81 (0 : Int32).toNatClampNeg) rfl (hL.1.1.int (show 81 < Z1 by have := hL.2.1.1.1; omega) hL.2.1.2.2.2.2.2.2.2.1 (show rgI 23 (0 : Int32).toNatClampNeg = (0, 10) from rfl))) s_L_120 ⟨rfl, rfl, ⟨Nat.le_of_ble_eq_true rfl, Nat.le_of_ble_eq_true rfl⟩, Nat.le_of_ble_eq_true rfl, Nat.le_of_ble_eq_true rfl⟩ (show 69 < Z1 by have := hL.2.1.1.1; omega) hL.2.1.1.2.2 (by decide) rfl rfl hl.1 rfl (Nat.le_of_ble_eq_true rfl) dL_law_992) rfl (fun r2 H locs M2 R2 J2 hG hL => ?_)
  refine lv_pop hx hb dL_law_995 rfl ?_
  refine lv_goto (tgt := 1157) hx hb dL_law_996 (by decide) ?_
  refine lw_tt hG hL ?_
  exact kt Z1 K1 N1 M2 R2 J2 H locs ls hG hL hl
set_option maxRecDepth 100000 in
set_option maxHeartbeats 4000000 in
theorem law_seed (C0 : lw_F p s m meth c b Ln xs D cy tx) {i : Int32} (hI : ∀ k : Int32, 0 ≤ k.toInt ∧ k.toInt ≤ 5 → vp_in (i + k) Ln) {Z : Nat} {K N : Nat → Nat} {M : MT} {R : RT} {J : JT} {H : Heap} {locs : List Loc} (hG : md_G D cy s.heap.size Z K N M R J s H locs) (hL : LI Z K N M R) {ls : Array Slot} (hl : lv_has ls 4 [(3, .int i), (2, .ref (s.heap.size + 69)), (1, .ref (s.heap.size + 0)), (0, .ref b)]) (kt : lw_KT p l e s m below meth c b D cy i) : W p l e room_1 s m #[Value.ref b] below meth c H locs 4000 500000 (lw_Z below #[Value.ref b] s) (F0 m 999 ls []) := by
  obtain ⟨hx, hb, hr, hml, hown, hW, hX, hbl, hlocks, hK, hT⟩ := C0
  have hbA : ¬ (fun q : Nat => s.heap.size ≤ q) b := Nat.not_le.mpr hbl
  refine lv_aload_n hx hb dL_law_999 rfl (lv_at hl 2 rfl) ?_
  refine lv_aload_n hx hb dL_law_1000 rfl (lv_at hl 3 rfl) ?_
  refine lv_iload_n hx hb dL_law_1001 rfl (lv_at hl 0 rfl) ?_
  refine lv_iconst (v := 1) hx hb dL_law_1002 (by decide) ?_
  refine lv_iadd hx hb dL_law_1003 ?_
  refine va_sld hx hb hX hbl hbA hG.2.2 (hI 1 ⟨by decide, by decide⟩) dL_law_1004 ?_
  refine lw_goe hG (md_runV (As := [.int (xs (i + 1).toNatClampNeg)]) (rest := []) hx hb hml hown hW hK hT hG (t_X11_seed_vx l D cy tx s.heap.size Z K N M R J hL.1.1 0 (show 0 < Z by have := hL.2.1.1.1; omega) hL.2.1.1.2.1 (xs (i + 1).toNatClampNeg) (iv_any _) 4 hL.2.1.2.1.1) s_L_121 ⟨rfl, rfl, ⟨Nat.le_of_ble_eq_true rfl, Nat.le_of_ble_eq_true rfl⟩, Nat.le_of_ble_eq_true rfl, Nat.le_of_ble_eq_true rfl⟩ (show 0 < Z by have := hL.2.1.1.1; omega) hL.2.1.1.2.1 (by decide) rfl rfl hl.1 rfl (Nat.le_of_ble_eq_true rfl) dL_law_1005) (fun r1 H locs M1 R1 J1 hG hT1 f1 g1 hE => ?_)
  have hq := hE.2
  have hJ := LJ.step hL.lj hT1 f1.B g1.B rfl
  refine lv_aload_n hx hb dL_law_1008 rfl (lv_at hl 1 rfl) ?_
  refine lv_aload_n hx hb dL_law_1009 rfl (lv_at hl 3 rfl) ?_
  refine lv_iload_n hx hb dL_law_1010 rfl (lv_at hl 0 rfl) ?_
  refine lv_iconst (v := 1) hx hb dL_law_1011 (by decide) ?_
  refine lv_iadd hx hb dL_law_1012 ?_
  refine va_sld hx hb hX hbl hbA hG.2.2 (hI 1 ⟨by decide, by decide⟩) dL_law_1013 ?_
  refine lw_goe hG (md_runV (As := [.int (xs (i + 1).toNatClampNeg)]) (rest := [.int r1]) hx hb hml hown hW hK hT hG (t_X12_seed_vx l D cy tx s.heap.size Z K N M1 R1 J1 hJ.1.1 69 (show 69 < Z by have := hJ.2.1.1.1; omega) hJ.2.1.1.2.2 (xs (i + 1).toNatClampNeg) (iv_any _) 81 hJ.2.1.2.2.2.2.1.1) s_L_124 ⟨rfl, rfl, ⟨Nat.le_of_ble_eq_true rfl, Nat.le_of_ble_eq_true rfl⟩, Nat.le_of_ble_eq_true rfl, Nat.le_of_ble_eq_true rfl⟩ (show 69 < Z by have := hJ.2.1.1.1; omega) hJ.2.1.1.2.2 (by decide) rfl rfl hl.1 rfl (Nat.le_of_ble_eq_true rfl) dL_law_1014) (fun r2 H locs M2 R2 J2 hG hT2 f2 g2 hE => ?_)
  obtain ⟨hreq, hL⟩ := LI.seed hL hT1 f1.B g1.B hq hT2 f2.B g2.B hE.2 rfl rfl rfl
  refine lv_icmp_eq (tgt := 1157) hx hb dL_law_1017 (by decide) (fun _ => ?_) (fun h => absurd hreq h)
  refine lw_tt hG hL ?_
  exact kt Z K N M2 R2 J2 H locs ls hG hL hl
set_option maxRecDepth 100000 in
set_option maxHeartbeats 4000000 in
theorem law_year (C0 : lw_F p s m meth c b Ln xs D cy tx) {i : Int32} (hI : ∀ k : Int32, 0 ≤ k.toInt ∧ k.toInt ≤ 5 → vp_in (i + k) Ln) {Z : Nat} {K N : Nat → Nat} {M : MT} {R : RT} {J : JT} {H : Heap} {locs : List Loc} (hG : md_G D cy s.heap.size Z K N M R J s H locs) (hL : LI Z K N M R) {ls : Array Slot} (hl : lv_has ls 4 [(3, .int i), (2, .ref (s.heap.size + 69)), (1, .ref (s.heap.size + 0)), (0, .ref b)]) (kt : lw_KT p l e s m below meth c b D cy i) : W p l e room_1 s m #[Value.ref b] below meth c H locs 4000 500000 (lw_Z below #[Value.ref b] s) (F0 m 1022 ls []) := by
  obtain ⟨hx, hb, hr, hml, hown, hW, hX, hbl, hlocks, hK, hT⟩ := C0
  have hbA : ¬ (fun q : Nat => s.heap.size ≤ q) b := Nat.not_le.mpr hbl
  refine lv_aload_n hx hb dL_law_1022 rfl (lv_at hl 2 rfl) ?_
  refine lv_aload_n hx hb dL_law_1023 rfl (lv_at hl 3 rfl) ?_
  refine lv_iload_n hx hb dL_law_1024 rfl (lv_at hl 0 rfl) ?_
  refine lv_iconst (v := 1) hx hb dL_law_1025 (by decide) ?_
  refine lv_iadd hx hb dL_law_1026 ?_
  refine va_sld hx hb hX hbl hbA hG.2.2 (hI 1 ⟨by decide, by decide⟩) dL_law_1027 ?_
  refine lv_aload_n hx hb dL_law_1028 rfl (lv_at hl 3 rfl) ?_
  refine lv_iload_n hx hb dL_law_1029 rfl (lv_at hl 0 rfl) ?_
  refine lv_iconst (v := 2) hx hb dL_law_1030 (by decide) ?_
  refine lv_iadd hx hb dL_law_1031 ?_
  refine va_sld hx hb hX hbl hbA hG.2.2 (hI 2 ⟨by decide, by decide⟩) dL_law_1032 ?_
  refine lv_aload_n hx hb dL_law_1033 rfl (lv_at hl 3 rfl) ?_
  refine lv_iload_n hx hb dL_law_1034 rfl (lv_at hl 0 rfl) ?_
  refine lv_iconst (v := 3) hx hb dL_law_1035 (by decide) ?_
  refine lv_iadd hx hb dL_law_1036 ?_
  refine va_sld hx hb hX hbl hbA hG.2.2 (hI 3 ⟨by decide, by decide⟩) dL_law_1037 ?_
  refine lw_goi hG hL (md_runV (As := [.int (xs (i + 1).toNatClampNeg), .int (xs (i + 2).toNatClampNeg), .int (xs (i + 3).toNatClampNeg)]) (rest := []) hx hb hml hown hW hK hT hG (t_X11_year l D cy tx s.heap.size Z K N M R J hL.1.1 0 (show 0 < Z by have := hL.2.1.1.1; omega) hL.2.1.1.2.1 (xs (i + 1).toNatClampNeg) (iv_any _) (xs (i + 2).toNatClampNeg) (iv_any _) (xs (i + 3).toNatClampNeg) (iv_any _)) s_L_125 ⟨rfl, rfl, ⟨Nat.le_of_ble_eq_true rfl, Nat.le_of_ble_eq_true rfl⟩, Nat.le_of_ble_eq_true rfl, Nat.le_of_ble_eq_true rfl⟩ (show 0 < Z by have := hL.2.1.1.1; omega) hL.2.1.1.2.1 (by decide) rfl rfl hl.1 rfl (Nat.le_of_ble_eq_true rfl) dL_law_1038) rfl (fun r1 H locs M1 R1 J1 hG hL => ?_)
  refine lv_pop hx hb dL_law_1041 rfl ?_
  refine lv_aload_n hx hb dL_law_1042 rfl (lv_at hl 1 rfl) ?_
  refine lv_aload_n hx hb dL_law_1043 rfl (lv_at hl 3 rfl) ?_
  refine lv_iload_n hx hb dL_law_1044 rfl (lv_at hl 0 rfl) ?_
  refine lv_iconst (v := 1) hx hb dL_law_1045 (by decide) ?_
  refine lv_iadd hx hb dL_law_1046 ?_
  refine va_sld hx hb hX hbl hbA hG.2.2 (hI 1 ⟨by decide, by decide⟩) dL_law_1047 ?_
  refine lv_aload_n hx hb dL_law_1048 rfl (lv_at hl 3 rfl) ?_
  refine lv_iload_n hx hb dL_law_1049 rfl (lv_at hl 0 rfl) ?_
  refine lv_iconst (v := 2) hx hb dL_law_1050 (by decide) ?_
  refine lv_iadd hx hb dL_law_1051 ?_
  refine va_sld hx hb hX hbl hbA hG.2.2 (hI 2 ⟨by decide, by decide⟩) dL_law_1052 ?_
  refine lv_aload_n hx hb dL_law_1053 rfl (lv_at hl 3 rfl) ?_
  refine lv_iload_n hx hb dL_law_1054 rfl (lv_at hl 0 rfl) ?_
  refine lv_iconst (v := 3) hx hb dL_law_1055 (by decide) ?_
  refine lv_iadd hx hb dL_law_1056 ?_
  refine va_sld hx hb hX hbl hbA hG.2.2 (hI 3 ⟨by decide, by decide⟩) dL_law_1057 ?_
  refine lw_goi hG hL (md_runV (As := [.int (xs (i + 1).toNatClampNeg), .int (xs (i + 2).toNatClampNeg), .int (xs (i + 3).toNatClampNeg)]) (rest := []) hx hb hml hown hW hK hT hG (t_X12_year l D cy tx s.heap.size Z K N M1 R1 J1 hL.1.1 69 (show 69 < Z by have := hL.2.1.1.1; omega) hL.2.1.1.2.2 (xs (i + 1).toNatClampNeg) (iv_any _) (xs (i + 2).toNatClampNeg) (iv_any _) (xs (i + 3).toNatClampNeg) (iv_any _) hL.2.2.1) s_L_128 ⟨rfl, rfl, ⟨Nat.le_of_ble_eq_true rfl, Nat.le_of_ble_eq_true rfl⟩, Nat.le_of_ble_eq_true rfl, Nat.le_of_ble_eq_true rfl⟩ (show 69 < Z by have := hL.2.1.1.1; omega) hL.2.1.1.2.2 (by decide) rfl rfl hl.1 rfl (Nat.le_of_ble_eq_true rfl) dL_law_1058) rfl (fun r2 H locs M2 R2 J2 hG hL => ?_)
  refine lv_pop hx hb dL_law_1061 rfl ?_
  refine lv_goto (tgt := 1157) hx hb dL_law_1062 (by decide) ?_
  refine lw_tt hG hL ?_
  exact kt Z K N M2 R2 J2 H locs ls hG hL hl
set_option maxRecDepth 100000 in
set_option maxHeartbeats 4000000 in
theorem law_status (C0 : lw_F p s m meth c b Ln xs D cy tx) {i : Int32} (hI : ∀ k : Int32, 0 ≤ k.toInt ∧ k.toInt ≤ 5 → vp_in (i + k) Ln) {Z : Nat} {K N : Nat → Nat} {M : MT} {R : RT} {J : JT} {H : Heap} {locs : List Loc} (hG : md_G D cy s.heap.size Z K N M R J s H locs) (hL : LI Z K N M R) {ls : Array Slot} (hl : lv_has ls 4 [(3, .int i), (2, .ref (s.heap.size + 69)), (1, .ref (s.heap.size + 0)), (0, .ref b)]) (kt : lw_KT p l e s m below meth c b D cy i) : W p l e room_1 s m #[Value.ref b] below meth c H locs 4000 500000 (lw_Z below #[Value.ref b] s) (F0 m 1065 ls []) := by
  obtain ⟨hx, hb, hr, hml, hown, hW, hX, hbl, hlocks, hK, hT⟩ := C0
  have hbA : ¬ (fun q : Nat => s.heap.size ≤ q) b := Nat.not_le.mpr hbl
  refine lv_aload_n hx hb dL_law_1065 rfl (lv_at hl 2 rfl) ?_
  refine lv_aload_n hx hb dL_law_1066 rfl (lv_at hl 3 rfl) ?_
  refine lv_iload_n hx hb dL_law_1067 rfl (lv_at hl 0 rfl) ?_
  refine lv_iconst (v := 1) hx hb dL_law_1068 (by decide) ?_
  refine lv_iadd hx hb dL_law_1069 ?_
  refine va_sld hx hb hX hbl hbA hG.2.2 (hI 1 ⟨by decide, by decide⟩) dL_law_1070 ?_
  refine lw_goi hG hL (md_runV (As := [.int (xs (i + 1).toNatClampNeg)]) (rest := []) hx hb hml hown hW hK hT hG (t_X11_status l D cy tx s.heap.size Z K N M R J hL.1.1 0 (show 0 < Z by have := hL.2.1.1.1; omega) hL.2.1.1.2.1 (xs (i + 1).toNatClampNeg) (iv_any _)) s_L_129 ⟨rfl, rfl, ⟨Nat.le_of_ble_eq_true rfl, Nat.le_of_ble_eq_true rfl⟩, Nat.le_of_ble_eq_true rfl, Nat.le_of_ble_eq_true rfl⟩ (show 0 < Z by have := hL.2.1.1.1; omega) hL.2.1.1.2.1 (by decide) rfl rfl hl.1 rfl (Nat.le_of_ble_eq_true rfl) dL_law_1071) rfl (fun r1 H locs M1 R1 J1 hG hL => ?_)
  refine lv_pop hx hb dL_law_1074 rfl ?_
  refine lv_aload_n hx hb dL_law_1075 rfl (lv_at hl 1 rfl) ?_
  refine lv_aload_n hx hb dL_law_1076 rfl (lv_at hl 3 rfl) ?_
  refine lv_iload_n hx hb dL_law_1077 rfl (lv_at hl 0 rfl) ?_
  refine lv_iconst (v := 1) hx hb dL_law_1078 (by decide) ?_
  refine lv_iadd hx hb dL_law_1079 ?_
  refine va_sld hx hb hX hbl hbA hG.2.2 (hI 1 ⟨by decide, by decide⟩) dL_law_1080 ?_
  refine lw_goi hG hL (md_runV (As := [.int (xs (i + 1).toNatClampNeg)]) (rest := []) hx hb hml hown hW hK hT hG (t_X12_status l D cy tx s.heap.size Z K N M1 R1 J1 hL.1.1 69 (show 69 < Z by have := hL.2.1.1.1; omega) hL.2.1.1.2.2 (xs (i + 1).toNatClampNeg) (iv_any _)) s_L_132 ⟨rfl, rfl, ⟨Nat.le_of_ble_eq_true rfl, Nat.le_of_ble_eq_true rfl⟩, Nat.le_of_ble_eq_true rfl, Nat.le_of_ble_eq_true rfl⟩ (show 69 < Z by have := hL.2.1.1.1; omega) hL.2.1.1.2.2 (by decide) rfl rfl hl.1 rfl (Nat.le_of_ble_eq_true rfl) dL_law_1081) rfl (fun r2 H locs M2 R2 J2 hG hL => ?_)
  refine lv_pop hx hb dL_law_1084 rfl ?_
  refine lv_goto (tgt := 1157) hx hb dL_law_1085 (by decide) ?_
  refine lw_tt hG hL ?_
  exact kt Z K N M2 R2 J2 H locs ls hG hL hl
set_option maxRecDepth 100000 in
set_option maxHeartbeats 4000000 in
theorem law_count (C0 : lw_F p s m meth c b Ln xs D cy tx) {i : Int32} (hI : ∀ k : Int32, 0 ≤ k.toInt ∧ k.toInt ≤ 5 → vp_in (i + k) Ln) {Z : Nat} {K N : Nat → Nat} {M : MT} {R : RT} {J : JT} {H : Heap} {locs : List Loc} (hG : md_G D cy s.heap.size Z K N M R J s H locs) (hL : LI Z K N M R) {ls : Array Slot} (hl : lv_has ls 4 [(3, .int i), (2, .ref (s.heap.size + 69)), (1, .ref (s.heap.size + 0)), (0, .ref b)]) (kt : lw_KT p l e s m below meth c b D cy i) : W p l e room_1 s m #[Value.ref b] below meth c H locs 4000 500000 (lw_Z below #[Value.ref b] s) (F0 m 1088 ls []) := by
  obtain ⟨hx, hb, hr, hml, hown, hW, hX, hbl, hlocks, hK, hT⟩ := C0
  have hbA : ¬ (fun q : Nat => s.heap.size ≤ q) b := Nat.not_le.mpr hbl
  refine lv_aload_n hx hb dL_law_1088 rfl (lv_at hl 2 rfl) ?_
  refine lv_aload_n hx hb dL_law_1089 rfl (lv_at hl 3 rfl) ?_
  refine lv_iload_n hx hb dL_law_1090 rfl (lv_at hl 0 rfl) ?_
  refine lv_iconst (v := 1) hx hb dL_law_1091 (by decide) ?_
  refine lv_iadd hx hb dL_law_1092 ?_
  refine va_sld hx hb hX hbl hbA hG.2.2 (hI 1 ⟨by decide, by decide⟩) dL_law_1093 ?_
  refine lw_goi hG hL (md_runV (As := [.int (xs (i + 1).toNatClampNeg)]) (rest := []) hx hb hml hown hW hK hT hG (t_X11_count l D cy tx s.heap.size Z K N M R J hL.1.1 0 (show 0 < Z by have := hL.2.1.1.1; omega) hL.2.1.1.2.1 (xs (i + 1).toNatClampNeg) (iv_any _)) s_L_133 ⟨rfl, rfl, ⟨Nat.le_of_ble_eq_true rfl, Nat.le_of_ble_eq_true rfl⟩, Nat.le_of_ble_eq_true rfl, Nat.le_of_ble_eq_true rfl⟩ (show 0 < Z by have := hL.2.1.1.1; omega) hL.2.1.1.2.1 (by decide) rfl rfl hl.1 rfl (Nat.le_of_ble_eq_true rfl) dL_law_1094) rfl (fun r1 H locs M1 R1 J1 hG hL => ?_)
  refine lv_pop hx hb dL_law_1097 rfl ?_
  refine lv_aload_n hx hb dL_law_1098 rfl (lv_at hl 1 rfl) ?_
  refine lv_aload_n hx hb dL_law_1099 rfl (lv_at hl 3 rfl) ?_
  refine lv_iload_n hx hb dL_law_1100 rfl (lv_at hl 0 rfl) ?_
  refine lv_iconst (v := 1) hx hb dL_law_1101 (by decide) ?_
  refine lv_iadd hx hb dL_law_1102 ?_
  refine va_sld hx hb hX hbl hbA hG.2.2 (hI 1 ⟨by decide, by decide⟩) dL_law_1103 ?_
  refine lw_goi hG hL (md_runV (As := [.int (xs (i + 1).toNatClampNeg)]) (rest := []) hx hb hml hown hW hK hT hG (t_X12_count l D cy tx s.heap.size Z K N M1 R1 J1 hL.1.1 69 (show 69 < Z by have := hL.2.1.1.1; omega) hL.2.1.1.2.2 (xs (i + 1).toNatClampNeg) (iv_any _)) s_L_136 ⟨rfl, rfl, ⟨Nat.le_of_ble_eq_true rfl, Nat.le_of_ble_eq_true rfl⟩, Nat.le_of_ble_eq_true rfl, Nat.le_of_ble_eq_true rfl⟩ (show 69 < Z by have := hL.2.1.1.1; omega) hL.2.1.1.2.2 (by decide) rfl rfl hl.1 rfl (Nat.le_of_ble_eq_true rfl) dL_law_1104) rfl (fun r2 H locs M2 R2 J2 hG hL => ?_)
  refine lv_pop hx hb dL_law_1107 rfl ?_
  refine lv_goto (tgt := 1157) hx hb dL_law_1108 (by decide) ?_
  refine lw_tt hG hL ?_
  exact kt Z K N M2 R2 J2 H locs ls hG hL hl
set_option maxRecDepth 100000 in
set_option maxHeartbeats 4000000 in
theorem law_image (C0 : lw_F p s m meth c b Ln xs D cy tx) {i : Int32} (hI : ∀ k : Int32, 0 ≤ k.toInt ∧ k.toInt ≤ 5 → vp_in (i + k) Ln) {Z : Nat} {K N : Nat → Nat} {M : MT} {R : RT} {J : JT} {H : Heap} {locs : List Loc} (hG : md_G D cy s.heap.size Z K N M R J s H locs) (hL : LI Z K N M R) {ls : Array Slot} (hl : lv_has ls 4 [(3, .int i), (2, .ref (s.heap.size + 69)), (1, .ref (s.heap.size + 0)), (0, .ref b)]) (kt : lw_KT p l e s m below meth c b D cy i) : W p l e room_1 s m #[Value.ref b] below meth c H locs 4000 500000 (lw_Z below #[Value.ref b] s) (F0 m 1111 ls []) := by
  obtain ⟨hx, hb, hr, hml, hown, hW, hX, hbl, hlocks, hK, hT⟩ := C0
  have hbA : ¬ (fun q : Nat => s.heap.size ≤ q) b := Nat.not_le.mpr hbl
  refine lv_aload_n hx hb dL_law_1111 rfl (lv_at hl 2 rfl) ?_
  refine lv_aload_n hx hb dL_law_1112 rfl (lv_at hl 3 rfl) ?_
  refine lv_iload_n hx hb dL_law_1113 rfl (lv_at hl 0 rfl) ?_
  refine lv_iconst (v := 1) hx hb dL_law_1114 (by decide) ?_
  refine lv_iadd hx hb dL_law_1115 ?_
  refine va_sld hx hb hX hbl hbA hG.2.2 (hI 1 ⟨by decide, by decide⟩) dL_law_1116 ?_
  refine lw_gom hG (md_runV (As := [.int (xs (i + 1).toNatClampNeg)]) (rest := []) hx hb hml hown hW hK hT hG (t_X11_image l D cy tx s.heap.size Z K N M R J hL.1.1 0 (show 0 < Z by have := hL.2.1.1.1; omega) hL.2.1.1.2.1 (xs (i + 1).toNatClampNeg) (iv_any _) 4 hL.2.1.2.1.1 3 hL.2.1.2.1.2.1) s_L_137 ⟨rfl, rfl, ⟨Nat.le_of_ble_eq_true rfl, Nat.le_of_ble_eq_true rfl⟩, Nat.le_of_ble_eq_true rfl, Nat.le_of_ble_eq_true rfl⟩ (show 0 < Z by have := hL.2.1.1.1; omega) hL.2.1.1.2.1 (by decide) rfl rfl hl.1 rfl (Nat.le_of_ble_eq_true rfl) dL_law_1117) (fun r1 H locs Z1 K1 N1 M1 R1 J1 hG ht hE => ?_)
  have hJ : LJ Z1 K1 N1 M1 R1 := LI.image hL ht hE.2 rfl rfl rfl
  have hq := hE.2
  refine lv_pop hx hb dL_law_1120 rfl ?_
  refine lv_aload_n hx hb dL_law_1121 rfl (lv_at hl 1 rfl) ?_
  refine lv_aload_n hx hb dL_law_1122 rfl (lv_at hl 3 rfl) ?_
  refine lv_iload_n hx hb dL_law_1123 rfl (lv_at hl 0 rfl) ?_
  refine lv_iconst (v := 1) hx hb dL_law_1124 (by decide) ?_
  refine lv_iadd hx hb dL_law_1125 ?_
  refine va_sld hx hb hX hbl hbA hG.2.2 (hI 1 ⟨by decide, by decide⟩) dL_law_1126 ?_
  refine lw_goe hG (md_runV (As := [.int (xs (i + 1).toNatClampNeg)]) (rest := []) hx hb hml hown hW hK hT hG (t_X12_image l D cy tx s.heap.size Z1 K1 N1 M1 R1 J1 hJ.1.1 69 (show 69 < Z1 by have := hJ.2.1.1.1; omega) hJ.2.1.1.2.2 (xs (i + 1).toNatClampNeg) (iv_any _) 81 hJ.2.1.2.2.2.2.1.1 102 hJ.2.1.2.2.2.2.1.2.1 103 hJ.2.1.2.2.2.2.1.2.2) s_L_140 ⟨rfl, rfl, ⟨Nat.le_of_ble_eq_true rfl, Nat.le_of_ble_eq_true rfl⟩, Nat.le_of_ble_eq_true rfl, Nat.le_of_ble_eq_true rfl⟩ (show 69 < Z1 by have := hJ.2.1.1.1; omega) hJ.2.1.1.2.2 (by decide) rfl rfl hl.1 rfl (Nat.le_of_ble_eq_true rfl) dL_law_1127) (fun r2 H locs M2 R2 J2 hG hT2 f2 g2 hE => ?_)
  have hL := LI.image2 hL ht hq hJ hT2 f2.B g2.B hE.2 rfl rfl
  refine lv_pop hx hb dL_law_1130 rfl ?_
  refine lv_goto (tgt := 1157) hx hb dL_law_1131 (by decide) ?_
  refine lw_tt hG hL ?_
  exact kt Z1 K1 N1 M2 R2 J2 H locs ls hG hL hl
set_option maxRecDepth 100000 in
set_option maxHeartbeats 4000000 in
theorem law_back (C0 : lw_F p s m meth c b Ln xs D cy tx) {i : Int32} (hI : ∀ k : Int32, 0 ≤ k.toInt ∧ k.toInt ≤ 5 → vp_in (i + k) Ln) {Z : Nat} {K N : Nat → Nat} {M : MT} {R : RT} {J : JT} {H : Heap} {locs : List Loc} (hG : md_G D cy s.heap.size Z K N M R J s H locs) (hL : LI Z K N M R) {ls : Array Slot} (hl : lv_has ls 4 [(3, .int i), (2, .ref (s.heap.size + 69)), (1, .ref (s.heap.size + 0)), (0, .ref b)]) (kt : lw_KT p l e s m below meth c b D cy i) : W p l e room_1 s m #[Value.ref b] below meth c H locs 4000 500000 (lw_Z below #[Value.ref b] s) (F0 m 1134 ls []) := by
  obtain ⟨hx, hb, hr, hml, hown, hW, hX, hbl, hlocks, hK, hT⟩ := C0
  have hbA : ¬ (fun q : Nat => s.heap.size ≤ q) b := Nat.not_le.mpr hbl
  refine lv_aload_n hx hb dL_law_1134 rfl (lv_at hl 2 rfl) ?_
  refine lv_aload_n hx hb dL_law_1135 rfl (lv_at hl 3 rfl) ?_
  refine lv_iload_n hx hb dL_law_1136 rfl (lv_at hl 0 rfl) ?_
  refine lv_iconst (v := 1) hx hb dL_law_1137 (by decide) ?_
  refine lv_iadd hx hb dL_law_1138 ?_
  refine va_sld hx hb hX hbl hbA hG.2.2 (hI 1 ⟨by decide, by decide⟩) dL_law_1139 ?_
  refine lw_goe hG (md_runV (As := [.int (xs (i + 1).toNatClampNeg)]) (rest := []) hx hb hml hown hW hK hT hG (t_X11_back_vx l D cy tx s.heap.size Z K N M R J hL.1.1 0 (show 0 < Z by have := hL.2.1.1.1; omega) hL.2.1.1.2.1 (xs (i + 1).toNatClampNeg) (iv_any _) 4 hL.2.1.2.1.1 3 hL.2.1.2.1.2.1) s_L_141 ⟨rfl, rfl, ⟨Nat.le_of_ble_eq_true rfl, Nat.le_of_ble_eq_true rfl⟩, Nat.le_of_ble_eq_true rfl, Nat.le_of_ble_eq_true rfl⟩ (show 0 < Z by have := hL.2.1.1.1; omega) hL.2.1.1.2.1 (by decide) rfl rfl hl.1 rfl (Nat.le_of_ble_eq_true rfl) dL_law_1140) (fun r1 H locs M1 R1 J1 hG hT1 f1 g1 hE => ?_)
  have hq := hE.2
  have hJ := LJ.step hL.lj hT1 f1.B g1.B rfl
  refine lv_pop hx hb dL_law_1143 rfl ?_
  refine lv_aload_n hx hb dL_law_1144 rfl (lv_at hl 1 rfl) ?_
  refine lv_aload_n hx hb dL_law_1145 rfl (lv_at hl 3 rfl) ?_
  refine lv_iload_n hx hb dL_law_1146 rfl (lv_at hl 0 rfl) ?_
  refine lv_iconst (v := 1) hx hb dL_law_1147 (by decide) ?_
  refine lv_iadd hx hb dL_law_1148 ?_
  refine va_sld hx hb hX hbl hbA hG.2.2 (hI 1 ⟨by decide, by decide⟩) dL_law_1149 ?_
  refine lw_goe hG (md_runV (As := [.int (xs (i + 1).toNatClampNeg)]) (rest := []) hx hb hml hown hW hK hT hG (t_X12_back l D cy tx s.heap.size Z K N M1 R1 J1 hJ.1.1 69 (show 69 < Z by have := hJ.2.1.1.1; omega) hJ.2.1.1.2.2 (xs (i + 1).toNatClampNeg) (iv_any _) 81 hJ.2.1.2.2.2.2.1.1 102 hJ.2.1.2.2.2.2.1.2.1 103 hJ.2.1.2.2.2.2.1.2.2) s_L_144 ⟨rfl, rfl, ⟨Nat.le_of_ble_eq_true rfl, Nat.le_of_ble_eq_true rfl⟩, Nat.le_of_ble_eq_true rfl, Nat.le_of_ble_eq_true rfl⟩ (show 69 < Z by have := hJ.2.1.1.1; omega) hJ.2.1.1.2.2 (by decide) rfl rfl hl.1 rfl (Nat.le_of_ble_eq_true rfl) dL_law_1150) (fun r2 H locs M2 R2 J2 hG hT2 f2 g2 hE => ?_)
  have hL := LI.back hL hT1 f1.B g1.B hq hT2 f2.B g2.B hE.2 rfl rfl rfl
  refine lv_pop hx hb dL_law_1153 rfl ?_
  refine lv_goto (tgt := 1157) hx hb dL_law_1154 (by decide) ?_
  refine lw_tt hG hL ?_
  exact kt Z K N M2 R2 J2 H locs ls hG hL hl
end LAWC24
