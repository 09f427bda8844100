def Lt_X9_takeFrom : WL := [(10, 0, 9), (14, 0, 2000000), (20, 0, 2000000), (21, 0, 2000000)]
def LRt_X9_takeFrom : WL := []
set_option maxRecDepth 100000 in
set_option maxHeartbeats 4000000 in
theorem t_X9_takeFrom (l : Launch) (D : va_G) (cy : Nat → ClassId) (tx : (Nat → Nat) × (Nat → Nat)) (base Z : Nat) (K N : Nat → Nat) (Ma : MT) (Ra : RT) (Ja : JT) (hTy : Ty Z K N Ma Ra) (a0 : Nat) (hz_a0 : a0 < Z) (hk_a0 : K a0 = 10) (a1 : Nat) (hz_a1 : a1 < Z) (hk_a1 : K a1 = 10) : Met l yX9_takeFrom [Cond.code yX9_takeFrom cX9_takeFrom 2 none] (md_rm 1 0 0) (va_Pc [.ref (base + a0), .ref (base + a1)] (md_U D cy tx base Z K N Ma Ra Ja)) (mQv D cy tx base (fun u => TP Z K N Lt_X9_takeFrom LRt_X9_takeFrom Ma Ra u ∧ (True))) 0 0 (fun q => base ≤ q) := by
  refine tw_ofW (L := Lt_X9_takeFrom) (LR := LRt_X9_takeFrom) (by decide) (Nat.le_of_ble_eq_true rfl) hTy ?_
  intro p e s m args below meth c Q ls hx hb hr hlocks hown hml hW hK hT hS hQ hl
  have hl : lv_has ls 2 [(0, .ref (base + a0)), (1, .ref (base + a1))] := hl
  refine lv_aload_n hx hb dX9_takeFrom_0 rfl (lv_at hl 0 rfl) ?_
  refine lv_aload_n hx hb dX9_takeFrom_1 rfl (lv_at hl 1 rfl) ?_
  refine tw_geti hx hb hW hown hK hS f_X9_33_9 hz_a1 hk_a1 (lo := (-2147483648)) (hi := 10) rfl dX9_takeFrom_2 (fun x3 k2 h1 => ?_)
  refine tw_puti hx hb hW hown hK hS f_X9_33_9 hz_a0 hk_a0 rfl rfl (lo := (-2147483648)) (hi := 10) rfl h1 rfl dX9_takeFrom_5 (fun H locs M6 hS k4 f5 => ?_)
  refine lv_aload_n hx hb dX9_takeFrom_8 rfl (lv_at hl 0 rfl) ?_
  refine lv_aload_n hx hb dX9_takeFrom_9 rfl (lv_at hl 1 rfl) ?_
  refine tw_geti hx hb hW hown hK hS f_X9_37_9 hz_a1 hk_a1 (lo := 0) (hi := 12) rfl dX9_takeFrom_10 (fun x9 k8 h7 => ?_)
  refine tw_puti hx hb hW hown hK hS f_X9_37_9 hz_a0 hk_a0 rfl rfl (lo := 0) (hi := 12) rfl h7 rfl dX9_takeFrom_13 (fun H locs M12 hS k10 f11 => ?_)
  refine lv_aload_n hx hb dX9_takeFrom_16 rfl (lv_at hl 0 rfl) ?_
  refine lv_aload_n hx hb dX9_takeFrom_17 rfl (lv_at hl 1 rfl) ?_
  refine tw_geti hx hb hW hown hK hS f_X9_40_9 hz_a1 hk_a1 (lo := (-2147483648)) (hi := 2147483647) rfl dX9_takeFrom_18 (fun x15 k14 h13 => ?_)
  refine tw_puti hx hb hW hown hK hS f_X9_40_9 hz_a0 hk_a0 rfl rfl (lo := (-2147483648)) (hi := 2147483647) rfl h13 rfl dX9_takeFrom_21 (fun H locs M18 hS k16 f17 => ?_)
  refine lv_aload_n hx hb dX9_takeFrom_24 rfl (lv_at hl 0 rfl) ?_
  refine lv_aload_n hx hb dX9_takeFrom_25 rfl (lv_at hl 1 rfl) ?_
  refine tw_geti hx hb hW hown hK hS f_X9_43_9 hz_a1 hk_a1 (lo := (-2147483648)) (hi := 2147483647) rfl dX9_takeFrom_26 (fun x21 k20 h19 => ?_)
  refine tw_puti hx hb hW hown hK hS f_X9_43_9 hz_a0 hk_a0 rfl rfl (lo := (-2147483648)) (hi := 2147483647) rfl h19 rfl dX9_takeFrom_29 (fun H locs M24 hS k22 f23 => ?_)
  refine lv_aload_n hx hb dX9_takeFrom_32 rfl (lv_at hl 0 rfl) ?_
  refine lv_aload_n hx hb dX9_takeFrom_33 rfl (lv_at hl 1 rfl) ?_
  refine tw_geti hx hb hW hown hK hS f_X9_46_9 hz_a1 hk_a1 (lo := (-2147483648)) (hi := 2147483647) rfl dX9_takeFrom_34 (fun x27 k26 h25 => ?_)
  refine tw_puti hx hb hW hown hK hS f_X9_46_9 hz_a0 hk_a0 rfl rfl (lo := (-2147483648)) (hi := 2147483647) rfl h25 rfl dX9_takeFrom_37 (fun H locs M30 hS k28 f29 => ?_)
  refine lv_aload_n hx hb dX9_takeFrom_40 rfl (lv_at hl 0 rfl) ?_
  refine lv_aload_n hx hb dX9_takeFrom_41 rfl (lv_at hl 1 rfl) ?_
  refine tw_geti hx hb hW hown hK hS f_X9_49_9 hz_a1 hk_a1 (lo := 0) (hi := 9999) rfl dX9_takeFrom_42 (fun x33 k32 h31 => ?_)
  refine tw_puti hx hb hW hown hK hS f_X9_49_9 hz_a0 hk_a0 rfl rfl (lo := 0) (hi := 9999) rfl h31 rfl dX9_takeFrom_45 (fun H locs M36 hS k34 f35 => ?_)
  refine lv_aload_n hx hb dX9_takeFrom_48 rfl (lv_at hl 0 rfl) ?_
  refine lv_aload_n hx hb dX9_takeFrom_49 rfl (lv_at hl 1 rfl) ?_
  refine tw_geti hx hb hW hown hK hS f_X9_58_9 hz_a1 hk_a1 (lo := 0) (hi := 2147483647) rfl dX9_takeFrom_50 (fun x39 k38 h37 => ?_)
  refine tw_puti hx hb hW hown hK hS f_X9_58_9 hz_a0 hk_a0 rfl rfl (lo := 0) (hi := 2147483647) rfl h37 rfl dX9_takeFrom_53 (fun H locs M42 hS k40 f41 => ?_)
  refine lv_aload_n hx hb dX9_takeFrom_56 rfl (lv_at hl 0 rfl) ?_
  refine lv_aload_n hx hb dX9_takeFrom_57 rfl (lv_at hl 1 rfl) ?_
  refine tw_geti hx hb hW hown hK hS f_X9_52_9 hz_a1 hk_a1 (lo := 0) (hi := 8) rfl dX9_takeFrom_58 (fun x45 k44 h43 => ?_)
  refine tw_puti hx hb hW hown hK hS f_X9_52_9 hz_a0 hk_a0 rfl rfl (lo := 0) (hi := 8) rfl h43 rfl dX9_takeFrom_61 (fun H locs M48 hS k46 f47 => ?_)
  refine lv_aload_n hx hb dX9_takeFrom_64 rfl (lv_at hl 0 rfl) ?_
  refine lv_aload_n hx hb dX9_takeFrom_65 rfl (lv_at hl 1 rfl) ?_
  refine tw_geti hx hb hW hown hK hS f_X9_55_9 hz_a1 hk_a1 (lo := 0) (hi := 12) rfl dX9_takeFrom_66 (fun x51 k50 h49 => ?_)
  refine tw_puti hx hb hW hown hK hS f_X9_55_9 hz_a0 hk_a0 rfl rfl (lo := 0) (hi := 12) rfl h49 rfl dX9_takeFrom_69 (fun H locs M54 hS k52 f53 => ?_)
  refine lv_aload_n hx hb dX9_takeFrom_72 rfl (lv_at hl 1 rfl) ?_
  refine tw_getr hx hb hW hown hK hS f_X9_9_9 hz_a1 hk_a1 (t := 14) (n := 120) rfl dX9_takeFrom_73 (fun b55 k56 hz_b55 hk_b55 hn_b55 => ?_)
  have hn_b55 := hn_b55 (by decide)
  refine lv_iconst (v := 0) hx hb dX9_takeFrom_76 (by decide) ?_
  refine lv_aload_n hx hb dX9_takeFrom_77 rfl (lv_at hl 0 rfl) ?_
  refine tw_getr hx hb hW hown hK hS f_X9_9_9 hz_a0 hk_a0 (t := 14) (n := 120) rfl dX9_takeFrom_78 (fun b57 k58 hz_b57 hk_b57 hn_b57 => ?_)
  have hn_b57 := hn_b57 (by decide)
  refine lv_iconst (v := 0) hx hb dX9_takeFrom_81 (by decide) ?_
  refine lv_aload_n hx hb dX9_takeFrom_82 rfl (lv_at hl 0 rfl) ?_
  refine tw_getrk hx hb hW hown hK hS f_X9_9_9 hz_a0 hk_a0 (b := b57) k58 dX9_takeFrom_83 ?_
  refine tw_alenk hx hb hK hS hz_b57 hk_b57 (by decide) hn_b57 (v := 120) (by decide) dX9_takeFrom_86 ?_
  refine tw_copy hx hb (hml.trans hl.1.symm) hW hown hK hS (md_okc w_3_224 rfl (md_okc w_3_226 rfl (md_okc w_3_225 rfl (md_okc w_1_18 rfl (md_ok0))))) hz_b57 hk_b57 (Or.inl rfl) hz_b55 hk_b55 (Or.inl rfl) hn_b57 hn_b55 (by have := ((iv_c (c := 120) (n := 120) (by decide))).1; have := ((iv_c (c := 120) (n := 120) (by decide))).2; have := ((iv_c (c := 0) (n := 0) (by decide))).1; have := ((iv_c (c := 0) (n := 0) (by decide))).2; have := ((iv_c (c := 0) (n := 0) (by decide))).1; have := ((iv_c (c := 0) (n := 0) (by decide))).2; omega) (by have := ((iv_c (c := 120) (n := 120) (by decide))).1; have := ((iv_c (c := 120) (n := 120) (by decide))).2; have := ((iv_c (c := 0) (n := 0) (by decide))).1; have := ((iv_c (c := 0) (n := 0) (by decide))).2; have := ((iv_c (c := 0) (n := 0) (by decide))).1; have := ((iv_c (c := 0) (n := 0) (by decide))).2; omega) (by have := ((iv_c (c := 120) (n := 120) (by decide))).1; have := ((iv_c (c := 120) (n := 120) (by decide))).2; have := ((iv_c (c := 0) (n := 0) (by decide))).1; have := ((iv_c (c := 0) (n := 0) (by decide))).2; have := ((iv_c (c := 0) (n := 0) (by decide))).1; have := ((iv_c (c := 0) (n := 0) (by decide))).2; omega) (by have := ((iv_c (c := 120) (n := 120) (by decide))).1; have := ((iv_c (c := 120) (n := 120) (by decide))).2; have := ((iv_c (c := 0) (n := 0) (by decide))).1; have := ((iv_c (c := 0) (n := 0) (by decide))).2; have := ((iv_c (c := 0) (n := 0) (by decide))).1; have := ((iv_c (c := 0) (n := 0) (by decide))).2; omega) (by have := ((iv_c (c := 120) (n := 120) (by decide))).1; have := ((iv_c (c := 120) (n := 120) (by decide))).2; have := ((iv_c (c := 0) (n := 0) (by decide))).1; have := ((iv_c (c := 0) (n := 0) (by decide))).2; have := ((iv_c (c := 0) (n := 0) (by decide))).1; have := ((iv_c (c := 0) (n := 0) (by decide))).2; omega) (fun _ _ => ⟨by show (-2147483648 : Int) ≤ -2147483648; decide, by show (2147483647 : Int) ≤ 2147483647; decide⟩) (Nat.le_of_ble_eq_true rfl) (Nat.le_of_ble_eq_true rfl) rfl dX9_takeFrom_87 (fun H locs M61 hS f59 k60 => ?_)
  refine lv_aload_n hx hb dX9_takeFrom_90 rfl (lv_at hl 1 rfl) ?_
  refine tw_getr hx hb hW hown hK hS f_X9_15_9 hz_a1 hk_a1 (t := 20) (n := 10) rfl dX9_takeFrom_91 (fun b62 k63 hz_b62 hk_b62 hn_b62 => ?_)
  have hn_b62 := hn_b62 (by decide)
  refine lv_iconst (v := 0) hx hb dX9_takeFrom_94 (by decide) ?_
  refine lv_aload_n hx hb dX9_takeFrom_95 rfl (lv_at hl 0 rfl) ?_
  refine tw_getr hx hb hW hown hK hS f_X9_15_9 hz_a0 hk_a0 (t := 20) (n := 10) rfl dX9_takeFrom_96 (fun b64 k65 hz_b64 hk_b64 hn_b64 => ?_)
  have hn_b64 := hn_b64 (by decide)
  refine lv_iconst (v := 0) hx hb dX9_takeFrom_99 (by decide) ?_
  refine lv_bipush (v := 10) hx hb dX9_takeFrom_100 (by decide) ?_
  refine tw_copy hx hb (hml.trans hl.1.symm) hW hown hK hS (md_okc w_3_224 rfl (md_okc w_3_226 rfl (md_okc w_3_225 rfl (md_okc w_1_18 rfl (md_ok0))))) hz_b64 hk_b64 (Or.inr (by decide)) hz_b62 hk_b62 (Or.inr (by decide)) hn_b64 hn_b62 (by have := ((iv_c (c := 10) (n := 10) (by decide))).1; have := ((iv_c (c := 10) (n := 10) (by decide))).2; have := ((iv_c (c := 0) (n := 0) (by decide))).1; have := ((iv_c (c := 0) (n := 0) (by decide))).2; have := ((iv_c (c := 0) (n := 0) (by decide))).1; have := ((iv_c (c := 0) (n := 0) (by decide))).2; omega) (by have := ((iv_c (c := 10) (n := 10) (by decide))).1; have := ((iv_c (c := 10) (n := 10) (by decide))).2; have := ((iv_c (c := 0) (n := 0) (by decide))).1; have := ((iv_c (c := 0) (n := 0) (by decide))).2; have := ((iv_c (c := 0) (n := 0) (by decide))).1; have := ((iv_c (c := 0) (n := 0) (by decide))).2; omega) (by have := ((iv_c (c := 10) (n := 10) (by decide))).1; have := ((iv_c (c := 10) (n := 10) (by decide))).2; have := ((iv_c (c := 0) (n := 0) (by decide))).1; have := ((iv_c (c := 0) (n := 0) (by decide))).2; have := ((iv_c (c := 0) (n := 0) (by decide))).1; have := ((iv_c (c := 0) (n := 0) (by decide))).2; omega) (by have := ((iv_c (c := 10) (n := 10) (by decide))).1; have := ((iv_c (c := 10) (n := 10) (by decide))).2; have := ((iv_c (c := 0) (n := 0) (by decide))).1; have := ((iv_c (c := 0) (n := 0) (by decide))).2; have := ((iv_c (c := 0) (n := 0) (by decide))).1; have := ((iv_c (c := 0) (n := 0) (by decide))).2; omega) (by have := ((iv_c (c := 10) (n := 10) (by decide))).1; have := ((iv_c (c := 10) (n := 10) (by decide))).2; have := ((iv_c (c := 0) (n := 0) (by decide))).1; have := ((iv_c (c := 0) (n := 0) (by decide))).2; have := ((iv_c (c := 0) (n := 0) (by decide))).1; have := ((iv_c (c := 0) (n := 0) (by decide))).2; omega) (fun _ _ => ⟨by show (-2147483648 : Int) ≤ -2147483648; decide, by show (2147483647 : Int) ≤ 2147483647; decide⟩) (Nat.le_of_ble_eq_true rfl) (Nat.le_of_ble_eq_true rfl) rfl dX9_takeFrom_102 (fun H locs M68 hS f66 k67 => ?_)
  refine lv_aload_n hx hb dX9_takeFrom_105 rfl (lv_at hl 1 rfl) ?_
  refine tw_getr hx hb hW hown hK hS f_X9_18_9 hz_a1 hk_a1 (t := 14) (n := 10) rfl dX9_takeFrom_106 (fun b69 k70 hz_b69 hk_b69 hn_b69 => ?_)
  have hn_b69 := hn_b69 (by decide)
  refine lv_iconst (v := 0) hx hb dX9_takeFrom_109 (by decide) ?_
  refine lv_aload_n hx hb dX9_takeFrom_110 rfl (lv_at hl 0 rfl) ?_
  refine tw_getr hx hb hW hown hK hS f_X9_18_9 hz_a0 hk_a0 (t := 14) (n := 10) rfl dX9_takeFrom_111 (fun b71 k72 hz_b71 hk_b71 hn_b71 => ?_)
  have hn_b71 := hn_b71 (by decide)
  refine lv_iconst (v := 0) hx hb dX9_takeFrom_114 (by decide) ?_
  refine lv_bipush (v := 10) hx hb dX9_takeFrom_115 (by decide) ?_
  refine tw_copy hx hb (hml.trans hl.1.symm) hW hown hK hS (md_okc w_3_224 rfl (md_okc w_3_226 rfl (md_okc w_3_225 rfl (md_okc w_1_18 rfl (md_ok0))))) hz_b71 hk_b71 (Or.inl rfl) hz_b69 hk_b69 (Or.inl rfl) hn_b71 hn_b69 (by have := ((iv_c (c := 10) (n := 10) (by decide))).1; have := ((iv_c (c := 10) (n := 10) (by decide))).2; have := ((iv_c (c := 0) (n := 0) (by decide))).1; have := ((iv_c (c := 0) (n := 0) (by decide))).2; have := ((iv_c (c := 0) (n := 0) (by decide))).1; have := ((iv_c (c := 0) (n := 0) (by decide))).2; omega) (by have := ((iv_c (c := 10) (n := 10) (by decide))).1; have := ((iv_c (c := 10) (n := 10) (by decide))).2; have := ((iv_c (c := 0) (n := 0) (by decide))).1; have := ((iv_c (c := 0) (n := 0) (by decide))).2; have := ((iv_c (c := 0) (n := 0) (by decide))).1; have := ((iv_c (c := 0) (n := 0) (by decide))).2; omega) (by have := ((iv_c (c := 10) (n := 10) (by decide))).1; have := ((iv_c (c := 10) (n := 10) (by decide))).2; have := ((iv_c (c := 0) (n := 0) (by decide))).1; have := ((iv_c (c := 0) (n := 0) (by decide))).2; have := ((iv_c (c := 0) (n := 0) (by decide))).1; have := ((iv_c (c := 0) (n := 0) (by decide))).2; omega) (by have := ((iv_c (c := 10) (n := 10) (by decide))).1; have := ((iv_c (c := 10) (n := 10) (by decide))).2; have := ((iv_c (c := 0) (n := 0) (by decide))).1; have := ((iv_c (c := 0) (n := 0) (by decide))).2; have := ((iv_c (c := 0) (n := 0) (by decide))).1; have := ((iv_c (c := 0) (n := 0) (by decide))).2; omega) (by have := ((iv_c (c := 10) (n := 10) (by decide))).1; have := ((iv_c (c := 10) (n := 10) (by decide))).2; have := ((iv_c (c := 0) (n := 0) (by decide))).1; have := ((iv_c (c := 0) (n := 0) (by decide))).2; have := ((iv_c (c := 0) (n := 0) (by decide))).1; have := ((iv_c (c := 0) (n := 0) (by decide))).2; omega) (fun _ _ => ⟨by show (-2147483648 : Int) ≤ -2147483648; decide, by show (2147483647 : Int) ≤ 2147483647; decide⟩) (Nat.le_of_ble_eq_true rfl) (Nat.le_of_ble_eq_true rfl) rfl dX9_takeFrom_117 (fun H locs M75 hS f73 k74 => ?_)
  refine lv_aload_n hx hb dX9_takeFrom_120 rfl (lv_at hl 1 rfl) ?_
  refine tw_getr hx hb hW hown hK hS f_X9_21_9 hz_a1 hk_a1 (t := 14) (n := 10) rfl dX9_takeFrom_121 (fun b76 k77 hz_b76 hk_b76 hn_b76 => ?_)
  have hn_b76 := hn_b76 (by decide)
  refine lv_iconst (v := 0) hx hb dX9_takeFrom_124 (by decide) ?_
  refine lv_aload_n hx hb dX9_takeFrom_125 rfl (lv_at hl 0 rfl) ?_
  refine tw_getr hx hb hW hown hK hS f_X9_21_9 hz_a0 hk_a0 (t := 14) (n := 10) rfl dX9_takeFrom_126 (fun b78 k79 hz_b78 hk_b78 hn_b78 => ?_)
  have hn_b78 := hn_b78 (by decide)
  refine lv_iconst (v := 0) hx hb dX9_takeFrom_129 (by decide) ?_
  refine lv_bipush (v := 10) hx hb dX9_takeFrom_130 (by decide) ?_
  refine tw_copy hx hb (hml.trans hl.1.symm) hW hown hK hS (md_okc w_3_224 rfl (md_okc w_3_226 rfl (md_okc w_3_225 rfl (md_okc w_1_18 rfl (md_ok0))))) hz_b78 hk_b78 (Or.inl rfl) hz_b76 hk_b76 (Or.inl rfl) hn_b78 hn_b76 (by have := ((iv_c (c := 10) (n := 10) (by decide))).1; have := ((iv_c (c := 10) (n := 10) (by decide))).2; have := ((iv_c (c := 0) (n := 0) (by decide))).1; have := ((iv_c (c := 0) (n := 0) (by decide))).2; have := ((iv_c (c := 0) (n := 0) (by decide))).1; have := ((iv_c (c := 0) (n := 0) (by decide))).2; omega) (by have := ((iv_c (c := 10) (n := 10) (by decide))).1; have := ((iv_c (c := 10) (n := 10) (by decide))).2; have := ((iv_c (c := 0) (n := 0) (by decide))).1; have := ((iv_c (c := 0) (n := 0) (by decide))).2; have := ((iv_c (c := 0) (n := 0) (by decide))).1; have := ((iv_c (c := 0) (n := 0) (by decide))).2; omega) (by have := ((iv_c (c := 10) (n := 10) (by decide))).1; have := ((iv_c (c := 10) (n := 10) (by decide))).2; have := ((iv_c (c := 0) (n := 0) (by decide))).1; have := ((iv_c (c := 0) (n := 0) (by decide))).2; have := ((iv_c (c := 0) (n := 0) (by decide))).1; have := ((iv_c (c := 0) (n := 0) (by decide))).2; omega) (by have := ((iv_c (c := 10) (n := 10) (by decide))).1; have := ((iv_c (c := 10) (n := 10) (by decide))).2; have := ((iv_c (c := 0) (n := 0) (by decide))).1; have := ((iv_c (c := 0) (n := 0) (by decide))).2; have := ((iv_c (c := 0) (n := 0) (by decide))).1; have := ((iv_c (c := 0) (n := 0) (by decide))).2; omega) (by have := ((iv_c (c := 10) (n := 10) (by decide))).1; have := ((iv_c (c := 10) (n := 10) (by decide))).2; have := ((iv_c (c := 0) (n := 0) (by decide))).1; have := ((iv_c (c := 0) (n := 0) (by decide))).2; have := ((iv_c (c := 0) (n := 0) (by decide))).1; have := ((iv_c (c := 0) (n := 0) (by decide))).2; omega) (fun _ _ => ⟨by show (-2147483648 : Int) ≤ -2147483648; decide, by show (2147483647 : Int) ≤ 2147483647; decide⟩) (Nat.le_of_ble_eq_true rfl) (Nat.le_of_ble_eq_true rfl) rfl dX9_takeFrom_132 (fun H locs M82 hS f80 k81 => ?_)
  refine lv_aload_n hx hb dX9_takeFrom_135 rfl (lv_at hl 1 rfl) ?_
  refine tw_getr hx hb hW hown hK hS f_X9_24_9 hz_a1 hk_a1 (t := 14) (n := 10) rfl dX9_takeFrom_136 (fun b83 k84 hz_b83 hk_b83 hn_b83 => ?_)
  have hn_b83 := hn_b83 (by decide)
  refine lv_iconst (v := 0) hx hb dX9_takeFrom_139 (by decide) ?_
  refine lv_aload_n hx hb dX9_takeFrom_140 rfl (lv_at hl 0 rfl) ?_
  refine tw_getr hx hb hW hown hK hS f_X9_24_9 hz_a0 hk_a0 (t := 14) (n := 10) rfl dX9_takeFrom_141 (fun b85 k86 hz_b85 hk_b85 hn_b85 => ?_)
  have hn_b85 := hn_b85 (by decide)
  refine lv_iconst (v := 0) hx hb dX9_takeFrom_144 (by decide) ?_
  refine lv_bipush (v := 10) hx hb dX9_takeFrom_145 (by decide) ?_
  refine tw_copy hx hb (hml.trans hl.1.symm) hW hown hK hS (md_okc w_3_224 rfl (md_okc w_3_226 rfl (md_okc w_3_225 rfl (md_okc w_1_18 rfl (md_ok0))))) hz_b85 hk_b85 (Or.inl rfl) hz_b83 hk_b83 (Or.inl rfl) hn_b85 hn_b83 (by have := ((iv_c (c := 10) (n := 10) (by decide))).1; have := ((iv_c (c := 10) (n := 10) (by decide))).2; have := ((iv_c (c := 0) (n := 0) (by decide))).1; have := ((iv_c (c := 0) (n := 0) (by decide))).2; have := ((iv_c (c := 0) (n := 0) (by decide))).1; have := ((iv_c (c := 0) (n := 0) (by decide))).2; omega) (by have := ((iv_c (c := 10) (n := 10) (by decide))).1; have := ((iv_c (c := 10) (n := 10) (by decide))).2; have := ((iv_c (c := 0) (n := 0) (by decide))).1; have := ((iv_c (c := 0) (n := 0) (by decide))).2; have := ((iv_c (c := 0) (n := 0) (by decide))).1; have := ((iv_c (c := 0) (n := 0) (by decide))).2; omega) (by have := ((iv_c (c := 10) (n := 10) (by decide))).1; have := ((iv_c (c := 10) (n := 10) (by decide))).2; have := ((iv_c (c := 0) (n := 0) (by decide))).1; have := ((iv_c (c := 0) (n := 0) (by decide))).2; have := ((iv_c (c := 0) (n := 0) (by decide))).1; have := ((iv_c (c := 0) (n := 0) (by decide))).2; omega) (by have := ((iv_c (c := 10) (n := 10) (by decide))).1; have := ((iv_c (c := 10) (n := 10) (by decide))).2; have := ((iv_c (c := 0) (n := 0) (by decide))).1; have := ((iv_c (c := 0) (n := 0) (by decide))).2; have := ((iv_c (c := 0) (n := 0) (by decide))).1; have := ((iv_c (c := 0) (n := 0) (by decide))).2; omega) (by have := ((iv_c (c := 10) (n := 10) (by decide))).1; have := ((iv_c (c := 10) (n := 10) (by decide))).2; have := ((iv_c (c := 0) (n := 0) (by decide))).1; have := ((iv_c (c := 0) (n := 0) (by decide))).2; have := ((iv_c (c := 0) (n := 0) (by decide))).1; have := ((iv_c (c := 0) (n := 0) (by decide))).2; omega) (fun _ _ => ⟨by show (-2147483648 : Int) ≤ -2147483648; decide, by show (2147483647 : Int) ≤ 2147483647; decide⟩) (Nat.le_of_ble_eq_true rfl) (Nat.le_of_ble_eq_true rfl) rfl dX9_takeFrom_147 (fun H locs M89 hS f87 k88 => ?_)
  refine lv_aload_n hx hb dX9_takeFrom_150 rfl (lv_at hl 1 rfl) ?_
  refine tw_getr hx hb hW hown hK hS f_X9_27_9 hz_a1 hk_a1 (t := 21) (n := 8) rfl dX9_takeFrom_151 (fun b90 k91 hz_b90 hk_b90 hn_b90 => ?_)
  have hn_b90 := hn_b90 (by decide)
  refine lv_iconst (v := 0) hx hb dX9_takeFrom_154 (by decide) ?_
  refine lv_aload_n hx hb dX9_takeFrom_155 rfl (lv_at hl 0 rfl) ?_
  refine tw_getr hx hb hW hown hK hS f_X9_27_9 hz_a0 hk_a0 (t := 21) (n := 8) rfl dX9_takeFrom_156 (fun b92 k93 hz_b92 hk_b92 hn_b92 => ?_)
  have hn_b92 := hn_b92 (by decide)
  refine lv_iconst (v := 0) hx hb dX9_takeFrom_159 (by decide) ?_
  refine lv_bipush (v := 8) hx hb dX9_takeFrom_160 (by decide) ?_
  refine tw_copy hx hb (hml.trans hl.1.symm) hW hown hK hS (md_okc w_3_224 rfl (md_okc w_3_226 rfl (md_okc w_3_225 rfl (md_okc w_1_18 rfl (md_ok0))))) hz_b92 hk_b92 (Or.inr (by decide)) hz_b90 hk_b90 (Or.inr (by decide)) hn_b92 hn_b90 (by have := ((iv_c (c := 8) (n := 8) (by decide))).1; have := ((iv_c (c := 8) (n := 8) (by decide))).2; have := ((iv_c (c := 0) (n := 0) (by decide))).1; have := ((iv_c (c := 0) (n := 0) (by decide))).2; have := ((iv_c (c := 0) (n := 0) (by decide))).1; have := ((iv_c (c := 0) (n := 0) (by decide))).2; omega) (by have := ((iv_c (c := 8) (n := 8) (by decide))).1; have := ((iv_c (c := 8) (n := 8) (by decide))).2; have := ((iv_c (c := 0) (n := 0) (by decide))).1; have := ((iv_c (c := 0) (n := 0) (by decide))).2; have := ((iv_c (c := 0) (n := 0) (by decide))).1; have := ((iv_c (c := 0) (n := 0) (by decide))).2; omega) (by have := ((iv_c (c := 8) (n := 8) (by decide))).1; have := ((iv_c (c := 8) (n := 8) (by decide))).2; have := ((iv_c (c := 0) (n := 0) (by decide))).1; have := ((iv_c (c := 0) (n := 0) (by decide))).2; have := ((iv_c (c := 0) (n := 0) (by decide))).1; have := ((iv_c (c := 0) (n := 0) (by decide))).2; omega) (by have := ((iv_c (c := 8) (n := 8) (by decide))).1; have := ((iv_c (c := 8) (n := 8) (by decide))).2; have := ((iv_c (c := 0) (n := 0) (by decide))).1; have := ((iv_c (c := 0) (n := 0) (by decide))).2; have := ((iv_c (c := 0) (n := 0) (by decide))).1; have := ((iv_c (c := 0) (n := 0) (by decide))).2; omega) (by have := ((iv_c (c := 8) (n := 8) (by decide))).1; have := ((iv_c (c := 8) (n := 8) (by decide))).2; have := ((iv_c (c := 0) (n := 0) (by decide))).1; have := ((iv_c (c := 0) (n := 0) (by decide))).2; have := ((iv_c (c := 0) (n := 0) (by decide))).1; have := ((iv_c (c := 0) (n := 0) (by decide))).2; omega) (fun _ _ => ⟨by show (0 : Int) ≤ 0; decide, by show (11 : Int) ≤ 11; decide⟩) (Nat.le_of_ble_eq_true rfl) (Nat.le_of_ble_eq_true rfl) rfl dX9_takeFrom_162 (fun H locs M96 hS f94 k95 => ?_)
  refine lv_aload_n hx hb dX9_takeFrom_165 rfl (lv_at hl 1 rfl) ?_
  refine tw_getr hx hb hW hown hK hS f_X9_30_9 hz_a1 hk_a1 (t := 14) (n := 48) rfl dX9_takeFrom_166 (fun b97 k98 hz_b97 hk_b97 hn_b97 => ?_)
  have hn_b97 := hn_b97 (by decide)
  refine lv_iconst (v := 0) hx hb dX9_takeFrom_169 (by decide) ?_
  refine lv_aload_n hx hb dX9_takeFrom_170 rfl (lv_at hl 0 rfl) ?_
  refine tw_getr hx hb hW hown hK hS f_X9_30_9 hz_a0 hk_a0 (t := 14) (n := 48) rfl dX9_takeFrom_171 (fun b99 k100 hz_b99 hk_b99 hn_b99 => ?_)
  have hn_b99 := hn_b99 (by decide)
  refine lv_iconst (v := 0) hx hb dX9_takeFrom_174 (by decide) ?_
  refine lv_aload_n hx hb dX9_takeFrom_175 rfl (lv_at hl 0 rfl) ?_
  refine tw_getrk hx hb hW hown hK hS f_X9_30_9 hz_a0 hk_a0 (b := b99) k100 dX9_takeFrom_176 ?_
  refine tw_alenk hx hb hK hS hz_b99 hk_b99 (by decide) hn_b99 (v := 48) (by decide) dX9_takeFrom_179 ?_
  refine tw_copy hx hb (hml.trans hl.1.symm) hW hown hK hS (md_okc w_3_224 rfl (md_okc w_3_226 rfl (md_okc w_3_225 rfl (md_okc w_1_18 rfl (md_ok0))))) hz_b99 hk_b99 (Or.inl rfl) hz_b97 hk_b97 (Or.inl rfl) hn_b99 hn_b97 (by have := ((iv_c (c := 48) (n := 48) (by decide))).1; have := ((iv_c (c := 48) (n := 48) (by decide))).2; have := ((iv_c (c := 0) (n := 0) (by decide))).1; have := ((iv_c (c := 0) (n := 0) (by decide))).2; have := ((iv_c (c := 0) (n := 0) (by decide))).1; have := ((iv_c (c := 0) (n := 0) (by decide))).2; omega) (by have := ((iv_c (c := 48) (n := 48) (by decide))).1; have := ((iv_c (c := 48) (n := 48) (by decide))).2; have := ((iv_c (c := 0) (n := 0) (by decide))).1; have := ((iv_c (c := 0) (n := 0) (by decide))).2; have := ((iv_c (c := 0) (n := 0) (by decide))).1; have := ((iv_c (c := 0) (n := 0) (by decide))).2; omega) (by have := ((iv_c (c := 48) (n := 48) (by decide))).1; have := ((iv_c (c := 48) (n := 48) (by decide))).2; have := ((iv_c (c := 0) (n := 0) (by decide))).1; have := ((iv_c (c := 0) (n := 0) (by decide))).2; have := ((iv_c (c := 0) (n := 0) (by decide))).1; have := ((iv_c (c := 0) (n := 0) (by decide))).2; omega) (by have := ((iv_c (c := 48) (n := 48) (by decide))).1; have := ((iv_c (c := 48) (n := 48) (by decide))).2; have := ((iv_c (c := 0) (n := 0) (by decide))).1; have := ((iv_c (c := 0) (n := 0) (by decide))).2; have := ((iv_c (c := 0) (n := 0) (by decide))).1; have := ((iv_c (c := 0) (n := 0) (by decide))).2; omega) (by have := ((iv_c (c := 48) (n := 48) (by decide))).1; have := ((iv_c (c := 48) (n := 48) (by decide))).2; have := ((iv_c (c := 0) (n := 0) (by decide))).1; have := ((iv_c (c := 0) (n := 0) (by decide))).2; have := ((iv_c (c := 0) (n := 0) (by decide))).1; have := ((iv_c (c := 0) (n := 0) (by decide))).2; omega) (fun _ _ => ⟨by show (-2147483648 : Int) ≤ -2147483648; decide, by show (2147483647 : Int) ≤ 2147483647; decide⟩) (Nat.le_of_ble_eq_true rfl) (Nat.le_of_ble_eq_true rfl) rfl dX9_takeFrom_180 (fun H locs M103 hS f101 k102 => ?_)
  exact tw_endv hx hb hr hlocks hK hT hS hQ (trivial) dX9_takeFrom_183
def Lt_X11_back : WL := [(10, 0, 9), (14, 0, 2000000), (20, 0, 2000000), (21, 0, 2000000)]
def LRt_X11_back : WL := []
set_option maxRecDepth 100000 in
set_option maxHeartbeats 4000000 in
theorem t_X11_back (l : Launch) (D : va_G) (cy : Nat → ClassId) (tx : (Nat → Nat) × (Nat → Nat)) (base Z : Nat) (K N : Nat → Nat) (Ma : MT) (Ra : RT) (Ja : JT) (hTy : Ty Z K N Ma Ra) (a0 : Nat) (hz_a0 : a0 < Z) (hk_a0 : K a0 = 11) (a1 : Int32) (h_a1 : iv (-2147483648) 2147483647 a1) : Met l yX11_back [Cond.code yX11_back cX11_back 2 (some .int)] (md_rm 2 0 0) (va_Pc [.ref (base + a0), .int a1] (md_U D cy tx base Z K N Ma Ra Ja)) (mQi D cy tx base (fun r u => TP Z K N Lt_X11_back LRt_X11_back Ma Ra u ∧ (iv (-2147483648) 2147483647 r))) 0 0 (fun q => base ≤ q) := by
  refine tw_ofW (L := Lt_X11_back) (LR := LRt_X11_back) (by decide) (Nat.le_of_ble_eq_true rfl) hTy ?_
  intro p e s m args below meth c Q ls hx hb hr hlocks hown hml hW hK hT hS hQ hl
  have hl : lv_has ls 2 [(0, .ref (base + a0)), (1, .int a1)] := hl
  refine lv_iload_n hx hb dX11_back_0 rfl (lv_at hl 1 rfl) ?_
  refine lv_if_lt (tgt := 18) hx hb dX11_back_1 (by decide) (fun c1 => ?_) (fun c1 => ?_)
  · have q2 : a1.toInt < 0 := ti_lt c1
    have h3 : iv (-2147483648) (-1) a1 := iv_ltL (y := 0) h_a1 (iv_c (c := 0) (n := 0) (by decide)) q2 (by decide)
    refine lv_aload_n hx hb dX11_back_18 rfl (lv_at hl 0 rfl) ?_
    refine lv_iconst (v := 0) hx hb dX11_back_19 (by decide) ?_
    refine tw_goi hS (md_runV (As := [.int 0]) (rest := []) hx hb hml hown hW hK hT hS.1 (t_X11_refuse l D cy tx base Z K N Ma Ra Ja hS.2.1 a0 hz_a0 hk_a0 0 (iv_mono (iv_c (c := 0) (n := 0) (by decide)) (by decide) (by decide))) s_X11_158 ⟨rfl, rfl, ⟨Nat.le_of_ble_eq_true rfl, Nat.le_of_ble_eq_true rfl⟩, ⟨Nat.le_of_ble_eq_true rfl, Nat.le_of_ble_eq_true rfl⟩⟩ hz_a0 hk_a0 (by decide) rfl rfl hl.1 rfl (Nat.le_of_ble_eq_true rfl) dX11_back_20) rfl rfl (fun x10 H locs M7 R8 J6 hS f4 g5 E9 => ?_)
    have eR8 := Fr.nil g5 rfl
    subst eR8
    have h_x10 := E9
    clear E9
    exact tw_endi hx hb hr hlocks hK hT hS hQ ((iv_mono h_x10 (by decide) (by decide))) dX11_back_23
  · have q11 : 0 ≤ a1.toInt := ti_nlt c1
    have h12 : iv 0 2147483647 a1 := iv_geL (y := 0) h_a1 (iv_c (c := 0) (n := 0) (by decide)) q11 (by decide)
    refine lv_iload_n hx hb dX11_back_4 rfl (lv_at hl 1 rfl) ?_
    refine lv_iconst (v := 4) hx hb dX11_back_5 (by decide) ?_
    refine lv_icmp_ge (tgt := 18) hx hb dX11_back_6 (by decide) (fun c13 => ?_) (fun c13 => ?_)
    · have q14 : 4 ≤ a1.toInt := ti_le c13
      have h15 : iv 4 2147483647 a1 := iv_geL (y := 4) h12 (iv_c (c := 4) (n := 4) (by decide)) q14 (by decide)
      refine lv_aload_n hx hb dX11_back_18 rfl (lv_at hl 0 rfl) ?_
      refine lv_iconst (v := 0) hx hb dX11_back_19 (by decide) ?_
      refine tw_goi hS (md_runV (As := [.int 0]) (rest := []) hx hb hml hown hW hK hT hS.1 (t_X11_refuse l D cy tx base Z K N Ma Ra Ja hS.2.1 a0 hz_a0 hk_a0 0 (iv_mono (iv_c (c := 0) (n := 0) (by decide)) (by decide) (by decide))) s_X11_158 ⟨rfl, rfl, ⟨Nat.le_of_ble_eq_true rfl, Nat.le_of_ble_eq_true rfl⟩, ⟨Nat.le_of_ble_eq_true rfl, Nat.le_of_ble_eq_true rfl⟩⟩ hz_a0 hk_a0 (by decide) rfl rfl hl.1 rfl (Nat.le_of_ble_eq_true rfl) dX11_back_20) rfl rfl (fun x22 H locs M19 R20 J18 hS f16 g17 E21 => ?_)
      have eR20 := Fr.nil g17 rfl
      subst eR20
      have h_x22 := E21
      clear E21
      exact tw_endi hx hb hr hlocks hK hT hS hQ ((iv_mono h_x22 (by decide) (by decide))) dX11_back_23
    · have q23 : a1.toInt < 4 := ti_nle c13
      have h24 : iv 0 3 a1 := iv_ltL (y := 4) h12 (iv_c (c := 4) (n := 4) (by decide)) q23 (by decide)
      refine lv_aload_n hx hb dX11_back_9 rfl (lv_at hl 0 rfl) ?_
      refine tw_getr hx hb hW hown hK hS f_X11_19_10 hz_a0 hk_a0 (t := 18) (n := 4) rfl dX11_back_10 (fun b25 k26 hz_b25 hk_b25 hn_b25 => ?_)
      have hn_b25 := hn_b25 (by decide)
      refine lv_iload_n hx hb dX11_back_13 rfl (lv_at hl 1 rfl) ?_
      refine tw_aald hx hb hK hS hz_b25 hk_b25 ⟨by decide, by decide⟩ hn_b25 h24 ⟨by decide, by decide⟩ (t2 := 10) (n2 := 0) (o := 1) (fun _ => rfl) dX11_back_14 (fun k29 => ?_) (fun b27 k28 hz_b27 hk_b27 hn_b27 => ?_)
      · refine lv_ifnonnullN hx hb dX11_back_15 ?_
        refine lv_aload_n hx hb dX11_back_18 rfl (lv_at hl 0 rfl) ?_
        refine lv_iconst (v := 0) hx hb dX11_back_19 (by decide) ?_
        refine tw_goi hS (md_runV (As := [.int 0]) (rest := []) hx hb hml hown hW hK hT hS.1 (t_X11_refuse l D cy tx base Z K N Ma Ra Ja hS.2.1 a0 hz_a0 hk_a0 0 (iv_mono (iv_c (c := 0) (n := 0) (by decide)) (by decide) (by decide))) s_X11_158 ⟨rfl, rfl, ⟨Nat.le_of_ble_eq_true rfl, Nat.le_of_ble_eq_true rfl⟩, ⟨Nat.le_of_ble_eq_true rfl, Nat.le_of_ble_eq_true rfl⟩⟩ hz_a0 hk_a0 (by decide) rfl rfl hl.1 rfl (Nat.le_of_ble_eq_true rfl) dX11_back_20) rfl rfl (fun x36 H locs M33 R34 J32 hS f30 g31 E35 => ?_)
        have eR34 := Fr.nil g31 rfl
        subst eR34
        have h_x36 := E35
        clear E35
        exact tw_endi hx hb hr hlocks hK hT hS hQ ((iv_mono h_x36 (by decide) (by decide))) dX11_back_23
      · refine lv_ifnonnull (tgt := 24) hx hb dX11_back_15 (by decide) ?_
        refine lv_aload_n hx hb dX11_back_24 rfl (lv_at hl 0 rfl) ?_
        refine tw_getr hx hb hW hown hK hS f_X11_31_10 hz_a0 hk_a0 (t := 10) (n := 0) rfl dX11_back_25 (fun b37 k38 hz_b37 hk_b37 hn_b37 => ?_)
        refine lv_aload_n hx hb dX11_back_28 rfl (lv_at hl 0 rfl) ?_
        refine tw_getrk hx hb hW hown hK hS f_X11_19_10 hz_a0 hk_a0 (b := b25) k26 dX11_back_29 ?_
        refine lv_iload_n hx hb dX11_back_32 rfl (lv_at hl 1 rfl) ?_
        refine tw_aalk hx hb hK hS hz_b25 hk_b25 ⟨by decide, by decide⟩ hn_b25 h24 ⟨by decide, by decide⟩ (b := b27) k28 dX11_back_33 ?_
        refine tw_gov hS (md_runV (As := [.ref (base + b27)]) (rest := []) hx hb hml hown hW hK hT hS.1 (t_X9_takeFrom l D cy tx base Z K N Ma Ra Ja hS.2.1 b37 hz_b37 hk_b37 b27 hz_b27 hk_b27) s_X11_112 ⟨rfl, rfl, ⟨Nat.le_of_ble_eq_true rfl, Nat.le_of_ble_eq_true rfl⟩, ⟨Nat.le_of_ble_eq_true rfl, Nat.le_of_ble_eq_true rfl⟩⟩ hz_b37 hk_b37 (by decide) rfl rfl hl.1 rfl (Nat.le_of_ble_eq_true rfl) dX11_back_34) rfl rfl (fun H locs M42 R43 J41 hS f39 g40 E44 => ?_)
        have eR43 := Fr.nil g40 rfl
        subst eR43
        refine lv_aload_n hx hb dX11_back_37 rfl (lv_at hl 0 rfl) ?_
        refine tw_getrk hx hb hW hown hK hS f_X11_31_10 hz_a0 hk_a0 (b := b37) k38 dX11_back_38 ?_
        refine tw_geti hx hb hW hown hK hS f_X11_180_9 hz_b37 hk_b37 (lo := (-2147483648)) (hi := 2147483647) rfl dX11_back_41 (fun x47 k46 h45 => ?_)
        exact tw_endi hx hb hr hlocks hK hT hS hQ (h45) dX11_back_44
def Lt_X5_holdForGood : WL := [(6, 14, 15), (10, 3, 4), (14, 0, 2000000), (20, 0, 2000000)]
def LRt_X5_holdForGood : WL := []
set_option maxRecDepth 100000 in
set_option maxHeartbeats 4000000 in
theorem t_X5_holdForGood (l : Launch) (D : va_G) (cy : Nat → ClassId) (tx : (Nat → Nat) × (Nat → Nat)) (base Z : Nat) (K N : Nat → Nat) (Ma : MT) (Ra : RT) (Ja : JT) (hTy : Ty Z K N Ma Ra) (a0 : Nat) (hz_a0 : a0 < Z) (hk_a0 : K a0 = 6) (a1 : Int32) (h_a1 : iv (-2147483648) 2147483647 a1) (a2 : Int32) (h_a2 : iv (-2147483648) 2147483647 a2) : Met l yX5_holdForGood [Cond.code yX5_holdForGood cX5_holdForGood 5 (some .int)] (md_rm 3 0 0) (va_Pc [.ref (base + a0), .int a1, .int a2] (md_U D cy tx base Z K N Ma Ra Ja)) (mQi D cy tx base (fun r u => TP Z K N Lt_X5_holdForGood LRt_X5_holdForGood Ma Ra u ∧ (iv 0 2 r))) 0 0 (fun q => base ≤ q) := by
  refine tw_ofW (L := Lt_X5_holdForGood) (LR := LRt_X5_holdForGood) (by decide) (Nat.le_of_ble_eq_true rfl) hTy ?_
  intro p e s m args below meth c Q ls hx hb hr hlocks hown hml hW hK hT hS hQ hl
  have hl : lv_has ls 5 [(0, .ref (base + a0)), (1, .int a1), (2, .int a2)] := hl
  refine lv_aload_n hx hb dX5_holdForGood_0 rfl (lv_at hl 0 rfl) ?_
  refine lv_aload_n hx hb dX5_holdForGood_1 rfl (lv_at hl 0 rfl) ?_
  refine tw_getr hx hb hW hown hK hS f_X5_9_5 hz_a0 hk_a0 (t := 10) (n := 0) rfl dX5_holdForGood_2 (fun b1 k2 hz_b1 hk_b1 hn_b1 => ?_)
  refine tw_getr hx hb hW hown hK hS f_X5_19_9 hz_b1 hk_b1 (t := 20) (n := 10) rfl dX5_holdForGood_5 (fun b3 k4 hz_b3 hk_b3 hn_b3 => ?_)
  have hn_b3 := hn_b3 (by decide)
  refine lv_iload_n hx hb dX5_holdForGood_8 rfl (lv_at hl 1 rfl) ?_
  refine lv_iload_n hx hb dX5_holdForGood_9 rfl (lv_at hl 2 rfl) ?_
  refine tw_goi hS (md_runV (As := [.ref (base + b3), .int a1, .int a2]) (rest := []) hx hb hml hown hW hK hT hS.1 (t_X5_hold l D cy tx base Z K N Ma Ra Ja hS.2.1 a0 hz_a0 hk_a0 b3 hz_b3 hk_b3 hn_b3 a1 h_a1 a2 h_a2) s_X5_119 ⟨rfl, rfl, ⟨Nat.le_of_ble_eq_true rfl, Nat.le_of_ble_eq_true rfl⟩, ⟨Nat.le_of_ble_eq_true rfl, Nat.le_of_ble_eq_true rfl⟩⟩ hz_a0 hk_a0 (by decide) rfl rfl hl.1 rfl (Nat.le_of_ble_eq_true rfl) dX5_holdForGood_10) rfl rfl (fun x11 H locs M8 R9 J7 hS f5 g6 E10 => ?_)
  have eR9 := Fr.nil g6 rfl
  subst eR9
  have h_x11 := E10
  clear E10
  refine lv_istore_n (lv' := [(3, .int x11), (0, .ref (base + a0)), (1, .int a1), (2, .int a2)]) hx hb dX5_holdForGood_13 rfl hl (by decide) rfl (fun ls hl => ?_)
  refine lv_iconst (v := 0) hx hb dX5_holdForGood_14 (by decide) ?_
  refine lv_istore (lv' := [(4, .int 0), (3, .int x11), (0, .ref (base + a0)), (1, .int a1), (2, .int a2)]) hx hb dX5_holdForGood_15 hl (by decide) rfl (fun ls hl => ?_)
  have W17_13 : ∀ (n_13 : Nat) (x12 : Int32) (M13 : MT) (R14 : RT) (J15 : JT) (H : Heap) (locs : List Loc) (ls : Array Slot) (h_x12 : iv 0 10 x12) (hm_13 : 10 - x12.toInt < (n_13 : Int)) (hS : SB D cy base Z K N Lt_X5_holdForGood LRt_X5_holdForGood Ma Ra M13 R14 J15 s H locs) (hl : lv_has ls 5 [(4, .int x12), (3, .int x11), (0, .ref (base + a0)), (1, .int a1), (2, .int a2)]), W p l e (md_rm 3 0 0) s m args below meth c H locs 0 0 Q (F0 m 17 ls []) := by
    intro n_13
    induction n_13 with
    | zero =>
      intro x12 M13 R14 J15 H locs ls h_x12 hm_13 hS hl
      exfalso
      have := (h_a1).1; have := (h_a1).2; have := (h_a2).1; have := (h_a2).2; have := (h_x12).1; have := (h_x12).2; omega
    | succ n_13 ih_13 =>
      intro x12 M13 R14 J15 H locs ls h_x12 hm_13 hS hl
      have f16 := hS.2.2.1
      have g17 := hS.2.2.2
      refine lv_iload hx hb dX5_holdForGood_17 (lv_at hl 0 rfl) ?_
      refine lv_aload_n hx hb dX5_holdForGood_19 rfl (lv_at hl 2 rfl) ?_
      have k18 : R14 a0 0 = some b1 := (Fr.kp (k := 0) g17 hk_a0 rfl).trans k2
      refine tw_getrk hx hb hW hown hK hS f_X5_9_5 hz_a0 hk_a0 (b := b1) k18 dX5_holdForGood_20 ?_
      refine tw_geti hx hb hW hown hK hS f_X5_53_9 hz_b1 hk_b1 (lo := (-2147483648)) (hi := 10) rfl dX5_holdForGood_23 (fun x21 k20 h19 => ?_)
      refine lv_icmp_ge (tgt := 91) hx hb dX5_holdForGood_26 (by decide) (fun c22 => ?_) (fun c22 => ?_)
      · have q23 : x21.toInt ≤ x12.toInt := ti_le c22
        refine lv_aload_n hx hb dX5_holdForGood_91 rfl (lv_at hl 2 rfl) ?_
        have k24 : R14 a0 0 = some b1 := (Fr.kp (k := 0) g17 hk_a0 rfl).trans k2
        refine tw_getrk hx hb hW hown hK hS f_X5_9_5 hz_a0 hk_a0 (b := b1) k24 dX5_holdForGood_92 ?_
        refine lv_dup hx hb dX5_holdForGood_95 rfl ?_
        refine tw_geti hx hb hW hown hK hS f_X5_128_9 hz_b1 hk_b1 (lo := (-2147483648)) (hi := 2147483647) rfl dX5_holdForGood_96 (fun x27 k26 h25 => ?_)
        refine lv_iconst (v := 1) hx hb dX5_holdForGood_99 (by decide) ?_
        refine lv_iadd hx hb dX5_holdForGood_100 ?_
        refine tw_top (fun x29 => ?_)
        have h28 := iv_any x29
        refine tw_puti hx hb hW hown hK hS f_X5_128_9 hz_b1 hk_b1 rfl rfl (lo := (-2147483648)) (hi := 2147483647) rfl h28 rfl dX5_holdForGood_101 (fun H locs M32 hS k30 f31 => ?_)
        refine lv_iload_n hx hb dX5_holdForGood_104 rfl (lv_at hl 1 rfl) ?_
        exact tw_endi hx hb hr hlocks hK hT hS hQ (h_x11) dX5_holdForGood_105
      · have q33 : x12.toInt < x21.toInt := ti_nle c22
        have h34 : iv 0 9 x12 := iv_ltL (y := x21) h_x12 h19 q33 (by decide)
        have h35 : iv 1 10 x21 := iv_gtL (y := x12) h19 h_x12 q33 (by decide)
        refine lv_aload_n hx hb dX5_holdForGood_29 rfl (lv_at hl 2 rfl) ?_
        refine tw_geti hx hb hW hown hK hS f_X5_98_5 hz_a0 hk_a0 (lo := (-2147483648)) (hi := 2147483647) rfl dX5_holdForGood_30 (fun x38 k37 h36 => ?_)
        refine lv_iload hx hb dX5_holdForGood_33 (lv_at hl 0 rfl) ?_
        refine lv_ishr hx hb dX5_holdForGood_35 ?_
        refine tw_top (fun x40 => ?_)
        have h39 := iv_any x40
        refine lv_iconst (v := 1) hx hb dX5_holdForGood_36 (by decide) ?_
        refine tw_iand (hi := 1) hx hb (iv_mono (iv_c (c := 1) (n := 1) (by decide)) (lo := 0) (hi := 1) (by decide) (by decide)) (by decide) dX5_holdForGood_37 (fun x43 h41 => ?_)
        refine lv_iconst (v := 1) hx hb dX5_holdForGood_38 (by decide) ?_
        refine lv_icmp_ne (tgt := 59) hx hb dX5_holdForGood_39 (by decide) (fun c44 => ?_) (fun c44 => ?_)
        · have q45 : ¬ x43.toInt = 1 := ti_ne c44
          have h46 : iv 0 0 x43 := ⟨by have := (h41).1; have := ((iv_c (c := 1) (n := 1) (by decide))).1; have := ((iv_c (c := 1) (n := 1) (by decide))).2; omega, by have := (h41).2; have := ((iv_c (c := 1) (n := 1) (by decide))).1; have := ((iv_c (c := 1) (n := 1) (by decide))).2; omega⟩
          refine lv_iload_n hx hb dX5_holdForGood_59 rfl (lv_at hl 3 rfl) ?_
          refine lv_iload_n hx hb dX5_holdForGood_60 rfl (lv_at hl 4 rfl) ?_
          refine lv_ior hx hb dX5_holdForGood_61 ?_
          refine tw_top (fun x48 => ?_)
          have h47 := iv_any x48
          refine lv_iload hx hb dX5_holdForGood_62 (lv_at hl 0 rfl) ?_
          refine lv_ishr hx hb dX5_holdForGood_64 ?_
          refine tw_top (fun x50 => ?_)
          have h49 := iv_any x50
          refine lv_iconst (v := 1) hx hb dX5_holdForGood_65 (by decide) ?_
          refine tw_iand (hi := 1) hx hb (iv_mono (iv_c (c := 1) (n := 1) (by decide)) (lo := 0) (hi := 1) (by decide) (by decide)) (by decide) dX5_holdForGood_66 (fun x53 h51 => ?_)
          refine lv_iconst (v := 1) hx hb dX5_holdForGood_67 (by decide) ?_
          refine lv_icmp_ne (tgt := 85) hx hb dX5_holdForGood_68 (by decide) (fun c54 => ?_) (fun c54 => ?_)
          · have q55 : ¬ x53.toInt = 1 := ti_ne c54
            have h56 : iv 0 0 x53 := ⟨by have := (h51).1; have := ((iv_c (c := 1) (n := 1) (by decide))).1; have := ((iv_c (c := 1) (n := 1) (by decide))).2; omega, by have := (h51).2; have := ((iv_c (c := 1) (n := 1) (by decide))).1; have := ((iv_c (c := 1) (n := 1) (by decide))).2; omega⟩
            refine tw_iinc (lv' := fun x59 => [(4, .int x59), (3, .int x11), (0, .ref (base + a0)), (1, .int a1), (2, .int a2)]) (lo := 1) (hi := 10) hx hb dX5_holdForGood_85 hl (k := 0) rfl h34 (by decide) ⟨by decide, by decide⟩ ⟨by decide, by decide⟩ (by decide) (fun _ => rfl) (fun x59 ls e58 h57 hl => ?_)
            refine lv_goto (tgt := 17) hx hb dX5_holdForGood_88 (by decide) ?_
            have hm60 : 10 - x59.toInt < (n_13 : Int) := by
              have := (h_a1).1; have := (h_a1).2; have := (h_a2).1; have := (h_a2).2; have := (h34).1; have := (h34).2; have := (h57).1; have := (h57).2; omega
            exact ih_13 x59 M13 R14 J15 H locs _ (iv_mono h57 (by decide) (by decide)) hm60 hS hl
          · have q61 : x53.toInt = 1 := ti_eq c54
            have h62 : iv 1 1 x53 := ⟨by have := (h51).1; have := ((iv_c (c := 1) (n := 1) (by decide))).1; omega, by have := (h51).2; have := ((iv_c (c := 1) (n := 1) (by decide))).2; omega⟩
            refine lv_aload_n hx hb dX5_holdForGood_71 rfl (lv_at hl 2 rfl) ?_
            have k63 : R14 a0 0 = some b1 := (Fr.kp (k := 0) g17 hk_a0 rfl).trans k2
            refine tw_getrk hx hb hW hown hK hS f_X5_9_5 hz_a0 hk_a0 (b := b1) k63 dX5_holdForGood_72 ?_
            refine tw_getr hx hb hW hown hK hS f_X5_125_9 hz_b1 hk_b1 (t := 14) (n := 10) rfl dX5_holdForGood_75 (fun b64 k65 hz_b64 hk_b64 hn_b64 => ?_)
            have hn_b64 := hn_b64 (by decide)
            refine lv_iload hx hb dX5_holdForGood_78 (lv_at hl 0 rfl) ?_
            refine lv_dup2_11 hx hb dX5_holdForGood_80 rfl rfl ?_
            refine tw_iald hx hb hK hS hz_b64 hk_b64 (Or.inl rfl) hn_b64 (lo := (-2147483648)) (hi := 2147483647) h34 ⟨by decide, by decide⟩ rg_u14 dX5_holdForGood_81 (fun x68 k67 h66 => ?_)
            refine lv_iconst (v := 1) hx hb dX5_holdForGood_82 (by decide) ?_
            refine lv_iadd hx hb dX5_holdForGood_83 ?_
            refine tw_top (fun x70 => ?_)
            have h69 := iv_any x70
            refine tw_iast hx hb hK hS hz_b64 hk_b64 (Or.inl rfl) hn_b64 h34 ⟨by decide, by decide⟩ h69 (rg_s14 ⟨by decide, by decide⟩) (jl := 0) (jh := 1999999) ⟨by decide, by decide⟩ rfl dX5_holdForGood_84 (fun H locs M73 hS k71 f72 => ?_)
            refine tw_iinc (lv' := fun x76 => [(4, .int x76), (3, .int x11), (0, .ref (base + a0)), (1, .int a1), (2, .int a2)]) (lo := 1) (hi := 10) hx hb dX5_holdForGood_85 hl (k := 0) rfl h34 (by decide) ⟨by decide, by decide⟩ ⟨by decide, by decide⟩ (by decide) (fun _ => rfl) (fun x76 ls e75 h74 hl => ?_)
            refine lv_goto (tgt := 17) hx hb dX5_holdForGood_88 (by decide) ?_
            have hm77 : 10 - x76.toInt < (n_13 : Int) := by
              have := (h_a1).1; have := (h_a1).2; have := (h_a2).1; have := (h_a2).2; have := (h34).1; have := (h34).2; have := (h74).1; have := (h74).2; omega
            exact ih_13 x76 M73 R14 J15 H locs _ (iv_mono h74 (by decide) (by decide)) hm77 hS hl
        · have q78 : x43.toInt = 1 := ti_eq c44
          have h79 : iv 1 1 x43 := ⟨by have := (h41).1; have := ((iv_c (c := 1) (n := 1) (by decide))).1; omega, by have := (h41).2; have := ((iv_c (c := 1) (n := 1) (by decide))).2; omega⟩
          refine lv_aload_n hx hb dX5_holdForGood_42 rfl (lv_at hl 2 rfl) ?_
          have k80 : R14 a0 0 = some b1 := (Fr.kp (k := 0) g17 hk_a0 rfl).trans k2
          refine tw_getrk hx hb hW hown hK hS f_X5_9_5 hz_a0 hk_a0 (b := b1) k80 dX5_holdForGood_43 ?_
          refine tw_getr hx hb hW hown hK hS f_X5_122_9 hz_b1 hk_b1 (t := 14) (n := 10) rfl dX5_holdForGood_46 (fun b81 k82 hz_b81 hk_b81 hn_b81 => ?_)
          have hn_b81 := hn_b81 (by decide)
          refine lv_iload hx hb dX5_holdForGood_49 (lv_at hl 0 rfl) ?_
          refine lv_dup2_11 hx hb dX5_holdForGood_51 rfl rfl ?_
          refine tw_iald hx hb hK hS hz_b81 hk_b81 (Or.inl rfl) hn_b81 (lo := (-2147483648)) (hi := 2147483647) h34 ⟨by decide, by decide⟩ rg_u14 dX5_holdForGood_52 (fun x85 k84 h83 => ?_)
          refine lv_iconst (v := 1) hx hb dX5_holdForGood_53 (by decide) ?_
          refine lv_iadd hx hb dX5_holdForGood_54 ?_
          refine tw_top (fun x87 => ?_)
          have h86 := iv_any x87
          refine tw_iast hx hb hK hS hz_b81 hk_b81 (Or.inl rfl) hn_b81 h34 ⟨by decide, by decide⟩ h86 (rg_s14 ⟨by decide, by decide⟩) (jl := 0) (jh := 1999999) ⟨by decide, by decide⟩ rfl dX5_holdForGood_55 (fun H locs M90 hS k88 f89 => ?_)
          refine lv_goto (tgt := 85) hx hb dX5_holdForGood_56 (by decide) ?_
          refine tw_iinc (lv' := fun x93 => [(4, .int x93), (3, .int x11), (0, .ref (base + a0)), (1, .int a1), (2, .int a2)]) (lo := 1) (hi := 10) hx hb dX5_holdForGood_85 hl (k := 0) rfl h34 (by decide) ⟨by decide, by decide⟩ ⟨by decide, by decide⟩ (by decide) (fun _ => rfl) (fun x93 ls e92 h91 hl => ?_)
          refine lv_goto (tgt := 17) hx hb dX5_holdForGood_88 (by decide) ?_
          have hm94 : 10 - x93.toInt < (n_13 : Int) := by
            have := (h_a1).1; have := (h_a1).2; have := (h_a2).1; have := (h_a2).2; have := (h34).1; have := (h34).2; have := (h91).1; have := (h91).2; omega
          exact ih_13 x93 M90 R14 J15 H locs _ (iv_mono h91 (by decide) (by decide)) hm94 hS hl
  have hm95 : 10 - (0 : Int32).toInt < (((11 : Nat) : Int) : Int) := by
    have := (h_a1).1; have := (h_a1).2; have := (h_a2).1; have := (h_a2).2; have : (0 : Int32).toInt = 0 := (by decide); omega
  exact W17_13 11 0 M8 Ra J7 H locs _ (iv_mono (iv_c (c := 0) (n := 0) (by decide)) (by decide) (by decide)) hm95 hS hl
def Lt_X9_hasSet : WL := []
def LRt_X9_hasSet : WL := []
set_option maxRecDepth 100000 in
set_option maxHeartbeats 4000000 in
theorem t_X9_hasSet (l : Launch) (D : va_G) (cy : Nat → ClassId) (tx : (Nat → Nat) × (Nat → Nat)) (base Z : Nat) (K N : Nat → Nat) (Ma : MT) (Ra : RT) (Ja : JT) (hTy : Ty Z K N Ma Ra) (a0 : Nat) (hz_a0 : a0 < Z) (hk_a0 : K a0 = 10) (a1 : Int32) (h_a1 : iv (-2147483648) 2147483647 a1) : Met l yX9_hasSet [Cond.code yX9_hasSet cX9_hasSet 2 (some .boolean)] (md_rm 1 0 0) (va_Pc [.ref (base + a0), .int a1] (md_U D cy tx base Z K N Ma Ra Ja)) (mQi D cy tx base (fun r u => TP Z K N Lt_X9_hasSet LRt_X9_hasSet Ma Ra u ∧ (iv 0 1 r))) 0 0 (fun q => base ≤ q) := by
  refine tw_ofW (L := Lt_X9_hasSet) (LR := LRt_X9_hasSet) (by decide) (Nat.le_of_ble_eq_true rfl) hTy ?_
  intro p e s m args below meth c Q ls hx hb hr hlocks hown hml hW hK hT hS hQ hl
  have hl : lv_has ls 2 [(0, .ref (base + a0)), (1, .int a1)] := hl
  refine lv_aload_n hx hb dX9_hasSet_0 rfl (lv_at hl 0 rfl) ?_
  refine tw_geti hx hb hW hown hK hS f_X9_33_9 hz_a0 hk_a0 (lo := (-2147483648)) (hi := 10) rfl dX9_hasSet_1 (fun x3 k2 h1 => ?_)
  refine lv_if_le (tgt := 25) hx hb dX9_hasSet_4 (by decide) (fun c4 => ?_) (fun c4 => ?_)
  · have q5 : x3.toInt ≤ 0 := ti_le c4
    have h6 : iv (-2147483648) 0 x3 := iv_leL (y := 0) h1 (iv_c (c := 0) (n := 0) (by decide)) q5 (by decide)
    refine lv_iconst (v := 0) hx hb dX9_hasSet_25 (by decide) ?_
    exact tw_endz hx hb hr hlocks hK hT hS hQ rfl ((iv_mono (iv_c (c := 0) (n := 0) (by decide)) (by decide) (by decide))) dX9_hasSet_26
  · have q7 : 0 < x3.toInt := ti_nle c4
    have h8 : iv 1 10 x3 := iv_gtL (y := 0) h1 (iv_c (c := 0) (n := 0) (by decide)) q7 (by decide)
    refine lv_iload_n hx hb dX9_hasSet_7 rfl (lv_at hl 1 rfl) ?_
    refine lv_if_lt (tgt := 25) hx hb dX9_hasSet_8 (by decide) (fun c9 => ?_) (fun c9 => ?_)
    · have q10 : a1.toInt < 0 := ti_lt c9
      have h11 : iv (-2147483648) (-1) a1 := iv_ltL (y := 0) h_a1 (iv_c (c := 0) (n := 0) (by decide)) q10 (by decide)
      refine lv_iconst (v := 0) hx hb dX9_hasSet_25 (by decide) ?_
      exact tw_endz hx hb hr hlocks hK hT hS hQ rfl ((iv_mono (iv_c (c := 0) (n := 0) (by decide)) (by decide) (by decide))) dX9_hasSet_26
    · have q12 : 0 ≤ a1.toInt := ti_nlt c9
      have h13 : iv 0 2147483647 a1 := iv_geL (y := 0) h_a1 (iv_c (c := 0) (n := 0) (by decide)) q12 (by decide)
      refine lv_iload_n hx hb dX9_hasSet_11 rfl (lv_at hl 1 rfl) ?_
      refine lv_iconst (v := 1) hx hb dX9_hasSet_12 (by decide) ?_
      refine lv_aload_n hx hb dX9_hasSet_13 rfl (lv_at hl 0 rfl) ?_
      refine tw_getk hx hb hW hown hK hS f_X9_33_9 hz_a0 hk_a0 (v := x3) k2 dX9_hasSet_14 ?_
      refine lv_ishl hx hb dX9_hasSet_17 ?_
      refine tw_top (fun x15 => ?_)
      have h14 := iv_any x15
      refine lv_icmp_ge (tgt := 25) hx hb dX9_hasSet_18 (by decide) (fun c16 => ?_) (fun c16 => ?_)
      · have q17 : x15.toInt ≤ a1.toInt := ti_le c16
        refine lv_iconst (v := 0) hx hb dX9_hasSet_25 (by decide) ?_
        exact tw_endz hx hb hr hlocks hK hT hS hQ rfl ((iv_mono (iv_c (c := 0) (n := 0) (by decide)) (by decide) (by decide))) dX9_hasSet_26
      · have q18 : a1.toInt < x15.toInt := ti_nle c16
        have h19 : iv 0 2147483646 a1 := iv_ltL (y := x15) h13 h14 q18 (by decide)
        have h20 : iv 1 2147483647 x15 := iv_gtL (y := a1) h14 h13 q18 (by decide)
        refine lv_iconst (v := 1) hx hb dX9_hasSet_21 (by decide) ?_
        refine lv_goto (tgt := 26) hx hb dX9_hasSet_22 (by decide) ?_
        exact tw_endz hx hb hr hlocks hK hT hS hQ rfl ((iv_mono (iv_c (c := 1) (n := 1) (by decide)) (by decide) (by decide))) dX9_hasSet_26
def Lt_X11_bench : WL := [(6, 14, 15), (10, 3, 4), (14, 0, 2000000), (20, 0, 2000000)]
def LRt_X11_bench : WL := []
set_option maxRecDepth 100000 in
set_option maxHeartbeats 4000000 in
theorem t_X11_bench (l : Launch) (D : va_G) (cy : Nat → ClassId) (tx : (Nat → Nat) × (Nat → Nat)) (base Z : Nat) (K N : Nat → Nat) (Ma : MT) (Ra : RT) (Ja : JT) (hTy : Ty Z K N Ma Ra) (a0 : Nat) (hz_a0 : a0 < Z) (hk_a0 : K a0 = 11) (a1 : Int32) (h_a1 : iv (-2147483648) 2147483647 a1) (a2 : Int32) (h_a2 : iv (-2147483648) 2147483647 a2) : Met l yX11_bench [Cond.code yX11_bench cX11_bench 3 (some .int)] (md_rm 4 0 0) (va_Pc [.ref (base + a0), .int a1, .int a2] (md_U D cy tx base Z K N Ma Ra Ja)) (mQi D cy tx base (fun r u => TP Z K N Lt_X11_bench LRt_X11_bench Ma Ra u ∧ (iv (-2) 2 r))) 0 0 (fun q => base ≤ q) := by
  refine tw_ofW (L := Lt_X11_bench) (LR := LRt_X11_bench) (by decide) (Nat.le_of_ble_eq_true rfl) hTy ?_
  intro p e s m args below meth c Q ls hx hb hr hlocks hown hml hW hK hT hS hQ hl
  have hl : lv_has ls 3 [(0, .ref (base + a0)), (1, .int a1), (2, .int a2)] := hl
  refine lv_aload_n hx hb dX11_bench_0 rfl (lv_at hl 0 rfl) ?_
  refine tw_getr hx hb hW hown hK hS f_X11_31_10 hz_a0 hk_a0 (t := 10) (n := 0) rfl dX11_bench_1 (fun b1 k2 hz_b1 hk_b1 hn_b1 => ?_)
  refine lv_iload_n hx hb dX11_bench_4 rfl (lv_at hl 1 rfl) ?_
  refine tw_goi hS (md_runV (As := [.int a1]) (rest := []) hx hb hml hown hW hK hT hS.1 (t_X9_hasSet l D cy tx base Z K N Ma Ra Ja hS.2.1 b1 hz_b1 hk_b1 a1 h_a1) s_X11_199 ⟨rfl, rfl, ⟨Nat.le_of_ble_eq_true rfl, Nat.le_of_ble_eq_true rfl⟩, ⟨Nat.le_of_ble_eq_true rfl, Nat.le_of_ble_eq_true rfl⟩⟩ hz_b1 hk_b1 (by decide) rfl rfl hl.1 rfl (Nat.le_of_ble_eq_true rfl) dX11_bench_5) rfl rfl (fun x9 H locs M6 R7 J5 hS f3 g4 E8 => ?_)
  have eM6 := Fr.nil f3 rfl
  subst eM6
  have eR7 := Fr.nil g4 rfl
  subst eR7
  have h_x9 := E8
  clear E8
  refine lv_if_eq (tgt := 28) hx hb dX11_bench_8 (by decide) (fun c10 => ?_) (fun c10 => ?_)
  · have q11 : x9.toInt = 0 := ti_eq c10
    have h12 : iv 0 0 x9 := ⟨by have := (h_x9).1; have := ((iv_c (c := 0) (n := 0) (by decide))).1; omega, by have := (h_x9).2; have := ((iv_c (c := 0) (n := 0) (by decide))).2; omega⟩
    refine lv_aload_n hx hb dX11_bench_28 rfl (lv_at hl 0 rfl) ?_
    refine lv_iconst (v := 0) hx hb dX11_bench_29 (by decide) ?_
    refine tw_goi hS (md_runV (As := [.int 0]) (rest := []) hx hb hml hown hW hK hT hS.1 (t_X11_refuse l D cy tx base Z K N Ma Ra J5 hS.2.1 a0 hz_a0 hk_a0 0 (iv_mono (iv_c (c := 0) (n := 0) (by decide)) (by decide) (by decide))) s_X11_158 ⟨rfl, rfl, ⟨Nat.le_of_ble_eq_true rfl, Nat.le_of_ble_eq_true rfl⟩, ⟨Nat.le_of_ble_eq_true rfl, Nat.le_of_ble_eq_true rfl⟩⟩ hz_a0 hk_a0 (by decide) rfl rfl hl.1 rfl (Nat.le_of_ble_eq_true rfl) dX11_bench_30) rfl rfl (fun x19 H locs M16 R17 J15 hS f13 g14 E18 => ?_)
    have eR17 := Fr.nil g14 rfl
    subst eR17
    have h_x19 := E18
    clear E18
    exact tw_endi hx hb hr hlocks hK hT hS hQ ((iv_mono h_x19 (by decide) (by decide))) dX11_bench_33
  · have q20 : ¬ x9.toInt = 0 := ti_ne c10
    have h21 : iv 1 1 x9 := ⟨by have := (h_x9).1; have := ((iv_c (c := 0) (n := 0) (by decide))).1; have := ((iv_c (c := 0) (n := 0) (by decide))).2; omega, by have := (h_x9).2; have := ((iv_c (c := 0) (n := 0) (by decide))).1; have := ((iv_c (c := 0) (n := 0) (by decide))).2; omega⟩
    refine lv_aload_n hx hb dX11_bench_11 rfl (lv_at hl 0 rfl) ?_
    refine tw_getrk hx hb hW hown hK hS f_X11_31_10 hz_a0 hk_a0 (b := b1) k2 dX11_bench_12 ?_
    refine lv_iload_n hx hb dX11_bench_15 rfl (lv_at hl 2 rfl) ?_
    refine tw_goi hS (md_runV (As := [.int a2]) (rest := []) hx hb hml hown hW hK hT hS.1 (t_X9_hasSet l D cy tx base Z K N Ma Ra J5 hS.2.1 b1 hz_b1 hk_b1 a2 h_a2) s_X11_199 ⟨rfl, rfl, ⟨Nat.le_of_ble_eq_true rfl, Nat.le_of_ble_eq_true rfl⟩, ⟨Nat.le_of_ble_eq_true rfl, Nat.le_of_ble_eq_true rfl⟩⟩ hz_b1 hk_b1 (by decide) rfl rfl hl.1 rfl (Nat.le_of_ble_eq_true rfl) dX11_bench_16) rfl rfl (fun x28 H locs M25 R26 J24 hS f22 g23 E27 => ?_)
    have eM25 := Fr.nil f22 rfl
    subst eM25
    have eR26 := Fr.nil g23 rfl
    subst eR26
    have h_x28 := E27
    clear E27
    refine lv_if_eq (tgt := 28) hx hb dX11_bench_19 (by decide) (fun c29 => ?_) (fun c29 => ?_)
    · have q30 : x28.toInt = 0 := ti_eq c29
      have h31 : iv 0 0 x28 := ⟨by have := (h_x28).1; have := ((iv_c (c := 0) (n := 0) (by decide))).1; omega, by have := (h_x28).2; have := ((iv_c (c := 0) (n := 0) (by decide))).2; omega⟩
      refine lv_aload_n hx hb dX11_bench_28 rfl (lv_at hl 0 rfl) ?_
      refine lv_iconst (v := 0) hx hb dX11_bench_29 (by decide) ?_
      refine tw_goi hS (md_runV (As := [.int 0]) (rest := []) hx hb hml hown hW hK hT hS.1 (t_X11_refuse l D cy tx base Z K N Ma Ra J24 hS.2.1 a0 hz_a0 hk_a0 0 (iv_mono (iv_c (c := 0) (n := 0) (by decide)) (by decide) (by decide))) s_X11_158 ⟨rfl, rfl, ⟨Nat.le_of_ble_eq_true rfl, Nat.le_of_ble_eq_true rfl⟩, ⟨Nat.le_of_ble_eq_true rfl, Nat.le_of_ble_eq_true rfl⟩⟩ hz_a0 hk_a0 (by decide) rfl rfl hl.1 rfl (Nat.le_of_ble_eq_true rfl) dX11_bench_30) rfl rfl (fun x38 H locs M35 R36 J34 hS f32 g33 E37 => ?_)
      have eR36 := Fr.nil g33 rfl
      subst eR36
      have h_x38 := E37
      clear E37
      exact tw_endi hx hb hr hlocks hK hT hS hQ ((iv_mono h_x38 (by decide) (by decide))) dX11_bench_33
    · have q39 : ¬ x28.toInt = 0 := ti_ne c29
      have h40 : iv 1 1 x28 := ⟨by have := (h_x28).1; have := ((iv_c (c := 0) (n := 0) (by decide))).1; have := ((iv_c (c := 0) (n := 0) (by decide))).2; omega, by have := (h_x28).2; have := ((iv_c (c := 0) (n := 0) (by decide))).1; have := ((iv_c (c := 0) (n := 0) (by decide))).2; omega⟩
      refine lv_iload_n hx hb dX11_bench_22 rfl (lv_at hl 1 rfl) ?_
      refine lv_iload_n hx hb dX11_bench_23 rfl (lv_at hl 2 rfl) ?_
      refine lv_iand hx hb dX11_bench_24 ?_
      refine tw_top (fun x42 => ?_)
      have h41 := iv_any x42
      refine lv_if_eq (tgt := 34) hx hb dX11_bench_25 (by decide) (fun c43 => ?_) (fun c43 => ?_)
      · have q44 : x42.toInt = 0 := ti_eq c43
        have h45 : iv 0 0 x42 := ⟨by have := (h41).1; have := ((iv_c (c := 0) (n := 0) (by decide))).1; omega, by have := (h41).2; have := ((iv_c (c := 0) (n := 0) (by decide))).2; omega⟩
        refine lv_aload_n hx hb dX11_bench_34 rfl (lv_at hl 0 rfl) ?_
        refine tw_getr hx hb hW hown hK hS f_X11_39_10 hz_a0 hk_a0 (t := 6) (n := 0) rfl dX11_bench_35 (fun b46 k47 hz_b46 hk_b46 hn_b46 => ?_)
        refine lv_iload_n hx hb dX11_bench_38 rfl (lv_at hl 1 rfl) ?_
        refine lv_aload_n hx hb dX11_bench_39 rfl (lv_at hl 0 rfl) ?_
        refine tw_getrk hx hb hW hown hK hS f_X11_31_10 hz_a0 hk_a0 (b := b1) k2 dX11_bench_40 ?_
        refine tw_geti hx hb hW hown hK hS f_X11_142_9 hz_b1 hk_b1 (lo := (-2147483648)) (hi := 2147483647) rfl dX11_bench_43 (fun x50 k49 h48 => ?_)
        refine lv_iand hx hb dX11_bench_46 ?_
        refine tw_top (fun x52 => ?_)
        have h51 := iv_any x52
        refine lv_iload_n hx hb dX11_bench_47 rfl (lv_at hl 2 rfl) ?_
        refine lv_aload_n hx hb dX11_bench_48 rfl (lv_at hl 0 rfl) ?_
        refine tw_getrk hx hb hW hown hK hS f_X11_31_10 hz_a0 hk_a0 (b := b1) k2 dX11_bench_49 ?_
        refine tw_getk hx hb hW hown hK hS f_X11_142_9 hz_b1 hk_b1 (v := x50) k49 dX11_bench_52 ?_
        refine lv_iand hx hb dX11_bench_55 ?_
        refine tw_top (fun x54 => ?_)
        have h53 := iv_any x54
        refine tw_goi hS (md_runV (As := [.int x52, .int x54]) (rest := []) hx hb hml hown hW hK hT hS.1 (t_X5_holdForGood l D cy tx base Z K N Ma Ra J24 hS.2.1 b46 hz_b46 hk_b46 x52 h51 x54 h53) s_X11_196 ⟨rfl, rfl, ⟨Nat.le_of_ble_eq_true rfl, Nat.le_of_ble_eq_true rfl⟩, ⟨Nat.le_of_ble_eq_true rfl, Nat.le_of_ble_eq_true rfl⟩⟩ hz_b46 hk_b46 (by decide) rfl rfl hl.1 rfl (Nat.le_of_ble_eq_true rfl) dX11_bench_56) rfl rfl (fun x61 H locs M58 R59 J57 hS f55 g56 E60 => ?_)
        have eR59 := Fr.nil g56 rfl
        subst eR59
        have h_x61 := E60
        clear E60
        exact tw_endi hx hb hr hlocks hK hT hS hQ ((iv_mono h_x61 (by decide) (by decide))) dX11_bench_59
      · have q62 : ¬ x42.toInt = 0 := ti_ne c43
        refine lv_aload_n hx hb dX11_bench_28 rfl (lv_at hl 0 rfl) ?_
        refine lv_iconst (v := 0) hx hb dX11_bench_29 (by decide) ?_
        refine tw_goi hS (md_runV (As := [.int 0]) (rest := []) hx hb hml hown hW hK hT hS.1 (t_X11_refuse l D cy tx base Z K N Ma Ra J24 hS.2.1 a0 hz_a0 hk_a0 0 (iv_mono (iv_c (c := 0) (n := 0) (by decide)) (by decide) (by decide))) s_X11_158 ⟨rfl, rfl, ⟨Nat.le_of_ble_eq_true rfl, Nat.le_of_ble_eq_true rfl⟩, ⟨Nat.le_of_ble_eq_true rfl, Nat.le_of_ble_eq_true rfl⟩⟩ hz_a0 hk_a0 (by decide) rfl rfl hl.1 rfl (Nat.le_of_ble_eq_true rfl) dX11_bench_30) rfl rfl (fun x69 H locs M66 R67 J65 hS f63 g64 E68 => ?_)
        have eR67 := Fr.nil g64 rfl
        subst eR67
        have h_x69 := E68
        clear E68
        exact tw_endi hx hb hr hlocks hK hT hS hQ ((iv_mono h_x69 (by decide) (by decide))) dX11_bench_33
def Lt_X11_bend : WL := [(14, 0, 2000000)]
def LRt_X11_bend : WL := []
set_option maxRecDepth 100000 in
set_option maxHeartbeats 4000000 in
theorem t_X11_bend (l : Launch) (D : va_G) (cy : Nat → ClassId) (tx : (Nat → Nat) × (Nat → Nat)) (base Z : Nat) (K N : Nat → Nat) (Ma : MT) (Ra : RT) (Ja : JT) (hTy : Ty Z K N Ma Ra) (a0 : Nat) (hz_a0 : a0 < Z) (hk_a0 : K a0 = 11) (a1 : Int32) (h_a1 : iv (-2147483648) 2147483647 a1) (a2 : Int32) (h_a2 : iv (-2147483648) 2147483647 a2) : Met l yX11_bend [Cond.code yX11_bend cX11_bend 4 (some .int)] (md_rm 2 0 0) (va_Pc [.ref (base + a0), .int a1, .int a2] (md_U D cy tx base Z K N Ma Ra Ja)) (mQi D cy tx base (fun r u => TP Z K N Lt_X11_bend LRt_X11_bend Ma Ra u ∧ (iv (-2147483648) 2147483647 r))) 0 0 (fun q => base ≤ q) := by
  refine tw_ofW (L := Lt_X11_bend) (LR := LRt_X11_bend) (by decide) (Nat.le_of_ble_eq_true rfl) hTy ?_
  intro p e s m args below meth c Q ls hx hb hr hlocks hown hml hW hK hT hS hQ hl
  have hl : lv_has ls 4 [(0, .ref (base + a0)), (1, .int a1), (2, .int a2)] := hl
  refine lv_aload_n hx hb dX11_bend_0 rfl (lv_at hl 0 rfl) ?_
  refine tw_getr hx hb hW hown hK hS f_X11_31_10 hz_a0 hk_a0 (t := 10) (n := 0) rfl dX11_bend_1 (fun b1 k2 hz_b1 hk_b1 hn_b1 => ?_)
  refine lv_iload_n hx hb dX11_bend_4 rfl (lv_at hl 1 rfl) ?_
  refine tw_goi hS (md_runV (As := [.int a1]) (rest := []) hx hb hml hown hW hK hT hS.1 (t_X9_hasMember l D cy tx base Z K N Ma Ra Ja hS.2.1 b1 hz_b1 hk_b1 a1 h_a1) s_X11_132 ⟨rfl, rfl, ⟨Nat.le_of_ble_eq_true rfl, Nat.le_of_ble_eq_true rfl⟩, ⟨Nat.le_of_ble_eq_true rfl, Nat.le_of_ble_eq_true rfl⟩⟩ hz_b1 hk_b1 (by decide) rfl rfl hl.1 rfl (Nat.le_of_ble_eq_true rfl) dX11_bend_5) rfl rfl (fun x9 H locs M6 R7 J5 hS f3 g4 E8 => ?_)
  have eM6 := Fr.nil f3 rfl
  subst eM6
  have eR7 := Fr.nil g4 rfl
  subst eR7
  obtain ⟨h_x9, p10⟩ := E8
  refine lv_if_eq (tgt := 22) hx hb dX11_bend_8 (by decide) (fun c11 => ?_) (fun c11 => ?_)
  · have q12 : x9.toInt = 0 := ti_eq c11
    have h13 : iv 0 0 x9 := ⟨by have := (h_x9).1; have := ((iv_c (c := 0) (n := 0) (by decide))).1; omega, by have := (h_x9).2; have := ((iv_c (c := 0) (n := 0) (by decide))).2; omega⟩
    refine lv_aload_n hx hb dX11_bend_22 rfl (lv_at hl 0 rfl) ?_
    refine lv_iconst (v := 0) hx hb dX11_bend_23 (by decide) ?_
    refine tw_goi hS (md_runV (As := [.int 0]) (rest := []) hx hb hml hown hW hK hT hS.1 (t_X11_refuse l D cy tx base Z K N Ma Ra J5 hS.2.1 a0 hz_a0 hk_a0 0 (iv_mono (iv_c (c := 0) (n := 0) (by decide)) (by decide) (by decide))) s_X11_158 ⟨rfl, rfl, ⟨Nat.le_of_ble_eq_true rfl, Nat.le_of_ble_eq_true rfl⟩, ⟨Nat.le_of_ble_eq_true rfl, Nat.le_of_ble_eq_true rfl⟩⟩ hz_a0 hk_a0 (by decide) rfl rfl hl.1 rfl (Nat.le_of_ble_eq_true rfl) dX11_bend_24) rfl rfl (fun x20 H locs M17 R18 J16 hS f14 g15 E19 => ?_)
    have eR18 := Fr.nil g15 rfl
    subst eR18
    have h_x20 := E19
    clear E19
    exact tw_endi hx hb hr hlocks hK hT hS hQ ((iv_mono h_x20 (by decide) (by decide))) dX11_bend_27
  · have q21 : ¬ x9.toInt = 0 := ti_ne c11
    have h22 : iv 1 1 x9 := ⟨by have := (h_x9).1; have := ((iv_c (c := 0) (n := 0) (by decide))).1; have := ((iv_c (c := 0) (n := 0) (by decide))).2; omega, by have := (h_x9).2; have := ((iv_c (c := 0) (n := 0) (by decide))).1; have := ((iv_c (c := 0) (n := 0) (by decide))).2; omega⟩
    have h23 : iv 0 9 a1 := ⟨by have := (p10 c11).1; have := (h_a1).1; omega, by have := (p10 c11).2; have := (h_a1).2; omega⟩
    refine lv_iload_n hx hb dX11_bend_11 rfl (lv_at hl 2 rfl) ?_
    refine lv_iconst (v := (-1)) hx hb dX11_bend_12 (by decide) ?_
    refine lv_icmp_lt (tgt := 22) hx hb dX11_bend_13 (by decide) (fun c24 => ?_) (fun c24 => ?_)
    · have q25 : a2.toInt < (-1) := ti_lt c24
      have h26 : iv (-2147483648) (-2) a2 := iv_ltL (y := (-1)) h_a2 (iv_c (c := (-1)) (n := (-1)) (by decide)) q25 (by decide)
      refine lv_aload_n hx hb dX11_bend_22 rfl (lv_at hl 0 rfl) ?_
      refine lv_iconst (v := 0) hx hb dX11_bend_23 (by decide) ?_
      refine tw_goi hS (md_runV (As := [.int 0]) (rest := []) hx hb hml hown hW hK hT hS.1 (t_X11_refuse l D cy tx base Z K N Ma Ra J5 hS.2.1 a0 hz_a0 hk_a0 0 (iv_mono (iv_c (c := 0) (n := 0) (by decide)) (by decide) (by decide))) s_X11_158 ⟨rfl, rfl, ⟨Nat.le_of_ble_eq_true rfl, Nat.le_of_ble_eq_true rfl⟩, ⟨Nat.le_of_ble_eq_true rfl, Nat.le_of_ble_eq_true rfl⟩⟩ hz_a0 hk_a0 (by decide) rfl rfl hl.1 rfl (Nat.le_of_ble_eq_true rfl) dX11_bend_24) rfl rfl (fun x33 H locs M30 R31 J29 hS f27 g28 E32 => ?_)
      have eR31 := Fr.nil g28 rfl
      subst eR31
      have h_x33 := E32
      clear E32
      exact tw_endi hx hb hr hlocks hK hT hS hQ ((iv_mono h_x33 (by decide) (by decide))) dX11_bend_27
    · have q34 : (-1) ≤ a2.toInt := ti_nlt c24
      have h35 : iv (-1) 2147483647 a2 := iv_geL (y := (-1)) h_a2 (iv_c (c := (-1)) (n := (-1)) (by decide)) q34 (by decide)
      refine lv_iload_n hx hb dX11_bend_16 rfl (lv_at hl 2 rfl) ?_
      refine lv_bipush (v := 6) hx hb dX11_bend_17 (by decide) ?_
      refine lv_icmp_lt (tgt := 28) hx hb dX11_bend_19 (by decide) (fun c36 => ?_) (fun c36 => ?_)
      · have q37 : a2.toInt < 6 := ti_lt c36
        have h38 : iv (-1) 5 a2 := iv_ltL (y := 6) h35 (iv_c (c := 6) (n := 6) (by decide)) q37 (by decide)
        refine lv_aload_n hx hb dX11_bend_28 rfl (lv_at hl 0 rfl) ?_
        refine tw_getrk hx hb hW hown hK hS f_X11_31_10 hz_a0 hk_a0 (b := b1) k2 dX11_bend_29 ?_
        refine tw_getr hx hb hW hown hK hS f_X11_139_9 hz_b1 hk_b1 (t := 14) (n := 10) rfl dX11_bend_32 (fun b39 k40 hz_b39 hk_b39 hn_b39 => ?_)
        have hn_b39 := hn_b39 (by decide)
        refine lv_iload_n hx hb dX11_bend_35 rfl (lv_at hl 1 rfl) ?_
        refine tw_iald hx hb hK hS hz_b39 hk_b39 (Or.inl rfl) hn_b39 (lo := (-2147483648)) (hi := 2147483647) h23 ⟨by decide, by decide⟩ rg_u14 dX11_bend_36 (fun x43 k42 h41 => ?_)
        refine lv_istore_n (lv' := [(3, .int x43), (0, .ref (base + a0)), (1, .int a1), (2, .int a2)]) hx hb dX11_bend_37 rfl hl (by decide) rfl (fun ls hl => ?_)
        refine lv_aload_n hx hb dX11_bend_38 rfl (lv_at hl 1 rfl) ?_
        refine tw_getrk hx hb hW hown hK hS f_X11_31_10 hz_a0 hk_a0 (b := b1) k2 dX11_bend_39 ?_
        refine tw_getrk hx hb hW hown hK hS f_X11_139_9 hz_b1 hk_b1 (b := b39) k40 dX11_bend_42 ?_
        refine lv_iload_n hx hb dX11_bend_45 rfl (lv_at hl 2 rfl) ?_
        refine lv_iload_n hx hb dX11_bend_46 rfl (lv_at hl 3 rfl) ?_
        refine tw_iast hx hb hK hS hz_b39 hk_b39 (Or.inl rfl) hn_b39 h23 ⟨by decide, by decide⟩ h38 (rg_s14 ⟨by decide, by decide⟩) (jl := 0) (jh := 1999999) ⟨by decide, by decide⟩ rfl dX11_bend_47 (fun H locs M46 hS k44 f45 => ?_)
        refine lv_iload_n hx hb dX11_bend_48 rfl (lv_at hl 0 rfl) ?_
        exact tw_endi hx hb hr hlocks hK hT hS hQ (h41) dX11_bend_49
      · have q47 : 6 ≤ a2.toInt := ti_nlt c36
        have h48 : iv 6 2147483647 a2 := iv_geL (y := 6) h35 (iv_c (c := 6) (n := 6) (by decide)) q47 (by decide)
        refine lv_aload_n hx hb dX11_bend_22 rfl (lv_at hl 0 rfl) ?_
        refine lv_iconst (v := 0) hx hb dX11_bend_23 (by decide) ?_
        refine tw_goi hS (md_runV (As := [.int 0]) (rest := []) hx hb hml hown hW hK hT hS.1 (t_X11_refuse l D cy tx base Z K N Ma Ra J5 hS.2.1 a0 hz_a0 hk_a0 0 (iv_mono (iv_c (c := 0) (n := 0) (by decide)) (by decide) (by decide))) s_X11_158 ⟨rfl, rfl, ⟨Nat.le_of_ble_eq_true rfl, Nat.le_of_ble_eq_true rfl⟩, ⟨Nat.le_of_ble_eq_true rfl, Nat.le_of_ble_eq_true rfl⟩⟩ hz_a0 hk_a0 (by decide) rfl rfl hl.1 rfl (Nat.le_of_ble_eq_true rfl) dX11_bend_24) rfl rfl (fun x55 H locs M52 R53 J51 hS f49 g50 E54 => ?_)
        have eR53 := Fr.nil g50 rfl
        subst eR53
        have h_x55 := E54
        clear E54
        exact tw_endi hx hb hr hlocks hK hT hS hQ ((iv_mono h_x55 (by decide) (by decide))) dX11_bend_27
def Lt_X9_hasCouncil : WL := []
def LRt_X9_hasCouncil : WL := []
set_option maxRecDepth 100000 in
set_option maxHeartbeats 4000000 in
theorem t_X9_hasCouncil (l : Launch) (D : va_G) (cy : Nat → ClassId) (tx : (Nat → Nat) × (Nat → Nat)) (base Z : Nat) (K N : Nat → Nat) (Ma : MT) (Ra : RT) (Ja : JT) (hTy : Ty Z K N Ma Ra) (a0 : Nat) (hz_a0 : a0 < Z) (hk_a0 : K a0 = 10) : Met l yX9_hasCouncil [Cond.code yX9_hasCouncil cX9_hasCouncil 1 (some .boolean)] (md_rm 1 0 0) (va_Pc [.ref (base + a0)] (md_U D cy tx base Z K N Ma Ra Ja)) (mQi D cy tx base (fun r u => TP Z K N Lt_X9_hasCouncil LRt_X9_hasCouncil Ma Ra u ∧ (iv 0 1 r))) 0 0 (fun q => base ≤ q) := by
  refine tw_ofW (L := Lt_X9_hasCouncil) (LR := LRt_X9_hasCouncil) (by decide) (Nat.le_of_ble_eq_true rfl) hTy ?_
  intro p e s m args below meth c Q ls hx hb hr hlocks hown hml hW hK hT hS hQ hl
  have hl : lv_has ls 1 [(0, .ref (base + a0))] := hl
  refine lv_aload_n hx hb dX9_hasCouncil_0 rfl (lv_at hl 0 rfl) ?_
  refine tw_geti hx hb hW hown hK hS f_X9_33_9 hz_a0 hk_a0 (lo := (-2147483648)) (hi := 10) rfl dX9_hasCouncil_1 (fun x3 k2 h1 => ?_)
  refine lv_if_le (tgt := 11) hx hb dX9_hasCouncil_4 (by decide) (fun c4 => ?_) (fun c4 => ?_)
  · have q5 : x3.toInt ≤ 0 := ti_le c4
    have h6 : iv (-2147483648) 0 x3 := iv_leL (y := 0) h1 (iv_c (c := 0) (n := 0) (by decide)) q5 (by decide)
    refine lv_iconst (v := 0) hx hb dX9_hasCouncil_11 (by decide) ?_
    exact tw_endz hx hb hr hlocks hK hT hS hQ rfl ((iv_mono (iv_c (c := 0) (n := 0) (by decide)) (by decide) (by decide))) dX9_hasCouncil_12
  · have q7 : 0 < x3.toInt := ti_nle c4
    have h8 : iv 1 10 x3 := iv_gtL (y := 0) h1 (iv_c (c := 0) (n := 0) (by decide)) q7 (by decide)
    refine lv_iconst (v := 1) hx hb dX9_hasCouncil_7 (by decide) ?_
    refine lv_goto (tgt := 12) hx hb dX9_hasCouncil_8 (by decide) ?_
    exact tw_endz hx hb hr hlocks hK hT hS hQ rfl ((iv_mono (iv_c (c := 1) (n := 1) (by decide)) (by decide) (by decide))) dX9_hasCouncil_12
def Lt_X11_beside : WL := [(10, 4, 6), (14, 0, 2000000)]
def LRt_X11_beside : WL := []
set_option maxRecDepth 100000 in
set_option maxHeartbeats 4000000 in
theorem t_X11_beside (l : Launch) (D : va_G) (cy : Nat → ClassId) (tx : (Nat → Nat) × (Nat → Nat)) (base Z : Nat) (K N : Nat → Nat) (Ma : MT) (Ra : RT) (Ja : JT) (hTy : Ty Z K N Ma Ra) (a0 : Nat) (hz_a0 : a0 < Z) (hk_a0 : K a0 = 11) (a1 : Int32) (h_a1 : iv (-2147483648) 2147483647 a1) (a2 : Int32) (h_a2 : iv (-2147483648) 2147483647 a2) : Met l yX11_beside [Cond.code yX11_beside cX11_beside 5 (some .int)] (md_rm 2 0 0) (va_Pc [.ref (base + a0), .int a1, .int a2] (md_U D cy tx base Z K N Ma Ra Ja)) (mQi D cy tx base (fun r u => TP Z K N Lt_X11_beside LRt_X11_beside Ma Ra u ∧ (iv (-2147483648) 2147483647 r))) 0 0 (fun q => base ≤ q) := by
  refine tw_ofW (L := Lt_X11_beside) (LR := LRt_X11_beside) (by decide) (Nat.le_of_ble_eq_true rfl) hTy ?_
  intro p e s m args below meth c Q ls hx hb hr hlocks hown hml hW hK hT hS hQ hl
  have hl : lv_has ls 5 [(0, .ref (base + a0)), (1, .int a1), (2, .int a2)] := hl
  refine lv_iload_n hx hb dX11_beside_0 rfl (lv_at hl 1 rfl) ?_
  have J25_1 : ∀  (M1 : MT) (R2 : RT) (J3 : JT) (H : Heap) (locs : List Loc) (ls : Array Slot) (hS : SB D cy base Z K N Lt_X11_beside LRt_X11_beside Ma Ra M1 R2 J3 s H locs) (hl : lv_has ls 5 [(0, .ref (base + a0)), (1, .int a1), (2, .int a2)]), W p l e (md_rm 2 0 0) s m args below meth c H locs 0 0 Q (F0 m 25 ls []) := by
    intro  M1 R2 J3 H locs ls  hS hl
    have f4 := hS.2.2.1
    have g5 := hS.2.2.2
    refine lv_iconst (v := 0) hx hb dX11_beside_25 (by decide) ?_
    refine lv_istore_n (lv' := [(3, .int 0), (0, .ref (base + a0)), (1, .int a1), (2, .int a2)]) hx hb dX11_beside_26 rfl hl (by decide) rfl (fun ls hl => ?_)
    refine lv_aload_n hx hb dX11_beside_27 rfl (lv_at hl 1 rfl) ?_
    refine tw_getr hx hb hW hown hK hS f_X11_31_10 hz_a0 hk_a0 (t := 10) (n := 0) rfl dX11_beside_28 (fun b6 k7 hz_b6 hk_b6 hn_b6 => ?_)
    refine tw_goi hS (md_runV (As := []) (rest := []) hx hb hml hown hW hK hT hS.1 (t_X9_hasCouncil l D cy tx base Z K N M1 R2 J3 hS.2.1 b6 hz_b6 hk_b6) s_X11_170 ⟨rfl, rfl, ⟨Nat.le_of_ble_eq_true rfl, Nat.le_of_ble_eq_true rfl⟩, ⟨Nat.le_of_ble_eq_true rfl, Nat.le_of_ble_eq_true rfl⟩⟩ hz_b6 hk_b6 (by decide) rfl rfl hl.1 rfl (Nat.le_of_ble_eq_true rfl) dX11_beside_31) rfl rfl (fun x14 H locs M11 R12 J10 hS f8 g9 E13 => ?_)
    have eM11 := Fr.nil f8 rfl
    subst eM11
    have eR12 := Fr.nil g9 rfl
    subst eR12
    have h_x14 := E13
    clear E13
    refine lv_if_eq (tgt := 41) hx hb dX11_beside_34 (by decide) (fun c15 => ?_) (fun c15 => ?_)
    · have q16 : x14.toInt = 0 := ti_eq c15
      have h17 : iv 0 0 x14 := ⟨by have := (h_x14).1; have := ((iv_c (c := 0) (n := 0) (by decide))).1; omega, by have := (h_x14).2; have := ((iv_c (c := 0) (n := 0) (by decide))).2; omega⟩
      refine lv_aload_n hx hb dX11_beside_41 rfl (lv_at hl 1 rfl) ?_
      refine lv_iconst (v := 0) hx hb dX11_beside_42 (by decide) ?_
      refine tw_goi hS (md_runV (As := [.int 0]) (rest := []) hx hb hml hown hW hK hT hS.1 (t_X11_refuse l D cy tx base Z K N M1 R2 J10 hS.2.1 a0 hz_a0 hk_a0 0 (iv_mono (iv_c (c := 0) (n := 0) (by decide)) (by decide) (by decide))) s_X11_158 ⟨rfl, rfl, ⟨Nat.le_of_ble_eq_true rfl, Nat.le_of_ble_eq_true rfl⟩, ⟨Nat.le_of_ble_eq_true rfl, Nat.le_of_ble_eq_true rfl⟩⟩ hz_a0 hk_a0 (by decide) rfl rfl hl.1 rfl (Nat.le_of_ble_eq_true rfl) dX11_beside_43) rfl rfl (fun x24 H locs M21 R22 J20 hS f18 g19 E23 => ?_)
      have eR22 := Fr.nil g19 rfl
      subst eR22
      have h_x24 := E23
      clear E23
      exact tw_endi hx hb hr hlocks hK hT hS hQ ((iv_mono h_x24 (by decide) (by decide))) dX11_beside_46
    · have q25 : ¬ x14.toInt = 0 := ti_ne c15
      have h26 : iv 1 1 x14 := ⟨by have := (h_x14).1; have := ((iv_c (c := 0) (n := 0) (by decide))).1; have := ((iv_c (c := 0) (n := 0) (by decide))).2; omega, by have := (h_x14).2; have := ((iv_c (c := 0) (n := 0) (by decide))).1; have := ((iv_c (c := 0) (n := 0) (by decide))).2; omega⟩
      refine lv_iload_n hx hb dX11_beside_37 rfl (lv_at hl 0 rfl) ?_
      refine lv_if_ne (tgt := 47) hx hb dX11_beside_38 (by decide) (fun h => absurd h (by decide)) (fun _ => ?_)
      refine lv_aload_n hx hb dX11_beside_41 rfl (lv_at hl 1 rfl) ?_
      refine lv_iconst (v := 0) hx hb dX11_beside_42 (by decide) ?_
      refine tw_goi hS (md_runV (As := [.int 0]) (rest := []) hx hb hml hown hW hK hT hS.1 (t_X11_refuse l D cy tx base Z K N M1 R2 J10 hS.2.1 a0 hz_a0 hk_a0 0 (iv_mono (iv_c (c := 0) (n := 0) (by decide)) (by decide) (by decide))) s_X11_158 ⟨rfl, rfl, ⟨Nat.le_of_ble_eq_true rfl, Nat.le_of_ble_eq_true rfl⟩, ⟨Nat.le_of_ble_eq_true rfl, Nat.le_of_ble_eq_true rfl⟩⟩ hz_a0 hk_a0 (by decide) rfl rfl hl.1 rfl (Nat.le_of_ble_eq_true rfl) dX11_beside_43) rfl rfl (fun x33 H locs M30 R31 J29 hS f27 g28 E32 => ?_)
      have eR31 := Fr.nil g28 rfl
      subst eR31
      have h_x33 := E32
      clear E32
      exact tw_endi hx hb hr hlocks hK hT hS hQ ((iv_mono h_x33 (by decide) (by decide))) dX11_beside_46
  refine lv_if_lt (tgt := 25) hx hb dX11_beside_1 (by decide) (fun c34 => ?_) (fun c34 => ?_)
  · have q35 : a1.toInt < 0 := ti_lt c34
    have h36 : iv (-2147483648) (-1) a1 := iv_ltL (y := 0) h_a1 (iv_c (c := 0) (n := 0) (by decide)) q35 (by decide)
    exact J25_1  Ma Ra Ja s.heap [] _  hS hl
  · have q37 : 0 ≤ a1.toInt := ti_nlt c34
    have h38 : iv 0 2147483647 a1 := iv_geL (y := 0) h_a1 (iv_c (c := 0) (n := 0) (by decide)) q37 (by decide)
    refine lv_iload_n hx hb dX11_beside_4 rfl (lv_at hl 1 rfl) ?_
    refine lv_iconst (v := 2) hx hb dX11_beside_5 (by decide) ?_
    refine lv_icmp_gt (tgt := 25) hx hb dX11_beside_6 (by decide) (fun c39 => ?_) (fun c39 => ?_)
    · have q40 : 2 < a1.toInt := ti_lt c39
      have h41 : iv 3 2147483647 a1 := iv_gtL (y := 2) h38 (iv_c (c := 2) (n := 2) (by decide)) q40 (by decide)
      exact J25_1  Ma Ra Ja s.heap [] _  hS hl
    · have q42 : a1.toInt ≤ 2 := ti_nlt c39
      have h43 : iv 0 2 a1 := iv_leL (y := 2) h38 (iv_c (c := 2) (n := 2) (by decide)) q42 (by decide)
      refine lv_iload_n hx hb dX11_beside_9 rfl (lv_at hl 2 rfl) ?_
      refine lv_iconst (v := 1) hx hb dX11_beside_10 (by decide) ?_
      refine lv_icmp_lt (tgt := 25) hx hb dX11_beside_11 (by decide) (fun c44 => ?_) (fun c44 => ?_)
      · have q45 : a2.toInt < 1 := ti_lt c44
        have h46 : iv (-2147483648) 0 a2 := iv_ltL (y := 1) h_a2 (iv_c (c := 1) (n := 1) (by decide)) q45 (by decide)
        exact J25_1  Ma Ra Ja s.heap [] _  hS hl
      · have q47 : 1 ≤ a2.toInt := ti_nlt c44
        have h48 : iv 1 2147483647 a2 := iv_geL (y := 1) h_a2 (iv_c (c := 1) (n := 1) (by decide)) q47 (by decide)
        refine lv_iload_n hx hb dX11_beside_14 rfl (lv_at hl 2 rfl) ?_
        refine lv_sipush (v := 9999) hx hb dX11_beside_15 (by decide) ?_
        refine lv_icmp_gt (tgt := 25) hx hb dX11_beside_18 (by decide) (fun c49 => ?_) (fun c49 => ?_)
        · have q50 : 9999 < a2.toInt := ti_lt c49
          have h51 : iv 10000 2147483647 a2 := iv_gtL (y := 9999) h48 (iv_c (c := 9999) (n := 9999) (by decide)) q50 (by decide)
          exact J25_1  Ma Ra Ja s.heap [] _  hS hl
        · have q52 : a2.toInt ≤ 9999 := ti_nlt c49
          have h53 : iv 1 9999 a2 := iv_leL (y := 9999) h48 (iv_c (c := 9999) (n := 9999) (by decide)) q52 (by decide)
          refine lv_iconst (v := 1) hx hb dX11_beside_21 (by decide) ?_
          refine lv_goto (tgt := 26) hx hb dX11_beside_22 (by decide) ?_
          refine lv_istore_n (lv' := [(3, .int 1), (0, .ref (base + a0)), (1, .int a1), (2, .int a2)]) hx hb dX11_beside_26 rfl hl (by decide) rfl (fun ls hl => ?_)
          refine lv_aload_n hx hb dX11_beside_27 rfl (lv_at hl 1 rfl) ?_
          refine tw_getr hx hb hW hown hK hS f_X11_31_10 hz_a0 hk_a0 (t := 10) (n := 0) rfl dX11_beside_28 (fun b54 k55 hz_b54 hk_b54 hn_b54 => ?_)
          refine tw_goi hS (md_runV (As := []) (rest := []) hx hb hml hown hW hK hT hS.1 (t_X9_hasCouncil l D cy tx base Z K N Ma Ra Ja hS.2.1 b54 hz_b54 hk_b54) s_X11_170 ⟨rfl, rfl, ⟨Nat.le_of_ble_eq_true rfl, Nat.le_of_ble_eq_true rfl⟩, ⟨Nat.le_of_ble_eq_true rfl, Nat.le_of_ble_eq_true rfl⟩⟩ hz_b54 hk_b54 (by decide) rfl rfl hl.1 rfl (Nat.le_of_ble_eq_true rfl) dX11_beside_31) rfl rfl (fun x62 H locs M59 R60 J58 hS f56 g57 E61 => ?_)
          have eM59 := Fr.nil f56 rfl
          subst eM59
          have eR60 := Fr.nil g57 rfl
          subst eR60
          have h_x62 := E61
          clear E61
          refine lv_if_eq (tgt := 41) hx hb dX11_beside_34 (by decide) (fun c63 => ?_) (fun c63 => ?_)
          · have q64 : x62.toInt = 0 := ti_eq c63
            have h65 : iv 0 0 x62 := ⟨by have := (h_x62).1; have := ((iv_c (c := 0) (n := 0) (by decide))).1; omega, by have := (h_x62).2; have := ((iv_c (c := 0) (n := 0) (by decide))).2; omega⟩
            refine lv_aload_n hx hb dX11_beside_41 rfl (lv_at hl 1 rfl) ?_
            refine lv_iconst (v := 0) hx hb dX11_beside_42 (by decide) ?_
            refine tw_goi hS (md_runV (As := [.int 0]) (rest := []) hx hb hml hown hW hK hT hS.1 (t_X11_refuse l D cy tx base Z K N Ma Ra J58 hS.2.1 a0 hz_a0 hk_a0 0 (iv_mono (iv_c (c := 0) (n := 0) (by decide)) (by decide) (by decide))) s_X11_158 ⟨rfl, rfl, ⟨Nat.le_of_ble_eq_true rfl, Nat.le_of_ble_eq_true rfl⟩, ⟨Nat.le_of_ble_eq_true rfl, Nat.le_of_ble_eq_true rfl⟩⟩ hz_a0 hk_a0 (by decide) rfl rfl hl.1 rfl (Nat.le_of_ble_eq_true rfl) dX11_beside_43) rfl rfl (fun x72 H locs M69 R70 J68 hS f66 g67 E71 => ?_)
            have eR70 := Fr.nil g67 rfl
            subst eR70
            have h_x72 := E71
            clear E71
            exact tw_endi hx hb hr hlocks hK hT hS hQ ((iv_mono h_x72 (by decide) (by decide))) dX11_beside_46
          · have q73 : ¬ x62.toInt = 0 := ti_ne c63
            have h74 : iv 1 1 x62 := ⟨by have := (h_x62).1; have := ((iv_c (c := 0) (n := 0) (by decide))).1; have := ((iv_c (c := 0) (n := 0) (by decide))).2; omega, by have := (h_x62).2; have := ((iv_c (c := 0) (n := 0) (by decide))).1; have := ((iv_c (c := 0) (n := 0) (by decide))).2; omega⟩
            refine lv_iload_n hx hb dX11_beside_37 rfl (lv_at hl 0 rfl) ?_
            refine lv_if_ne (tgt := 47) hx hb dX11_beside_38 (by decide) (fun _ => ?_) (fun h => absurd h (by decide))
            refine lv_aload_n hx hb dX11_beside_47 rfl (lv_at hl 1 rfl) ?_
            refine tw_getrk hx hb hW hown hK hS f_X11_31_10 hz_a0 hk_a0 (b := b54) k55 dX11_beside_48 ?_
            refine tw_geti hx hb hW hown hK hS f_X11_174_9 hz_b54 hk_b54 (lo := (-2147483648)) (hi := 2147483647) rfl dX11_beside_51 (fun x77 k76 h75 => ?_)
            refine lv_istore (lv' := [(4, .int x77), (3, .int 1), (0, .ref (base + a0)), (1, .int a1), (2, .int a2)]) hx hb dX11_beside_54 hl (by decide) rfl (fun ls hl => ?_)
            refine lv_aload_n hx hb dX11_beside_56 rfl (lv_at hl 2 rfl) ?_
            refine tw_getrk hx hb hW hown hK hS f_X11_31_10 hz_a0 hk_a0 (b := b54) k55 dX11_beside_57 ?_
            refine lv_iload_n hx hb dX11_beside_60 rfl (lv_at hl 3 rfl) ?_
            refine tw_puti hx hb hW hown hK hS f_X11_174_9 hz_b54 hk_b54 rfl rfl (lo := (-2147483648)) (hi := 2147483647) rfl (iv_mono h43 (by decide) (by decide)) rfl dX11_beside_61 (fun H locs M80 hS k78 f79 => ?_)
            refine lv_aload_n hx hb dX11_beside_64 rfl (lv_at hl 2 rfl) ?_
            refine tw_getrk hx hb hW hown hK hS f_X11_31_10 hz_a0 hk_a0 (b := b54) k55 dX11_beside_65 ?_
            refine lv_iload_n hx hb dX11_beside_68 rfl (lv_at hl 4 rfl) ?_
            refine tw_puti hx hb hW hown hK hS f_X11_177_9 hz_b54 hk_b54 rfl rfl (lo := 0) (hi := 9999) rfl (iv_mono h53 (by decide) (by decide)) rfl dX11_beside_69 (fun H locs M83 hS k81 f82 => ?_)
            refine lv_iload hx hb dX11_beside_72 (lv_at hl 0 rfl) ?_
            exact tw_endi hx hb hr hlocks hK hT hS hQ (h75) dX11_beside_74
def Lt_X1_gainFound : WL := []
def LRt_X1_gainFound : WL := []
set_option maxRecDepth 100000 in
set_option maxHeartbeats 4000000 in
theorem t_X1_gainFound (l : Launch) (D : va_G) (cy : Nat → ClassId) (tx : (Nat → Nat) × (Nat → Nat)) (base Z : Nat) (K N : Nat → Nat) (Ma : MT) (Ra : RT) (Ja : JT) (hTy : Ty Z K N Ma Ra) (a0 : Nat) (hz_a0 : a0 < Z) (hk_a0 : K a0 = 2) : Met l yX1_gainFound [Cond.code yX1_gainFound cX1_gainFound 1 (some .int)] (md_rm 1 0 0) (va_Pc [.ref (base + a0)] (md_U D cy tx base Z K N Ma Ra Ja)) (mQi D cy tx base (fun r u => TP Z K N Lt_X1_gainFound LRt_X1_gainFound Ma Ra u ∧ (iv (-2147483648) 2147483647 r))) 0 0 (fun q => base ≤ q) := by
  refine tw_ofW (L := Lt_X1_gainFound) (LR := LRt_X1_gainFound) (by decide) (Nat.le_of_ble_eq_true rfl) hTy ?_
  intro p e s m args below meth c Q ls hx hb hr hlocks hown hml hW hK hT hS hQ hl
  have hl : lv_has ls 1 [(0, .ref (base + a0))] := hl
  refine lv_aload_n hx hb dX1_gainFound_0 rfl (lv_at hl 0 rfl) ?_
  refine tw_geti hx hb hW hown hK hS f_X1_35_1 hz_a0 hk_a0 (lo := (-2147483648)) (hi := 2147483647) rfl dX1_gainFound_1 (fun x3 k2 h1 => ?_)
  refine lv_aload_n hx hb dX1_gainFound_4 rfl (lv_at hl 0 rfl) ?_
  refine tw_geti hx hb hW hown hK hS f_X1_53_1 hz_a0 hk_a0 (lo := (-2147483648)) (hi := 2147483647) rfl dX1_gainFound_5 (fun x6 k5 h4 => ?_)
  refine lv_imul hx hb dX1_gainFound_8 ?_
  refine tw_top (fun x8 => ?_)
  have h7 := iv_any x8
  exact tw_endi hx hb hr hlocks hK hT hS hQ (h7) dX1_gainFound_9
def Lt_X1_pointAt : WL := []
def LRt_X1_pointAt : WL := []
set_option maxRecDepth 100000 in
set_option maxHeartbeats 4000000 in
theorem t_X1_pointAt (l : Launch) (D : va_G) (cy : Nat → ClassId) (tx : (Nat → Nat) × (Nat → Nat)) (base Z : Nat) (K N : Nat → Nat) (Ma : MT) (Ra : RT) (Ja : JT) (hTy : Ty Z K N Ma Ra) (a0 : Nat) (hz_a0 : a0 < Z) (hk_a0 : K a0 = 2) (a1 : Int32) (h_a1 : iv 0 5 a1) : Met l yX1_pointAt [Cond.code yX1_pointAt cX1_pointAt 2 (some .int)] (md_rm 1 0 0) (va_Pc [.ref (base + a0), .int a1] (md_U D cy tx base Z K N Ma Ra Ja)) (mQi D cy tx base (fun r u => TP Z K N Lt_X1_pointAt LRt_X1_pointAt Ma Ra u ∧ (iv (-1000000) 11 r))) 0 0 (fun q => base ≤ q) := by
  refine tw_ofW (L := Lt_X1_pointAt) (LR := LRt_X1_pointAt) (by decide) (Nat.le_of_ble_eq_true rfl) hTy ?_
  intro p e s m args below meth c Q ls hx hb hr hlocks hown hml hW hK hT hS hQ hl
  have hl : lv_has ls 2 [(0, .ref (base + a0)), (1, .int a1)] := hl
  refine lv_iload_n hx hb dX1_pointAt_0 rfl (lv_at hl 1 rfl) ?_
  refine lv_if_lt (tgt := 21) hx hb dX1_pointAt_1 (by decide) (fun c1 => False.elim (by have q : a1.toInt < 0 := ti_lt c1; have := (h_a1).1; have := (h_a1).2; omega)) (fun c1 => ?_)
  have q2 : 0 ≤ a1.toInt := ti_nlt c1
  refine lv_iload_n hx hb dX1_pointAt_4 rfl (lv_at hl 1 rfl) ?_
  refine lv_aload_n hx hb dX1_pointAt_5 rfl (lv_at hl 0 rfl) ?_
  refine tw_geti hx hb hW hown hK hS f_X1_49_1 hz_a0 hk_a0 (lo := 0) (hi := 6) rfl dX1_pointAt_6 (fun x5 k4 h3 => ?_)
  refine lv_icmp_ge (tgt := 21) hx hb dX1_pointAt_9 (by decide) (fun c6 => ?_) (fun c6 => ?_)
  · have q7 : x5.toInt ≤ a1.toInt := ti_le c6
    have h8 : iv 0 5 x5 := iv_leL (y := a1) h3 h_a1 q7 (by decide)
    refine lv_ldc hx hb hown (hW _ w_5_149 rfl) dX1_pointAt_21 ?_
    exact tw_endi hx hb hr hlocks hK hT hS hQ ((iv_mono (iv_c (c := (-1000000)) (n := (-1000000)) (by decide)) (by decide) (by decide))) dX1_pointAt_23
  · have q9 : a1.toInt < x5.toInt := ti_nle c6
    have h10 : iv 1 6 x5 := iv_gtL (y := a1) h3 h_a1 q9 (by decide)
    refine lv_aload_n hx hb dX1_pointAt_12 rfl (lv_at hl 0 rfl) ?_
    refine tw_getr hx hb hW hown hK hS f_X1_20_1 hz_a0 hk_a0 (t := 21) (n := 6) rfl dX1_pointAt_13 (fun b11 k12 hz_b11 hk_b11 hn_b11 => ?_)
    have hn_b11 := hn_b11 (by decide)
    refine lv_iload_n hx hb dX1_pointAt_16 rfl (lv_at hl 1 rfl) ?_
    refine tw_iald hx hb hK hS hz_b11 hk_b11 (Or.inr (by decide)) hn_b11 (lo := 0) (hi := 11) h_a1 ⟨by decide, by decide⟩ rg_u21 dX1_pointAt_17 (fun x15 k14 h13 => ?_)
    refine lv_goto (tgt := 23) hx hb dX1_pointAt_18 (by decide) ?_
    exact tw_endi hx hb hr hlocks hK hT hS hQ ((iv_mono h13 (by decide) (by decide))) dX1_pointAt_23
def Lt_X5_trueSaying : WL := []
def LRt_X5_trueSaying : WL := []
set_option maxRecDepth 100000 in
set_option maxHeartbeats 4000000 in
theorem t_X5_trueSaying (l : Launch) (D : va_G) (cy : Nat → ClassId) (tx : (Nat → Nat) × (Nat → Nat)) (base Z : Nat) (K N : Nat → Nat) (Ma : MT) (Ra : RT) (Ja : JT) (hTy : Ty Z K N Ma Ra) (a0 : Int32) (h_a0 : iv (-2147483648) 2147483647 a0) : Met l yX5_trueSaying [Cond.code yX5_trueSaying cX5_trueSaying 1 (some .int)] (md_rm 1 0 0) (va_Pc [.int a0] (md_U D cy tx base Z K N Ma Ra Ja)) (mQi D cy tx base (fun r u => TP Z K N Lt_X5_trueSaying LRt_X5_trueSaying Ma Ra u ∧ (iv 0 2 r))) 0 0 (fun q => base ≤ q) := by
  refine tw_ofW (L := Lt_X5_trueSaying) (LR := LRt_X5_trueSaying) (by decide) (Nat.le_of_ble_eq_true rfl) hTy ?_
  intro p e s m args below meth c Q ls hx hb hr hlocks hown hml hW hK hT hS hQ hl
  have hl : lv_has ls 1 [(0, .int a0)] := hl
  refine lv_iload_n hx hb dX5_trueSaying_0 rfl (lv_at hl 0 rfl) ?_
  refine lv_if_le (tgt := 8) hx hb dX5_trueSaying_1 (by decide) (fun c1 => ?_) (fun c1 => ?_)
  · have q2 : a0.toInt ≤ 0 := ti_le c1
    have h3 : iv (-2147483648) 0 a0 := iv_leL (y := 0) h_a0 (iv_c (c := 0) (n := 0) (by decide)) q2 (by decide)
    refine lv_iload_n hx hb dX5_trueSaying_8 rfl (lv_at hl 0 rfl) ?_
    refine lv_if_ge (tgt := 16) hx hb dX5_trueSaying_9 (by decide) (fun c4 => ?_) (fun c4 => ?_)
    · have q5 : 0 ≤ a0.toInt := ti_le c4
      have h6 : iv 0 0 a0 := iv_geL (y := 0) h3 (iv_c (c := 0) (n := 0) (by decide)) q5 (by decide)
      refine lv_iconst (v := 2) hx hb dX5_trueSaying_16 (by decide) ?_
      exact tw_endi hx hb hr hlocks hK hT hS hQ ((iv_mono (iv_c (c := 2) (n := 2) (by decide)) (by decide) (by decide))) dX5_trueSaying_17
    · have q7 : a0.toInt < 0 := ti_nle c4
      have h8 : iv (-2147483648) (-1) a0 := iv_ltL (y := 0) h3 (iv_c (c := 0) (n := 0) (by decide)) q7 (by decide)
      refine lv_iconst (v := 0) hx hb dX5_trueSaying_12 (by decide) ?_
      refine lv_goto (tgt := 17) hx hb dX5_trueSaying_13 (by decide) ?_
      exact tw_endi hx hb hr hlocks hK hT hS hQ ((iv_mono (iv_c (c := 0) (n := 0) (by decide)) (by decide) (by decide))) dX5_trueSaying_17
  · have q9 : 0 < a0.toInt := ti_nle c1
    have h10 : iv 1 2147483647 a0 := iv_gtL (y := 0) h_a0 (iv_c (c := 0) (n := 0) (by decide)) q9 (by decide)
    refine lv_iconst (v := 1) hx hb dX5_trueSaying_4 (by decide) ?_
    refine lv_goto (tgt := 17) hx hb dX5_trueSaying_5 (by decide) ?_
    exact tw_endi hx hb hr hlocks hK hT hS hQ ((iv_mono (iv_c (c := 1) (n := 1) (by decide)) (by decide) (by decide))) dX5_trueSaying_17
def Lt_X5_countedVoices : WL := [(6, 8, 12)]
def LRt_X5_countedVoices : WL := []
set_option maxRecDepth 100000 in
set_option maxHeartbeats 4000000 in
theorem t_X5_countedVoices (l : Launch) (D : va_G) (cy : Nat → ClassId) (tx : (Nat → Nat) × (Nat → Nat)) (base Z : Nat) (K N : Nat → Nat) (Ma : MT) (Ra : RT) (Ja : JT) (hTy : Ty Z K N Ma Ra) (a0 : Nat) (hz_a0 : a0 < Z) (hk_a0 : K a0 = 6) (a1 : Int32) (h_a1 : iv 4 6 a1) : Met l yX5_countedVoices [Cond.code yX5_countedVoices cX5_countedVoices 4 (some .int)] (md_rm 1 0 0) (va_Pc [.ref (base + a0), .int a1] (md_U D cy tx base Z K N Ma Ra Ja)) (mQi D cy tx base (fun r u => TP Z K N Lt_X5_countedVoices LRt_X5_countedVoices Ma Ra u ∧ (iv (-2147483648) 2147483647 r))) 0 0 (fun q => base ≤ q) := by
  refine tw_ofW (L := Lt_X5_countedVoices) (LR := LRt_X5_countedVoices) (by decide) (Nat.le_of_ble_eq_true rfl) hTy ?_
  intro p e s m args below meth c Q ls hx hb hr hlocks hown hml hW hK hT hS hQ hl
  have hl : lv_has ls 4 [(0, .ref (base + a0)), (1, .int a1)] := hl
  refine lv_aload_n hx hb dX5_countedVoices_0 rfl (lv_at hl 0 rfl) ?_
  refine tw_geti hx hb hW hown hK hS f_X5_43_5 hz_a0 hk_a0 (lo := 0) (hi := 1) rfl dX5_countedVoices_1 (fun x3 k2 h1 => ?_)
  have J140_4 : ∀  (M4 : MT) (R5 : RT) (J6 : JT) (H : Heap) (locs : List Loc) (ls : Array Slot) (hS : SB D cy base Z K N Lt_X5_countedVoices LRt_X5_countedVoices Ma Ra M4 R5 J6 s H locs) (hl : lv_has ls 4 [(0, .ref (base + a0)), (1, .int a1)]), W p l e (md_rm 1 0 0) s m args below meth c H locs 0 0 Q (F0 m 140 ls []) := by
    intro  M4 R5 J6 H locs ls  hS hl
    have f7 := hS.2.2.1
    have g8 := hS.2.2.2
    refine lv_iload_n hx hb dX5_countedVoices_140 rfl (lv_at hl 1 rfl) ?_
    refine lv_iconst (v := 4) hx hb dX5_countedVoices_141 (by decide) ?_
    refine lv_icmp_ne (tgt := 152) hx hb dX5_countedVoices_142 (by decide) (fun c9 => ?_) (fun c9 => ?_)
    · have q10 : ¬ a1.toInt = 4 := ti_ne c9
      have h11 : iv 5 6 a1 := ⟨by have := (h_a1).1; have := ((iv_c (c := 4) (n := 4) (by decide))).1; have := ((iv_c (c := 4) (n := 4) (by decide))).2; omega, by have := (h_a1).2; have := ((iv_c (c := 4) (n := 4) (by decide))).1; have := ((iv_c (c := 4) (n := 4) (by decide))).2; omega⟩
      refine lv_iload_n hx hb dX5_countedVoices_152 rfl (lv_at hl 1 rfl) ?_
      refine lv_iconst (v := 5) hx hb dX5_countedVoices_153 (by decide) ?_
      refine lv_icmp_ne (tgt := 164) hx hb dX5_countedVoices_154 (by decide) (fun c12 => ?_) (fun c12 => ?_)
      · have q13 : ¬ a1.toInt = 5 := ti_ne c12
        have h14 : iv 6 6 a1 := ⟨by have := (h11).1; have := ((iv_c (c := 5) (n := 5) (by decide))).1; have := ((iv_c (c := 5) (n := 5) (by decide))).2; omega, by have := (h11).2; have := ((iv_c (c := 5) (n := 5) (by decide))).1; have := ((iv_c (c := 5) (n := 5) (by decide))).2; omega⟩
        refine lv_aload_n hx hb dX5_countedVoices_164 rfl (lv_at hl 0 rfl) ?_
        refine tw_geti hx hb hW hown hK hS f_X5_85_5 hz_a0 hk_a0 (lo := (-2147483648)) (hi := 2147483647) rfl dX5_countedVoices_165 (fun x17 k16 h15 => ?_)
        exact tw_endi hx hb hr hlocks hK hT hS hQ (h15) dX5_countedVoices_168
      · have q18 : a1.toInt = 5 := ti_eq c12
        have h19 : iv 5 5 a1 := ⟨by have := (h11).1; have := ((iv_c (c := 5) (n := 5) (by decide))).1; omega, by have := (h11).2; have := ((iv_c (c := 5) (n := 5) (by decide))).2; omega⟩
        refine lv_aload_n hx hb dX5_countedVoices_157 rfl (lv_at hl 0 rfl) ?_
        refine tw_geti hx hb hW hown hK hS f_X5_82_5 hz_a0 hk_a0 (lo := (-2147483648)) (hi := 2147483647) rfl dX5_countedVoices_158 (fun x22 k21 h20 => ?_)
        refine lv_goto (tgt := 168) hx hb dX5_countedVoices_161 (by decide) ?_
        exact tw_endi hx hb hr hlocks hK hT hS hQ (h20) dX5_countedVoices_168
    · have q23 : a1.toInt = 4 := ti_eq c9
      have h24 : iv 4 4 a1 := ⟨by have := (h_a1).1; have := ((iv_c (c := 4) (n := 4) (by decide))).1; omega, by have := (h_a1).2; have := ((iv_c (c := 4) (n := 4) (by decide))).2; omega⟩
      refine lv_aload_n hx hb dX5_countedVoices_145 rfl (lv_at hl 0 rfl) ?_
      refine tw_geti hx hb hW hown hK hS f_X5_79_5 hz_a0 hk_a0 (lo := (-2147483648)) (hi := 2147483647) rfl dX5_countedVoices_146 (fun x27 k26 h25 => ?_)
      refine lv_goto (tgt := 168) hx hb dX5_countedVoices_149 (by decide) ?_
      exact tw_endi hx hb hr hlocks hK hT hS hQ (h25) dX5_countedVoices_168
  refine lv_if_ne (tgt := 140) hx hb dX5_countedVoices_4 (by decide) (fun c28 => ?_) (fun c28 => ?_)
  · have q29 : ¬ x3.toInt = 0 := ti_ne c28
    have h30 : iv 1 1 x3 := ⟨by have := (h1).1; have := ((iv_c (c := 0) (n := 0) (by decide))).1; have := ((iv_c (c := 0) (n := 0) (by decide))).2; omega, by have := (h1).2; have := ((iv_c (c := 0) (n := 0) (by decide))).1; have := ((iv_c (c := 0) (n := 0) (by decide))).2; omega⟩
    exact J140_4  Ma Ra Ja s.heap [] _  hS hl
  · have q31 : x3.toInt = 0 := ti_eq c28
    have h32 : iv 0 0 x3 := ⟨by have := (h1).1; have := ((iv_c (c := 0) (n := 0) (by decide))).1; omega, by have := (h1).2; have := ((iv_c (c := 0) (n := 0) (by decide))).2; omega⟩
    refine lv_aload_n hx hb dX5_countedVoices_7 rfl (lv_at hl 0 rfl) ?_
    refine lv_iconst (v := 1) hx hb dX5_countedVoices_8 (by decide) ?_
    refine tw_puti hx hb hW hown hK hS f_X5_43_5 hz_a0 hk_a0 rfl rfl (lo := 0) (hi := 1) rfl (iv_mono (iv_c (c := 1) (n := 1) (by decide)) (by decide) (by decide)) rfl dX5_countedVoices_9 (fun H locs M35 hS k33 f34 => ?_)
    refine lv_aload_n hx hb dX5_countedVoices_12 rfl (lv_at hl 0 rfl) ?_
    refine lv_iconst (v := 0) hx hb dX5_countedVoices_13 (by decide) ?_
    refine tw_puti hx hb hW hown hK hS f_X5_79_5 hz_a0 hk_a0 rfl rfl (lo := (-2147483648)) (hi := 2147483647) rfl (iv_mono (iv_c (c := 0) (n := 0) (by decide)) (by decide) (by decide)) rfl dX5_countedVoices_14 (fun H locs M38 hS k36 f37 => ?_)
    refine lv_aload_n hx hb dX5_countedVoices_17 rfl (lv_at hl 0 rfl) ?_
    refine lv_iconst (v := 0) hx hb dX5_countedVoices_18 (by decide) ?_
    refine tw_puti hx hb hW hown hK hS f_X5_82_5 hz_a0 hk_a0 rfl rfl (lo := (-2147483648)) (hi := 2147483647) rfl (iv_mono (iv_c (c := 0) (n := 0) (by decide)) (by decide) (by decide)) rfl dX5_countedVoices_19 (fun H locs M41 hS k39 f40 => ?_)
    refine lv_aload_n hx hb dX5_countedVoices_22 rfl (lv_at hl 0 rfl) ?_
    refine lv_iconst (v := 0) hx hb dX5_countedVoices_23 (by decide) ?_
    refine tw_puti hx hb hW hown hK hS f_X5_85_5 hz_a0 hk_a0 rfl rfl (lo := (-2147483648)) (hi := 2147483647) rfl (iv_mono (iv_c (c := 0) (n := 0) (by decide)) (by decide) (by decide)) rfl dX5_countedVoices_24 (fun H locs M44 hS k42 f43 => ?_)
    refine lv_iconst (v := 0) hx hb dX5_countedVoices_27 (by decide) ?_
    refine lv_istore_n (lv' := [(2, .int 0), (0, .ref (base + a0)), (1, .int a1)]) hx hb dX5_countedVoices_28 rfl hl (by decide) rfl (fun ls hl => ?_)
    have W29_46 : ∀ (n_46 : Nat) (x45 : Int32) (M46 : MT) (R47 : RT) (J48 : JT) (H : Heap) (locs : List Loc) (ls : Array Slot) (h_x45 : iv 0 10 x45) (hm_46 : 10 - x45.toInt < (n_46 : Int)) (hS : SB D cy base Z K N Lt_X5_countedVoices LRt_X5_countedVoices Ma Ra M46 R47 J48 s H locs) (hl : lv_has ls 4 [(2, .int x45), (0, .ref (base + a0)), (1, .int a1)]), W p l e (md_rm 1 0 0) s m args below meth c H locs 0 0 Q (F0 m 29 ls []) := by
      intro n_46
      induction n_46 with
      | zero =>
        intro x45 M46 R47 J48 H locs ls h_x45 hm_46 hS hl
        exfalso
        have := (h_a1).1; have := (h_a1).2; have := (h_x45).1; have := (h_x45).2; omega
      | succ n_46 ih_46 =>
        intro x45 M46 R47 J48 H locs ls h_x45 hm_46 hS hl
        have f49 := hS.2.2.1
        have g50 := hS.2.2.2
        refine lv_iload_n hx hb dX5_countedVoices_29 rfl (lv_at hl 0 rfl) ?_
        refine lv_aload_n hx hb dX5_countedVoices_30 rfl (lv_at hl 1 rfl) ?_
        refine tw_getr hx hb hW hown hK hS f_X5_9_5 hz_a0 hk_a0 (t := 10) (n := 0) rfl dX5_countedVoices_31 (fun b51 k52 hz_b51 hk_b51 hn_b51 => ?_)
        refine tw_geti hx hb hW hown hK hS f_X5_53_9 hz_b51 hk_b51 (lo := (-2147483648)) (hi := 10) rfl dX5_countedVoices_34 (fun x55 k54 h53 => ?_)
        refine lv_icmp_ge (tgt := 140) hx hb dX5_countedVoices_37 (by decide) (fun c56 => ?_) (fun c56 => ?_)
        · have q57 : x55.toInt ≤ x45.toInt := ti_le c56
          exact J140_4  M46 R47 J48 H locs _  hS (lv_sub hl [1, 2] rfl)
        · have q58 : x45.toInt < x55.toInt := ti_nle c56
          have h59 : iv 0 9 x45 := iv_ltL (y := x55) h_x45 h53 q58 (by decide)
          have h60 : iv 1 10 x55 := iv_gtL (y := x45) h53 h_x45 q58 (by decide)
          refine lv_aload_n hx hb dX5_countedVoices_40 rfl (lv_at hl 1 rfl) ?_
          refine tw_getrk hx hb hW hown hK hS f_X5_9_5 hz_a0 hk_a0 (b := b51) k52 dX5_countedVoices_41 ?_
          refine tw_geti hx hb hW hown hK hS f_X5_88_9 hz_b51 hk_b51 (lo := (-2147483648)) (hi := 2147483647) rfl dX5_countedVoices_44 (fun x63 k62 h61 => ?_)
          refine lv_iload_n hx hb dX5_countedVoices_47 rfl (lv_at hl 0 rfl) ?_
          refine lv_ishr hx hb dX5_countedVoices_48 ?_
          refine tw_top (fun x65 => ?_)
          have h64 := iv_any x65
          refine lv_iconst (v := 1) hx hb dX5_countedVoices_49 (by decide) ?_
          refine tw_iand (hi := 1) hx hb (iv_mono (iv_c (c := 1) (n := 1) (by decide)) (lo := 0) (hi := 1) (by decide) (by decide)) (by decide) dX5_countedVoices_50 (fun x68 h66 => ?_)
          refine lv_iconst (v := 1) hx hb dX5_countedVoices_51 (by decide) ?_
          refine lv_icmp_ne (tgt := 134) hx hb dX5_countedVoices_52 (by decide) (fun c69 => ?_) (fun c69 => ?_)
          · have q70 : ¬ x68.toInt = 1 := ti_ne c69
            have h71 : iv 0 0 x68 := ⟨by have := (h66).1; have := ((iv_c (c := 1) (n := 1) (by decide))).1; have := ((iv_c (c := 1) (n := 1) (by decide))).2; omega, by have := (h66).2; have := ((iv_c (c := 1) (n := 1) (by decide))).1; have := ((iv_c (c := 1) (n := 1) (by decide))).2; omega⟩
            refine tw_iinc (lv' := fun x74 => [(2, .int x74), (0, .ref (base + a0)), (1, .int a1)]) (lo := 1) (hi := 10) hx hb dX5_countedVoices_134 hl (k := 0) rfl h59 (by decide) ⟨by decide, by decide⟩ ⟨by decide, by decide⟩ (by decide) (fun _ => rfl) (fun x74 ls e73 h72 hl => ?_)
            refine lv_goto (tgt := 29) hx hb dX5_countedVoices_137 (by decide) ?_
            have hm75 : 10 - x74.toInt < (n_46 : Int) := by
              have := (h_a1).1; have := (h_a1).2; have := (h59).1; have := (h59).2; have := (h72).1; have := (h72).2; omega
            exact ih_46 x74 M46 R47 J48 H locs _ (iv_mono h72 (by decide) (by decide)) hm75 hS hl
          · have q76 : x68.toInt = 1 := ti_eq c69
            have h77 : iv 1 1 x68 := ⟨by have := (h66).1; have := ((iv_c (c := 1) (n := 1) (by decide))).1; omega, by have := (h66).2; have := ((iv_c (c := 1) (n := 1) (by decide))).2; omega⟩
            refine lv_aload_n hx hb dX5_countedVoices_55 rfl (lv_at hl 1 rfl) ?_
            refine tw_getrk hx hb hW hown hK hS f_X5_9_5 hz_a0 hk_a0 (b := b51) k52 dX5_countedVoices_56 ?_
            refine tw_getr hx hb hW hown hK hS f_X5_91_9 hz_b51 hk_b51 (t := 14) (n := 120) rfl dX5_countedVoices_59 (fun b78 k79 hz_b78 hk_b78 hn_b78 => ?_)
            have hn_b78 := hn_b78 (by decide)
            refine lv_aload_n hx hb dX5_countedVoices_62 rfl (lv_at hl 1 rfl) ?_
            refine tw_geti hx hb hW hown hK hS f_X5_30_5 hz_a0 hk_a0 (lo := 0) (hi := 11) rfl dX5_countedVoices_63 (fun x82 k81 h80 => ?_)
            refine lv_bipush (v := 10) hx hb dX5_countedVoices_66 (by decide) ?_
            refine tw_imulc (k := 10) (lo := 0) (hi := 110) hx hb h80 (by decide) (by decide) ⟨by decide, by decide⟩ ⟨by decide, by decide⟩ dX5_countedVoices_68 (fun x85 e84 h83 => ?_)
            refine lv_iload_n hx hb dX5_countedVoices_69 rfl (lv_at hl 0 rfl) ?_
            refine tw_iadd (lo := 0) (hi := 119) hx hb h83 h59 ⟨by decide, by decide⟩ ⟨by decide, by decide⟩ dX5_countedVoices_70 (fun x88 e87 h86 => ?_)
            refine tw_iald hx hb hK hS hz_b78 hk_b78 (Or.inl rfl) hn_b78 (lo := (-2147483648)) (hi := 2147483647) h86 ⟨by decide, by decide⟩ rg_u14 dX5_countedVoices_71 (fun x91 k90 h89 => ?_)
            refine lv_istore_n (lv' := [(3, .int x91), (2, .int x45), (0, .ref (base + a0)), (1, .int a1)]) hx hb dX5_countedVoices_72 rfl hl (by decide) rfl (fun ls hl => ?_)
            refine lv_aload_n hx hb dX5_countedVoices_73 rfl (lv_at hl 2 rfl) ?_
            refine lv_dup hx hb dX5_countedVoices_74 rfl ?_
            refine tw_geti hx hb hW hown hK hS f_X5_79_5 hz_a0 hk_a0 (lo := (-2147483648)) (hi := 2147483647) rfl dX5_countedVoices_75 (fun x94 k93 h92 => ?_)
            refine lv_aload_n hx hb dX5_countedVoices_78 rfl (lv_at hl 2 rfl) ?_
            refine tw_getr hx hb hW hown hK hS f_X5_25_5 hz_a0 hk_a0 (t := 20) (n := 10) rfl dX5_countedVoices_79 (fun b95 k96 hz_b95 hk_b95 hn_b95 => ?_)
            have hn_b95 := hn_b95 (by decide)
            refine lv_iload_n hx hb dX5_countedVoices_82 rfl (lv_at hl 1 rfl) ?_
            refine tw_iald hx hb hK hS hz_b95 hk_b95 (Or.inr (by decide)) hn_b95 (lo := (-2147483648)) (hi := 2147483647) h59 ⟨by decide, by decide⟩ rg_u20 dX5_countedVoices_83 (fun x99 k98 h97 => ?_)
            refine lv_iadd hx hb dX5_countedVoices_84 ?_
            refine tw_top (fun x101 => ?_)
            have h100 := iv_any x101
            refine tw_puti hx hb hW hown hK hS f_X5_79_5 hz_a0 hk_a0 rfl rfl (lo := (-2147483648)) (hi := 2147483647) rfl h100 rfl dX5_countedVoices_85 (fun H locs M104 hS k102 f103 => ?_)
            refine lv_aload_n hx hb dX5_countedVoices_88 rfl (lv_at hl 2 rfl) ?_
            refine lv_dup hx hb dX5_countedVoices_89 rfl ?_
            refine tw_geti hx hb hW hown hK hS f_X5_82_5 hz_a0 hk_a0 (lo := (-2147483648)) (hi := 2147483647) rfl dX5_countedVoices_90 (fun x107 k106 h105 => ?_)
            refine lv_iload_n hx hb dX5_countedVoices_93 rfl (lv_at hl 0 rfl) ?_
            refine lv_if_le (tgt := 106) hx hb dX5_countedVoices_94 (by decide) (fun c108 => ?_) (fun c108 => ?_)
            · have q109 : x91.toInt ≤ 0 := ti_le c108
              have h110 : iv (-2147483648) 0 x91 := iv_leL (y := 0) h89 (iv_c (c := 0) (n := 0) (by decide)) q109 (by decide)
              refine lv_iconst (v := 0) hx hb dX5_countedVoices_106 (by decide) ?_
              refine tw_iadd (lo := (-2147483648)) (hi := 2147483647) hx hb h105 (iv_c (c := 0) (n := 0) (by decide)) ⟨by decide, by decide⟩ ⟨by decide, by decide⟩ dX5_countedVoices_107 (fun x113 e112 h111 => ?_)
              have e112 : x113.toInt = x107.toInt + 0 := e112
              refine tw_puti hx hb hW hown hK hS f_X5_82_5 hz_a0 hk_a0 rfl rfl (lo := (-2147483648)) (hi := 2147483647) rfl h111 rfl dX5_countedVoices_108 (fun H locs M116 hS k114 f115 => ?_)
              refine lv_aload_n hx hb dX5_countedVoices_111 rfl (lv_at hl 2 rfl) ?_
              refine lv_dup hx hb dX5_countedVoices_112 rfl ?_
              refine tw_geti hx hb hW hown hK hS f_X5_85_5 hz_a0 hk_a0 (lo := (-2147483648)) (hi := 2147483647) rfl dX5_countedVoices_113 (fun x119 k118 h117 => ?_)
              refine lv_iload_n hx hb dX5_countedVoices_116 rfl (lv_at hl 0 rfl) ?_
              refine lv_if_ge (tgt := 129) hx hb dX5_countedVoices_117 (by decide) (fun c120 => ?_) (fun c120 => ?_)
              · have q121 : 0 ≤ x91.toInt := ti_le c120
                have h122 : iv 0 0 x91 := iv_geL (y := 0) h110 (iv_c (c := 0) (n := 0) (by decide)) q121 (by decide)
                refine lv_iconst (v := 0) hx hb dX5_countedVoices_129 (by decide) ?_
                refine tw_iadd (lo := (-2147483648)) (hi := 2147483647) hx hb h117 (iv_c (c := 0) (n := 0) (by decide)) ⟨by decide, by decide⟩ ⟨by decide, by decide⟩ dX5_countedVoices_130 (fun x125 e124 h123 => ?_)
                have e124 : x125.toInt = x119.toInt + 0 := e124
                refine tw_puti hx hb hW hown hK hS f_X5_85_5 hz_a0 hk_a0 rfl rfl (lo := (-2147483648)) (hi := 2147483647) rfl h123 rfl dX5_countedVoices_131 (fun H locs M128 hS k126 f127 => ?_)
                refine tw_iinc (lv' := fun x131 => [(2, .int x131), (3, .int x91), (0, .ref (base + a0)), (1, .int a1)]) (lo := 1) (hi := 10) hx hb dX5_countedVoices_134 hl (k := 1) rfl h59 (by decide) ⟨by decide, by decide⟩ ⟨by decide, by decide⟩ (by decide) (fun _ => rfl) (fun x131 ls e130 h129 hl => ?_)
                refine lv_goto (tgt := 29) hx hb dX5_countedVoices_137 (by decide) ?_
                have hm132 : 10 - x131.toInt < (n_46 : Int) := by
                  have := (h_a1).1; have := (h_a1).2; have := (h129).1; have := (h129).2; have := (h59).1; have := (h59).2; have := (h86).1; have := (h86).2; omega
                exact ih_46 x131 M128 R47 J48 H locs _ (iv_mono h129 (by decide) (by decide)) hm132 hS (lv_sub hl [0, 2, 3] rfl)
              · have q133 : x91.toInt < 0 := ti_nle c120
                have h134 : iv (-2147483648) (-1) x91 := iv_ltL (y := 0) h110 (iv_c (c := 0) (n := 0) (by decide)) q133 (by decide)
                refine lv_aload_n hx hb dX5_countedVoices_120 rfl (lv_at hl 2 rfl) ?_
                refine tw_getrk hx hb hW hown hK hS f_X5_25_5 hz_a0 hk_a0 (b := b95) k96 dX5_countedVoices_121 ?_
                refine lv_iload_n hx hb dX5_countedVoices_124 rfl (lv_at hl 1 rfl) ?_
                have k135 : M116 b95 x45.toNatClampNeg = x99 := ((Fr.kpa f115 hk_b95 rfl x45.toNatClampNeg).trans (Fr.kpa f103 hk_b95 rfl x45.toNatClampNeg)).trans k98
                refine tw_ialk hx hb hK hS hz_b95 hk_b95 (Or.inr (by decide)) hn_b95 h59 ⟨by decide, by decide⟩ (v := x99) k135 dX5_countedVoices_125 ?_
                refine lv_goto (tgt := 130) hx hb dX5_countedVoices_126 (by decide) ?_
                refine lv_iadd hx hb dX5_countedVoices_130 ?_
                refine tw_top (fun x137 => ?_)
                have h136 := iv_any x137
                refine tw_puti hx hb hW hown hK hS f_X5_85_5 hz_a0 hk_a0 rfl rfl (lo := (-2147483648)) (hi := 2147483647) rfl h136 rfl dX5_countedVoices_131 (fun H locs M140 hS k138 f139 => ?_)
                refine tw_iinc (lv' := fun x143 => [(2, .int x143), (3, .int x91), (0, .ref (base + a0)), (1, .int a1)]) (lo := 1) (hi := 10) hx hb dX5_countedVoices_134 hl (k := 1) rfl h59 (by decide) ⟨by decide, by decide⟩ ⟨by decide, by decide⟩ (by decide) (fun _ => rfl) (fun x143 ls e142 h141 hl => ?_)
                refine lv_goto (tgt := 29) hx hb dX5_countedVoices_137 (by decide) ?_
                have hm144 : 10 - x143.toInt < (n_46 : Int) := by
                  have := (h_a1).1; have := (h_a1).2; have := (h141).1; have := (h141).2; have := (h59).1; have := (h59).2; have := (h86).1; have := (h86).2; omega
                exact ih_46 x143 M140 R47 J48 H locs _ (iv_mono h141 (by decide) (by decide)) hm144 hS (lv_sub hl [0, 2, 3] rfl)
            · have q145 : 0 < x91.toInt := ti_nle c108
              have h146 : iv 1 2147483647 x91 := iv_gtL (y := 0) h89 (iv_c (c := 0) (n := 0) (by decide)) q145 (by decide)
              refine lv_aload_n hx hb dX5_countedVoices_97 rfl (lv_at hl 2 rfl) ?_
              refine tw_getrk hx hb hW hown hK hS f_X5_25_5 hz_a0 hk_a0 (b := b95) k96 dX5_countedVoices_98 ?_
              refine lv_iload_n hx hb dX5_countedVoices_101 rfl (lv_at hl 1 rfl) ?_
              have k147 : M104 b95 x45.toNatClampNeg = x99 := (Fr.kpa f103 hk_b95 rfl x45.toNatClampNeg).trans k98
              refine tw_ialk hx hb hK hS hz_b95 hk_b95 (Or.inr (by decide)) hn_b95 h59 ⟨by decide, by decide⟩ (v := x99) k147 dX5_countedVoices_102 ?_
              refine lv_goto (tgt := 107) hx hb dX5_countedVoices_103 (by decide) ?_
              refine lv_iadd hx hb dX5_countedVoices_107 ?_
              refine tw_top (fun x149 => ?_)
              have h148 := iv_any x149
              refine tw_puti hx hb hW hown hK hS f_X5_82_5 hz_a0 hk_a0 rfl rfl (lo := (-2147483648)) (hi := 2147483647) rfl h148 rfl dX5_countedVoices_108 (fun H locs M152 hS k150 f151 => ?_)
              refine lv_aload_n hx hb dX5_countedVoices_111 rfl (lv_at hl 2 rfl) ?_
              refine lv_dup hx hb dX5_countedVoices_112 rfl ?_
              refine tw_geti hx hb hW hown hK hS f_X5_85_5 hz_a0 hk_a0 (lo := (-2147483648)) (hi := 2147483647) rfl dX5_countedVoices_113 (fun x155 k154 h153 => ?_)
              refine lv_iload_n hx hb dX5_countedVoices_116 rfl (lv_at hl 0 rfl) ?_
              refine lv_if_ge (tgt := 129) hx hb dX5_countedVoices_117 (by decide) (fun c156 => ?_) (fun c156 => False.elim (by have q : x91.toInt < 0 := ti_nle c156; have := (h146).1; have := (h146).2; omega))
              have q157 : 0 ≤ x91.toInt := ti_le c156
              refine lv_iconst (v := 0) hx hb dX5_countedVoices_129 (by decide) ?_
              refine tw_iadd (lo := (-2147483648)) (hi := 2147483647) hx hb h153 (iv_c (c := 0) (n := 0) (by decide)) ⟨by decide, by decide⟩ ⟨by decide, by decide⟩ dX5_countedVoices_130 (fun x160 e159 h158 => ?_)
              have e159 : x160.toInt = x155.toInt + 0 := e159
              refine tw_puti hx hb hW hown hK hS f_X5_85_5 hz_a0 hk_a0 rfl rfl (lo := (-2147483648)) (hi := 2147483647) rfl h158 rfl dX5_countedVoices_131 (fun H locs M163 hS k161 f162 => ?_)
              refine tw_iinc (lv' := fun x166 => [(2, .int x166), (3, .int x91), (0, .ref (base + a0)), (1, .int a1)]) (lo := 1) (hi := 10) hx hb dX5_countedVoices_134 hl (k := 1) rfl h59 (by decide) ⟨by decide, by decide⟩ ⟨by decide, by decide⟩ (by decide) (fun _ => rfl) (fun x166 ls e165 h164 hl => ?_)
              refine lv_goto (tgt := 29) hx hb dX5_countedVoices_137 (by decide) ?_
              have hm167 : 10 - x166.toInt < (n_46 : Int) := by
                have := (h_a1).1; have := (h_a1).2; have := (h164).1; have := (h164).2; have := (h59).1; have := (h59).2; have := (h86).1; have := (h86).2; omega
              exact ih_46 x166 M163 R47 J48 H locs _ (iv_mono h164 (by decide) (by decide)) hm167 hS (lv_sub hl [0, 2, 3] rfl)
    have hm168 : 10 - (0 : Int32).toInt < (((11 : Nat) : Int) : Int) := by
      have := (h_a1).1; have := (h_a1).2; have : (0 : Int32).toInt = 0 := (by decide); omega
    exact W29_46 11 0 M44 Ra Ja H locs _ (iv_mono (iv_c (c := 0) (n := 0) (by decide)) (by decide) (by decide)) hm168 hS hl
def Lt_X5_mostBehind : WL := []
def LRt_X5_mostBehind : WL := []
set_option maxRecDepth 100000 in
set_option maxHeartbeats 4000000 in
theorem t_X5_mostBehind (l : Launch) (D : va_G) (cy : Nat → ClassId) (tx : (Nat → Nat) × (Nat → Nat)) (base Z : Nat) (K N : Nat → Nat) (Ma : MT) (Ra : RT) (Ja : JT) (hTy : Ty Z K N Ma Ra) (a0 : Nat) (hz_a0 : a0 < Z) (hk_a0 : K a0 = 6) (a1 : Int32) (h_a1 : iv 0 9 a1) (row_a0 : RowOK N Ma Ra a0) : Met l yX5_mostBehind [Cond.code yX5_mostBehind cX5_mostBehind 6 (some .int)] (md_rm 1 0 0) (va_Pc [.ref (base + a0), .int a1] (md_U D cy tx base Z K N Ma Ra Ja)) (mQi D cy tx base (fun r u => TP Z K N Lt_X5_mostBehind LRt_X5_mostBehind Ma Ra u ∧ (iv 0 2147483647 r))) 0 0 (fun q => base ≤ q) := by
  refine tw_ofW (L := Lt_X5_mostBehind) (LR := LRt_X5_mostBehind) (by decide) (Nat.le_of_ble_eq_true rfl) hTy ?_
  intro p e s m args below meth c Q ls hx hb hr hlocks hown hml hW hK hT hS hQ hl
  have hl : lv_has ls 6 [(0, .ref (base + a0)), (1, .int a1)] := hl
  refine lv_iconst (v := 0) hx hb dX5_mostBehind_0 (by decide) ?_
  refine lv_istore_n (lv' := [(2, .int 0), (0, .ref (base + a0)), (1, .int a1)]) hx hb dX5_mostBehind_1 rfl hl (by decide) rfl (fun ls hl => ?_)
  refine lv_aload_n hx hb dX5_mostBehind_2 rfl (lv_at hl 1 rfl) ?_
  refine tw_geti hx hb hW hown hK hS f_X5_37_5 hz_a0 hk_a0 (lo := 0) (hi := 8) rfl dX5_mostBehind_3 (fun x3 k2 h1 => ?_)
  refine lv_istore_n (lv' := [(3, .int x3), (2, .int 0), (0, .ref (base + a0)), (1, .int a1)]) hx hb dX5_mostBehind_6 rfl hl (by decide) rfl (fun ls hl => ?_)
  have W7_6 : ∀ (n_6 : Nat) (x4 : Int32) (x5 : Int32) (M6 : MT) (R7 : RT) (J8 : JT) (H : Heap) (locs : List Loc) (ls : Array Slot) (h_x4 : iv 0 2147483647 x4) (h_x5 : iv 0 8 x5) (hm_6 : 8 - x5.toInt < (n_6 : Int)) (hS : SB D cy base Z K N Lt_X5_mostBehind LRt_X5_mostBehind Ma Ra M6 R7 J8 s H locs) (hl : lv_has ls 6 [(2, .int x4), (3, .int x5), (0, .ref (base + a0)), (1, .int a1)]), W p l e (md_rm 1 0 0) s m args below meth c H locs 0 0 Q (F0 m 7 ls []) := by
    intro n_6
    induction n_6 with
    | zero =>
      intro x4 x5 M6 R7 J8 H locs ls h_x4 h_x5 hm_6 hS hl
      exfalso
      have := (h_a1).1; have := (h_a1).2; have := (h_x5).1; have := (h_x5).2; omega
    | succ n_6 ih_6 =>
      intro x4 x5 M6 R7 J8 H locs ls h_x4 h_x5 hm_6 hS hl
      have f9 := hS.2.2.1
      have g10 := hS.2.2.2
      refine lv_iload_n hx hb dX5_mostBehind_7 rfl (lv_at hl 1 rfl) ?_
      refine lv_aload_n hx hb dX5_mostBehind_8 rfl (lv_at hl 2 rfl) ?_
      refine tw_geti hx hb hW hown hK hS f_X5_40_5 hz_a0 hk_a0 (lo := 0) (hi := 8) rfl dX5_mostBehind_9 (fun x13 k12 h11 => ?_)
      refine lv_icmp_ge (tgt := 70) hx hb dX5_mostBehind_12 (by decide) (fun c14 => ?_) (fun c14 => ?_)
      · have q15 : x13.toInt ≤ x5.toInt := ti_le c14
        refine lv_iload_n hx hb dX5_mostBehind_70 rfl (lv_at hl 0 rfl) ?_
        exact tw_endi hx hb hr hlocks hK hT hS hQ (h_x4) dX5_mostBehind_71
      · have q16 : x5.toInt < x13.toInt := ti_nle c14
        have h17 : iv 0 7 x5 := iv_ltL (y := x13) h_x5 h11 q16 (by decide)
        have h18 : iv 1 8 x13 := iv_gtL (y := x5) h11 h_x5 q16 (by decide)
        refine lv_aload_n hx hb dX5_mostBehind_15 rfl (lv_at hl 2 rfl) ?_
        refine tw_getr hx hb hW hown hK hS f_X5_9_5 hz_a0 hk_a0 (t := 10) (n := 0) rfl dX5_mostBehind_16 (fun b19 k20 hz_b19 hk_b19 hn_b19 => ?_)
        refine tw_getr hx hb hW hown hK hS f_X5_91_9 hz_b19 hk_b19 (t := 14) (n := 120) rfl dX5_mostBehind_19 (fun b21 k22 hz_b21 hk_b21 hn_b21 => ?_)
        have hn_b21 := hn_b21 (by decide)
        refine lv_aload_n hx hb dX5_mostBehind_22 rfl (lv_at hl 2 rfl) ?_
        refine tw_getr hx hb hW hown hK hS f_X5_29_5 hz_a0 hk_a0 (t := 21) (n := 0) rfl dX5_mostBehind_23 (fun b23 k24 hz_b23 hk_b23 hn_b23 => ?_)
        refine lv_iload_n hx hb dX5_mostBehind_26 rfl (lv_at hl 1 rfl) ?_
        have q25 : x13.toInt ≤ (N b23 : Int) := by have := (RowOK.to row_a0 (Fr.kp (k := 7) f9 hk_a0 rfl) (Fr.kp (k := 5) g10 hk_a0 rfl)) b23 k24; rw [k12] at this; exact this
        refine tw_ialn hx hb hK hS hz_b23 hk_b23 (Or.inr (by decide)) (by have := (h_a1).1; have := (h_a1).2; have := (h17).1; have := (h17).2; omega) (by have := (h_a1).1; have := (h_a1).2; have := (h17).1; have := (h17).2; omega) (lo := 0) (hi := 11) rg_u21 dX5_mostBehind_27 (fun x28 k27 h26 => ?_)
        refine lv_bipush (v := 10) hx hb dX5_mostBehind_28 (by decide) ?_
        refine tw_imulc (k := 10) (lo := 0) (hi := 110) hx hb h26 (by decide) (by decide) ⟨by decide, by decide⟩ ⟨by decide, by decide⟩ dX5_mostBehind_30 (fun x31 e30 h29 => ?_)
        refine lv_iload_n hx hb dX5_mostBehind_31 rfl (lv_at hl 3 rfl) ?_
        refine tw_iadd (lo := 0) (hi := 119) hx hb h29 h_a1 ⟨by decide, by decide⟩ ⟨by decide, by decide⟩ dX5_mostBehind_32 (fun x34 e33 h32 => ?_)
        refine tw_iald hx hb hK hS hz_b21 hk_b21 (Or.inl rfl) hn_b21 (lo := (-2147483648)) (hi := 2147483647) h32 ⟨by decide, by decide⟩ rg_u14 dX5_mostBehind_33 (fun x37 k36 h35 => ?_)
        refine lv_istore (lv' := [(4, .int x37), (2, .int x4), (3, .int x5), (0, .ref (base + a0)), (1, .int a1)]) hx hb dX5_mostBehind_34 hl (by decide) rfl (fun ls hl => ?_)
        refine lv_iload hx hb dX5_mostBehind_36 (lv_at hl 0 rfl) ?_
        refine lv_if_ge (tgt := 47) hx hb dX5_mostBehind_38 (by decide) (fun c38 => ?_) (fun c38 => ?_)
        · have q39 : 0 ≤ x37.toInt := ti_le c38
          have h40 : iv 0 2147483647 x37 := iv_geL (y := 0) h35 (iv_c (c := 0) (n := 0) (by decide)) q39 (by decide)
          refine lv_iload hx hb dX5_mostBehind_47 (lv_at hl 0 rfl) ?_
          refine lv_istore (lv' := [(5, .int x37), (4, .int x37), (2, .int x4), (3, .int x5), (0, .ref (base + a0)), (1, .int a1)]) hx hb dX5_mostBehind_49 hl (by decide) rfl (fun ls hl => ?_)
          refine lv_iload hx hb dX5_mostBehind_51 (lv_at hl 0 rfl) ?_
          refine lv_iload_n hx hb dX5_mostBehind_53 rfl (lv_at hl 2 rfl) ?_
          refine lv_icmp_le (tgt := 62) hx hb dX5_mostBehind_54 (by decide) (fun c41 => ?_) (fun c41 => ?_)
          · have q42 : x37.toInt ≤ x4.toInt := ti_le c41
            refine lv_iload_n hx hb dX5_mostBehind_62 rfl (lv_at hl 2 rfl) ?_
            refine lv_istore_n (lv' := [(2, .int x4), (5, .int x37), (4, .int x37), (3, .int x5), (0, .ref (base + a0)), (1, .int a1)]) hx hb dX5_mostBehind_63 rfl hl (by decide) rfl (fun ls hl => ?_)
            refine tw_iinc (lv' := fun x45 => [(3, .int x45), (2, .int x4), (5, .int x37), (4, .int x37), (0, .ref (base + a0)), (1, .int a1)]) (lo := 1) (hi := 8) hx hb dX5_mostBehind_64 hl (k := 3) rfl h17 (by decide) ⟨by decide, by decide⟩ ⟨by decide, by decide⟩ (by decide) (fun _ => rfl) (fun x45 ls e44 h43 hl => ?_)
            refine lv_goto (tgt := 7) hx hb dX5_mostBehind_67 (by decide) ?_
            have hm46 : 8 - x45.toInt < (n_6 : Int) := by
              have := (h_a1).1; have := (h_a1).2; have := (h43).1; have := (h43).2; have := (h17).1; have := (h17).2; omega
            exact ih_6 x4 x45 M6 R7 J8 H locs _ h_x4 (iv_mono h43 (by decide) (by decide)) hm46 hS (lv_sub hl [1, 0, 4, 5] rfl)
          · have q47 : x4.toInt < x37.toInt := ti_nle c41
            have h48 : iv 1 2147483647 x37 := iv_gtL (y := x4) h40 h_x4 q47 (by decide)
            have h49 : iv 0 2147483646 x4 := iv_ltL (y := x37) h_x4 h40 q47 (by decide)
            refine lv_iload hx hb dX5_mostBehind_57 (lv_at hl 0 rfl) ?_
            refine lv_goto (tgt := 63) hx hb dX5_mostBehind_59 (by decide) ?_
            refine lv_istore_n (lv' := [(2, .int x37), (5, .int x37), (4, .int x37), (3, .int x5), (0, .ref (base + a0)), (1, .int a1)]) hx hb dX5_mostBehind_63 rfl hl (by decide) rfl (fun ls hl => ?_)
            refine tw_iinc (lv' := fun x52 => [(3, .int x52), (2, .int x37), (5, .int x37), (4, .int x37), (0, .ref (base + a0)), (1, .int a1)]) (lo := 1) (hi := 8) hx hb dX5_mostBehind_64 hl (k := 3) rfl h17 (by decide) ⟨by decide, by decide⟩ ⟨by decide, by decide⟩ (by decide) (fun _ => rfl) (fun x52 ls e51 h50 hl => ?_)
            refine lv_goto (tgt := 7) hx hb dX5_mostBehind_67 (by decide) ?_
            have hm53 : 8 - x52.toInt < (n_6 : Int) := by
              have := (h_a1).1; have := (h_a1).2; have := (h17).1; have := (h17).2; have := (h50).1; have := (h50).2; omega
            exact ih_6 x37 x52 M6 R7 J8 H locs _ (iv_mono h48 (by decide) (by decide)) (iv_mono h50 (by decide) (by decide)) hm53 hS (lv_sub hl [1, 0, 4, 5] rfl)
        · have q54 : x37.toInt < 0 := ti_nle c38
          have h55 : iv (-2147483648) (-1) x37 := iv_ltL (y := 0) h35 (iv_c (c := 0) (n := 0) (by decide)) q54 (by decide)
          refine lv_iload hx hb dX5_mostBehind_41 (lv_at hl 0 rfl) ?_
          refine lv_ineg hx hb dX5_mostBehind_43 ?_
          refine tw_top (fun x57 => ?_)
          have h56 := iv_any x57
          refine lv_goto (tgt := 49) hx hb dX5_mostBehind_44 (by decide) ?_
          refine lv_istore (lv' := [(5, .int x57), (4, .int x37), (2, .int x4), (3, .int x5), (0, .ref (base + a0)), (1, .int a1)]) hx hb dX5_mostBehind_49 hl (by decide) rfl (fun ls hl => ?_)
          refine lv_iload hx hb dX5_mostBehind_51 (lv_at hl 0 rfl) ?_
          refine lv_iload_n hx hb dX5_mostBehind_53 rfl (lv_at hl 2 rfl) ?_
          refine lv_icmp_le (tgt := 62) hx hb dX5_mostBehind_54 (by decide) (fun c58 => ?_) (fun c58 => ?_)
          · have q59 : x57.toInt ≤ x4.toInt := ti_le c58
            refine lv_iload_n hx hb dX5_mostBehind_62 rfl (lv_at hl 2 rfl) ?_
            refine lv_istore_n (lv' := [(2, .int x4), (5, .int x57), (4, .int x37), (3, .int x5), (0, .ref (base + a0)), (1, .int a1)]) hx hb dX5_mostBehind_63 rfl hl (by decide) rfl (fun ls hl => ?_)
            refine tw_iinc (lv' := fun x62 => [(3, .int x62), (2, .int x4), (5, .int x57), (4, .int x37), (0, .ref (base + a0)), (1, .int a1)]) (lo := 1) (hi := 8) hx hb dX5_mostBehind_64 hl (k := 3) rfl h17 (by decide) ⟨by decide, by decide⟩ ⟨by decide, by decide⟩ (by decide) (fun _ => rfl) (fun x62 ls e61 h60 hl => ?_)
            refine lv_goto (tgt := 7) hx hb dX5_mostBehind_67 (by decide) ?_
            have hm63 : 8 - x62.toInt < (n_6 : Int) := by
              have := (h_a1).1; have := (h_a1).2; have := (h17).1; have := (h17).2; have := (h60).1; have := (h60).2; omega
            exact ih_6 x4 x62 M6 R7 J8 H locs _ h_x4 (iv_mono h60 (by decide) (by decide)) hm63 hS (lv_sub hl [1, 0, 4, 5] rfl)
          · have q64 : x4.toInt < x57.toInt := ti_nle c58
            have h65 : iv 1 2147483647 x57 := iv_gtL (y := x4) h56 h_x4 q64 (by decide)
            have h66 : iv 0 2147483646 x4 := iv_ltL (y := x57) h_x4 h56 q64 (by decide)
            refine lv_iload hx hb dX5_mostBehind_57 (lv_at hl 0 rfl) ?_
            refine lv_goto (tgt := 63) hx hb dX5_mostBehind_59 (by decide) ?_
            refine lv_istore_n (lv' := [(2, .int x57), (5, .int x57), (4, .int x37), (3, .int x5), (0, .ref (base + a0)), (1, .int a1)]) hx hb dX5_mostBehind_63 rfl hl (by decide) rfl (fun ls hl => ?_)
            refine tw_iinc (lv' := fun x69 => [(3, .int x69), (2, .int x57), (5, .int x57), (4, .int x37), (0, .ref (base + a0)), (1, .int a1)]) (lo := 1) (hi := 8) hx hb dX5_mostBehind_64 hl (k := 3) rfl h17 (by decide) ⟨by decide, by decide⟩ ⟨by decide, by decide⟩ (by decide) (fun _ => rfl) (fun x69 ls e68 h67 hl => ?_)
            refine lv_goto (tgt := 7) hx hb dX5_mostBehind_67 (by decide) ?_
            have hm70 : 8 - x69.toInt < (n_6 : Int) := by
              have := (h_a1).1; have := (h_a1).2; have := (h17).1; have := (h17).2; have := (h67).1; have := (h67).2; omega
            exact ih_6 x57 x69 M6 R7 J8 H locs _ (iv_mono h65 (by decide) (by decide)) (iv_mono h67 (by decide) (by decide)) hm70 hS (lv_sub hl [1, 0, 4, 5] rfl)
  have hm71 : 8 - x3.toInt < (((9 : Nat) : Int) : Int) := by
    have := (h_a1).1; have := (h_a1).2; have := (h1).1; have := (h1).2; omega
  exact W7_6 9 0 x3 Ma Ra Ja s.heap [] _ (iv_mono (iv_c (c := 0) (n := 0) (by decide)) (by decide) (by decide)) h1 hm71 hS (lv_sub hl [1, 0, 2, 3] rfl)
def Lt_X9_worthOf : WL := []
def LRt_X9_worthOf : WL := []
set_option maxRecDepth 100000 in
set_option maxHeartbeats 4000000 in
theorem t_X9_worthOf (l : Launch) (D : va_G) (cy : Nat → ClassId) (tx : (Nat → Nat) × (Nat → Nat)) (base Z : Nat) (K N : Nat → Nat) (Ma : MT) (Ra : RT) (Ja : JT) (hTy : Ty Z K N Ma Ra) (a0 : Nat) (hz_a0 : a0 < Z) (hk_a0 : K a0 = 10) (a1 : Int32) (h_a1 : iv 0 9 a1) (a2 : Int32) (h_a2 : iv 0 11 a2) : Met l yX9_worthOf [Cond.code yX9_worthOf cX9_worthOf 3 (some .int)] (md_rm 1 0 0) (va_Pc [.ref (base + a0), .int a1, .int a2] (md_U D cy tx base Z K N Ma Ra Ja)) (mQi D cy tx base (fun r u => TP Z K N Lt_X9_worthOf LRt_X9_worthOf Ma Ra u ∧ (iv (-2147483648) 2147483647 r))) 0 0 (fun q => base ≤ q) := by
  refine tw_ofW (L := Lt_X9_worthOf) (LR := LRt_X9_worthOf) (by decide) (Nat.le_of_ble_eq_true rfl) hTy ?_
  intro p e s m args below meth c Q ls hx hb hr hlocks hown hml hW hK hT hS hQ hl
  have hl : lv_has ls 3 [(0, .ref (base + a0)), (1, .int a1), (2, .int a2)] := hl
  refine lv_aload_n hx hb dX9_worthOf_0 rfl (lv_at hl 0 rfl) ?_
  refine tw_getr hx hb hW hown hK hS f_X9_9_9 hz_a0 hk_a0 (t := 14) (n := 120) rfl dX9_worthOf_1 (fun b1 k2 hz_b1 hk_b1 hn_b1 => ?_)
  have hn_b1 := hn_b1 (by decide)
  refine lv_iload_n hx hb dX9_worthOf_4 rfl (lv_at hl 2 rfl) ?_
  refine lv_bipush (v := 10) hx hb dX9_worthOf_5 (by decide) ?_
  refine tw_imulc (k := 10) (lo := 0) (hi := 110) hx hb h_a2 (by decide) (by decide) ⟨by decide, by decide⟩ ⟨by decide, by decide⟩ dX9_worthOf_7 (fun x5 e4 h3 => ?_)
  refine lv_iload_n hx hb dX9_worthOf_8 rfl (lv_at hl 1 rfl) ?_
  refine tw_iadd (lo := 0) (hi := 119) hx hb h3 h_a1 ⟨by decide, by decide⟩ ⟨by decide, by decide⟩ dX9_worthOf_9 (fun x8 e7 h6 => ?_)
  refine tw_iald hx hb hK hS hz_b1 hk_b1 (Or.inl rfl) hn_b1 (lo := (-2147483648)) (hi := 2147483647) h6 ⟨by decide, by decide⟩ rg_u14 dX9_worthOf_10 (fun x11 k10 h9 => ?_)
  exact tw_endi hx hb hr hlocks hK hT hS hQ (h9) dX9_worthOf_11
def Lt_X5_wordOf : WL := [(6, 8, 12)]
def LRt_X5_wordOf : WL := []
set_option maxRecDepth 100000 in
set_option maxHeartbeats 4000000 in
theorem t_X5_wordOf (l : Launch) (D : va_G) (cy : Nat → ClassId) (tx : (Nat → Nat) × (Nat → Nat)) (base Z : Nat) (K N : Nat → Nat) (Ma : MT) (Ra : RT) (Ja : JT) (hTy : Ty Z K N Ma Ra) (a0 : Nat) (hz_a0 : a0 < Z) (hk_a0 : K a0 = 6) (a1 : Int32) (h_a1 : iv (-134217728) 134217727 a1) (a2 : Int32) (h_a2 : iv 0 9 a2) (row_a0 : RowOK N Ma Ra a0) : Met l yX5_wordOf [Cond.code yX5_wordOf cX5_wordOf 3 (some .long)] (md_rm 2 0 0) (va_Pc [.ref (base + a0), .int a1, .int a2] (md_U D cy tx base Z K N Ma Ra Ja)) (mQl D cy tx base (fun r u => TP Z K N Lt_X5_wordOf LRt_X5_wordOf Ma Ra u ∧ (True))) 0 0 (fun q => base ≤ q) := by
  refine tw_ofW (L := Lt_X5_wordOf) (LR := LRt_X5_wordOf) (by decide) (Nat.le_of_ble_eq_true rfl) hTy ?_
  intro p e s m args below meth c Q ls hx hb hr hlocks hown hml hW hK hT hS hQ hl
  have hl : lv_has ls 3 [(0, .ref (base + a0)), (1, .int a1), (2, .int a2)] := hl
  refine lv_iload_n hx hb dX5_wordOf_0 rfl (lv_at hl 1 rfl) ?_
  by_cases c1 : a1 = 0
  · subst c1
    refine lv_tableIn (off := 51) (tgt := 52) hx hb dX5_wordOf_1 (by decide) (by decide) rfl (by decide) ?_
    refine lv_iload_n hx hb dX5_wordOf_52 rfl (lv_at hl 2 rfl) ?_
    refine lv_i2l hx hb dX5_wordOf_53 rfl ?_
    exact tw_endl hx hb hr hlocks hK hT hS hQ (trivial) dX5_wordOf_54
  have q2 : ¬ a1.toInt = 0 := ti_ne c1
  by_cases c3 : a1 = 1
  · subst c3
    refine lv_tableIn (off := 54) (tgt := 55) hx hb dX5_wordOf_1 (by decide) (by decide) rfl (by decide) ?_
    refine lv_aload_n hx hb dX5_wordOf_55 rfl (lv_at hl 0 rfl) ?_
    refine tw_geti hx hb hW hown hK hS f_X5_30_5 hz_a0 hk_a0 (lo := 0) (hi := 11) rfl dX5_wordOf_56 (fun x6 k5 h4 => ?_)
    refine lv_i2l hx hb dX5_wordOf_59 rfl ?_
    exact tw_endl hx hb hr hlocks hK hT hS hQ (trivial) dX5_wordOf_60
  have q7 : ¬ a1.toInt = 1 := ti_ne c3
  by_cases c8 : a1 = 2
  · subst c8
    refine lv_tableIn (off := 60) (tgt := 61) hx hb dX5_wordOf_1 (by decide) (by decide) rfl (by decide) ?_
    refine lv_aload_n hx hb dX5_wordOf_61 rfl (lv_at hl 0 rfl) ?_
    refine tw_getr hx hb hW hown hK hS f_X5_9_5 hz_a0 hk_a0 (t := 10) (n := 0) rfl dX5_wordOf_62 (fun b9 k10 hz_b9 hk_b9 hn_b9 => ?_)
    refine lv_iload_n hx hb dX5_wordOf_65 rfl (lv_at hl 2 rfl) ?_
    refine lv_aload_n hx hb dX5_wordOf_66 rfl (lv_at hl 0 rfl) ?_
    refine tw_geti hx hb hW hown hK hS f_X5_30_5 hz_a0 hk_a0 (lo := 0) (hi := 11) rfl dX5_wordOf_67 (fun x13 k12 h11 => ?_)
    refine tw_goi hS (md_runV (As := [.int a2, .int x13]) (rest := []) hx hb hml hown hW hK hT hS.1 (t_X9_worthOf l D cy tx base Z K N Ma Ra Ja hS.2.1 b9 hz_b9 hk_b9 a2 h_a2 x13 h11) s_X5_65 ⟨rfl, rfl, ⟨Nat.le_of_ble_eq_true rfl, Nat.le_of_ble_eq_true rfl⟩, ⟨Nat.le_of_ble_eq_true rfl, Nat.le_of_ble_eq_true rfl⟩⟩ hz_b9 hk_b9 (by decide) rfl rfl hl.1 rfl (Nat.le_of_ble_eq_true rfl) dX5_wordOf_70) rfl rfl (fun x20 H locs M17 R18 J16 hS f14 g15 E19 => ?_)
    have eM17 := Fr.nil f14 rfl
    subst eM17
    have eR18 := Fr.nil g15 rfl
    subst eR18
    have h_x20 := E19
    clear E19
    refine lv_i2l hx hb dX5_wordOf_73 rfl ?_
    exact tw_endl hx hb hr hlocks hK hT hS hQ (trivial) dX5_wordOf_74
  have q21 : ¬ a1.toInt = 2 := ti_ne c8
  by_cases c22 : a1 = 3
  · subst c22
    refine lv_tableIn (off := 74) (tgt := 75) hx hb dX5_wordOf_1 (by decide) (by decide) rfl (by decide) ?_
    refine lv_aload_n hx hb dX5_wordOf_75 rfl (lv_at hl 0 rfl) ?_
    refine tw_getr hx hb hW hown hK hS f_X5_25_5 hz_a0 hk_a0 (t := 20) (n := 10) rfl dX5_wordOf_76 (fun b23 k24 hz_b23 hk_b23 hn_b23 => ?_)
    have hn_b23 := hn_b23 (by decide)
    refine lv_iload_n hx hb dX5_wordOf_79 rfl (lv_at hl 2 rfl) ?_
    refine tw_iald hx hb hK hS hz_b23 hk_b23 (Or.inr (by decide)) hn_b23 (lo := (-2147483648)) (hi := 2147483647) h_a2 ⟨by decide, by decide⟩ rg_u20 dX5_wordOf_80 (fun x27 k26 h25 => ?_)
    refine lv_i2l hx hb dX5_wordOf_81 rfl ?_
    exact tw_endl hx hb hr hlocks hK hT hS hQ (trivial) dX5_wordOf_82
  have q28 : ¬ a1.toInt = 3 := ti_ne c22
  by_cases c29 : a1 = 4
  · subst c29
    refine lv_tableIn (off := 82) (tgt := 83) hx hb dX5_wordOf_1 (by decide) (by decide) rfl (by decide) ?_
    refine lv_aload_n hx hb dX5_wordOf_83 rfl (lv_at hl 0 rfl) ?_
    refine lv_iload_n hx hb dX5_wordOf_84 rfl (lv_at hl 1 rfl) ?_
    refine tw_goi hS (md_runV (As := [.int 4]) (rest := []) hx hb hml hown hW hK hT hS.1 (t_X5_countedVoices l D cy tx base Z K N Ma Ra Ja hS.2.1 a0 hz_a0 hk_a0 4 (iv_mono (iv_c (c := 4) (n := 4) (by decide)) (by decide) (by decide))) s_X5_73 ⟨rfl, rfl, ⟨Nat.le_of_ble_eq_true rfl, Nat.le_of_ble_eq_true rfl⟩, ⟨Nat.le_of_ble_eq_true rfl, Nat.le_of_ble_eq_true rfl⟩⟩ hz_a0 hk_a0 (by decide) rfl rfl hl.1 rfl (Nat.le_of_ble_eq_true rfl) dX5_wordOf_85) rfl rfl (fun x36 H locs M33 R34 J32 hS f30 g31 E35 => ?_)
    have eR34 := Fr.nil g31 rfl
    subst eR34
    have h_x36 := E35
    clear E35
    refine lv_i2l hx hb dX5_wordOf_88 rfl ?_
    exact tw_endl hx hb hr hlocks hK hT hS hQ (trivial) dX5_wordOf_89
  have q37 : ¬ a1.toInt = 4 := ti_ne c29
  by_cases c38 : a1 = 5
  · subst c38
    refine lv_tableIn (off := 82) (tgt := 83) hx hb dX5_wordOf_1 (by decide) (by decide) rfl (by decide) ?_
    refine lv_aload_n hx hb dX5_wordOf_83 rfl (lv_at hl 0 rfl) ?_
    refine lv_iload_n hx hb dX5_wordOf_84 rfl (lv_at hl 1 rfl) ?_
    refine tw_goi hS (md_runV (As := [.int 5]) (rest := []) hx hb hml hown hW hK hT hS.1 (t_X5_countedVoices l D cy tx base Z K N Ma Ra Ja hS.2.1 a0 hz_a0 hk_a0 5 (iv_mono (iv_c (c := 5) (n := 5) (by decide)) (by decide) (by decide))) s_X5_73 ⟨rfl, rfl, ⟨Nat.le_of_ble_eq_true rfl, Nat.le_of_ble_eq_true rfl⟩, ⟨Nat.le_of_ble_eq_true rfl, Nat.le_of_ble_eq_true rfl⟩⟩ hz_a0 hk_a0 (by decide) rfl rfl hl.1 rfl (Nat.le_of_ble_eq_true rfl) dX5_wordOf_85) rfl rfl (fun x45 H locs M42 R43 J41 hS f39 g40 E44 => ?_)
    have eR43 := Fr.nil g40 rfl
    subst eR43
    have h_x45 := E44
    clear E44
    refine lv_i2l hx hb dX5_wordOf_88 rfl ?_
    exact tw_endl hx hb hr hlocks hK hT hS hQ (trivial) dX5_wordOf_89
  have q46 : ¬ a1.toInt = 5 := ti_ne c38
  by_cases c47 : a1 = 6
  · subst c47
    refine lv_tableIn (off := 82) (tgt := 83) hx hb dX5_wordOf_1 (by decide) (by decide) rfl (by decide) ?_
    refine lv_aload_n hx hb dX5_wordOf_83 rfl (lv_at hl 0 rfl) ?_
    refine lv_iload_n hx hb dX5_wordOf_84 rfl (lv_at hl 1 rfl) ?_
    refine tw_goi hS (md_runV (As := [.int 6]) (rest := []) hx hb hml hown hW hK hT hS.1 (t_X5_countedVoices l D cy tx base Z K N Ma Ra Ja hS.2.1 a0 hz_a0 hk_a0 6 (iv_mono (iv_c (c := 6) (n := 6) (by decide)) (by decide) (by decide))) s_X5_73 ⟨rfl, rfl, ⟨Nat.le_of_ble_eq_true rfl, Nat.le_of_ble_eq_true rfl⟩, ⟨Nat.le_of_ble_eq_true rfl, Nat.le_of_ble_eq_true rfl⟩⟩ hz_a0 hk_a0 (by decide) rfl rfl hl.1 rfl (Nat.le_of_ble_eq_true rfl) dX5_wordOf_85) rfl rfl (fun x54 H locs M51 R52 J50 hS f48 g49 E53 => ?_)
    have eR52 := Fr.nil g49 rfl
    subst eR52
    have h_x54 := E53
    clear E53
    refine lv_i2l hx hb dX5_wordOf_88 rfl ?_
    exact tw_endl hx hb hr hlocks hK hT hS hQ (trivial) dX5_wordOf_89
  have q55 : ¬ a1.toInt = 6 := ti_ne c47
  by_cases c56 : a1 = 7
  · subst c56
    refine lv_tableIn (off := 89) (tgt := 90) hx hb dX5_wordOf_1 (by decide) (by decide) rfl (by decide) ?_
    refine lv_aload_n hx hb dX5_wordOf_90 rfl (lv_at hl 0 rfl) ?_
    refine lv_iload_n hx hb dX5_wordOf_91 rfl (lv_at hl 2 rfl) ?_
    refine tw_goi hS (md_runV (As := [.int a2]) (rest := []) hx hb hml hown hW hK hT hS.1 (t_X5_mostBehind l D cy tx base Z K N Ma Ra Ja hS.2.1 a0 hz_a0 hk_a0 a2 h_a2 row_a0) s_X5_76 ⟨rfl, rfl, ⟨Nat.le_of_ble_eq_true rfl, Nat.le_of_ble_eq_true rfl⟩, ⟨Nat.le_of_ble_eq_true rfl, Nat.le_of_ble_eq_true rfl⟩⟩ hz_a0 hk_a0 (by decide) rfl rfl hl.1 rfl (Nat.le_of_ble_eq_true rfl) dX5_wordOf_92) rfl rfl (fun x63 H locs M60 R61 J59 hS f57 g58 E62 => ?_)
    have eM60 := Fr.nil f57 rfl
    subst eM60
    have eR61 := Fr.nil g58 rfl
    subst eR61
    have h_x63 := E62
    clear E62
    refine lv_i2l hx hb dX5_wordOf_95 rfl ?_
    exact tw_endl hx hb hr hlocks hK hT hS hQ (trivial) dX5_wordOf_96
  have q64 : ¬ a1.toInt = 7 := ti_ne c56
  by_cases c65 : a1 = 8
  · subst c65
    refine lv_tableIn (off := 96) (tgt := 97) hx hb dX5_wordOf_1 (by decide) (by decide) rfl (by decide) ?_
    refine lv_aload_n hx hb dX5_wordOf_97 rfl (lv_at hl 0 rfl) ?_
    refine tw_geti hx hb hW hown hK hS f_X5_40_5 hz_a0 hk_a0 (lo := 0) (hi := 8) rfl dX5_wordOf_98 (fun x68 k67 h66 => ?_)
    refine lv_aload_n hx hb dX5_wordOf_101 rfl (lv_at hl 0 rfl) ?_
    refine tw_geti hx hb hW hown hK hS f_X5_37_5 hz_a0 hk_a0 (lo := 0) (hi := 8) rfl dX5_wordOf_102 (fun x71 k70 h69 => ?_)
    refine lv_icmp_le (tgt := 121) hx hb dX5_wordOf_105 (by decide) (fun c72 => ?_) (fun c72 => ?_)
    · have q73 : x68.toInt ≤ x71.toInt := ti_le c72
      refine lv_lconst (v := 0) hx hb dX5_wordOf_121 (by decide) ?_
      exact tw_endl hx hb hr hlocks hK hT hS hQ (trivial) dX5_wordOf_122
    · have q74 : x71.toInt < x68.toInt := ti_nle c72
      have h75 : iv 1 8 x68 := iv_gtL (y := x71) h66 h69 q74 (by decide)
      have h76 : iv 0 7 x71 := iv_ltL (y := x68) h69 h66 q74 (by decide)
      refine lv_aload_n hx hb dX5_wordOf_108 rfl (lv_at hl 0 rfl) ?_
      refine tw_getk hx hb hW hown hK hS f_X5_40_5 hz_a0 hk_a0 (v := x68) k67 dX5_wordOf_109 ?_
      refine lv_aload_n hx hb dX5_wordOf_112 rfl (lv_at hl 0 rfl) ?_
      refine tw_getk hx hb hW hown hK hS f_X5_37_5 hz_a0 hk_a0 (v := x71) k70 dX5_wordOf_113 ?_
      refine tw_isub (lo := (-6)) (hi := 8) hx hb h75 h76 ⟨by decide, by decide⟩ ⟨by decide, by decide⟩ dX5_wordOf_116 (fun x79 e78 h77 => ?_)
      refine lv_i2l hx hb dX5_wordOf_117 rfl ?_
      refine lv_goto (tgt := 122) hx hb dX5_wordOf_118 (by decide) ?_
      exact tw_endl hx hb hr hlocks hK hT hS hQ (trivial) dX5_wordOf_122
  have q80 : ¬ a1.toInt = 8 := ti_ne c65
  refine lv_tableOut (tgt := 123) hx hb dX5_wordOf_1 (by have := (h_a1).1; have := (h_a1).2; omega) (by decide) ?_
  refine lv_aload_n hx hb dX5_wordOf_123 rfl (lv_at hl 0 rfl) ?_
  refine tw_geti hx hb hW hown hK hS f_X5_34_5 hz_a0 hk_a0 (lo := (-2147483648)) (hi := 2147483647) rfl dX5_wordOf_124 (fun x83 k82 h81 => ?_)
  refine lv_i2l hx hb dX5_wordOf_127 rfl ?_
  exact tw_endl hx hb hr hlocks hK hT hS hQ (trivial) dX5_wordOf_128
def Lt_X7_joined : WL := []
def LRt_X7_joined : WL := []
set_option maxRecDepth 100000 in
set_option maxHeartbeats 4000000 in
theorem t_X7_joined (l : Launch) (D : va_G) (cy : Nat → ClassId) (tx : (Nat → Nat) × (Nat → Nat)) (base Z : Nat) (K N : Nat → Nat) (Ma : MT) (Ra : RT) (Ja : JT) (hTy : Ty Z K N Ma Ra) (a0 : Int32) (h_a0 : iv 2 10 a0) (a1 : Int64) (a2 : Int64) : Met l yX7_joined [Cond.code yX7_joined cX7_joined 5 (some .long)] (md_rm 1 0 0) (va_Pc [.int a0, .long a1, .long a2] (md_U D cy tx base Z K N Ma Ra Ja)) (mQl D cy tx base (fun r u => TP Z K N Lt_X7_joined LRt_X7_joined Ma Ra u ∧ (True))) 0 0 (fun q => base ≤ q) := by
  refine tw_ofW (L := Lt_X7_joined) (LR := LRt_X7_joined) (by decide) (Nat.le_of_ble_eq_true rfl) hTy ?_
  intro p e s m args below meth c Q ls hx hb hr hlocks hown hml hW hK hT hS hQ hl
  have hl : lv_has ls 5 [(0, .int a0), (1, .long a1), (3, .long a2)] := hl
  refine lv_iload_n hx hb dX7_joined_0 rfl (lv_at hl 0 rfl) ?_
  by_cases c1 : a0 = 2
  · subst c1
    refine lv_tableIn (off := 47) (tgt := 48) hx hb dX7_joined_1 (by decide) (by decide) rfl (by decide) ?_
    refine lv_lload_n hx hb dX7_joined_48 rfl (lv_at hl 1 rfl) ?_
    refine lv_lload_n hx hb dX7_joined_49 rfl (lv_at hl 2 rfl) ?_
    refine lv_ladd hx hb dX7_joined_50 ?_
    refine tw_topl (fun x2 => ?_)
    exact tw_endl hx hb hr hlocks hK hT hS hQ (trivial) dX7_joined_51
  have q3 : ¬ a0.toInt = 2 := ti_ne c1
  by_cases c4 : a0 = 3
  · subst c4
    refine lv_tableIn (off := 51) (tgt := 52) hx hb dX7_joined_1 (by decide) (by decide) rfl (by decide) ?_
    refine lv_lload_n hx hb dX7_joined_52 rfl (lv_at hl 1 rfl) ?_
    refine lv_lload_n hx hb dX7_joined_53 rfl (lv_at hl 2 rfl) ?_
    refine lv_lsub hx hb dX7_joined_54 ?_
    refine tw_topl (fun x5 => ?_)
    exact tw_endl hx hb hr hlocks hK hT hS hQ (trivial) dX7_joined_55
  have q6 : ¬ a0.toInt = 3 := ti_ne c4
  by_cases c7 : a0 = 4
  · subst c7
    refine lv_tableIn (off := 55) (tgt := 56) hx hb dX7_joined_1 (by decide) (by decide) rfl (by decide) ?_
    refine lv_lload_n hx hb dX7_joined_56 rfl (lv_at hl 1 rfl) ?_
    refine lv_lload_n hx hb dX7_joined_57 rfl (lv_at hl 2 rfl) ?_
    refine lv_lmul hx hb dX7_joined_58 ?_
    refine tw_topl (fun x8 => ?_)
    exact tw_endl hx hb hr hlocks hK hT hS hQ (trivial) dX7_joined_59
  have q9 : ¬ a0.toInt = 4 := ti_ne c7
  by_cases c10 : a0 = 5
  · subst c10
    refine lv_tableIn (off := 59) (tgt := 60) hx hb dX7_joined_1 (by decide) (by decide) rfl (by decide) ?_
    refine lv_lload_n hx hb dX7_joined_60 rfl (lv_at hl 2 rfl) ?_
    refine lv_lconst (v := 0) hx hb dX7_joined_61 (by decide) ?_
    refine W.lcmp hx hb dX7_joined_62 ?_
    refine lv_topi (fun x13 e12 => ?_)
    have h11 := iv_any x13
    refine lv_if_ne (tgt := 70) hx hb dX7_joined_63 (by decide) (fun c14 => ?_) (fun c14 => ?_)
    · have q15 : ¬ x13.toInt = 0 := ti_ne c14
      have n16 := md_lne e12 c14
      refine lv_lload_n hx hb dX7_joined_70 rfl (lv_at hl 1 rfl) ?_
      refine lv_lload_n hx hb dX7_joined_71 rfl (lv_at hl 2 rfl) ?_
      refine lv_ldiv hx hb dX7_joined_72 n16 ?_
      refine tw_topl (fun x17 => ?_)
      exact tw_endl hx hb hr hlocks hK hT hS hQ (trivial) dX7_joined_73
    · have q18 : x13.toInt = 0 := ti_eq c14
      have h19 : iv 0 0 x13 := ⟨by have := (h11).1; have := ((iv_c (c := 0) (n := 0) (by decide))).1; omega, by have := (h11).2; have := ((iv_c (c := 0) (n := 0) (by decide))).2; omega⟩
      refine lv_lconst (v := 0) hx hb dX7_joined_66 (by decide) ?_
      refine lv_goto (tgt := 73) hx hb dX7_joined_67 (by decide) ?_
      exact tw_endl hx hb hr hlocks hK hT hS hQ (trivial) dX7_joined_73
  have q20 : ¬ a0.toInt = 5 := ti_ne c10
  by_cases c21 : a0 = 6
  · subst c21
    refine lv_tableIn (off := 73) (tgt := 74) hx hb dX7_joined_1 (by decide) (by decide) rfl (by decide) ?_
    refine lv_lload_n hx hb dX7_joined_74 rfl (lv_at hl 1 rfl) ?_
    refine lv_lload_n hx hb dX7_joined_75 rfl (lv_at hl 2 rfl) ?_
    refine W.lcmp hx hb dX7_joined_76 ?_
    refine lv_topi (fun x24 e23 => ?_)
    have h22 := iv_any x24
    refine lv_if_ge (tgt := 84) hx hb dX7_joined_77 (by decide) (fun c25 => ?_) (fun c25 => ?_)
    · have q26 : 0 ≤ x24.toInt := ti_le c25
      have n27 := lcm_ge e23 q26
      have h28 : iv 0 2147483647 x24 := iv_geL (y := 0) h22 (iv_c (c := 0) (n := 0) (by decide)) q26 (by decide)
      refine lv_lconst (v := 0) hx hb dX7_joined_84 (by decide) ?_
      exact tw_endl hx hb hr hlocks hK hT hS hQ (trivial) dX7_joined_85
    · have q29 : x24.toInt < 0 := ti_nle c25
      have n30 := lcm_lt e23 q29
      have h31 : iv (-2147483648) (-1) x24 := iv_ltL (y := 0) h22 (iv_c (c := 0) (n := 0) (by decide)) q29 (by decide)
      refine lv_lconst (v := 1) hx hb dX7_joined_80 (by decide) ?_
      refine lv_goto (tgt := 85) hx hb dX7_joined_81 (by decide) ?_
      exact tw_endl hx hb hr hlocks hK hT hS hQ (trivial) dX7_joined_85
  have q32 : ¬ a0.toInt = 6 := ti_ne c21
  by_cases c33 : a0 = 7
  · subst c33
    refine lv_tableIn (off := 85) (tgt := 86) hx hb dX7_joined_1 (by decide) (by decide) rfl (by decide) ?_
    refine lv_lload_n hx hb dX7_joined_86 rfl (lv_at hl 1 rfl) ?_
    refine lv_lload_n hx hb dX7_joined_87 rfl (lv_at hl 2 rfl) ?_
    refine W.lcmp hx hb dX7_joined_88 ?_
    refine lv_topi (fun x36 e35 => ?_)
    have h34 := iv_any x36
    refine lv_if_gt (tgt := 96) hx hb dX7_joined_89 (by decide) (fun c37 => ?_) (fun c37 => ?_)
    · have q38 : 0 < x36.toInt := ti_lt c37
      have n39 := lcm_gt e35 q38
      have h40 : iv 1 2147483647 x36 := iv_gtL (y := 0) h34 (iv_c (c := 0) (n := 0) (by decide)) q38 (by decide)
      refine lv_lconst (v := 0) hx hb dX7_joined_96 (by decide) ?_
      exact tw_endl hx hb hr hlocks hK hT hS hQ (trivial) dX7_joined_97
    · have q41 : x36.toInt ≤ 0 := ti_nlt c37
      have n42 := lcm_le e35 q41
      have h43 : iv (-2147483648) 0 x36 := iv_leL (y := 0) h34 (iv_c (c := 0) (n := 0) (by decide)) q41 (by decide)
      refine lv_lconst (v := 1) hx hb dX7_joined_92 (by decide) ?_
      refine lv_goto (tgt := 97) hx hb dX7_joined_93 (by decide) ?_
      exact tw_endl hx hb hr hlocks hK hT hS hQ (trivial) dX7_joined_97
  have q44 : ¬ a0.toInt = 7 := ti_ne c33
  by_cases c45 : a0 = 8
  · subst c45
    refine lv_tableIn (off := 97) (tgt := 98) hx hb dX7_joined_1 (by decide) (by decide) rfl (by decide) ?_
    refine lv_lload_n hx hb dX7_joined_98 rfl (lv_at hl 1 rfl) ?_
    refine lv_lload_n hx hb dX7_joined_99 rfl (lv_at hl 2 rfl) ?_
    refine W.lcmp hx hb dX7_joined_100 ?_
    refine lv_topi (fun x48 e47 => ?_)
    have h46 := iv_any x48
    refine lv_if_ne (tgt := 108) hx hb dX7_joined_101 (by decide) (fun c49 => ?_) (fun c49 => ?_)
    · have q50 : ¬ x48.toInt = 0 := ti_ne c49
      have n51 := md_lne e47 c49
      refine lv_lconst (v := 0) hx hb dX7_joined_108 (by decide) ?_
      exact tw_endl hx hb hr hlocks hK hT hS hQ (trivial) dX7_joined_109
    · have q52 : x48.toInt = 0 := ti_eq c49
      have h53 : iv 0 0 x48 := ⟨by have := (h46).1; have := ((iv_c (c := 0) (n := 0) (by decide))).1; omega, by have := (h46).2; have := ((iv_c (c := 0) (n := 0) (by decide))).2; omega⟩
      refine lv_lconst (v := 1) hx hb dX7_joined_104 (by decide) ?_
      refine lv_goto (tgt := 109) hx hb dX7_joined_105 (by decide) ?_
      exact tw_endl hx hb hr hlocks hK hT hS hQ (trivial) dX7_joined_109
  have q54 : ¬ a0.toInt = 8 := ti_ne c45
  by_cases c55 : a0 = 9
  · subst c55
    refine lv_tableIn (off := 109) (tgt := 110) hx hb dX7_joined_1 (by decide) (by decide) rfl (by decide) ?_
    refine lv_lload_n hx hb dX7_joined_110 rfl (lv_at hl 1 rfl) ?_
    refine lv_lload_n hx hb dX7_joined_111 rfl (lv_at hl 2 rfl) ?_
    refine W.lcmp hx hb dX7_joined_112 ?_
    refine lv_topi (fun x58 e57 => ?_)
    have h56 := iv_any x58
    refine lv_if_lt (tgt := 120) hx hb dX7_joined_113 (by decide) (fun c59 => ?_) (fun c59 => ?_)
    · have q60 : x58.toInt < 0 := ti_lt c59
      have n61 := lcm_lt e57 q60
      have h62 : iv (-2147483648) (-1) x58 := iv_ltL (y := 0) h56 (iv_c (c := 0) (n := 0) (by decide)) q60 (by decide)
      refine lv_lconst (v := 0) hx hb dX7_joined_120 (by decide) ?_
      exact tw_endl hx hb hr hlocks hK hT hS hQ (trivial) dX7_joined_121
    · have q63 : 0 ≤ x58.toInt := ti_nlt c59
      have n64 := lcm_ge e57 q63
      have h65 : iv 0 2147483647 x58 := iv_geL (y := 0) h56 (iv_c (c := 0) (n := 0) (by decide)) q63 (by decide)
      refine lv_lconst (v := 1) hx hb dX7_joined_116 (by decide) ?_
      refine lv_goto (tgt := 121) hx hb dX7_joined_117 (by decide) ?_
      exact tw_endl hx hb hr hlocks hK hT hS hQ (trivial) dX7_joined_121
  have q66 : ¬ a0.toInt = 9 := ti_ne c55
  refine lv_tableOut (tgt := 122) hx hb dX7_joined_1 (by have := (h_a0).1; have := (h_a0).2; omega) (by decide) ?_
  have h67 : iv 10 10 a0 := ⟨by have := (h_a0).1; omega, (h_a0).2⟩
  refine lv_lload_n hx hb dX7_joined_122 rfl (lv_at hl 1 rfl) ?_
  refine lv_lload_n hx hb dX7_joined_123 rfl (lv_at hl 2 rfl) ?_
  refine W.lcmp hx hb dX7_joined_124 ?_
  refine lv_topi (fun x70 e69 => ?_)
  have h68 := iv_any x70
  refine lv_if_le (tgt := 132) hx hb dX7_joined_125 (by decide) (fun c71 => ?_) (fun c71 => ?_)
  · have q72 : x70.toInt ≤ 0 := ti_le c71
    have n73 := lcm_le e69 q72
    have h74 : iv (-2147483648) 0 x70 := iv_leL (y := 0) h68 (iv_c (c := 0) (n := 0) (by decide)) q72 (by decide)
    refine lv_lconst (v := 0) hx hb dX7_joined_132 (by decide) ?_
    exact tw_endl hx hb hr hlocks hK hT hS hQ (trivial) dX7_joined_133
  · have q75 : 0 < x70.toInt := ti_nle c71
    have n76 := lcm_gt e69 q75
    have h77 : iv 1 2147483647 x70 := iv_gtL (y := 0) h68 (iv_c (c := 0) (n := 0) (by decide)) q75 (by decide)
    refine lv_lconst (v := 1) hx hb dX7_joined_128 (by decide) ?_
    refine lv_goto (tgt := 133) hx hb dX7_joined_129 (by decide) ?_
    exact tw_endl hx hb hr hlocks hK hT hS hQ (trivial) dX7_joined_133
