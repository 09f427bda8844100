def Lt_X9_takeFrom_vx : WL := [(10, 0, 9), (14, 0, 2000000), (20, 0, 2000000), (21, 0, 2000000)]
def LRt_X9_takeFrom_vx : WL := []
set_option maxRecDepth 100000 in
set_option maxHeartbeats 4000000 in
theorem t_X9_takeFrom_vx (l : Launch) (D : va_G) (cy : Nat → ClassId) (tx : (Nat → Nat) × (Nat → Nat)) (base Z : Nat) (K N : Nat → Nat) (Ma : MT) (Ra : RT) (Ja : JT) (hTy : Ty Z K N Ma Ra) (a0 : Nat) (hz_a0 : a0 < Z) (hk_a0 : K a0 = 10) (a1 : Nat) (hz_a1 : a1 < Z) (hk_a1 : K a1 = 10) : Met l yX9_takeFrom [Cond.code yX9_takeFrom cX9_takeFrom 2 none] (md_rm 1 0 0) (va_Pc [.ref (base + a0), .ref (base + a1)] (md_U D cy tx base Z K N Ma Ra Ja)) (mQv D cy tx base (fun u => TP Z K N Lt_X9_takeFrom_vx LRt_X9_takeFrom_vx Ma Ra u ∧ (XT K Ma u.2.2.2.1 a0 a1))) 0 0 (fun q => base ≤ q) := by
  refine tw_ofW (L := Lt_X9_takeFrom_vx) (LR := LRt_X9_takeFrom_vx) (by decide) (Nat.le_of_ble_eq_true rfl) hTy ?_
  intro p e s m args below meth c Q ls hx hb hr hlocks hown hml hW hK hT hS hQ hl
  have hl : lv_has ls 2 [(0, .ref (base + a0)), (1, .ref (base + a1))] := hl
  refine lv_aload_n hx hb dX9_takeFrom_0 rfl (lv_at hl 0 rfl) ?_
  refine lv_aload_n hx hb dX9_takeFrom_1 rfl (lv_at hl 1 rfl) ?_
  refine tw_geti hx hb hW hown hK hS f_X9_33_9 hz_a1 hk_a1 (lo := (-2147483648)) (hi := 10) rfl dX9_takeFrom_2 (fun x3 k2 h1 => ?_)
  refine tw_puti hx hb hW hown hK hS f_X9_33_9 hz_a0 hk_a0 rfl rfl (lo := (-2147483648)) (hi := 10) rfl h1 rfl dX9_takeFrom_5 (fun H locs M6 hS k4 f5 => ?_)
  refine lv_aload_n hx hb dX9_takeFrom_8 rfl (lv_at hl 0 rfl) ?_
  refine lv_aload_n hx hb dX9_takeFrom_9 rfl (lv_at hl 1 rfl) ?_
  refine tw_geti hx hb hW hown hK hS f_X9_37_9 hz_a1 hk_a1 (lo := 0) (hi := 12) rfl dX9_takeFrom_10 (fun x9 k8 h7 => ?_)
  refine tw_puti hx hb hW hown hK hS f_X9_37_9 hz_a0 hk_a0 rfl rfl (lo := 0) (hi := 12) rfl h7 rfl dX9_takeFrom_13 (fun H locs M12 hS k10 f11 => ?_)
  refine lv_aload_n hx hb dX9_takeFrom_16 rfl (lv_at hl 0 rfl) ?_
  refine lv_aload_n hx hb dX9_takeFrom_17 rfl (lv_at hl 1 rfl) ?_
  refine tw_geti hx hb hW hown hK hS f_X9_40_9 hz_a1 hk_a1 (lo := (-2147483648)) (hi := 2147483647) rfl dX9_takeFrom_18 (fun x15 k14 h13 => ?_)
  refine tw_puti hx hb hW hown hK hS f_X9_40_9 hz_a0 hk_a0 rfl rfl (lo := (-2147483648)) (hi := 2147483647) rfl h13 rfl dX9_takeFrom_21 (fun H locs M18 hS k16 f17 => ?_)
  refine lv_aload_n hx hb dX9_takeFrom_24 rfl (lv_at hl 0 rfl) ?_
  refine lv_aload_n hx hb dX9_takeFrom_25 rfl (lv_at hl 1 rfl) ?_
  refine tw_geti hx hb hW hown hK hS f_X9_43_9 hz_a1 hk_a1 (lo := (-2147483648)) (hi := 2147483647) rfl dX9_takeFrom_26 (fun x21 k20 h19 => ?_)
  refine tw_puti hx hb hW hown hK hS f_X9_43_9 hz_a0 hk_a0 rfl rfl (lo := (-2147483648)) (hi := 2147483647) rfl h19 rfl dX9_takeFrom_29 (fun H locs M24 hS k22 f23 => ?_)
  refine lv_aload_n hx hb dX9_takeFrom_32 rfl (lv_at hl 0 rfl) ?_
  refine lv_aload_n hx hb dX9_takeFrom_33 rfl (lv_at hl 1 rfl) ?_
  refine tw_geti hx hb hW hown hK hS f_X9_46_9 hz_a1 hk_a1 (lo := (-2147483648)) (hi := 2147483647) rfl dX9_takeFrom_34 (fun x27 k26 h25 => ?_)
  refine tw_puti hx hb hW hown hK hS f_X9_46_9 hz_a0 hk_a0 rfl rfl (lo := (-2147483648)) (hi := 2147483647) rfl h25 rfl dX9_takeFrom_37 (fun H locs M30 hS k28 f29 => ?_)
  refine lv_aload_n hx hb dX9_takeFrom_40 rfl (lv_at hl 0 rfl) ?_
  refine lv_aload_n hx hb dX9_takeFrom_41 rfl (lv_at hl 1 rfl) ?_
  refine tw_geti hx hb hW hown hK hS f_X9_49_9 hz_a1 hk_a1 (lo := 0) (hi := 9999) rfl dX9_takeFrom_42 (fun x33 k32 h31 => ?_)
  refine tw_puti hx hb hW hown hK hS f_X9_49_9 hz_a0 hk_a0 rfl rfl (lo := 0) (hi := 9999) rfl h31 rfl dX9_takeFrom_45 (fun H locs M36 hS k34 f35 => ?_)
  refine lv_aload_n hx hb dX9_takeFrom_48 rfl (lv_at hl 0 rfl) ?_
  refine lv_aload_n hx hb dX9_takeFrom_49 rfl (lv_at hl 1 rfl) ?_
  obtain ⟨x39, k37⟩ : ∃ x, M36 a1 6 = x := ⟨_, rfl⟩
  have h38 : iv 0 2147483647 x39 := by rw [← k37]; exact hS.2.1.int hz_a1 hk_a1 (show rgI 10 6 = (0, 2147483647) from rfl)
  have q40 : Ma a1 6 = x39 := ((Fr.kp (k := 6) f35 hk_a1 rfl).trans ((Fr.kp (k := 6) f29 hk_a1 rfl).trans ((Fr.kp (k := 6) f23 hk_a1 rfl).trans ((Fr.kp (k := 6) f17 hk_a1 rfl).trans ((Fr.kp (k := 6) f11 hk_a1 rfl).trans (Fr.kp (k := 6) f5 hk_a1 rfl)))))).symm.trans k37
  refine tw_getk hx hb hW hown hK hS f_X9_58_9 hz_a1 hk_a1 (v := x39) k37 dX9_takeFrom_50 ?_
  refine tw_putix hx hb hW hown hK hS f_X9_58_9 hz_a0 hk_a0 rfl rfl (lo := 0) (hi := 2147483647) rfl h38 rfl dX9_takeFrom_53 (fun H locs M43 hS k41 f42 e44 => ?_)
  refine lv_aload_n hx hb dX9_takeFrom_56 rfl (lv_at hl 0 rfl) ?_
  refine lv_aload_n hx hb dX9_takeFrom_57 rfl (lv_at hl 1 rfl) ?_
  refine tw_geti hx hb hW hown hK hS f_X9_52_9 hz_a1 hk_a1 (lo := 0) (hi := 8) rfl dX9_takeFrom_58 (fun x47 k46 h45 => ?_)
  refine tw_puti hx hb hW hown hK hS f_X9_52_9 hz_a0 hk_a0 rfl rfl (lo := 0) (hi := 8) rfl h45 rfl dX9_takeFrom_61 (fun H locs M50 hS k48 f49 => ?_)
  refine lv_aload_n hx hb dX9_takeFrom_64 rfl (lv_at hl 0 rfl) ?_
  refine lv_aload_n hx hb dX9_takeFrom_65 rfl (lv_at hl 1 rfl) ?_
  refine tw_geti hx hb hW hown hK hS f_X9_55_9 hz_a1 hk_a1 (lo := 0) (hi := 12) rfl dX9_takeFrom_66 (fun x53 k52 h51 => ?_)
  refine tw_puti hx hb hW hown hK hS f_X9_55_9 hz_a0 hk_a0 rfl rfl (lo := 0) (hi := 12) rfl h51 rfl dX9_takeFrom_69 (fun H locs M56 hS k54 f55 => ?_)
  refine lv_aload_n hx hb dX9_takeFrom_72 rfl (lv_at hl 1 rfl) ?_
  refine tw_getr hx hb hW hown hK hS f_X9_9_9 hz_a1 hk_a1 (t := 14) (n := 120) rfl dX9_takeFrom_73 (fun b57 k58 hz_b57 hk_b57 hn_b57 => ?_)
  have hn_b57 := hn_b57 (by decide)
  refine lv_iconst (v := 0) hx hb dX9_takeFrom_76 (by decide) ?_
  refine lv_aload_n hx hb dX9_takeFrom_77 rfl (lv_at hl 0 rfl) ?_
  refine tw_getr hx hb hW hown hK hS f_X9_9_9 hz_a0 hk_a0 (t := 14) (n := 120) rfl dX9_takeFrom_78 (fun b59 k60 hz_b59 hk_b59 hn_b59 => ?_)
  have hn_b59 := hn_b59 (by decide)
  refine lv_iconst (v := 0) hx hb dX9_takeFrom_81 (by decide) ?_
  refine lv_aload_n hx hb dX9_takeFrom_82 rfl (lv_at hl 0 rfl) ?_
  refine tw_getrk hx hb hW hown hK hS f_X9_9_9 hz_a0 hk_a0 (b := b59) k60 dX9_takeFrom_83 ?_
  refine tw_alenk hx hb hK hS hz_b59 hk_b59 (by decide) hn_b59 (v := 120) (by decide) dX9_takeFrom_86 ?_
  refine tw_copy hx hb (hml.trans hl.1.symm) hW hown hK hS (md_okc w_3_224 rfl (md_okc w_3_226 rfl (md_okc w_3_225 rfl (md_okc w_1_18 rfl (md_ok0))))) hz_b59 hk_b59 (Or.inl rfl) hz_b57 hk_b57 (Or.inl rfl) hn_b59 hn_b57 (by have := ((iv_c (c := 120) (n := 120) (by decide))).1; have := ((iv_c (c := 120) (n := 120) (by decide))).2; have := ((iv_c (c := 0) (n := 0) (by decide))).1; have := ((iv_c (c := 0) (n := 0) (by decide))).2; have := ((iv_c (c := 0) (n := 0) (by decide))).1; have := ((iv_c (c := 0) (n := 0) (by decide))).2; omega) (by have := ((iv_c (c := 120) (n := 120) (by decide))).1; have := ((iv_c (c := 120) (n := 120) (by decide))).2; have := ((iv_c (c := 0) (n := 0) (by decide))).1; have := ((iv_c (c := 0) (n := 0) (by decide))).2; have := ((iv_c (c := 0) (n := 0) (by decide))).1; have := ((iv_c (c := 0) (n := 0) (by decide))).2; omega) (by have := ((iv_c (c := 120) (n := 120) (by decide))).1; have := ((iv_c (c := 120) (n := 120) (by decide))).2; have := ((iv_c (c := 0) (n := 0) (by decide))).1; have := ((iv_c (c := 0) (n := 0) (by decide))).2; have := ((iv_c (c := 0) (n := 0) (by decide))).1; have := ((iv_c (c := 0) (n := 0) (by decide))).2; omega) (by have := ((iv_c (c := 120) (n := 120) (by decide))).1; have := ((iv_c (c := 120) (n := 120) (by decide))).2; have := ((iv_c (c := 0) (n := 0) (by decide))).1; have := ((iv_c (c := 0) (n := 0) (by decide))).2; have := ((iv_c (c := 0) (n := 0) (by decide))).1; have := ((iv_c (c := 0) (n := 0) (by decide))).2; omega) (by have := ((iv_c (c := 120) (n := 120) (by decide))).1; have := ((iv_c (c := 120) (n := 120) (by decide))).2; have := ((iv_c (c := 0) (n := 0) (by decide))).1; have := ((iv_c (c := 0) (n := 0) (by decide))).2; have := ((iv_c (c := 0) (n := 0) (by decide))).1; have := ((iv_c (c := 0) (n := 0) (by decide))).2; omega) (fun _ _ => ⟨by show (-2147483648 : Int) ≤ -2147483648; decide, by show (2147483647 : Int) ≤ 2147483647; decide⟩) (Nat.le_of_ble_eq_true rfl) (Nat.le_of_ble_eq_true rfl) rfl dX9_takeFrom_87 (fun H locs M63 hS f61 k62 => ?_)
  refine lv_aload_n hx hb dX9_takeFrom_90 rfl (lv_at hl 1 rfl) ?_
  refine tw_getr hx hb hW hown hK hS f_X9_15_9 hz_a1 hk_a1 (t := 20) (n := 10) rfl dX9_takeFrom_91 (fun b64 k65 hz_b64 hk_b64 hn_b64 => ?_)
  have hn_b64 := hn_b64 (by decide)
  refine lv_iconst (v := 0) hx hb dX9_takeFrom_94 (by decide) ?_
  refine lv_aload_n hx hb dX9_takeFrom_95 rfl (lv_at hl 0 rfl) ?_
  refine tw_getr hx hb hW hown hK hS f_X9_15_9 hz_a0 hk_a0 (t := 20) (n := 10) rfl dX9_takeFrom_96 (fun b66 k67 hz_b66 hk_b66 hn_b66 => ?_)
  have hn_b66 := hn_b66 (by decide)
  refine lv_iconst (v := 0) hx hb dX9_takeFrom_99 (by decide) ?_
  refine lv_bipush (v := 10) hx hb dX9_takeFrom_100 (by decide) ?_
  refine tw_copy hx hb (hml.trans hl.1.symm) hW hown hK hS (md_okc w_3_224 rfl (md_okc w_3_226 rfl (md_okc w_3_225 rfl (md_okc w_1_18 rfl (md_ok0))))) hz_b66 hk_b66 (Or.inr (by decide)) hz_b64 hk_b64 (Or.inr (by decide)) hn_b66 hn_b64 (by have := ((iv_c (c := 10) (n := 10) (by decide))).1; have := ((iv_c (c := 10) (n := 10) (by decide))).2; have := ((iv_c (c := 0) (n := 0) (by decide))).1; have := ((iv_c (c := 0) (n := 0) (by decide))).2; have := ((iv_c (c := 0) (n := 0) (by decide))).1; have := ((iv_c (c := 0) (n := 0) (by decide))).2; omega) (by have := ((iv_c (c := 10) (n := 10) (by decide))).1; have := ((iv_c (c := 10) (n := 10) (by decide))).2; have := ((iv_c (c := 0) (n := 0) (by decide))).1; have := ((iv_c (c := 0) (n := 0) (by decide))).2; have := ((iv_c (c := 0) (n := 0) (by decide))).1; have := ((iv_c (c := 0) (n := 0) (by decide))).2; omega) (by have := ((iv_c (c := 10) (n := 10) (by decide))).1; have := ((iv_c (c := 10) (n := 10) (by decide))).2; have := ((iv_c (c := 0) (n := 0) (by decide))).1; have := ((iv_c (c := 0) (n := 0) (by decide))).2; have := ((iv_c (c := 0) (n := 0) (by decide))).1; have := ((iv_c (c := 0) (n := 0) (by decide))).2; omega) (by have := ((iv_c (c := 10) (n := 10) (by decide))).1; have := ((iv_c (c := 10) (n := 10) (by decide))).2; have := ((iv_c (c := 0) (n := 0) (by decide))).1; have := ((iv_c (c := 0) (n := 0) (by decide))).2; have := ((iv_c (c := 0) (n := 0) (by decide))).1; have := ((iv_c (c := 0) (n := 0) (by decide))).2; omega) (by have := ((iv_c (c := 10) (n := 10) (by decide))).1; have := ((iv_c (c := 10) (n := 10) (by decide))).2; have := ((iv_c (c := 0) (n := 0) (by decide))).1; have := ((iv_c (c := 0) (n := 0) (by decide))).2; have := ((iv_c (c := 0) (n := 0) (by decide))).1; have := ((iv_c (c := 0) (n := 0) (by decide))).2; omega) (fun _ _ => ⟨by show (-2147483648 : Int) ≤ -2147483648; decide, by show (2147483647 : Int) ≤ 2147483647; decide⟩) (Nat.le_of_ble_eq_true rfl) (Nat.le_of_ble_eq_true rfl) rfl dX9_takeFrom_102 (fun H locs M70 hS f68 k69 => ?_)
  refine lv_aload_n hx hb dX9_takeFrom_105 rfl (lv_at hl 1 rfl) ?_
  refine tw_getr hx hb hW hown hK hS f_X9_18_9 hz_a1 hk_a1 (t := 14) (n := 10) rfl dX9_takeFrom_106 (fun b71 k72 hz_b71 hk_b71 hn_b71 => ?_)
  have hn_b71 := hn_b71 (by decide)
  refine lv_iconst (v := 0) hx hb dX9_takeFrom_109 (by decide) ?_
  refine lv_aload_n hx hb dX9_takeFrom_110 rfl (lv_at hl 0 rfl) ?_
  refine tw_getr hx hb hW hown hK hS f_X9_18_9 hz_a0 hk_a0 (t := 14) (n := 10) rfl dX9_takeFrom_111 (fun b73 k74 hz_b73 hk_b73 hn_b73 => ?_)
  have hn_b73 := hn_b73 (by decide)
  refine lv_iconst (v := 0) hx hb dX9_takeFrom_114 (by decide) ?_
  refine lv_bipush (v := 10) hx hb dX9_takeFrom_115 (by decide) ?_
  refine tw_copy hx hb (hml.trans hl.1.symm) hW hown hK hS (md_okc w_3_224 rfl (md_okc w_3_226 rfl (md_okc w_3_225 rfl (md_okc w_1_18 rfl (md_ok0))))) hz_b73 hk_b73 (Or.inl rfl) hz_b71 hk_b71 (Or.inl rfl) hn_b73 hn_b71 (by have := ((iv_c (c := 10) (n := 10) (by decide))).1; have := ((iv_c (c := 10) (n := 10) (by decide))).2; have := ((iv_c (c := 0) (n := 0) (by decide))).1; have := ((iv_c (c := 0) (n := 0) (by decide))).2; have := ((iv_c (c := 0) (n := 0) (by decide))).1; have := ((iv_c (c := 0) (n := 0) (by decide))).2; omega) (by have := ((iv_c (c := 10) (n := 10) (by decide))).1; have := ((iv_c (c := 10) (n := 10) (by decide))).2; have := ((iv_c (c := 0) (n := 0) (by decide))).1; have := ((iv_c (c := 0) (n := 0) (by decide))).2; have := ((iv_c (c := 0) (n := 0) (by decide))).1; have := ((iv_c (c := 0) (n := 0) (by decide))).2; omega) (by have := ((iv_c (c := 10) (n := 10) (by decide))).1; have := ((iv_c (c := 10) (n := 10) (by decide))).2; have := ((iv_c (c := 0) (n := 0) (by decide))).1; have := ((iv_c (c := 0) (n := 0) (by decide))).2; have := ((iv_c (c := 0) (n := 0) (by decide))).1; have := ((iv_c (c := 0) (n := 0) (by decide))).2; omega) (by have := ((iv_c (c := 10) (n := 10) (by decide))).1; have := ((iv_c (c := 10) (n := 10) (by decide))).2; have := ((iv_c (c := 0) (n := 0) (by decide))).1; have := ((iv_c (c := 0) (n := 0) (by decide))).2; have := ((iv_c (c := 0) (n := 0) (by decide))).1; have := ((iv_c (c := 0) (n := 0) (by decide))).2; omega) (by have := ((iv_c (c := 10) (n := 10) (by decide))).1; have := ((iv_c (c := 10) (n := 10) (by decide))).2; have := ((iv_c (c := 0) (n := 0) (by decide))).1; have := ((iv_c (c := 0) (n := 0) (by decide))).2; have := ((iv_c (c := 0) (n := 0) (by decide))).1; have := ((iv_c (c := 0) (n := 0) (by decide))).2; omega) (fun _ _ => ⟨by show (-2147483648 : Int) ≤ -2147483648; decide, by show (2147483647 : Int) ≤ 2147483647; decide⟩) (Nat.le_of_ble_eq_true rfl) (Nat.le_of_ble_eq_true rfl) rfl dX9_takeFrom_117 (fun H locs M77 hS f75 k76 => ?_)
  refine lv_aload_n hx hb dX9_takeFrom_120 rfl (lv_at hl 1 rfl) ?_
  refine tw_getr hx hb hW hown hK hS f_X9_21_9 hz_a1 hk_a1 (t := 14) (n := 10) rfl dX9_takeFrom_121 (fun b78 k79 hz_b78 hk_b78 hn_b78 => ?_)
  have hn_b78 := hn_b78 (by decide)
  refine lv_iconst (v := 0) hx hb dX9_takeFrom_124 (by decide) ?_
  refine lv_aload_n hx hb dX9_takeFrom_125 rfl (lv_at hl 0 rfl) ?_
  refine tw_getr hx hb hW hown hK hS f_X9_21_9 hz_a0 hk_a0 (t := 14) (n := 10) rfl dX9_takeFrom_126 (fun b80 k81 hz_b80 hk_b80 hn_b80 => ?_)
  have hn_b80 := hn_b80 (by decide)
  refine lv_iconst (v := 0) hx hb dX9_takeFrom_129 (by decide) ?_
  refine lv_bipush (v := 10) hx hb dX9_takeFrom_130 (by decide) ?_
  refine tw_copy hx hb (hml.trans hl.1.symm) hW hown hK hS (md_okc w_3_224 rfl (md_okc w_3_226 rfl (md_okc w_3_225 rfl (md_okc w_1_18 rfl (md_ok0))))) hz_b80 hk_b80 (Or.inl rfl) hz_b78 hk_b78 (Or.inl rfl) hn_b80 hn_b78 (by have := ((iv_c (c := 10) (n := 10) (by decide))).1; have := ((iv_c (c := 10) (n := 10) (by decide))).2; have := ((iv_c (c := 0) (n := 0) (by decide))).1; have := ((iv_c (c := 0) (n := 0) (by decide))).2; have := ((iv_c (c := 0) (n := 0) (by decide))).1; have := ((iv_c (c := 0) (n := 0) (by decide))).2; omega) (by have := ((iv_c (c := 10) (n := 10) (by decide))).1; have := ((iv_c (c := 10) (n := 10) (by decide))).2; have := ((iv_c (c := 0) (n := 0) (by decide))).1; have := ((iv_c (c := 0) (n := 0) (by decide))).2; have := ((iv_c (c := 0) (n := 0) (by decide))).1; have := ((iv_c (c := 0) (n := 0) (by decide))).2; omega) (by have := ((iv_c (c := 10) (n := 10) (by decide))).1; have := ((iv_c (c := 10) (n := 10) (by decide))).2; have := ((iv_c (c := 0) (n := 0) (by decide))).1; have := ((iv_c (c := 0) (n := 0) (by decide))).2; have := ((iv_c (c := 0) (n := 0) (by decide))).1; have := ((iv_c (c := 0) (n := 0) (by decide))).2; omega) (by have := ((iv_c (c := 10) (n := 10) (by decide))).1; have := ((iv_c (c := 10) (n := 10) (by decide))).2; have := ((iv_c (c := 0) (n := 0) (by decide))).1; have := ((iv_c (c := 0) (n := 0) (by decide))).2; have := ((iv_c (c := 0) (n := 0) (by decide))).1; have := ((iv_c (c := 0) (n := 0) (by decide))).2; omega) (by have := ((iv_c (c := 10) (n := 10) (by decide))).1; have := ((iv_c (c := 10) (n := 10) (by decide))).2; have := ((iv_c (c := 0) (n := 0) (by decide))).1; have := ((iv_c (c := 0) (n := 0) (by decide))).2; have := ((iv_c (c := 0) (n := 0) (by decide))).1; have := ((iv_c (c := 0) (n := 0) (by decide))).2; omega) (fun _ _ => ⟨by show (-2147483648 : Int) ≤ -2147483648; decide, by show (2147483647 : Int) ≤ 2147483647; decide⟩) (Nat.le_of_ble_eq_true rfl) (Nat.le_of_ble_eq_true rfl) rfl dX9_takeFrom_132 (fun H locs M84 hS f82 k83 => ?_)
  refine lv_aload_n hx hb dX9_takeFrom_135 rfl (lv_at hl 1 rfl) ?_
  refine tw_getr hx hb hW hown hK hS f_X9_24_9 hz_a1 hk_a1 (t := 14) (n := 10) rfl dX9_takeFrom_136 (fun b85 k86 hz_b85 hk_b85 hn_b85 => ?_)
  have hn_b85 := hn_b85 (by decide)
  refine lv_iconst (v := 0) hx hb dX9_takeFrom_139 (by decide) ?_
  refine lv_aload_n hx hb dX9_takeFrom_140 rfl (lv_at hl 0 rfl) ?_
  refine tw_getr hx hb hW hown hK hS f_X9_24_9 hz_a0 hk_a0 (t := 14) (n := 10) rfl dX9_takeFrom_141 (fun b87 k88 hz_b87 hk_b87 hn_b87 => ?_)
  have hn_b87 := hn_b87 (by decide)
  refine lv_iconst (v := 0) hx hb dX9_takeFrom_144 (by decide) ?_
  refine lv_bipush (v := 10) hx hb dX9_takeFrom_145 (by decide) ?_
  refine tw_copy hx hb (hml.trans hl.1.symm) hW hown hK hS (md_okc w_3_224 rfl (md_okc w_3_226 rfl (md_okc w_3_225 rfl (md_okc w_1_18 rfl (md_ok0))))) hz_b87 hk_b87 (Or.inl rfl) hz_b85 hk_b85 (Or.inl rfl) hn_b87 hn_b85 (by have := ((iv_c (c := 10) (n := 10) (by decide))).1; have := ((iv_c (c := 10) (n := 10) (by decide))).2; have := ((iv_c (c := 0) (n := 0) (by decide))).1; have := ((iv_c (c := 0) (n := 0) (by decide))).2; have := ((iv_c (c := 0) (n := 0) (by decide))).1; have := ((iv_c (c := 0) (n := 0) (by decide))).2; omega) (by have := ((iv_c (c := 10) (n := 10) (by decide))).1; have := ((iv_c (c := 10) (n := 10) (by decide))).2; have := ((iv_c (c := 0) (n := 0) (by decide))).1; have := ((iv_c (c := 0) (n := 0) (by decide))).2; have := ((iv_c (c := 0) (n := 0) (by decide))).1; have := ((iv_c (c := 0) (n := 0) (by decide))).2; omega) (by have := ((iv_c (c := 10) (n := 10) (by decide))).1; have := ((iv_c (c := 10) (n := 10) (by decide))).2; have := ((iv_c (c := 0) (n := 0) (by decide))).1; have := ((iv_c (c := 0) (n := 0) (by decide))).2; have := ((iv_c (c := 0) (n := 0) (by decide))).1; have := ((iv_c (c := 0) (n := 0) (by decide))).2; omega) (by have := ((iv_c (c := 10) (n := 10) (by decide))).1; have := ((iv_c (c := 10) (n := 10) (by decide))).2; have := ((iv_c (c := 0) (n := 0) (by decide))).1; have := ((iv_c (c := 0) (n := 0) (by decide))).2; have := ((iv_c (c := 0) (n := 0) (by decide))).1; have := ((iv_c (c := 0) (n := 0) (by decide))).2; omega) (by have := ((iv_c (c := 10) (n := 10) (by decide))).1; have := ((iv_c (c := 10) (n := 10) (by decide))).2; have := ((iv_c (c := 0) (n := 0) (by decide))).1; have := ((iv_c (c := 0) (n := 0) (by decide))).2; have := ((iv_c (c := 0) (n := 0) (by decide))).1; have := ((iv_c (c := 0) (n := 0) (by decide))).2; omega) (fun _ _ => ⟨by show (-2147483648 : Int) ≤ -2147483648; decide, by show (2147483647 : Int) ≤ 2147483647; decide⟩) (Nat.le_of_ble_eq_true rfl) (Nat.le_of_ble_eq_true rfl) rfl dX9_takeFrom_147 (fun H locs M91 hS f89 k90 => ?_)
  refine lv_aload_n hx hb dX9_takeFrom_150 rfl (lv_at hl 1 rfl) ?_
  refine tw_getr hx hb hW hown hK hS f_X9_27_9 hz_a1 hk_a1 (t := 21) (n := 8) rfl dX9_takeFrom_151 (fun b92 k93 hz_b92 hk_b92 hn_b92 => ?_)
  have hn_b92 := hn_b92 (by decide)
  refine lv_iconst (v := 0) hx hb dX9_takeFrom_154 (by decide) ?_
  refine lv_aload_n hx hb dX9_takeFrom_155 rfl (lv_at hl 0 rfl) ?_
  refine tw_getr hx hb hW hown hK hS f_X9_27_9 hz_a0 hk_a0 (t := 21) (n := 8) rfl dX9_takeFrom_156 (fun b94 k95 hz_b94 hk_b94 hn_b94 => ?_)
  have hn_b94 := hn_b94 (by decide)
  refine lv_iconst (v := 0) hx hb dX9_takeFrom_159 (by decide) ?_
  refine lv_bipush (v := 8) hx hb dX9_takeFrom_160 (by decide) ?_
  refine tw_copy hx hb (hml.trans hl.1.symm) hW hown hK hS (md_okc w_3_224 rfl (md_okc w_3_226 rfl (md_okc w_3_225 rfl (md_okc w_1_18 rfl (md_ok0))))) hz_b94 hk_b94 (Or.inr (by decide)) hz_b92 hk_b92 (Or.inr (by decide)) hn_b94 hn_b92 (by have := ((iv_c (c := 8) (n := 8) (by decide))).1; have := ((iv_c (c := 8) (n := 8) (by decide))).2; have := ((iv_c (c := 0) (n := 0) (by decide))).1; have := ((iv_c (c := 0) (n := 0) (by decide))).2; have := ((iv_c (c := 0) (n := 0) (by decide))).1; have := ((iv_c (c := 0) (n := 0) (by decide))).2; omega) (by have := ((iv_c (c := 8) (n := 8) (by decide))).1; have := ((iv_c (c := 8) (n := 8) (by decide))).2; have := ((iv_c (c := 0) (n := 0) (by decide))).1; have := ((iv_c (c := 0) (n := 0) (by decide))).2; have := ((iv_c (c := 0) (n := 0) (by decide))).1; have := ((iv_c (c := 0) (n := 0) (by decide))).2; omega) (by have := ((iv_c (c := 8) (n := 8) (by decide))).1; have := ((iv_c (c := 8) (n := 8) (by decide))).2; have := ((iv_c (c := 0) (n := 0) (by decide))).1; have := ((iv_c (c := 0) (n := 0) (by decide))).2; have := ((iv_c (c := 0) (n := 0) (by decide))).1; have := ((iv_c (c := 0) (n := 0) (by decide))).2; omega) (by have := ((iv_c (c := 8) (n := 8) (by decide))).1; have := ((iv_c (c := 8) (n := 8) (by decide))).2; have := ((iv_c (c := 0) (n := 0) (by decide))).1; have := ((iv_c (c := 0) (n := 0) (by decide))).2; have := ((iv_c (c := 0) (n := 0) (by decide))).1; have := ((iv_c (c := 0) (n := 0) (by decide))).2; omega) (by have := ((iv_c (c := 8) (n := 8) (by decide))).1; have := ((iv_c (c := 8) (n := 8) (by decide))).2; have := ((iv_c (c := 0) (n := 0) (by decide))).1; have := ((iv_c (c := 0) (n := 0) (by decide))).2; have := ((iv_c (c := 0) (n := 0) (by decide))).1; have := ((iv_c (c := 0) (n := 0) (by decide))).2; omega) (fun _ _ => ⟨by show (0 : Int) ≤ 0; decide, by show (11 : Int) ≤ 11; decide⟩) (Nat.le_of_ble_eq_true rfl) (Nat.le_of_ble_eq_true rfl) rfl dX9_takeFrom_162 (fun H locs M98 hS f96 k97 => ?_)
  refine lv_aload_n hx hb dX9_takeFrom_165 rfl (lv_at hl 1 rfl) ?_
  refine tw_getr hx hb hW hown hK hS f_X9_30_9 hz_a1 hk_a1 (t := 14) (n := 48) rfl dX9_takeFrom_166 (fun b99 k100 hz_b99 hk_b99 hn_b99 => ?_)
  have hn_b99 := hn_b99 (by decide)
  refine lv_iconst (v := 0) hx hb dX9_takeFrom_169 (by decide) ?_
  refine lv_aload_n hx hb dX9_takeFrom_170 rfl (lv_at hl 0 rfl) ?_
  refine tw_getr hx hb hW hown hK hS f_X9_30_9 hz_a0 hk_a0 (t := 14) (n := 48) rfl dX9_takeFrom_171 (fun b101 k102 hz_b101 hk_b101 hn_b101 => ?_)
  have hn_b101 := hn_b101 (by decide)
  refine lv_iconst (v := 0) hx hb dX9_takeFrom_174 (by decide) ?_
  refine lv_aload_n hx hb dX9_takeFrom_175 rfl (lv_at hl 0 rfl) ?_
  refine tw_getrk hx hb hW hown hK hS f_X9_30_9 hz_a0 hk_a0 (b := b101) k102 dX9_takeFrom_176 ?_
  refine tw_alenk hx hb hK hS hz_b101 hk_b101 (by decide) hn_b101 (v := 48) (by decide) dX9_takeFrom_179 ?_
  refine tw_copy hx hb (hml.trans hl.1.symm) hW hown hK hS (md_okc w_3_224 rfl (md_okc w_3_226 rfl (md_okc w_3_225 rfl (md_okc w_1_18 rfl (md_ok0))))) hz_b101 hk_b101 (Or.inl rfl) hz_b99 hk_b99 (Or.inl rfl) hn_b101 hn_b99 (by have := ((iv_c (c := 48) (n := 48) (by decide))).1; have := ((iv_c (c := 48) (n := 48) (by decide))).2; have := ((iv_c (c := 0) (n := 0) (by decide))).1; have := ((iv_c (c := 0) (n := 0) (by decide))).2; have := ((iv_c (c := 0) (n := 0) (by decide))).1; have := ((iv_c (c := 0) (n := 0) (by decide))).2; omega) (by have := ((iv_c (c := 48) (n := 48) (by decide))).1; have := ((iv_c (c := 48) (n := 48) (by decide))).2; have := ((iv_c (c := 0) (n := 0) (by decide))).1; have := ((iv_c (c := 0) (n := 0) (by decide))).2; have := ((iv_c (c := 0) (n := 0) (by decide))).1; have := ((iv_c (c := 0) (n := 0) (by decide))).2; omega) (by have := ((iv_c (c := 48) (n := 48) (by decide))).1; have := ((iv_c (c := 48) (n := 48) (by decide))).2; have := ((iv_c (c := 0) (n := 0) (by decide))).1; have := ((iv_c (c := 0) (n := 0) (by decide))).2; have := ((iv_c (c := 0) (n := 0) (by decide))).1; have := ((iv_c (c := 0) (n := 0) (by decide))).2; omega) (by have := ((iv_c (c := 48) (n := 48) (by decide))).1; have := ((iv_c (c := 48) (n := 48) (by decide))).2; have := ((iv_c (c := 0) (n := 0) (by decide))).1; have := ((iv_c (c := 0) (n := 0) (by decide))).2; have := ((iv_c (c := 0) (n := 0) (by decide))).1; have := ((iv_c (c := 0) (n := 0) (by decide))).2; omega) (by have := ((iv_c (c := 48) (n := 48) (by decide))).1; have := ((iv_c (c := 48) (n := 48) (by decide))).2; have := ((iv_c (c := 0) (n := 0) (by decide))).1; have := ((iv_c (c := 0) (n := 0) (by decide))).2; have := ((iv_c (c := 0) (n := 0) (by decide))).1; have := ((iv_c (c := 0) (n := 0) (by decide))).2; omega) (fun _ _ => ⟨by show (-2147483648 : Int) ≤ -2147483648; decide, by show (2147483647 : Int) ≤ 2147483647; decide⟩) (Nat.le_of_ble_eq_true rfl) (Nat.le_of_ble_eq_true rfl) rfl dX9_takeFrom_180 (fun H locs M105 hS f103 k104 => ?_)
  have k106 : M105 a0 6 = x39 := ((Fr.kp (k := 6) f103 hk_a0 rfl).trans ((Fr.kp (k := 6) f96 hk_a0 rfl).trans ((Fr.kp (k := 6) f89 hk_a0 rfl).trans ((Fr.kp (k := 6) f82 hk_a0 rfl).trans ((Fr.kp (k := 6) f75 hk_a0 rfl).trans ((Fr.kp (k := 6) f68 hk_a0 rfl).trans ((Fr.kp (k := 6) f61 hk_a0 rfl).trans ((Fr.kp (k := 6) f55 hk_a0 rfl).trans (Fr.kp (k := 6) f49 hk_a0 rfl))))))))).trans k41
  have q107 : XT K Ma M105 a0 a1 := ⟨k106.trans q40.symm, fun q hq hne => ((Fr.kp (k := 6) f103 hq rfl).trans ((Fr.kp (k := 6) f96 hq rfl).trans ((Fr.kp (k := 6) f89 hq rfl).trans ((Fr.kp (k := 6) f82 hq rfl).trans ((Fr.kp (k := 6) f75 hq rfl).trans ((Fr.kp (k := 6) f68 hq rfl).trans ((Fr.kp (k := 6) f61 hq rfl).trans ((Fr.kp (k := 6) f55 hq rfl).trans (Fr.kp (k := 6) f49 hq rfl))))))))).trans (by rw [e44, u2_ne hne]; exact ((Fr.kp (k := 6) f35 hq rfl).trans ((Fr.kp (k := 6) f29 hq rfl).trans ((Fr.kp (k := 6) f23 hq rfl).trans ((Fr.kp (k := 6) f17 hq rfl).trans ((Fr.kp (k := 6) f11 hq rfl).trans (Fr.kp (k := 6) f5 hq rfl)))))))⟩
  exact tw_endv hx hb hr hlocks hK hT hS hQ (q107) dX9_takeFrom_183
def Lt_X11_back_vx : WL := [(10, 0, 9), (14, 0, 2000000), (20, 0, 2000000), (21, 0, 2000000)]
def LRt_X11_back_vx : WL := []
set_option maxRecDepth 100000 in
set_option maxHeartbeats 4000000 in
theorem t_X11_back_vx (l : Launch) (D : va_G) (cy : Nat → ClassId) (tx : (Nat → Nat) × (Nat → Nat)) (base Z : Nat) (K N : Nat → Nat) (Ma : MT) (Ra : RT) (Ja : JT) (hTy : Ty Z K N Ma Ra) (a0 : Nat) (hz_a0 : a0 < Z) (hk_a0 : K a0 = 11) (a1 : Int32) (h_a1 : iv (-2147483648) 2147483647 a1) (nw : Nat) (k_nw : Ra a0 3 = some nw) (im : Nat) (k_im : Ra a0 4 = some im) : Met l yX11_back [Cond.code yX11_back cX11_back 2 (some .int)] (md_rm 2 0 0) (va_Pc [.ref (base + a0), .int a1] (md_U D cy tx base Z K N Ma Ra Ja)) (mQi D cy tx base (fun r u => TP Z K N Lt_X11_back_vx LRt_X11_back_vx Ma Ra u ∧ (iv (-2147483648) 2147483647 r ∧ BXQ K Ma Ra u.2.2.2.1 nw im a1))) 0 0 (fun q => base ≤ q) := by
  refine tw_ofW (L := Lt_X11_back_vx) (LR := LRt_X11_back_vx) (by decide) (Nat.le_of_ble_eq_true rfl) hTy ?_
  intro p e s m args below meth c Q ls hx hb hr hlocks hown hml hW hK hT hS hQ hl
  have hl : lv_has ls 2 [(0, .ref (base + a0)), (1, .int a1)] := hl
  obtain ⟨hz_nw, hk_nw, hn_nw⟩ := hTy.refn hz_a0 hk_a0 (show rtR 11 3 = (10, 0, 0) from rfl) k_nw
  obtain ⟨hz_im, hk_im, hn_im⟩ := hTy.refn hz_a0 hk_a0 (show rtR 11 4 = (18, 4, 0) from rfl) k_im
  have hn_im := hn_im (by decide)
  refine lv_iload_n hx hb dX11_back_0 rfl (lv_at hl 1 rfl) ?_
  refine lv_if_lt (tgt := 18) hx hb dX11_back_1 (by decide) (fun c1 => ?_) (fun c1 => ?_)
  · have q2 : a1.toInt < 0 := ti_lt c1
    have h3 : iv (-2147483648) (-1) a1 := iv_ltL (y := 0) h_a1 (iv_c (c := 0) (n := 0) (by decide)) q2 (by decide)
    refine lv_aload_n hx hb dX11_back_18 rfl (lv_at hl 0 rfl) ?_
    refine lv_iconst (v := 0) hx hb dX11_back_19 (by decide) ?_
    refine tw_goi hS (md_runV (As := [.int 0]) (rest := []) hx hb hml hown hW hK hT hS.1 (t_X11_refuse l D cy tx base Z K N Ma Ra Ja hS.2.1 a0 hz_a0 hk_a0 0 (iv_mono (iv_c (c := 0) (n := 0) (by decide)) (by decide) (by decide))) s_X11_158 ⟨rfl, rfl, ⟨Nat.le_of_ble_eq_true rfl, Nat.le_of_ble_eq_true rfl⟩, ⟨Nat.le_of_ble_eq_true rfl, Nat.le_of_ble_eq_true rfl⟩⟩ hz_a0 hk_a0 (by decide) rfl rfl hl.1 rfl (Nat.le_of_ble_eq_true rfl) dX11_back_20) rfl rfl (fun x10 H locs M7 R8 J6 hS f4 g5 E9 => ?_)
    have eR8 := Fr.nil g5 rfl
    subst eR8
    have h_x10 := E9
    clear E9
    have q12 : a1.toInt < 0 ∨ 3 < a1.toInt := by
      have := (h3).1; have := (h3).2; omega
    have q11 : BXQ K Ma Ra M7 nw im a1 := Or.inl ⟨Or.inl (q12), fun q hq => (Fr.kp (k := 6) f4 hq rfl)⟩
    exact tw_endi hx hb hr hlocks hK hT hS hQ (⟨(iv_mono h_x10 (by decide) (by decide)), q11⟩) dX11_back_23
  · have q13 : 0 ≤ a1.toInt := ti_nlt c1
    have h14 : iv 0 2147483647 a1 := iv_geL (y := 0) h_a1 (iv_c (c := 0) (n := 0) (by decide)) q13 (by decide)
    refine lv_iload_n hx hb dX11_back_4 rfl (lv_at hl 1 rfl) ?_
    refine lv_iconst (v := 4) hx hb dX11_back_5 (by decide) ?_
    refine lv_icmp_ge (tgt := 18) hx hb dX11_back_6 (by decide) (fun c15 => ?_) (fun c15 => ?_)
    · have q16 : 4 ≤ a1.toInt := ti_le c15
      have h17 : iv 4 2147483647 a1 := iv_geL (y := 4) h14 (iv_c (c := 4) (n := 4) (by decide)) q16 (by decide)
      refine lv_aload_n hx hb dX11_back_18 rfl (lv_at hl 0 rfl) ?_
      refine lv_iconst (v := 0) hx hb dX11_back_19 (by decide) ?_
      refine tw_goi hS (md_runV (As := [.int 0]) (rest := []) hx hb hml hown hW hK hT hS.1 (t_X11_refuse l D cy tx base Z K N Ma Ra Ja hS.2.1 a0 hz_a0 hk_a0 0 (iv_mono (iv_c (c := 0) (n := 0) (by decide)) (by decide) (by decide))) s_X11_158 ⟨rfl, rfl, ⟨Nat.le_of_ble_eq_true rfl, Nat.le_of_ble_eq_true rfl⟩, ⟨Nat.le_of_ble_eq_true rfl, Nat.le_of_ble_eq_true rfl⟩⟩ hz_a0 hk_a0 (by decide) rfl rfl hl.1 rfl (Nat.le_of_ble_eq_true rfl) dX11_back_20) rfl rfl (fun x24 H locs M21 R22 J20 hS f18 g19 E23 => ?_)
      have eR22 := Fr.nil g19 rfl
      subst eR22
      have h_x24 := E23
      clear E23
      have q26 : a1.toInt < 0 ∨ 3 < a1.toInt := by
        have := (h17).1; have := (h17).2; omega
      have q25 : BXQ K Ma Ra M21 nw im a1 := Or.inl ⟨Or.inl (q26), fun q hq => (Fr.kp (k := 6) f18 hq rfl)⟩
      exact tw_endi hx hb hr hlocks hK hT hS hQ (⟨(iv_mono h_x24 (by decide) (by decide)), q25⟩) dX11_back_23
    · have q27 : a1.toInt < 4 := ti_nle c15
      have h28 : iv 0 3 a1 := iv_ltL (y := 4) h14 (iv_c (c := 4) (n := 4) (by decide)) q27 (by decide)
      refine lv_aload_n hx hb dX11_back_9 rfl (lv_at hl 0 rfl) ?_
      refine tw_getrk hx hb hW hown hK hS f_X11_19_10 hz_a0 hk_a0 (b := im) k_im dX11_back_10 ?_
      refine lv_iload_n hx hb dX11_back_13 rfl (lv_at hl 1 rfl) ?_
      refine tw_aald hx hb hK hS hz_im hk_im ⟨by decide, by decide⟩ hn_im h28 ⟨by decide, by decide⟩ (t2 := 10) (n2 := 0) (o := 1) (fun _ => rfl) dX11_back_14 (fun k31 => ?_) (fun b29 k30 hz_b29 hk_b29 hn_b29 => ?_)
      · refine lv_ifnonnullN hx hb dX11_back_15 ?_
        refine lv_aload_n hx hb dX11_back_18 rfl (lv_at hl 0 rfl) ?_
        refine lv_iconst (v := 0) hx hb dX11_back_19 (by decide) ?_
        refine tw_goi hS (md_runV (As := [.int 0]) (rest := []) hx hb hml hown hW hK hT hS.1 (t_X11_refuse l D cy tx base Z K N Ma Ra Ja hS.2.1 a0 hz_a0 hk_a0 0 (iv_mono (iv_c (c := 0) (n := 0) (by decide)) (by decide) (by decide))) s_X11_158 ⟨rfl, rfl, ⟨Nat.le_of_ble_eq_true rfl, Nat.le_of_ble_eq_true rfl⟩, ⟨Nat.le_of_ble_eq_true rfl, Nat.le_of_ble_eq_true rfl⟩⟩ hz_a0 hk_a0 (by decide) rfl rfl hl.1 rfl (Nat.le_of_ble_eq_true rfl) dX11_back_20) rfl rfl (fun x38 H locs M35 R36 J34 hS f32 g33 E37 => ?_)
        have eR36 := Fr.nil g33 rfl
        subst eR36
        have h_x38 := E37
        clear E37
        have q39 : BXQ K Ma Ra M35 nw im a1 := Or.inl ⟨Or.inr k31, fun q hq => (Fr.kp (k := 6) f32 hq rfl)⟩
        exact tw_endi hx hb hr hlocks hK hT hS hQ (⟨(iv_mono h_x38 (by decide) (by decide)), q39⟩) dX11_back_23
      · refine lv_ifnonnull (tgt := 24) hx hb dX11_back_15 (by decide) ?_
        refine lv_aload_n hx hb dX11_back_24 rfl (lv_at hl 0 rfl) ?_
        refine tw_getrk hx hb hW hown hK hS f_X11_31_10 hz_a0 hk_a0 (b := nw) k_nw dX11_back_25 ?_
        refine lv_aload_n hx hb dX11_back_28 rfl (lv_at hl 0 rfl) ?_
        refine tw_getrk hx hb hW hown hK hS f_X11_19_10 hz_a0 hk_a0 (b := im) k_im dX11_back_29 ?_
        refine lv_iload_n hx hb dX11_back_32 rfl (lv_at hl 1 rfl) ?_
        refine tw_aalk hx hb hK hS hz_im hk_im ⟨by decide, by decide⟩ hn_im h28 ⟨by decide, by decide⟩ (b := b29) k30 dX11_back_33 ?_
        refine tw_gov hS (md_runV (As := [.ref (base + b29)]) (rest := []) hx hb hml hown hW hK hT hS.1 (t_X9_takeFrom_vx l D cy tx base Z K N Ma Ra Ja hS.2.1 nw hz_nw hk_nw b29 hz_b29 hk_b29) s_X11_112 ⟨rfl, rfl, ⟨Nat.le_of_ble_eq_true rfl, Nat.le_of_ble_eq_true rfl⟩, ⟨Nat.le_of_ble_eq_true rfl, Nat.le_of_ble_eq_true rfl⟩⟩ hz_nw hk_nw (by decide) rfl rfl hl.1 rfl (Nat.le_of_ble_eq_true rfl) dX11_back_34) rfl rfl (fun H locs M43 R44 J42 hS f40 g41 E45 => ?_)
        have eR44 := Fr.nil g41 rfl
        subst eR44
        have p46 := E45
        clear E45
        have q47 : XT K Ma M43 nw b29 := p46
        refine lv_aload_n hx hb dX11_back_37 rfl (lv_at hl 0 rfl) ?_
        refine tw_getrk hx hb hW hown hK hS f_X11_31_10 hz_a0 hk_a0 (b := nw) k_nw dX11_back_38 ?_
        refine tw_geti hx hb hW hown hK hS f_X11_180_9 hz_nw hk_nw (lo := (-2147483648)) (hi := 2147483647) rfl dX11_back_41 (fun x50 k49 h48 => ?_)
        have q52 : 0 ≤ a1.toInt ∧ a1.toInt ≤ 3 := by
          have := (h28).1; have := (h28).2; omega
        have q51 : BXQ K Ma Ra M43 nw im a1 := Or.inr ⟨q52, b29, k30, q47⟩
        exact tw_endi hx hb hr hlocks hK hT hS hQ (⟨h48, q51⟩) dX11_back_44
def Lt_X11_council_vx : WL := [(3, 1, 5), (3, 6, 7), (10, 0, 9), (11, 1, 2), (14, 0, 2000000), (20, 0, 2000000), (21, 0, 2000000)]
def LRt_X11_council_vx : WL := [(3, 0, 1)]
set_option maxRecDepth 100000 in
set_option maxHeartbeats 4000000 in
theorem t_X11_council_vx (l : Launch) (D : va_G) (cy : Nat → ClassId) (tx : (Nat → Nat) × (Nat → Nat)) (base Z : Nat) (K N : Nat → Nat) (Ma : MT) (Ra : RT) (Ja : JT) (hTy : Ty Z K N Ma Ra) (a0 : Nat) (hz_a0 : a0 < Z) (hk_a0 : K a0 = 11) (nw : Nat) (k_nw : Ra a0 3 = some nw) : Met l yX11_council [Cond.code yX11_council cX11_council 3 (some .int)] (md_rm 9 0 0) (va_Pc [.ref (base + a0)] (md_U D cy tx base Z K N Ma Ra Ja)) (mQi D cy tx base (fun r u => TP Z K N Lt_X11_council_vx LRt_X11_council_vx Ma Ra u ∧ (iv (-2147483648) 2147483647 r ∧ XS K Ma u.2.2.2.1))) 0 0 (fun q => base ≤ q) := by
  refine tw_ofW (L := Lt_X11_council_vx) (LR := LRt_X11_council_vx) (by decide) (Nat.le_of_ble_eq_true rfl) hTy ?_
  intro p e s m args below meth c Q ls hx hb hr hlocks hown hml hW hK hT hS hQ hl
  have hl : lv_has ls 3 [(0, .ref (base + a0))] := hl
  obtain ⟨hz_nw, hk_nw, hn_nw⟩ := hTy.refn hz_a0 hk_a0 (show rtR 11 3 = (10, 0, 0) from rfl) k_nw
  refine lv_aload_n hx hb dX11_council_0 rfl (lv_at hl 0 rfl) ?_
  refine tw_getr hx hb hW hown hK hS f_X11_46_10 hz_a0 hk_a0 (t := 3) (n := 0) rfl dX11_council_1 (fun b1 k2 hz_b1 hk_b1 hn_b1 => ?_)
  refine lv_aload_n hx hb dX11_council_4 rfl (lv_at hl 0 rfl) ?_
  refine tw_getr hx hb hW hown hK hS f_X11_9_10 hz_a0 hk_a0 (t := 13) (n := 400) rfl dX11_council_5 (fun b3 k4 hz_b3 hk_b3 hn_b3 => ?_)
  have hn_b3 := hn_b3 (by decide)
  refine lv_aload_n hx hb dX11_council_8 rfl (lv_at hl 0 rfl) ?_
  refine tw_geti hx hb hW hown hK hS f_X11_94_10 hz_a0 hk_a0 (lo := 0) (hi := 400) rfl dX11_council_9 (fun x7 k6 h5 => ?_)
  refine tw_goi hS (md_runV (As := [.ref (base + b3), .int x7]) (rest := []) hx hb hml hown hW hK hT hS.1 (t_X2_read l D cy tx base Z K N Ma Ra Ja hS.2.1 b1 hz_b1 hk_b1 b3 hz_b3 hk_b3 hn_b3 x7 h5) s_X11_102 ⟨rfl, rfl, ⟨Nat.le_of_ble_eq_true rfl, Nat.le_of_ble_eq_true rfl⟩, ⟨Nat.le_of_ble_eq_true rfl, Nat.le_of_ble_eq_true rfl⟩⟩ hz_b1 hk_b1 (by decide) rfl rfl hl.1 rfl (Nat.le_of_ble_eq_true rfl) dX11_council_12) rfl rfl (fun x14 H locs M11 R12 J10 hS f8 g9 E13 => ?_)
  have h_x14 := E13
  clear E13
  refine lv_istore_n (lv' := [(1, .int x14), (0, .ref (base + a0))]) hx hb dX11_council_15 rfl hl (by decide) rfl (fun ls hl => ?_)
  refine lv_iload_n hx hb dX11_council_16 rfl (lv_at hl 0 rfl) ?_
  refine lv_if_eq (tgt := 25) hx hb dX11_council_17 (by decide) (fun c15 => ?_) (fun c15 => ?_)
  · have q16 : x14.toInt = 0 := ti_eq c15
    have h17 : iv 0 0 x14 := ⟨by have := (h_x14).1; have := ((iv_c (c := 0) (n := 0) (by decide))).1; omega, by have := (h_x14).2; have := ((iv_c (c := 0) (n := 0) (by decide))).2; omega⟩
    refine lv_aload_n hx hb dX11_council_25 rfl (lv_at hl 1 rfl) ?_
    have k18 : R12 a0 3 = some nw := (Fr.kp (k := 3) g9 hk_a0 rfl).trans k_nw
    refine tw_getrk hx hb hW hown hK hS f_X11_31_10 hz_a0 hk_a0 (b := nw) k18 dX11_council_26 ?_
    obtain ⟨x21, k19⟩ : ∃ x, M11 nw 6 = x := ⟨_, rfl⟩
    have h20 : iv 0 2147483647 x21 := by rw [← k19]; exact hS.2.1.int hz_nw hk_nw (show rgI 10 6 = (0, 2147483647) from rfl)
    have q22 : x21 = Ma nw 6 := k19.symm.trans (Fr.kp (k := 6) f8 hk_nw rfl)
    refine tw_getk hx hb hW hown hK hS f_X11_106_9 hz_nw hk_nw (v := x21) k19 dX11_council_29 ?_
    refine lv_istore_n (lv' := [(2, .int x21), (1, .int x14), (0, .ref (base + a0))]) hx hb dX11_council_32 rfl hl (by decide) rfl (fun ls hl => ?_)
    refine lv_aload_n hx hb dX11_council_33 rfl (lv_at hl 2 rfl) ?_
    have k23 : R12 a0 3 = some nw := (Fr.kp (k := 3) g9 hk_a0 rfl).trans k_nw
    refine tw_getrk hx hb hW hown hK hS f_X11_31_10 hz_a0 hk_a0 (b := nw) k23 dX11_council_34 ?_
    refine lv_aload_n hx hb dX11_council_37 rfl (lv_at hl 2 rfl) ?_
    have k24 : R12 a0 7 = some b1 := (Fr.kp (k := 7) g9 hk_a0 rfl).trans k2
    refine tw_getrk hx hb hW hown hK hS f_X11_46_10 hz_a0 hk_a0 (b := b1) k24 dX11_council_38 ?_
    refine tw_getr hx hb hW hown hK hS f_X11_109_2 hz_b1 hk_b1 (t := 10) (n := 0) rfl dX11_council_41 (fun b25 k26 hz_b25 hk_b25 hn_b25 => ?_)
    refine tw_gov hS (md_runV (As := [.ref (base + b25)]) (rest := []) hx hb hml hown hW hK hT hS.1 (t_X9_takeFrom_vx l D cy tx base Z K N M11 R12 J10 hS.2.1 nw hz_nw hk_nw b25 hz_b25 hk_b25) s_X11_112 ⟨rfl, rfl, ⟨Nat.le_of_ble_eq_true rfl, Nat.le_of_ble_eq_true rfl⟩, ⟨Nat.le_of_ble_eq_true rfl, Nat.le_of_ble_eq_true rfl⟩⟩ hz_nw hk_nw (by decide) rfl rfl hl.1 rfl (Nat.le_of_ble_eq_true rfl) dX11_council_44) rfl rfl (fun H locs M30 R31 J29 hS f27 g28 E32 => ?_)
    have eR31 := Fr.nil g28 rfl
    subst eR31
    have p33 := E32
    clear E32
    have q34 : XT K M11 M30 nw b25 := p33
    refine lv_aload_n hx hb dX11_council_47 rfl (lv_at hl 2 rfl) ?_
    have k35 : R12 a0 3 = some nw := (Fr.kp (k := 3) g9 hk_a0 rfl).trans k_nw
    refine tw_getrk hx hb hW hown hK hS f_X11_31_10 hz_a0 hk_a0 (b := nw) k35 dX11_council_48 ?_
    refine lv_iload_n hx hb dX11_council_51 rfl (lv_at hl 0 rfl) ?_
    refine tw_putix hx hb hW hown hK hS f_X11_106_9 hz_nw hk_nw rfl rfl (lo := 0) (hi := 2147483647) rfl h20 rfl dX11_council_52 (fun H locs M38 hS k36 f37 e39 => ?_)
    refine lv_aload_n hx hb dX11_council_55 rfl (lv_at hl 2 rfl) ?_
    refine lv_iconst (v := 0) hx hb dX11_council_56 (by decide) ?_
    refine tw_puti hx hb hW hown hK hS f_X11_94_10 hz_a0 hk_a0 rfl rfl (lo := 0) (hi := 400) rfl (iv_mono (iv_c (c := 0) (n := 0) (by decide)) (by decide) (by decide)) rfl dX11_council_57 (fun H locs M42 hS k40 f41 => ?_)
    refine lv_aload_n hx hb dX11_council_60 rfl (lv_at hl 2 rfl) ?_
    have k43 : R12 a0 3 = some nw := (Fr.kp (k := 3) g9 hk_a0 rfl).trans k_nw
    refine tw_getrk hx hb hW hown hK hS f_X11_31_10 hz_a0 hk_a0 (b := nw) k43 dX11_council_61 ?_
    refine tw_geti hx hb hW hown hK hS f_X11_116_9 hz_nw hk_nw (lo := (-2147483648)) (hi := 10) rfl dX11_council_64 (fun x46 k45 h44 => ?_)
    have q47 : XS K Ma M42 := fun q hq => (Fr.kp (k := 6) f41 hq rfl).trans (by rw [e39]; by_cases e : q = nw; (· rw [e, u2_same]; exact q22); (· rw [u2_ne e, q34.2 q hq e]; exact (Fr.kp (k := 6) f8 hq rfl)))
    exact tw_endi hx hb hr hlocks hK hT hS hQ (⟨(iv_mono h44 (by decide) (by decide)), q47⟩) dX11_council_67
  · have q48 : ¬ x14.toInt = 0 := ti_ne c15
    refine lv_bipush (v := (-2)) hx hb dX11_council_20 (by decide) ?_
    refine lv_iload_n hx hb dX11_council_22 rfl (lv_at hl 0 rfl) ?_
    refine lv_isub hx hb dX11_council_23 ?_
    refine tw_top (fun x50 => ?_)
    have h49 := iv_any x50
    have q51 : XS K Ma M11 := fun q hq => (Fr.kp (k := 6) f8 hq rfl)
    exact tw_endi hx hb hr hlocks hK hT hS hQ (⟨h49, q51⟩) dX11_council_24
def Lt_X11_image : WL := [(10, 0, 9), (14, 0, 2000000), (20, 0, 2000000), (21, 0, 2000000)]
def LRt_X11_image : WL := [(18, 0, 2000000)]
set_option maxRecDepth 100000 in
set_option maxHeartbeats 4000000 in
theorem t_X11_image (l : Launch) (D : va_G) (cy : Nat → ClassId) (tx : (Nat → Nat) × (Nat → Nat)) (base Z0 : Nat) (K0 N0 : Nat → Nat) (Ma0 : MT) (Ra0 : RT) (Ja : JT) (hTy : Ty Z0 K0 N0 Ma0 Ra0) (a0 : Nat) (hz_a0 : a0 < Z0) (hk_a0 : K0 a0 = 11) (a1 : Int32) (h_a1 : iv (-2147483648) 2147483647 a1) (nw : Nat) (k_nw : Ra0 a0 3 = some nw) (im : Nat) (k_im : Ra0 a0 4 = some im) : Met l yX11_image [Cond.code yX11_image cX11_image 2 (some .int)] (md_rm 3 8 232) (va_Pc [.ref (base + a0), .int a1] (md_U D cy tx base Z0 K0 N0 Ma0 Ra0 Ja)) (mQi D cy tx base (fun r u => TM Z0 K0 N0 Lt_X11_image LRt_X11_image Ma0 Ra0 u ∧ (iv (-2147483648) 2147483647 r ∧ IMQ Z0 K0 N0 Ma0 Ra0 nw im a1 u))) 8 232 (fun q => base ≤ q) := by
  refine tw_ofW (L := Lt_X11_image) (LR := LRt_X11_image) (by decide) (Nat.le_of_ble_eq_true rfl) hTy ?_
  intro p e s m args below meth c Q ls hx hb hr hlocks hown hml hW hK hT hS hQ hl
  have hl : lv_has ls 2 [(0, .ref (base + a0)), (1, .int a1)] := hl
  have hs0 : s.heap.size = base + Z0 := hS.1.2.1
  obtain ⟨Z, K, N, Ma, Ra, hE0, hGR, hTy, hS, hz_a0, hk_a0, k_nw, k_im⟩ : ∃ (Z : Nat) (K N : Nat → Nat) (Ma : MT) (Ra : RT), (Z = Z0 ∧ K = K0 ∧ N = N0 ∧ Ma = Ma0 ∧ Ra = Ra0) ∧ GR Z0 K0 N0 Ma0 Ra0 Z K N Ma Ra ∧ Ty Z K N Ma Ra ∧ SB D cy base Z K N Lt_X11_image LRt_X11_image Ma Ra Ma Ra Ja s s.heap [] ∧ (a0 < Z) ∧ (K a0 = 11) ∧ (Ra a0 3 = some nw) ∧ (Ra a0 4 = some im) := ⟨Z0, K0, N0, Ma0, Ra0, ⟨rfl, rfl, rfl, rfl, rfl⟩, GR.rf, hTy, hS, hz_a0, hk_a0, k_nw, k_im⟩
  obtain ⟨hz_nw, hk_nw, hn_nw⟩ := hTy.refn hz_a0 hk_a0 (show rtR 11 3 = (10, 0, 0) from rfl) k_nw
  obtain ⟨hz_im, hk_im, hn_im⟩ := hTy.refn hz_a0 hk_a0 (show rtR 11 4 = (18, 4, 0) from rfl) k_im
  have hn_im := hn_im (by decide)
  refine lv_iload_n hx hb dX11_image_0 rfl (lv_at hl 1 rfl) ?_
  refine lv_if_lt (tgt := 9) hx hb dX11_image_1 (by decide) (fun c1 => ?_) (fun c1 => ?_)
  · have q2 : a1.toInt < 0 := ti_lt c1
    have h3 : iv (-2147483648) (-1) a1 := iv_ltL (y := 0) h_a1 (iv_c (c := 0) (n := 0) (by decide)) q2 (by decide)
    refine lv_aload_n hx hb dX11_image_9 rfl (lv_at hl 0 rfl) ?_
    refine lv_iconst (v := 0) hx hb dX11_image_10 (by decide) ?_
    refine tw_goi hS (md_runV (As := [.int 0]) (rest := []) hx hb hml hown hW hK hT hS.1 (t_X11_refuse l D cy tx base Z K N Ma Ra Ja hS.2.1 a0 hz_a0 hk_a0 0 (iv_mono (iv_c (c := 0) (n := 0) (by decide)) (by decide) (by decide))) s_X11_158 ⟨rfl, rfl, ⟨Nat.le_of_ble_eq_true rfl, Nat.le_of_ble_eq_true rfl⟩, ⟨Nat.le_of_ble_eq_true rfl, Nat.le_of_ble_eq_true rfl⟩⟩ hz_a0 hk_a0 (by decide) rfl rfl hl.1 rfl (Nat.le_of_ble_eq_true rfl) dX11_image_11) rfl rfl (fun x10 H locs M7 R8 J6 hS f4 g5 E9 => ?_)
    have eR8 := Fr.nil g5 rfl
    subst eR8
    have h_x10 := E9
    clear E9
    have q11 : a1.toInt < 0 ∨ 3 < a1.toInt := by
      have := (h3).1; have := (h3).2; omega
    exact tw_emi hx hb hr hlocks hK hT hS hGR hQ ⟨Nat.le_of_ble_eq_true rfl, Nat.le_of_ble_eq_true rfl⟩ (⟨(iv_mono h_x10 (by decide) (by decide)), (IMQ.ref hE0 q11 (fun q hq => (Fr.kp (k := 6) f4 hq rfl)))⟩) dX11_image_14
  · have q12 : 0 ≤ a1.toInt := ti_nlt c1
    have h13 : iv 0 2147483647 a1 := iv_geL (y := 0) h_a1 (iv_c (c := 0) (n := 0) (by decide)) q12 (by decide)
    refine lv_iload_n hx hb dX11_image_4 rfl (lv_at hl 1 rfl) ?_
    refine lv_iconst (v := 4) hx hb dX11_image_5 (by decide) ?_
    refine lv_icmp_lt (tgt := 15) hx hb dX11_image_6 (by decide) (fun c14 => ?_) (fun c14 => ?_)
    · have q15 : a1.toInt < 4 := ti_lt c14
      have h16 : iv 0 3 a1 := iv_ltL (y := 4) h13 (iv_c (c := 4) (n := 4) (by decide)) q15 (by decide)
      refine lv_aload_n hx hb dX11_image_15 rfl (lv_at hl 0 rfl) ?_
      refine tw_getrk hx hb hW hown hK hS f_X11_19_10 hz_a0 hk_a0 (b := im) k_im dX11_image_16 ?_
      refine lv_iload_n hx hb dX11_image_19 rfl (lv_at hl 1 rfl) ?_
      refine tw_aald hx hb hK hS hz_im hk_im ⟨by decide, by decide⟩ hn_im h16 ⟨by decide, by decide⟩ (t2 := 10) (n2 := 0) (o := 1) (fun _ => rfl) dX11_image_20 (fun k19 => ?_) (fun b17 k18 hz_b17 hk_b17 hn_b17 => ?_)
      · refine lv_ifnonnullN hx hb dX11_image_21 ?_
        refine lv_aload_n hx hb dX11_image_24 rfl (lv_at hl 0 rfl) ?_
        refine tw_getrk hx hb hW hown hK hS f_X11_19_10 hz_a0 hk_a0 (b := im) k_im dX11_image_25 ?_
        refine lv_iload_n hx hb dX11_image_28 rfl (lv_at hl 1 rfl) ?_
        obtain ⟨b20, eb20⟩ : ∃ q, q = Z := ⟨_, rfl⟩
        refine tw_newS (zq := b20) eb20 hx hb hml hW hown hK hT hS hl.1 (Nat.le_of_ble_eq_true rfl) dX11_image_29 dX11_image_32 dX11_image_33 ⟨Nat.le_of_ble_eq_true rfl, Nat.le_of_ble_eq_true rfl⟩ ⟨Nat.le_of_ble_eq_true rfl, Nat.le_of_ble_eq_true rfl⟩ (fun H locs Z K N Ma Ra M21 R22 J23 eZ_b20 hz_b20 hk_b20 e26 o25 hS g24 => ?_)
        have k27 : R22 a0 3 = some nw := (congrFun (o25 a0 hz_a0).2 _).trans k_nw
        have k28 : R22 a0 4 = some im := (congrFun (o25 a0 hz_a0).2 _).trans k_im
        have k_nw : Ra a0 3 = some nw := GR.r g24 hz_a0 k_nw
        have k_im : Ra a0 4 = some im := GR.r g24 hz_a0 k_im
        have hzo_a0 := hz_a0
        have hko_a0 := hk_a0
        have hk_a0 : K a0 = 11 := GR.k g24 hz_a0 hk_a0
        have hzo_nw := hz_nw
        have hko_nw := hk_nw
        have hk_nw : K nw = 10 := GR.k g24 hz_nw hk_nw
        have hzo_im := hz_im
        have hko_im := hk_im
        have hk_im : K im = 18 := GR.k g24 hz_im hk_im
        have hn_im : N im = 4 := GR.n g24 hz_im hn_im
        have hz_a0 : a0 < Z := GR.z g24 hz_a0
        have hz_nw : nw < Z := GR.z g24 hz_nw
        have hz_im : im < Z := GR.z g24 hz_im
        have hGR := GR.tr hGR g24
        have f29 := hS.2.2.1
        have g30 := hS.2.2.2
        refine tw_aast hx hb hK hS hz_im hk_im hz_b20 hk_b20 (Or.inr ⟨rfl, rfl⟩) hn_im h16 ⟨by decide, by decide⟩ rfl dX11_image_36 (fun H locs R34 hS k31 f32 e33 => ?_)
        refine lv_aload_n hx hb dX11_image_37 rfl (lv_at hl 0 rfl) ?_
        have k35 : R34 a0 4 = some im := (Fr.kp (k := 4) f32 hk_a0 rfl).trans k28
        refine tw_getrk hx hb hW hown hK hS f_X11_19_10 hz_a0 hk_a0 (b := im) k35 dX11_image_38 ?_
        refine lv_iload_n hx hb dX11_image_41 rfl (lv_at hl 1 rfl) ?_
        refine tw_aalk hx hb hK hS hz_im hk_im ⟨by decide, by decide⟩ hn_im h16 ⟨by decide, by decide⟩ (b := b20) k31 dX11_image_42 ?_
        refine lv_aload_n hx hb dX11_image_43 rfl (lv_at hl 0 rfl) ?_
        have k36 : R34 a0 3 = some nw := (Fr.kp (k := 3) f32 hk_a0 rfl).trans k27
        refine tw_getrk hx hb hW hown hK hS f_X11_31_10 hz_a0 hk_a0 (b := nw) k36 dX11_image_44 ?_
        refine tw_gov hS (md_runV (As := [.ref (base + nw)]) (rest := []) hx hb hml hown hW hK hT hS.1 (t_X9_takeFrom_vx l D cy tx base Z K N M21 R34 J23 hS.2.1 b20 hz_b20 hk_b20 nw hz_nw hk_nw) s_X11_112 ⟨rfl, rfl, ⟨Nat.le_of_ble_eq_true rfl, Nat.le_of_ble_eq_true rfl⟩, ⟨Nat.le_of_ble_eq_true rfl, Nat.le_of_ble_eq_true rfl⟩⟩ hz_b20 hk_b20 (by decide) rfl rfl hl.1 rfl (Nat.le_of_ble_eq_true rfl) dX11_image_47) rfl rfl (fun H locs M40 R41 J39 hS f37 g38 E42 => ?_)
        have eR41 := Fr.nil g38 rfl
        subst eR41
        have p43 := E42
        clear E42
        have q44 : XT K M21 M40 b20 nw := p43
        refine lv_aload_n hx hb dX11_image_50 rfl (lv_at hl 0 rfl) ?_
        refine tw_getrk hx hb hW hown hK hS f_X11_31_10 hz_a0 hk_a0 (b := nw) k36 dX11_image_51 ?_
        refine tw_geti hx hb hW hown hK hS f_X11_180_9 hz_nw hk_nw (lo := (-2147483648)) (hi := 2147483647) rfl dX11_image_54 (fun x47 k46 h45 => ?_)
        have q48 : 0 ≤ a1.toInt ∧ a1.toInt ≤ 3 := by
          have := (h16).1; have := (h16).2; omega
        exact tw_emi hx hb hr hlocks hK hT hS hGR hQ ⟨Nat.le_of_ble_eq_true rfl, Nat.le_of_ble_eq_true rfl⟩ (⟨h45, (IMQ.made hE0 q48 eb20 eZ_b20 e26 g24 o25 k19 e33 q44 hzo_nw hzo_im)⟩) dX11_image_57
      · refine lv_ifnonnull (tgt := 37) hx hb dX11_image_21 (by decide) ?_
        refine lv_aload_n hx hb dX11_image_37 rfl (lv_at hl 0 rfl) ?_
        refine tw_getrk hx hb hW hown hK hS f_X11_19_10 hz_a0 hk_a0 (b := im) k_im dX11_image_38 ?_
        refine lv_iload_n hx hb dX11_image_41 rfl (lv_at hl 1 rfl) ?_
        refine tw_aalk hx hb hK hS hz_im hk_im ⟨by decide, by decide⟩ hn_im h16 ⟨by decide, by decide⟩ (b := b17) k18 dX11_image_42 ?_
        refine lv_aload_n hx hb dX11_image_43 rfl (lv_at hl 0 rfl) ?_
        refine tw_getrk hx hb hW hown hK hS f_X11_31_10 hz_a0 hk_a0 (b := nw) k_nw dX11_image_44 ?_
        refine tw_gov hS (md_runV (As := [.ref (base + nw)]) (rest := []) hx hb hml hown hW hK hT hS.1 (t_X9_takeFrom_vx l D cy tx base Z K N Ma Ra Ja hS.2.1 b17 hz_b17 hk_b17 nw hz_nw hk_nw) s_X11_112 ⟨rfl, rfl, ⟨Nat.le_of_ble_eq_true rfl, Nat.le_of_ble_eq_true rfl⟩, ⟨Nat.le_of_ble_eq_true rfl, Nat.le_of_ble_eq_true rfl⟩⟩ hz_b17 hk_b17 (by decide) rfl rfl hl.1 rfl (Nat.le_of_ble_eq_true rfl) dX11_image_47) rfl rfl (fun H locs M52 R53 J51 hS f49 g50 E54 => ?_)
        have eR53 := Fr.nil g50 rfl
        subst eR53
        have p55 := E54
        clear E54
        have q56 : XT K Ma M52 b17 nw := p55
        refine lv_aload_n hx hb dX11_image_50 rfl (lv_at hl 0 rfl) ?_
        refine tw_getrk hx hb hW hown hK hS f_X11_31_10 hz_a0 hk_a0 (b := nw) k_nw dX11_image_51 ?_
        refine tw_geti hx hb hW hown hK hS f_X11_180_9 hz_nw hk_nw (lo := (-2147483648)) (hi := 2147483647) rfl dX11_image_54 (fun x59 k58 h57 => ?_)
        have q60 : 0 ≤ a1.toInt ∧ a1.toInt ≤ 3 := by
          have := (h16).1; have := (h16).2; omega
        exact tw_emi hx hb hr hlocks hK hT hS hGR hQ ⟨Nat.le_of_ble_eq_true rfl, Nat.le_of_ble_eq_true rfl⟩ (⟨h57, (IMQ.old hE0 q60 k18 q56)⟩) dX11_image_57
    · have q61 : 4 ≤ a1.toInt := ti_nlt c14
      have h62 : iv 4 2147483647 a1 := iv_geL (y := 4) h13 (iv_c (c := 4) (n := 4) (by decide)) q61 (by decide)
      refine lv_aload_n hx hb dX11_image_9 rfl (lv_at hl 0 rfl) ?_
      refine lv_iconst (v := 0) hx hb dX11_image_10 (by decide) ?_
      refine tw_goi hS (md_runV (As := [.int 0]) (rest := []) hx hb hml hown hW hK hT hS.1 (t_X11_refuse l D cy tx base Z K N Ma Ra Ja hS.2.1 a0 hz_a0 hk_a0 0 (iv_mono (iv_c (c := 0) (n := 0) (by decide)) (by decide) (by decide))) s_X11_158 ⟨rfl, rfl, ⟨Nat.le_of_ble_eq_true rfl, Nat.le_of_ble_eq_true rfl⟩, ⟨Nat.le_of_ble_eq_true rfl, Nat.le_of_ble_eq_true rfl⟩⟩ hz_a0 hk_a0 (by decide) rfl rfl hl.1 rfl (Nat.le_of_ble_eq_true rfl) dX11_image_11) rfl rfl (fun x69 H locs M66 R67 J65 hS f63 g64 E68 => ?_)
      have eR67 := Fr.nil g64 rfl
      subst eR67
      have h_x69 := E68
      clear E68
      have q70 : a1.toInt < 0 ∨ 3 < a1.toInt := by
        have := (h62).1; have := (h62).2; omega
      exact tw_emi hx hb hr hlocks hK hT hS hGR hQ ⟨Nat.le_of_ble_eq_true rfl, Nat.le_of_ble_eq_true rfl⟩ (⟨(iv_mono h_x69 (by decide) (by decide)), (IMQ.ref hE0 q70 (fun q hq => (Fr.kp (k := 6) f63 hq rfl)))⟩) dX11_image_14
def Lt_X11_rule : WL := [(9, 1, 5), (9, 6, 8), (11, 1, 2), (11, 6, 7), (14, 0, 2000000)]
def LRt_X11_rule : WL := [(9, 0, 1), (17, 0, 2000000)]
set_option maxRecDepth 100000 in
set_option maxHeartbeats 4000000 in
theorem t_X11_rule (l : Launch) (D : va_G) (cy : Nat → ClassId) (tx : (Nat → Nat) × (Nat → Nat)) (base Z0 : Nat) (K0 N0 : Nat → Nat) (Ma0 : MT) (Ra0 : RT) (Ja : JT) (hTy : Ty Z0 K0 N0 Ma0 Ra0) (a0 : Nat) (hz_a0 : a0 < Z0) (hk_a0 : K0 a0 = 11) (to : Int32) (k_to : Ma0 a0 6 = to) (h_to : iv 0 6 to) : Met l yX11_rule [Cond.code yX11_rule cX11_rule 2 (some .int)] (md_rm 34 3 410) (va_Pc [.ref (base + a0)] (md_U D cy tx base Z0 K0 N0 Ma0 Ra0 Ja)) (mQi D cy tx base (fun r u => TM Z0 K0 N0 Lt_X11_rule LRt_X11_rule Ma0 Ra0 u ∧ (iv (-2147483648) 2147483647 r ∧ RUQ Z0 K0 N0 Ma0 a0 u))) 3 410 (fun q => base ≤ q) := by
  refine tw_ofW (L := Lt_X11_rule) (LR := LRt_X11_rule) (by decide) (Nat.le_of_ble_eq_true rfl) hTy ?_
  intro p e s m args below meth c Q ls hx hb hr hlocks hown hml hW hK hT hS hQ hl
  have hl : lv_has ls 2 [(0, .ref (base + a0))] := hl
  have hs0 : s.heap.size = base + Z0 := hS.1.2.1
  obtain ⟨Z, K, N, Ma, Ra, hE0, hGR, hTy, hS, hz_a0, hk_a0, k_to⟩ : ∃ (Z : Nat) (K N : Nat → Nat) (Ma : MT) (Ra : RT), (Z = Z0 ∧ K = K0 ∧ N = N0 ∧ Ma = Ma0 ∧ Ra = Ra0) ∧ GR Z0 K0 N0 Ma0 Ra0 Z K N Ma Ra ∧ Ty Z K N Ma Ra ∧ SB D cy base Z K N Lt_X11_rule LRt_X11_rule Ma Ra Ma Ra Ja s s.heap [] ∧ (a0 < Z) ∧ (K a0 = 11) ∧ (Ma a0 6 = to) := ⟨Z0, K0, N0, Ma0, Ra0, ⟨rfl, rfl, rfl, rfl, rfl⟩, GR.rf, hTy, hS, hz_a0, hk_a0, k_to⟩
  refine lv_aload_n hx hb dX11_rule_0 rfl (lv_at hl 0 rfl) ?_
  refine tw_getk hx hb hW hown hK hS f_X11_119_10 hz_a0 hk_a0 (v := to) k_to dX11_rule_1 ?_
  refine lv_bipush (v := 6) hx hb dX11_rule_4 (by decide) ?_
  refine lv_icmp_lt (tgt := 11) hx hb dX11_rule_6 (by decide) (fun c1 => ?_) (fun c1 => ?_)
  · have q2 : to.toInt < 6 := ti_lt c1
    have h3 : iv 0 5 to := iv_ltL (y := 6) h_to (iv_c (c := 6) (n := 6) (by decide)) q2 (by decide)
    refine lv_aload_n hx hb dX11_rule_11 rfl (lv_at hl 0 rfl) ?_
    refine tw_getr hx hb hW hown hK hS f_X11_53_10 hz_a0 hk_a0 (t := 9) (n := 0) rfl dX11_rule_12 (fun b4 k5 hz_b4 hk_b4 hn_b4 => ?_)
    refine lv_aload_n hx hb dX11_rule_15 rfl (lv_at hl 0 rfl) ?_
    refine tw_getr hx hb hW hown hK hS f_X11_9_10 hz_a0 hk_a0 (t := 13) (n := 400) rfl dX11_rule_16 (fun b6 k7 hz_b6 hk_b6 hn_b6 => ?_)
    have hn_b6 := hn_b6 (by decide)
    refine lv_aload_n hx hb dX11_rule_19 rfl (lv_at hl 0 rfl) ?_
    refine tw_geti hx hb hW hown hK hS f_X11_94_10 hz_a0 hk_a0 (lo := 0) (hi := 400) rfl dX11_rule_20 (fun x10 k9 h8 => ?_)
    refine tw_goi hS (md_runV (As := [.ref (base + b6), .int x10]) (rest := []) hx hb hml hown hW hK hT hS.1 (t_X8_read l D cy tx base Z K N Ma Ra Ja hS.2.1 b4 hz_b4 hk_b4 b6 hz_b6 hk_b6 hn_b6 x10 h8) s_X11_122 ⟨rfl, rfl, ⟨Nat.le_of_ble_eq_true rfl, Nat.le_of_ble_eq_true rfl⟩, ⟨Nat.le_of_ble_eq_true rfl, Nat.le_of_ble_eq_true rfl⟩⟩ hz_b4 hk_b4 (by decide) rfl rfl hl.1 rfl (Nat.le_of_ble_eq_true rfl) dX11_rule_23) rfl rfl (fun x17 H locs M14 R15 J13 hS f11 g12 E16 => ?_)
    have h_x17 := E16
    clear E16
    refine lv_istore_n (lv' := [(1, .int x17), (0, .ref (base + a0))]) hx hb dX11_rule_26 rfl hl (by decide) rfl (fun ls hl => ?_)
    refine lv_aload_n hx hb dX11_rule_27 rfl (lv_at hl 1 rfl) ?_
    refine lv_iconst (v := 0) hx hb dX11_rule_28 (by decide) ?_
    refine tw_puti hx hb hW hown hK hS f_X11_94_10 hz_a0 hk_a0 rfl rfl (lo := 0) (hi := 400) rfl (iv_mono (iv_c (c := 0) (n := 0) (by decide)) (by decide) (by decide)) rfl dX11_rule_29 (fun H locs M20 hS k18 f19 => ?_)
    refine lv_iload_n hx hb dX11_rule_32 rfl (lv_at hl 0 rfl) ?_
    refine lv_if_eq (tgt := 41) hx hb dX11_rule_33 (by decide) (fun c21 => ?_) (fun c21 => ?_)
    · have q22 : x17.toInt = 0 := ti_eq c21
      have h23 : iv 0 0 x17 := ⟨by have := (h_x17).1; have := ((iv_c (c := 0) (n := 0) (by decide))).1; omega, by have := (h_x17).2; have := ((iv_c (c := 0) (n := 0) (by decide))).2; omega⟩
      refine lv_aload_n hx hb dX11_rule_41 rfl (lv_at hl 1 rfl) ?_
      refine tw_getr hx hb hW hown hK hS f_X11_35_10 hz_a0 hk_a0 (t := 17) (n := 6) rfl dX11_rule_42 (fun b24 k25 hz_b24 hk_b24 hn_b24 => ?_)
      have hn_b24 := hn_b24 (by decide)
      refine lv_aload_n hx hb dX11_rule_45 rfl (lv_at hl 1 rfl) ?_
      have k26 : M20 a0 6 = to := ((Fr.kp (k := 6) f19 hk_a0 rfl).trans (Fr.kp (k := 6) f11 hk_a0 rfl)).trans k_to
      refine tw_getk hx hb hW hown hK hS f_X11_119_10 hz_a0 hk_a0 (v := to) k26 dX11_rule_46 ?_
      have k27 : R15 a0 8 = some b4 := (Fr.kp (k := 8) g12 hk_a0 rfl).trans k5
      obtain ⟨b28, k29, hz_b28, hk_b28, hn_b28⟩ := hS.2.1.ref hz_b4 hk_b4 (show rtR 9 5 = (14, 400, 0) from rfl)
      have hn_b28 := hn_b28 (by decide)
      obtain ⟨x32, k30⟩ : ∃ x, M20 b4 6 = x := ⟨_, rfl⟩
      have h31 : iv 0 400 x32 := by rw [← k30]; exact hS.2.1.int hz_b4 hk_b4 (show rgI 9 6 = (0, 400) from rfl)
      have k33 : R15 a0 8 = some b4 := (Fr.kp (k := 8) g12 hk_a0 rfl).trans k5
      have k34 : M20 a0 6 = to := ((Fr.kp (k := 6) f19 hk_a0 rfl).trans (Fr.kp (k := 6) f11 hk_a0 rfl)).trans k_to
      have hto := k_to
      have k42 : M20 a0 6 = to := ((Fr.kp (k := 6) f19 hk_a0 rfl).trans (Fr.kp (k := 6) f11 hk_a0 rfl)).trans k_to
      have k43 : R15 a0 8 = some b4 := (Fr.kp (k := 8) g12 hk_a0 rfl).trans k5
      have k44 : R15 a0 0 = some b6 := (Fr.kp (k := 0) g12 hk_a0 rfl).trans k7
      obtain ⟨b35, eb35⟩ : ∃ q, q = Z := ⟨_, rfl⟩
      refine tw_newR (zq := b35) eb35 hx hb hml hW hown hK hT hS (lv_sub hl [1] rfl) hz_a0 hk_a0 hz_b4 hk_b4 k33 k29 hz_b28 hk_b28 hn_b28 k30 h31 (Nat.le_of_ble_eq_true rfl) ⟨Nat.le_of_ble_eq_true rfl, Nat.le_of_ble_eq_true rfl⟩ ⟨Nat.le_of_ble_eq_true rfl, Nat.le_of_ble_eq_true rfl⟩ (fun H locs Z K N Ma Ra M36 R37 J38 eZ_b35 hz_b35 hk_b35 e41 o40 hS g39 => ?_)
      have k45 : M36 a0 6 = to := (congrFun (o40 a0 hz_a0).1 _).trans k42
      have k46 : M36 a0 1 = 0 := (congrFun (o40 a0 hz_a0).1 _).trans k18
      have k47 : M36 b4 6 = x32 := (congrFun (o40 b4 hz_b4).1 _).trans k30
      have k48 : R37 a0 8 = some b4 := (congrFun (o40 a0 hz_a0).2 _).trans k43
      have k49 : R37 a0 0 = some b6 := (congrFun (o40 a0 hz_a0).2 _).trans k44
      have k50 : R37 a0 5 = some b24 := (congrFun (o40 a0 hz_a0).2 _).trans k25
      have k51 : R37 b4 5 = some b28 := (congrFun (o40 b4 hz_b4).2 _).trans k29
      have k_to : Ma a0 6 = to := GR.m g39 hz_a0 k_to
      have hzo_a0 := hz_a0
      have hko_a0 := hk_a0
      have hk_a0 : K a0 = 11 := GR.k g39 hz_a0 hk_a0
      have hzo_b4 := hz_b4
      have hko_b4 := hk_b4
      have hk_b4 : K b4 = 9 := GR.k g39 hz_b4 hk_b4
      have hzo_b6 := hz_b6
      have hko_b6 := hk_b6
      have hk_b6 : K b6 = 13 := GR.k g39 hz_b6 hk_b6
      have hn_b6 : N b6 = 400 := GR.n g39 hz_b6 hn_b6
      have hzo_b24 := hz_b24
      have hko_b24 := hk_b24
      have hk_b24 : K b24 = 17 := GR.k g39 hz_b24 hk_b24
      have hn_b24 : N b24 = 6 := GR.n g39 hz_b24 hn_b24
      have hzo_b28 := hz_b28
      have hko_b28 := hk_b28
      have hk_b28 : K b28 = 14 := GR.k g39 hz_b28 hk_b28
      have hn_b28 : N b28 = 400 := GR.n g39 hz_b28 hn_b28
      have hz_a0 : a0 < Z := GR.z g39 hz_a0
      have hz_b4 : b4 < Z := GR.z g39 hz_b4
      have hz_b6 : b6 < Z := GR.z g39 hz_b6
      have hz_b24 : b24 < Z := GR.z g39 hz_b24
      have hz_b28 : b28 < Z := GR.z g39 hz_b28
      have hGR := GR.tr hGR g39
      have f52 := hS.2.2.1
      have g53 := hS.2.2.2
      refine tw_aast hx hb hK hS hz_b24 hk_b24 hz_b35 hk_b35 (Or.inl ⟨rfl, rfl⟩) hn_b24 h3 ⟨by decide, by decide⟩ rfl dX11_rule_70 (fun H locs R57 hS k54 f55 e56 => ?_)
      refine lv_aload_n hx hb dX11_rule_71 rfl (lv_at hl 1 rfl) ?_
      refine lv_dup hx hb dX11_rule_72 rfl ?_
      refine tw_getk hx hb hW hown hK hS f_X11_119_10 hz_a0 hk_a0 (v := to) k45 dX11_rule_73 ?_
      refine lv_iconst (v := 1) hx hb dX11_rule_76 (by decide) ?_
      refine tw_iadd (lo := 1) (hi := 6) hx hb h3 (iv_c (c := 1) (n := 1) (by decide)) ⟨by decide, by decide⟩ ⟨by decide, by decide⟩ dX11_rule_77 (fun x60 e59 h58 => ?_)
      have e59 : x60.toInt = to.toInt + 1 := e59
      refine tw_puti hx hb hW hown hK hS f_X11_119_10 hz_a0 hk_a0 rfl rfl (lo := 0) (hi := 6) rfl (iv_mono h58 (by decide) (by decide)) rfl dX11_rule_78 (fun H locs M63 hS k61 f62 => ?_)
      refine lv_aload_n hx hb dX11_rule_81 rfl (lv_at hl 1 rfl) ?_
      refine tw_getk hx hb hW hown hK hS f_X11_119_10 hz_a0 hk_a0 (v := x60) k61 dX11_rule_82 ?_
      refine lv_iconst (v := 1) hx hb dX11_rule_85 (by decide) ?_
      refine tw_isub (lo := 0) (hi := 5) hx hb h58 (iv_c (c := 1) (n := 1) (by decide)) ⟨by decide, by decide⟩ ⟨by decide, by decide⟩ dX11_rule_86 (fun x66 e65 h64 => ?_)
      have e65 : x66.toInt = x60.toInt - 1 := e65
      have q67 : x60.toInt = to.toInt + 1 := by
        have := (h3).1; have := (h3).2; have := (h58).1; have := (h58).2; have := (h64).1; have := (h64).2; omega
      exact tw_emi hx hb hr hlocks hK hT hS hGR hQ ⟨Nat.le_of_ble_eq_true rfl, Nat.le_of_ble_eq_true rfl⟩ (⟨(iv_mono h64 (by decide) (by decide)), (RUQ.made hE0 eb35 eZ_b35 e41 hto k61 q67)⟩) dX11_rule_87
    · have q68 : ¬ x17.toInt = 0 := ti_ne c21
      refine lv_bipush (v := (-2)) hx hb dX11_rule_36 (by decide) ?_
      refine lv_iload_n hx hb dX11_rule_38 rfl (lv_at hl 0 rfl) ?_
      refine lv_isub hx hb dX11_rule_39 ?_
      refine tw_top (fun x70 => ?_)
      have h69 := iv_any x70
      exact tw_emi hx hb hr hlocks hK hT hS hGR hQ ⟨Nat.le_of_ble_eq_true rfl, Nat.le_of_ble_eq_true rfl⟩ (⟨h69, (RUQ.same hE0 ((Fr.kp (k := 6) f19 hk_a0 rfl).trans (Fr.kp (k := 6) f11 hk_a0 rfl)))⟩) dX11_rule_40
  · have q71 : 6 ≤ to.toInt := ti_nlt c1
    have h72 : iv 6 6 to := iv_geL (y := 6) h_to (iv_c (c := 6) (n := 6) (by decide)) q71 (by decide)
    refine lv_iconst (v := (-1)) hx hb dX11_rule_9 (by decide) ?_
    exact tw_emi hx hb hr hlocks hK hT hS hGR hQ ⟨Nat.le_of_ble_eq_true rfl, Nat.le_of_ble_eq_true rfl⟩ (⟨(iv_mono (iv_c (c := (-1)) (n := (-1)) (by decide)) (by decide) (by decide)), (RUQ.same hE0 rfl)⟩) dX11_rule_10
def Lt_X11_seed_vx : WL := [(10, 6, 7), (14, 0, 2000000)]
def LRt_X11_seed_vx : WL := []
set_option maxRecDepth 100000 in
set_option maxHeartbeats 4000000 in
theorem t_X11_seed_vx (l : Launch) (D : va_G) (cy : Nat → ClassId) (tx : (Nat → Nat) × (Nat → Nat)) (base Z : Nat) (K N : Nat → Nat) (Ma : MT) (Ra : RT) (Ja : JT) (hTy : Ty Z K N Ma Ra) (a0 : Nat) (hz_a0 : a0 < Z) (hk_a0 : K a0 = 11) (a1 : Int32) (h_a1 : iv (-2147483648) 2147483647 a1) (nw : Nat) (k_nw : Ra a0 3 = some nw) : Met l yX11_seed [Cond.code yX11_seed cX11_seed 3 (some .int)] (md_rm 2 0 0) (va_Pc [.ref (base + a0), .int a1] (md_U D cy tx base Z K N Ma Ra Ja)) (mQi D cy tx base (fun r u => TP Z K N Lt_X11_seed_vx LRt_X11_seed_vx Ma Ra u ∧ (iv (-2) 2147483647 r ∧ SDQ K Ma u.2.2.2.1 nw a1 r))) 0 0 (fun q => base ≤ q) := by
  refine tw_ofW (L := Lt_X11_seed_vx) (LR := LRt_X11_seed_vx) (by decide) (Nat.le_of_ble_eq_true rfl) hTy ?_
  intro p e s m args below meth c Q ls hx hb hr hlocks hown hml hW hK hT hS hQ hl
  have hl : lv_has ls 3 [(0, .ref (base + a0)), (1, .int a1)] := hl
  obtain ⟨hz_nw, hk_nw, hn_nw⟩ := hTy.refn hz_a0 hk_a0 (show rtR 11 3 = (10, 0, 0) from rfl) k_nw
  refine lv_iload_n hx hb dX11_seed_0 rfl (lv_at hl 1 rfl) ?_
  refine lv_if_ge (tgt := 10) hx hb dX11_seed_1 (by decide) (fun c1 => ?_) (fun c1 => ?_)
  · have q2 : 0 ≤ a1.toInt := ti_le c1
    have h3 : iv 0 2147483647 a1 := iv_geL (y := 0) h_a1 (iv_c (c := 0) (n := 0) (by decide)) q2 (by decide)
    refine lv_aload_n hx hb dX11_seed_10 rfl (lv_at hl 0 rfl) ?_
    refine tw_getrk hx hb hW hown hK hS f_X11_31_10 hz_a0 hk_a0 (b := nw) k_nw dX11_seed_11 ?_
    refine tw_geti hx hb hW hown hK hS f_X11_106_9 hz_nw hk_nw (lo := 0) (hi := 2147483647) rfl dX11_seed_14 (fun x6 k5 h4 => ?_)
    refine lv_istore_n (lv' := [(2, .int x6), (0, .ref (base + a0)), (1, .int a1)]) hx hb dX11_seed_17 rfl hl (by decide) rfl (fun ls hl => ?_)
    refine lv_aload_n hx hb dX11_seed_18 rfl (lv_at hl 1 rfl) ?_
    refine tw_getrk hx hb hW hown hK hS f_X11_31_10 hz_a0 hk_a0 (b := nw) k_nw dX11_seed_19 ?_
    refine lv_iload_n hx hb dX11_seed_22 rfl (lv_at hl 2 rfl) ?_
    refine tw_putix hx hb hW hown hK hS f_X11_106_9 hz_nw hk_nw rfl rfl (lo := 0) (hi := 2147483647) rfl h3 rfl dX11_seed_23 (fun H locs M9 hS k7 f8 e10 => ?_)
    refine lv_iload_n hx hb dX11_seed_26 rfl (lv_at hl 0 rfl) ?_
    have q12 : 0 ≤ a1.toInt := by
      have := (h3).1; have := (h3).2; omega
    have q11 : SDQ K Ma M9 nw a1 x6 := Or.inr ⟨q12, k5.symm, k7, fun q hq hne => by rw [e10]; exact (congrFun (u2_ne hne) 6).trans rfl⟩
    exact tw_endi hx hb hr hlocks hK hT hS hQ (⟨(iv_mono h4 (by decide) (by decide)), q11⟩) dX11_seed_27
  · have q13 : a1.toInt < 0 := ti_nle c1
    have h14 : iv (-2147483648) (-1) a1 := iv_ltL (y := 0) h_a1 (iv_c (c := 0) (n := 0) (by decide)) q13 (by decide)
    refine lv_aload_n hx hb dX11_seed_4 rfl (lv_at hl 0 rfl) ?_
    refine lv_iconst (v := 0) hx hb dX11_seed_5 (by decide) ?_
    refine tw_goi hS (md_runV (As := [.int 0]) (rest := []) hx hb hml hown hW hK hT hS.1 (t_X11_refuse l D cy tx base Z K N Ma Ra Ja hS.2.1 a0 hz_a0 hk_a0 0 (iv_mono (iv_c (c := 0) (n := 0) (by decide)) (by decide) (by decide))) s_X11_158 ⟨rfl, rfl, ⟨Nat.le_of_ble_eq_true rfl, Nat.le_of_ble_eq_true rfl⟩, ⟨Nat.le_of_ble_eq_true rfl, Nat.le_of_ble_eq_true rfl⟩⟩ hz_a0 hk_a0 (by decide) rfl rfl hl.1 rfl (Nat.le_of_ble_eq_true rfl) dX11_seed_6) rfl rfl (fun x21 H locs M18 R19 J17 hS f15 g16 E20 => ?_)
    have eR19 := Fr.nil g16 rfl
    subst eR19
    have h_x21 := E20
    clear E20
    have q23 : a1.toInt < 0 := by
      have := (h14).1; have := (h14).2; omega
    have q24 : x21.toInt = -2 := by
      have := (h14).1; have := (h14).2; have := (h_x21).1; have := (h_x21).2; omega
    have q22 : SDQ K Ma M18 nw a1 x21 := Or.inl ⟨q23, q24, fun q hq => (Fr.kp (k := 6) f15 hq rfl)⟩
    exact tw_endi hx hb hr hlocks hK hT hS hQ (⟨(iv_mono h_x21 (by decide) (by decide)), q22⟩) dX11_seed_9
def Lt_X12_seed_vx : WL := [(14, 0, 2000000), (23, 6, 7)]
def LRt_X12_seed_vx : WL := []
set_option maxRecDepth 100000 in
set_option maxHeartbeats 4000000 in
theorem t_X12_seed_vx (l : Launch) (D : va_G) (cy : Nat → ClassId) (tx : (Nat → Nat) × (Nat → Nat)) (base Z : Nat) (K N : Nat → Nat) (Ma : MT) (Ra : RT) (Ja : JT) (hTy : Ty Z K N Ma Ra) (a0 : Nat) (hz_a0 : a0 < Z) (hk_a0 : K a0 = 12) (a1 : Int32) (h_a1 : iv (-2147483648) 2147483647 a1) (sd : Nat) (k_sd : Ra a0 25 = some sd) : Met l yX12_seed [Cond.code yX12_seed cX12_seed 3 (some .int)] (md_rm 2 0 0) (va_Pc [.ref (base + a0), .int a1] (md_U D cy tx base Z K N Ma Ra Ja)) (mQi D cy tx base (fun r u => TP Z K N Lt_X12_seed_vx LRt_X12_seed_vx Ma Ra u ∧ (iv (-2) 2147483647 r ∧ SMQ Ma u.2.2.2.1 sd a1 r))) 0 0 (fun q => base ≤ q) := by
  refine tw_ofW (L := Lt_X12_seed_vx) (LR := LRt_X12_seed_vx) (by decide) (Nat.le_of_ble_eq_true rfl) hTy ?_
  intro p e s m args below meth c Q ls hx hb hr hlocks hown hml hW hK hT hS hQ hl
  have hl : lv_has ls 3 [(0, .ref (base + a0)), (1, .int a1)] := hl
  obtain ⟨hz_sd, hk_sd, hn_sd⟩ := hTy.refn hz_a0 hk_a0 (show rtR 12 25 = (23, 226, 0) from rfl) k_sd
  have hn_sd := hn_sd (by decide)
  refine lv_iload_n hx hb dX12_seed_0 rfl (lv_at hl 1 rfl) ?_
  refine lv_if_ge (tgt := 10) hx hb dX12_seed_1 (by decide) (fun c1 => ?_) (fun c1 => ?_)
  · have q2 : 0 ≤ a1.toInt := ti_le c1
    have h3 : iv 0 2147483647 a1 := iv_geL (y := 0) h_a1 (iv_c (c := 0) (n := 0) (by decide)) q2 (by decide)
    refine lv_aload_n hx hb dX12_seed_10 rfl (lv_at hl 0 rfl) ?_
    refine tw_getrk hx hb hW hown hK hS f_X12_45_11 hz_a0 hk_a0 (b := sd) k_sd dX12_seed_11 ?_
    refine lv_bipush (v := 6) hx hb dX12_seed_14 (by decide) ?_
    refine tw_iald hx hb hK hS hz_sd hk_sd (Or.inr (by decide)) hn_sd (lo := 0) (hi := 2147483647) (iv_c (c := 6) (n := 6) (by decide)) ⟨by decide, by decide⟩ (rg_c (k0 := 6) rfl rfl rfl) dX12_seed_16 (fun x6 k5 h4 => ?_)
    refine lv_istore_n (lv' := [(2, .int x6), (0, .ref (base + a0)), (1, .int a1)]) hx hb dX12_seed_17 rfl hl (by decide) rfl (fun ls hl => ?_)
    refine lv_aload_n hx hb dX12_seed_18 rfl (lv_at hl 1 rfl) ?_
    refine tw_getrk hx hb hW hown hK hS f_X12_45_11 hz_a0 hk_a0 (b := sd) k_sd dX12_seed_19 ?_
    refine lv_bipush (v := 6) hx hb dX12_seed_22 (by decide) ?_
    refine lv_iload_n hx hb dX12_seed_24 rfl (lv_at hl 2 rfl) ?_
    refine tw_iast hx hb hK hS hz_sd hk_sd (Or.inr (by decide)) hn_sd (iv_c (c := 6) (n := 6) (by decide)) ⟨by decide, by decide⟩ h3 (rg_cs (k0 := 6) rfl rfl rfl ⟨by decide, by decide⟩) (jl := 6) (jh := 6) ⟨by decide, by decide⟩ rfl dX12_seed_25 (fun H locs M9 hS k7 f8 => ?_)
    refine lv_iload_n hx hb dX12_seed_26 rfl (lv_at hl 0 rfl) ?_
    have q11 : 0 ≤ a1.toInt := by
      have := (h3).1; have := (h3).2; omega
    have q10 : SMQ Ma M9 sd a1 x6 := Or.inr ⟨q11, (by have q := k5; rw [show (6 : Int32).toNatClampNeg = 6 from by decide] at q; exact q.symm), (by have q := k7; rw [show (6 : Int32).toNatClampNeg = 6 from by decide] at q; exact q)⟩
    exact tw_endi hx hb hr hlocks hK hT hS hQ (⟨(iv_mono h4 (by decide) (by decide)), q10⟩) dX12_seed_27
  · have q12 : a1.toInt < 0 := ti_nle c1
    have h13 : iv (-2147483648) (-1) a1 := iv_ltL (y := 0) h_a1 (iv_c (c := 0) (n := 0) (by decide)) q12 (by decide)
    refine lv_aload_n hx hb dX12_seed_4 rfl (lv_at hl 0 rfl) ?_
    refine lv_iconst (v := 0) hx hb dX12_seed_5 (by decide) ?_
    refine tw_goi hS (md_runV (As := [.int 0]) (rest := []) hx hb hml hown hW hK hT hS.1 (t_X12_refuses l D cy tx base Z K N Ma Ra Ja hS.2.1 a0 hz_a0 hk_a0 0 (iv_mono (iv_c (c := 0) (n := 0) (by decide)) (by decide) (by decide))) s_X12_338 ⟨rfl, rfl, ⟨Nat.le_of_ble_eq_true rfl, Nat.le_of_ble_eq_true rfl⟩, ⟨Nat.le_of_ble_eq_true rfl, Nat.le_of_ble_eq_true rfl⟩⟩ hz_a0 hk_a0 (by decide) rfl rfl hl.1 rfl (Nat.le_of_ble_eq_true rfl) dX12_seed_6) rfl rfl (fun x20 H locs M17 R18 J16 hS f14 g15 E19 => ?_)
    have eR18 := Fr.nil g15 rfl
    subst eR18
    have h_x20 := E19
    clear E19
    have q22 : a1.toInt < 0 := by
      have := (h13).1; have := (h13).2; omega
    have q23 : x20.toInt = -2 := by
      have := (h13).1; have := (h13).2; have := (h_x20).1; have := (h_x20).2; omega
    have q21 : SMQ Ma M17 sd a1 x20 := Or.inl ⟨q22, q23, (Fr.kp (k := 6) f14 hk_sd rfl)⟩
    exact tw_endi hx hb hr hlocks hK hT hS hQ (⟨(iv_mono h_x20 (by decide) (by decide)), q21⟩) dX12_seed_9
