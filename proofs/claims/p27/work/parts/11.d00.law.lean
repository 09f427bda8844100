section LAWC0
variable {p : Program} {l : Launch} {e : Env} {s : State} {m : MethodId} {below : List Frame} {meth : Method} {c : Code} {b Ln : Nat} {xs : Nat → Int32} {D : va_G} {cy : Nat → ClassId} {tx : (Nat → Nat) × (Nat → Nat)}
set_option maxRecDepth 100000 in
set_option maxHeartbeats 4000000 in
theorem law_feed (C0 : lw_F p s m meth c b Ln xs D cy tx) {i : Int32} (hI : ∀ k : Int32, 0 ≤ k.toInt ∧ k.toInt ≤ 5 → vp_in (i + k) Ln) {Z : Nat} {K N : Nat → Nat} {M : MT} {R : RT} {J : JT} {H : Heap} {locs : List Loc} (hG : md_G D cy s.heap.size Z K N M R J s H locs) (hL : LI Z K N M R) {ls : Array Slot} (hl : lv_has ls 4 [(3, .int i), (2, .ref (s.heap.size + 69)), (1, .ref (s.heap.size + 0)), (0, .ref b)]) (kt : lw_KT p l e s m below meth c b D cy i) : W p l e room_1 s m #[Value.ref b] below meth c H locs 4000 500000 (lw_Z below #[Value.ref b] s) (F0 m 172 ls []) := by
  obtain ⟨hx, hb, hr, hml, hown, hW, hX, hbl, hlocks, hK, hT⟩ := C0
  have hbA : ¬ (fun q : Nat => s.heap.size ≤ q) b := Nat.not_le.mpr hbl
  refine lv_aload_n hx hb dL_law_172 rfl (lv_at hl 2 rfl) ?_
  refine lv_aload_n hx hb dL_law_173 rfl (lv_at hl 3 rfl) ?_
  refine lv_iload_n hx hb dL_law_174 rfl (lv_at hl 0 rfl) ?_
  refine lv_iconst (v := 1) hx hb dL_law_175 (by decide) ?_
  refine lv_iadd hx hb dL_law_176 ?_
  refine va_sld hx hb hX hbl hbA hG.2.2 (hI 1 ⟨by decide, by decide⟩) dL_law_177 ?_
  refine lv_aload_n hx hb dL_law_178 rfl (lv_at hl 3 rfl) ?_
  refine lv_iload_n hx hb dL_law_179 rfl (lv_at hl 0 rfl) ?_
  refine lv_iconst (v := 2) hx hb dL_law_180 (by decide) ?_
  refine lv_iadd hx hb dL_law_181 ?_
  refine va_sld hx hb hX hbl hbA hG.2.2 (hI 2 ⟨by decide, by decide⟩) dL_law_182 ?_
  refine lv_aload_n hx hb dL_law_183 rfl (lv_at hl 3 rfl) ?_
  refine lv_iload_n hx hb dL_law_184 rfl (lv_at hl 0 rfl) ?_
  refine lv_iconst (v := 3) hx hb dL_law_185 (by decide) ?_
  refine lv_iadd hx hb dL_law_186 ?_
  refine va_sld hx hb hX hbl hbA hG.2.2 (hI 3 ⟨by decide, by decide⟩) dL_law_187 ?_
  refine lv_aload_n hx hb dL_law_188 rfl (lv_at hl 3 rfl) ?_
  refine lv_iload_n hx hb dL_law_189 rfl (lv_at hl 0 rfl) ?_
  refine lv_iconst (v := 4) hx hb dL_law_190 (by decide) ?_
  refine lv_iadd hx hb dL_law_191 ?_
  refine va_sld hx hb hX hbl hbA hG.2.2 (hI 4 ⟨by decide, by decide⟩) dL_law_192 ?_
  refine lv_aload_n hx hb dL_law_193 rfl (lv_at hl 3 rfl) ?_
  refine lv_iload_n hx hb dL_law_194 rfl (lv_at hl 0 rfl) ?_
  refine lv_iconst (v := 5) hx hb dL_law_195 (by decide) ?_
  refine lv_iadd hx hb dL_law_196 ?_
  refine va_sld hx hb hX hbl hbA hG.2.2 (hI 5 ⟨by decide, by decide⟩) dL_law_197 ?_
  refine lw_goi hG hL (md_runV (As := [.int (xs (i + 1).toNatClampNeg), .int (xs (i + 2).toNatClampNeg), .int (xs (i + 3).toNatClampNeg), .int (xs (i + 4).toNatClampNeg), .int (xs (i + 5).toNatClampNeg)]) (rest := []) hx hb hml hown hW hK hT hG (t_X11_feed l D cy tx s.heap.size Z K N M R J hL.1.1 0 (show 0 < Z by have := hL.2.1.1.1; omega) hL.2.1.1.2.1 (xs (i + 1).toNatClampNeg) (iv_any _) (xs (i + 2).toNatClampNeg) (iv_any _) (xs (i + 3).toNatClampNeg) (iv_any _) (xs (i + 4).toNatClampNeg) (iv_any _) (xs (i + 5).toNatClampNeg) (iv_any _)) s_L_13 ⟨rfl, rfl, ⟨Nat.le_of_ble_eq_true rfl, Nat.le_of_ble_eq_true rfl⟩, Nat.le_of_ble_eq_true rfl, Nat.le_of_ble_eq_true rfl⟩ (show 0 < Z by have := hL.2.1.1.1; omega) hL.2.1.1.2.1 (by decide) rfl rfl hl.1 rfl (Nat.le_of_ble_eq_true rfl) dL_law_198) rfl (fun r1 H locs M1 R1 J1 hG hL => ?_)
  refine lv_pop hx hb dL_law_201 rfl ?_
  refine lv_aload_n hx hb dL_law_202 rfl (lv_at hl 1 rfl) ?_
  refine lv_aload_n hx hb dL_law_203 rfl (lv_at hl 3 rfl) ?_
  refine lv_iload_n hx hb dL_law_204 rfl (lv_at hl 0 rfl) ?_
  refine lv_iconst (v := 1) hx hb dL_law_205 (by decide) ?_
  refine lv_iadd hx hb dL_law_206 ?_
  refine va_sld hx hb hX hbl hbA hG.2.2 (hI 1 ⟨by decide, by decide⟩) dL_law_207 ?_
  refine lv_aload_n hx hb dL_law_208 rfl (lv_at hl 3 rfl) ?_
  refine lv_iload_n hx hb dL_law_209 rfl (lv_at hl 0 rfl) ?_
  refine lv_iconst (v := 2) hx hb dL_law_210 (by decide) ?_
  refine lv_iadd hx hb dL_law_211 ?_
  refine va_sld hx hb hX hbl hbA hG.2.2 (hI 2 ⟨by decide, by decide⟩) dL_law_212 ?_
  refine lv_aload_n hx hb dL_law_213 rfl (lv_at hl 3 rfl) ?_
  refine lv_iload_n hx hb dL_law_214 rfl (lv_at hl 0 rfl) ?_
  refine lv_iconst (v := 3) hx hb dL_law_215 (by decide) ?_
  refine lv_iadd hx hb dL_law_216 ?_
  refine va_sld hx hb hX hbl hbA hG.2.2 (hI 3 ⟨by decide, by decide⟩) dL_law_217 ?_
  refine lv_aload_n hx hb dL_law_218 rfl (lv_at hl 3 rfl) ?_
  refine lv_iload_n hx hb dL_law_219 rfl (lv_at hl 0 rfl) ?_
  refine lv_iconst (v := 4) hx hb dL_law_220 (by decide) ?_
  refine lv_iadd hx hb dL_law_221 ?_
  refine va_sld hx hb hX hbl hbA hG.2.2 (hI 4 ⟨by decide, by decide⟩) dL_law_222 ?_
  refine lv_aload_n hx hb dL_law_223 rfl (lv_at hl 3 rfl) ?_
  refine lv_iload_n hx hb dL_law_224 rfl (lv_at hl 0 rfl) ?_
  refine lv_iconst (v := 5) hx hb dL_law_225 (by decide) ?_
  refine lv_iadd hx hb dL_law_226 ?_
  refine va_sld hx hb hX hbl hbA hG.2.2 (hI 5 ⟨by decide, by decide⟩) dL_law_227 ?_
  refine lw_goi hG hL (md_runV (As := [.int (xs (i + 1).toNatClampNeg), .int (xs (i + 2).toNatClampNeg), .int (xs (i + 3).toNatClampNeg), .int (xs (i + 4).toNatClampNeg), .int (xs (i + 5).toNatClampNeg)]) (rest := []) hx hb hml hown hW hK hT hG (t_X12_feed l D cy tx s.heap.size Z K N M1 R1 J1 hL.1.1 69 (show 69 < Z by have := hL.2.1.1.1; omega) hL.2.1.1.2.2 (xs (i + 1).toNatClampNeg) (iv_any _) (xs (i + 2).toNatClampNeg) (iv_any _) (xs (i + 3).toNatClampNeg) (iv_any _) (xs (i + 4).toNatClampNeg) (iv_any _) (xs (i + 5).toNatClampNeg) (iv_any _)) s_L_17 ⟨rfl, rfl, ⟨Nat.le_of_ble_eq_true rfl, Nat.le_of_ble_eq_true rfl⟩, Nat.le_of_ble_eq_true rfl, Nat.le_of_ble_eq_true rfl⟩ (show 69 < Z by have := hL.2.1.1.1; omega) hL.2.1.1.2.2 (by decide) rfl rfl hl.1 rfl (Nat.le_of_ble_eq_true rfl) dL_law_228) rfl (fun r2 H locs M2 R2 J2 hG hL => ?_)
  refine lv_pop hx hb dL_law_231 rfl ?_
  refine lv_goto (tgt := 1157) hx hb dL_law_232 (by decide) ?_
  refine lw_tt hG hL ?_
  exact kt Z K N M2 R2 J2 H locs ls hG hL hl
set_option maxRecDepth 100000 in
set_option maxHeartbeats 4000000 in
theorem law_end (C0 : lw_F p s m meth c b Ln xs D cy tx) {i : Int32} (hI : ∀ k : Int32, 0 ≤ k.toInt ∧ k.toInt ≤ 5 → vp_in (i + k) Ln) {Z : Nat} {K N : Nat → Nat} {M : MT} {R : RT} {J : JT} {H : Heap} {locs : List Loc} (hG : md_G D cy s.heap.size Z K N M R J s H locs) (hL : LI Z K N M R) {ls : Array Slot} (hl : lv_has ls 4 [(3, .int i), (2, .ref (s.heap.size + 69)), (1, .ref (s.heap.size + 0)), (0, .ref b)]) (kt : lw_KT p l e s m below meth c b D cy i) : W p l e room_1 s m #[Value.ref b] below meth c H locs 4000 500000 (lw_Z below #[Value.ref b] s) (F0 m 235 ls []) := by
  obtain ⟨hx, hb, hr, hml, hown, hW, hX, hbl, hlocks, hK, hT⟩ := C0
  have hbA : ¬ (fun q : Nat => s.heap.size ≤ q) b := Nat.not_le.mpr hbl
  refine lv_aload_n hx hb dL_law_235 rfl (lv_at hl 2 rfl) ?_
  refine lv_aload_n hx hb dL_law_236 rfl (lv_at hl 3 rfl) ?_
  refine lv_iload_n hx hb dL_law_237 rfl (lv_at hl 0 rfl) ?_
  refine lv_iconst (v := 1) hx hb dL_law_238 (by decide) ?_
  refine lv_iadd hx hb dL_law_239 ?_
  refine va_sld hx hb hX hbl hbA hG.2.2 (hI 1 ⟨by decide, by decide⟩) dL_law_240 ?_
  refine lw_goi hG hL (md_runV (As := [.int (xs (i + 1).toNatClampNeg)]) (rest := []) hx hb hml hown hW hK hT hG (t_X11_end l D cy tx s.heap.size Z K N M R J hL.1.1 0 (show 0 < Z by have := hL.2.1.1.1; omega) hL.2.1.1.2.1 (xs (i + 1).toNatClampNeg) (iv_any _)) s_L_18 ⟨rfl, rfl, ⟨Nat.le_of_ble_eq_true rfl, Nat.le_of_ble_eq_true rfl⟩, Nat.le_of_ble_eq_true rfl, Nat.le_of_ble_eq_true rfl⟩ (show 0 < Z by have := hL.2.1.1.1; omega) hL.2.1.1.2.1 (by decide) rfl rfl hl.1 rfl (Nat.le_of_ble_eq_true rfl) dL_law_241) rfl (fun r1 H locs M1 R1 J1 hG hL => ?_)
  refine lv_pop hx hb dL_law_244 rfl ?_
  refine lv_aload_n hx hb dL_law_245 rfl (lv_at hl 1 rfl) ?_
  refine lv_aload_n hx hb dL_law_246 rfl (lv_at hl 3 rfl) ?_
  refine lv_iload_n hx hb dL_law_247 rfl (lv_at hl 0 rfl) ?_
  refine lv_iconst (v := 1) hx hb dL_law_248 (by decide) ?_
  refine lv_iadd hx hb dL_law_249 ?_
  refine va_sld hx hb hX hbl hbA hG.2.2 (hI 1 ⟨by decide, by decide⟩) dL_law_250 ?_
  refine lw_goi hG hL (md_runV (As := [.int (xs (i + 1).toNatClampNeg)]) (rest := []) hx hb hml hown hW hK hT hG (t_X12_end l D cy tx s.heap.size Z K N M1 R1 J1 hL.1.1 69 (show 69 < Z by have := hL.2.1.1.1; omega) hL.2.1.1.2.2 (xs (i + 1).toNatClampNeg) (iv_any _)) s_L_22 ⟨rfl, rfl, ⟨Nat.le_of_ble_eq_true rfl, Nat.le_of_ble_eq_true rfl⟩, Nat.le_of_ble_eq_true rfl, Nat.le_of_ble_eq_true rfl⟩ (show 69 < Z by have := hL.2.1.1.1; omega) hL.2.1.1.2.2 (by decide) rfl rfl hl.1 rfl (Nat.le_of_ble_eq_true rfl) dL_law_251) rfl (fun r2 H locs M2 R2 J2 hG hL => ?_)
  refine lv_pop hx hb dL_law_254 rfl ?_
  refine lv_goto (tgt := 1157) hx hb dL_law_255 (by decide) ?_
  refine lw_tt hG hL ?_
  exact kt Z K N M2 R2 J2 H locs ls hG hL hl
set_option maxRecDepth 100000 in
set_option maxHeartbeats 4000000 in
theorem law_council (C0 : lw_F p s m meth c b Ln xs D cy tx) {i : Int32} (hI : ∀ k : Int32, 0 ≤ k.toInt ∧ k.toInt ≤ 5 → vp_in (i + k) Ln) {Z : Nat} {K N : Nat → Nat} {M : MT} {R : RT} {J : JT} {H : Heap} {locs : List Loc} (hG : md_G D cy s.heap.size Z K N M R J s H locs) (hL : LI Z K N M R) {ls : Array Slot} (hl : lv_has ls 4 [(3, .int i), (2, .ref (s.heap.size + 69)), (1, .ref (s.heap.size + 0)), (0, .ref b)]) (kt : lw_KT p l e s m below meth c b D cy i) : W p l e room_1 s m #[Value.ref b] below meth c H locs 4000 500000 (lw_Z below #[Value.ref b] s) (F0 m 258 ls []) := by
  obtain ⟨hx, hb, hr, hml, hown, hW, hX, hbl, hlocks, hK, hT⟩ := C0
  have hbA : ¬ (fun q : Nat => s.heap.size ≤ q) b := Nat.not_le.mpr hbl
  refine lv_aload_n hx hb dL_law_258 rfl (lv_at hl 2 rfl) ?_
  refine lw_goe hG (md_runV (As := []) (rest := []) hx hb hml hown hW hK hT hG (t_X11_council_vx l D cy tx s.heap.size Z K N M R J hL.1.1 0 (show 0 < Z by have := hL.2.1.1.1; omega) hL.2.1.1.2.1 4 hL.2.1.2.1.1) s_L_23 ⟨rfl, rfl, ⟨Nat.le_of_ble_eq_true rfl, Nat.le_of_ble_eq_true rfl⟩, Nat.le_of_ble_eq_true rfl, Nat.le_of_ble_eq_true rfl⟩ (show 0 < Z by have := hL.2.1.1.1; omega) hL.2.1.1.2.1 (by decide) rfl rfl hl.1 rfl (Nat.le_of_ble_eq_true rfl) dL_law_259) (fun r1 H locs M1 R1 J1 hG hT1 f1 g1 hE => ?_)
  have hL := LI.stepX hL hT1 f1 g1 hE.2 rfl
  refine lv_pop hx hb dL_law_262 rfl ?_
  refine lv_aload_n hx hb dL_law_263 rfl (lv_at hl 1 rfl) ?_
  refine lw_goe hG (md_runV (As := []) (rest := []) hx hb hml hown hW hK hT hG (t_X12_council l D cy tx s.heap.size Z K N M1 R1 J1 hL.1.1 69 (show 69 < Z by have := hL.2.1.1.1; omega) hL.2.1.1.2.2 hL.2.2.1 71 hL.2.1.2.2.2.1.1 73 hL.2.1.2.2.2.1.2.1 74 hL.2.1.2.2.2.1.2.2 81 hL.2.1.2.2.2.2.1.1 (M1 81 (6 : Int32).toNatClampNeg) rfl (hL.1.1.int (show 81 < Z by have := hL.2.1.1.1; omega) hL.2.1.2.2.2.2.2.2.2.1 (show rgI 23 (6 : Int32).toNatClampNeg = (0, 2147483647) from rfl))) s_L_27 ⟨rfl, rfl, ⟨Nat.le_of_ble_eq_true rfl, Nat.le_of_ble_eq_true rfl⟩, Nat.le_of_ble_eq_true rfl, Nat.le_of_ble_eq_true rfl⟩ (show 69 < Z by have := hL.2.1.1.1; omega) hL.2.1.1.2.2 (by decide) rfl rfl hl.1 rfl (Nat.le_of_ble_eq_true rfl) dL_law_264) (fun r2 H locs M2 R2 J2 hG hT2 f2 g2 hE => ?_)
  have hs : M2 81 6 = M1 81 6 := hE.2.2
  have hL := LI.stepM hL hT2 f2 g2 hs hE.2.1 rfl
  refine lv_pop hx hb dL_law_267 rfl ?_
  refine lv_goto (tgt := 1157) hx hb dL_law_268 (by decide) ?_
  refine lw_tt hG hL ?_
  exact kt Z K N M2 R2 J2 H locs ls hG hL hl
set_option maxRecDepth 100000 in
set_option maxHeartbeats 4000000 in
theorem law_rule (C0 : lw_F p s m meth c b Ln xs D cy tx) {i : Int32} (hI : ∀ k : Int32, 0 ≤ k.toInt ∧ k.toInt ≤ 5 → vp_in (i + k) Ln) {Z : Nat} {K N : Nat → Nat} {M : MT} {R : RT} {J : JT} {H : Heap} {locs : List Loc} (hG : md_G D cy s.heap.size Z K N M R J s H locs) (hL : LI Z K N M R) {ls : Array Slot} (hl : lv_has ls 4 [(3, .int i), (2, .ref (s.heap.size + 69)), (1, .ref (s.heap.size + 0)), (0, .ref b)]) (kt : lw_KT p l e s m below meth c b D cy i) : W p l e room_1 s m #[Value.ref b] below meth c H locs 4000 500000 (lw_Z below #[Value.ref b] s) (F0 m 271 ls []) := by
  obtain ⟨hx, hb, hr, hml, hown, hW, hX, hbl, hlocks, hK, hT⟩ := C0
  have hbA : ¬ (fun q : Nat => s.heap.size ≤ q) b := Nat.not_le.mpr hbl
  refine lv_aload_n hx hb dL_law_271 rfl (lv_at hl 2 rfl) ?_
  refine lw_gom hG (md_runV (As := []) (rest := []) hx hb hml hown hW hK hT hG (t_X11_rule l D cy tx s.heap.size Z K N M R J hL.1.1 0 (show 0 < Z by have := hL.2.1.1.1; omega) hL.2.1.1.2.1 (M 0 6) rfl (hL.1.1.int (show 0 < Z by have := hL.2.1.1.1; omega) hL.2.1.1.2.1 (show rgI 11 6 = (0, 6) from rfl))) s_L_28 ⟨rfl, rfl, ⟨Nat.le_of_ble_eq_true rfl, Nat.le_of_ble_eq_true rfl⟩, Nat.le_of_ble_eq_true rfl, Nat.le_of_ble_eq_true rfl⟩ (show 0 < Z by have := hL.2.1.1.1; omega) hL.2.1.1.2.1 (by decide) rfl rfl hl.1 rfl (Nat.le_of_ble_eq_true rfl) dL_law_272) (fun r1 H locs Z1 K1 N1 M1 R1 J1 hG ht hE => ?_)
  have hL : LI Z1 K1 N1 M1 R1 := LI.rule hL ht hE.2 rfl rfl rfl rfl
  refine lv_pop hx hb dL_law_275 rfl ?_
  refine lv_aload_n hx hb dL_law_276 rfl (lv_at hl 1 rfl) ?_
  refine lw_goe hG (md_runV (As := []) (rest := []) hx hb hml hown hW hK hT hG (t_X12_rule l D cy tx s.heap.size Z1 K1 N1 M1 R1 J1 hL.1.1 69 (show 69 < Z1 by have := hL.2.1.1.1; omega) hL.2.1.1.2.2 hL.2.2.1 71 hL.2.1.2.2.2.1.1 73 hL.2.1.2.2.2.1.2.1 74 hL.2.1.2.2.2.1.2.2) s_L_31 ⟨rfl, rfl, ⟨Nat.le_of_ble_eq_true rfl, Nat.le_of_ble_eq_true rfl⟩, Nat.le_of_ble_eq_true rfl, Nat.le_of_ble_eq_true rfl⟩ (show 69 < Z1 by have := hL.2.1.1.1; omega) hL.2.1.1.2.2 (by decide) rfl rfl hl.1 rfl (Nat.le_of_ble_eq_true rfl) dL_law_277) (fun r2 H locs M2 R2 J2 hG hT2 f2 g2 hE => ?_)
  have hL := LI.stepM hL hT2 f2 g2 (f2.kp hL.2.1.2.2.2.2.2.2.2.1 rfl) hE.2 rfl
  refine lv_pop hx hb dL_law_280 rfl ?_
  refine lv_goto (tgt := 1157) hx hb dL_law_281 (by decide) ?_
  refine lw_tt hG hL ?_
  exact kt Z1 K1 N1 M2 R2 J2 H locs ls hG hL hl
set_option maxRecDepth 100000 in
set_option maxHeartbeats 4000000 in
theorem law_voice (C0 : lw_F p s m meth c b Ln xs D cy tx) {i : Int32} (hI : ∀ k : Int32, 0 ≤ k.toInt ∧ k.toInt ≤ 5 → vp_in (i + k) Ln) {Z : Nat} {K N : Nat → Nat} {M : MT} {R : RT} {J : JT} {H : Heap} {locs : List Loc} (hG : md_G D cy s.heap.size Z K N M R J s H locs) (hL : LI Z K N M R) {ls : Array Slot} (hl : lv_has ls 4 [(3, .int i), (2, .ref (s.heap.size + 69)), (1, .ref (s.heap.size + 0)), (0, .ref b)]) (kt : lw_KT p l e s m below meth c b D cy i) : W p l e room_1 s m #[Value.ref b] below meth c H locs 4000 500000 (lw_Z below #[Value.ref b] s) (F0 m 284 ls []) := by
  obtain ⟨hx, hb, hr, hml, hown, hW, hX, hbl, hlocks, hK, hT⟩ := C0
  have hbA : ¬ (fun q : Nat => s.heap.size ≤ q) b := Nat.not_le.mpr hbl
  refine lv_aload_n hx hb dL_law_284 rfl (lv_at hl 2 rfl) ?_
  refine lv_aload_n hx hb dL_law_285 rfl (lv_at hl 3 rfl) ?_
  refine lv_iload_n hx hb dL_law_286 rfl (lv_at hl 0 rfl) ?_
  refine lv_iconst (v := 1) hx hb dL_law_287 (by decide) ?_
  refine lv_iadd hx hb dL_law_288 ?_
  refine va_sld hx hb hX hbl hbA hG.2.2 (hI 1 ⟨by decide, by decide⟩) dL_law_289 ?_
  refine lv_aload_n hx hb dL_law_290 rfl (lv_at hl 3 rfl) ?_
  refine lv_iload_n hx hb dL_law_291 rfl (lv_at hl 0 rfl) ?_
  refine lv_iconst (v := 2) hx hb dL_law_292 (by decide) ?_
  refine lv_iadd hx hb dL_law_293 ?_
  refine va_sld hx hb hX hbl hbA hG.2.2 (hI 2 ⟨by decide, by decide⟩) dL_law_294 ?_
  refine lw_goi hG hL (md_runV (As := [.int (xs (i + 1).toNatClampNeg), .int (xs (i + 2).toNatClampNeg)]) (rest := []) hx hb hml hown hW hK hT hG (t_X11_voice l D cy tx s.heap.size Z K N M R J hL.1.1 0 (show 0 < Z by have := hL.2.1.1.1; omega) hL.2.1.1.2.1 (xs (i + 1).toNatClampNeg) (iv_any _) (xs (i + 2).toNatClampNeg) (iv_any _)) s_L_32 ⟨rfl, rfl, ⟨Nat.le_of_ble_eq_true rfl, Nat.le_of_ble_eq_true rfl⟩, Nat.le_of_ble_eq_true rfl, Nat.le_of_ble_eq_true rfl⟩ (show 0 < Z by have := hL.2.1.1.1; omega) hL.2.1.1.2.1 (by decide) rfl rfl hl.1 rfl (Nat.le_of_ble_eq_true rfl) dL_law_295) rfl (fun r1 H locs M1 R1 J1 hG hL => ?_)
  refine lv_pop hx hb dL_law_298 rfl ?_
  refine lv_aload_n hx hb dL_law_299 rfl (lv_at hl 1 rfl) ?_
  refine lv_aload_n hx hb dL_law_300 rfl (lv_at hl 3 rfl) ?_
  refine lv_iload_n hx hb dL_law_301 rfl (lv_at hl 0 rfl) ?_
  refine lv_iconst (v := 1) hx hb dL_law_302 (by decide) ?_
  refine lv_iadd hx hb dL_law_303 ?_
  refine va_sld hx hb hX hbl hbA hG.2.2 (hI 1 ⟨by decide, by decide⟩) dL_law_304 ?_
  refine lv_aload_n hx hb dL_law_305 rfl (lv_at hl 3 rfl) ?_
  refine lv_iload_n hx hb dL_law_306 rfl (lv_at hl 0 rfl) ?_
  refine lv_iconst (v := 2) hx hb dL_law_307 (by decide) ?_
  refine lv_iadd hx hb dL_law_308 ?_
  refine va_sld hx hb hX hbl hbA hG.2.2 (hI 2 ⟨by decide, by decide⟩) dL_law_309 ?_
  refine lw_goi hG hL (md_runV (As := [.int (xs (i + 1).toNatClampNeg), .int (xs (i + 2).toNatClampNeg)]) (rest := []) hx hb hml hown hW hK hT hG (t_X12_voice l D cy tx s.heap.size Z K N M1 R1 J1 hL.1.1 69 (show 69 < Z by have := hL.2.1.1.1; omega) hL.2.1.1.2.2 (xs (i + 1).toNatClampNeg) (iv_any _) (xs (i + 2).toNatClampNeg) (iv_any _)) s_L_36 ⟨rfl, rfl, ⟨Nat.le_of_ble_eq_true rfl, Nat.le_of_ble_eq_true rfl⟩, Nat.le_of_ble_eq_true rfl, Nat.le_of_ble_eq_true rfl⟩ (show 69 < Z by have := hL.2.1.1.1; omega) hL.2.1.1.2.2 (by decide) rfl rfl hl.1 rfl (Nat.le_of_ble_eq_true rfl) dL_law_310) rfl (fun r2 H locs M2 R2 J2 hG hL => ?_)
  refine lv_pop hx hb dL_law_313 rfl ?_
  refine lv_goto (tgt := 1157) hx hb dL_law_314 (by decide) ?_
  refine lw_tt hG hL ?_
  exact kt Z K N M2 R2 J2 H locs ls hG hL hl
set_option maxRecDepth 100000 in
set_option maxHeartbeats 4000000 in
theorem law_worth (C0 : lw_F p s m meth c b Ln xs D cy tx) {i : Int32} (hI : ∀ k : Int32, 0 ≤ k.toInt ∧ k.toInt ≤ 5 → vp_in (i + k) Ln) {Z : Nat} {K N : Nat → Nat} {M : MT} {R : RT} {J : JT} {H : Heap} {locs : List Loc} (hG : md_G D cy s.heap.size Z K N M R J s H locs) (hL : LI Z K N M R) {ls : Array Slot} (hl : lv_has ls 4 [(3, .int i), (2, .ref (s.heap.size + 69)), (1, .ref (s.heap.size + 0)), (0, .ref b)]) (kt : lw_KT p l e s m below meth c b D cy i) : W p l e room_1 s m #[Value.ref b] below meth c H locs 4000 500000 (lw_Z below #[Value.ref b] s) (F0 m 317 ls []) := by
  obtain ⟨hx, hb, hr, hml, hown, hW, hX, hbl, hlocks, hK, hT⟩ := C0
  have hbA : ¬ (fun q : Nat => s.heap.size ≤ q) b := Nat.not_le.mpr hbl
  refine lv_aload_n hx hb dL_law_317 rfl (lv_at hl 2 rfl) ?_
  refine lv_aload_n hx hb dL_law_318 rfl (lv_at hl 3 rfl) ?_
  refine lv_iload_n hx hb dL_law_319 rfl (lv_at hl 0 rfl) ?_
  refine lv_iconst (v := 1) hx hb dL_law_320 (by decide) ?_
  refine lv_iadd hx hb dL_law_321 ?_
  refine va_sld hx hb hX hbl hbA hG.2.2 (hI 1 ⟨by decide, by decide⟩) dL_law_322 ?_
  refine lv_aload_n hx hb dL_law_323 rfl (lv_at hl 3 rfl) ?_
  refine lv_iload_n hx hb dL_law_324 rfl (lv_at hl 0 rfl) ?_
  refine lv_iconst (v := 2) hx hb dL_law_325 (by decide) ?_
  refine lv_iadd hx hb dL_law_326 ?_
  refine va_sld hx hb hX hbl hbA hG.2.2 (hI 2 ⟨by decide, by decide⟩) dL_law_327 ?_
  refine lw_goi hG hL (md_runV (As := [.int (xs (i + 1).toNatClampNeg), .int (xs (i + 2).toNatClampNeg)]) (rest := []) hx hb hml hown hW hK hT hG (t_X11_worth l D cy tx s.heap.size Z K N M R J hL.1.1 0 (show 0 < Z by have := hL.2.1.1.1; omega) hL.2.1.1.2.1 (xs (i + 1).toNatClampNeg) (iv_any _) (xs (i + 2).toNatClampNeg) (iv_any _)) s_L_37 ⟨rfl, rfl, ⟨Nat.le_of_ble_eq_true rfl, Nat.le_of_ble_eq_true rfl⟩, Nat.le_of_ble_eq_true rfl, Nat.le_of_ble_eq_true rfl⟩ (show 0 < Z by have := hL.2.1.1.1; omega) hL.2.1.1.2.1 (by decide) rfl rfl hl.1 rfl (Nat.le_of_ble_eq_true rfl) dL_law_328) rfl (fun r1 H locs M1 R1 J1 hG hL => ?_)
  refine lv_pop hx hb dL_law_331 rfl ?_
  refine lv_aload_n hx hb dL_law_332 rfl (lv_at hl 1 rfl) ?_
  refine lv_aload_n hx hb dL_law_333 rfl (lv_at hl 3 rfl) ?_
  refine lv_iload_n hx hb dL_law_334 rfl (lv_at hl 0 rfl) ?_
  refine lv_iconst (v := 1) hx hb dL_law_335 (by decide) ?_
  refine lv_iadd hx hb dL_law_336 ?_
  refine va_sld hx hb hX hbl hbA hG.2.2 (hI 1 ⟨by decide, by decide⟩) dL_law_337 ?_
  refine lv_aload_n hx hb dL_law_338 rfl (lv_at hl 3 rfl) ?_
  refine lv_iload_n hx hb dL_law_339 rfl (lv_at hl 0 rfl) ?_
  refine lv_iconst (v := 2) hx hb dL_law_340 (by decide) ?_
  refine lv_iadd hx hb dL_law_341 ?_
  refine va_sld hx hb hX hbl hbA hG.2.2 (hI 2 ⟨by decide, by decide⟩) dL_law_342 ?_
  refine lw_goi hG hL (md_runV (As := [.int (xs (i + 1).toNatClampNeg), .int (xs (i + 2).toNatClampNeg)]) (rest := []) hx hb hml hown hW hK hT hG (t_X12_worth l D cy tx s.heap.size Z K N M1 R1 J1 hL.1.1 69 (show 69 < Z by have := hL.2.1.1.1; omega) hL.2.1.1.2.2 (xs (i + 1).toNatClampNeg) (iv_any _) (xs (i + 2).toNatClampNeg) (iv_any _)) s_L_40 ⟨rfl, rfl, ⟨Nat.le_of_ble_eq_true rfl, Nat.le_of_ble_eq_true rfl⟩, Nat.le_of_ble_eq_true rfl, Nat.le_of_ble_eq_true rfl⟩ (show 69 < Z by have := hL.2.1.1.1; omega) hL.2.1.1.2.2 (by decide) rfl rfl hl.1 rfl (Nat.le_of_ble_eq_true rfl) dL_law_343) rfl (fun r2 H locs M2 R2 J2 hG hL => ?_)
  refine lv_pop hx hb dL_law_346 rfl ?_
  refine lv_goto (tgt := 1157) hx hb dL_law_347 (by decide) ?_
  refine lw_tt hG hL ?_
  exact kt Z K N M2 R2 J2 H locs ls hG hL hl
set_option maxRecDepth 100000 in
set_option maxHeartbeats 4000000 in
theorem law_bend (C0 : lw_F p s m meth c b Ln xs D cy tx) {i : Int32} (hI : ∀ k : Int32, 0 ≤ k.toInt ∧ k.toInt ≤ 5 → vp_in (i + k) Ln) {Z : Nat} {K N : Nat → Nat} {M : MT} {R : RT} {J : JT} {H : Heap} {locs : List Loc} (hG : md_G D cy s.heap.size Z K N M R J s H locs) (hL : LI Z K N M R) {ls : Array Slot} (hl : lv_has ls 4 [(3, .int i), (2, .ref (s.heap.size + 69)), (1, .ref (s.heap.size + 0)), (0, .ref b)]) (kt : lw_KT p l e s m below meth c b D cy i) : W p l e room_1 s m #[Value.ref b] below meth c H locs 4000 500000 (lw_Z below #[Value.ref b] s) (F0 m 350 ls []) := by
  obtain ⟨hx, hb, hr, hml, hown, hW, hX, hbl, hlocks, hK, hT⟩ := C0
  have hbA : ¬ (fun q : Nat => s.heap.size ≤ q) b := Nat.not_le.mpr hbl
  refine lv_aload_n hx hb dL_law_350 rfl (lv_at hl 2 rfl) ?_
  refine lv_aload_n hx hb dL_law_351 rfl (lv_at hl 3 rfl) ?_
  refine lv_iload_n hx hb dL_law_352 rfl (lv_at hl 0 rfl) ?_
  refine lv_iconst (v := 1) hx hb dL_law_353 (by decide) ?_
  refine lv_iadd hx hb dL_law_354 ?_
  refine va_sld hx hb hX hbl hbA hG.2.2 (hI 1 ⟨by decide, by decide⟩) dL_law_355 ?_
  refine lv_aload_n hx hb dL_law_356 rfl (lv_at hl 3 rfl) ?_
  refine lv_iload_n hx hb dL_law_357 rfl (lv_at hl 0 rfl) ?_
  refine lv_iconst (v := 2) hx hb dL_law_358 (by decide) ?_
  refine lv_iadd hx hb dL_law_359 ?_
  refine va_sld hx hb hX hbl hbA hG.2.2 (hI 2 ⟨by decide, by decide⟩) dL_law_360 ?_
  refine lw_goi hG hL (md_runV (As := [.int (xs (i + 1).toNatClampNeg), .int (xs (i + 2).toNatClampNeg)]) (rest := []) hx hb hml hown hW hK hT hG (t_X11_bend l D cy tx s.heap.size Z K N M R J hL.1.1 0 (show 0 < Z by have := hL.2.1.1.1; omega) hL.2.1.1.2.1 (xs (i + 1).toNatClampNeg) (iv_any _) (xs (i + 2).toNatClampNeg) (iv_any _)) s_L_41 ⟨rfl, rfl, ⟨Nat.le_of_ble_eq_true rfl, Nat.le_of_ble_eq_true rfl⟩, Nat.le_of_ble_eq_true rfl, Nat.le_of_ble_eq_true rfl⟩ (show 0 < Z by have := hL.2.1.1.1; omega) hL.2.1.1.2.1 (by decide) rfl rfl hl.1 rfl (Nat.le_of_ble_eq_true rfl) dL_law_361) rfl (fun r1 H locs M1 R1 J1 hG hL => ?_)
  refine lv_pop hx hb dL_law_364 rfl ?_
  refine lv_aload_n hx hb dL_law_365 rfl (lv_at hl 1 rfl) ?_
  refine lv_aload_n hx hb dL_law_366 rfl (lv_at hl 3 rfl) ?_
  refine lv_iload_n hx hb dL_law_367 rfl (lv_at hl 0 rfl) ?_
  refine lv_iconst (v := 1) hx hb dL_law_368 (by decide) ?_
  refine lv_iadd hx hb dL_law_369 ?_
  refine va_sld hx hb hX hbl hbA hG.2.2 (hI 1 ⟨by decide, by decide⟩) dL_law_370 ?_
  refine lv_aload_n hx hb dL_law_371 rfl (lv_at hl 3 rfl) ?_
  refine lv_iload_n hx hb dL_law_372 rfl (lv_at hl 0 rfl) ?_
  refine lv_iconst (v := 2) hx hb dL_law_373 (by decide) ?_
  refine lv_iadd hx hb dL_law_374 ?_
  refine va_sld hx hb hX hbl hbA hG.2.2 (hI 2 ⟨by decide, by decide⟩) dL_law_375 ?_
  refine lw_goi hG hL (md_runV (As := [.int (xs (i + 1).toNatClampNeg), .int (xs (i + 2).toNatClampNeg)]) (rest := []) hx hb hml hown hW hK hT hG (t_X12_bend l D cy tx s.heap.size Z K N M1 R1 J1 hL.1.1 69 (show 69 < Z by have := hL.2.1.1.1; omega) hL.2.1.1.2.2 (xs (i + 1).toNatClampNeg) (iv_any _) (xs (i + 2).toNatClampNeg) (iv_any _)) s_L_44 ⟨rfl, rfl, ⟨Nat.le_of_ble_eq_true rfl, Nat.le_of_ble_eq_true rfl⟩, Nat.le_of_ble_eq_true rfl, Nat.le_of_ble_eq_true rfl⟩ (show 69 < Z by have := hL.2.1.1.1; omega) hL.2.1.1.2.2 (by decide) rfl rfl hl.1 rfl (Nat.le_of_ble_eq_true rfl) dL_law_376) rfl (fun r2 H locs M2 R2 J2 hG hL => ?_)
  refine lv_pop hx hb dL_law_379 rfl ?_
  refine lv_goto (tgt := 1157) hx hb dL_law_380 (by decide) ?_
  refine lw_tt hG hL ?_
  exact kt Z K N M2 R2 J2 H locs ls hG hL hl
set_option maxRecDepth 100000 in
set_option maxHeartbeats 4000000 in
theorem law_attends (C0 : lw_F p s m meth c b Ln xs D cy tx) {i : Int32} (hI : ∀ k : Int32, 0 ≤ k.toInt ∧ k.toInt ≤ 5 → vp_in (i + k) Ln) {Z : Nat} {K N : Nat → Nat} {M : MT} {R : RT} {J : JT} {H : Heap} {locs : List Loc} (hG : md_G D cy s.heap.size Z K N M R J s H locs) (hL : LI Z K N M R) {ls : Array Slot} (hl : lv_has ls 4 [(3, .int i), (2, .ref (s.heap.size + 69)), (1, .ref (s.heap.size + 0)), (0, .ref b)]) (kt : lw_KT p l e s m below meth c b D cy i) : W p l e room_1 s m #[Value.ref b] below meth c H locs 4000 500000 (lw_Z below #[Value.ref b] s) (F0 m 383 ls []) := by
  obtain ⟨hx, hb, hr, hml, hown, hW, hX, hbl, hlocks, hK, hT⟩ := C0
  have hbA : ¬ (fun q : Nat => s.heap.size ≤ q) b := Nat.not_le.mpr hbl
  refine lv_aload_n hx hb dL_law_383 rfl (lv_at hl 2 rfl) ?_
  refine lv_aload_n hx hb dL_law_384 rfl (lv_at hl 3 rfl) ?_
  refine lv_iload_n hx hb dL_law_385 rfl (lv_at hl 0 rfl) ?_
  refine lv_iconst (v := 1) hx hb dL_law_386 (by decide) ?_
  refine lv_iadd hx hb dL_law_387 ?_
  refine va_sld hx hb hX hbl hbA hG.2.2 (hI 1 ⟨by decide, by decide⟩) dL_law_388 ?_
  refine lv_aload_n hx hb dL_law_389 rfl (lv_at hl 3 rfl) ?_
  refine lv_iload_n hx hb dL_law_390 rfl (lv_at hl 0 rfl) ?_
  refine lv_iconst (v := 2) hx hb dL_law_391 (by decide) ?_
  refine lv_iadd hx hb dL_law_392 ?_
  refine va_sld hx hb hX hbl hbA hG.2.2 (hI 2 ⟨by decide, by decide⟩) dL_law_393 ?_
  refine lv_if_eq (tgt := 401) hx hb dL_law_394 (by decide) (fun _ => ?_) (fun _ => ?_)
  · refine lv_iconst (v := 0) hx hb dL_law_401 (by decide) ?_
    refine lw_goi hG hL (md_runV (As := [.int (xs (i + 1).toNatClampNeg), .int 0]) (rest := []) hx hb hml hown hW hK hT hG (t_X11_attends l D cy tx s.heap.size Z K N M R J hL.1.1 0 (show 0 < Z by have := hL.2.1.1.1; omega) hL.2.1.1.2.1 (xs (i + 1).toNatClampNeg) (iv_any _) 0 (iv_any _)) s_L_45 ⟨rfl, rfl, ⟨Nat.le_of_ble_eq_true rfl, Nat.le_of_ble_eq_true rfl⟩, Nat.le_of_ble_eq_true rfl, Nat.le_of_ble_eq_true rfl⟩ (show 0 < Z by have := hL.2.1.1.1; omega) hL.2.1.1.2.1 (by decide) rfl rfl hl.1 rfl (Nat.le_of_ble_eq_true rfl) dL_law_402) rfl (fun r1 H locs M1 R1 J1 hG hL => ?_)
    refine lv_pop hx hb dL_law_405 rfl ?_
    refine lv_aload_n hx hb dL_law_406 rfl (lv_at hl 1 rfl) ?_
    refine lv_aload_n hx hb dL_law_407 rfl (lv_at hl 3 rfl) ?_
    refine lv_iload_n hx hb dL_law_408 rfl (lv_at hl 0 rfl) ?_
    refine lv_iconst (v := 1) hx hb dL_law_409 (by decide) ?_
    refine lv_iadd hx hb dL_law_410 ?_
    refine va_sld hx hb hX hbl hbA hG.2.2 (hI 1 ⟨by decide, by decide⟩) dL_law_411 ?_
    refine lv_aload_n hx hb dL_law_412 rfl (lv_at hl 3 rfl) ?_
    refine lv_iload_n hx hb dL_law_413 rfl (lv_at hl 0 rfl) ?_
    refine lv_iconst (v := 2) hx hb dL_law_414 (by decide) ?_
    refine lv_iadd hx hb dL_law_415 ?_
    refine va_sld hx hb hX hbl hbA hG.2.2 (hI 2 ⟨by decide, by decide⟩) dL_law_416 ?_
    refine lv_if_eq (tgt := 424) hx hb dL_law_417 (by decide) (fun _ => ?_) (fun _ => ?_)
    · refine lv_iconst (v := 0) hx hb dL_law_424 (by decide) ?_
      refine lw_goi hG hL (md_runV (As := [.int (xs (i + 1).toNatClampNeg), .int 0]) (rest := []) hx hb hml hown hW hK hT hG (t_X12_attends l D cy tx s.heap.size Z K N M1 R1 J1 hL.1.1 69 (show 69 < Z by have := hL.2.1.1.1; omega) hL.2.1.1.2.2 (xs (i + 1).toNatClampNeg) (iv_any _) 0 (iv_any _)) s_L_49 ⟨rfl, rfl, ⟨Nat.le_of_ble_eq_true rfl, Nat.le_of_ble_eq_true rfl⟩, Nat.le_of_ble_eq_true rfl, Nat.le_of_ble_eq_true rfl⟩ (show 69 < Z by have := hL.2.1.1.1; omega) hL.2.1.1.2.2 (by decide) rfl rfl hl.1 rfl (Nat.le_of_ble_eq_true rfl) dL_law_425) rfl (fun r2 H locs M2 R2 J2 hG hL => ?_)
      refine lv_pop hx hb dL_law_428 rfl ?_
      refine lv_goto (tgt := 1157) hx hb dL_law_429 (by decide) ?_
      refine lw_tt hG hL ?_
      exact kt Z K N M2 R2 J2 H locs ls hG hL hl
    · refine lv_iconst (v := 1) hx hb dL_law_420 (by decide) ?_
      refine lv_goto (tgt := 425) hx hb dL_law_421 (by decide) ?_
      refine lw_goi hG hL (md_runV (As := [.int (xs (i + 1).toNatClampNeg), .int 1]) (rest := []) hx hb hml hown hW hK hT hG (t_X12_attends l D cy tx s.heap.size Z K N M1 R1 J1 hL.1.1 69 (show 69 < Z by have := hL.2.1.1.1; omega) hL.2.1.1.2.2 (xs (i + 1).toNatClampNeg) (iv_any _) 1 (iv_any _)) s_L_49 ⟨rfl, rfl, ⟨Nat.le_of_ble_eq_true rfl, Nat.le_of_ble_eq_true rfl⟩, Nat.le_of_ble_eq_true rfl, Nat.le_of_ble_eq_true rfl⟩ (show 69 < Z by have := hL.2.1.1.1; omega) hL.2.1.1.2.2 (by decide) rfl rfl hl.1 rfl (Nat.le_of_ble_eq_true rfl) dL_law_425) rfl (fun r2 H locs M2 R2 J2 hG hL => ?_)
      refine lv_pop hx hb dL_law_428 rfl ?_
      refine lv_goto (tgt := 1157) hx hb dL_law_429 (by decide) ?_
      refine lw_tt hG hL ?_
      exact kt Z K N M2 R2 J2 H locs ls hG hL hl
  · refine lv_iconst (v := 1) hx hb dL_law_397 (by decide) ?_
    refine lv_goto (tgt := 402) hx hb dL_law_398 (by decide) ?_
    refine lw_goi hG hL (md_runV (As := [.int (xs (i + 1).toNatClampNeg), .int 1]) (rest := []) hx hb hml hown hW hK hT hG (t_X11_attends l D cy tx s.heap.size Z K N M R J hL.1.1 0 (show 0 < Z by have := hL.2.1.1.1; omega) hL.2.1.1.2.1 (xs (i + 1).toNatClampNeg) (iv_any _) 1 (iv_any _)) s_L_45 ⟨rfl, rfl, ⟨Nat.le_of_ble_eq_true rfl, Nat.le_of_ble_eq_true rfl⟩, Nat.le_of_ble_eq_true rfl, Nat.le_of_ble_eq_true rfl⟩ (show 0 < Z by have := hL.2.1.1.1; omega) hL.2.1.1.2.1 (by decide) rfl rfl hl.1 rfl (Nat.le_of_ble_eq_true rfl) dL_law_402) rfl (fun r1 H locs M1 R1 J1 hG hL => ?_)
    refine lv_pop hx hb dL_law_405 rfl ?_
    refine lv_aload_n hx hb dL_law_406 rfl (lv_at hl 1 rfl) ?_
    refine lv_aload_n hx hb dL_law_407 rfl (lv_at hl 3 rfl) ?_
    refine lv_iload_n hx hb dL_law_408 rfl (lv_at hl 0 rfl) ?_
    refine lv_iconst (v := 1) hx hb dL_law_409 (by decide) ?_
    refine lv_iadd hx hb dL_law_410 ?_
    refine va_sld hx hb hX hbl hbA hG.2.2 (hI 1 ⟨by decide, by decide⟩) dL_law_411 ?_
    refine lv_aload_n hx hb dL_law_412 rfl (lv_at hl 3 rfl) ?_
    refine lv_iload_n hx hb dL_law_413 rfl (lv_at hl 0 rfl) ?_
    refine lv_iconst (v := 2) hx hb dL_law_414 (by decide) ?_
    refine lv_iadd hx hb dL_law_415 ?_
    refine va_sld hx hb hX hbl hbA hG.2.2 (hI 2 ⟨by decide, by decide⟩) dL_law_416 ?_
    refine lv_if_eq (tgt := 424) hx hb dL_law_417 (by decide) (fun _ => ?_) (fun _ => ?_)
    · refine lv_iconst (v := 0) hx hb dL_law_424 (by decide) ?_
      refine lw_goi hG hL (md_runV (As := [.int (xs (i + 1).toNatClampNeg), .int 0]) (rest := []) hx hb hml hown hW hK hT hG (t_X12_attends l D cy tx s.heap.size Z K N M1 R1 J1 hL.1.1 69 (show 69 < Z by have := hL.2.1.1.1; omega) hL.2.1.1.2.2 (xs (i + 1).toNatClampNeg) (iv_any _) 0 (iv_any _)) s_L_49 ⟨rfl, rfl, ⟨Nat.le_of_ble_eq_true rfl, Nat.le_of_ble_eq_true rfl⟩, Nat.le_of_ble_eq_true rfl, Nat.le_of_ble_eq_true rfl⟩ (show 69 < Z by have := hL.2.1.1.1; omega) hL.2.1.1.2.2 (by decide) rfl rfl hl.1 rfl (Nat.le_of_ble_eq_true rfl) dL_law_425) rfl (fun r2 H locs M2 R2 J2 hG hL => ?_)
      refine lv_pop hx hb dL_law_428 rfl ?_
      refine lv_goto (tgt := 1157) hx hb dL_law_429 (by decide) ?_
      refine lw_tt hG hL ?_
      exact kt Z K N M2 R2 J2 H locs ls hG hL hl
    · refine lv_iconst (v := 1) hx hb dL_law_420 (by decide) ?_
      refine lv_goto (tgt := 425) hx hb dL_law_421 (by decide) ?_
      refine lw_goi hG hL (md_runV (As := [.int (xs (i + 1).toNatClampNeg), .int 1]) (rest := []) hx hb hml hown hW hK hT hG (t_X12_attends l D cy tx s.heap.size Z K N M1 R1 J1 hL.1.1 69 (show 69 < Z by have := hL.2.1.1.1; omega) hL.2.1.1.2.2 (xs (i + 1).toNatClampNeg) (iv_any _) 1 (iv_any _)) s_L_49 ⟨rfl, rfl, ⟨Nat.le_of_ble_eq_true rfl, Nat.le_of_ble_eq_true rfl⟩, Nat.le_of_ble_eq_true rfl, Nat.le_of_ble_eq_true rfl⟩ (show 69 < Z by have := hL.2.1.1.1; omega) hL.2.1.1.2.2 (by decide) rfl rfl hl.1 rfl (Nat.le_of_ble_eq_true rfl) dL_law_425) rfl (fun r2 H locs M2 R2 J2 hG hL => ?_)
      refine lv_pop hx hb dL_law_428 rfl ?_
      refine lv_goto (tgt := 1157) hx hb dL_law_429 (by decide) ?_
      refine lw_tt hG hL ?_
      exact kt Z K N M2 R2 J2 H locs ls hG hL hl
end LAWC0
