section LAWC0
variable {p : Program} {l : Launch} {e : Env} {s : State} {m : MethodId} {below : List Frame} {meth : Method} {c : Code} {b : Nat} {xs : Nat → Int32} {D : va_G} {cy : Nat → ClassId} {tx : (Nat → Nat) × (Nat → Nat)}
set_option maxRecDepth 100000 in
set_option maxHeartbeats 4000000 in
theorem law_feed (C0 : lw_F p s m meth c b xs D cy tx) {H : Heap} {locs : List Loc} (hG : md_G D cy s.heap.size 104 KX NX M0 RX J0 s H locs) {ls : Array Slot} (hl : lv_has ls 4 [(3, .int 0), (2, .ref (s.heap.size + 69)), (1, .ref (s.heap.size + 0)), (0, .ref b)]) : W p l e room_1 s m #[Value.ref b] below meth c H locs 104 87680 (lw_Z below #[Value.ref b] s) (F0 m 172 ls []) := by
  have C1 := C0
  obtain ⟨hx, hb, hr, hml, hown, hW, hX, hbl, hlocks, hK, hT⟩ := C1
  have hbA : ¬ (fun q : Nat => s.heap.size ≤ q) b := Nat.not_le.mpr hbl
  refine lv_aload_n hx hb dL_law_172 rfl (lv_at hl 2 rfl) ?_
  refine lv_aload_n hx hb dL_law_173 rfl (lv_at hl 3 rfl) ?_
  refine lv_iload_n hx hb dL_law_174 rfl (lv_at hl 0 rfl) ?_
  refine lv_iconst (v := 1) hx hb dL_law_175 (by decide) ?_
  refine lv_iadd hx hb dL_law_176 ?_
  refine md_top (y := 1) (by decide) ?_
  refine va_sld hx hb hX hbl hbA hG.2.2 (md_inD (by decide)) dL_law_177 ?_
  refine md_top (y := xs 1) (congrArg xs (by decide)) ?_
  refine lv_aload_n hx hb dL_law_178 rfl (lv_at hl 3 rfl) ?_
  refine lv_iload_n hx hb dL_law_179 rfl (lv_at hl 0 rfl) ?_
  refine lv_iconst (v := 2) hx hb dL_law_180 (by decide) ?_
  refine lv_iadd hx hb dL_law_181 ?_
  refine md_top (y := 2) (by decide) ?_
  refine va_sld hx hb hX hbl hbA hG.2.2 (md_inD (by decide)) dL_law_182 ?_
  refine md_top (y := xs 2) (congrArg xs (by decide)) ?_
  refine lv_aload_n hx hb dL_law_183 rfl (lv_at hl 3 rfl) ?_
  refine lv_iload_n hx hb dL_law_184 rfl (lv_at hl 0 rfl) ?_
  refine lv_iconst (v := 3) hx hb dL_law_185 (by decide) ?_
  refine lv_iadd hx hb dL_law_186 ?_
  refine md_top (y := 3) (by decide) ?_
  refine va_sld hx hb hX hbl hbA hG.2.2 (md_inD (by decide)) dL_law_187 ?_
  refine md_top (y := xs 3) (congrArg xs (by decide)) ?_
  refine lv_aload_n hx hb dL_law_188 rfl (lv_at hl 3 rfl) ?_
  refine lv_iload_n hx hb dL_law_189 rfl (lv_at hl 0 rfl) ?_
  refine lv_iconst (v := 4) hx hb dL_law_190 (by decide) ?_
  refine lv_iadd hx hb dL_law_191 ?_
  refine md_top (y := 4) (by decide) ?_
  refine va_sld hx hb hX hbl hbA hG.2.2 (md_inD (by decide)) dL_law_192 ?_
  refine md_top (y := xs 4) (congrArg xs (by decide)) ?_
  refine lv_aload_n hx hb dL_law_193 rfl (lv_at hl 3 rfl) ?_
  refine lv_iload_n hx hb dL_law_194 rfl (lv_at hl 0 rfl) ?_
  refine lv_iconst (v := 5) hx hb dL_law_195 (by decide) ?_
  refine lv_iadd hx hb dL_law_196 ?_
  refine md_top (y := 5) (by decide) ?_
  refine va_sld hx hb hX hbl hbA hG.2.2 (md_inD (by decide)) dL_law_197 ?_
  refine md_top (y := xs 5) (congrArg xs (by decide)) ?_
  refine md_goi hG (md_runV (As := [.int (xs 1), .int (xs 2), .int (xs 3), .int (xs 4), .int (xs 5)]) (rest := []) hx hb hml hown hW hK hT hG (c_X11_feed l D cy tx s.heap.size 104 KX NX M0 RX J0 (by decide) rfl rfl rfl rfl rfl (xs 1) (xs 2) (xs 3) (xs 4) (xs 5) ) s_L_13 ⟨rfl, rfl, ⟨Nat.le_of_ble_eq_true rfl, Nat.le_of_ble_eq_true rfl⟩, Nat.le_of_ble_eq_true rfl, Nat.le_of_ble_eq_true rfl⟩ (by decide) rfl (by decide) rfl rfl hl.1 rfl (Nat.le_of_ble_eq_true rfl) dL_law_198) (fun r u H locs hp hG => ?_)
  obtain ⟨rfl, rfl⟩ := hp
  have hG : md_G D cy s.heap.size 104 KX NX (u2 (u2 (u2 (u2 (u2 (u2 (u2 (u2 (u2 (u2 (u2 (u2 (u2 (u2 (u2 (u2 (u2 (u2 (u2 (u2 (u2 (u2 (u2 (u2 (u2 (u2 (u2 (u2 (u2 (u2 (u2 (u2 (u2 (u2 (u2 (u2 (u2 (u2 (u2 (u2 M0 1 0 (vp_nar .byte (((xs 1) >>> (24 &&& 31)).toInt8.toInt32))) 0 1 1) 1 1 (vp_nar .byte (((xs 1) >>> (16 &&& 31)).toInt8.toInt32))) 0 1 2) 1 2 (vp_nar .byte (((xs 1) >>> (8 &&& 31)).toInt8.toInt32))) 0 1 3) 1 3 (vp_nar .byte (((xs 1) >>> (0 &&& 31)).toInt8.toInt32))) 0 1 4) 1 4 (vp_nar .byte (((xs 2) >>> (24 &&& 31)).toInt8.toInt32))) 0 1 5) 1 5 (vp_nar .byte (((xs 2) >>> (16 &&& 31)).toInt8.toInt32))) 0 1 6) 1 6 (vp_nar .byte (((xs 2) >>> (8 &&& 31)).toInt8.toInt32))) 0 1 7) 1 7 (vp_nar .byte (((xs 2) >>> (0 &&& 31)).toInt8.toInt32))) 0 1 8) 1 8 (vp_nar .byte (((xs 3) >>> (24 &&& 31)).toInt8.toInt32))) 0 1 9) 1 9 (vp_nar .byte (((xs 3) >>> (16 &&& 31)).toInt8.toInt32))) 0 1 10) 1 10 (vp_nar .byte (((xs 3) >>> (8 &&& 31)).toInt8.toInt32))) 0 1 11) 1 11 (vp_nar .byte (((xs 3) >>> (0 &&& 31)).toInt8.toInt32))) 0 1 12) 1 12 (vp_nar .byte (((xs 4) >>> (24 &&& 31)).toInt8.toInt32))) 0 1 13) 1 13 (vp_nar .byte (((xs 4) >>> (16 &&& 31)).toInt8.toInt32))) 0 1 14) 1 14 (vp_nar .byte (((xs 4) >>> (8 &&& 31)).toInt8.toInt32))) 0 1 15) 1 15 (vp_nar .byte (((xs 4) >>> (0 &&& 31)).toInt8.toInt32))) 0 1 16) 1 16 (vp_nar .byte (((xs 5) >>> (24 &&& 31)).toInt8.toInt32))) 0 1 17) 1 17 (vp_nar .byte (((xs 5) >>> (16 &&& 31)).toInt8.toInt32))) 0 1 18) 1 18 (vp_nar .byte (((xs 5) >>> (8 &&& 31)).toInt8.toInt32))) 0 1 19) 1 19 (vp_nar .byte (((xs 5) >>> (0 &&& 31)).toInt8.toInt32))) 0 1 20) RX J0 s H locs := hG
  refine lv_aload_n hx hb dL_law_201 rfl (lv_at hl 1 rfl) ?_
  refine lv_aload_n hx hb dL_law_202 rfl (lv_at hl 3 rfl) ?_
  refine lv_iload_n hx hb dL_law_203 rfl (lv_at hl 0 rfl) ?_
  refine lv_iconst (v := 1) hx hb dL_law_204 (by decide) ?_
  refine lv_iadd hx hb dL_law_205 ?_
  refine md_top (y := 1) (by decide) ?_
  refine va_sld hx hb hX hbl hbA hG.2.2 (md_inD (by decide)) dL_law_206 ?_
  refine md_top (y := xs 1) (congrArg xs (by decide)) ?_
  refine lv_aload_n hx hb dL_law_207 rfl (lv_at hl 3 rfl) ?_
  refine lv_iload_n hx hb dL_law_208 rfl (lv_at hl 0 rfl) ?_
  refine lv_iconst (v := 2) hx hb dL_law_209 (by decide) ?_
  refine lv_iadd hx hb dL_law_210 ?_
  refine md_top (y := 2) (by decide) ?_
  refine va_sld hx hb hX hbl hbA hG.2.2 (md_inD (by decide)) dL_law_211 ?_
  refine md_top (y := xs 2) (congrArg xs (by decide)) ?_
  refine lv_aload_n hx hb dL_law_212 rfl (lv_at hl 3 rfl) ?_
  refine lv_iload_n hx hb dL_law_213 rfl (lv_at hl 0 rfl) ?_
  refine lv_iconst (v := 3) hx hb dL_law_214 (by decide) ?_
  refine lv_iadd hx hb dL_law_215 ?_
  refine md_top (y := 3) (by decide) ?_
  refine va_sld hx hb hX hbl hbA hG.2.2 (md_inD (by decide)) dL_law_216 ?_
  refine md_top (y := xs 3) (congrArg xs (by decide)) ?_
  refine lv_aload_n hx hb dL_law_217 rfl (lv_at hl 3 rfl) ?_
  refine lv_iload_n hx hb dL_law_218 rfl (lv_at hl 0 rfl) ?_
  refine lv_iconst (v := 4) hx hb dL_law_219 (by decide) ?_
  refine lv_iadd hx hb dL_law_220 ?_
  refine md_top (y := 4) (by decide) ?_
  refine va_sld hx hb hX hbl hbA hG.2.2 (md_inD (by decide)) dL_law_221 ?_
  refine md_top (y := xs 4) (congrArg xs (by decide)) ?_
  refine lv_aload_n hx hb dL_law_222 rfl (lv_at hl 3 rfl) ?_
  refine lv_iload_n hx hb dL_law_223 rfl (lv_at hl 0 rfl) ?_
  refine lv_iconst (v := 5) hx hb dL_law_224 (by decide) ?_
  refine lv_iadd hx hb dL_law_225 ?_
  refine md_top (y := 5) (by decide) ?_
  refine va_sld hx hb hX hbl hbA hG.2.2 (md_inD (by decide)) dL_law_226 ?_
  refine md_top (y := xs 5) (congrArg xs (by decide)) ?_
  refine md_goi hG (md_runV (As := [.int (xs 1), .int (xs 2), .int (xs 3), .int (xs 4), .int (xs 5)]) (rest := [.int 20]) hx hb hml hown hW hK hT hG (c_X12_feed l D cy tx s.heap.size 104 KX NX (u2 (u2 (u2 (u2 (u2 (u2 (u2 (u2 (u2 (u2 (u2 (u2 (u2 (u2 (u2 (u2 (u2 (u2 (u2 (u2 (u2 (u2 (u2 (u2 (u2 (u2 (u2 (u2 (u2 (u2 (u2 (u2 (u2 (u2 (u2 (u2 (u2 (u2 (u2 (u2 M0 1 0 (vp_nar .byte (((xs 1) >>> (24 &&& 31)).toInt8.toInt32))) 0 1 1) 1 1 (vp_nar .byte (((xs 1) >>> (16 &&& 31)).toInt8.toInt32))) 0 1 2) 1 2 (vp_nar .byte (((xs 1) >>> (8 &&& 31)).toInt8.toInt32))) 0 1 3) 1 3 (vp_nar .byte (((xs 1) >>> (0 &&& 31)).toInt8.toInt32))) 0 1 4) 1 4 (vp_nar .byte (((xs 2) >>> (24 &&& 31)).toInt8.toInt32))) 0 1 5) 1 5 (vp_nar .byte (((xs 2) >>> (16 &&& 31)).toInt8.toInt32))) 0 1 6) 1 6 (vp_nar .byte (((xs 2) >>> (8 &&& 31)).toInt8.toInt32))) 0 1 7) 1 7 (vp_nar .byte (((xs 2) >>> (0 &&& 31)).toInt8.toInt32))) 0 1 8) 1 8 (vp_nar .byte (((xs 3) >>> (24 &&& 31)).toInt8.toInt32))) 0 1 9) 1 9 (vp_nar .byte (((xs 3) >>> (16 &&& 31)).toInt8.toInt32))) 0 1 10) 1 10 (vp_nar .byte (((xs 3) >>> (8 &&& 31)).toInt8.toInt32))) 0 1 11) 1 11 (vp_nar .byte (((xs 3) >>> (0 &&& 31)).toInt8.toInt32))) 0 1 12) 1 12 (vp_nar .byte (((xs 4) >>> (24 &&& 31)).toInt8.toInt32))) 0 1 13) 1 13 (vp_nar .byte (((xs 4) >>> (16 &&& 31)).toInt8.toInt32))) 0 1 14) 1 14 (vp_nar .byte (((xs 4) >>> (8 &&& 31)).toInt8.toInt32))) 0 1 15) 1 15 (vp_nar .byte (((xs 4) >>> (0 &&& 31)).toInt8.toInt32))) 0 1 16) 1 16 (vp_nar .byte (((xs 5) >>> (24 &&& 31)).toInt8.toInt32))) 0 1 17) 1 17 (vp_nar .byte (((xs 5) >>> (16 &&& 31)).toInt8.toInt32))) 0 1 18) 1 18 (vp_nar .byte (((xs 5) >>> (8 &&& 31)).toInt8.toInt32))) 0 1 19) 1 19 (vp_nar .byte (((xs 5) >>> (0 &&& 31)).toInt8.toInt32))) 0 1 20) RX J0 (by decide) rfl rfl rfl rfl rfl (xs 1) (xs 2) (xs 3) (xs 4) (xs 5) ) s_L_17 ⟨rfl, rfl, ⟨Nat.le_of_ble_eq_true rfl, Nat.le_of_ble_eq_true rfl⟩, Nat.le_of_ble_eq_true rfl, Nat.le_of_ble_eq_true rfl⟩ (by decide) rfl (by decide) rfl rfl hl.1 rfl (Nat.le_of_ble_eq_true rfl) dL_law_227) (fun r u H locs hp hG => ?_)
  obtain ⟨rfl, rfl⟩ := hp
  have hG : md_G D cy s.heap.size 104 KX NX (u2 (u2 (u2 (u2 (u2 (u2 (u2 (u2 (u2 (u2 (u2 (u2 (u2 (u2 (u2 (u2 (u2 (u2 (u2 (u2 (u2 (u2 (u2 (u2 (u2 (u2 (u2 (u2 (u2 (u2 (u2 (u2 (u2 (u2 (u2 (u2 (u2 (u2 (u2 (u2 (u2 (u2 (u2 (u2 (u2 (u2 (u2 (u2 (u2 (u2 (u2 (u2 (u2 (u2 (u2 (u2 (u2 (u2 (u2 (u2 (u2 (u2 (u2 (u2 (u2 (u2 (u2 (u2 (u2 (u2 (u2 (u2 (u2 (u2 (u2 (u2 (u2 (u2 (u2 (u2 M0 1 0 (vp_nar .byte (((xs 1) >>> (24 &&& 31)).toInt8.toInt32))) 0 1 1) 1 1 (vp_nar .byte (((xs 1) >>> (16 &&& 31)).toInt8.toInt32))) 0 1 2) 1 2 (vp_nar .byte (((xs 1) >>> (8 &&& 31)).toInt8.toInt32))) 0 1 3) 1 3 (vp_nar .byte (((xs 1) >>> (0 &&& 31)).toInt8.toInt32))) 0 1 4) 1 4 (vp_nar .byte (((xs 2) >>> (24 &&& 31)).toInt8.toInt32))) 0 1 5) 1 5 (vp_nar .byte (((xs 2) >>> (16 &&& 31)).toInt8.toInt32))) 0 1 6) 1 6 (vp_nar .byte (((xs 2) >>> (8 &&& 31)).toInt8.toInt32))) 0 1 7) 1 7 (vp_nar .byte (((xs 2) >>> (0 &&& 31)).toInt8.toInt32))) 0 1 8) 1 8 (vp_nar .byte (((xs 3) >>> (24 &&& 31)).toInt8.toInt32))) 0 1 9) 1 9 (vp_nar .byte (((xs 3) >>> (16 &&& 31)).toInt8.toInt32))) 0 1 10) 1 10 (vp_nar .byte (((xs 3) >>> (8 &&& 31)).toInt8.toInt32))) 0 1 11) 1 11 (vp_nar .byte (((xs 3) >>> (0 &&& 31)).toInt8.toInt32))) 0 1 12) 1 12 (vp_nar .byte (((xs 4) >>> (24 &&& 31)).toInt8.toInt32))) 0 1 13) 1 13 (vp_nar .byte (((xs 4) >>> (16 &&& 31)).toInt8.toInt32))) 0 1 14) 1 14 (vp_nar .byte (((xs 4) >>> (8 &&& 31)).toInt8.toInt32))) 0 1 15) 1 15 (vp_nar .byte (((xs 4) >>> (0 &&& 31)).toInt8.toInt32))) 0 1 16) 1 16 (vp_nar .byte (((xs 5) >>> (24 &&& 31)).toInt8.toInt32))) 0 1 17) 1 17 (vp_nar .byte (((xs 5) >>> (16 &&& 31)).toInt8.toInt32))) 0 1 18) 1 18 (vp_nar .byte (((xs 5) >>> (8 &&& 31)).toInt8.toInt32))) 0 1 19) 1 19 (vp_nar .byte (((xs 5) >>> (0 &&& 31)).toInt8.toInt32))) 0 1 20) 70 0 (vp_nar .byte (((xs 1) >>> (24 &&& 31)).toInt8.toInt32))) 69 1 1) 70 1 (vp_nar .byte (((xs 1) >>> (16 &&& 31)).toInt8.toInt32))) 69 1 2) 70 2 (vp_nar .byte (((xs 1) >>> (8 &&& 31)).toInt8.toInt32))) 69 1 3) 70 3 (vp_nar .byte (((xs 1) >>> (0 &&& 31)).toInt8.toInt32))) 69 1 4) 70 4 (vp_nar .byte (((xs 2) >>> (24 &&& 31)).toInt8.toInt32))) 69 1 5) 70 5 (vp_nar .byte (((xs 2) >>> (16 &&& 31)).toInt8.toInt32))) 69 1 6) 70 6 (vp_nar .byte (((xs 2) >>> (8 &&& 31)).toInt8.toInt32))) 69 1 7) 70 7 (vp_nar .byte (((xs 2) >>> (0 &&& 31)).toInt8.toInt32))) 69 1 8) 70 8 (vp_nar .byte (((xs 3) >>> (24 &&& 31)).toInt8.toInt32))) 69 1 9) 70 9 (vp_nar .byte (((xs 3) >>> (16 &&& 31)).toInt8.toInt32))) 69 1 10) 70 10 (vp_nar .byte (((xs 3) >>> (8 &&& 31)).toInt8.toInt32))) 69 1 11) 70 11 (vp_nar .byte (((xs 3) >>> (0 &&& 31)).toInt8.toInt32))) 69 1 12) 70 12 (vp_nar .byte (((xs 4) >>> (24 &&& 31)).toInt8.toInt32))) 69 1 13) 70 13 (vp_nar .byte (((xs 4) >>> (16 &&& 31)).toInt8.toInt32))) 69 1 14) 70 14 (vp_nar .byte (((xs 4) >>> (8 &&& 31)).toInt8.toInt32))) 69 1 15) 70 15 (vp_nar .byte (((xs 4) >>> (0 &&& 31)).toInt8.toInt32))) 69 1 16) 70 16 (vp_nar .byte (((xs 5) >>> (24 &&& 31)).toInt8.toInt32))) 69 1 17) 70 17 (vp_nar .byte (((xs 5) >>> (16 &&& 31)).toInt8.toInt32))) 69 1 18) 70 18 (vp_nar .byte (((xs 5) >>> (8 &&& 31)).toInt8.toInt32))) 69 1 19) 70 19 (vp_nar .byte (((xs 5) >>> (0 &&& 31)).toInt8.toInt32))) 69 1 20) RX J0 s H locs := hG
  refine lv_icmp_eq (tgt := 1157) hx hb dL_law_230 (by decide) (fun _ => ?_) (fun h => absurd rfl h)
  exact law_tail C0 (Nat.le_of_ble_eq_true rfl) (Nat.le_of_ble_eq_true rfl) hG (lv_sub hl [0, 3] rfl)
set_option maxRecDepth 100000 in
set_option maxHeartbeats 4000000 in
theorem law_end (C0 : lw_F p s m meth c b xs D cy tx) {H : Heap} {locs : List Loc} (hG : md_G D cy s.heap.size 104 KX NX M0 RX J0 s H locs) {ls : Array Slot} (hl : lv_has ls 4 [(3, .int 0), (2, .ref (s.heap.size + 69)), (1, .ref (s.heap.size + 0)), (0, .ref b)]) : W p l e room_1 s m #[Value.ref b] below meth c H locs 104 87680 (lw_Z below #[Value.ref b] s) (F0 m 235 ls []) := by
  have C1 := C0
  obtain ⟨hx, hb, hr, hml, hown, hW, hX, hbl, hlocks, hK, hT⟩ := C1
  have hbA : ¬ (fun q : Nat => s.heap.size ≤ q) b := Nat.not_le.mpr hbl
  refine lv_aload_n hx hb dL_law_235 rfl (lv_at hl 2 rfl) ?_
  refine lv_aload_n hx hb dL_law_236 rfl (lv_at hl 3 rfl) ?_
  refine lv_iload_n hx hb dL_law_237 rfl (lv_at hl 0 rfl) ?_
  refine lv_iconst (v := 1) hx hb dL_law_238 (by decide) ?_
  refine lv_iadd hx hb dL_law_239 ?_
  refine md_top (y := 1) (by decide) ?_
  refine va_sld hx hb hX hbl hbA hG.2.2 (md_inD (by decide)) dL_law_240 ?_
  refine md_top (y := xs 1) (congrArg xs (by decide)) ?_
  by_cases h1 : xs 1 < 0
  · refine md_goi hG (md_runV (As := [.int (xs 1)]) (rest := []) hx hb hml hown hW hK hT hG (c_X11_end l D cy tx s.heap.size 104 KX NX M0 RX J0 (by decide)  (xs 1) h1) s_L_18 ⟨rfl, rfl, ⟨Nat.le_of_ble_eq_true rfl, Nat.le_of_ble_eq_true rfl⟩, Nat.le_of_ble_eq_true rfl, Nat.le_of_ble_eq_true rfl⟩ (by decide) rfl (by decide) rfl rfl hl.1 rfl (Nat.le_of_ble_eq_true rfl) dL_law_241) (fun r u H locs hp hG => ?_)
    obtain ⟨rfl, rfl⟩ := hp
    have hG : md_G D cy s.heap.size 104 KX NX M0 RX J0 s H locs := hG
    refine lv_aload_n hx hb dL_law_244 rfl (lv_at hl 1 rfl) ?_
    refine lv_aload_n hx hb dL_law_245 rfl (lv_at hl 3 rfl) ?_
    refine lv_iload_n hx hb dL_law_246 rfl (lv_at hl 0 rfl) ?_
    refine lv_iconst (v := 1) hx hb dL_law_247 (by decide) ?_
    refine lv_iadd hx hb dL_law_248 ?_
    refine md_top (y := 1) (by decide) ?_
    refine va_sld hx hb hX hbl hbA hG.2.2 (md_inD (by decide)) dL_law_249 ?_
    refine md_top (y := xs 1) (congrArg xs (by decide)) ?_
    refine md_goi hG (md_runV (As := [.int (xs 1)]) (rest := [.int (-1)]) hx hb hml hown hW hK hT hG (c_X12_end l D cy tx s.heap.size 104 KX NX M0 RX J0 (by decide)  (xs 1) h1) s_L_22 ⟨rfl, rfl, ⟨Nat.le_of_ble_eq_true rfl, Nat.le_of_ble_eq_true rfl⟩, Nat.le_of_ble_eq_true rfl, Nat.le_of_ble_eq_true rfl⟩ (by decide) rfl (by decide) rfl rfl hl.1 rfl (Nat.le_of_ble_eq_true rfl) dL_law_250) (fun r u H locs hp hG => ?_)
    obtain ⟨rfl, rfl⟩ := hp
    have hG : md_G D cy s.heap.size 104 KX NX M0 RX J0 s H locs := hG
    refine lv_icmp_eq (tgt := 1157) hx hb dL_law_253 (by decide) (fun _ => ?_) (fun h => absurd rfl h)
    exact law_tail C0 (Nat.le_of_ble_eq_true rfl) (Nat.le_of_ble_eq_true rfl) hG (lv_sub hl [0, 3] rfl)
  · by_cases h2 : xs 1 ≤ 0
    · refine md_goi hG (md_runV (As := [.int (xs 1)]) (rest := []) hx hb hml hown hW hK hT hG (c_X11_end_3 l D cy tx s.heap.size 104 KX NX M0 RX J0 (by decide) rfl rfl (xs 1) h1 h2) s_L_18 ⟨rfl, rfl, ⟨Nat.le_of_ble_eq_true rfl, Nat.le_of_ble_eq_true rfl⟩, Nat.le_of_ble_eq_true rfl, Nat.le_of_ble_eq_true rfl⟩ (by decide) rfl (by decide) rfl rfl hl.1 rfl (Nat.le_of_ble_eq_true rfl) dL_law_241) (fun r u H locs hp hG => ?_)
      obtain ⟨rfl, rfl⟩ := hp
      have hG : md_G D cy s.heap.size 104 KX NX (u2 M0 0 1 (xs 1)) RX J0 s H locs := hG
      refine lv_aload_n hx hb dL_law_244 rfl (lv_at hl 1 rfl) ?_
      refine lv_aload_n hx hb dL_law_245 rfl (lv_at hl 3 rfl) ?_
      refine lv_iload_n hx hb dL_law_246 rfl (lv_at hl 0 rfl) ?_
      refine lv_iconst (v := 1) hx hb dL_law_247 (by decide) ?_
      refine lv_iadd hx hb dL_law_248 ?_
      refine md_top (y := 1) (by decide) ?_
      refine va_sld hx hb hX hbl hbA hG.2.2 (md_inD (by decide)) dL_law_249 ?_
      refine md_top (y := xs 1) (congrArg xs (by decide)) ?_
      refine md_goi hG (md_runV (As := [.int (xs 1)]) (rest := [.int (xs 1)]) hx hb hml hown hW hK hT hG (c_X12_end_3 l D cy tx s.heap.size 104 KX NX (u2 M0 0 1 (xs 1)) RX J0 (by decide) rfl rfl (xs 1) h1 h2) s_L_22 ⟨rfl, rfl, ⟨Nat.le_of_ble_eq_true rfl, Nat.le_of_ble_eq_true rfl⟩, Nat.le_of_ble_eq_true rfl, Nat.le_of_ble_eq_true rfl⟩ (by decide) rfl (by decide) rfl rfl hl.1 rfl (Nat.le_of_ble_eq_true rfl) dL_law_250) (fun r u H locs hp hG => ?_)
      obtain ⟨rfl, rfl⟩ := hp
      have hG : md_G D cy s.heap.size 104 KX NX (u2 (u2 M0 0 1 (xs 1)) 69 1 (xs 1)) RX J0 s H locs := hG
      refine lv_icmp_eq (tgt := 1157) hx hb dL_law_253 (by decide) (fun _ => ?_) (fun h => absurd rfl h)
      exact law_tail C0 (Nat.le_of_ble_eq_true rfl) (Nat.le_of_ble_eq_true rfl) hG (lv_sub hl [0, 3] rfl)
    · refine md_goi hG (md_runV (As := [.int (xs 1)]) (rest := []) hx hb hml hown hW hK hT hG (c_X11_end_2 l D cy tx s.heap.size 104 KX NX M0 RX J0 (by decide) rfl rfl (xs 1) h1 h2) s_L_18 ⟨rfl, rfl, ⟨Nat.le_of_ble_eq_true rfl, Nat.le_of_ble_eq_true rfl⟩, Nat.le_of_ble_eq_true rfl, Nat.le_of_ble_eq_true rfl⟩ (by decide) rfl (by decide) rfl rfl hl.1 rfl (Nat.le_of_ble_eq_true rfl) dL_law_241) (fun r u H locs hp hG => ?_)
      obtain ⟨rfl, rfl⟩ := hp
      have hG : md_G D cy s.heap.size 104 KX NX M0 RX J0 s H locs := hG
      refine lv_aload_n hx hb dL_law_244 rfl (lv_at hl 1 rfl) ?_
      refine lv_aload_n hx hb dL_law_245 rfl (lv_at hl 3 rfl) ?_
      refine lv_iload_n hx hb dL_law_246 rfl (lv_at hl 0 rfl) ?_
      refine lv_iconst (v := 1) hx hb dL_law_247 (by decide) ?_
      refine lv_iadd hx hb dL_law_248 ?_
      refine md_top (y := 1) (by decide) ?_
      refine va_sld hx hb hX hbl hbA hG.2.2 (md_inD (by decide)) dL_law_249 ?_
      refine md_top (y := xs 1) (congrArg xs (by decide)) ?_
      refine md_goi hG (md_runV (As := [.int (xs 1)]) (rest := [.int (-1)]) hx hb hml hown hW hK hT hG (c_X12_end_2 l D cy tx s.heap.size 104 KX NX M0 RX J0 (by decide) rfl rfl (xs 1) h1 h2) s_L_22 ⟨rfl, rfl, ⟨Nat.le_of_ble_eq_true rfl, Nat.le_of_ble_eq_true rfl⟩, Nat.le_of_ble_eq_true rfl, Nat.le_of_ble_eq_true rfl⟩ (by decide) rfl (by decide) rfl rfl hl.1 rfl (Nat.le_of_ble_eq_true rfl) dL_law_250) (fun r u H locs hp hG => ?_)
      obtain ⟨rfl, rfl⟩ := hp
      have hG : md_G D cy s.heap.size 104 KX NX M0 RX J0 s H locs := hG
      refine lv_icmp_eq (tgt := 1157) hx hb dL_law_253 (by decide) (fun _ => ?_) (fun h => absurd rfl h)
      exact law_tail C0 (Nat.le_of_ble_eq_true rfl) (Nat.le_of_ble_eq_true rfl) hG (lv_sub hl [0, 3] rfl)
set_option maxRecDepth 100000 in
set_option maxHeartbeats 4000000 in
theorem law_council (C0 : lw_F p s m meth c b xs D cy tx) {H : Heap} {locs : List Loc} (hG : md_G D cy s.heap.size 104 KX NX M0 RX J0 s H locs) {ls : Array Slot} (hl : lv_has ls 4 [(3, .int 0), (2, .ref (s.heap.size + 69)), (1, .ref (s.heap.size + 0)), (0, .ref b)]) : W p l e room_1 s m #[Value.ref b] below meth c H locs 104 87680 (lw_Z below #[Value.ref b] s) (F0 m 258 ls []) := by
  have C1 := C0
  obtain ⟨hx, hb, hr, hml, hown, hW, hX, hbl, hlocks, hK, hT⟩ := C1
  have hbA : ¬ (fun q : Nat => s.heap.size ≤ q) b := Nat.not_le.mpr hbl
  refine lv_aload_n hx hb dL_law_258 rfl (lv_at hl 2 rfl) ?_
  refine md_goi hG (md_runV (As := []) (rest := []) hx hb hml hown hW hK hT hG (c_X11_council l D cy tx s.heap.size 104 KX NX M0 RX J0 (by decide) rfl rfl rfl rfl rfl rfl rfl rfl rfl rfl rfl rfl rfl rfl rfl rfl rfl rfl rfl rfl rfl  ) s_L_23 ⟨rfl, rfl, ⟨Nat.le_of_ble_eq_true rfl, Nat.le_of_ble_eq_true rfl⟩, Nat.le_of_ble_eq_true rfl, Nat.le_of_ble_eq_true rfl⟩ (by decide) rfl (by decide) rfl rfl hl.1 rfl (Nat.le_of_ble_eq_true rfl) dL_law_259) (fun r u H locs hp hG => ?_)
  obtain ⟨rfl, rfl⟩ := hp
  have hG : md_G D cy s.heap.size 104 KX NX (u2 (u2 (u2 (u2 (u2 (u2 (u2 (u2 (u2 (u2 (u2 (u2 (u2 (u2 (u2 (u2 (u2 (u2 (u2 (u2 (u2 (u2 (u2 (u2 (u2 (u2 (u2 (u2 (u2 (u2 (u2 (u2 (u2 (u2 (u2 (u2 (u2 (u2 (u2 (u2 (u2 (u2 (u2 (u2 (u2 (u2 (u2 (u2 (u2 (u2 (u2 (u2 (u2 (u2 (u2 M0 14 1 0) 14 2 0) 14 3 0) 15 0 0) 15 1 0) 15 2 0) 15 3 0) 15 4 0) 15 5 9999) 15 7 0) 15 8 0) 17 0 1) 18 0 (-1)) 19 0 0) 20 0 0) 17 1 1) 18 1 (-1)) 19 1 0) 20 1 0) 17 2 1) 18 2 (-1)) 19 2 0) 20 2 0) 17 3 1) 18 3 (-1)) 19 3 0) 20 3 0) 17 4 1) 18 4 (-1)) 19 4 0) 20 4 0) 17 5 1) 18 5 (-1)) 19 5 0) 20 5 0) 17 6 1) 18 6 (-1)) 19 6 0) 20 6 0) 17 7 1) 18 7 (-1)) 19 7 0) 20 7 0) 17 8 1) 18 8 (-1)) 19 8 0) 20 8 0) 17 9 1) 18 9 (-1)) 19 9 0) 20 9 0) 14 6 0) 14 4 0) 14 3 1) 15 2 0) (u2 RX 14 0 (some 1)) J0 s H locs := hG
  refine lv_aload_n hx hb dL_law_262 rfl (lv_at hl 1 rfl) ?_
  refine md_goi hG (md_runV (As := []) (rest := [.int (-3)]) hx hb hml hown hW hK hT hG (c_X12_council l D cy tx s.heap.size 104 KX NX (u2 (u2 (u2 (u2 (u2 (u2 (u2 (u2 (u2 (u2 (u2 (u2 (u2 (u2 (u2 (u2 (u2 (u2 (u2 (u2 (u2 (u2 (u2 (u2 (u2 (u2 (u2 (u2 (u2 (u2 (u2 (u2 (u2 (u2 (u2 (u2 (u2 (u2 (u2 (u2 (u2 (u2 (u2 (u2 (u2 (u2 (u2 (u2 (u2 (u2 (u2 (u2 (u2 (u2 (u2 M0 14 1 0) 14 2 0) 14 3 0) 15 0 0) 15 1 0) 15 2 0) 15 3 0) 15 4 0) 15 5 9999) 15 7 0) 15 8 0) 17 0 1) 18 0 (-1)) 19 0 0) 20 0 0) 17 1 1) 18 1 (-1)) 19 1 0) 20 1 0) 17 2 1) 18 2 (-1)) 19 2 0) 20 2 0) 17 3 1) 18 3 (-1)) 19 3 0) 20 3 0) 17 4 1) 18 4 (-1)) 19 4 0) 20 4 0) 17 5 1) 18 5 (-1)) 19 5 0) 20 5 0) 17 6 1) 18 6 (-1)) 19 6 0) 20 6 0) 17 7 1) 18 7 (-1)) 19 7 0) 20 7 0) 17 8 1) 18 8 (-1)) 19 8 0) 20 8 0) 17 9 1) 18 9 (-1)) 19 9 0) 20 9 0) 14 6 0) 14 4 0) 14 3 1) 15 2 0) (u2 RX 14 0 (some 1)) J0 (by decide) rfl rfl rfl rfl rfl rfl rfl rfl rfl rfl rfl  ) s_L_27 ⟨rfl, rfl, ⟨Nat.le_of_ble_eq_true rfl, Nat.le_of_ble_eq_true rfl⟩, Nat.le_of_ble_eq_true rfl, Nat.le_of_ble_eq_true rfl⟩ (by decide) rfl (by decide) rfl rfl hl.1 rfl (Nat.le_of_ble_eq_true rfl) dL_law_263) (fun r u H locs hp hG => ?_)
  obtain ⟨rfl, rfl⟩ := hp
  have hG : md_G D cy s.heap.size 104 KX NX (u2 (u2 (u2 (u2 (u2 (u2 (u2 (u2 (u2 (u2 (u2 (u2 (u2 (u2 (u2 (u2 (u2 (u2 (u2 (u2 (u2 (u2 (u2 (u2 (u2 (u2 (u2 (u2 (u2 (u2 (u2 (u2 (u2 (u2 (u2 (u2 (u2 (u2 (u2 (u2 (u2 (u2 (u2 (u2 (u2 (u2 (u2 (u2 (u2 (u2 (u2 (u2 (u2 (u2 (u2 (u2 (u2 (u2 (u2 (u2 (u2 (u2 (u2 (u2 (u2 (u2 (u2 (u2 (u2 (u2 (u2 (u2 (u2 (u2 (u2 (u2 (u2 (u2 (u2 (u2 (u2 (u2 (u2 (u2 (u2 (u2 M0 14 1 0) 14 2 0) 14 3 0) 15 0 0) 15 1 0) 15 2 0) 15 3 0) 15 4 0) 15 5 9999) 15 7 0) 15 8 0) 17 0 1) 18 0 (-1)) 19 0 0) 20 0 0) 17 1 1) 18 1 (-1)) 19 1 0) 20 1 0) 17 2 1) 18 2 (-1)) 19 2 0) 20 2 0) 17 3 1) 18 3 (-1)) 19 3 0) 20 3 0) 17 4 1) 18 4 (-1)) 19 4 0) 20 4 0) 17 5 1) 18 5 (-1)) 19 5 0) 20 5 0) 17 6 1) 18 6 (-1)) 19 6 0) 20 6 0) 17 7 1) 18 7 (-1)) 19 7 0) 20 7 0) 17 8 1) 18 8 (-1)) 19 8 0) 20 8 0) 17 9 1) 18 9 (-1)) 19 9 0) 20 9 0) 14 6 0) 14 4 0) 14 3 1) 15 2 0) 69 16 6) 69 7 0) 69 8 0) 69 9 0) 76 0 1) 77 0 (-1)) 76 1 1) 77 1 (-1)) 76 2 1) 77 2 (-1)) 76 3 1) 77 3 (-1)) 76 4 1) 77 4 (-1)) 76 5 1) 77 5 (-1)) 76 6 1) 77 6 (-1)) 76 7 1) 77 7 (-1)) 76 8 1) 77 8 (-1)) 76 9 1) 77 9 (-1)) 72 6 0) 69 19 0) 69 13 0) 69 14 0) 69 17 0) 69 14 1) 69 1 0) (u2 RX 14 0 (some 1)) J0 s H locs := hG
  refine lv_icmp_eq (tgt := 1157) hx hb dL_law_266 (by decide) (fun _ => ?_) (fun h => absurd rfl h)
  exact law_tail C0 (Nat.le_of_ble_eq_true rfl) (Nat.le_of_ble_eq_true rfl) hG (lv_sub hl [0, 3] rfl)
set_option maxRecDepth 100000 in
set_option maxHeartbeats 4000000 in
theorem law_rule (C0 : lw_F p s m meth c b xs D cy tx) {H : Heap} {locs : List Loc} (hG : md_G D cy s.heap.size 104 KX NX M0 RX J0 s H locs) {ls : Array Slot} (hl : lv_has ls 4 [(3, .int 0), (2, .ref (s.heap.size + 69)), (1, .ref (s.heap.size + 0)), (0, .ref b)]) : W p l e room_1 s m #[Value.ref b] below meth c H locs 104 87680 (lw_Z below #[Value.ref b] s) (F0 m 271 ls []) := by
  have C1 := C0
  obtain ⟨hx, hb, hr, hml, hown, hW, hX, hbl, hlocks, hK, hT⟩ := C1
  have hbA : ¬ (fun q : Nat => s.heap.size ≤ q) b := Nat.not_le.mpr hbl
  refine lv_aload_n hx hb dL_law_271 rfl (lv_at hl 2 rfl) ?_
  refine md_goi hG (md_runV (As := []) (rest := []) hx hb hml hown hW hK hT hG (c_X11_rule l D cy tx s.heap.size 104 KX NX M0 RX J0 (by decide) rfl rfl rfl rfl rfl rfl rfl rfl  ) s_L_28 ⟨rfl, rfl, ⟨Nat.le_of_ble_eq_true rfl, Nat.le_of_ble_eq_true rfl⟩, Nat.le_of_ble_eq_true rfl, Nat.le_of_ble_eq_true rfl⟩ (by decide) rfl (by decide) rfl rfl hl.1 rfl (Nat.le_of_ble_eq_true rfl) dL_law_272) (fun r u H locs hp hG => ?_)
  obtain ⟨rfl, rfl⟩ := hp
  have hG : md_G D cy s.heap.size 104 KX NX (u2 (u2 (u2 (u2 (u2 (u2 (u2 (u2 M0 23 1 0) 23 2 0) 23 3 0) 23 6 0) 23 7 0) 23 4 0) 23 3 1) 0 1 0) (u2 RX 23 0 (some 1)) J0 s H locs := hG
  refine lv_aload_n hx hb dL_law_275 rfl (lv_at hl 1 rfl) ?_
  refine md_goi hG (md_runV (As := []) (rest := [.int (-3)]) hx hb hml hown hW hK hT hG (c_X12_rule l D cy tx s.heap.size 104 KX NX (u2 (u2 (u2 (u2 (u2 (u2 (u2 (u2 M0 23 1 0) 23 2 0) 23 3 0) 23 6 0) 23 7 0) 23 4 0) 23 3 1) 0 1 0) (u2 RX 23 0 (some 1)) J0 (by decide) rfl rfl rfl rfl rfl rfl rfl rfl rfl  ) s_L_31 ⟨rfl, rfl, ⟨Nat.le_of_ble_eq_true rfl, Nat.le_of_ble_eq_true rfl⟩, Nat.le_of_ble_eq_true rfl, Nat.le_of_ble_eq_true rfl⟩ (by decide) rfl (by decide) rfl rfl hl.1 rfl (Nat.le_of_ble_eq_true rfl) dL_law_276) (fun r u H locs hp hG => ?_)
  obtain ⟨rfl, rfl⟩ := hp
  have hG : md_G D cy s.heap.size 104 KX NX (u2 (u2 (u2 (u2 (u2 (u2 (u2 (u2 (u2 (u2 (u2 (u2 (u2 (u2 (u2 (u2 (u2 M0 23 1 0) 23 2 0) 23 3 0) 23 6 0) 23 7 0) 23 4 0) 23 3 1) 0 1 0) 69 16 0) 74 0 0) 72 0 0) 69 19 0) 69 13 0) 69 14 0) 69 17 0) 69 14 1) 69 1 0) (u2 RX 23 0 (some 1)) J0 s H locs := hG
  refine lv_icmp_eq (tgt := 1157) hx hb dL_law_279 (by decide) (fun _ => ?_) (fun h => absurd rfl h)
  exact law_tail C0 (Nat.le_of_ble_eq_true rfl) (Nat.le_of_ble_eq_true rfl) hG (lv_sub hl [0, 3] rfl)
set_option maxRecDepth 100000 in
set_option maxHeartbeats 4000000 in
theorem law_voice (C0 : lw_F p s m meth c b xs D cy tx) {H : Heap} {locs : List Loc} (hG : md_G D cy s.heap.size 104 KX NX M0 RX J0 s H locs) {ls : Array Slot} (hl : lv_has ls 4 [(3, .int 0), (2, .ref (s.heap.size + 69)), (1, .ref (s.heap.size + 0)), (0, .ref b)]) : W p l e room_1 s m #[Value.ref b] below meth c H locs 104 87680 (lw_Z below #[Value.ref b] s) (F0 m 284 ls []) := by
  have C1 := C0
  obtain ⟨hx, hb, hr, hml, hown, hW, hX, hbl, hlocks, hK, hT⟩ := C1
  have hbA : ¬ (fun q : Nat => s.heap.size ≤ q) b := Nat.not_le.mpr hbl
  refine lv_aload_n hx hb dL_law_284 rfl (lv_at hl 2 rfl) ?_
  refine lv_aload_n hx hb dL_law_285 rfl (lv_at hl 3 rfl) ?_
  refine lv_iload_n hx hb dL_law_286 rfl (lv_at hl 0 rfl) ?_
  refine lv_iconst (v := 1) hx hb dL_law_287 (by decide) ?_
  refine lv_iadd hx hb dL_law_288 ?_
  refine md_top (y := 1) (by decide) ?_
  refine va_sld hx hb hX hbl hbA hG.2.2 (md_inD (by decide)) dL_law_289 ?_
  refine md_top (y := xs 1) (congrArg xs (by decide)) ?_
  refine lv_aload_n hx hb dL_law_290 rfl (lv_at hl 3 rfl) ?_
  refine lv_iload_n hx hb dL_law_291 rfl (lv_at hl 0 rfl) ?_
  refine lv_iconst (v := 2) hx hb dL_law_292 (by decide) ?_
  refine lv_iadd hx hb dL_law_293 ?_
  refine md_top (y := 2) (by decide) ?_
  refine va_sld hx hb hX hbl hbA hG.2.2 (md_inD (by decide)) dL_law_294 ?_
  refine md_top (y := xs 2) (congrArg xs (by decide)) ?_
  refine md_goi hG (md_runV (As := [.int (xs 1), .int (xs 2)]) (rest := []) hx hb hml hown hW hK hT hG (c_X11_voice l D cy tx s.heap.size 104 KX NX M0 RX J0 (by decide) rfl rfl rfl rfl (xs 1) (xs 2) ) s_L_32 ⟨rfl, rfl, ⟨Nat.le_of_ble_eq_true rfl, Nat.le_of_ble_eq_true rfl⟩, Nat.le_of_ble_eq_true rfl, Nat.le_of_ble_eq_true rfl⟩ (by decide) rfl (by decide) rfl rfl hl.1 rfl (Nat.le_of_ble_eq_true rfl) dL_law_295) (fun r u H locs hp hG => ?_)
  obtain ⟨rfl, rfl⟩ := hp
  have hG : md_G D cy s.heap.size 104 KX NX M0 RX J0 s H locs := hG
  refine lv_aload_n hx hb dL_law_298 rfl (lv_at hl 1 rfl) ?_
  refine lv_aload_n hx hb dL_law_299 rfl (lv_at hl 3 rfl) ?_
  refine lv_iload_n hx hb dL_law_300 rfl (lv_at hl 0 rfl) ?_
  refine lv_iconst (v := 1) hx hb dL_law_301 (by decide) ?_
  refine lv_iadd hx hb dL_law_302 ?_
  refine md_top (y := 1) (by decide) ?_
  refine va_sld hx hb hX hbl hbA hG.2.2 (md_inD (by decide)) dL_law_303 ?_
  refine md_top (y := xs 1) (congrArg xs (by decide)) ?_
  refine lv_aload_n hx hb dL_law_304 rfl (lv_at hl 3 rfl) ?_
  refine lv_iload_n hx hb dL_law_305 rfl (lv_at hl 0 rfl) ?_
  refine lv_iconst (v := 2) hx hb dL_law_306 (by decide) ?_
  refine lv_iadd hx hb dL_law_307 ?_
  refine md_top (y := 2) (by decide) ?_
  refine va_sld hx hb hX hbl hbA hG.2.2 (md_inD (by decide)) dL_law_308 ?_
  refine md_top (y := xs 2) (congrArg xs (by decide)) ?_
  refine md_goi hG (md_runV (As := [.int (xs 1), .int (xs 2)]) (rest := [.int (-1)]) hx hb hml hown hW hK hT hG (c_X12_voice l D cy tx s.heap.size 104 KX NX M0 RX J0 (by decide) rfl rfl rfl rfl rfl (xs 1) (xs 2) ) s_L_36 ⟨rfl, rfl, ⟨Nat.le_of_ble_eq_true rfl, Nat.le_of_ble_eq_true rfl⟩, Nat.le_of_ble_eq_true rfl, Nat.le_of_ble_eq_true rfl⟩ (by decide) rfl (by decide) rfl rfl hl.1 rfl (Nat.le_of_ble_eq_true rfl) dL_law_309) (fun r u H locs hp hG => ?_)
  obtain ⟨rfl, rfl⟩ := hp
  have hG : md_G D cy s.heap.size 104 KX NX M0 RX J0 s H locs := hG
  refine lv_icmp_eq (tgt := 1157) hx hb dL_law_312 (by decide) (fun _ => ?_) (fun h => absurd rfl h)
  exact law_tail C0 (Nat.le_of_ble_eq_true rfl) (Nat.le_of_ble_eq_true rfl) hG (lv_sub hl [0, 3] rfl)
set_option maxRecDepth 100000 in
set_option maxHeartbeats 4000000 in
theorem law_worth (C0 : lw_F p s m meth c b xs D cy tx) {H : Heap} {locs : List Loc} (hG : md_G D cy s.heap.size 104 KX NX M0 RX J0 s H locs) {ls : Array Slot} (hl : lv_has ls 4 [(3, .int 0), (2, .ref (s.heap.size + 69)), (1, .ref (s.heap.size + 0)), (0, .ref b)]) : W p l e room_1 s m #[Value.ref b] below meth c H locs 104 87680 (lw_Z below #[Value.ref b] s) (F0 m 317 ls []) := by
  have C1 := C0
  obtain ⟨hx, hb, hr, hml, hown, hW, hX, hbl, hlocks, hK, hT⟩ := C1
  have hbA : ¬ (fun q : Nat => s.heap.size ≤ q) b := Nat.not_le.mpr hbl
  refine lv_aload_n hx hb dL_law_317 rfl (lv_at hl 2 rfl) ?_
  refine lv_aload_n hx hb dL_law_318 rfl (lv_at hl 3 rfl) ?_
  refine lv_iload_n hx hb dL_law_319 rfl (lv_at hl 0 rfl) ?_
  refine lv_iconst (v := 1) hx hb dL_law_320 (by decide) ?_
  refine lv_iadd hx hb dL_law_321 ?_
  refine md_top (y := 1) (by decide) ?_
  refine va_sld hx hb hX hbl hbA hG.2.2 (md_inD (by decide)) dL_law_322 ?_
  refine md_top (y := xs 1) (congrArg xs (by decide)) ?_
  refine lv_aload_n hx hb dL_law_323 rfl (lv_at hl 3 rfl) ?_
  refine lv_iload_n hx hb dL_law_324 rfl (lv_at hl 0 rfl) ?_
  refine lv_iconst (v := 2) hx hb dL_law_325 (by decide) ?_
  refine lv_iadd hx hb dL_law_326 ?_
  refine md_top (y := 2) (by decide) ?_
  refine va_sld hx hb hX hbl hbA hG.2.2 (md_inD (by decide)) dL_law_327 ?_
  refine md_top (y := xs 2) (congrArg xs (by decide)) ?_
  refine md_goi hG (md_runV (As := [.int (xs 1), .int (xs 2)]) (rest := []) hx hb hml hown hW hK hT hG (c_X11_worth l D cy tx s.heap.size 104 KX NX M0 RX J0 (by decide) rfl rfl rfl rfl (xs 1) (xs 2) ) s_L_37 ⟨rfl, rfl, ⟨Nat.le_of_ble_eq_true rfl, Nat.le_of_ble_eq_true rfl⟩, Nat.le_of_ble_eq_true rfl, Nat.le_of_ble_eq_true rfl⟩ (by decide) rfl (by decide) rfl rfl hl.1 rfl (Nat.le_of_ble_eq_true rfl) dL_law_328) (fun r u H locs hp hG => ?_)
  obtain ⟨rfl, rfl⟩ := hp
  have hG : md_G D cy s.heap.size 104 KX NX M0 RX J0 s H locs := hG
  refine lv_aload_n hx hb dL_law_331 rfl (lv_at hl 1 rfl) ?_
  refine lv_aload_n hx hb dL_law_332 rfl (lv_at hl 3 rfl) ?_
  refine lv_iload_n hx hb dL_law_333 rfl (lv_at hl 0 rfl) ?_
  refine lv_iconst (v := 1) hx hb dL_law_334 (by decide) ?_
  refine lv_iadd hx hb dL_law_335 ?_
  refine md_top (y := 1) (by decide) ?_
  refine va_sld hx hb hX hbl hbA hG.2.2 (md_inD (by decide)) dL_law_336 ?_
  refine md_top (y := xs 1) (congrArg xs (by decide)) ?_
  refine lv_aload_n hx hb dL_law_337 rfl (lv_at hl 3 rfl) ?_
  refine lv_iload_n hx hb dL_law_338 rfl (lv_at hl 0 rfl) ?_
  refine lv_iconst (v := 2) hx hb dL_law_339 (by decide) ?_
  refine lv_iadd hx hb dL_law_340 ?_
  refine md_top (y := 2) (by decide) ?_
  refine va_sld hx hb hX hbl hbA hG.2.2 (md_inD (by decide)) dL_law_341 ?_
  refine md_top (y := xs 2) (congrArg xs (by decide)) ?_
  refine md_goi hG (md_runV (As := [.int (xs 1), .int (xs 2)]) (rest := [.int (-1000)]) hx hb hml hown hW hK hT hG (c_X12_worth l D cy tx s.heap.size 104 KX NX M0 RX J0 (by decide) rfl rfl rfl rfl rfl (xs 1) (xs 2) ) s_L_40 ⟨rfl, rfl, ⟨Nat.le_of_ble_eq_true rfl, Nat.le_of_ble_eq_true rfl⟩, Nat.le_of_ble_eq_true rfl, Nat.le_of_ble_eq_true rfl⟩ (by decide) rfl (by decide) rfl rfl hl.1 rfl (Nat.le_of_ble_eq_true rfl) dL_law_342) (fun r u H locs hp hG => ?_)
  obtain ⟨rfl, rfl⟩ := hp
  have hG : md_G D cy s.heap.size 104 KX NX M0 RX J0 s H locs := hG
  refine lv_icmp_eq (tgt := 1157) hx hb dL_law_345 (by decide) (fun _ => ?_) (fun h => absurd rfl h)
  exact law_tail C0 (Nat.le_of_ble_eq_true rfl) (Nat.le_of_ble_eq_true rfl) hG (lv_sub hl [0, 3] rfl)
set_option maxRecDepth 100000 in
set_option maxHeartbeats 4000000 in
theorem law_bend (C0 : lw_F p s m meth c b xs D cy tx) {H : Heap} {locs : List Loc} (hG : md_G D cy s.heap.size 104 KX NX M0 RX J0 s H locs) {ls : Array Slot} (hl : lv_has ls 4 [(3, .int 0), (2, .ref (s.heap.size + 69)), (1, .ref (s.heap.size + 0)), (0, .ref b)]) : W p l e room_1 s m #[Value.ref b] below meth c H locs 104 87680 (lw_Z below #[Value.ref b] s) (F0 m 350 ls []) := by
  have C1 := C0
  obtain ⟨hx, hb, hr, hml, hown, hW, hX, hbl, hlocks, hK, hT⟩ := C1
  have hbA : ¬ (fun q : Nat => s.heap.size ≤ q) b := Nat.not_le.mpr hbl
  refine lv_aload_n hx hb dL_law_350 rfl (lv_at hl 2 rfl) ?_
  refine lv_aload_n hx hb dL_law_351 rfl (lv_at hl 3 rfl) ?_
  refine lv_iload_n hx hb dL_law_352 rfl (lv_at hl 0 rfl) ?_
  refine lv_iconst (v := 1) hx hb dL_law_353 (by decide) ?_
  refine lv_iadd hx hb dL_law_354 ?_
  refine md_top (y := 1) (by decide) ?_
  refine va_sld hx hb hX hbl hbA hG.2.2 (md_inD (by decide)) dL_law_355 ?_
  refine md_top (y := xs 1) (congrArg xs (by decide)) ?_
  refine lv_aload_n hx hb dL_law_356 rfl (lv_at hl 3 rfl) ?_
  refine lv_iload_n hx hb dL_law_357 rfl (lv_at hl 0 rfl) ?_
  refine lv_iconst (v := 2) hx hb dL_law_358 (by decide) ?_
  refine lv_iadd hx hb dL_law_359 ?_
  refine md_top (y := 2) (by decide) ?_
  refine va_sld hx hb hX hbl hbA hG.2.2 (md_inD (by decide)) dL_law_360 ?_
  refine md_top (y := xs 2) (congrArg xs (by decide)) ?_
  refine md_goi hG (md_runV (As := [.int (xs 1), .int (xs 2)]) (rest := []) hx hb hml hown hW hK hT hG (c_X11_bend l D cy tx s.heap.size 104 KX NX M0 RX J0 (by decide) rfl rfl rfl rfl rfl rfl rfl rfl (xs 1) (xs 2) ) s_L_41 ⟨rfl, rfl, ⟨Nat.le_of_ble_eq_true rfl, Nat.le_of_ble_eq_true rfl⟩, Nat.le_of_ble_eq_true rfl, Nat.le_of_ble_eq_true rfl⟩ (by decide) rfl (by decide) rfl rfl hl.1 rfl (Nat.le_of_ble_eq_true rfl) dL_law_361) (fun r u H locs hp hG => ?_)
  obtain ⟨rfl, rfl⟩ := hp
  have hG : md_G D cy s.heap.size 104 KX NX (u2 M0 2 0 1) RX J0 s H locs := hG
  refine lv_aload_n hx hb dL_law_364 rfl (lv_at hl 1 rfl) ?_
  refine lv_aload_n hx hb dL_law_365 rfl (lv_at hl 3 rfl) ?_
  refine lv_iload_n hx hb dL_law_366 rfl (lv_at hl 0 rfl) ?_
  refine lv_iconst (v := 1) hx hb dL_law_367 (by decide) ?_
  refine lv_iadd hx hb dL_law_368 ?_
  refine md_top (y := 1) (by decide) ?_
  refine va_sld hx hb hX hbl hbA hG.2.2 (md_inD (by decide)) dL_law_369 ?_
  refine md_top (y := xs 1) (congrArg xs (by decide)) ?_
  refine lv_aload_n hx hb dL_law_370 rfl (lv_at hl 3 rfl) ?_
  refine lv_iload_n hx hb dL_law_371 rfl (lv_at hl 0 rfl) ?_
  refine lv_iconst (v := 2) hx hb dL_law_372 (by decide) ?_
  refine lv_iadd hx hb dL_law_373 ?_
  refine md_top (y := 2) (by decide) ?_
  refine va_sld hx hb hX hbl hbA hG.2.2 (md_inD (by decide)) dL_law_374 ?_
  refine md_top (y := xs 2) (congrArg xs (by decide)) ?_
  refine md_goi hG (md_runV (As := [.int (xs 1), .int (xs 2)]) (rest := [.int (-2)]) hx hb hml hown hW hK hT hG (c_X12_bend l D cy tx s.heap.size 104 KX NX (u2 M0 2 0 1) RX J0 (by decide) rfl rfl rfl rfl rfl rfl rfl rfl rfl (xs 1) (xs 2) ) s_L_44 ⟨rfl, rfl, ⟨Nat.le_of_ble_eq_true rfl, Nat.le_of_ble_eq_true rfl⟩, Nat.le_of_ble_eq_true rfl, Nat.le_of_ble_eq_true rfl⟩ (by decide) rfl (by decide) rfl rfl hl.1 rfl (Nat.le_of_ble_eq_true rfl) dL_law_375) (fun r u H locs hp hG => ?_)
  obtain ⟨rfl, rfl⟩ := hp
  have hG : md_G D cy s.heap.size 104 KX NX (u2 (u2 M0 2 0 1) 82 0 1) RX J0 s H locs := hG
  refine lv_icmp_eq (tgt := 1157) hx hb dL_law_378 (by decide) (fun _ => ?_) (fun h => absurd rfl h)
  exact law_tail C0 (Nat.le_of_ble_eq_true rfl) (Nat.le_of_ble_eq_true rfl) hG (lv_sub hl [0, 3] rfl)
set_option maxRecDepth 100000 in
set_option maxHeartbeats 4000000 in
theorem law_attends (C0 : lw_F p s m meth c b xs D cy tx) {H : Heap} {locs : List Loc} (hG : md_G D cy s.heap.size 104 KX NX M0 RX J0 s H locs) {ls : Array Slot} (hl : lv_has ls 4 [(3, .int 0), (2, .ref (s.heap.size + 69)), (1, .ref (s.heap.size + 0)), (0, .ref b)]) : W p l e room_1 s m #[Value.ref b] below meth c H locs 104 87680 (lw_Z below #[Value.ref b] s) (F0 m 383 ls []) := by
  have C1 := C0
  obtain ⟨hx, hb, hr, hml, hown, hW, hX, hbl, hlocks, hK, hT⟩ := C1
  have hbA : ¬ (fun q : Nat => s.heap.size ≤ q) b := Nat.not_le.mpr hbl
  refine lv_aload_n hx hb dL_law_383 rfl (lv_at hl 2 rfl) ?_
  refine lv_aload_n hx hb dL_law_384 rfl (lv_at hl 3 rfl) ?_
  refine lv_iload_n hx hb dL_law_385 rfl (lv_at hl 0 rfl) ?_
  refine lv_iconst (v := 1) hx hb dL_law_386 (by decide) ?_
  refine lv_iadd hx hb dL_law_387 ?_
  refine md_top (y := 1) (by decide) ?_
  refine va_sld hx hb hX hbl hbA hG.2.2 (md_inD (by decide)) dL_law_388 ?_
  refine md_top (y := xs 1) (congrArg xs (by decide)) ?_
  refine lv_aload_n hx hb dL_law_389 rfl (lv_at hl 3 rfl) ?_
  refine lv_iload_n hx hb dL_law_390 rfl (lv_at hl 0 rfl) ?_
  refine lv_iconst (v := 2) hx hb dL_law_391 (by decide) ?_
  refine lv_iadd hx hb dL_law_392 ?_
  refine md_top (y := 2) (by decide) ?_
  refine va_sld hx hb hX hbl hbA hG.2.2 (md_inD (by decide)) dL_law_393 ?_
  refine md_top (y := xs 2) (congrArg xs (by decide)) ?_
  refine lv_if_eq (tgt := 401) hx hb dL_law_394 (by decide) (fun hb1 => ?_) (fun hb1 => ?_)
  · refine lv_iconst (v := 0) hx hb dL_law_401 (by decide) ?_
    refine md_goi hG (md_runV (As := [.int (xs 1), .int 0]) (rest := []) hx hb hml hown hW hK hT hG (c_X11_attends l D cy tx s.heap.size 104 KX NX M0 RX J0 (by decide) rfl rfl rfl rfl rfl rfl rfl rfl (xs 1) 0 ) s_L_45 ⟨rfl, rfl, ⟨Nat.le_of_ble_eq_true rfl, Nat.le_of_ble_eq_true rfl⟩, Nat.le_of_ble_eq_true rfl, Nat.le_of_ble_eq_true rfl⟩ (by decide) rfl (by decide) rfl rfl hl.1 rfl (Nat.le_of_ble_eq_true rfl) dL_law_402) (fun r u H locs hp hG => ?_)
    obtain ⟨rfl, rfl⟩ := hp
    have hG : md_G D cy s.heap.size 104 KX NX (u2 M0 2 0 1) RX J0 s H locs := hG
    refine lv_aload_n hx hb dL_law_405 rfl (lv_at hl 1 rfl) ?_
    refine lv_aload_n hx hb dL_law_406 rfl (lv_at hl 3 rfl) ?_
    refine lv_iload_n hx hb dL_law_407 rfl (lv_at hl 0 rfl) ?_
    refine lv_iconst (v := 1) hx hb dL_law_408 (by decide) ?_
    refine lv_iadd hx hb dL_law_409 ?_
    refine md_top (y := 1) (by decide) ?_
    refine va_sld hx hb hX hbl hbA hG.2.2 (md_inD (by decide)) dL_law_410 ?_
    refine md_top (y := xs 1) (congrArg xs (by decide)) ?_
    refine lv_aload_n hx hb dL_law_411 rfl (lv_at hl 3 rfl) ?_
    refine lv_iload_n hx hb dL_law_412 rfl (lv_at hl 0 rfl) ?_
    refine lv_iconst (v := 2) hx hb dL_law_413 (by decide) ?_
    refine lv_iadd hx hb dL_law_414 ?_
    refine md_top (y := 2) (by decide) ?_
    refine va_sld hx hb hX hbl hbA hG.2.2 (md_inD (by decide)) dL_law_415 ?_
    refine md_top (y := xs 2) (congrArg xs (by decide)) ?_
    refine lv_if_eq (tgt := 423) hx hb dL_law_416 (by decide) (fun _ => ?_) (fun h => absurd hb1 h)
    refine lv_iconst (v := 0) hx hb dL_law_423 (by decide) ?_
    refine md_goi hG (md_runV (As := [.int (xs 1), .int 0]) (rest := [.int (-2)]) hx hb hml hown hW hK hT hG (c_X12_attends l D cy tx s.heap.size 104 KX NX (u2 M0 2 0 1) RX J0 (by decide) rfl rfl rfl rfl rfl rfl rfl rfl rfl (xs 1) 0 ) s_L_49 ⟨rfl, rfl, ⟨Nat.le_of_ble_eq_true rfl, Nat.le_of_ble_eq_true rfl⟩, Nat.le_of_ble_eq_true rfl, Nat.le_of_ble_eq_true rfl⟩ (by decide) rfl (by decide) rfl rfl hl.1 rfl (Nat.le_of_ble_eq_true rfl) dL_law_424) (fun r u H locs hp hG => ?_)
    obtain ⟨rfl, rfl⟩ := hp
    have hG : md_G D cy s.heap.size 104 KX NX (u2 (u2 M0 2 0 1) 82 0 1) RX J0 s H locs := hG
    refine lv_icmp_eq (tgt := 1157) hx hb dL_law_427 (by decide) (fun _ => ?_) (fun h => absurd rfl h)
    exact law_tail C0 (Nat.le_of_ble_eq_true rfl) (Nat.le_of_ble_eq_true rfl) hG (lv_sub hl [0, 3] rfl)
  · refine lv_iconst (v := 1) hx hb dL_law_397 (by decide) ?_
    refine lv_goto (tgt := 402) hx hb dL_law_398 (by decide) ?_
    refine md_goi hG (md_runV (As := [.int (xs 1), .int 1]) (rest := []) hx hb hml hown hW hK hT hG (c_X11_attends l D cy tx s.heap.size 104 KX NX M0 RX J0 (by decide) rfl rfl rfl rfl rfl rfl rfl rfl (xs 1) 1 ) s_L_45 ⟨rfl, rfl, ⟨Nat.le_of_ble_eq_true rfl, Nat.le_of_ble_eq_true rfl⟩, Nat.le_of_ble_eq_true rfl, Nat.le_of_ble_eq_true rfl⟩ (by decide) rfl (by decide) rfl rfl hl.1 rfl (Nat.le_of_ble_eq_true rfl) dL_law_402) (fun r u H locs hp hG => ?_)
    obtain ⟨rfl, rfl⟩ := hp
    have hG : md_G D cy s.heap.size 104 KX NX (u2 M0 2 0 1) RX J0 s H locs := hG
    refine lv_aload_n hx hb dL_law_405 rfl (lv_at hl 1 rfl) ?_
    refine lv_aload_n hx hb dL_law_406 rfl (lv_at hl 3 rfl) ?_
    refine lv_iload_n hx hb dL_law_407 rfl (lv_at hl 0 rfl) ?_
    refine lv_iconst (v := 1) hx hb dL_law_408 (by decide) ?_
    refine lv_iadd hx hb dL_law_409 ?_
    refine md_top (y := 1) (by decide) ?_
    refine va_sld hx hb hX hbl hbA hG.2.2 (md_inD (by decide)) dL_law_410 ?_
    refine md_top (y := xs 1) (congrArg xs (by decide)) ?_
    refine lv_aload_n hx hb dL_law_411 rfl (lv_at hl 3 rfl) ?_
    refine lv_iload_n hx hb dL_law_412 rfl (lv_at hl 0 rfl) ?_
    refine lv_iconst (v := 2) hx hb dL_law_413 (by decide) ?_
    refine lv_iadd hx hb dL_law_414 ?_
    refine md_top (y := 2) (by decide) ?_
    refine va_sld hx hb hX hbl hbA hG.2.2 (md_inD (by decide)) dL_law_415 ?_
    refine md_top (y := xs 2) (congrArg xs (by decide)) ?_
    refine lv_if_eq (tgt := 423) hx hb dL_law_416 (by decide) (fun h => absurd h hb1) (fun _ => ?_)
    refine lv_iconst (v := 1) hx hb dL_law_419 (by decide) ?_
    refine lv_goto (tgt := 424) hx hb dL_law_420 (by decide) ?_
    refine md_goi hG (md_runV (As := [.int (xs 1), .int 1]) (rest := [.int (-2)]) hx hb hml hown hW hK hT hG (c_X12_attends l D cy tx s.heap.size 104 KX NX (u2 M0 2 0 1) RX J0 (by decide) rfl rfl rfl rfl rfl rfl rfl rfl rfl (xs 1) 1 ) s_L_49 ⟨rfl, rfl, ⟨Nat.le_of_ble_eq_true rfl, Nat.le_of_ble_eq_true rfl⟩, Nat.le_of_ble_eq_true rfl, Nat.le_of_ble_eq_true rfl⟩ (by decide) rfl (by decide) rfl rfl hl.1 rfl (Nat.le_of_ble_eq_true rfl) dL_law_424) (fun r u H locs hp hG => ?_)
    obtain ⟨rfl, rfl⟩ := hp
    have hG : md_G D cy s.heap.size 104 KX NX (u2 (u2 M0 2 0 1) 82 0 1) RX J0 s H locs := hG
    refine lv_icmp_eq (tgt := 1157) hx hb dL_law_427 (by decide) (fun _ => ?_) (fun h => absurd rfl h)
    exact law_tail C0 (Nat.le_of_ble_eq_true rfl) (Nat.le_of_ble_eq_true rfl) hG (lv_sub hl [0, 3] rfl)
end LAWC0
