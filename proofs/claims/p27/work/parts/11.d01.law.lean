section LAWC8
variable {p : Program} {l : Launch} {e : Env} {s : State} {m : MethodId} {below : List Frame} {meth : Method} {c : Code} {b Ln : Nat} {xs : Nat → Int32} {D : va_G} {cy : Nat → ClassId} {tx : (Nat → Nat) × (Nat → Nat)}
set_option maxRecDepth 100000 in
set_option maxHeartbeats 4000000 in
theorem law_beside (C0 : lw_F p s m meth c b Ln xs D cy tx) {i : Int32} (hI : ∀ k : Int32, 0 ≤ k.toInt ∧ k.toInt ≤ 5 → vp_in (i + k) Ln) {Z : Nat} {K N : Nat → Nat} {M : MT} {R : RT} {J : JT} {H : Heap} {locs : List Loc} (hG : md_G D cy s.heap.size Z K N M R J s H locs) (hL : LI Z K N M R) {ls : Array Slot} (hl : lv_has ls 4 [(3, .int i), (2, .ref (s.heap.size + 69)), (1, .ref (s.heap.size + 0)), (0, .ref b)]) (kt : lw_KT p l e s m below meth c b D cy i) : W p l e room_1 s m #[Value.ref b] below meth c H locs 4000 500000 (lw_Z below #[Value.ref b] s) (F0 m 432 ls []) := by
  obtain ⟨hx, hb, hr, hml, hown, hW, hX, hbl, hlocks, hK, hT⟩ := C0
  have hbA : ¬ (fun q : Nat => s.heap.size ≤ q) b := Nat.not_le.mpr hbl
  refine lv_aload_n hx hb dL_law_432 rfl (lv_at hl 2 rfl) ?_
  refine lv_aload_n hx hb dL_law_433 rfl (lv_at hl 3 rfl) ?_
  refine lv_iload_n hx hb dL_law_434 rfl (lv_at hl 0 rfl) ?_
  refine lv_iconst (v := 1) hx hb dL_law_435 (by decide) ?_
  refine lv_iadd hx hb dL_law_436 ?_
  refine va_sld hx hb hX hbl hbA hG.2.2 (hI 1 ⟨by decide, by decide⟩) dL_law_437 ?_
  refine lv_aload_n hx hb dL_law_438 rfl (lv_at hl 3 rfl) ?_
  refine lv_iload_n hx hb dL_law_439 rfl (lv_at hl 0 rfl) ?_
  refine lv_iconst (v := 2) hx hb dL_law_440 (by decide) ?_
  refine lv_iadd hx hb dL_law_441 ?_
  refine va_sld hx hb hX hbl hbA hG.2.2 (hI 2 ⟨by decide, by decide⟩) dL_law_442 ?_
  refine lw_goi hG hL (md_runV (As := [.int (xs (i + 1).toNatClampNeg), .int (xs (i + 2).toNatClampNeg)]) (rest := []) hx hb hml hown hW hK hT hG (t_X11_beside l D cy tx s.heap.size Z K N M R J hL.1.1 0 (show 0 < Z by have := hL.2.1.1.1; omega) hL.2.1.1.2.1 (xs (i + 1).toNatClampNeg) (iv_any _) (xs (i + 2).toNatClampNeg) (iv_any _)) s_L_50 ⟨rfl, rfl, ⟨Nat.le_of_ble_eq_true rfl, Nat.le_of_ble_eq_true rfl⟩, Nat.le_of_ble_eq_true rfl, Nat.le_of_ble_eq_true rfl⟩ (show 0 < Z by have := hL.2.1.1.1; omega) hL.2.1.1.2.1 (by decide) rfl rfl hl.1 rfl (Nat.le_of_ble_eq_true rfl) dL_law_443) rfl (fun r1 H locs M1 R1 J1 hG hL => ?_)
  refine lv_pop hx hb dL_law_446 rfl ?_
  refine lv_aload_n hx hb dL_law_447 rfl (lv_at hl 1 rfl) ?_
  refine lv_aload_n hx hb dL_law_448 rfl (lv_at hl 3 rfl) ?_
  refine lv_iload_n hx hb dL_law_449 rfl (lv_at hl 0 rfl) ?_
  refine lv_iconst (v := 1) hx hb dL_law_450 (by decide) ?_
  refine lv_iadd hx hb dL_law_451 ?_
  refine va_sld hx hb hX hbl hbA hG.2.2 (hI 1 ⟨by decide, by decide⟩) dL_law_452 ?_
  refine lv_aload_n hx hb dL_law_453 rfl (lv_at hl 3 rfl) ?_
  refine lv_iload_n hx hb dL_law_454 rfl (lv_at hl 0 rfl) ?_
  refine lv_iconst (v := 2) hx hb dL_law_455 (by decide) ?_
  refine lv_iadd hx hb dL_law_456 ?_
  refine va_sld hx hb hX hbl hbA hG.2.2 (hI 2 ⟨by decide, by decide⟩) dL_law_457 ?_
  refine lw_goi hG hL (md_runV (As := [.int (xs (i + 1).toNatClampNeg), .int (xs (i + 2).toNatClampNeg)]) (rest := []) hx hb hml hown hW hK hT hG (t_X12_beside l D cy tx s.heap.size Z K N M1 R1 J1 hL.1.1 69 (show 69 < Z by have := hL.2.1.1.1; omega) hL.2.1.1.2.2 (xs (i + 1).toNatClampNeg) (iv_any _) (xs (i + 2).toNatClampNeg) (iv_any _)) s_L_53 ⟨rfl, rfl, ⟨Nat.le_of_ble_eq_true rfl, Nat.le_of_ble_eq_true rfl⟩, Nat.le_of_ble_eq_true rfl, Nat.le_of_ble_eq_true rfl⟩ (show 69 < Z by have := hL.2.1.1.1; omega) hL.2.1.1.2.2 (by decide) rfl rfl hl.1 rfl (Nat.le_of_ble_eq_true rfl) dL_law_458) rfl (fun r2 H locs M2 R2 J2 hG hL => ?_)
  refine lv_pop hx hb dL_law_461 rfl ?_
  refine lv_goto (tgt := 1157) hx hb dL_law_462 (by decide) ?_
  refine lw_tt hG hL ?_
  exact kt Z K N M2 R2 J2 H locs ls hG hL hl
set_option maxRecDepth 100000 in
set_option maxHeartbeats 4000000 in
theorem law_says (C0 : lw_F p s m meth c b Ln xs D cy tx) {i : Int32} (hI : ∀ k : Int32, 0 ≤ k.toInt ∧ k.toInt ≤ 5 → vp_in (i + k) Ln) {Z : Nat} {K N : Nat → Nat} {M : MT} {R : RT} {J : JT} {H : Heap} {locs : List Loc} (hG : md_G D cy s.heap.size Z K N M R J s H locs) (hL : LI Z K N M R) {ls : Array Slot} (hl : lv_has ls 4 [(3, .int i), (2, .ref (s.heap.size + 69)), (1, .ref (s.heap.size + 0)), (0, .ref b)]) (kt : lw_KT p l e s m below meth c b D cy i) : W p l e room_1 s m #[Value.ref b] below meth c H locs 4000 500000 (lw_Z below #[Value.ref b] s) (F0 m 465 ls []) := by
  obtain ⟨hx, hb, hr, hml, hown, hW, hX, hbl, hlocks, hK, hT⟩ := C0
  have hbA : ¬ (fun q : Nat => s.heap.size ≤ q) b := Nat.not_le.mpr hbl
  refine lv_aload_n hx hb dL_law_465 rfl (lv_at hl 2 rfl) ?_
  refine lv_aload_n hx hb dL_law_466 rfl (lv_at hl 3 rfl) ?_
  refine lv_iload_n hx hb dL_law_467 rfl (lv_at hl 0 rfl) ?_
  refine lv_iconst (v := 1) hx hb dL_law_468 (by decide) ?_
  refine lv_iadd hx hb dL_law_469 ?_
  refine va_sld hx hb hX hbl hbA hG.2.2 (hI 1 ⟨by decide, by decide⟩) dL_law_470 ?_
  refine lv_aload_n hx hb dL_law_471 rfl (lv_at hl 3 rfl) ?_
  refine lv_iload_n hx hb dL_law_472 rfl (lv_at hl 0 rfl) ?_
  refine lv_iconst (v := 2) hx hb dL_law_473 (by decide) ?_
  refine lv_iadd hx hb dL_law_474 ?_
  refine va_sld hx hb hX hbl hbA hG.2.2 (hI 2 ⟨by decide, by decide⟩) dL_law_475 ?_
  refine lw_goi hG hL (md_runV (As := [.int (xs (i + 1).toNatClampNeg), .int (xs (i + 2).toNatClampNeg)]) (rest := []) hx hb hml hown hW hK hT hG (t_X11_says l D cy tx s.heap.size Z K N M R J hL.1.1 0 (show 0 < Z by have := hL.2.1.1.1; omega) hL.2.1.1.2.1 (xs (i + 1).toNatClampNeg) (iv_any _) (xs (i + 2).toNatClampNeg) (iv_any _)) s_L_54 ⟨rfl, rfl, ⟨Nat.le_of_ble_eq_true rfl, Nat.le_of_ble_eq_true rfl⟩, Nat.le_of_ble_eq_true rfl, Nat.le_of_ble_eq_true rfl⟩ (show 0 < Z by have := hL.2.1.1.1; omega) hL.2.1.1.2.1 (by decide) rfl rfl hl.1 rfl (Nat.le_of_ble_eq_true rfl) dL_law_476) rfl (fun r1 H locs M1 R1 J1 hG hL => ?_)
  refine lv_pop hx hb dL_law_479 rfl ?_
  refine lv_aload_n hx hb dL_law_480 rfl (lv_at hl 1 rfl) ?_
  refine lv_aload_n hx hb dL_law_481 rfl (lv_at hl 3 rfl) ?_
  refine lv_iload_n hx hb dL_law_482 rfl (lv_at hl 0 rfl) ?_
  refine lv_iconst (v := 1) hx hb dL_law_483 (by decide) ?_
  refine lv_iadd hx hb dL_law_484 ?_
  refine va_sld hx hb hX hbl hbA hG.2.2 (hI 1 ⟨by decide, by decide⟩) dL_law_485 ?_
  refine lv_aload_n hx hb dL_law_486 rfl (lv_at hl 3 rfl) ?_
  refine lv_iload_n hx hb dL_law_487 rfl (lv_at hl 0 rfl) ?_
  refine lv_iconst (v := 2) hx hb dL_law_488 (by decide) ?_
  refine lv_iadd hx hb dL_law_489 ?_
  refine va_sld hx hb hX hbl hbA hG.2.2 (hI 2 ⟨by decide, by decide⟩) dL_law_490 ?_
  refine lw_goi hG hL (md_runV (As := [.int (xs (i + 1).toNatClampNeg), .int (xs (i + 2).toNatClampNeg)]) (rest := []) hx hb hml hown hW hK hT hG (t_X12_says l D cy tx s.heap.size Z K N M1 R1 J1 hL.1.1 69 (show 69 < Z by have := hL.2.1.1.1; omega) hL.2.1.1.2.2 (xs (i + 1).toNatClampNeg) (iv_any _) (xs (i + 2).toNatClampNeg) (iv_any _) hL.2.2.1) s_L_57 ⟨rfl, rfl, ⟨Nat.le_of_ble_eq_true rfl, Nat.le_of_ble_eq_true rfl⟩, Nat.le_of_ble_eq_true rfl, Nat.le_of_ble_eq_true rfl⟩ (show 69 < Z by have := hL.2.1.1.1; omega) hL.2.1.1.2.2 (by decide) rfl rfl hl.1 rfl (Nat.le_of_ble_eq_true rfl) dL_law_491) rfl (fun r2 H locs M2 R2 J2 hG hL => ?_)
  refine lv_pop hx hb dL_law_494 rfl ?_
  refine lv_goto (tgt := 1157) hx hb dL_law_495 (by decide) ?_
  refine lw_tt hG hL ?_
  exact kt Z K N M2 R2 J2 H locs ls hG hL hl
set_option maxRecDepth 100000 in
set_option maxHeartbeats 4000000 in
theorem law_vote (C0 : lw_F p s m meth c b Ln xs D cy tx) {i : Int32} (hI : ∀ k : Int32, 0 ≤ k.toInt ∧ k.toInt ≤ 5 → vp_in (i + k) Ln) {Z : Nat} {K N : Nat → Nat} {M : MT} {R : RT} {J : JT} {H : Heap} {locs : List Loc} (hG : md_G D cy s.heap.size Z K N M R J s H locs) (hL : LI Z K N M R) {ls : Array Slot} (hl : lv_has ls 4 [(3, .int i), (2, .ref (s.heap.size + 69)), (1, .ref (s.heap.size + 0)), (0, .ref b)]) (kt : lw_KT p l e s m below meth c b D cy i) : W p l e room_1 s m #[Value.ref b] below meth c H locs 4000 500000 (lw_Z below #[Value.ref b] s) (F0 m 498 ls []) := by
  obtain ⟨hx, hb, hr, hml, hown, hW, hX, hbl, hlocks, hK, hT⟩ := C0
  have hbA : ¬ (fun q : Nat => s.heap.size ≤ q) b := Nat.not_le.mpr hbl
  refine lv_aload_n hx hb dL_law_498 rfl (lv_at hl 2 rfl) ?_
  refine lv_aload_n hx hb dL_law_499 rfl (lv_at hl 3 rfl) ?_
  refine lv_iload_n hx hb dL_law_500 rfl (lv_at hl 0 rfl) ?_
  refine lv_iconst (v := 1) hx hb dL_law_501 (by decide) ?_
  refine lv_iadd hx hb dL_law_502 ?_
  refine va_sld hx hb hX hbl hbA hG.2.2 (hI 1 ⟨by decide, by decide⟩) dL_law_503 ?_
  refine lw_goi hG hL (md_runV (As := [.int (xs (i + 1).toNatClampNeg)]) (rest := []) hx hb hml hown hW hK hT hG (t_X11_vote l D cy tx s.heap.size Z K N M R J hL.1.1 0 (show 0 < Z by have := hL.2.1.1.1; omega) hL.2.1.1.2.1 (xs (i + 1).toNatClampNeg) (iv_any _)) s_L_58 ⟨rfl, rfl, ⟨Nat.le_of_ble_eq_true rfl, Nat.le_of_ble_eq_true rfl⟩, Nat.le_of_ble_eq_true rfl, Nat.le_of_ble_eq_true rfl⟩ (show 0 < Z by have := hL.2.1.1.1; omega) hL.2.1.1.2.1 (by decide) rfl rfl hl.1 rfl (Nat.le_of_ble_eq_true rfl) dL_law_504) rfl (fun r1 H locs M1 R1 J1 hG hL => ?_)
  refine lv_pop hx hb dL_law_507 rfl ?_
  refine lv_aload_n hx hb dL_law_508 rfl (lv_at hl 1 rfl) ?_
  refine lv_aload_n hx hb dL_law_509 rfl (lv_at hl 3 rfl) ?_
  refine lv_iload_n hx hb dL_law_510 rfl (lv_at hl 0 rfl) ?_
  refine lv_iconst (v := 1) hx hb dL_law_511 (by decide) ?_
  refine lv_iadd hx hb dL_law_512 ?_
  refine va_sld hx hb hX hbl hbA hG.2.2 (hI 1 ⟨by decide, by decide⟩) dL_law_513 ?_
  refine lw_goi hG hL (md_runV (As := [.int (xs (i + 1).toNatClampNeg)]) (rest := []) hx hb hml hown hW hK hT hG (t_X12_vote l D cy tx s.heap.size Z K N M1 R1 J1 hL.1.1 69 (show 69 < Z by have := hL.2.1.1.1; omega) hL.2.1.1.2.2 (xs (i + 1).toNatClampNeg) (iv_any _) hL.2.2.1) s_L_61 ⟨rfl, rfl, ⟨Nat.le_of_ble_eq_true rfl, Nat.le_of_ble_eq_true rfl⟩, Nat.le_of_ble_eq_true rfl, Nat.le_of_ble_eq_true rfl⟩ (show 69 < Z by have := hL.2.1.1.1; omega) hL.2.1.1.2.2 (by decide) rfl rfl hl.1 rfl (Nat.le_of_ble_eq_true rfl) dL_law_514) rfl (fun r2 H locs M2 R2 J2 hG hL => ?_)
  refine lv_pop hx hb dL_law_517 rfl ?_
  refine lv_goto (tgt := 1157) hx hb dL_law_518 (by decide) ?_
  refine lw_tt hG hL ?_
  exact kt Z K N M2 R2 J2 H locs ls hG hL hl
set_option maxRecDepth 100000 in
set_option maxHeartbeats 4000000 in
theorem law_bench (C0 : lw_F p s m meth c b Ln xs D cy tx) {i : Int32} (hI : ∀ k : Int32, 0 ≤ k.toInt ∧ k.toInt ≤ 5 → vp_in (i + k) Ln) {Z : Nat} {K N : Nat → Nat} {M : MT} {R : RT} {J : JT} {H : Heap} {locs : List Loc} (hG : md_G D cy s.heap.size Z K N M R J s H locs) (hL : LI Z K N M R) {ls : Array Slot} (hl : lv_has ls 4 [(3, .int i), (2, .ref (s.heap.size + 69)), (1, .ref (s.heap.size + 0)), (0, .ref b)]) (kt : lw_KT p l e s m below meth c b D cy i) : W p l e room_1 s m #[Value.ref b] below meth c H locs 4000 500000 (lw_Z below #[Value.ref b] s) (F0 m 521 ls []) := by
  obtain ⟨hx, hb, hr, hml, hown, hW, hX, hbl, hlocks, hK, hT⟩ := C0
  have hbA : ¬ (fun q : Nat => s.heap.size ≤ q) b := Nat.not_le.mpr hbl
  refine lv_aload_n hx hb dL_law_521 rfl (lv_at hl 2 rfl) ?_
  refine lv_aload_n hx hb dL_law_522 rfl (lv_at hl 3 rfl) ?_
  refine lv_iload_n hx hb dL_law_523 rfl (lv_at hl 0 rfl) ?_
  refine lv_iconst (v := 1) hx hb dL_law_524 (by decide) ?_
  refine lv_iadd hx hb dL_law_525 ?_
  refine va_sld hx hb hX hbl hbA hG.2.2 (hI 1 ⟨by decide, by decide⟩) dL_law_526 ?_
  refine lv_aload_n hx hb dL_law_527 rfl (lv_at hl 3 rfl) ?_
  refine lv_iload_n hx hb dL_law_528 rfl (lv_at hl 0 rfl) ?_
  refine lv_iconst (v := 2) hx hb dL_law_529 (by decide) ?_
  refine lv_iadd hx hb dL_law_530 ?_
  refine va_sld hx hb hX hbl hbA hG.2.2 (hI 2 ⟨by decide, by decide⟩) dL_law_531 ?_
  refine lw_goi hG hL (md_runV (As := [.int (xs (i + 1).toNatClampNeg), .int (xs (i + 2).toNatClampNeg)]) (rest := []) hx hb hml hown hW hK hT hG (t_X11_bench l D cy tx s.heap.size Z K N M R J hL.1.1 0 (show 0 < Z by have := hL.2.1.1.1; omega) hL.2.1.1.2.1 (xs (i + 1).toNatClampNeg) (iv_any _) (xs (i + 2).toNatClampNeg) (iv_any _)) s_L_62 ⟨rfl, rfl, ⟨Nat.le_of_ble_eq_true rfl, Nat.le_of_ble_eq_true rfl⟩, Nat.le_of_ble_eq_true rfl, Nat.le_of_ble_eq_true rfl⟩ (show 0 < Z by have := hL.2.1.1.1; omega) hL.2.1.1.2.1 (by decide) rfl rfl hl.1 rfl (Nat.le_of_ble_eq_true rfl) dL_law_532) rfl (fun r1 H locs M1 R1 J1 hG hL => ?_)
  refine lv_pop hx hb dL_law_535 rfl ?_
  refine lv_aload_n hx hb dL_law_536 rfl (lv_at hl 1 rfl) ?_
  refine lv_aload_n hx hb dL_law_537 rfl (lv_at hl 3 rfl) ?_
  refine lv_iload_n hx hb dL_law_538 rfl (lv_at hl 0 rfl) ?_
  refine lv_iconst (v := 1) hx hb dL_law_539 (by decide) ?_
  refine lv_iadd hx hb dL_law_540 ?_
  refine va_sld hx hb hX hbl hbA hG.2.2 (hI 1 ⟨by decide, by decide⟩) dL_law_541 ?_
  refine lv_aload_n hx hb dL_law_542 rfl (lv_at hl 3 rfl) ?_
  refine lv_iload_n hx hb dL_law_543 rfl (lv_at hl 0 rfl) ?_
  refine lv_iconst (v := 2) hx hb dL_law_544 (by decide) ?_
  refine lv_iadd hx hb dL_law_545 ?_
  refine va_sld hx hb hX hbl hbA hG.2.2 (hI 2 ⟨by decide, by decide⟩) dL_law_546 ?_
  refine lw_goi hG hL (md_runV (As := [.int (xs (i + 1).toNatClampNeg), .int (xs (i + 2).toNatClampNeg)]) (rest := []) hx hb hml hown hW hK hT hG (t_X12_bench l D cy tx s.heap.size Z K N M1 R1 J1 hL.1.1 69 (show 69 < Z by have := hL.2.1.1.1; omega) hL.2.1.1.2.2 (xs (i + 1).toNatClampNeg) (iv_any _) (xs (i + 2).toNatClampNeg) (iv_any _)) s_L_65 ⟨rfl, rfl, ⟨Nat.le_of_ble_eq_true rfl, Nat.le_of_ble_eq_true rfl⟩, Nat.le_of_ble_eq_true rfl, Nat.le_of_ble_eq_true rfl⟩ (show 69 < Z by have := hL.2.1.1.1; omega) hL.2.1.1.2.2 (by decide) rfl rfl hl.1 rfl (Nat.le_of_ble_eq_true rfl) dL_law_547) rfl (fun r2 H locs M2 R2 J2 hG hL => ?_)
  refine lv_pop hx hb dL_law_550 rfl ?_
  refine lv_goto (tgt := 1157) hx hb dL_law_551 (by decide) ?_
  refine lw_tt hG hL ?_
  exact kt Z K N M2 R2 J2 H locs ls hG hL hl
set_option maxRecDepth 100000 in
set_option maxHeartbeats 4000000 in
theorem law_order (C0 : lw_F p s m meth c b Ln xs D cy tx) {i : Int32} (hI : ∀ k : Int32, 0 ≤ k.toInt ∧ k.toInt ≤ 5 → vp_in (i + k) Ln) {Z : Nat} {K N : Nat → Nat} {M : MT} {R : RT} {J : JT} {H : Heap} {locs : List Loc} (hG : md_G D cy s.heap.size Z K N M R J s H locs) (hL : LI Z K N M R) {ls : Array Slot} (hl : lv_has ls 4 [(3, .int i), (2, .ref (s.heap.size + 69)), (1, .ref (s.heap.size + 0)), (0, .ref b)]) (kt : lw_KT p l e s m below meth c b D cy i) : W p l e room_1 s m #[Value.ref b] below meth c H locs 4000 500000 (lw_Z below #[Value.ref b] s) (F0 m 554 ls []) := by
  obtain ⟨hx, hb, hr, hml, hown, hW, hX, hbl, hlocks, hK, hT⟩ := C0
  have hbA : ¬ (fun q : Nat => s.heap.size ≤ q) b := Nat.not_le.mpr hbl
  refine lv_aload_n hx hb dL_law_554 rfl (lv_at hl 2 rfl) ?_
  refine lv_aload_n hx hb dL_law_555 rfl (lv_at hl 3 rfl) ?_
  refine lv_iload_n hx hb dL_law_556 rfl (lv_at hl 0 rfl) ?_
  refine lv_iconst (v := 1) hx hb dL_law_557 (by decide) ?_
  refine lv_iadd hx hb dL_law_558 ?_
  refine va_sld hx hb hX hbl hbA hG.2.2 (hI 1 ⟨by decide, by decide⟩) dL_law_559 ?_
  refine lw_goi hG hL (md_runV (As := [.int (xs (i + 1).toNatClampNeg)]) (rest := []) hx hb hml hown hW hK hT hG (t_X11_order l D cy tx s.heap.size Z K N M R J hL.1.1 0 (show 0 < Z by have := hL.2.1.1.1; omega) hL.2.1.1.2.1 (xs (i + 1).toNatClampNeg) (iv_any _)) s_L_66 ⟨rfl, rfl, ⟨Nat.le_of_ble_eq_true rfl, Nat.le_of_ble_eq_true rfl⟩, Nat.le_of_ble_eq_true rfl, Nat.le_of_ble_eq_true rfl⟩ (show 0 < Z by have := hL.2.1.1.1; omega) hL.2.1.1.2.1 (by decide) rfl rfl hl.1 rfl (Nat.le_of_ble_eq_true rfl) dL_law_560) rfl (fun r1 H locs M1 R1 J1 hG hL => ?_)
  refine lv_pop hx hb dL_law_563 rfl ?_
  refine lv_aload_n hx hb dL_law_564 rfl (lv_at hl 1 rfl) ?_
  refine lv_aload_n hx hb dL_law_565 rfl (lv_at hl 3 rfl) ?_
  refine lv_iload_n hx hb dL_law_566 rfl (lv_at hl 0 rfl) ?_
  refine lv_iconst (v := 1) hx hb dL_law_567 (by decide) ?_
  refine lv_iadd hx hb dL_law_568 ?_
  refine va_sld hx hb hX hbl hbA hG.2.2 (hI 1 ⟨by decide, by decide⟩) dL_law_569 ?_
  refine lw_goi hG hL (md_runV (As := [.int (xs (i + 1).toNatClampNeg)]) (rest := []) hx hb hml hown hW hK hT hG (t_X12_order l D cy tx s.heap.size Z K N M1 R1 J1 hL.1.1 69 (show 69 < Z by have := hL.2.1.1.1; omega) hL.2.1.1.2.2 (xs (i + 1).toNatClampNeg) (iv_any _)) s_L_69 ⟨rfl, rfl, ⟨Nat.le_of_ble_eq_true rfl, Nat.le_of_ble_eq_true rfl⟩, Nat.le_of_ble_eq_true rfl, Nat.le_of_ble_eq_true rfl⟩ (show 69 < Z by have := hL.2.1.1.1; omega) hL.2.1.1.2.2 (by decide) rfl rfl hl.1 rfl (Nat.le_of_ble_eq_true rfl) dL_law_570) rfl (fun r2 H locs M2 R2 J2 hG hL => ?_)
  refine lv_pop hx hb dL_law_573 rfl ?_
  refine lv_goto (tgt := 1157) hx hb dL_law_574 (by decide) ?_
  refine lw_tt hG hL ?_
  exact kt Z K N M2 R2 J2 H locs ls hG hL hl
set_option maxRecDepth 100000 in
set_option maxHeartbeats 4000000 in
theorem law_ordered (C0 : lw_F p s m meth c b Ln xs D cy tx) {i : Int32} (hI : ∀ k : Int32, 0 ≤ k.toInt ∧ k.toInt ≤ 5 → vp_in (i + k) Ln) {Z : Nat} {K N : Nat → Nat} {M : MT} {R : RT} {J : JT} {H : Heap} {locs : List Loc} (hG : md_G D cy s.heap.size Z K N M R J s H locs) (hL : LI Z K N M R) {ls : Array Slot} (hl : lv_has ls 4 [(3, .int i), (2, .ref (s.heap.size + 69)), (1, .ref (s.heap.size + 0)), (0, .ref b)]) (kt : lw_KT p l e s m below meth c b D cy i) : W p l e room_1 s m #[Value.ref b] below meth c H locs 4000 500000 (lw_Z below #[Value.ref b] s) (F0 m 577 ls []) := by
  obtain ⟨hx, hb, hr, hml, hown, hW, hX, hbl, hlocks, hK, hT⟩ := C0
  have hbA : ¬ (fun q : Nat => s.heap.size ≤ q) b := Nat.not_le.mpr hbl
  refine lv_aload_n hx hb dL_law_577 rfl (lv_at hl 2 rfl) ?_
  refine lv_aload_n hx hb dL_law_578 rfl (lv_at hl 3 rfl) ?_
  refine lv_iload_n hx hb dL_law_579 rfl (lv_at hl 0 rfl) ?_
  refine lv_iconst (v := 1) hx hb dL_law_580 (by decide) ?_
  refine lv_iadd hx hb dL_law_581 ?_
  refine va_sld hx hb hX hbl hbA hG.2.2 (hI 1 ⟨by decide, by decide⟩) dL_law_582 ?_
  refine lw_goi hG hL (md_runV (As := [.int (xs (i + 1).toNatClampNeg)]) (rest := []) hx hb hml hown hW hK hT hG (t_X11_ordered l D cy tx s.heap.size Z K N M R J hL.1.1 0 (show 0 < Z by have := hL.2.1.1.1; omega) hL.2.1.1.2.1 (xs (i + 1).toNatClampNeg) (iv_any _)) s_L_70 ⟨rfl, rfl, ⟨Nat.le_of_ble_eq_true rfl, Nat.le_of_ble_eq_true rfl⟩, Nat.le_of_ble_eq_true rfl, Nat.le_of_ble_eq_true rfl⟩ (show 0 < Z by have := hL.2.1.1.1; omega) hL.2.1.1.2.1 (by decide) rfl rfl hl.1 rfl (Nat.le_of_ble_eq_true rfl) dL_law_583) rfl (fun r1 H locs M1 R1 J1 hG hL => ?_)
  refine lv_pop hx hb dL_law_586 rfl ?_
  refine lv_aload_n hx hb dL_law_587 rfl (lv_at hl 1 rfl) ?_
  refine lv_aload_n hx hb dL_law_588 rfl (lv_at hl 3 rfl) ?_
  refine lv_iload_n hx hb dL_law_589 rfl (lv_at hl 0 rfl) ?_
  refine lv_iconst (v := 1) hx hb dL_law_590 (by decide) ?_
  refine lv_iadd hx hb dL_law_591 ?_
  refine va_sld hx hb hX hbl hbA hG.2.2 (hI 1 ⟨by decide, by decide⟩) dL_law_592 ?_
  refine lw_goi hG hL (md_runV (As := [.int (xs (i + 1).toNatClampNeg)]) (rest := []) hx hb hml hown hW hK hT hG (t_X12_ordered l D cy tx s.heap.size Z K N M1 R1 J1 hL.1.1 69 (show 69 < Z by have := hL.2.1.1.1; omega) hL.2.1.1.2.2 (xs (i + 1).toNatClampNeg) (iv_any _)) s_L_73 ⟨rfl, rfl, ⟨Nat.le_of_ble_eq_true rfl, Nat.le_of_ble_eq_true rfl⟩, Nat.le_of_ble_eq_true rfl, Nat.le_of_ble_eq_true rfl⟩ (show 69 < Z by have := hL.2.1.1.1; omega) hL.2.1.1.2.2 (by decide) rfl rfl hl.1 rfl (Nat.le_of_ble_eq_true rfl) dL_law_593) rfl (fun r2 H locs M2 R2 J2 hG hL => ?_)
  refine lv_pop hx hb dL_law_596 rfl ?_
  refine lv_goto (tgt := 1157) hx hb dL_law_597 (by decide) ?_
  refine lw_tt hG hL ?_
  exact kt Z K N M2 R2 J2 H locs ls hG hL hl
set_option maxRecDepth 100000 in
set_option maxHeartbeats 4000000 in
theorem law_day (C0 : lw_F p s m meth c b Ln xs D cy tx) {i : Int32} (hI : ∀ k : Int32, 0 ≤ k.toInt ∧ k.toInt ≤ 5 → vp_in (i + k) Ln) {Z : Nat} {K N : Nat → Nat} {M : MT} {R : RT} {J : JT} {H : Heap} {locs : List Loc} (hG : md_G D cy s.heap.size Z K N M R J s H locs) (hL : LI Z K N M R) {ls : Array Slot} (hl : lv_has ls 4 [(3, .int i), (2, .ref (s.heap.size + 69)), (1, .ref (s.heap.size + 0)), (0, .ref b)]) (kt : lw_KT p l e s m below meth c b D cy i) : W p l e room_1 s m #[Value.ref b] below meth c H locs 4000 500000 (lw_Z below #[Value.ref b] s) (F0 m 600 ls []) := by
  obtain ⟨hx, hb, hr, hml, hown, hW, hX, hbl, hlocks, hK, hT⟩ := C0
  have hbA : ¬ (fun q : Nat => s.heap.size ≤ q) b := Nat.not_le.mpr hbl
  refine lv_aload_n hx hb dL_law_600 rfl (lv_at hl 2 rfl) ?_
  refine lw_goi hG hL (md_runV (As := []) (rest := []) hx hb hml hown hW hK hT hG (t_X11_day l D cy tx s.heap.size Z K N M R J hL.1.1 0 (show 0 < Z by have := hL.2.1.1.1; omega) hL.2.1.1.2.1) s_L_74 ⟨rfl, rfl, ⟨Nat.le_of_ble_eq_true rfl, Nat.le_of_ble_eq_true rfl⟩, Nat.le_of_ble_eq_true rfl, Nat.le_of_ble_eq_true rfl⟩ (show 0 < Z by have := hL.2.1.1.1; omega) hL.2.1.1.2.1 (by decide) rfl rfl hl.1 rfl (Nat.le_of_ble_eq_true rfl) dL_law_601) rfl (fun r1 H locs M1 R1 J1 hG hL => ?_)
  refine lv_pop hx hb dL_law_604 rfl ?_
  refine lv_aload_n hx hb dL_law_605 rfl (lv_at hl 1 rfl) ?_
  refine lw_goi hG hL (md_runV (As := []) (rest := []) hx hb hml hown hW hK hT hG (t_X12_day l D cy tx s.heap.size Z K N M1 R1 J1 hL.1.1 69 (show 69 < Z by have := hL.2.1.1.1; omega) hL.2.1.1.2.2 hL.2.2.1) s_L_77 ⟨rfl, rfl, ⟨Nat.le_of_ble_eq_true rfl, Nat.le_of_ble_eq_true rfl⟩, Nat.le_of_ble_eq_true rfl, Nat.le_of_ble_eq_true rfl⟩ (show 69 < Z by have := hL.2.1.1.1; omega) hL.2.1.1.2.2 (by decide) rfl rfl hl.1 rfl (Nat.le_of_ble_eq_true rfl) dL_law_606) rfl (fun r2 H locs M2 R2 J2 hG hL => ?_)
  refine lv_pop hx hb dL_law_609 rfl ?_
  refine lv_goto (tgt := 1157) hx hb dL_law_610 (by decide) ?_
  refine lw_tt hG hL ?_
  exact kt Z K N M2 R2 J2 H locs ls hG hL hl
set_option maxRecDepth 100000 in
set_option maxHeartbeats 4000000 in
theorem law_open (C0 : lw_F p s m meth c b Ln xs D cy tx) {i : Int32} (hI : ∀ k : Int32, 0 ≤ k.toInt ∧ k.toInt ≤ 5 → vp_in (i + k) Ln) {Z : Nat} {K N : Nat → Nat} {M : MT} {R : RT} {J : JT} {H : Heap} {locs : List Loc} (hG : md_G D cy s.heap.size Z K N M R J s H locs) (hL : LI Z K N M R) {ls : Array Slot} (hl : lv_has ls 4 [(3, .int i), (2, .ref (s.heap.size + 69)), (1, .ref (s.heap.size + 0)), (0, .ref b)]) (kt : lw_KT p l e s m below meth c b D cy i) : W p l e room_1 s m #[Value.ref b] below meth c H locs 4000 500000 (lw_Z below #[Value.ref b] s) (F0 m 613 ls []) := by
  obtain ⟨hx, hb, hr, hml, hown, hW, hX, hbl, hlocks, hK, hT⟩ := C0
  have hbA : ¬ (fun q : Nat => s.heap.size ≤ q) b := Nat.not_le.mpr hbl
  refine lv_aload_n hx hb dL_law_613 rfl (lv_at hl 2 rfl) ?_
  refine lv_aload_n hx hb dL_law_614 rfl (lv_at hl 3 rfl) ?_
  refine lv_iload_n hx hb dL_law_615 rfl (lv_at hl 0 rfl) ?_
  refine lv_iconst (v := 1) hx hb dL_law_616 (by decide) ?_
  refine lv_iadd hx hb dL_law_617 ?_
  refine va_sld hx hb hX hbl hbA hG.2.2 (hI 1 ⟨by decide, by decide⟩) dL_law_618 ?_
  refine lv_aload_n hx hb dL_law_619 rfl (lv_at hl 3 rfl) ?_
  refine lv_iload_n hx hb dL_law_620 rfl (lv_at hl 0 rfl) ?_
  refine lv_iconst (v := 2) hx hb dL_law_621 (by decide) ?_
  refine lv_iadd hx hb dL_law_622 ?_
  refine va_sld hx hb hX hbl hbA hG.2.2 (hI 2 ⟨by decide, by decide⟩) dL_law_623 ?_
  refine lv_aload_n hx hb dL_law_624 rfl (lv_at hl 3 rfl) ?_
  refine lv_iload_n hx hb dL_law_625 rfl (lv_at hl 0 rfl) ?_
  refine lv_iconst (v := 3) hx hb dL_law_626 (by decide) ?_
  refine lv_iadd hx hb dL_law_627 ?_
  refine va_sld hx hb hX hbl hbA hG.2.2 (hI 3 ⟨by decide, by decide⟩) dL_law_628 ?_
  refine lw_goi hG hL (md_runV (As := [.int (xs (i + 1).toNatClampNeg), .int (xs (i + 2).toNatClampNeg), .int (xs (i + 3).toNatClampNeg)]) (rest := []) hx hb hml hown hW hK hT hG (t_X11_open l D cy tx s.heap.size Z K N M R J hL.1.1 0 (show 0 < Z by have := hL.2.1.1.1; omega) hL.2.1.1.2.1 (xs (i + 1).toNatClampNeg) (iv_any _) (xs (i + 2).toNatClampNeg) (iv_any _) (xs (i + 3).toNatClampNeg) (iv_any _)) s_L_78 ⟨rfl, rfl, ⟨Nat.le_of_ble_eq_true rfl, Nat.le_of_ble_eq_true rfl⟩, Nat.le_of_ble_eq_true rfl, Nat.le_of_ble_eq_true rfl⟩ (show 0 < Z by have := hL.2.1.1.1; omega) hL.2.1.1.2.1 (by decide) rfl rfl hl.1 rfl (Nat.le_of_ble_eq_true rfl) dL_law_629) rfl (fun r1 H locs M1 R1 J1 hG hL => ?_)
  refine lv_pop hx hb dL_law_632 rfl ?_
  refine lv_aload_n hx hb dL_law_633 rfl (lv_at hl 1 rfl) ?_
  refine lv_aload_n hx hb dL_law_634 rfl (lv_at hl 3 rfl) ?_
  refine lv_iload_n hx hb dL_law_635 rfl (lv_at hl 0 rfl) ?_
  refine lv_iconst (v := 1) hx hb dL_law_636 (by decide) ?_
  refine lv_iadd hx hb dL_law_637 ?_
  refine va_sld hx hb hX hbl hbA hG.2.2 (hI 1 ⟨by decide, by decide⟩) dL_law_638 ?_
  refine lv_aload_n hx hb dL_law_639 rfl (lv_at hl 3 rfl) ?_
  refine lv_iload_n hx hb dL_law_640 rfl (lv_at hl 0 rfl) ?_
  refine lv_iconst (v := 2) hx hb dL_law_641 (by decide) ?_
  refine lv_iadd hx hb dL_law_642 ?_
  refine va_sld hx hb hX hbl hbA hG.2.2 (hI 2 ⟨by decide, by decide⟩) dL_law_643 ?_
  refine lv_aload_n hx hb dL_law_644 rfl (lv_at hl 3 rfl) ?_
  refine lv_iload_n hx hb dL_law_645 rfl (lv_at hl 0 rfl) ?_
  refine lv_iconst (v := 3) hx hb dL_law_646 (by decide) ?_
  refine lv_iadd hx hb dL_law_647 ?_
  refine va_sld hx hb hX hbl hbA hG.2.2 (hI 3 ⟨by decide, by decide⟩) dL_law_648 ?_
  refine lw_goi hG hL (md_runV (As := [.int (xs (i + 1).toNatClampNeg), .int (xs (i + 2).toNatClampNeg), .int (xs (i + 3).toNatClampNeg)]) (rest := []) hx hb hml hown hW hK hT hG (t_X12_open l D cy tx s.heap.size Z K N M1 R1 J1 hL.1.1 69 (show 69 < Z by have := hL.2.1.1.1; omega) hL.2.1.1.2.2 (xs (i + 1).toNatClampNeg) (iv_any _) (xs (i + 2).toNatClampNeg) (iv_any _) (xs (i + 3).toNatClampNeg) (iv_any _) hL.2.2.1) s_L_82 ⟨rfl, rfl, ⟨Nat.le_of_ble_eq_true rfl, Nat.le_of_ble_eq_true rfl⟩, Nat.le_of_ble_eq_true rfl, Nat.le_of_ble_eq_true rfl⟩ (show 69 < Z by have := hL.2.1.1.1; omega) hL.2.1.1.2.2 (by decide) rfl rfl hl.1 rfl (Nat.le_of_ble_eq_true rfl) dL_law_649) rfl (fun r2 H locs M2 R2 J2 hG hL => ?_)
  refine lv_pop hx hb dL_law_652 rfl ?_
  refine lv_goto (tgt := 1157) hx hb dL_law_653 (by decide) ?_
  refine lw_tt hG hL ?_
  exact kt Z K N M2 R2 J2 H locs ls hG hL hl
end LAWC8
