section LAWC8
variable {p : Program} {l : Launch} {e : Env} {s : State} {m : MethodId} {below : List Frame} {meth : Method} {c : Code} {b : Nat} {xs : Nat → Int32} {D : va_G} {cy : Nat → ClassId} {tx : (Nat → Nat) × (Nat → Nat)}
set_option maxRecDepth 100000 in
set_option maxHeartbeats 4000000 in
theorem law_beside (C0 : lw_F p s m meth c b xs D cy tx) {H : Heap} {locs : List Loc} (hG : md_G D cy s.heap.size 104 KX NX M0 RX J0 s H locs) {ls : Array Slot} (hl : lv_has ls 4 [(3, .int 0), (2, .ref (s.heap.size + 69)), (1, .ref (s.heap.size + 0)), (0, .ref b)]) : W p l e room_1 s m #[Value.ref b] below meth c H locs 104 87680 (lw_Z below #[Value.ref b] s) (F0 m 432 ls []) := by
  have C1 := C0
  obtain ⟨hx, hb, hr, hml, hown, hW, hX, hbl, hlocks, hK, hT⟩ := C1
  have hbA : ¬ (fun q : Nat => s.heap.size ≤ q) b := Nat.not_le.mpr hbl
  refine lv_aload_n hx hb dL_law_432 rfl (lv_at hl 2 rfl) ?_
  refine lv_aload_n hx hb dL_law_433 rfl (lv_at hl 3 rfl) ?_
  refine lv_iload_n hx hb dL_law_434 rfl (lv_at hl 0 rfl) ?_
  refine lv_iconst (v := 1) hx hb dL_law_435 (by decide) ?_
  refine lv_iadd hx hb dL_law_436 ?_
  refine md_top (y := 1) (by decide) ?_
  refine va_sld hx hb hX hbl hbA hG.2.2 (md_inD (by decide)) dL_law_437 ?_
  refine md_top (y := xs 1) (congrArg xs (by decide)) ?_
  refine lv_aload_n hx hb dL_law_438 rfl (lv_at hl 3 rfl) ?_
  refine lv_iload_n hx hb dL_law_439 rfl (lv_at hl 0 rfl) ?_
  refine lv_iconst (v := 2) hx hb dL_law_440 (by decide) ?_
  refine lv_iadd hx hb dL_law_441 ?_
  refine md_top (y := 2) (by decide) ?_
  refine va_sld hx hb hX hbl hbA hG.2.2 (md_inD (by decide)) dL_law_442 ?_
  refine md_top (y := xs 2) (congrArg xs (by decide)) ?_
  refine md_goi hG (md_runV (As := [.int (xs 1), .int (xs 2)]) (rest := []) hx hb hml hown hW hK hT hG (c_X11_beside l D cy tx s.heap.size 104 KX NX M0 RX J0 (by decide) rfl rfl rfl rfl rfl rfl rfl rfl (xs 1) (xs 2) ) s_L_50 ⟨rfl, rfl, ⟨Nat.le_of_ble_eq_true rfl, Nat.le_of_ble_eq_true rfl⟩, Nat.le_of_ble_eq_true rfl, Nat.le_of_ble_eq_true rfl⟩ (by decide) rfl (by decide) rfl rfl hl.1 rfl (Nat.le_of_ble_eq_true rfl) dL_law_443) (fun r u H locs hp hG => ?_)
  obtain ⟨rfl, rfl⟩ := hp
  have hG : md_G D cy s.heap.size 104 KX NX (u2 M0 2 0 1) RX J0 s H locs := hG
  refine lv_aload_n hx hb dL_law_446 rfl (lv_at hl 1 rfl) ?_
  refine lv_aload_n hx hb dL_law_447 rfl (lv_at hl 3 rfl) ?_
  refine lv_iload_n hx hb dL_law_448 rfl (lv_at hl 0 rfl) ?_
  refine lv_iconst (v := 1) hx hb dL_law_449 (by decide) ?_
  refine lv_iadd hx hb dL_law_450 ?_
  refine md_top (y := 1) (by decide) ?_
  refine va_sld hx hb hX hbl hbA hG.2.2 (md_inD (by decide)) dL_law_451 ?_
  refine md_top (y := xs 1) (congrArg xs (by decide)) ?_
  refine lv_aload_n hx hb dL_law_452 rfl (lv_at hl 3 rfl) ?_
  refine lv_iload_n hx hb dL_law_453 rfl (lv_at hl 0 rfl) ?_
  refine lv_iconst (v := 2) hx hb dL_law_454 (by decide) ?_
  refine lv_iadd hx hb dL_law_455 ?_
  refine md_top (y := 2) (by decide) ?_
  refine va_sld hx hb hX hbl hbA hG.2.2 (md_inD (by decide)) dL_law_456 ?_
  refine md_top (y := xs 2) (congrArg xs (by decide)) ?_
  refine md_goi hG (md_runV (As := [.int (xs 1), .int (xs 2)]) (rest := [.int (-2)]) hx hb hml hown hW hK hT hG (c_X12_beside l D cy tx s.heap.size 104 KX NX (u2 M0 2 0 1) RX J0 (by decide) rfl rfl rfl rfl rfl rfl rfl rfl rfl (xs 1) (xs 2) ) s_L_53 ⟨rfl, rfl, ⟨Nat.le_of_ble_eq_true rfl, Nat.le_of_ble_eq_true rfl⟩, Nat.le_of_ble_eq_true rfl, Nat.le_of_ble_eq_true rfl⟩ (by decide) rfl (by decide) rfl rfl hl.1 rfl (Nat.le_of_ble_eq_true rfl) dL_law_457) (fun r u H locs hp hG => ?_)
  obtain ⟨rfl, rfl⟩ := hp
  have hG : md_G D cy s.heap.size 104 KX NX (u2 (u2 M0 2 0 1) 82 0 1) RX J0 s H locs := hG
  refine lv_icmp_eq (tgt := 1157) hx hb dL_law_460 (by decide) (fun _ => ?_) (fun h => absurd rfl h)
  exact law_tail C0 (Nat.le_of_ble_eq_true rfl) (Nat.le_of_ble_eq_true rfl) hG (lv_sub hl [0, 3] rfl)
set_option maxRecDepth 100000 in
set_option maxHeartbeats 4000000 in
theorem law_says (C0 : lw_F p s m meth c b xs D cy tx) {H : Heap} {locs : List Loc} (hG : md_G D cy s.heap.size 104 KX NX M0 RX J0 s H locs) {ls : Array Slot} (hl : lv_has ls 4 [(3, .int 0), (2, .ref (s.heap.size + 69)), (1, .ref (s.heap.size + 0)), (0, .ref b)]) : W p l e room_1 s m #[Value.ref b] below meth c H locs 104 87680 (lw_Z below #[Value.ref b] s) (F0 m 465 ls []) := by
  have C1 := C0
  obtain ⟨hx, hb, hr, hml, hown, hW, hX, hbl, hlocks, hK, hT⟩ := C1
  have hbA : ¬ (fun q : Nat => s.heap.size ≤ q) b := Nat.not_le.mpr hbl
  refine lv_aload_n hx hb dL_law_465 rfl (lv_at hl 2 rfl) ?_
  refine lv_aload_n hx hb dL_law_466 rfl (lv_at hl 3 rfl) ?_
  refine lv_iload_n hx hb dL_law_467 rfl (lv_at hl 0 rfl) ?_
  refine lv_iconst (v := 1) hx hb dL_law_468 (by decide) ?_
  refine lv_iadd hx hb dL_law_469 ?_
  refine md_top (y := 1) (by decide) ?_
  refine va_sld hx hb hX hbl hbA hG.2.2 (md_inD (by decide)) dL_law_470 ?_
  refine md_top (y := xs 1) (congrArg xs (by decide)) ?_
  refine lv_aload_n hx hb dL_law_471 rfl (lv_at hl 3 rfl) ?_
  refine lv_iload_n hx hb dL_law_472 rfl (lv_at hl 0 rfl) ?_
  refine lv_iconst (v := 2) hx hb dL_law_473 (by decide) ?_
  refine lv_iadd hx hb dL_law_474 ?_
  refine md_top (y := 2) (by decide) ?_
  refine va_sld hx hb hX hbl hbA hG.2.2 (md_inD (by decide)) dL_law_475 ?_
  refine md_top (y := xs 2) (congrArg xs (by decide)) ?_
  refine md_goi hG (md_runV (As := [.int (xs 1), .int (xs 2)]) (rest := []) hx hb hml hown hW hK hT hG (c_X11_says l D cy tx s.heap.size 104 KX NX M0 RX J0 (by decide) rfl rfl rfl rfl (xs 1) (xs 2) ) s_L_54 ⟨rfl, rfl, ⟨Nat.le_of_ble_eq_true rfl, Nat.le_of_ble_eq_true rfl⟩, Nat.le_of_ble_eq_true rfl, Nat.le_of_ble_eq_true rfl⟩ (by decide) rfl (by decide) rfl rfl hl.1 rfl (Nat.le_of_ble_eq_true rfl) dL_law_476) (fun r u H locs hp hG => ?_)
  obtain ⟨rfl, rfl⟩ := hp
  have hG : md_G D cy s.heap.size 104 KX NX M0 RX J0 s H locs := hG
  refine lv_aload_n hx hb dL_law_479 rfl (lv_at hl 1 rfl) ?_
  refine lv_aload_n hx hb dL_law_480 rfl (lv_at hl 3 rfl) ?_
  refine lv_iload_n hx hb dL_law_481 rfl (lv_at hl 0 rfl) ?_
  refine lv_iconst (v := 1) hx hb dL_law_482 (by decide) ?_
  refine lv_iadd hx hb dL_law_483 ?_
  refine md_top (y := 1) (by decide) ?_
  refine va_sld hx hb hX hbl hbA hG.2.2 (md_inD (by decide)) dL_law_484 ?_
  refine md_top (y := xs 1) (congrArg xs (by decide)) ?_
  refine lv_aload_n hx hb dL_law_485 rfl (lv_at hl 3 rfl) ?_
  refine lv_iload_n hx hb dL_law_486 rfl (lv_at hl 0 rfl) ?_
  refine lv_iconst (v := 2) hx hb dL_law_487 (by decide) ?_
  refine lv_iadd hx hb dL_law_488 ?_
  refine md_top (y := 2) (by decide) ?_
  refine va_sld hx hb hX hbl hbA hG.2.2 (md_inD (by decide)) dL_law_489 ?_
  refine md_top (y := xs 2) (congrArg xs (by decide)) ?_
  refine md_goi hG (md_runV (As := [.int (xs 1), .int (xs 2)]) (rest := [.int (-1)]) hx hb hml hown hW hK hT hG (c_X12_says l D cy tx s.heap.size 104 KX NX M0 RX J0 (by decide) rfl rfl rfl rfl rfl (xs 1) (xs 2) ) s_L_57 ⟨rfl, rfl, ⟨Nat.le_of_ble_eq_true rfl, Nat.le_of_ble_eq_true rfl⟩, Nat.le_of_ble_eq_true rfl, Nat.le_of_ble_eq_true rfl⟩ (by decide) rfl (by decide) rfl rfl hl.1 rfl (Nat.le_of_ble_eq_true rfl) dL_law_490) (fun r u H locs hp hG => ?_)
  obtain ⟨rfl, rfl⟩ := hp
  have hG : md_G D cy s.heap.size 104 KX NX M0 RX J0 s H locs := hG
  refine lv_icmp_eq (tgt := 1157) hx hb dL_law_493 (by decide) (fun _ => ?_) (fun h => absurd rfl h)
  exact law_tail C0 (Nat.le_of_ble_eq_true rfl) (Nat.le_of_ble_eq_true rfl) hG (lv_sub hl [0, 3] rfl)
set_option maxRecDepth 100000 in
set_option maxHeartbeats 4000000 in
theorem law_vote (C0 : lw_F p s m meth c b xs D cy tx) {H : Heap} {locs : List Loc} (hG : md_G D cy s.heap.size 104 KX NX M0 RX J0 s H locs) {ls : Array Slot} (hl : lv_has ls 4 [(3, .int 0), (2, .ref (s.heap.size + 69)), (1, .ref (s.heap.size + 0)), (0, .ref b)]) : W p l e room_1 s m #[Value.ref b] below meth c H locs 104 87680 (lw_Z below #[Value.ref b] s) (F0 m 498 ls []) := by
  have C1 := C0
  obtain ⟨hx, hb, hr, hml, hown, hW, hX, hbl, hlocks, hK, hT⟩ := C1
  have hbA : ¬ (fun q : Nat => s.heap.size ≤ q) b := Nat.not_le.mpr hbl
  refine lv_aload_n hx hb dL_law_498 rfl (lv_at hl 2 rfl) ?_
  refine lv_aload_n hx hb dL_law_499 rfl (lv_at hl 3 rfl) ?_
  refine lv_iload_n hx hb dL_law_500 rfl (lv_at hl 0 rfl) ?_
  refine lv_iconst (v := 1) hx hb dL_law_501 (by decide) ?_
  refine lv_iadd hx hb dL_law_502 ?_
  refine md_top (y := 1) (by decide) ?_
  refine va_sld hx hb hX hbl hbA hG.2.2 (md_inD (by decide)) dL_law_503 ?_
  refine md_top (y := xs 1) (congrArg xs (by decide)) ?_
  refine md_goi hG (md_runV (As := [.int (xs 1)]) (rest := []) hx hb hml hown hW hK hT hG (c_X11_vote l D cy tx s.heap.size 104 KX NX M0 RX J0 (by decide) rfl rfl rfl rfl rfl rfl rfl rfl (xs 1) ) s_L_58 ⟨rfl, rfl, ⟨Nat.le_of_ble_eq_true rfl, Nat.le_of_ble_eq_true rfl⟩, Nat.le_of_ble_eq_true rfl, Nat.le_of_ble_eq_true rfl⟩ (by decide) rfl (by decide) rfl rfl hl.1 rfl (Nat.le_of_ble_eq_true rfl) dL_law_504) (fun r u H locs hp hG => ?_)
  obtain ⟨rfl, rfl⟩ := hp
  have hG : md_G D cy s.heap.size 104 KX NX (u2 M0 2 0 1) RX J0 s H locs := hG
  refine lv_aload_n hx hb dL_law_507 rfl (lv_at hl 1 rfl) ?_
  refine lv_aload_n hx hb dL_law_508 rfl (lv_at hl 3 rfl) ?_
  refine lv_iload_n hx hb dL_law_509 rfl (lv_at hl 0 rfl) ?_
  refine lv_iconst (v := 1) hx hb dL_law_510 (by decide) ?_
  refine lv_iadd hx hb dL_law_511 ?_
  refine md_top (y := 1) (by decide) ?_
  refine va_sld hx hb hX hbl hbA hG.2.2 (md_inD (by decide)) dL_law_512 ?_
  refine md_top (y := xs 1) (congrArg xs (by decide)) ?_
  refine md_goi hG (md_runV (As := [.int (xs 1)]) (rest := [.int (-2)]) hx hb hml hown hW hK hT hG (c_X12_vote l D cy tx s.heap.size 104 KX NX (u2 M0 2 0 1) RX J0 (by decide) rfl rfl rfl rfl rfl rfl rfl rfl rfl (xs 1) ) s_L_61 ⟨rfl, rfl, ⟨Nat.le_of_ble_eq_true rfl, Nat.le_of_ble_eq_true rfl⟩, Nat.le_of_ble_eq_true rfl, Nat.le_of_ble_eq_true rfl⟩ (by decide) rfl (by decide) rfl rfl hl.1 rfl (Nat.le_of_ble_eq_true rfl) dL_law_513) (fun r u H locs hp hG => ?_)
  obtain ⟨rfl, rfl⟩ := hp
  have hG : md_G D cy s.heap.size 104 KX NX (u2 (u2 M0 2 0 1) 82 0 1) RX J0 s H locs := hG
  refine lv_icmp_eq (tgt := 1157) hx hb dL_law_516 (by decide) (fun _ => ?_) (fun h => absurd rfl h)
  exact law_tail C0 (Nat.le_of_ble_eq_true rfl) (Nat.le_of_ble_eq_true rfl) hG (lv_sub hl [0, 3] rfl)
set_option maxRecDepth 100000 in
set_option maxHeartbeats 4000000 in
theorem law_bench (C0 : lw_F p s m meth c b xs D cy tx) {H : Heap} {locs : List Loc} (hG : md_G D cy s.heap.size 104 KX NX M0 RX J0 s H locs) {ls : Array Slot} (hl : lv_has ls 4 [(3, .int 0), (2, .ref (s.heap.size + 69)), (1, .ref (s.heap.size + 0)), (0, .ref b)]) : W p l e room_1 s m #[Value.ref b] below meth c H locs 104 87680 (lw_Z below #[Value.ref b] s) (F0 m 521 ls []) := by
  have C1 := C0
  obtain ⟨hx, hb, hr, hml, hown, hW, hX, hbl, hlocks, hK, hT⟩ := C1
  have hbA : ¬ (fun q : Nat => s.heap.size ≤ q) b := Nat.not_le.mpr hbl
  refine lv_aload_n hx hb dL_law_521 rfl (lv_at hl 2 rfl) ?_
  refine lv_aload_n hx hb dL_law_522 rfl (lv_at hl 3 rfl) ?_
  refine lv_iload_n hx hb dL_law_523 rfl (lv_at hl 0 rfl) ?_
  refine lv_iconst (v := 1) hx hb dL_law_524 (by decide) ?_
  refine lv_iadd hx hb dL_law_525 ?_
  refine md_top (y := 1) (by decide) ?_
  refine va_sld hx hb hX hbl hbA hG.2.2 (md_inD (by decide)) dL_law_526 ?_
  refine md_top (y := xs 1) (congrArg xs (by decide)) ?_
  refine lv_aload_n hx hb dL_law_527 rfl (lv_at hl 3 rfl) ?_
  refine lv_iload_n hx hb dL_law_528 rfl (lv_at hl 0 rfl) ?_
  refine lv_iconst (v := 2) hx hb dL_law_529 (by decide) ?_
  refine lv_iadd hx hb dL_law_530 ?_
  refine md_top (y := 2) (by decide) ?_
  refine va_sld hx hb hX hbl hbA hG.2.2 (md_inD (by decide)) dL_law_531 ?_
  refine md_top (y := xs 2) (congrArg xs (by decide)) ?_
  refine md_goi hG (md_runV (As := [.int (xs 1), .int (xs 2)]) (rest := []) hx hb hml hown hW hK hT hG (c_X11_bench l D cy tx s.heap.size 104 KX NX M0 RX J0 (by decide) rfl rfl rfl rfl rfl rfl rfl rfl (xs 1) (xs 2) ) s_L_62 ⟨rfl, rfl, ⟨Nat.le_of_ble_eq_true rfl, Nat.le_of_ble_eq_true rfl⟩, Nat.le_of_ble_eq_true rfl, Nat.le_of_ble_eq_true rfl⟩ (by decide) rfl (by decide) rfl rfl hl.1 rfl (Nat.le_of_ble_eq_true rfl) dL_law_532) (fun r u H locs hp hG => ?_)
  obtain ⟨rfl, rfl⟩ := hp
  have hG : md_G D cy s.heap.size 104 KX NX (u2 M0 2 0 1) RX J0 s H locs := hG
  refine lv_aload_n hx hb dL_law_535 rfl (lv_at hl 1 rfl) ?_
  refine lv_aload_n hx hb dL_law_536 rfl (lv_at hl 3 rfl) ?_
  refine lv_iload_n hx hb dL_law_537 rfl (lv_at hl 0 rfl) ?_
  refine lv_iconst (v := 1) hx hb dL_law_538 (by decide) ?_
  refine lv_iadd hx hb dL_law_539 ?_
  refine md_top (y := 1) (by decide) ?_
  refine va_sld hx hb hX hbl hbA hG.2.2 (md_inD (by decide)) dL_law_540 ?_
  refine md_top (y := xs 1) (congrArg xs (by decide)) ?_
  refine lv_aload_n hx hb dL_law_541 rfl (lv_at hl 3 rfl) ?_
  refine lv_iload_n hx hb dL_law_542 rfl (lv_at hl 0 rfl) ?_
  refine lv_iconst (v := 2) hx hb dL_law_543 (by decide) ?_
  refine lv_iadd hx hb dL_law_544 ?_
  refine md_top (y := 2) (by decide) ?_
  refine va_sld hx hb hX hbl hbA hG.2.2 (md_inD (by decide)) dL_law_545 ?_
  refine md_top (y := xs 2) (congrArg xs (by decide)) ?_
  refine md_goi hG (md_runV (As := [.int (xs 1), .int (xs 2)]) (rest := [.int (-2)]) hx hb hml hown hW hK hT hG (c_X12_bench l D cy tx s.heap.size 104 KX NX (u2 M0 2 0 1) RX J0 (by decide) rfl rfl rfl rfl rfl rfl rfl rfl rfl (xs 1) (xs 2) ) s_L_65 ⟨rfl, rfl, ⟨Nat.le_of_ble_eq_true rfl, Nat.le_of_ble_eq_true rfl⟩, Nat.le_of_ble_eq_true rfl, Nat.le_of_ble_eq_true rfl⟩ (by decide) rfl (by decide) rfl rfl hl.1 rfl (Nat.le_of_ble_eq_true rfl) dL_law_546) (fun r u H locs hp hG => ?_)
  obtain ⟨rfl, rfl⟩ := hp
  have hG : md_G D cy s.heap.size 104 KX NX (u2 (u2 M0 2 0 1) 82 0 1) RX J0 s H locs := hG
  refine lv_icmp_eq (tgt := 1157) hx hb dL_law_549 (by decide) (fun _ => ?_) (fun h => absurd rfl h)
  exact law_tail C0 (Nat.le_of_ble_eq_true rfl) (Nat.le_of_ble_eq_true rfl) hG (lv_sub hl [0, 3] rfl)
set_option maxRecDepth 100000 in
set_option maxHeartbeats 4000000 in
theorem law_order (C0 : lw_F p s m meth c b xs D cy tx) {H : Heap} {locs : List Loc} (hG : md_G D cy s.heap.size 104 KX NX M0 RX J0 s H locs) {ls : Array Slot} (hl : lv_has ls 4 [(3, .int 0), (2, .ref (s.heap.size + 69)), (1, .ref (s.heap.size + 0)), (0, .ref b)]) : W p l e room_1 s m #[Value.ref b] below meth c H locs 104 87680 (lw_Z below #[Value.ref b] s) (F0 m 554 ls []) := by
  have C1 := C0
  obtain ⟨hx, hb, hr, hml, hown, hW, hX, hbl, hlocks, hK, hT⟩ := C1
  have hbA : ¬ (fun q : Nat => s.heap.size ≤ q) b := Nat.not_le.mpr hbl
  refine lv_aload_n hx hb dL_law_554 rfl (lv_at hl 2 rfl) ?_
  refine lv_aload_n hx hb dL_law_555 rfl (lv_at hl 3 rfl) ?_
  refine lv_iload_n hx hb dL_law_556 rfl (lv_at hl 0 rfl) ?_
  refine lv_iconst (v := 1) hx hb dL_law_557 (by decide) ?_
  refine lv_iadd hx hb dL_law_558 ?_
  refine md_top (y := 1) (by decide) ?_
  refine va_sld hx hb hX hbl hbA hG.2.2 (md_inD (by decide)) dL_law_559 ?_
  refine md_top (y := xs 1) (congrArg xs (by decide)) ?_
  by_cases hv : xs 1 = (-1)
  · refine md_top (y := (-1)) hv ?_
    refine md_goi hG (md_runV (As := [.int (-1)]) (rest := []) hx hb hml hown hW hK hT hG (c_X11_order l D cy tx s.heap.size 104 KX NX M0 RX J0 (by decide) rfl rfl rfl  ) s_L_66 ⟨rfl, rfl, ⟨Nat.le_of_ble_eq_true rfl, Nat.le_of_ble_eq_true rfl⟩, Nat.le_of_ble_eq_true rfl, Nat.le_of_ble_eq_true rfl⟩ (by decide) rfl (by decide) rfl rfl hl.1 rfl (Nat.le_of_ble_eq_true rfl) dL_law_560) (fun r u H locs hp hG => ?_)
    obtain ⟨rfl, rfl⟩ := hp
    have hG : md_G D cy s.heap.size 104 KX NX (u2 M0 4 7 0) RX J0 s H locs := hG
    refine lv_aload_n hx hb dL_law_563 rfl (lv_at hl 1 rfl) ?_
    refine lv_aload_n hx hb dL_law_564 rfl (lv_at hl 3 rfl) ?_
    refine lv_iload_n hx hb dL_law_565 rfl (lv_at hl 0 rfl) ?_
    refine lv_iconst (v := 1) hx hb dL_law_566 (by decide) ?_
    refine lv_iadd hx hb dL_law_567 ?_
    refine md_top (y := 1) (by decide) ?_
    refine va_sld hx hb hX hbl hbA hG.2.2 (md_inD (by decide)) dL_law_568 ?_
    refine md_top (y := (-1)) ((congrArg xs (by decide)).trans hv) ?_
    refine md_goi hG (md_runV (As := [.int (-1)]) (rest := [.int 0]) hx hb hml hown hW hK hT hG (c_X12_order l D cy tx s.heap.size 104 KX NX (u2 M0 4 7 0) RX J0 (by decide) rfl rfl rfl rfl  ) s_L_69 ⟨rfl, rfl, ⟨Nat.le_of_ble_eq_true rfl, Nat.le_of_ble_eq_true rfl⟩, Nat.le_of_ble_eq_true rfl, Nat.le_of_ble_eq_true rfl⟩ (by decide) rfl (by decide) rfl rfl hl.1 rfl (Nat.le_of_ble_eq_true rfl) dL_law_569) (fun r u H locs hp hG => ?_)
    obtain ⟨rfl, rfl⟩ := hp
    have hG : md_G D cy s.heap.size 104 KX NX (u2 (u2 M0 4 7 0) 81 4 0) RX J0 s H locs := hG
    refine lv_icmp_eq (tgt := 1157) hx hb dL_law_572 (by decide) (fun _ => ?_) (fun h => absurd rfl h)
    exact law_tail C0 (Nat.le_of_ble_eq_true rfl) (Nat.le_of_ble_eq_true rfl) hG (lv_sub hl [0, 3] rfl)
  · have h1 := hv
    refine md_goi hG (md_runV (As := [.int (xs 1)]) (rest := []) hx hb hml hown hW hK hT hG (c_X11_order_2 l D cy tx s.heap.size 104 KX NX M0 RX J0 (by decide) rfl rfl rfl rfl rfl rfl rfl rfl (xs 1) h1) s_L_66 ⟨rfl, rfl, ⟨Nat.le_of_ble_eq_true rfl, Nat.le_of_ble_eq_true rfl⟩, Nat.le_of_ble_eq_true rfl, Nat.le_of_ble_eq_true rfl⟩ (by decide) rfl (by decide) rfl rfl hl.1 rfl (Nat.le_of_ble_eq_true rfl) dL_law_560) (fun r u H locs hp hG => ?_)
    obtain ⟨rfl, rfl⟩ := hp
    have hG : md_G D cy s.heap.size 104 KX NX (u2 M0 2 0 1) RX J0 s H locs := hG
    refine lv_aload_n hx hb dL_law_563 rfl (lv_at hl 1 rfl) ?_
    refine lv_aload_n hx hb dL_law_564 rfl (lv_at hl 3 rfl) ?_
    refine lv_iload_n hx hb dL_law_565 rfl (lv_at hl 0 rfl) ?_
    refine lv_iconst (v := 1) hx hb dL_law_566 (by decide) ?_
    refine lv_iadd hx hb dL_law_567 ?_
    refine md_top (y := 1) (by decide) ?_
    refine va_sld hx hb hX hbl hbA hG.2.2 (md_inD (by decide)) dL_law_568 ?_
    refine md_top (y := xs 1) (congrArg xs (by decide)) ?_
    refine md_goi hG (md_runV (As := [.int (xs 1)]) (rest := [.int (-2)]) hx hb hml hown hW hK hT hG (c_X12_order_2 l D cy tx s.heap.size 104 KX NX (u2 M0 2 0 1) RX J0 (by decide) rfl rfl rfl rfl rfl rfl rfl rfl rfl (xs 1) h1) s_L_69 ⟨rfl, rfl, ⟨Nat.le_of_ble_eq_true rfl, Nat.le_of_ble_eq_true rfl⟩, Nat.le_of_ble_eq_true rfl, Nat.le_of_ble_eq_true rfl⟩ (by decide) rfl (by decide) rfl rfl hl.1 rfl (Nat.le_of_ble_eq_true rfl) dL_law_569) (fun r u H locs hp hG => ?_)
    obtain ⟨rfl, rfl⟩ := hp
    have hG : md_G D cy s.heap.size 104 KX NX (u2 (u2 M0 2 0 1) 82 0 1) RX J0 s H locs := hG
    refine lv_icmp_eq (tgt := 1157) hx hb dL_law_572 (by decide) (fun _ => ?_) (fun h => absurd rfl h)
    exact law_tail C0 (Nat.le_of_ble_eq_true rfl) (Nat.le_of_ble_eq_true rfl) hG (lv_sub hl [0, 3] rfl)
set_option maxRecDepth 100000 in
set_option maxHeartbeats 4000000 in
theorem law_ordered (C0 : lw_F p s m meth c b xs D cy tx) {H : Heap} {locs : List Loc} (hG : md_G D cy s.heap.size 104 KX NX M0 RX J0 s H locs) {ls : Array Slot} (hl : lv_has ls 4 [(3, .int 0), (2, .ref (s.heap.size + 69)), (1, .ref (s.heap.size + 0)), (0, .ref b)]) : W p l e room_1 s m #[Value.ref b] below meth c H locs 104 87680 (lw_Z below #[Value.ref b] s) (F0 m 577 ls []) := by
  have C1 := C0
  obtain ⟨hx, hb, hr, hml, hown, hW, hX, hbl, hlocks, hK, hT⟩ := C1
  have hbA : ¬ (fun q : Nat => s.heap.size ≤ q) b := Nat.not_le.mpr hbl
  refine lv_aload_n hx hb dL_law_577 rfl (lv_at hl 2 rfl) ?_
  refine lv_aload_n hx hb dL_law_578 rfl (lv_at hl 3 rfl) ?_
  refine lv_iload_n hx hb dL_law_579 rfl (lv_at hl 0 rfl) ?_
  refine lv_iconst (v := 1) hx hb dL_law_580 (by decide) ?_
  refine lv_iadd hx hb dL_law_581 ?_
  refine md_top (y := 1) (by decide) ?_
  refine va_sld hx hb hX hbl hbA hG.2.2 (md_inD (by decide)) dL_law_582 ?_
  refine md_top (y := xs 1) (congrArg xs (by decide)) ?_
  refine md_goi hG (md_runV (As := [.int (xs 1)]) (rest := []) hx hb hml hown hW hK hT hG (c_X11_ordered l D cy tx s.heap.size 104 KX NX M0 RX J0 (by decide) rfl rfl rfl rfl (xs 1) ) s_L_70 ⟨rfl, rfl, ⟨Nat.le_of_ble_eq_true rfl, Nat.le_of_ble_eq_true rfl⟩, Nat.le_of_ble_eq_true rfl, Nat.le_of_ble_eq_true rfl⟩ (by decide) rfl (by decide) rfl rfl hl.1 rfl (Nat.le_of_ble_eq_true rfl) dL_law_583) (fun r u H locs hp hG => ?_)
  obtain ⟨rfl, rfl⟩ := hp
  have hG : md_G D cy s.heap.size 104 KX NX M0 RX J0 s H locs := hG
  refine lv_aload_n hx hb dL_law_586 rfl (lv_at hl 1 rfl) ?_
  refine lv_aload_n hx hb dL_law_587 rfl (lv_at hl 3 rfl) ?_
  refine lv_iload_n hx hb dL_law_588 rfl (lv_at hl 0 rfl) ?_
  refine lv_iconst (v := 1) hx hb dL_law_589 (by decide) ?_
  refine lv_iadd hx hb dL_law_590 ?_
  refine md_top (y := 1) (by decide) ?_
  refine va_sld hx hb hX hbl hbA hG.2.2 (md_inD (by decide)) dL_law_591 ?_
  refine md_top (y := xs 1) (congrArg xs (by decide)) ?_
  refine md_goi hG (md_runV (As := [.int (xs 1)]) (rest := [.int (-1)]) hx hb hml hown hW hK hT hG (c_X12_ordered l D cy tx s.heap.size 104 KX NX M0 RX J0 (by decide) rfl rfl rfl rfl rfl (xs 1) ) s_L_73 ⟨rfl, rfl, ⟨Nat.le_of_ble_eq_true rfl, Nat.le_of_ble_eq_true rfl⟩, Nat.le_of_ble_eq_true rfl, Nat.le_of_ble_eq_true rfl⟩ (by decide) rfl (by decide) rfl rfl hl.1 rfl (Nat.le_of_ble_eq_true rfl) dL_law_592) (fun r u H locs hp hG => ?_)
  obtain ⟨rfl, rfl⟩ := hp
  have hG : md_G D cy s.heap.size 104 KX NX M0 RX J0 s H locs := hG
  refine lv_icmp_eq (tgt := 1157) hx hb dL_law_595 (by decide) (fun _ => ?_) (fun h => absurd rfl h)
  exact law_tail C0 (Nat.le_of_ble_eq_true rfl) (Nat.le_of_ble_eq_true rfl) hG (lv_sub hl [0, 3] rfl)
set_option maxRecDepth 100000 in
set_option maxHeartbeats 4000000 in
theorem law_day (C0 : lw_F p s m meth c b xs D cy tx) {H : Heap} {locs : List Loc} (hG : md_G D cy s.heap.size 104 KX NX M0 RX J0 s H locs) {ls : Array Slot} (hl : lv_has ls 4 [(3, .int 0), (2, .ref (s.heap.size + 69)), (1, .ref (s.heap.size + 0)), (0, .ref b)]) : W p l e room_1 s m #[Value.ref b] below meth c H locs 104 87680 (lw_Z below #[Value.ref b] s) (F0 m 600 ls []) := by
  have C1 := C0
  obtain ⟨hx, hb, hr, hml, hown, hW, hX, hbl, hlocks, hK, hT⟩ := C1
  have hbA : ¬ (fun q : Nat => s.heap.size ≤ q) b := Nat.not_le.mpr hbl
  refine lv_aload_n hx hb dL_law_600 rfl (lv_at hl 2 rfl) ?_
  refine md_goi hG (md_runV (As := []) (rest := []) hx hb hml hown hW hK hT hG (c_X11_day l D cy tx s.heap.size 104 KX NX M0 RX J0 (by decide) rfl rfl rfl rfl rfl rfl rfl rfl  ) s_L_74 ⟨rfl, rfl, ⟨Nat.le_of_ble_eq_true rfl, Nat.le_of_ble_eq_true rfl⟩, Nat.le_of_ble_eq_true rfl, Nat.le_of_ble_eq_true rfl⟩ (by decide) rfl (by decide) rfl rfl hl.1 rfl (Nat.le_of_ble_eq_true rfl) dL_law_601) (fun r u H locs hp hG => ?_)
  obtain ⟨rfl, rfl⟩ := hp
  have hG : md_G D cy s.heap.size 104 KX NX (u2 M0 2 0 1) RX J0 s H locs := hG
  refine lv_aload_n hx hb dL_law_604 rfl (lv_at hl 1 rfl) ?_
  refine md_goi hG (md_runV (As := []) (rest := [.int (-2)]) hx hb hml hown hW hK hT hG (c_X12_day l D cy tx s.heap.size 104 KX NX (u2 M0 2 0 1) RX J0 (by decide) rfl rfl rfl rfl rfl rfl rfl rfl rfl  ) s_L_77 ⟨rfl, rfl, ⟨Nat.le_of_ble_eq_true rfl, Nat.le_of_ble_eq_true rfl⟩, Nat.le_of_ble_eq_true rfl, Nat.le_of_ble_eq_true rfl⟩ (by decide) rfl (by decide) rfl rfl hl.1 rfl (Nat.le_of_ble_eq_true rfl) dL_law_605) (fun r u H locs hp hG => ?_)
  obtain ⟨rfl, rfl⟩ := hp
  have hG : md_G D cy s.heap.size 104 KX NX (u2 (u2 M0 2 0 1) 82 0 1) RX J0 s H locs := hG
  refine lv_icmp_eq (tgt := 1157) hx hb dL_law_608 (by decide) (fun _ => ?_) (fun h => absurd rfl h)
  exact law_tail C0 (Nat.le_of_ble_eq_true rfl) (Nat.le_of_ble_eq_true rfl) hG (lv_sub hl [0, 3] rfl)
set_option maxRecDepth 100000 in
set_option maxHeartbeats 4000000 in
theorem law_open (C0 : lw_F p s m meth c b xs D cy tx) {H : Heap} {locs : List Loc} (hG : md_G D cy s.heap.size 104 KX NX M0 RX J0 s H locs) {ls : Array Slot} (hl : lv_has ls 4 [(3, .int 0), (2, .ref (s.heap.size + 69)), (1, .ref (s.heap.size + 0)), (0, .ref b)]) : W p l e room_1 s m #[Value.ref b] below meth c H locs 104 87680 (lw_Z below #[Value.ref b] s) (F0 m 613 ls []) := by
  have C1 := C0
  obtain ⟨hx, hb, hr, hml, hown, hW, hX, hbl, hlocks, hK, hT⟩ := C1
  have hbA : ¬ (fun q : Nat => s.heap.size ≤ q) b := Nat.not_le.mpr hbl
  refine lv_aload_n hx hb dL_law_613 rfl (lv_at hl 2 rfl) ?_
  refine lv_aload_n hx hb dL_law_614 rfl (lv_at hl 3 rfl) ?_
  refine lv_iload_n hx hb dL_law_615 rfl (lv_at hl 0 rfl) ?_
  refine lv_iconst (v := 1) hx hb dL_law_616 (by decide) ?_
  refine lv_iadd hx hb dL_law_617 ?_
  refine md_top (y := 1) (by decide) ?_
  refine va_sld hx hb hX hbl hbA hG.2.2 (md_inD (by decide)) dL_law_618 ?_
  refine md_top (y := xs 1) (congrArg xs (by decide)) ?_
  refine lv_aload_n hx hb dL_law_619 rfl (lv_at hl 3 rfl) ?_
  refine lv_iload_n hx hb dL_law_620 rfl (lv_at hl 0 rfl) ?_
  refine lv_iconst (v := 2) hx hb dL_law_621 (by decide) ?_
  refine lv_iadd hx hb dL_law_622 ?_
  refine md_top (y := 2) (by decide) ?_
  refine va_sld hx hb hX hbl hbA hG.2.2 (md_inD (by decide)) dL_law_623 ?_
  refine md_top (y := xs 2) (congrArg xs (by decide)) ?_
  refine lv_aload_n hx hb dL_law_624 rfl (lv_at hl 3 rfl) ?_
  refine lv_iload_n hx hb dL_law_625 rfl (lv_at hl 0 rfl) ?_
  refine lv_iconst (v := 3) hx hb dL_law_626 (by decide) ?_
  refine lv_iadd hx hb dL_law_627 ?_
  refine md_top (y := 3) (by decide) ?_
  refine va_sld hx hb hX hbl hbA hG.2.2 (md_inD (by decide)) dL_law_628 ?_
  refine md_top (y := xs 3) (congrArg xs (by decide)) ?_
  refine md_goi hG (md_runV (As := [.int (xs 1), .int (xs 2), .int (xs 3)]) (rest := []) hx hb hml hown hW hK hT hG (c_X11_open l D cy tx s.heap.size 104 KX NX M0 RX J0 (by decide) rfl rfl rfl rfl (xs 1) (xs 2) (xs 3) ) s_L_78 ⟨rfl, rfl, ⟨Nat.le_of_ble_eq_true rfl, Nat.le_of_ble_eq_true rfl⟩, Nat.le_of_ble_eq_true rfl, Nat.le_of_ble_eq_true rfl⟩ (by decide) rfl (by decide) rfl rfl hl.1 rfl (Nat.le_of_ble_eq_true rfl) dL_law_629) (fun r u H locs hp hG => ?_)
  obtain ⟨rfl, rfl⟩ := hp
  have hG : md_G D cy s.heap.size 104 KX NX M0 RX J0 s H locs := hG
  refine lv_aload_n hx hb dL_law_632 rfl (lv_at hl 1 rfl) ?_
  refine lv_aload_n hx hb dL_law_633 rfl (lv_at hl 3 rfl) ?_
  refine lv_iload_n hx hb dL_law_634 rfl (lv_at hl 0 rfl) ?_
  refine lv_iconst (v := 1) hx hb dL_law_635 (by decide) ?_
  refine lv_iadd hx hb dL_law_636 ?_
  refine md_top (y := 1) (by decide) ?_
  refine va_sld hx hb hX hbl hbA hG.2.2 (md_inD (by decide)) dL_law_637 ?_
  refine md_top (y := xs 1) (congrArg xs (by decide)) ?_
  refine lv_aload_n hx hb dL_law_638 rfl (lv_at hl 3 rfl) ?_
  refine lv_iload_n hx hb dL_law_639 rfl (lv_at hl 0 rfl) ?_
  refine lv_iconst (v := 2) hx hb dL_law_640 (by decide) ?_
  refine lv_iadd hx hb dL_law_641 ?_
  refine md_top (y := 2) (by decide) ?_
  refine va_sld hx hb hX hbl hbA hG.2.2 (md_inD (by decide)) dL_law_642 ?_
  refine md_top (y := xs 2) (congrArg xs (by decide)) ?_
  refine lv_aload_n hx hb dL_law_643 rfl (lv_at hl 3 rfl) ?_
  refine lv_iload_n hx hb dL_law_644 rfl (lv_at hl 0 rfl) ?_
  refine lv_iconst (v := 3) hx hb dL_law_645 (by decide) ?_
  refine lv_iadd hx hb dL_law_646 ?_
  refine md_top (y := 3) (by decide) ?_
  refine va_sld hx hb hX hbl hbA hG.2.2 (md_inD (by decide)) dL_law_647 ?_
  refine md_top (y := xs 3) (congrArg xs (by decide)) ?_
  refine md_goi hG (md_runV (As := [.int (xs 1), .int (xs 2), .int (xs 3)]) (rest := [.int (-1000000)]) hx hb hml hown hW hK hT hG (c_X12_open l D cy tx s.heap.size 104 KX NX M0 RX J0 (by decide) rfl rfl rfl rfl rfl (xs 1) (xs 2) (xs 3) ) s_L_82 ⟨rfl, rfl, ⟨Nat.le_of_ble_eq_true rfl, Nat.le_of_ble_eq_true rfl⟩, Nat.le_of_ble_eq_true rfl, Nat.le_of_ble_eq_true rfl⟩ (by decide) rfl (by decide) rfl rfl hl.1 rfl (Nat.le_of_ble_eq_true rfl) dL_law_648) (fun r u H locs hp hG => ?_)
  obtain ⟨rfl, rfl⟩ := hp
  have hG : md_G D cy s.heap.size 104 KX NX M0 RX J0 s H locs := hG
  refine lv_icmp_eq (tgt := 1157) hx hb dL_law_651 (by decide) (fun _ => ?_) (fun h => absurd rfl h)
  exact law_tail C0 (Nat.le_of_ble_eq_true rfl) (Nat.le_of_ble_eq_true rfl) hG (lv_sub hl [0, 3] rfl)
end LAWC8
