section LAWC16
variable {p : Program} {l : Launch} {e : Env} {s : State} {m : MethodId} {below : List Frame} {meth : Method} {c : Code} {b : Nat} {xs : Nat → Int32} {D : va_G} {cy : Nat → ClassId} {tx : (Nat → Nat) × (Nat → Nat)}
set_option maxRecDepth 100000 in
set_option maxHeartbeats 4000000 in
theorem law_lose (C0 : lw_F p s m meth c b xs D cy tx) {H : Heap} {locs : List Loc} (hG : md_G D cy s.heap.size 104 KX NX M0 RX J0 s H locs) {ls : Array Slot} (hl : lv_has ls 4 [(3, .int 0), (2, .ref (s.heap.size + 69)), (1, .ref (s.heap.size + 0)), (0, .ref b)]) : W p l e room_1 s m #[Value.ref b] below meth c H locs 104 87680 (lw_Z below #[Value.ref b] s) (F0 m 656 ls []) := by
  have C1 := C0
  obtain ⟨hx, hb, hr, hml, hown, hW, hX, hbl, hlocks, hK, hT⟩ := C1
  have hbA : ¬ (fun q : Nat => s.heap.size ≤ q) b := Nat.not_le.mpr hbl
  refine lv_aload_n hx hb dL_law_656 rfl (lv_at hl 2 rfl) ?_
  refine lv_aload_n hx hb dL_law_657 rfl (lv_at hl 3 rfl) ?_
  refine lv_iload_n hx hb dL_law_658 rfl (lv_at hl 0 rfl) ?_
  refine lv_iconst (v := 1) hx hb dL_law_659 (by decide) ?_
  refine lv_iadd hx hb dL_law_660 ?_
  refine md_top (y := 1) (by decide) ?_
  refine va_sld hx hb hX hbl hbA hG.2.2 (md_inD (by decide)) dL_law_661 ?_
  refine md_top (y := xs 1) (congrArg xs (by decide)) ?_
  refine md_goi hG (md_runV (As := [.int (xs 1)]) (rest := []) hx hb hml hown hW hK hT hG (c_X11_lose l D cy tx s.heap.size 104 KX NX M0 RX J0 (by decide) rfl rfl rfl rfl (xs 1) ) s_L_83 ⟨rfl, rfl, ⟨Nat.le_of_ble_eq_true rfl, Nat.le_of_ble_eq_true rfl⟩, Nat.le_of_ble_eq_true rfl, Nat.le_of_ble_eq_true rfl⟩ (by decide) rfl (by decide) rfl rfl hl.1 rfl (Nat.le_of_ble_eq_true rfl) dL_law_662) (fun r u H locs hp hG => ?_)
  obtain ⟨rfl, rfl⟩ := hp
  have hG : md_G D cy s.heap.size 104 KX NX M0 RX J0 s H locs := hG
  refine lv_aload_n hx hb dL_law_665 rfl (lv_at hl 1 rfl) ?_
  refine lv_aload_n hx hb dL_law_666 rfl (lv_at hl 3 rfl) ?_
  refine lv_iload_n hx hb dL_law_667 rfl (lv_at hl 0 rfl) ?_
  refine lv_iconst (v := 1) hx hb dL_law_668 (by decide) ?_
  refine lv_iadd hx hb dL_law_669 ?_
  refine md_top (y := 1) (by decide) ?_
  refine va_sld hx hb hX hbl hbA hG.2.2 (md_inD (by decide)) dL_law_670 ?_
  refine md_top (y := xs 1) (congrArg xs (by decide)) ?_
  refine md_goi hG (md_runV (As := [.int (xs 1)]) (rest := [.int (-1)]) hx hb hml hown hW hK hT hG (c_X12_lose l D cy tx s.heap.size 104 KX NX M0 RX J0 (by decide) rfl rfl rfl rfl rfl (xs 1) ) s_L_86 ⟨rfl, rfl, ⟨Nat.le_of_ble_eq_true rfl, Nat.le_of_ble_eq_true rfl⟩, Nat.le_of_ble_eq_true rfl, Nat.le_of_ble_eq_true rfl⟩ (by decide) rfl (by decide) rfl rfl hl.1 rfl (Nat.le_of_ble_eq_true rfl) dL_law_671) (fun r u H locs hp hG => ?_)
  obtain ⟨rfl, rfl⟩ := hp
  have hG : md_G D cy s.heap.size 104 KX NX M0 RX J0 s H locs := hG
  refine lv_icmp_eq (tgt := 1157) hx hb dL_law_674 (by decide) (fun _ => ?_) (fun h => absurd rfl h)
  exact law_tail C0 (Nat.le_of_ble_eq_true rfl) (Nat.le_of_ble_eq_true rfl) hG (lv_sub hl [0, 3] rfl)
set_option maxRecDepth 100000 in
set_option maxHeartbeats 4000000 in
theorem law_plan (C0 : lw_F p s m meth c b xs D cy tx) {H : Heap} {locs : List Loc} (hG : md_G D cy s.heap.size 104 KX NX M0 RX J0 s H locs) {ls : Array Slot} (hl : lv_has ls 4 [(3, .int 0), (2, .ref (s.heap.size + 69)), (1, .ref (s.heap.size + 0)), (0, .ref b)]) : W p l e room_1 s m #[Value.ref b] below meth c H locs 104 87680 (lw_Z below #[Value.ref b] s) (F0 m 679 ls []) := by
  have C1 := C0
  obtain ⟨hx, hb, hr, hml, hown, hW, hX, hbl, hlocks, hK, hT⟩ := C1
  have hbA : ¬ (fun q : Nat => s.heap.size ≤ q) b := Nat.not_le.mpr hbl
  refine lv_aload_n hx hb dL_law_679 rfl (lv_at hl 2 rfl) ?_
  refine lv_aload_n hx hb dL_law_680 rfl (lv_at hl 3 rfl) ?_
  refine lv_iload_n hx hb dL_law_681 rfl (lv_at hl 0 rfl) ?_
  refine lv_iconst (v := 1) hx hb dL_law_682 (by decide) ?_
  refine lv_iadd hx hb dL_law_683 ?_
  refine md_top (y := 1) (by decide) ?_
  refine va_sld hx hb hX hbl hbA hG.2.2 (md_inD (by decide)) dL_law_684 ?_
  refine md_top (y := xs 1) (congrArg xs (by decide)) ?_
  refine lv_aload_n hx hb dL_law_685 rfl (lv_at hl 3 rfl) ?_
  refine lv_iload_n hx hb dL_law_686 rfl (lv_at hl 0 rfl) ?_
  refine lv_iconst (v := 2) hx hb dL_law_687 (by decide) ?_
  refine lv_iadd hx hb dL_law_688 ?_
  refine md_top (y := 2) (by decide) ?_
  refine va_sld hx hb hX hbl hbA hG.2.2 (md_inD (by decide)) dL_law_689 ?_
  refine md_top (y := xs 2) (congrArg xs (by decide)) ?_
  refine lv_aload_n hx hb dL_law_690 rfl (lv_at hl 3 rfl) ?_
  refine lv_iload_n hx hb dL_law_691 rfl (lv_at hl 0 rfl) ?_
  refine lv_iconst (v := 3) hx hb dL_law_692 (by decide) ?_
  refine lv_iadd hx hb dL_law_693 ?_
  refine md_top (y := 3) (by decide) ?_
  refine va_sld hx hb hX hbl hbA hG.2.2 (md_inD (by decide)) dL_law_694 ?_
  refine md_top (y := xs 3) (congrArg xs (by decide)) ?_
  refine md_goi hG (md_runV (As := [.int (xs 1), .int (xs 2), .int (xs 3)]) (rest := []) hx hb hml hown hW hK hT hG (c_X11_plan l D cy tx s.heap.size 104 KX NX M0 RX J0 (by decide) rfl rfl rfl rfl (xs 1) (xs 2) (xs 3) ) s_L_87 ⟨rfl, rfl, ⟨Nat.le_of_ble_eq_true rfl, Nat.le_of_ble_eq_true rfl⟩, Nat.le_of_ble_eq_true rfl, Nat.le_of_ble_eq_true rfl⟩ (by decide) rfl (by decide) rfl rfl hl.1 rfl (Nat.le_of_ble_eq_true rfl) dL_law_695) (fun r u H locs hp hG => ?_)
  obtain ⟨rfl, rfl⟩ := hp
  have hG : md_G D cy s.heap.size 104 KX NX M0 RX J0 s H locs := hG
  refine lv_aload_n hx hb dL_law_698 rfl (lv_at hl 1 rfl) ?_
  refine lv_aload_n hx hb dL_law_699 rfl (lv_at hl 3 rfl) ?_
  refine lv_iload_n hx hb dL_law_700 rfl (lv_at hl 0 rfl) ?_
  refine lv_iconst (v := 1) hx hb dL_law_701 (by decide) ?_
  refine lv_iadd hx hb dL_law_702 ?_
  refine md_top (y := 1) (by decide) ?_
  refine va_sld hx hb hX hbl hbA hG.2.2 (md_inD (by decide)) dL_law_703 ?_
  refine md_top (y := xs 1) (congrArg xs (by decide)) ?_
  refine lv_aload_n hx hb dL_law_704 rfl (lv_at hl 3 rfl) ?_
  refine lv_iload_n hx hb dL_law_705 rfl (lv_at hl 0 rfl) ?_
  refine lv_iconst (v := 2) hx hb dL_law_706 (by decide) ?_
  refine lv_iadd hx hb dL_law_707 ?_
  refine md_top (y := 2) (by decide) ?_
  refine va_sld hx hb hX hbl hbA hG.2.2 (md_inD (by decide)) dL_law_708 ?_
  refine md_top (y := xs 2) (congrArg xs (by decide)) ?_
  refine lv_aload_n hx hb dL_law_709 rfl (lv_at hl 3 rfl) ?_
  refine lv_iload_n hx hb dL_law_710 rfl (lv_at hl 0 rfl) ?_
  refine lv_iconst (v := 3) hx hb dL_law_711 (by decide) ?_
  refine lv_iadd hx hb dL_law_712 ?_
  refine md_top (y := 3) (by decide) ?_
  refine va_sld hx hb hX hbl hbA hG.2.2 (md_inD (by decide)) dL_law_713 ?_
  refine md_top (y := xs 3) (congrArg xs (by decide)) ?_
  refine md_goi hG (md_runV (As := [.int (xs 1), .int (xs 2), .int (xs 3)]) (rest := [.int (-1)]) hx hb hml hown hW hK hT hG (c_X12_plan l D cy tx s.heap.size 104 KX NX M0 RX J0 (by decide) rfl rfl rfl rfl rfl (xs 1) (xs 2) (xs 3) ) s_L_90 ⟨rfl, rfl, ⟨Nat.le_of_ble_eq_true rfl, Nat.le_of_ble_eq_true rfl⟩, Nat.le_of_ble_eq_true rfl, Nat.le_of_ble_eq_true rfl⟩ (by decide) rfl (by decide) rfl rfl hl.1 rfl (Nat.le_of_ble_eq_true rfl) dL_law_714) (fun r u H locs hp hG => ?_)
  obtain ⟨rfl, rfl⟩ := hp
  have hG : md_G D cy s.heap.size 104 KX NX M0 RX J0 s H locs := hG
  refine lv_icmp_eq (tgt := 1157) hx hb dL_law_717 (by decide) (fun _ => ?_) (fun h => absurd rfl h)
  exact law_tail C0 (Nat.le_of_ble_eq_true rfl) (Nat.le_of_ble_eq_true rfl) hG (lv_sub hl [0, 3] rfl)
set_option maxRecDepth 100000 in
set_option maxHeartbeats 4000000 in
theorem law_spoilers (C0 : lw_F p s m meth c b xs D cy tx) {H : Heap} {locs : List Loc} (hG : md_G D cy s.heap.size 104 KX NX M0 RX J0 s H locs) {ls : Array Slot} (hl : lv_has ls 4 [(3, .int 0), (2, .ref (s.heap.size + 69)), (1, .ref (s.heap.size + 0)), (0, .ref b)]) : W p l e room_1 s m #[Value.ref b] below meth c H locs 104 87680 (lw_Z below #[Value.ref b] s) (F0 m 722 ls []) := by
  have C1 := C0
  obtain ⟨hx, hb, hr, hml, hown, hW, hX, hbl, hlocks, hK, hT⟩ := C1
  have hbA : ¬ (fun q : Nat => s.heap.size ≤ q) b := Nat.not_le.mpr hbl
  refine lv_aload_n hx hb dL_law_722 rfl (lv_at hl 2 rfl) ?_
  refine lv_aload_n hx hb dL_law_723 rfl (lv_at hl 3 rfl) ?_
  refine lv_iload_n hx hb dL_law_724 rfl (lv_at hl 0 rfl) ?_
  refine lv_iconst (v := 1) hx hb dL_law_725 (by decide) ?_
  refine lv_iadd hx hb dL_law_726 ?_
  refine md_top (y := 1) (by decide) ?_
  refine va_sld hx hb hX hbl hbA hG.2.2 (md_inD (by decide)) dL_law_727 ?_
  refine md_top (y := xs 1) (congrArg xs (by decide)) ?_
  refine md_goi hG (md_runV (As := [.int (xs 1)]) (rest := []) hx hb hml hown hW hK hT hG (c_X11_spoilers l D cy tx s.heap.size 104 KX NX M0 RX J0 (by decide) rfl rfl rfl rfl (xs 1) ) s_L_91 ⟨rfl, rfl, ⟨Nat.le_of_ble_eq_true rfl, Nat.le_of_ble_eq_true rfl⟩, Nat.le_of_ble_eq_true rfl, Nat.le_of_ble_eq_true rfl⟩ (by decide) rfl (by decide) rfl rfl hl.1 rfl (Nat.le_of_ble_eq_true rfl) dL_law_728) (fun r u H locs hp hG => ?_)
  obtain ⟨rfl, rfl⟩ := hp
  have hG : md_G D cy s.heap.size 104 KX NX M0 RX J0 s H locs := hG
  refine lv_aload_n hx hb dL_law_731 rfl (lv_at hl 1 rfl) ?_
  refine lv_aload_n hx hb dL_law_732 rfl (lv_at hl 3 rfl) ?_
  refine lv_iload_n hx hb dL_law_733 rfl (lv_at hl 0 rfl) ?_
  refine lv_iconst (v := 1) hx hb dL_law_734 (by decide) ?_
  refine lv_iadd hx hb dL_law_735 ?_
  refine md_top (y := 1) (by decide) ?_
  refine va_sld hx hb hX hbl hbA hG.2.2 (md_inD (by decide)) dL_law_736 ?_
  refine md_top (y := xs 1) (congrArg xs (by decide)) ?_
  refine md_goi hG (md_runV (As := [.int (xs 1)]) (rest := [.int (-1)]) hx hb hml hown hW hK hT hG (c_X12_spoilers l D cy tx s.heap.size 104 KX NX M0 RX J0 (by decide) rfl rfl rfl rfl rfl (xs 1) ) s_L_94 ⟨rfl, rfl, ⟨Nat.le_of_ble_eq_true rfl, Nat.le_of_ble_eq_true rfl⟩, Nat.le_of_ble_eq_true rfl, Nat.le_of_ble_eq_true rfl⟩ (by decide) rfl (by decide) rfl rfl hl.1 rfl (Nat.le_of_ble_eq_true rfl) dL_law_737) (fun r u H locs hp hG => ?_)
  obtain ⟨rfl, rfl⟩ := hp
  have hG : md_G D cy s.heap.size 104 KX NX M0 RX J0 s H locs := hG
  refine lv_icmp_eq (tgt := 1157) hx hb dL_law_740 (by decide) (fun _ => ?_) (fun h => absurd rfl h)
  exact law_tail C0 (Nat.le_of_ble_eq_true rfl) (Nat.le_of_ble_eq_true rfl) hG (lv_sub hl [0, 3] rfl)
set_option maxRecDepth 100000 in
set_option maxHeartbeats 4000000 in
theorem law_sides (C0 : lw_F p s m meth c b xs D cy tx) {H : Heap} {locs : List Loc} (hG : md_G D cy s.heap.size 104 KX NX M0 RX J0 s H locs) {ls : Array Slot} (hl : lv_has ls 4 [(3, .int 0), (2, .ref (s.heap.size + 69)), (1, .ref (s.heap.size + 0)), (0, .ref b)]) : W p l e room_1 s m #[Value.ref b] below meth c H locs 104 87680 (lw_Z below #[Value.ref b] s) (F0 m 745 ls []) := by
  have C1 := C0
  obtain ⟨hx, hb, hr, hml, hown, hW, hX, hbl, hlocks, hK, hT⟩ := C1
  have hbA : ¬ (fun q : Nat => s.heap.size ≤ q) b := Nat.not_le.mpr hbl
  refine lv_aload_n hx hb dL_law_745 rfl (lv_at hl 2 rfl) ?_
  refine lv_aload_n hx hb dL_law_746 rfl (lv_at hl 3 rfl) ?_
  refine lv_iload_n hx hb dL_law_747 rfl (lv_at hl 0 rfl) ?_
  refine lv_iconst (v := 1) hx hb dL_law_748 (by decide) ?_
  refine lv_iadd hx hb dL_law_749 ?_
  refine md_top (y := 1) (by decide) ?_
  refine va_sld hx hb hX hbl hbA hG.2.2 (md_inD (by decide)) dL_law_750 ?_
  refine md_top (y := xs 1) (congrArg xs (by decide)) ?_
  refine lv_aload_n hx hb dL_law_751 rfl (lv_at hl 3 rfl) ?_
  refine lv_iload_n hx hb dL_law_752 rfl (lv_at hl 0 rfl) ?_
  refine lv_iconst (v := 2) hx hb dL_law_753 (by decide) ?_
  refine lv_iadd hx hb dL_law_754 ?_
  refine md_top (y := 2) (by decide) ?_
  refine va_sld hx hb hX hbl hbA hG.2.2 (md_inD (by decide)) dL_law_755 ?_
  refine md_top (y := xs 2) (congrArg xs (by decide)) ?_
  refine lv_aload_n hx hb dL_law_756 rfl (lv_at hl 3 rfl) ?_
  refine lv_iload_n hx hb dL_law_757 rfl (lv_at hl 0 rfl) ?_
  refine lv_iconst (v := 3) hx hb dL_law_758 (by decide) ?_
  refine lv_iadd hx hb dL_law_759 ?_
  refine md_top (y := 3) (by decide) ?_
  refine va_sld hx hb hX hbl hbA hG.2.2 (md_inD (by decide)) dL_law_760 ?_
  refine md_top (y := xs 3) (congrArg xs (by decide)) ?_
  refine md_goi hG (md_runV (As := [.int (xs 1), .int (xs 2), .int (xs 3)]) (rest := []) hx hb hml hown hW hK hT hG (c_X11_sides l D cy tx s.heap.size 104 KX NX M0 RX J0 (by decide) rfl rfl rfl rfl (xs 1) (xs 2) (xs 3) ) s_L_95 ⟨rfl, rfl, ⟨Nat.le_of_ble_eq_true rfl, Nat.le_of_ble_eq_true rfl⟩, Nat.le_of_ble_eq_true rfl, Nat.le_of_ble_eq_true rfl⟩ (by decide) rfl (by decide) rfl rfl hl.1 rfl (Nat.le_of_ble_eq_true rfl) dL_law_761) (fun r u H locs hp hG => ?_)
  obtain ⟨rfl, rfl⟩ := hp
  have hG : md_G D cy s.heap.size 104 KX NX M0 RX J0 s H locs := hG
  refine lv_aload_n hx hb dL_law_764 rfl (lv_at hl 1 rfl) ?_
  refine lv_aload_n hx hb dL_law_765 rfl (lv_at hl 3 rfl) ?_
  refine lv_iload_n hx hb dL_law_766 rfl (lv_at hl 0 rfl) ?_
  refine lv_iconst (v := 1) hx hb dL_law_767 (by decide) ?_
  refine lv_iadd hx hb dL_law_768 ?_
  refine md_top (y := 1) (by decide) ?_
  refine va_sld hx hb hX hbl hbA hG.2.2 (md_inD (by decide)) dL_law_769 ?_
  refine md_top (y := xs 1) (congrArg xs (by decide)) ?_
  refine lv_aload_n hx hb dL_law_770 rfl (lv_at hl 3 rfl) ?_
  refine lv_iload_n hx hb dL_law_771 rfl (lv_at hl 0 rfl) ?_
  refine lv_iconst (v := 2) hx hb dL_law_772 (by decide) ?_
  refine lv_iadd hx hb dL_law_773 ?_
  refine md_top (y := 2) (by decide) ?_
  refine va_sld hx hb hX hbl hbA hG.2.2 (md_inD (by decide)) dL_law_774 ?_
  refine md_top (y := xs 2) (congrArg xs (by decide)) ?_
  refine lv_aload_n hx hb dL_law_775 rfl (lv_at hl 3 rfl) ?_
  refine lv_iload_n hx hb dL_law_776 rfl (lv_at hl 0 rfl) ?_
  refine lv_iconst (v := 3) hx hb dL_law_777 (by decide) ?_
  refine lv_iadd hx hb dL_law_778 ?_
  refine md_top (y := 3) (by decide) ?_
  refine va_sld hx hb hX hbl hbA hG.2.2 (md_inD (by decide)) dL_law_779 ?_
  refine md_top (y := xs 3) (congrArg xs (by decide)) ?_
  refine md_goi hG (md_runV (As := [.int (xs 1), .int (xs 2), .int (xs 3)]) (rest := [.int (-1000000)]) hx hb hml hown hW hK hT hG (c_X12_sides l D cy tx s.heap.size 104 KX NX M0 RX J0 (by decide) rfl rfl rfl rfl rfl (xs 1) (xs 2) (xs 3) ) s_L_98 ⟨rfl, rfl, ⟨Nat.le_of_ble_eq_true rfl, Nat.le_of_ble_eq_true rfl⟩, Nat.le_of_ble_eq_true rfl, Nat.le_of_ble_eq_true rfl⟩ (by decide) rfl (by decide) rfl rfl hl.1 rfl (Nat.le_of_ble_eq_true rfl) dL_law_780) (fun r u H locs hp hG => ?_)
  obtain ⟨rfl, rfl⟩ := hp
  have hG : md_G D cy s.heap.size 104 KX NX M0 RX J0 s H locs := hG
  refine lv_icmp_eq (tgt := 1157) hx hb dL_law_783 (by decide) (fun _ => ?_) (fun h => absurd rfl h)
  exact law_tail C0 (Nat.le_of_ble_eq_true rfl) (Nat.le_of_ble_eq_true rfl) hG (lv_sub hl [0, 3] rfl)
set_option maxRecDepth 100000 in
set_option maxHeartbeats 4000000 in
theorem law_chair (C0 : lw_F p s m meth c b xs D cy tx) {H : Heap} {locs : List Loc} (hG : md_G D cy s.heap.size 104 KX NX M0 RX J0 s H locs) {ls : Array Slot} (hl : lv_has ls 4 [(3, .int 0), (2, .ref (s.heap.size + 69)), (1, .ref (s.heap.size + 0)), (0, .ref b)]) : W p l e room_1 s m #[Value.ref b] below meth c H locs 104 87680 (lw_Z below #[Value.ref b] s) (F0 m 788 ls []) := by
  have C1 := C0
  obtain ⟨hx, hb, hr, hml, hown, hW, hX, hbl, hlocks, hK, hT⟩ := C1
  have hbA : ¬ (fun q : Nat => s.heap.size ≤ q) b := Nat.not_le.mpr hbl
  refine lv_aload_n hx hb dL_law_788 rfl (lv_at hl 2 rfl) ?_
  refine lv_aload_n hx hb dL_law_789 rfl (lv_at hl 3 rfl) ?_
  refine lv_iload_n hx hb dL_law_790 rfl (lv_at hl 0 rfl) ?_
  refine lv_iconst (v := 1) hx hb dL_law_791 (by decide) ?_
  refine lv_iadd hx hb dL_law_792 ?_
  refine md_top (y := 1) (by decide) ?_
  refine va_sld hx hb hX hbl hbA hG.2.2 (md_inD (by decide)) dL_law_793 ?_
  refine md_top (y := xs 1) (congrArg xs (by decide)) ?_
  refine lv_aload_n hx hb dL_law_794 rfl (lv_at hl 3 rfl) ?_
  refine lv_iload_n hx hb dL_law_795 rfl (lv_at hl 0 rfl) ?_
  refine lv_iconst (v := 2) hx hb dL_law_796 (by decide) ?_
  refine lv_iadd hx hb dL_law_797 ?_
  refine md_top (y := 2) (by decide) ?_
  refine va_sld hx hb hX hbl hbA hG.2.2 (md_inD (by decide)) dL_law_798 ?_
  refine md_top (y := xs 2) (congrArg xs (by decide)) ?_
  refine lv_if_eq (tgt := 806) hx hb dL_law_799 (by decide) (fun hb1 => ?_) (fun hb1 => ?_)
  · refine lv_iconst (v := 0) hx hb dL_law_806 (by decide) ?_
    refine lv_aload_n hx hb dL_law_807 rfl (lv_at hl 3 rfl) ?_
    refine lv_iload_n hx hb dL_law_808 rfl (lv_at hl 0 rfl) ?_
    refine lv_iconst (v := 3) hx hb dL_law_809 (by decide) ?_
    refine lv_iadd hx hb dL_law_810 ?_
    refine md_top (y := 3) (by decide) ?_
    refine va_sld hx hb hX hbl hbA hG.2.2 (md_inD (by decide)) dL_law_811 ?_
    refine md_top (y := xs 3) (congrArg xs (by decide)) ?_
    refine md_goi hG (md_runV (As := [.int (xs 1), .int 0, .int (xs 3)]) (rest := []) hx hb hml hown hW hK hT hG (c_X11_chair l D cy tx s.heap.size 104 KX NX M0 RX J0 (by decide) rfl rfl rfl rfl rfl (xs 1) 0 (xs 3) ) s_L_99 ⟨rfl, rfl, ⟨Nat.le_of_ble_eq_true rfl, Nat.le_of_ble_eq_true rfl⟩, Nat.le_of_ble_eq_true rfl, Nat.le_of_ble_eq_true rfl⟩ (by decide) rfl (by decide) rfl rfl hl.1 rfl (Nat.le_of_ble_eq_true rfl) dL_law_812) (fun r u H locs hp hG => ?_)
    obtain ⟨rfl, rfl⟩ := hp
    have hG : md_G D cy s.heap.size 104 KX NX M0 RX J0 s H locs := hG
    refine lv_aload_n hx hb dL_law_815 rfl (lv_at hl 1 rfl) ?_
    refine lv_aload_n hx hb dL_law_816 rfl (lv_at hl 3 rfl) ?_
    refine lv_iload_n hx hb dL_law_817 rfl (lv_at hl 0 rfl) ?_
    refine lv_iconst (v := 1) hx hb dL_law_818 (by decide) ?_
    refine lv_iadd hx hb dL_law_819 ?_
    refine md_top (y := 1) (by decide) ?_
    refine va_sld hx hb hX hbl hbA hG.2.2 (md_inD (by decide)) dL_law_820 ?_
    refine md_top (y := xs 1) (congrArg xs (by decide)) ?_
    refine lv_aload_n hx hb dL_law_821 rfl (lv_at hl 3 rfl) ?_
    refine lv_iload_n hx hb dL_law_822 rfl (lv_at hl 0 rfl) ?_
    refine lv_iconst (v := 2) hx hb dL_law_823 (by decide) ?_
    refine lv_iadd hx hb dL_law_824 ?_
    refine md_top (y := 2) (by decide) ?_
    refine va_sld hx hb hX hbl hbA hG.2.2 (md_inD (by decide)) dL_law_825 ?_
    refine md_top (y := xs 2) (congrArg xs (by decide)) ?_
    refine lv_if_eq (tgt := 833) hx hb dL_law_826 (by decide) (fun _ => ?_) (fun h => absurd hb1 h)
    refine lv_iconst (v := 0) hx hb dL_law_833 (by decide) ?_
    refine lv_aload_n hx hb dL_law_834 rfl (lv_at hl 3 rfl) ?_
    refine lv_iload_n hx hb dL_law_835 rfl (lv_at hl 0 rfl) ?_
    refine lv_iconst (v := 3) hx hb dL_law_836 (by decide) ?_
    refine lv_iadd hx hb dL_law_837 ?_
    refine md_top (y := 3) (by decide) ?_
    refine va_sld hx hb hX hbl hbA hG.2.2 (md_inD (by decide)) dL_law_838 ?_
    refine md_top (y := xs 3) (congrArg xs (by decide)) ?_
    refine md_goi hG (md_runV (As := [.int (xs 1), .int 0, .int (xs 3)]) (rest := [.int (-1000000)]) hx hb hml hown hW hK hT hG (c_X12_chair l D cy tx s.heap.size 104 KX NX M0 RX J0 (by decide) rfl rfl rfl rfl rfl rfl (xs 1) 0 (xs 3) ) s_L_103 ⟨rfl, rfl, ⟨Nat.le_of_ble_eq_true rfl, Nat.le_of_ble_eq_true rfl⟩, Nat.le_of_ble_eq_true rfl, Nat.le_of_ble_eq_true rfl⟩ (by decide) rfl (by decide) rfl rfl hl.1 rfl (Nat.le_of_ble_eq_true rfl) dL_law_839) (fun r u H locs hp hG => ?_)
    obtain ⟨rfl, rfl⟩ := hp
    have hG : md_G D cy s.heap.size 104 KX NX M0 RX J0 s H locs := hG
    refine lv_icmp_eq (tgt := 1157) hx hb dL_law_842 (by decide) (fun _ => ?_) (fun h => absurd rfl h)
    exact law_tail C0 (Nat.le_of_ble_eq_true rfl) (Nat.le_of_ble_eq_true rfl) hG (lv_sub hl [0, 3] rfl)
  · refine lv_iconst (v := 1) hx hb dL_law_802 (by decide) ?_
    refine lv_goto (tgt := 807) hx hb dL_law_803 (by decide) ?_
    refine lv_aload_n hx hb dL_law_807 rfl (lv_at hl 3 rfl) ?_
    refine lv_iload_n hx hb dL_law_808 rfl (lv_at hl 0 rfl) ?_
    refine lv_iconst (v := 3) hx hb dL_law_809 (by decide) ?_
    refine lv_iadd hx hb dL_law_810 ?_
    refine md_top (y := 3) (by decide) ?_
    refine va_sld hx hb hX hbl hbA hG.2.2 (md_inD (by decide)) dL_law_811 ?_
    refine md_top (y := xs 3) (congrArg xs (by decide)) ?_
    refine md_goi hG (md_runV (As := [.int (xs 1), .int 1, .int (xs 3)]) (rest := []) hx hb hml hown hW hK hT hG (c_X11_chair l D cy tx s.heap.size 104 KX NX M0 RX J0 (by decide) rfl rfl rfl rfl rfl (xs 1) 1 (xs 3) ) s_L_99 ⟨rfl, rfl, ⟨Nat.le_of_ble_eq_true rfl, Nat.le_of_ble_eq_true rfl⟩, Nat.le_of_ble_eq_true rfl, Nat.le_of_ble_eq_true rfl⟩ (by decide) rfl (by decide) rfl rfl hl.1 rfl (Nat.le_of_ble_eq_true rfl) dL_law_812) (fun r u H locs hp hG => ?_)
    obtain ⟨rfl, rfl⟩ := hp
    have hG : md_G D cy s.heap.size 104 KX NX M0 RX J0 s H locs := hG
    refine lv_aload_n hx hb dL_law_815 rfl (lv_at hl 1 rfl) ?_
    refine lv_aload_n hx hb dL_law_816 rfl (lv_at hl 3 rfl) ?_
    refine lv_iload_n hx hb dL_law_817 rfl (lv_at hl 0 rfl) ?_
    refine lv_iconst (v := 1) hx hb dL_law_818 (by decide) ?_
    refine lv_iadd hx hb dL_law_819 ?_
    refine md_top (y := 1) (by decide) ?_
    refine va_sld hx hb hX hbl hbA hG.2.2 (md_inD (by decide)) dL_law_820 ?_
    refine md_top (y := xs 1) (congrArg xs (by decide)) ?_
    refine lv_aload_n hx hb dL_law_821 rfl (lv_at hl 3 rfl) ?_
    refine lv_iload_n hx hb dL_law_822 rfl (lv_at hl 0 rfl) ?_
    refine lv_iconst (v := 2) hx hb dL_law_823 (by decide) ?_
    refine lv_iadd hx hb dL_law_824 ?_
    refine md_top (y := 2) (by decide) ?_
    refine va_sld hx hb hX hbl hbA hG.2.2 (md_inD (by decide)) dL_law_825 ?_
    refine md_top (y := xs 2) (congrArg xs (by decide)) ?_
    refine lv_if_eq (tgt := 833) hx hb dL_law_826 (by decide) (fun h => absurd h hb1) (fun _ => ?_)
    refine lv_iconst (v := 1) hx hb dL_law_829 (by decide) ?_
    refine lv_goto (tgt := 834) hx hb dL_law_830 (by decide) ?_
    refine lv_aload_n hx hb dL_law_834 rfl (lv_at hl 3 rfl) ?_
    refine lv_iload_n hx hb dL_law_835 rfl (lv_at hl 0 rfl) ?_
    refine lv_iconst (v := 3) hx hb dL_law_836 (by decide) ?_
    refine lv_iadd hx hb dL_law_837 ?_
    refine md_top (y := 3) (by decide) ?_
    refine va_sld hx hb hX hbl hbA hG.2.2 (md_inD (by decide)) dL_law_838 ?_
    refine md_top (y := xs 3) (congrArg xs (by decide)) ?_
    refine md_goi hG (md_runV (As := [.int (xs 1), .int 1, .int (xs 3)]) (rest := [.int (-1000000)]) hx hb hml hown hW hK hT hG (c_X12_chair l D cy tx s.heap.size 104 KX NX M0 RX J0 (by decide) rfl rfl rfl rfl rfl rfl (xs 1) 1 (xs 3) ) s_L_103 ⟨rfl, rfl, ⟨Nat.le_of_ble_eq_true rfl, Nat.le_of_ble_eq_true rfl⟩, Nat.le_of_ble_eq_true rfl, Nat.le_of_ble_eq_true rfl⟩ (by decide) rfl (by decide) rfl rfl hl.1 rfl (Nat.le_of_ble_eq_true rfl) dL_law_839) (fun r u H locs hp hG => ?_)
    obtain ⟨rfl, rfl⟩ := hp
    have hG : md_G D cy s.heap.size 104 KX NX M0 RX J0 s H locs := hG
    refine lv_icmp_eq (tgt := 1157) hx hb dL_law_842 (by decide) (fun _ => ?_) (fun h => absurd rfl h)
    exact law_tail C0 (Nat.le_of_ble_eq_true rfl) (Nat.le_of_ble_eq_true rfl) hG (lv_sub hl [0, 3] rfl)
set_option maxRecDepth 100000 in
set_option maxHeartbeats 4000000 in
theorem law_rounds (C0 : lw_F p s m meth c b xs D cy tx) {H : Heap} {locs : List Loc} (hG : md_G D cy s.heap.size 104 KX NX M0 RX J0 s H locs) {ls : Array Slot} (hl : lv_has ls 4 [(3, .int 0), (2, .ref (s.heap.size + 69)), (1, .ref (s.heap.size + 0)), (0, .ref b)]) : W p l e room_1 s m #[Value.ref b] below meth c H locs 104 87680 (lw_Z below #[Value.ref b] s) (F0 m 847 ls []) := by
  have C1 := C0
  obtain ⟨hx, hb, hr, hml, hown, hW, hX, hbl, hlocks, hK, hT⟩ := C1
  have hbA : ¬ (fun q : Nat => s.heap.size ≤ q) b := Nat.not_le.mpr hbl
  refine lv_aload_n hx hb dL_law_847 rfl (lv_at hl 2 rfl) ?_
  refine lv_aload_n hx hb dL_law_848 rfl (lv_at hl 3 rfl) ?_
  refine lv_iload_n hx hb dL_law_849 rfl (lv_at hl 0 rfl) ?_
  refine lv_iconst (v := 1) hx hb dL_law_850 (by decide) ?_
  refine lv_iadd hx hb dL_law_851 ?_
  refine md_top (y := 1) (by decide) ?_
  refine va_sld hx hb hX hbl hbA hG.2.2 (md_inD (by decide)) dL_law_852 ?_
  refine md_top (y := xs 1) (congrArg xs (by decide)) ?_
  refine md_goi hG (md_runV (As := [.int (xs 1)]) (rest := []) hx hb hml hown hW hK hT hG (c_X11_rounds l D cy tx s.heap.size 104 KX NX M0 RX J0 (by decide) rfl rfl rfl rfl (xs 1) ) s_L_104 ⟨rfl, rfl, ⟨Nat.le_of_ble_eq_true rfl, Nat.le_of_ble_eq_true rfl⟩, Nat.le_of_ble_eq_true rfl, Nat.le_of_ble_eq_true rfl⟩ (by decide) rfl (by decide) rfl rfl hl.1 rfl (Nat.le_of_ble_eq_true rfl) dL_law_853) (fun r u H locs hp hG => ?_)
  obtain ⟨rfl, rfl⟩ := hp
  have hG : md_G D cy s.heap.size 104 KX NX M0 RX J0 s H locs := hG
  refine lv_aload_n hx hb dL_law_856 rfl (lv_at hl 1 rfl) ?_
  refine lv_aload_n hx hb dL_law_857 rfl (lv_at hl 3 rfl) ?_
  refine lv_iload_n hx hb dL_law_858 rfl (lv_at hl 0 rfl) ?_
  refine lv_iconst (v := 1) hx hb dL_law_859 (by decide) ?_
  refine lv_iadd hx hb dL_law_860 ?_
  refine md_top (y := 1) (by decide) ?_
  refine va_sld hx hb hX hbl hbA hG.2.2 (md_inD (by decide)) dL_law_861 ?_
  refine md_top (y := xs 1) (congrArg xs (by decide)) ?_
  refine md_goi hG (md_runV (As := [.int (xs 1)]) (rest := [.int (-1)]) hx hb hml hown hW hK hT hG (c_X12_rounds l D cy tx s.heap.size 104 KX NX M0 RX J0 (by decide) rfl rfl rfl rfl rfl (xs 1) ) s_L_107 ⟨rfl, rfl, ⟨Nat.le_of_ble_eq_true rfl, Nat.le_of_ble_eq_true rfl⟩, Nat.le_of_ble_eq_true rfl, Nat.le_of_ble_eq_true rfl⟩ (by decide) rfl (by decide) rfl rfl hl.1 rfl (Nat.le_of_ble_eq_true rfl) dL_law_862) (fun r u H locs hp hG => ?_)
  obtain ⟨rfl, rfl⟩ := hp
  have hG : md_G D cy s.heap.size 104 KX NX M0 RX J0 s H locs := hG
  refine lv_icmp_eq (tgt := 1157) hx hb dL_law_865 (by decide) (fun _ => ?_) (fun h => absurd rfl h)
  exact law_tail C0 (Nat.le_of_ble_eq_true rfl) (Nat.le_of_ble_eq_true rfl) hG (lv_sub hl [0, 3] rfl)
set_option maxRecDepth 100000 in
set_option maxHeartbeats 4000000 in
theorem law_entry (C0 : lw_F p s m meth c b xs D cy tx) {H : Heap} {locs : List Loc} (hG : md_G D cy s.heap.size 104 KX NX M0 RX J0 s H locs) {ls : Array Slot} (hl : lv_has ls 4 [(3, .int 0), (2, .ref (s.heap.size + 69)), (1, .ref (s.heap.size + 0)), (0, .ref b)]) : W p l e room_1 s m #[Value.ref b] below meth c H locs 104 87680 (lw_Z below #[Value.ref b] s) (F0 m 870 ls []) := by
  have C1 := C0
  obtain ⟨hx, hb, hr, hml, hown, hW, hX, hbl, hlocks, hK, hT⟩ := C1
  have hbA : ¬ (fun q : Nat => s.heap.size ≤ q) b := Nat.not_le.mpr hbl
  refine lv_aload_n hx hb dL_law_870 rfl (lv_at hl 2 rfl) ?_
  refine lv_aload_n hx hb dL_law_871 rfl (lv_at hl 3 rfl) ?_
  refine lv_iload_n hx hb dL_law_872 rfl (lv_at hl 0 rfl) ?_
  refine lv_iconst (v := 1) hx hb dL_law_873 (by decide) ?_
  refine lv_iadd hx hb dL_law_874 ?_
  refine md_top (y := 1) (by decide) ?_
  refine va_sld hx hb hX hbl hbA hG.2.2 (md_inD (by decide)) dL_law_875 ?_
  refine md_top (y := xs 1) (congrArg xs (by decide)) ?_
  by_cases hv : xs 1 = (-1)
  · refine md_top (y := (-1)) hv ?_
    refine lv_aload_n hx hb dL_law_876 rfl (lv_at hl 3 rfl) ?_
    refine lv_iload_n hx hb dL_law_877 rfl (lv_at hl 0 rfl) ?_
    refine lv_iconst (v := 2) hx hb dL_law_878 (by decide) ?_
    refine lv_iadd hx hb dL_law_879 ?_
    refine md_top (y := 2) (by decide) ?_
    refine va_sld hx hb hX hbl hbA hG.2.2 (md_inD (by decide)) dL_law_880 ?_
    refine md_top (y := xs 2) (congrArg xs (by decide)) ?_
    refine lv_aload_n hx hb dL_law_881 rfl (lv_at hl 3 rfl) ?_
    refine lv_iload_n hx hb dL_law_882 rfl (lv_at hl 0 rfl) ?_
    refine lv_iconst (v := 3) hx hb dL_law_883 (by decide) ?_
    refine lv_iadd hx hb dL_law_884 ?_
    refine md_top (y := 3) (by decide) ?_
    refine va_sld hx hb hX hbl hbA hG.2.2 (md_inD (by decide)) dL_law_885 ?_
    refine md_top (y := xs 3) (congrArg xs (by decide)) ?_
    refine lv_aload_n hx hb dL_law_886 rfl (lv_at hl 3 rfl) ?_
    refine lv_iload_n hx hb dL_law_887 rfl (lv_at hl 0 rfl) ?_
    refine lv_iconst (v := 4) hx hb dL_law_888 (by decide) ?_
    refine lv_iadd hx hb dL_law_889 ?_
    refine md_top (y := 4) (by decide) ?_
    refine va_sld hx hb hX hbl hbA hG.2.2 (md_inD (by decide)) dL_law_890 ?_
    refine md_top (y := xs 4) (congrArg xs (by decide)) ?_
    refine md_goi hG (md_runV (As := [.int (-1), .int (xs 2), .int (xs 3), .int (xs 4)]) (rest := []) hx hb hml hown hW hK hT hG (c_X11_entry l D cy tx s.heap.size 104 KX NX M0 RX J0 (by decide) rfl rfl rfl (xs 2) (xs 3) (xs 4) ) s_L_108 ⟨rfl, rfl, ⟨Nat.le_of_ble_eq_true rfl, Nat.le_of_ble_eq_true rfl⟩, Nat.le_of_ble_eq_true rfl, Nat.le_of_ble_eq_true rfl⟩ (by decide) rfl (by decide) rfl rfl hl.1 rfl (Nat.le_of_ble_eq_true rfl) dL_law_891) (fun r u H locs hp hG => ?_)
    obtain ⟨rfl, rfl⟩ := hp
    have hG : md_G D cy s.heap.size 104 KX NX (u2 M0 4 8 0) RX J0 s H locs := hG
    refine lv_aload_n hx hb dL_law_894 rfl (lv_at hl 1 rfl) ?_
    refine lv_aload_n hx hb dL_law_895 rfl (lv_at hl 3 rfl) ?_
    refine lv_iload_n hx hb dL_law_896 rfl (lv_at hl 0 rfl) ?_
    refine lv_iconst (v := 1) hx hb dL_law_897 (by decide) ?_
    refine lv_iadd hx hb dL_law_898 ?_
    refine md_top (y := 1) (by decide) ?_
    refine va_sld hx hb hX hbl hbA hG.2.2 (md_inD (by decide)) dL_law_899 ?_
    refine md_top (y := (-1)) ((congrArg xs (by decide)).trans hv) ?_
    refine lv_aload_n hx hb dL_law_900 rfl (lv_at hl 3 rfl) ?_
    refine lv_iload_n hx hb dL_law_901 rfl (lv_at hl 0 rfl) ?_
    refine lv_iconst (v := 2) hx hb dL_law_902 (by decide) ?_
    refine lv_iadd hx hb dL_law_903 ?_
    refine md_top (y := 2) (by decide) ?_
    refine va_sld hx hb hX hbl hbA hG.2.2 (md_inD (by decide)) dL_law_904 ?_
    refine md_top (y := xs 2) (congrArg xs (by decide)) ?_
    refine lv_aload_n hx hb dL_law_905 rfl (lv_at hl 3 rfl) ?_
    refine lv_iload_n hx hb dL_law_906 rfl (lv_at hl 0 rfl) ?_
    refine lv_iconst (v := 3) hx hb dL_law_907 (by decide) ?_
    refine lv_iadd hx hb dL_law_908 ?_
    refine md_top (y := 3) (by decide) ?_
    refine va_sld hx hb hX hbl hbA hG.2.2 (md_inD (by decide)) dL_law_909 ?_
    refine md_top (y := xs 3) (congrArg xs (by decide)) ?_
    refine lv_aload_n hx hb dL_law_910 rfl (lv_at hl 3 rfl) ?_
    refine lv_iload_n hx hb dL_law_911 rfl (lv_at hl 0 rfl) ?_
    refine lv_iconst (v := 4) hx hb dL_law_912 (by decide) ?_
    refine lv_iadd hx hb dL_law_913 ?_
    refine md_top (y := 4) (by decide) ?_
    refine va_sld hx hb hX hbl hbA hG.2.2 (md_inD (by decide)) dL_law_914 ?_
    refine md_top (y := xs 4) (congrArg xs (by decide)) ?_
    refine md_goi hG (md_runV (As := [.int (-1), .int (xs 2), .int (xs 3), .int (xs 4)]) (rest := [.int 0]) hx hb hml hown hW hK hT hG (c_X12_entry l D cy tx s.heap.size 104 KX NX (u2 M0 4 8 0) RX J0 (by decide) rfl rfl rfl rfl (xs 2) (xs 3) (xs 4) ) s_L_112 ⟨rfl, rfl, ⟨Nat.le_of_ble_eq_true rfl, Nat.le_of_ble_eq_true rfl⟩, Nat.le_of_ble_eq_true rfl, Nat.le_of_ble_eq_true rfl⟩ (by decide) rfl (by decide) rfl rfl hl.1 rfl (Nat.le_of_ble_eq_true rfl) dL_law_915) (fun r u H locs hp hG => ?_)
    obtain ⟨rfl, rfl⟩ := hp
    have hG : md_G D cy s.heap.size 104 KX NX (u2 (u2 M0 4 8 0) 81 5 0) RX J0 s H locs := hG
    refine lv_icmp_eq (tgt := 1157) hx hb dL_law_918 (by decide) (fun _ => ?_) (fun h => absurd rfl h)
    exact law_tail C0 (Nat.le_of_ble_eq_true rfl) (Nat.le_of_ble_eq_true rfl) hG (lv_sub hl [0, 3] rfl)
  · have h1 := hv
    refine lv_aload_n hx hb dL_law_876 rfl (lv_at hl 3 rfl) ?_
    refine lv_iload_n hx hb dL_law_877 rfl (lv_at hl 0 rfl) ?_
    refine lv_iconst (v := 2) hx hb dL_law_878 (by decide) ?_
    refine lv_iadd hx hb dL_law_879 ?_
    refine md_top (y := 2) (by decide) ?_
    refine va_sld hx hb hX hbl hbA hG.2.2 (md_inD (by decide)) dL_law_880 ?_
    refine md_top (y := xs 2) (congrArg xs (by decide)) ?_
    refine lv_aload_n hx hb dL_law_881 rfl (lv_at hl 3 rfl) ?_
    refine lv_iload_n hx hb dL_law_882 rfl (lv_at hl 0 rfl) ?_
    refine lv_iconst (v := 3) hx hb dL_law_883 (by decide) ?_
    refine lv_iadd hx hb dL_law_884 ?_
    refine md_top (y := 3) (by decide) ?_
    refine va_sld hx hb hX hbl hbA hG.2.2 (md_inD (by decide)) dL_law_885 ?_
    refine md_top (y := xs 3) (congrArg xs (by decide)) ?_
    refine lv_aload_n hx hb dL_law_886 rfl (lv_at hl 3 rfl) ?_
    refine lv_iload_n hx hb dL_law_887 rfl (lv_at hl 0 rfl) ?_
    refine lv_iconst (v := 4) hx hb dL_law_888 (by decide) ?_
    refine lv_iadd hx hb dL_law_889 ?_
    refine md_top (y := 4) (by decide) ?_
    refine va_sld hx hb hX hbl hbA hG.2.2 (md_inD (by decide)) dL_law_890 ?_
    refine md_top (y := xs 4) (congrArg xs (by decide)) ?_
    refine md_goi hG (md_runV (As := [.int (xs 1), .int (xs 2), .int (xs 3), .int (xs 4)]) (rest := []) hx hb hml hown hW hK hT hG (c_X11_entry_2 l D cy tx s.heap.size 104 KX NX M0 RX J0 (by decide) rfl rfl rfl rfl rfl rfl rfl rfl (xs 1) (xs 2) (xs 3) (xs 4) h1) s_L_108 ⟨rfl, rfl, ⟨Nat.le_of_ble_eq_true rfl, Nat.le_of_ble_eq_true rfl⟩, Nat.le_of_ble_eq_true rfl, Nat.le_of_ble_eq_true rfl⟩ (by decide) rfl (by decide) rfl rfl hl.1 rfl (Nat.le_of_ble_eq_true rfl) dL_law_891) (fun r u H locs hp hG => ?_)
    obtain ⟨rfl, rfl⟩ := hp
    have hG : md_G D cy s.heap.size 104 KX NX (u2 M0 2 0 1) RX J0 s H locs := hG
    refine lv_aload_n hx hb dL_law_894 rfl (lv_at hl 1 rfl) ?_
    refine lv_aload_n hx hb dL_law_895 rfl (lv_at hl 3 rfl) ?_
    refine lv_iload_n hx hb dL_law_896 rfl (lv_at hl 0 rfl) ?_
    refine lv_iconst (v := 1) hx hb dL_law_897 (by decide) ?_
    refine lv_iadd hx hb dL_law_898 ?_
    refine md_top (y := 1) (by decide) ?_
    refine va_sld hx hb hX hbl hbA hG.2.2 (md_inD (by decide)) dL_law_899 ?_
    refine md_top (y := xs 1) (congrArg xs (by decide)) ?_
    refine lv_aload_n hx hb dL_law_900 rfl (lv_at hl 3 rfl) ?_
    refine lv_iload_n hx hb dL_law_901 rfl (lv_at hl 0 rfl) ?_
    refine lv_iconst (v := 2) hx hb dL_law_902 (by decide) ?_
    refine lv_iadd hx hb dL_law_903 ?_
    refine md_top (y := 2) (by decide) ?_
    refine va_sld hx hb hX hbl hbA hG.2.2 (md_inD (by decide)) dL_law_904 ?_
    refine md_top (y := xs 2) (congrArg xs (by decide)) ?_
    refine lv_aload_n hx hb dL_law_905 rfl (lv_at hl 3 rfl) ?_
    refine lv_iload_n hx hb dL_law_906 rfl (lv_at hl 0 rfl) ?_
    refine lv_iconst (v := 3) hx hb dL_law_907 (by decide) ?_
    refine lv_iadd hx hb dL_law_908 ?_
    refine md_top (y := 3) (by decide) ?_
    refine va_sld hx hb hX hbl hbA hG.2.2 (md_inD (by decide)) dL_law_909 ?_
    refine md_top (y := xs 3) (congrArg xs (by decide)) ?_
    refine lv_aload_n hx hb dL_law_910 rfl (lv_at hl 3 rfl) ?_
    refine lv_iload_n hx hb dL_law_911 rfl (lv_at hl 0 rfl) ?_
    refine lv_iconst (v := 4) hx hb dL_law_912 (by decide) ?_
    refine lv_iadd hx hb dL_law_913 ?_
    refine md_top (y := 4) (by decide) ?_
    refine va_sld hx hb hX hbl hbA hG.2.2 (md_inD (by decide)) dL_law_914 ?_
    refine md_top (y := xs 4) (congrArg xs (by decide)) ?_
    refine md_goi hG (md_runV (As := [.int (xs 1), .int (xs 2), .int (xs 3), .int (xs 4)]) (rest := [.int (-2)]) hx hb hml hown hW hK hT hG (c_X12_entry_2 l D cy tx s.heap.size 104 KX NX (u2 M0 2 0 1) RX J0 (by decide) rfl rfl rfl rfl rfl rfl rfl rfl rfl (xs 1) (xs 2) (xs 3) (xs 4) h1) s_L_112 ⟨rfl, rfl, ⟨Nat.le_of_ble_eq_true rfl, Nat.le_of_ble_eq_true rfl⟩, Nat.le_of_ble_eq_true rfl, Nat.le_of_ble_eq_true rfl⟩ (by decide) rfl (by decide) rfl rfl hl.1 rfl (Nat.le_of_ble_eq_true rfl) dL_law_915) (fun r u H locs hp hG => ?_)
    obtain ⟨rfl, rfl⟩ := hp
    have hG : md_G D cy s.heap.size 104 KX NX (u2 (u2 M0 2 0 1) 82 0 1) RX J0 s H locs := hG
    refine lv_icmp_eq (tgt := 1157) hx hb dL_law_918 (by decide) (fun _ => ?_) (fun h => absurd rfl h)
    exact law_tail C0 (Nat.le_of_ble_eq_true rfl) (Nat.le_of_ble_eq_true rfl) hG (lv_sub hl [0, 3] rfl)
set_option maxRecDepth 100000 in
set_option maxHeartbeats 4000000 in
theorem law_fits (C0 : lw_F p s m meth c b xs D cy tx) {H : Heap} {locs : List Loc} (hG : md_G D cy s.heap.size 104 KX NX M0 RX J0 s H locs) {ls : Array Slot} (hl : lv_has ls 4 [(3, .int 0), (2, .ref (s.heap.size + 69)), (1, .ref (s.heap.size + 0)), (0, .ref b)]) : W p l e room_1 s m #[Value.ref b] below meth c H locs 104 87680 (lw_Z below #[Value.ref b] s) (F0 m 923 ls []) := by
  have C1 := C0
  obtain ⟨hx, hb, hr, hml, hown, hW, hX, hbl, hlocks, hK, hT⟩ := C1
  have hbA : ¬ (fun q : Nat => s.heap.size ≤ q) b := Nat.not_le.mpr hbl
  refine lv_aload_n hx hb dL_law_923 rfl (lv_at hl 2 rfl) ?_
  refine lv_aload_n hx hb dL_law_924 rfl (lv_at hl 3 rfl) ?_
  refine lv_iload_n hx hb dL_law_925 rfl (lv_at hl 0 rfl) ?_
  refine lv_iconst (v := 1) hx hb dL_law_926 (by decide) ?_
  refine lv_iadd hx hb dL_law_927 ?_
  refine md_top (y := 1) (by decide) ?_
  refine va_sld hx hb hX hbl hbA hG.2.2 (md_inD (by decide)) dL_law_928 ?_
  refine md_top (y := xs 1) (congrArg xs (by decide)) ?_
  refine lv_aload_n hx hb dL_law_929 rfl (lv_at hl 3 rfl) ?_
  refine lv_iload_n hx hb dL_law_930 rfl (lv_at hl 0 rfl) ?_
  refine lv_iconst (v := 2) hx hb dL_law_931 (by decide) ?_
  refine lv_iadd hx hb dL_law_932 ?_
  refine md_top (y := 2) (by decide) ?_
  refine va_sld hx hb hX hbl hbA hG.2.2 (md_inD (by decide)) dL_law_933 ?_
  refine md_top (y := xs 2) (congrArg xs (by decide)) ?_
  refine lv_aload_n hx hb dL_law_934 rfl (lv_at hl 3 rfl) ?_
  refine lv_iload_n hx hb dL_law_935 rfl (lv_at hl 0 rfl) ?_
  refine lv_iconst (v := 3) hx hb dL_law_936 (by decide) ?_
  refine lv_iadd hx hb dL_law_937 ?_
  refine md_top (y := 3) (by decide) ?_
  refine va_sld hx hb hX hbl hbA hG.2.2 (md_inD (by decide)) dL_law_938 ?_
  refine md_top (y := xs 3) (congrArg xs (by decide)) ?_
  refine md_goi hG (md_runV (As := [.int (xs 1), .int (xs 2), .int (xs 3)]) (rest := []) hx hb hml hown hW hK hT hG (c_X11_fits l D cy tx s.heap.size 104 KX NX M0 RX J0 (by decide) rfl rfl rfl rfl (xs 1) (xs 2) (xs 3) ) s_L_113 ⟨rfl, rfl, ⟨Nat.le_of_ble_eq_true rfl, Nat.le_of_ble_eq_true rfl⟩, Nat.le_of_ble_eq_true rfl, Nat.le_of_ble_eq_true rfl⟩ (by decide) rfl (by decide) rfl rfl hl.1 rfl (Nat.le_of_ble_eq_true rfl) dL_law_939) (fun r u H locs hp hG => ?_)
  obtain ⟨rfl, rfl⟩ := hp
  have hG : md_G D cy s.heap.size 104 KX NX M0 RX J0 s H locs := hG
  refine lv_aload_n hx hb dL_law_942 rfl (lv_at hl 1 rfl) ?_
  refine lv_aload_n hx hb dL_law_943 rfl (lv_at hl 3 rfl) ?_
  refine lv_iload_n hx hb dL_law_944 rfl (lv_at hl 0 rfl) ?_
  refine lv_iconst (v := 1) hx hb dL_law_945 (by decide) ?_
  refine lv_iadd hx hb dL_law_946 ?_
  refine md_top (y := 1) (by decide) ?_
  refine va_sld hx hb hX hbl hbA hG.2.2 (md_inD (by decide)) dL_law_947 ?_
  refine md_top (y := xs 1) (congrArg xs (by decide)) ?_
  refine lv_aload_n hx hb dL_law_948 rfl (lv_at hl 3 rfl) ?_
  refine lv_iload_n hx hb dL_law_949 rfl (lv_at hl 0 rfl) ?_
  refine lv_iconst (v := 2) hx hb dL_law_950 (by decide) ?_
  refine lv_iadd hx hb dL_law_951 ?_
  refine md_top (y := 2) (by decide) ?_
  refine va_sld hx hb hX hbl hbA hG.2.2 (md_inD (by decide)) dL_law_952 ?_
  refine md_top (y := xs 2) (congrArg xs (by decide)) ?_
  refine lv_aload_n hx hb dL_law_953 rfl (lv_at hl 3 rfl) ?_
  refine lv_iload_n hx hb dL_law_954 rfl (lv_at hl 0 rfl) ?_
  refine lv_iconst (v := 3) hx hb dL_law_955 (by decide) ?_
  refine lv_iadd hx hb dL_law_956 ?_
  refine md_top (y := 3) (by decide) ?_
  refine va_sld hx hb hX hbl hbA hG.2.2 (md_inD (by decide)) dL_law_957 ?_
  refine md_top (y := xs 3) (congrArg xs (by decide)) ?_
  refine md_goi hG (md_runV (As := [.int (xs 1), .int (xs 2), .int (xs 3)]) (rest := [.int (-1)]) hx hb hml hown hW hK hT hG (c_X12_fits l D cy tx s.heap.size 104 KX NX M0 RX J0 (by decide) rfl rfl rfl rfl rfl (xs 1) (xs 2) (xs 3) ) s_L_116 ⟨rfl, rfl, ⟨Nat.le_of_ble_eq_true rfl, Nat.le_of_ble_eq_true rfl⟩, Nat.le_of_ble_eq_true rfl, Nat.le_of_ble_eq_true rfl⟩ (by decide) rfl (by decide) rfl rfl hl.1 rfl (Nat.le_of_ble_eq_true rfl) dL_law_958) (fun r u H locs hp hG => ?_)
  obtain ⟨rfl, rfl⟩ := hp
  have hG : md_G D cy s.heap.size 104 KX NX M0 RX J0 s H locs := hG
  refine lv_icmp_eq (tgt := 1157) hx hb dL_law_961 (by decide) (fun _ => ?_) (fun h => absurd rfl h)
  exact law_tail C0 (Nat.le_of_ble_eq_true rfl) (Nat.le_of_ble_eq_true rfl) hG (lv_sub hl [0, 3] rfl)
end LAWC16
