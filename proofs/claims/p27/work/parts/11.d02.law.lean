section LAWC16
variable {p : Program} {l : Launch} {e : Env} {s : State} {m : MethodId} {below : List Frame} {meth : Method} {c : Code} {b Ln : Nat} {xs : Nat → Int32} {D : va_G} {cy : Nat → ClassId} {tx : (Nat → Nat) × (Nat → Nat)}
set_option maxRecDepth 100000 in
set_option maxHeartbeats 4000000 in
theorem law_lose (C0 : lw_F p s m meth c b Ln xs D cy tx) {i : Int32} (hI : ∀ k : Int32, 0 ≤ k.toInt ∧ k.toInt ≤ 5 → vp_in (i + k) Ln) {Z : Nat} {K N : Nat → Nat} {M : MT} {R : RT} {J : JT} {H : Heap} {locs : List Loc} (hG : md_G D cy s.heap.size Z K N M R J s H locs) (hL : LI Z K N M R) {ls : Array Slot} (hl : lv_has ls 4 [(3, .int i), (2, .ref (s.heap.size + 69)), (1, .ref (s.heap.size + 0)), (0, .ref b)]) (kt : lw_KT p l e s m below meth c b D cy i) : W p l e room_1 s m #[Value.ref b] below meth c H locs 4000 500000 (lw_Z below #[Value.ref b] s) (F0 m 656 ls []) := by
  obtain ⟨hx, hb, hr, hml, hown, hW, hX, hbl, hlocks, hK, hT⟩ := C0
  have hbA : ¬ (fun q : Nat => s.heap.size ≤ q) b := Nat.not_le.mpr hbl
  refine lv_aload_n hx hb dL_law_656 rfl (lv_at hl 2 rfl) ?_
  refine lv_aload_n hx hb dL_law_657 rfl (lv_at hl 3 rfl) ?_
  refine lv_iload_n hx hb dL_law_658 rfl (lv_at hl 0 rfl) ?_
  refine lv_iconst (v := 1) hx hb dL_law_659 (by decide) ?_
  refine lv_iadd hx hb dL_law_660 ?_
  refine va_sld hx hb hX hbl hbA hG.2.2 (hI 1 ⟨by decide, by decide⟩) dL_law_661 ?_
  refine lw_goi hG hL (md_runV (As := [.int (xs (i + 1).toNatClampNeg)]) (rest := []) hx hb hml hown hW hK hT hG (t_X11_lose l D cy tx s.heap.size Z K N M R J hL.1.1 0 (show 0 < Z by have := hL.2.1.1.1; omega) hL.2.1.1.2.1 (xs (i + 1).toNatClampNeg) (iv_any _) 4 hL.2.1.2.1.1 29 hL.2.1.2.1.2.2.1 hL.2.1.2.2.1.1) s_L_83 ⟨rfl, rfl, ⟨Nat.le_of_ble_eq_true rfl, Nat.le_of_ble_eq_true rfl⟩, Nat.le_of_ble_eq_true rfl, Nat.le_of_ble_eq_true rfl⟩ (show 0 < Z by have := hL.2.1.1.1; omega) hL.2.1.1.2.1 (by decide) rfl rfl hl.1 rfl (Nat.le_of_ble_eq_true rfl) dL_law_662) rfl (fun r1 H locs M1 R1 J1 hG hL => ?_)
  refine lv_pop hx hb dL_law_665 rfl ?_
  refine lv_aload_n hx hb dL_law_666 rfl (lv_at hl 1 rfl) ?_
  refine lv_aload_n hx hb dL_law_667 rfl (lv_at hl 3 rfl) ?_
  refine lv_iload_n hx hb dL_law_668 rfl (lv_at hl 0 rfl) ?_
  refine lv_iconst (v := 1) hx hb dL_law_669 (by decide) ?_
  refine lv_iadd hx hb dL_law_670 ?_
  refine va_sld hx hb hX hbl hbA hG.2.2 (hI 1 ⟨by decide, by decide⟩) dL_law_671 ?_
  refine lw_goi hG hL (md_runV (As := [.int (xs (i + 1).toNatClampNeg)]) (rest := []) hx hb hml hown hW hK hT hG (t_X12_lose l D cy tx s.heap.size Z K N M1 R1 J1 hL.1.1 69 (show 69 < Z by have := hL.2.1.1.1; omega) hL.2.1.1.2.2 (xs (i + 1).toNatClampNeg) (iv_any _) hL.2.2.1) s_L_86 ⟨rfl, rfl, ⟨Nat.le_of_ble_eq_true rfl, Nat.le_of_ble_eq_true rfl⟩, Nat.le_of_ble_eq_true rfl, Nat.le_of_ble_eq_true rfl⟩ (show 69 < Z by have := hL.2.1.1.1; omega) hL.2.1.1.2.2 (by decide) rfl rfl hl.1 rfl (Nat.le_of_ble_eq_true rfl) dL_law_672) rfl (fun r2 H locs M2 R2 J2 hG hL => ?_)
  refine lv_pop hx hb dL_law_675 rfl ?_
  refine lv_goto (tgt := 1157) hx hb dL_law_676 (by decide) ?_
  refine lw_tt hG hL ?_
  exact kt Z K N M2 R2 J2 H locs ls hG hL hl
set_option maxRecDepth 100000 in
set_option maxHeartbeats 4000000 in
theorem law_plan (C0 : lw_F p s m meth c b Ln xs D cy tx) {i : Int32} (hI : ∀ k : Int32, 0 ≤ k.toInt ∧ k.toInt ≤ 5 → vp_in (i + k) Ln) {Z : Nat} {K N : Nat → Nat} {M : MT} {R : RT} {J : JT} {H : Heap} {locs : List Loc} (hG : md_G D cy s.heap.size Z K N M R J s H locs) (hL : LI Z K N M R) {ls : Array Slot} (hl : lv_has ls 4 [(3, .int i), (2, .ref (s.heap.size + 69)), (1, .ref (s.heap.size + 0)), (0, .ref b)]) (kt : lw_KT p l e s m below meth c b D cy i) : W p l e room_1 s m #[Value.ref b] below meth c H locs 4000 500000 (lw_Z below #[Value.ref b] s) (F0 m 679 ls []) := by
  obtain ⟨hx, hb, hr, hml, hown, hW, hX, hbl, hlocks, hK, hT⟩ := C0
  have hbA : ¬ (fun q : Nat => s.heap.size ≤ q) b := Nat.not_le.mpr hbl
  refine lv_aload_n hx hb dL_law_679 rfl (lv_at hl 2 rfl) ?_
  refine lv_aload_n hx hb dL_law_680 rfl (lv_at hl 3 rfl) ?_
  refine lv_iload_n hx hb dL_law_681 rfl (lv_at hl 0 rfl) ?_
  refine lv_iconst (v := 1) hx hb dL_law_682 (by decide) ?_
  refine lv_iadd hx hb dL_law_683 ?_
  refine va_sld hx hb hX hbl hbA hG.2.2 (hI 1 ⟨by decide, by decide⟩) dL_law_684 ?_
  refine lv_aload_n hx hb dL_law_685 rfl (lv_at hl 3 rfl) ?_
  refine lv_iload_n hx hb dL_law_686 rfl (lv_at hl 0 rfl) ?_
  refine lv_iconst (v := 2) hx hb dL_law_687 (by decide) ?_
  refine lv_iadd hx hb dL_law_688 ?_
  refine va_sld hx hb hX hbl hbA hG.2.2 (hI 2 ⟨by decide, by decide⟩) dL_law_689 ?_
  refine lv_aload_n hx hb dL_law_690 rfl (lv_at hl 3 rfl) ?_
  refine lv_iload_n hx hb dL_law_691 rfl (lv_at hl 0 rfl) ?_
  refine lv_iconst (v := 3) hx hb dL_law_692 (by decide) ?_
  refine lv_iadd hx hb dL_law_693 ?_
  refine va_sld hx hb hX hbl hbA hG.2.2 (hI 3 ⟨by decide, by decide⟩) dL_law_694 ?_
  refine lw_goi hG hL (md_runV (As := [.int (xs (i + 1).toNatClampNeg), .int (xs (i + 2).toNatClampNeg), .int (xs (i + 3).toNatClampNeg)]) (rest := []) hx hb hml hown hW hK hT hG (t_X11_plan l D cy tx s.heap.size Z K N M R J hL.1.1 0 (show 0 < Z by have := hL.2.1.1.1; omega) hL.2.1.1.2.1 (xs (i + 1).toNatClampNeg) (iv_any _) (xs (i + 2).toNatClampNeg) (iv_any _) (xs (i + 3).toNatClampNeg) (iv_any _) 4 hL.2.1.2.1.1 29 hL.2.1.2.1.2.2.1 hL.2.1.2.2.1.1) s_L_87 ⟨rfl, rfl, ⟨Nat.le_of_ble_eq_true rfl, Nat.le_of_ble_eq_true rfl⟩, Nat.le_of_ble_eq_true rfl, Nat.le_of_ble_eq_true rfl⟩ (show 0 < Z by have := hL.2.1.1.1; omega) hL.2.1.1.2.1 (by decide) rfl rfl hl.1 rfl (Nat.le_of_ble_eq_true rfl) dL_law_695) rfl (fun r1 H locs M1 R1 J1 hG hL => ?_)
  refine lv_pop hx hb dL_law_698 rfl ?_
  refine lv_aload_n hx hb dL_law_699 rfl (lv_at hl 1 rfl) ?_
  refine lv_aload_n hx hb dL_law_700 rfl (lv_at hl 3 rfl) ?_
  refine lv_iload_n hx hb dL_law_701 rfl (lv_at hl 0 rfl) ?_
  refine lv_iconst (v := 1) hx hb dL_law_702 (by decide) ?_
  refine lv_iadd hx hb dL_law_703 ?_
  refine va_sld hx hb hX hbl hbA hG.2.2 (hI 1 ⟨by decide, by decide⟩) dL_law_704 ?_
  refine lv_aload_n hx hb dL_law_705 rfl (lv_at hl 3 rfl) ?_
  refine lv_iload_n hx hb dL_law_706 rfl (lv_at hl 0 rfl) ?_
  refine lv_iconst (v := 2) hx hb dL_law_707 (by decide) ?_
  refine lv_iadd hx hb dL_law_708 ?_
  refine va_sld hx hb hX hbl hbA hG.2.2 (hI 2 ⟨by decide, by decide⟩) dL_law_709 ?_
  refine lv_aload_n hx hb dL_law_710 rfl (lv_at hl 3 rfl) ?_
  refine lv_iload_n hx hb dL_law_711 rfl (lv_at hl 0 rfl) ?_
  refine lv_iconst (v := 3) hx hb dL_law_712 (by decide) ?_
  refine lv_iadd hx hb dL_law_713 ?_
  refine va_sld hx hb hX hbl hbA hG.2.2 (hI 3 ⟨by decide, by decide⟩) dL_law_714 ?_
  refine lw_goi hG hL (md_runV (As := [.int (xs (i + 1).toNatClampNeg), .int (xs (i + 2).toNatClampNeg), .int (xs (i + 3).toNatClampNeg)]) (rest := []) hx hb hml hown hW hK hT hG (t_X12_plan l D cy tx s.heap.size Z K N M1 R1 J1 hL.1.1 69 (show 69 < Z by have := hL.2.1.1.1; omega) hL.2.1.1.2.2 (xs (i + 1).toNatClampNeg) (iv_any _) (xs (i + 2).toNatClampNeg) (iv_any _) (xs (i + 3).toNatClampNeg) (iv_any _) hL.2.2.1) s_L_90 ⟨rfl, rfl, ⟨Nat.le_of_ble_eq_true rfl, Nat.le_of_ble_eq_true rfl⟩, Nat.le_of_ble_eq_true rfl, Nat.le_of_ble_eq_true rfl⟩ (show 69 < Z by have := hL.2.1.1.1; omega) hL.2.1.1.2.2 (by decide) rfl rfl hl.1 rfl (Nat.le_of_ble_eq_true rfl) dL_law_715) rfl (fun r2 H locs M2 R2 J2 hG hL => ?_)
  refine lv_pop hx hb dL_law_718 rfl ?_
  refine lv_goto (tgt := 1157) hx hb dL_law_719 (by decide) ?_
  refine lw_tt hG hL ?_
  exact kt Z K N M2 R2 J2 H locs ls hG hL hl
set_option maxRecDepth 100000 in
set_option maxHeartbeats 4000000 in
theorem law_spoilers (C0 : lw_F p s m meth c b Ln xs D cy tx) {i : Int32} (hI : ∀ k : Int32, 0 ≤ k.toInt ∧ k.toInt ≤ 5 → vp_in (i + k) Ln) {Z : Nat} {K N : Nat → Nat} {M : MT} {R : RT} {J : JT} {H : Heap} {locs : List Loc} (hG : md_G D cy s.heap.size Z K N M R J s H locs) (hL : LI Z K N M R) {ls : Array Slot} (hl : lv_has ls 4 [(3, .int i), (2, .ref (s.heap.size + 69)), (1, .ref (s.heap.size + 0)), (0, .ref b)]) (kt : lw_KT p l e s m below meth c b D cy i) : W p l e room_1 s m #[Value.ref b] below meth c H locs 4000 500000 (lw_Z below #[Value.ref b] s) (F0 m 722 ls []) := by
  obtain ⟨hx, hb, hr, hml, hown, hW, hX, hbl, hlocks, hK, hT⟩ := C0
  have hbA : ¬ (fun q : Nat => s.heap.size ≤ q) b := Nat.not_le.mpr hbl
  refine lv_aload_n hx hb dL_law_722 rfl (lv_at hl 2 rfl) ?_
  refine lv_aload_n hx hb dL_law_723 rfl (lv_at hl 3 rfl) ?_
  refine lv_iload_n hx hb dL_law_724 rfl (lv_at hl 0 rfl) ?_
  refine lv_iconst (v := 1) hx hb dL_law_725 (by decide) ?_
  refine lv_iadd hx hb dL_law_726 ?_
  refine va_sld hx hb hX hbl hbA hG.2.2 (hI 1 ⟨by decide, by decide⟩) dL_law_727 ?_
  refine lw_goi hG hL (md_runV (As := [.int (xs (i + 1).toNatClampNeg)]) (rest := []) hx hb hml hown hW hK hT hG (t_X11_spoilers l D cy tx s.heap.size Z K N M R J hL.1.1 0 (show 0 < Z by have := hL.2.1.1.1; omega) hL.2.1.1.2.1 (xs (i + 1).toNatClampNeg) (iv_any _) 4 hL.2.1.2.1.1 29 hL.2.1.2.1.2.2.1 hL.2.1.2.2.1.1) s_L_91 ⟨rfl, rfl, ⟨Nat.le_of_ble_eq_true rfl, Nat.le_of_ble_eq_true rfl⟩, Nat.le_of_ble_eq_true rfl, Nat.le_of_ble_eq_true rfl⟩ (show 0 < Z by have := hL.2.1.1.1; omega) hL.2.1.1.2.1 (by decide) rfl rfl hl.1 rfl (Nat.le_of_ble_eq_true rfl) dL_law_728) rfl (fun r1 H locs M1 R1 J1 hG hL => ?_)
  refine lv_pop hx hb dL_law_731 rfl ?_
  refine lv_aload_n hx hb dL_law_732 rfl (lv_at hl 1 rfl) ?_
  refine lv_aload_n hx hb dL_law_733 rfl (lv_at hl 3 rfl) ?_
  refine lv_iload_n hx hb dL_law_734 rfl (lv_at hl 0 rfl) ?_
  refine lv_iconst (v := 1) hx hb dL_law_735 (by decide) ?_
  refine lv_iadd hx hb dL_law_736 ?_
  refine va_sld hx hb hX hbl hbA hG.2.2 (hI 1 ⟨by decide, by decide⟩) dL_law_737 ?_
  refine lw_goi hG hL (md_runV (As := [.int (xs (i + 1).toNatClampNeg)]) (rest := []) hx hb hml hown hW hK hT hG (t_X12_spoilers l D cy tx s.heap.size Z K N M1 R1 J1 hL.1.1 69 (show 69 < Z by have := hL.2.1.1.1; omega) hL.2.1.1.2.2 (xs (i + 1).toNatClampNeg) (iv_any _) hL.2.2.1) s_L_94 ⟨rfl, rfl, ⟨Nat.le_of_ble_eq_true rfl, Nat.le_of_ble_eq_true rfl⟩, Nat.le_of_ble_eq_true rfl, Nat.le_of_ble_eq_true rfl⟩ (show 69 < Z by have := hL.2.1.1.1; omega) hL.2.1.1.2.2 (by decide) rfl rfl hl.1 rfl (Nat.le_of_ble_eq_true rfl) dL_law_738) rfl (fun r2 H locs M2 R2 J2 hG hL => ?_)
  refine lv_pop hx hb dL_law_741 rfl ?_
  refine lv_goto (tgt := 1157) hx hb dL_law_742 (by decide) ?_
  refine lw_tt hG hL ?_
  exact kt Z K N M2 R2 J2 H locs ls hG hL hl
set_option maxRecDepth 100000 in
set_option maxHeartbeats 4000000 in
theorem law_sides (C0 : lw_F p s m meth c b Ln xs D cy tx) {i : Int32} (hI : ∀ k : Int32, 0 ≤ k.toInt ∧ k.toInt ≤ 5 → vp_in (i + k) Ln) {Z : Nat} {K N : Nat → Nat} {M : MT} {R : RT} {J : JT} {H : Heap} {locs : List Loc} (hG : md_G D cy s.heap.size Z K N M R J s H locs) (hL : LI Z K N M R) {ls : Array Slot} (hl : lv_has ls 4 [(3, .int i), (2, .ref (s.heap.size + 69)), (1, .ref (s.heap.size + 0)), (0, .ref b)]) (kt : lw_KT p l e s m below meth c b D cy i) : W p l e room_1 s m #[Value.ref b] below meth c H locs 4000 500000 (lw_Z below #[Value.ref b] s) (F0 m 745 ls []) := by
  obtain ⟨hx, hb, hr, hml, hown, hW, hX, hbl, hlocks, hK, hT⟩ := C0
  have hbA : ¬ (fun q : Nat => s.heap.size ≤ q) b := Nat.not_le.mpr hbl
  refine lv_aload_n hx hb dL_law_745 rfl (lv_at hl 2 rfl) ?_
  refine lv_aload_n hx hb dL_law_746 rfl (lv_at hl 3 rfl) ?_
  refine lv_iload_n hx hb dL_law_747 rfl (lv_at hl 0 rfl) ?_
  refine lv_iconst (v := 1) hx hb dL_law_748 (by decide) ?_
  refine lv_iadd hx hb dL_law_749 ?_
  refine va_sld hx hb hX hbl hbA hG.2.2 (hI 1 ⟨by decide, by decide⟩) dL_law_750 ?_
  refine lv_aload_n hx hb dL_law_751 rfl (lv_at hl 3 rfl) ?_
  refine lv_iload_n hx hb dL_law_752 rfl (lv_at hl 0 rfl) ?_
  refine lv_iconst (v := 2) hx hb dL_law_753 (by decide) ?_
  refine lv_iadd hx hb dL_law_754 ?_
  refine va_sld hx hb hX hbl hbA hG.2.2 (hI 2 ⟨by decide, by decide⟩) dL_law_755 ?_
  refine lv_aload_n hx hb dL_law_756 rfl (lv_at hl 3 rfl) ?_
  refine lv_iload_n hx hb dL_law_757 rfl (lv_at hl 0 rfl) ?_
  refine lv_iconst (v := 3) hx hb dL_law_758 (by decide) ?_
  refine lv_iadd hx hb dL_law_759 ?_
  refine va_sld hx hb hX hbl hbA hG.2.2 (hI 3 ⟨by decide, by decide⟩) dL_law_760 ?_
  refine lw_goi hG hL (md_runV (As := [.int (xs (i + 1).toNatClampNeg), .int (xs (i + 2).toNatClampNeg), .int (xs (i + 3).toNatClampNeg)]) (rest := []) hx hb hml hown hW hK hT hG (t_X11_sides l D cy tx s.heap.size Z K N M R J hL.1.1 0 (show 0 < Z by have := hL.2.1.1.1; omega) hL.2.1.1.2.1 (xs (i + 1).toNatClampNeg) (iv_any _) (xs (i + 2).toNatClampNeg) (iv_any _) (xs (i + 3).toNatClampNeg) (iv_any _)) s_L_95 ⟨rfl, rfl, ⟨Nat.le_of_ble_eq_true rfl, Nat.le_of_ble_eq_true rfl⟩, Nat.le_of_ble_eq_true rfl, Nat.le_of_ble_eq_true rfl⟩ (show 0 < Z by have := hL.2.1.1.1; omega) hL.2.1.1.2.1 (by decide) rfl rfl hl.1 rfl (Nat.le_of_ble_eq_true rfl) dL_law_761) rfl (fun r1 H locs M1 R1 J1 hG hL => ?_)
  refine lv_pop hx hb dL_law_764 rfl ?_
  refine lv_aload_n hx hb dL_law_765 rfl (lv_at hl 1 rfl) ?_
  refine lv_aload_n hx hb dL_law_766 rfl (lv_at hl 3 rfl) ?_
  refine lv_iload_n hx hb dL_law_767 rfl (lv_at hl 0 rfl) ?_
  refine lv_iconst (v := 1) hx hb dL_law_768 (by decide) ?_
  refine lv_iadd hx hb dL_law_769 ?_
  refine va_sld hx hb hX hbl hbA hG.2.2 (hI 1 ⟨by decide, by decide⟩) dL_law_770 ?_
  refine lv_aload_n hx hb dL_law_771 rfl (lv_at hl 3 rfl) ?_
  refine lv_iload_n hx hb dL_law_772 rfl (lv_at hl 0 rfl) ?_
  refine lv_iconst (v := 2) hx hb dL_law_773 (by decide) ?_
  refine lv_iadd hx hb dL_law_774 ?_
  refine va_sld hx hb hX hbl hbA hG.2.2 (hI 2 ⟨by decide, by decide⟩) dL_law_775 ?_
  refine lv_aload_n hx hb dL_law_776 rfl (lv_at hl 3 rfl) ?_
  refine lv_iload_n hx hb dL_law_777 rfl (lv_at hl 0 rfl) ?_
  refine lv_iconst (v := 3) hx hb dL_law_778 (by decide) ?_
  refine lv_iadd hx hb dL_law_779 ?_
  refine va_sld hx hb hX hbl hbA hG.2.2 (hI 3 ⟨by decide, by decide⟩) dL_law_780 ?_
  refine lw_goi hG hL (md_runV (As := [.int (xs (i + 1).toNatClampNeg), .int (xs (i + 2).toNatClampNeg), .int (xs (i + 3).toNatClampNeg)]) (rest := []) hx hb hml hown hW hK hT hG (t_X12_sides l D cy tx s.heap.size Z K N M1 R1 J1 hL.1.1 69 (show 69 < Z by have := hL.2.1.1.1; omega) hL.2.1.1.2.2 (xs (i + 1).toNatClampNeg) (iv_any _) (xs (i + 2).toNatClampNeg) (iv_any _) (xs (i + 3).toNatClampNeg) (iv_any _) hL.2.2.1 81 hL.2.1.2.2.2.2.1.1 (M1 81 (4 : Int32).toNatClampNeg) rfl (hL.1.1.int (show 81 < Z by have := hL.2.1.1.1; omega) hL.2.1.2.2.2.2.2.2.2.1 (show rgI 23 (4 : Int32).toNatClampNeg = (0, 8) from rfl))) s_L_98 ⟨rfl, rfl, ⟨Nat.le_of_ble_eq_true rfl, Nat.le_of_ble_eq_true rfl⟩, Nat.le_of_ble_eq_true rfl, Nat.le_of_ble_eq_true rfl⟩ (show 69 < Z by have := hL.2.1.1.1; omega) hL.2.1.1.2.2 (by decide) rfl rfl hl.1 rfl (Nat.le_of_ble_eq_true rfl) dL_law_781) rfl (fun r2 H locs M2 R2 J2 hG hL => ?_)
  refine lv_pop hx hb dL_law_784 rfl ?_
  refine lv_goto (tgt := 1157) hx hb dL_law_785 (by decide) ?_
  refine lw_tt hG hL ?_
  exact kt Z K N M2 R2 J2 H locs ls hG hL hl
set_option maxRecDepth 100000 in
set_option maxHeartbeats 4000000 in
theorem law_chair (C0 : lw_F p s m meth c b Ln xs D cy tx) {i : Int32} (hI : ∀ k : Int32, 0 ≤ k.toInt ∧ k.toInt ≤ 5 → vp_in (i + k) Ln) {Z : Nat} {K N : Nat → Nat} {M : MT} {R : RT} {J : JT} {H : Heap} {locs : List Loc} (hG : md_G D cy s.heap.size Z K N M R J s H locs) (hL : LI Z K N M R) {ls : Array Slot} (hl : lv_has ls 4 [(3, .int i), (2, .ref (s.heap.size + 69)), (1, .ref (s.heap.size + 0)), (0, .ref b)]) (kt : lw_KT p l e s m below meth c b D cy i) : W p l e room_1 s m #[Value.ref b] below meth c H locs 4000 500000 (lw_Z below #[Value.ref b] s) (F0 m 788 ls []) := by
  obtain ⟨hx, hb, hr, hml, hown, hW, hX, hbl, hlocks, hK, hT⟩ := C0
  have hbA : ¬ (fun q : Nat => s.heap.size ≤ q) b := Nat.not_le.mpr hbl
  refine lv_aload_n hx hb dL_law_788 rfl (lv_at hl 2 rfl) ?_
  refine lv_aload_n hx hb dL_law_789 rfl (lv_at hl 3 rfl) ?_
  refine lv_iload_n hx hb dL_law_790 rfl (lv_at hl 0 rfl) ?_
  refine lv_iconst (v := 1) hx hb dL_law_791 (by decide) ?_
  refine lv_iadd hx hb dL_law_792 ?_
  refine va_sld hx hb hX hbl hbA hG.2.2 (hI 1 ⟨by decide, by decide⟩) dL_law_793 ?_
  refine lv_aload_n hx hb dL_law_794 rfl (lv_at hl 3 rfl) ?_
  refine lv_iload_n hx hb dL_law_795 rfl (lv_at hl 0 rfl) ?_
  refine lv_iconst (v := 2) hx hb dL_law_796 (by decide) ?_
  refine lv_iadd hx hb dL_law_797 ?_
  refine va_sld hx hb hX hbl hbA hG.2.2 (hI 2 ⟨by decide, by decide⟩) dL_law_798 ?_
  refine lv_if_eq (tgt := 806) hx hb dL_law_799 (by decide) (fun _ => ?_) (fun _ => ?_)
  · refine lv_iconst (v := 0) hx hb dL_law_806 (by decide) ?_
    refine lv_aload_n hx hb dL_law_807 rfl (lv_at hl 3 rfl) ?_
    refine lv_iload_n hx hb dL_law_808 rfl (lv_at hl 0 rfl) ?_
    refine lv_iconst (v := 3) hx hb dL_law_809 (by decide) ?_
    refine lv_iadd hx hb dL_law_810 ?_
    refine va_sld hx hb hX hbl hbA hG.2.2 (hI 3 ⟨by decide, by decide⟩) dL_law_811 ?_
    refine lw_goi hG hL (md_runV (As := [.int (xs (i + 1).toNatClampNeg), .int 0, .int (xs (i + 3).toNatClampNeg)]) (rest := []) hx hb hml hown hW hK hT hG (t_X11_chair l D cy tx s.heap.size Z K N M R J hL.1.1 0 (show 0 < Z by have := hL.2.1.1.1; omega) hL.2.1.1.2.1 (xs (i + 1).toNatClampNeg) (iv_any _) 0 (iv_any _) (xs (i + 3).toNatClampNeg) (iv_any _)) s_L_99 ⟨rfl, rfl, ⟨Nat.le_of_ble_eq_true rfl, Nat.le_of_ble_eq_true rfl⟩, Nat.le_of_ble_eq_true rfl, Nat.le_of_ble_eq_true rfl⟩ (show 0 < Z by have := hL.2.1.1.1; omega) hL.2.1.1.2.1 (by decide) rfl rfl hl.1 rfl (Nat.le_of_ble_eq_true rfl) dL_law_812) rfl (fun r1 H locs M1 R1 J1 hG hL => ?_)
    refine lv_pop hx hb dL_law_815 rfl ?_
    refine lv_aload_n hx hb dL_law_816 rfl (lv_at hl 1 rfl) ?_
    refine lv_aload_n hx hb dL_law_817 rfl (lv_at hl 3 rfl) ?_
    refine lv_iload_n hx hb dL_law_818 rfl (lv_at hl 0 rfl) ?_
    refine lv_iconst (v := 1) hx hb dL_law_819 (by decide) ?_
    refine lv_iadd hx hb dL_law_820 ?_
    refine va_sld hx hb hX hbl hbA hG.2.2 (hI 1 ⟨by decide, by decide⟩) dL_law_821 ?_
    refine lv_aload_n hx hb dL_law_822 rfl (lv_at hl 3 rfl) ?_
    refine lv_iload_n hx hb dL_law_823 rfl (lv_at hl 0 rfl) ?_
    refine lv_iconst (v := 2) hx hb dL_law_824 (by decide) ?_
    refine lv_iadd hx hb dL_law_825 ?_
    refine va_sld hx hb hX hbl hbA hG.2.2 (hI 2 ⟨by decide, by decide⟩) dL_law_826 ?_
    refine lv_if_eq (tgt := 834) hx hb dL_law_827 (by decide) (fun _ => ?_) (fun _ => ?_)
    · refine lv_iconst (v := 0) hx hb dL_law_834 (by decide) ?_
      refine lv_aload_n hx hb dL_law_835 rfl (lv_at hl 3 rfl) ?_
      refine lv_iload_n hx hb dL_law_836 rfl (lv_at hl 0 rfl) ?_
      refine lv_iconst (v := 3) hx hb dL_law_837 (by decide) ?_
      refine lv_iadd hx hb dL_law_838 ?_
      refine va_sld hx hb hX hbl hbA hG.2.2 (hI 3 ⟨by decide, by decide⟩) dL_law_839 ?_
      refine lw_goi hG hL (md_runV (As := [.int (xs (i + 1).toNatClampNeg), .int 0, .int (xs (i + 3).toNatClampNeg)]) (rest := []) hx hb hml hown hW hK hT hG (t_X12_chair l D cy tx s.heap.size Z K N M1 R1 J1 hL.1.1 69 (show 69 < Z by have := hL.2.1.1.1; omega) hL.2.1.1.2.2 (xs (i + 1).toNatClampNeg) (iv_any _) 0 (iv_any _) (xs (i + 3).toNatClampNeg) (iv_any _) hL.2.2.1) s_L_103 ⟨rfl, rfl, ⟨Nat.le_of_ble_eq_true rfl, Nat.le_of_ble_eq_true rfl⟩, Nat.le_of_ble_eq_true rfl, Nat.le_of_ble_eq_true rfl⟩ (show 69 < Z by have := hL.2.1.1.1; omega) hL.2.1.1.2.2 (by decide) rfl rfl hl.1 rfl (Nat.le_of_ble_eq_true rfl) dL_law_840) rfl (fun r2 H locs M2 R2 J2 hG hL => ?_)
      refine lv_pop hx hb dL_law_843 rfl ?_
      refine lv_goto (tgt := 1157) hx hb dL_law_844 (by decide) ?_
      refine lw_tt hG hL ?_
      exact kt Z K N M2 R2 J2 H locs ls hG hL hl
    · refine lv_iconst (v := 1) hx hb dL_law_830 (by decide) ?_
      refine lv_goto (tgt := 835) hx hb dL_law_831 (by decide) ?_
      refine lv_aload_n hx hb dL_law_835 rfl (lv_at hl 3 rfl) ?_
      refine lv_iload_n hx hb dL_law_836 rfl (lv_at hl 0 rfl) ?_
      refine lv_iconst (v := 3) hx hb dL_law_837 (by decide) ?_
      refine lv_iadd hx hb dL_law_838 ?_
      refine va_sld hx hb hX hbl hbA hG.2.2 (hI 3 ⟨by decide, by decide⟩) dL_law_839 ?_
      refine lw_goi hG hL (md_runV (As := [.int (xs (i + 1).toNatClampNeg), .int 1, .int (xs (i + 3).toNatClampNeg)]) (rest := []) hx hb hml hown hW hK hT hG (t_X12_chair l D cy tx s.heap.size Z K N M1 R1 J1 hL.1.1 69 (show 69 < Z by have := hL.2.1.1.1; omega) hL.2.1.1.2.2 (xs (i + 1).toNatClampNeg) (iv_any _) 1 (iv_any _) (xs (i + 3).toNatClampNeg) (iv_any _) hL.2.2.1) s_L_103 ⟨rfl, rfl, ⟨Nat.le_of_ble_eq_true rfl, Nat.le_of_ble_eq_true rfl⟩, Nat.le_of_ble_eq_true rfl, Nat.le_of_ble_eq_true rfl⟩ (show 69 < Z by have := hL.2.1.1.1; omega) hL.2.1.1.2.2 (by decide) rfl rfl hl.1 rfl (Nat.le_of_ble_eq_true rfl) dL_law_840) rfl (fun r2 H locs M2 R2 J2 hG hL => ?_)
      refine lv_pop hx hb dL_law_843 rfl ?_
      refine lv_goto (tgt := 1157) hx hb dL_law_844 (by decide) ?_
      refine lw_tt hG hL ?_
      exact kt Z K N M2 R2 J2 H locs ls hG hL hl
  · refine lv_iconst (v := 1) hx hb dL_law_802 (by decide) ?_
    refine lv_goto (tgt := 807) hx hb dL_law_803 (by decide) ?_
    refine lv_aload_n hx hb dL_law_807 rfl (lv_at hl 3 rfl) ?_
    refine lv_iload_n hx hb dL_law_808 rfl (lv_at hl 0 rfl) ?_
    refine lv_iconst (v := 3) hx hb dL_law_809 (by decide) ?_
    refine lv_iadd hx hb dL_law_810 ?_
    refine va_sld hx hb hX hbl hbA hG.2.2 (hI 3 ⟨by decide, by decide⟩) dL_law_811 ?_
    refine lw_goi hG hL (md_runV (As := [.int (xs (i + 1).toNatClampNeg), .int 1, .int (xs (i + 3).toNatClampNeg)]) (rest := []) hx hb hml hown hW hK hT hG (t_X11_chair l D cy tx s.heap.size Z K N M R J hL.1.1 0 (show 0 < Z by have := hL.2.1.1.1; omega) hL.2.1.1.2.1 (xs (i + 1).toNatClampNeg) (iv_any _) 1 (iv_any _) (xs (i + 3).toNatClampNeg) (iv_any _)) s_L_99 ⟨rfl, rfl, ⟨Nat.le_of_ble_eq_true rfl, Nat.le_of_ble_eq_true rfl⟩, Nat.le_of_ble_eq_true rfl, Nat.le_of_ble_eq_true rfl⟩ (show 0 < Z by have := hL.2.1.1.1; omega) hL.2.1.1.2.1 (by decide) rfl rfl hl.1 rfl (Nat.le_of_ble_eq_true rfl) dL_law_812) rfl (fun r1 H locs M1 R1 J1 hG hL => ?_)
    refine lv_pop hx hb dL_law_815 rfl ?_
    refine lv_aload_n hx hb dL_law_816 rfl (lv_at hl 1 rfl) ?_
    refine lv_aload_n hx hb dL_law_817 rfl (lv_at hl 3 rfl) ?_
    refine lv_iload_n hx hb dL_law_818 rfl (lv_at hl 0 rfl) ?_
    refine lv_iconst (v := 1) hx hb dL_law_819 (by decide) ?_
    refine lv_iadd hx hb dL_law_820 ?_
    refine va_sld hx hb hX hbl hbA hG.2.2 (hI 1 ⟨by decide, by decide⟩) dL_law_821 ?_
    refine lv_aload_n hx hb dL_law_822 rfl (lv_at hl 3 rfl) ?_
    refine lv_iload_n hx hb dL_law_823 rfl (lv_at hl 0 rfl) ?_
    refine lv_iconst (v := 2) hx hb dL_law_824 (by decide) ?_
    refine lv_iadd hx hb dL_law_825 ?_
    refine va_sld hx hb hX hbl hbA hG.2.2 (hI 2 ⟨by decide, by decide⟩) dL_law_826 ?_
    refine lv_if_eq (tgt := 834) hx hb dL_law_827 (by decide) (fun _ => ?_) (fun _ => ?_)
    · refine lv_iconst (v := 0) hx hb dL_law_834 (by decide) ?_
      refine lv_aload_n hx hb dL_law_835 rfl (lv_at hl 3 rfl) ?_
      refine lv_iload_n hx hb dL_law_836 rfl (lv_at hl 0 rfl) ?_
      refine lv_iconst (v := 3) hx hb dL_law_837 (by decide) ?_
      refine lv_iadd hx hb dL_law_838 ?_
      refine va_sld hx hb hX hbl hbA hG.2.2 (hI 3 ⟨by decide, by decide⟩) dL_law_839 ?_
      refine lw_goi hG hL (md_runV (As := [.int (xs (i + 1).toNatClampNeg), .int 0, .int (xs (i + 3).toNatClampNeg)]) (rest := []) hx hb hml hown hW hK hT hG (t_X12_chair l D cy tx s.heap.size Z K N M1 R1 J1 hL.1.1 69 (show 69 < Z by have := hL.2.1.1.1; omega) hL.2.1.1.2.2 (xs (i + 1).toNatClampNeg) (iv_any _) 0 (iv_any _) (xs (i + 3).toNatClampNeg) (iv_any _) hL.2.2.1) s_L_103 ⟨rfl, rfl, ⟨Nat.le_of_ble_eq_true rfl, Nat.le_of_ble_eq_true rfl⟩, Nat.le_of_ble_eq_true rfl, Nat.le_of_ble_eq_true rfl⟩ (show 69 < Z by have := hL.2.1.1.1; omega) hL.2.1.1.2.2 (by decide) rfl rfl hl.1 rfl (Nat.le_of_ble_eq_true rfl) dL_law_840) rfl (fun r2 H locs M2 R2 J2 hG hL => ?_)
      refine lv_pop hx hb dL_law_843 rfl ?_
      refine lv_goto (tgt := 1157) hx hb dL_law_844 (by decide) ?_
      refine lw_tt hG hL ?_
      exact kt Z K N M2 R2 J2 H locs ls hG hL hl
    · refine lv_iconst (v := 1) hx hb dL_law_830 (by decide) ?_
      refine lv_goto (tgt := 835) hx hb dL_law_831 (by decide) ?_
      refine lv_aload_n hx hb dL_law_835 rfl (lv_at hl 3 rfl) ?_
      refine lv_iload_n hx hb dL_law_836 rfl (lv_at hl 0 rfl) ?_
      refine lv_iconst (v := 3) hx hb dL_law_837 (by decide) ?_
      refine lv_iadd hx hb dL_law_838 ?_
      refine va_sld hx hb hX hbl hbA hG.2.2 (hI 3 ⟨by decide, by decide⟩) dL_law_839 ?_
      refine lw_goi hG hL (md_runV (As := [.int (xs (i + 1).toNatClampNeg), .int 1, .int (xs (i + 3).toNatClampNeg)]) (rest := []) hx hb hml hown hW hK hT hG (t_X12_chair l D cy tx s.heap.size Z K N M1 R1 J1 hL.1.1 69 (show 69 < Z by have := hL.2.1.1.1; omega) hL.2.1.1.2.2 (xs (i + 1).toNatClampNeg) (iv_any _) 1 (iv_any _) (xs (i + 3).toNatClampNeg) (iv_any _) hL.2.2.1) s_L_103 ⟨rfl, rfl, ⟨Nat.le_of_ble_eq_true rfl, Nat.le_of_ble_eq_true rfl⟩, Nat.le_of_ble_eq_true rfl, Nat.le_of_ble_eq_true rfl⟩ (show 69 < Z by have := hL.2.1.1.1; omega) hL.2.1.1.2.2 (by decide) rfl rfl hl.1 rfl (Nat.le_of_ble_eq_true rfl) dL_law_840) rfl (fun r2 H locs M2 R2 J2 hG hL => ?_)
      refine lv_pop hx hb dL_law_843 rfl ?_
      refine lv_goto (tgt := 1157) hx hb dL_law_844 (by decide) ?_
      refine lw_tt hG hL ?_
      exact kt Z K N M2 R2 J2 H locs ls hG hL hl
set_option maxRecDepth 100000 in
set_option maxHeartbeats 4000000 in
theorem law_rounds (C0 : lw_F p s m meth c b Ln xs D cy tx) {i : Int32} (hI : ∀ k : Int32, 0 ≤ k.toInt ∧ k.toInt ≤ 5 → vp_in (i + k) Ln) {Z : Nat} {K N : Nat → Nat} {M : MT} {R : RT} {J : JT} {H : Heap} {locs : List Loc} (hG : md_G D cy s.heap.size Z K N M R J s H locs) (hL : LI Z K N M R) {ls : Array Slot} (hl : lv_has ls 4 [(3, .int i), (2, .ref (s.heap.size + 69)), (1, .ref (s.heap.size + 0)), (0, .ref b)]) (kt : lw_KT p l e s m below meth c b D cy i) : W p l e room_1 s m #[Value.ref b] below meth c H locs 4000 500000 (lw_Z below #[Value.ref b] s) (F0 m 847 ls []) := by
  obtain ⟨hx, hb, hr, hml, hown, hW, hX, hbl, hlocks, hK, hT⟩ := C0
  have hbA : ¬ (fun q : Nat => s.heap.size ≤ q) b := Nat.not_le.mpr hbl
  refine lv_aload_n hx hb dL_law_847 rfl (lv_at hl 2 rfl) ?_
  refine lv_aload_n hx hb dL_law_848 rfl (lv_at hl 3 rfl) ?_
  refine lv_iload_n hx hb dL_law_849 rfl (lv_at hl 0 rfl) ?_
  refine lv_iconst (v := 1) hx hb dL_law_850 (by decide) ?_
  refine lv_iadd hx hb dL_law_851 ?_
  refine va_sld hx hb hX hbl hbA hG.2.2 (hI 1 ⟨by decide, by decide⟩) dL_law_852 ?_
  refine lw_goi hG hL (md_runV (As := [.int (xs (i + 1).toNatClampNeg)]) (rest := []) hx hb hml hown hW hK hT hG (t_X11_rounds l D cy tx s.heap.size Z K N M R J hL.1.1 0 (show 0 < Z by have := hL.2.1.1.1; omega) hL.2.1.1.2.1 (xs (i + 1).toNatClampNeg) (iv_any _)) s_L_104 ⟨rfl, rfl, ⟨Nat.le_of_ble_eq_true rfl, Nat.le_of_ble_eq_true rfl⟩, Nat.le_of_ble_eq_true rfl, Nat.le_of_ble_eq_true rfl⟩ (show 0 < Z by have := hL.2.1.1.1; omega) hL.2.1.1.2.1 (by decide) rfl rfl hl.1 rfl (Nat.le_of_ble_eq_true rfl) dL_law_853) rfl (fun r1 H locs M1 R1 J1 hG hL => ?_)
  refine lv_pop hx hb dL_law_856 rfl ?_
  refine lv_aload_n hx hb dL_law_857 rfl (lv_at hl 1 rfl) ?_
  refine lv_aload_n hx hb dL_law_858 rfl (lv_at hl 3 rfl) ?_
  refine lv_iload_n hx hb dL_law_859 rfl (lv_at hl 0 rfl) ?_
  refine lv_iconst (v := 1) hx hb dL_law_860 (by decide) ?_
  refine lv_iadd hx hb dL_law_861 ?_
  refine va_sld hx hb hX hbl hbA hG.2.2 (hI 1 ⟨by decide, by decide⟩) dL_law_862 ?_
  refine lw_goi hG hL (md_runV (As := [.int (xs (i + 1).toNatClampNeg)]) (rest := []) hx hb hml hown hW hK hT hG (t_X12_rounds l D cy tx s.heap.size Z K N M1 R1 J1 hL.1.1 69 (show 69 < Z by have := hL.2.1.1.1; omega) hL.2.1.1.2.2 (xs (i + 1).toNatClampNeg) (iv_any _) hL.2.2.1) s_L_107 ⟨rfl, rfl, ⟨Nat.le_of_ble_eq_true rfl, Nat.le_of_ble_eq_true rfl⟩, Nat.le_of_ble_eq_true rfl, Nat.le_of_ble_eq_true rfl⟩ (show 69 < Z by have := hL.2.1.1.1; omega) hL.2.1.1.2.2 (by decide) rfl rfl hl.1 rfl (Nat.le_of_ble_eq_true rfl) dL_law_863) rfl (fun r2 H locs M2 R2 J2 hG hL => ?_)
  refine lv_pop hx hb dL_law_866 rfl ?_
  refine lv_goto (tgt := 1157) hx hb dL_law_867 (by decide) ?_
  refine lw_tt hG hL ?_
  exact kt Z K N M2 R2 J2 H locs ls hG hL hl
set_option maxRecDepth 100000 in
set_option maxHeartbeats 4000000 in
theorem law_entry (C0 : lw_F p s m meth c b Ln xs D cy tx) {i : Int32} (hI : ∀ k : Int32, 0 ≤ k.toInt ∧ k.toInt ≤ 5 → vp_in (i + k) Ln) {Z : Nat} {K N : Nat → Nat} {M : MT} {R : RT} {J : JT} {H : Heap} {locs : List Loc} (hG : md_G D cy s.heap.size Z K N M R J s H locs) (hL : LI Z K N M R) {ls : Array Slot} (hl : lv_has ls 4 [(3, .int i), (2, .ref (s.heap.size + 69)), (1, .ref (s.heap.size + 0)), (0, .ref b)]) (kt : lw_KT p l e s m below meth c b D cy i) : W p l e room_1 s m #[Value.ref b] below meth c H locs 4000 500000 (lw_Z below #[Value.ref b] s) (F0 m 870 ls []) := by
  obtain ⟨hx, hb, hr, hml, hown, hW, hX, hbl, hlocks, hK, hT⟩ := C0
  have hbA : ¬ (fun q : Nat => s.heap.size ≤ q) b := Nat.not_le.mpr hbl
  refine lv_aload_n hx hb dL_law_870 rfl (lv_at hl 2 rfl) ?_
  refine lv_aload_n hx hb dL_law_871 rfl (lv_at hl 3 rfl) ?_
  refine lv_iload_n hx hb dL_law_872 rfl (lv_at hl 0 rfl) ?_
  refine lv_iconst (v := 1) hx hb dL_law_873 (by decide) ?_
  refine lv_iadd hx hb dL_law_874 ?_
  refine va_sld hx hb hX hbl hbA hG.2.2 (hI 1 ⟨by decide, by decide⟩) dL_law_875 ?_
  refine lv_aload_n hx hb dL_law_876 rfl (lv_at hl 3 rfl) ?_
  refine lv_iload_n hx hb dL_law_877 rfl (lv_at hl 0 rfl) ?_
  refine lv_iconst (v := 2) hx hb dL_law_878 (by decide) ?_
  refine lv_iadd hx hb dL_law_879 ?_
  refine va_sld hx hb hX hbl hbA hG.2.2 (hI 2 ⟨by decide, by decide⟩) dL_law_880 ?_
  refine lv_aload_n hx hb dL_law_881 rfl (lv_at hl 3 rfl) ?_
  refine lv_iload_n hx hb dL_law_882 rfl (lv_at hl 0 rfl) ?_
  refine lv_iconst (v := 3) hx hb dL_law_883 (by decide) ?_
  refine lv_iadd hx hb dL_law_884 ?_
  refine va_sld hx hb hX hbl hbA hG.2.2 (hI 3 ⟨by decide, by decide⟩) dL_law_885 ?_
  refine lv_aload_n hx hb dL_law_886 rfl (lv_at hl 3 rfl) ?_
  refine lv_iload_n hx hb dL_law_887 rfl (lv_at hl 0 rfl) ?_
  refine lv_iconst (v := 4) hx hb dL_law_888 (by decide) ?_
  refine lv_iadd hx hb dL_law_889 ?_
  refine va_sld hx hb hX hbl hbA hG.2.2 (hI 4 ⟨by decide, by decide⟩) dL_law_890 ?_
  refine lw_goi hG hL (md_runV (As := [.int (xs (i + 1).toNatClampNeg), .int (xs (i + 2).toNatClampNeg), .int (xs (i + 3).toNatClampNeg), .int (xs (i + 4).toNatClampNeg)]) (rest := []) hx hb hml hown hW hK hT hG (t_X11_entry l D cy tx s.heap.size Z K N M R J hL.1.1 0 (show 0 < Z by have := hL.2.1.1.1; omega) hL.2.1.1.2.1 (xs (i + 1).toNatClampNeg) (iv_any _) (xs (i + 2).toNatClampNeg) (iv_any _) (xs (i + 3).toNatClampNeg) (iv_any _) (xs (i + 4).toNatClampNeg) (iv_any _)) s_L_108 ⟨rfl, rfl, ⟨Nat.le_of_ble_eq_true rfl, Nat.le_of_ble_eq_true rfl⟩, Nat.le_of_ble_eq_true rfl, Nat.le_of_ble_eq_true rfl⟩ (show 0 < Z by have := hL.2.1.1.1; omega) hL.2.1.1.2.1 (by decide) rfl rfl hl.1 rfl (Nat.le_of_ble_eq_true rfl) dL_law_891) rfl (fun r1 H locs M1 R1 J1 hG hL => ?_)
  refine lv_pop hx hb dL_law_894 rfl ?_
  refine lv_aload_n hx hb dL_law_895 rfl (lv_at hl 1 rfl) ?_
  refine lv_aload_n hx hb dL_law_896 rfl (lv_at hl 3 rfl) ?_
  refine lv_iload_n hx hb dL_law_897 rfl (lv_at hl 0 rfl) ?_
  refine lv_iconst (v := 1) hx hb dL_law_898 (by decide) ?_
  refine lv_iadd hx hb dL_law_899 ?_
  refine va_sld hx hb hX hbl hbA hG.2.2 (hI 1 ⟨by decide, by decide⟩) dL_law_900 ?_
  refine lv_aload_n hx hb dL_law_901 rfl (lv_at hl 3 rfl) ?_
  refine lv_iload_n hx hb dL_law_902 rfl (lv_at hl 0 rfl) ?_
  refine lv_iconst (v := 2) hx hb dL_law_903 (by decide) ?_
  refine lv_iadd hx hb dL_law_904 ?_
  refine va_sld hx hb hX hbl hbA hG.2.2 (hI 2 ⟨by decide, by decide⟩) dL_law_905 ?_
  refine lv_aload_n hx hb dL_law_906 rfl (lv_at hl 3 rfl) ?_
  refine lv_iload_n hx hb dL_law_907 rfl (lv_at hl 0 rfl) ?_
  refine lv_iconst (v := 3) hx hb dL_law_908 (by decide) ?_
  refine lv_iadd hx hb dL_law_909 ?_
  refine va_sld hx hb hX hbl hbA hG.2.2 (hI 3 ⟨by decide, by decide⟩) dL_law_910 ?_
  refine lv_aload_n hx hb dL_law_911 rfl (lv_at hl 3 rfl) ?_
  refine lv_iload_n hx hb dL_law_912 rfl (lv_at hl 0 rfl) ?_
  refine lv_iconst (v := 4) hx hb dL_law_913 (by decide) ?_
  refine lv_iadd hx hb dL_law_914 ?_
  refine va_sld hx hb hX hbl hbA hG.2.2 (hI 4 ⟨by decide, by decide⟩) dL_law_915 ?_
  refine lw_goi hG hL (md_runV (As := [.int (xs (i + 1).toNatClampNeg), .int (xs (i + 2).toNatClampNeg), .int (xs (i + 3).toNatClampNeg), .int (xs (i + 4).toNatClampNeg)]) (rest := []) hx hb hml hown hW hK hT hG (t_X12_entry l D cy tx s.heap.size Z K N M1 R1 J1 hL.1.1 69 (show 69 < Z by have := hL.2.1.1.1; omega) hL.2.1.1.2.2 (xs (i + 1).toNatClampNeg) (iv_any _) (xs (i + 2).toNatClampNeg) (iv_any _) (xs (i + 3).toNatClampNeg) (iv_any _) (xs (i + 4).toNatClampNeg) (iv_any _)) s_L_112 ⟨rfl, rfl, ⟨Nat.le_of_ble_eq_true rfl, Nat.le_of_ble_eq_true rfl⟩, Nat.le_of_ble_eq_true rfl, Nat.le_of_ble_eq_true rfl⟩ (show 69 < Z by have := hL.2.1.1.1; omega) hL.2.1.1.2.2 (by decide) rfl rfl hl.1 rfl (Nat.le_of_ble_eq_true rfl) dL_law_916) rfl (fun r2 H locs M2 R2 J2 hG hL => ?_)
  refine lv_pop hx hb dL_law_919 rfl ?_
  refine lv_goto (tgt := 1157) hx hb dL_law_920 (by decide) ?_
  refine lw_tt hG hL ?_
  exact kt Z K N M2 R2 J2 H locs ls hG hL hl
set_option maxRecDepth 100000 in
set_option maxHeartbeats 4000000 in
theorem law_fits (C0 : lw_F p s m meth c b Ln xs D cy tx) {i : Int32} (hI : ∀ k : Int32, 0 ≤ k.toInt ∧ k.toInt ≤ 5 → vp_in (i + k) Ln) {Z : Nat} {K N : Nat → Nat} {M : MT} {R : RT} {J : JT} {H : Heap} {locs : List Loc} (hG : md_G D cy s.heap.size Z K N M R J s H locs) (hL : LI Z K N M R) {ls : Array Slot} (hl : lv_has ls 4 [(3, .int i), (2, .ref (s.heap.size + 69)), (1, .ref (s.heap.size + 0)), (0, .ref b)]) (kt : lw_KT p l e s m below meth c b D cy i) : W p l e room_1 s m #[Value.ref b] below meth c H locs 4000 500000 (lw_Z below #[Value.ref b] s) (F0 m 923 ls []) := by
  obtain ⟨hx, hb, hr, hml, hown, hW, hX, hbl, hlocks, hK, hT⟩ := C0
  have hbA : ¬ (fun q : Nat => s.heap.size ≤ q) b := Nat.not_le.mpr hbl
  refine lv_aload_n hx hb dL_law_923 rfl (lv_at hl 2 rfl) ?_
  refine lv_aload_n hx hb dL_law_924 rfl (lv_at hl 3 rfl) ?_
  refine lv_iload_n hx hb dL_law_925 rfl (lv_at hl 0 rfl) ?_
  refine lv_iconst (v := 1) hx hb dL_law_926 (by decide) ?_
  refine lv_iadd hx hb dL_law_927 ?_
  refine va_sld hx hb hX hbl hbA hG.2.2 (hI 1 ⟨by decide, by decide⟩) dL_law_928 ?_
  refine lv_aload_n hx hb dL_law_929 rfl (lv_at hl 3 rfl) ?_
  refine lv_iload_n hx hb dL_law_930 rfl (lv_at hl 0 rfl) ?_
  refine lv_iconst (v := 2) hx hb dL_law_931 (by decide) ?_
  refine lv_iadd hx hb dL_law_932 ?_
  refine va_sld hx hb hX hbl hbA hG.2.2 (hI 2 ⟨by decide, by decide⟩) dL_law_933 ?_
  refine lv_aload_n hx hb dL_law_934 rfl (lv_at hl 3 rfl) ?_
  refine lv_iload_n hx hb dL_law_935 rfl (lv_at hl 0 rfl) ?_
  refine lv_iconst (v := 3) hx hb dL_law_936 (by decide) ?_
  refine lv_iadd hx hb dL_law_937 ?_
  refine va_sld hx hb hX hbl hbA hG.2.2 (hI 3 ⟨by decide, by decide⟩) dL_law_938 ?_
  obtain ⟨en, ta, su, ⟨r_en, r_ta, r_su⟩, ⟨hB_en, hB_ta, hB_su⟩, -, -⟩ := hL.2.2.2.2
  refine lw_gom hG (md_runV (As := [.int (xs (i + 1).toNatClampNeg), .int (xs (i + 2).toNatClampNeg), .int (xs (i + 3).toNatClampNeg)]) (rest := []) hx hb hml hown hW hK hT hG (t_X11_fits l D cy tx s.heap.size Z K N M R J hL.1.1 0 (show 0 < Z by have := hL.2.1.1.1; omega) hL.2.1.1.2.1 (xs (i + 1).toNatClampNeg) (iv_any _) (xs (i + 2).toNatClampNeg) (iv_any _) (xs (i + 3).toNatClampNeg) (iv_any _) 4 hL.2.1.2.1.1 61 hL.2.1.2.1.2.2.2 hL.2.1.2.2.1.2 en r_en ta r_ta su r_su hB_en hB_ta hB_su) s_L_113 ⟨rfl, rfl, ⟨Nat.le_of_ble_eq_true rfl, Nat.le_of_ble_eq_true rfl⟩, Nat.le_of_ble_eq_true rfl, Nat.le_of_ble_eq_true rfl⟩ (show 0 < Z by have := hL.2.1.1.1; omega) hL.2.1.1.2.1 (by decide) rfl rfl hl.1 rfl (Nat.le_of_ble_eq_true rfl) dL_law_939) (fun r1 H locs Z1 K1 N1 M1 R1 J1 hG ht hE => ?_)
  have hL : LI Z1 K1 N1 M1 R1 := LI.books hL ht hE.2 rfl rfl rfl rfl
  refine lv_pop hx hb dL_law_942 rfl ?_
  refine lv_aload_n hx hb dL_law_943 rfl (lv_at hl 1 rfl) ?_
  refine lv_aload_n hx hb dL_law_944 rfl (lv_at hl 3 rfl) ?_
  refine lv_iload_n hx hb dL_law_945 rfl (lv_at hl 0 rfl) ?_
  refine lv_iconst (v := 1) hx hb dL_law_946 (by decide) ?_
  refine lv_iadd hx hb dL_law_947 ?_
  refine va_sld hx hb hX hbl hbA hG.2.2 (hI 1 ⟨by decide, by decide⟩) dL_law_948 ?_
  refine lv_aload_n hx hb dL_law_949 rfl (lv_at hl 3 rfl) ?_
  refine lv_iload_n hx hb dL_law_950 rfl (lv_at hl 0 rfl) ?_
  refine lv_iconst (v := 2) hx hb dL_law_951 (by decide) ?_
  refine lv_iadd hx hb dL_law_952 ?_
  refine va_sld hx hb hX hbl hbA hG.2.2 (hI 2 ⟨by decide, by decide⟩) dL_law_953 ?_
  refine lv_aload_n hx hb dL_law_954 rfl (lv_at hl 3 rfl) ?_
  refine lv_iload_n hx hb dL_law_955 rfl (lv_at hl 0 rfl) ?_
  refine lv_iconst (v := 3) hx hb dL_law_956 (by decide) ?_
  refine lv_iadd hx hb dL_law_957 ?_
  refine va_sld hx hb hX hbl hbA hG.2.2 (hI 3 ⟨by decide, by decide⟩) dL_law_958 ?_
  refine lw_goi hG hL (md_runV (As := [.int (xs (i + 1).toNatClampNeg), .int (xs (i + 2).toNatClampNeg), .int (xs (i + 3).toNatClampNeg)]) (rest := []) hx hb hml hown hW hK hT hG (t_X12_fits l D cy tx s.heap.size Z1 K1 N1 M1 R1 J1 hL.1.1 69 (show 69 < Z1 by have := hL.2.1.1.1; omega) hL.2.1.1.2.2 (xs (i + 1).toNatClampNeg) (iv_any _) (xs (i + 2).toNatClampNeg) (iv_any _) (xs (i + 3).toNatClampNeg) (iv_any _)) s_L_116 ⟨rfl, rfl, ⟨Nat.le_of_ble_eq_true rfl, Nat.le_of_ble_eq_true rfl⟩, Nat.le_of_ble_eq_true rfl, Nat.le_of_ble_eq_true rfl⟩ (show 69 < Z1 by have := hL.2.1.1.1; omega) hL.2.1.1.2.2 (by decide) rfl rfl hl.1 rfl (Nat.le_of_ble_eq_true rfl) dL_law_959) rfl (fun r2 H locs M2 R2 J2 hG hL => ?_)
  refine lv_pop hx hb dL_law_962 rfl ?_
  refine lv_goto (tgt := 1157) hx hb dL_law_963 (by decide) ?_
  refine lw_tt hG hL ?_
  exact kt Z1 K1 N1 M2 R2 J2 H locs ls hG hL hl
end LAWC16
