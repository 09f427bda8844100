set_option maxRecDepth 100000 in
set_option maxHeartbeats 8000000 in
/-- from the dispatch on -/
theorem law_sw {p : Program} {l : Launch} {e : Env} {s : State} {m : MethodId} {below : List Frame} {meth : Method} {c : Code} {b Ln : Nat} {xs : Nat → Int32} {D : va_G} {cy : Nat → ClassId} {tx : (Nat → Nat) × (Nat → Nat)} (C0 : lw_F p s m meth c b Ln xs D cy tx) {i : Int32} (hI : ∀ k : Int32, 0 ≤ k.toInt ∧ k.toInt ≤ 5 → vp_in (i + k) Ln) (h0 : vp_in i Ln) {Z : Nat} {K N : Nat → Nat} {M : MT} {R : RT} {J : JT} {H : Heap} {locs : List Loc} (hG : md_G D cy s.heap.size Z K N M R J s H locs) (hL : LI Z K N M R) {ls : Array Slot} (hl : lv_has ls 4 [(3, .int i), (2, .ref (s.heap.size + 69)), (1, .ref (s.heap.size + 0)), (0, .ref b)]) (kt : lw_KT p l e s m below meth c b D cy i) : W p l e room_1 s m #[Value.ref b] below meth c H locs 4000 500000 (lw_Z below #[Value.ref b] s) (F0 m 27 ls []) := by
      have C1 := C0
      obtain ⟨hx, hb, hr, hml, hown, hW, hX, hbl, hlocks, hK, hT⟩ := C1
      have hbA : ¬ (fun q : Nat => s.heap.size ≤ q) b := Nat.not_le.mpr hbl
      refine lv_aload_n hx hb dL_law_27 rfl (lv_at hl 3 rfl) ?_
      refine lv_iload_n hx hb dL_law_28 rfl (lv_at hl 0 rfl) ?_
      refine va_sld hx hb hX hbl hbA hG.2.2 h0 dL_law_29 ?_
      refine lv_bipush (v := 31) hx hb dL_law_30 (by decide) ?_
      refine lv_iand hx hb dL_law_32 ?_
      obtain ⟨j, hj, ej⟩ := pk_andE (xs i.toNatClampNeg) (m := 31) 5 (by decide)
      refine md_top ej ?_
      clear ej
      rcases (show j = 0 ∨ j = 1 ∨ j = 2 ∨ j = 3 ∨ j = 4 ∨ j = 5 ∨ j = 6 ∨ j = 7 ∨ j = 8 ∨ j = 9 ∨ j = 10 ∨ j = 11 ∨ j = 12 ∨ j = 13 ∨ j = 14 ∨ j = 15 ∨ j = 16 ∨ j = 17 ∨ j = 18 ∨ j = 19 ∨ j = 20 ∨ j = 21 ∨ j = 22 ∨ j = 23 ∨ j = 24 ∨ j = 25 ∨ j = 26 ∨ j = 27 ∨ j = 28 ∨ j = 29 ∨ j = 30 ∨ j = 31 by omega) with rfl | rfl | rfl | rfl | rfl | rfl | rfl | rfl | rfl | rfl | rfl | rfl | rfl | rfl | rfl | rfl | rfl | rfl | rfl | rfl | rfl | rfl | rfl | rfl | rfl | rfl | rfl | rfl | rfl | rfl | rfl | rfl
      · refine lv_tableIn (off := 139) (tgt := 172) hx hb dL_law_33 (by decide) (by decide) rfl (by decide) ?_
        exact law_feed C0 hI hG hL hl kt
      · refine lv_tableIn (off := 202) (tgt := 235) hx hb dL_law_33 (by decide) (by decide) rfl (by decide) ?_
        exact law_end C0 hI hG hL hl kt
      · refine lv_tableIn (off := 225) (tgt := 258) hx hb dL_law_33 (by decide) (by decide) rfl (by decide) ?_
        exact law_council C0 hI hG hL hl kt
      · refine lv_tableIn (off := 238) (tgt := 271) hx hb dL_law_33 (by decide) (by decide) rfl (by decide) ?_
        exact law_rule C0 hI hG hL hl kt
      · refine lv_tableIn (off := 251) (tgt := 284) hx hb dL_law_33 (by decide) (by decide) rfl (by decide) ?_
        exact law_voice C0 hI hG hL hl kt
      · refine lv_tableIn (off := 284) (tgt := 317) hx hb dL_law_33 (by decide) (by decide) rfl (by decide) ?_
        exact law_worth C0 hI hG hL hl kt
      · refine lv_tableIn (off := 317) (tgt := 350) hx hb dL_law_33 (by decide) (by decide) rfl (by decide) ?_
        exact law_bend C0 hI hG hL hl kt
      · refine lv_tableIn (off := 350) (tgt := 383) hx hb dL_law_33 (by decide) (by decide) rfl (by decide) ?_
        exact law_attends C0 hI hG hL hl kt
      · refine lv_tableIn (off := 399) (tgt := 432) hx hb dL_law_33 (by decide) (by decide) rfl (by decide) ?_
        exact law_beside C0 hI hG hL hl kt
      · refine lv_tableIn (off := 432) (tgt := 465) hx hb dL_law_33 (by decide) (by decide) rfl (by decide) ?_
        exact law_says C0 hI hG hL hl kt
      · refine lv_tableIn (off := 465) (tgt := 498) hx hb dL_law_33 (by decide) (by decide) rfl (by decide) ?_
        exact law_vote C0 hI hG hL hl kt
      · refine lv_tableIn (off := 488) (tgt := 521) hx hb dL_law_33 (by decide) (by decide) rfl (by decide) ?_
        exact law_bench C0 hI hG hL hl kt
      · refine lv_tableIn (off := 521) (tgt := 554) hx hb dL_law_33 (by decide) (by decide) rfl (by decide) ?_
        exact law_order C0 hI hG hL hl kt
      · refine lv_tableIn (off := 544) (tgt := 577) hx hb dL_law_33 (by decide) (by decide) rfl (by decide) ?_
        exact law_ordered C0 hI hG hL hl kt
      · refine lv_tableIn (off := 567) (tgt := 600) hx hb dL_law_33 (by decide) (by decide) rfl (by decide) ?_
        exact law_day C0 hI hG hL hl kt
      · refine lv_tableIn (off := 580) (tgt := 613) hx hb dL_law_33 (by decide) (by decide) rfl (by decide) ?_
        exact law_open C0 hI hG hL hl kt
      · refine lv_tableIn (off := 623) (tgt := 656) hx hb dL_law_33 (by decide) (by decide) rfl (by decide) ?_
        exact law_lose C0 hI hG hL hl kt
      · refine lv_tableIn (off := 646) (tgt := 679) hx hb dL_law_33 (by decide) (by decide) rfl (by decide) ?_
        exact law_plan C0 hI hG hL hl kt
      · refine lv_tableIn (off := 689) (tgt := 722) hx hb dL_law_33 (by decide) (by decide) rfl (by decide) ?_
        exact law_spoilers C0 hI hG hL hl kt
      · refine lv_tableIn (off := 712) (tgt := 745) hx hb dL_law_33 (by decide) (by decide) rfl (by decide) ?_
        exact law_sides C0 hI hG hL hl kt
      · refine lv_tableIn (off := 755) (tgt := 788) hx hb dL_law_33 (by decide) (by decide) rfl (by decide) ?_
        exact law_chair C0 hI hG hL hl kt
      · refine lv_tableIn (off := 814) (tgt := 847) hx hb dL_law_33 (by decide) (by decide) rfl (by decide) ?_
        exact law_rounds C0 hI hG hL hl kt
      · refine lv_tableIn (off := 837) (tgt := 870) hx hb dL_law_33 (by decide) (by decide) rfl (by decide) ?_
        exact law_entry C0 hI hG hL hl kt
      · refine lv_tableIn (off := 890) (tgt := 923) hx hb dL_law_33 (by decide) (by decide) rfl (by decide) ?_
        exact law_fits C0 hI hG hL hl kt
      · refine lv_tableIn (off := 933) (tgt := 966) hx hb dL_law_33 (by decide) (by decide) rfl (by decide) ?_
        exact law_tells C0 hI hG hL hl kt
      · refine lv_tableIn (off := 966) (tgt := 999) hx hb dL_law_33 (by decide) (by decide) rfl (by decide) ?_
        exact law_seed C0 hI hG hL hl kt
      · refine lv_tableIn (off := 989) (tgt := 1022) hx hb dL_law_33 (by decide) (by decide) rfl (by decide) ?_
        exact law_year C0 hI hG hL hl kt
      · refine lv_tableIn (off := 1032) (tgt := 1065) hx hb dL_law_33 (by decide) (by decide) rfl (by decide) ?_
        exact law_status C0 hI hG hL hl kt
      · refine lv_tableIn (off := 1055) (tgt := 1088) hx hb dL_law_33 (by decide) (by decide) rfl (by decide) ?_
        exact law_count C0 hI hG hL hl kt
      · refine lv_tableIn (off := 1078) (tgt := 1111) hx hb dL_law_33 (by decide) (by decide) rfl (by decide) ?_
        exact law_image C0 hI hG hL hl kt
      · refine lv_tableIn (off := 1101) (tgt := 1134) hx hb dL_law_33 (by decide) (by decide) rfl (by decide) ?_
        exact law_back C0 hI hG hL hl kt
      · refine lv_tableOut (tgt := 1157) hx hb dL_law_33 (by decide) (by decide) ?_
        exact kt Z K N M R J H locs ls hG hL hl
set_option maxRecDepth 100000 in
set_option maxHeartbeats 4000000 in
/-- the loop -/
theorem law_head {p : Program} {l : Launch} {e : Env} {s : State} {m : MethodId} {below : List Frame} {meth : Method} {c : Code} {b Ln : Nat} {xs : Nat → Int32} {D : va_G} {cy : Nat → ClassId} {tx : (Nat → Nat) × (Nat → Nat)} (C0 : lw_F p s m meth c b Ln xs D cy tx) (hLn : Ln ≤ 3072) : ∀ (n : Nat) (i : Int32), 0 ≤ i.toInt ∧ i.toInt ≤ 3078 → (Ln : Int) - i.toInt < (n : Int) → ∀ (Z : Nat) (K N : Nat → Nat) (M : MT) (R : RT) (J : JT) (H : Heap) (locs : List Loc) (ls : Array Slot), md_G D cy s.heap.size Z K N M R J s H locs → LI Z K N M R → lv_has ls 4 [(3, .int i), (2, .ref (s.heap.size + 69)), (1, .ref (s.heap.size + 0)), (0, .ref b)] → W p l e room_1 s m #[Value.ref b] below meth c H locs 4000 500000 (lw_Z below #[Value.ref b] s) (F0 m 18 ls []) := by
  have C1 := C0
  obtain ⟨hx, hb, hr, hml, hown, hW, hX, hbl, hlocks, hK, hT⟩ := C1
  have hbA : ¬ (fun q : Nat => s.heap.size ≤ q) b := Nat.not_le.mpr hbl
  have e6 : (6 : Int32).toInt = 6 := by decide
  have eL := i32_ofNat (n := Ln) (by omega)
  have eS : (Int32.ofNat Ln - 6).toInt = (Ln : Int) - 6 := by
    rw [ti_sub (by rw [eL, e6]; omega) (by rw [eL, e6]; omega), eL, e6]
  intro n
  induction n with
  | zero =>
    intro i hi hm Z K N M R J H locs ls hG hL hl
    refine lv_iload_n hx hb dL_law_18 rfl (lv_at hl 0 rfl) ?_
    refine lv_aload_n hx hb dL_law_19 rfl (lv_at hl 3 rfl) ?_
    refine va_slen hx hb hX hbl hbA hG.2.2 dL_law_20 ?_
    refine lv_bipush (v := 6) hx hb dL_law_21 (by decide) ?_
    refine lv_isub hx hb dL_law_23 ?_
    refine lv_icmp_gt (tgt := 1163) hx hb dL_law_24 (by decide) (fun _ => ?_) (fun h9 => ?_)
    · refine lv_iconst (v := 1) hx hb dL_law_1163 (by decide) ?_
      refine va_forget (fun q hq => hG.2.2.2.2 q hq) ?_
      refine W.widen (k := 600000) (n := 7302250) (Nat.le_of_ble_eq_true rfl) (Nat.le_of_ble_eq_true rfl) ?_
      exact lw_ret hx hb hr hlocks dL_law_1164
    · exfalso
      have h9 := ti_nlt h9
      rw [eS] at h9
      omega
  | succ n ih =>
    intro i hi hm Z K N M R J H locs ls hG hL hl
    refine lv_iload_n hx hb dL_law_18 rfl (lv_at hl 0 rfl) ?_
    refine lv_aload_n hx hb dL_law_19 rfl (lv_at hl 3 rfl) ?_
    refine va_slen hx hb hX hbl hbA hG.2.2 dL_law_20 ?_
    refine lv_bipush (v := 6) hx hb dL_law_21 (by decide) ?_
    refine lv_isub hx hb dL_law_23 ?_
    refine lv_icmp_gt (tgt := 1163) hx hb dL_law_24 (by decide) (fun _ => ?_) (fun h9 => ?_)
    · refine lv_iconst (v := 1) hx hb dL_law_1163 (by decide) ?_
      refine va_forget (fun q hq => hG.2.2.2.2 q hq) ?_
      refine W.widen (k := 600000) (n := 7302250) (Nat.le_of_ble_eq_true rfl) (Nat.le_of_ble_eq_true rfl) ?_
      exact lw_ret hx hb hr hlocks dL_law_1164
    · have h9 := ti_nlt h9
      rw [eS] at h9
      have kt : lw_KT p l e s m below meth c b D cy i := fun Z K N M R J H locs ls hG hL hl => by
        refine lv_iinc (v := i + 6) (lv' := [(3, .int (i + 6)), (2, .ref (s.heap.size + 69)), (1, .ref (s.heap.size + 0)), (0, .ref b)]) hx hb dL_law_1157 hl (k := 0) rfl rfl (by decide) rfl (fun ls hl => ?_)
        refine lv_goto (tgt := 18) hx hb dL_law_1160 (by decide) ?_
        have ea := ti_add (x := i) (y := 6) (by rw [e6]; omega) (by rw [e6]; omega)
        rw [e6] at ea
        exact ih (i + 6) ⟨by omega, by omega⟩ (by omega) Z K N M R J H locs ls hG hL hl
      exact law_sw C0 (fun k hk => sc_in hLn ⟨hi.1, by omega⟩ hk) (ti_in hi.1 (by omega)) hG hL hl kt
