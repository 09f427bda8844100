def KX (a : Nat) : Nat := ([11, 13, 14, 18, 10, 14, 20, 14, 14, 14, 21, 14, 17, 6, 3, 10, 14, 20, 14, 14, 14, 21, 14, 9, 14, 4, 20, 14, 14, 7, 19, 20, 20, 20, 20, 14, 14, 14, 22, 22, 15, 14, 5, 19, 20, 20, 20, 20, 20, 14, 2, 19, 20, 20, 20, 20, 20, 20, 20, 21, 21, 1, 37, 29, 14, 14, 38, 39, 40, 12, 13, 25, 26, 27, 28, 14, 35, 14, 14, 15, 15, 23, 14, 30, 31, 14, 14, 36, 41, 14, 14, 14, 14, 14, 14, 14, 33, 14, 14, 14, 14, 14, 24, 16] : List Nat).getD a 0
def NX (a : Nat) : Nat := ([0, 400, 2, 4, 0, 120, 10, 10, 10, 10, 8, 48, 6, 0, 0, 0, 120, 10, 10, 10, 10, 8, 48, 0, 400, 0, 10, 3010, 10, 0, 4, 10, 10, 10, 10, 27, 27, 108, 4, 4, 6144, 2048, 0, 5, 10, 10, 10, 10, 10, 4, 0, 7, 10, 10, 10, 10, 10, 10, 10, 6, 6, 0, 10, 10, 10, 10, 64, 128, 64, 0, 400, 2400, 7, 216, 6, 120, 10, 10, 400, 64, 10, 226, 2, 10, 8, 10, 10, 60, 5, 6, 5, 5, 5, 6561, 6561, 6, 6, 3010, 3010, 301, 10, 50001, 904, 4] : List Nat).getD a 0
def M0 : Nat → Nat → Int32 := fun _ _ => 0
def R0 : Nat → Nat → Option Nat := fun _ _ => none
def J0 : Nat → Nat → Int64 := fun _ _ => 0
def md_tm (i : Nat) : Term := ([.string "VoicesLost$CouncilText" 51, .string "VoicesLost$RuleText" 104, .string "VoicesLost$RuleText" 30, .string "VoicesLost$RuleText" 46, .string "VoicesLost$RuleText" 78, .string "VoicesLost$RuleText" 80] : List Term).getD i (.arg 0)
def md_nar : List Cond := flatC (Jvm.Cond.and given_1 narrow_1)
theorem nar_ex : ∀ i, i < 6 → Cond.exactly (md_tm i) "java/lang/String" ∈ md_nar := by decide +kernel
theorem nar_co : ∀ i, i < 6 → Cond.eq (.field (md_tm i) "java/lang/String" "coder" "B") (.int 0) ∈ md_nar := by decide +kernel
theorem nar_ar : ∀ i, i < 6 → Cond.arrayOf (.field (md_tm i) "java/lang/String" "value" "[B") .byte ∈ md_nar := by decide +kernel
theorem nar_le : ∀ i, i < 6 → Cond.eq (.length (.field (md_tm i) "java/lang/String" "value" "[B")) (.int (Int32.ofNat (md_sl.getD i 0))) ∈ md_nar := by decide +kernel
theorem nar_el : ∀ i, i < 6 → ∀ j, j < md_sl.getD i 0 → Cond.eq (.elem (.field (md_tm i) "java/lang/String" "value" "[B") (.int (Int32.ofNat j))) (.int ((md_sb.getD i []).getD j 0)) ∈ md_nar := by decide +kernel
theorem nar_ne : ∀ i, i < 6 → ∀ j, j < 6 → i ≠ j → Cond.not (Cond.eq (md_tm i) (md_tm j)) ∈ md_nar ∨ Cond.not (Cond.eq (md_tm j) (md_tm i)) ∈ md_nar := by decide +kernel
theorem nar_cs : Cond.eq (.static "java/lang/String" "COMPACT_STRINGS" "Z") (.int 1) ∈ md_nar := by decide +kernel
theorem nar_fm : Cond.isRef (.static "jdk/internal/util/Preconditions" "SIOOBE_FORMATTER" "Ljava/util/function/BiFunction;") ∈ md_nar := by decide +kernel
def md_sy (j : Nat) : Int32 := ([1, 0, 2] : List Int32).getD j 0
theorem nar_sa : Cond.arrayOf (.static "VoicesLost" "SAYINGS" "[I") .int ∈ md_nar := by decide +kernel
theorem nar_sl : Cond.eq (.length (.static "VoicesLost" "SAYINGS" "[I")) (.int (Int32.ofNat 3)) ∈ md_nar := by decide +kernel
theorem nar_se : ∀ j, j < 3 → Cond.eq (.elem (.static "VoicesLost" "SAYINGS" "[I") (.int (Int32.ofNat j))) (.int (md_sy j)) ∈ md_nar := by decide +kernel
set_option maxRecDepth 100000 in
set_option maxHeartbeats 4000000 in
theorem md_T_start {s : State} {b : Nat} (hts : ∀ w ∈ lw_tbl, w.before #[Value.ref b] s = true) (hgv : (Jvm.Cond.and given_1 narrow_1).before #[Value.ref b] s = true) : ∃ tx : (Nat → Nat) × (Nat → Nat), md_T tx s.heap.size s := by
  have hs := flat_of_before _ hgv
  have hA : ∀ a : Nat, a < s.heap.size → ¬ s.heap.size ≤ a := fun a h => Nat.not_le.mpr h
  obtain ⟨adK, adV, hS, he⟩ := vk_Sof (args := #[Value.ref b]) (s := s) (N := 6) (tm := md_tm) (len := md_sl) (byt := md_sb) (A := fun q => s.heap.size ≤ q) (by decide) (fun i hi => hs _ (nar_ex i hi)) (fun i hi => hs _ (nar_co i hi)) (fun i hi => hs _ (nar_ar i hi)) (fun i hi => hs _ (nar_le i hi)) (fun i hi j hj => hs _ (nar_el i hi j hj)) (fun i j hi hj hij => (nar_ne i hi j hj hij).elim (fun h => Or.inl (hs _ h)) (fun h => Or.inr (hs _ h))) hA
  obtain ⟨t, ht1, ht2⟩ := va_Tof (args := #[Value.ref b]) (s := s) (tm := (.static "VoicesLost" "SAYINGS" "[I")) (ty := .int) (N := 3) (f := fun j => .int (md_sy j)) (A := fun q => s.heap.size ≤ q) (by decide) (hs _ nar_sa) (va_eqt (hs _ nar_sl)) (fun j hj => va_eqt (hs _ (nar_se j hj))) hA
  exact ⟨(adK, adV), hS, ⟨vk_R.of (hts _ (tb_3 _ (List.mem_of_getElem? (i := 108) rfl))) (he 0 (by decide)), vk_R.of (hts _ (tb_4 _ (List.mem_of_getElem? (i := 44) rfl))) (he 1 (by decide)), vk_R.of (hts _ (tb_4 _ (List.mem_of_getElem? (i := 1) rfl))) (he 2 (by decide)), vk_R.of (hts _ (tb_4 _ (List.mem_of_getElem? (i := 11) rfl))) (he 3 (by decide)), vk_R.of (hts _ (tb_4 _ (List.mem_of_getElem? (i := 57) rfl))) (he 4 (by decide)), vk_R.of (hts _ (tb_4 _ (List.mem_of_getElem? (i := 20) rfl))) (he 5 (by decide))⟩, va_Zof (hts _ (tb_3 _ (List.mem_of_getElem? (i := 124) rfl))) (hts _ w_1_14) (va_eqi (hs _ nar_cs)) hA, va_Zqof (hts _ (tb_3 _ (List.mem_of_getElem? (i := 140) rfl))) (hts _ w_1_16) (hs _ nar_fm) hA, t, md_sy, va_Zref (hts _ (tb_5 _ (List.mem_of_getElem? (i := 84) rfl))) (hts _ (tb_1 _ (List.mem_of_getElem? (i := 1) rfl))) ht1 hA, ht2⟩
set_option maxRecDepth 100000 in
set_option maxHeartbeats 4000000 in
theorem md_K_start {s : State} {b : Nat} (hts : ∀ w ∈ lw_tbl, w.before #[Value.ref b] s = true) : ∃ (D : va_G) (cy : Nat → ClassId), md_K D cy s := by
  obtain ⟨c0, i0, hn0⟩ := u_known (C := RX0) (T := TX0) (N := 13) (n := 13) hts ly_X0 (hts _ w_2_203)
  obtain ⟨c1, i1, hn1⟩ := u_known (C := RX1) (T := TX1) (N := 9) (n := 9) hts ly_X1 (hts _ w_2_168)
  obtain ⟨c2, i2, hn2⟩ := u_known (C := RX2) (T := TX2) (N := 7) (n := 7) hts ly_X2 (hts _ w_1_211)
  obtain ⟨c3, i3, hn3⟩ := u_known (C := RX3) (T := TX3) (N := 10) (n := 10) hts ly_X3 (hts _ w_2_36)
  obtain ⟨c4, i4, hn4⟩ := u_known (C := RX4) (T := TX4) (N := 8) (n := 8) hts ly_X4 (hts _ w_2_135)
  obtain ⟨c5, i5, hn5⟩ := u_known (C := RX5) (T := TX5) (N := 15) (n := 15) hts ly_X5 (hts _ w_1_148)
  obtain ⟨c6, i6, hn6⟩ := u_known (C := RX6) (T := TX6) (N := 15) (n := 15) hts ly_X6 (hts _ w_2_79)
  obtain ⟨c7, i7, hn7⟩ := u_known (C := RX7) (T := TX7) (N := 2) (n := 2) hts ly_X7 (hts _ w_4_68)
  obtain ⟨c8, i8, hn8⟩ := u_known (C := RX8) (T := TX8) (N := 8) (n := 8) hts ly_X8 (hts _ w_2_13)
  obtain ⟨c9, i9, hn9⟩ := u_known (C := RX9) (T := TX9) (N := 16) (n := 16) hts ly_X9 (hts _ w_1_31)
  obtain ⟨c10, i10, hn10⟩ := u_known (C := RX11) (T := TX11) (N := 15) (n := 15) hts ly_X11 (hts _ w_1_22)
  obtain ⟨c11, i11, hn11⟩ := u_known (C := RX12) (T := TX12) (N := 55) (n := 55) hts ly_X12 (hts _ w_6_34)
  obtain ⟨aB, kB, mB, fB, gB, eB⟩ := Cond.arrayClass_spec (hts _ w_1_143)
  obtain ⟨aI, kI, mI, fI, gI, eI⟩ := Cond.arrayClass_spec (hts _ w_1_144)
  obtain ⟨aJ, kJ, mJ, fJ, gJ, eJ⟩ := Cond.arrayClass_spec (hts _ w_2_133)
  obtain ⟨aZ, kZ, mZ, fZ, gZ, eZ⟩ := Cond.arrayClass_spec (hts _ w_6_206)
  have o7 := va_AO.of (hts _ (tb_1 _ (List.mem_of_getElem? (i := 146) rfl)))
  have o9 := va_AO.of (hts _ (tb_1 _ (List.mem_of_getElem? (i := 30) rfl)))
  have oA : va_AOA .int s := hts _ (tb_2 _ (List.mem_of_getElem? (i := 85) rfl))
  obtain ⟨p7, a7, k7, u7, -, g7, e7, f7⟩ := Cond.arrayOver_spec o7
  obtain ⟨p9, a9, k9, u9, -, g9, e9, f9⟩ := Cond.arrayOver_spec o9
  obtain ⟨pA, aA, kA, uA, -, gA, eA, fA⟩ := arrayOverA_spec oA
  refine ⟨(fun k => ([c0, c1, c2, c3, c4, c5, c6, c7, c8, c9, c10, c11] : List ClassId).getD k c0, fun k => ([i0, i1, i2, i3, i4, i5, i6, i7, i8, i9, i10, i11] : List (Nat → Nat)).getD k i0), fun t => ([aB, aI, aJ, aZ, a7, a9, aA] : List ClassId).getD (t - 13) aB, ⟨?_, ?_⟩, fun w hw hg a' => word_at (State.WarmedH.refl s) (good_of_word hg) (hts w hw), ⟨va_Nw.of rfl (hts _ (tb_1 _ (List.mem_of_getElem? (i := 32) rfl))), va_Nw.of rfl (hts _ (tb_1 _ (List.mem_of_getElem? (i := 212) rfl))), va_Nw.of rfl (hts _ (tb_2 _ (List.mem_of_getElem? (i := 14) rfl))), va_Nw.of rfl (hts _ (tb_1 _ (List.mem_of_getElem? (i := 220) rfl))), va_Nw.of rfl (hts _ (tb_1 _ (List.mem_of_getElem? (i := 215) rfl))), va_Nw.of rfl (hts _ (tb_2 _ (List.mem_of_getElem? (i := 17) rfl))), va_Nw.of rfl (hts _ (tb_5 _ (List.mem_of_getElem? (i := 107) rfl))), va_Nw.of rfl (hts _ (tb_5 _ (List.mem_of_getElem? (i := 83) rfl)))⟩, o7, o9, oA⟩
  · intro k q hq
    match k, hq with
    | 0, hq => cases hq; exact hn0
    | 1, hq => cases hq; exact hn1
    | 2, hq => cases hq; exact hn2
    | 3, hq => cases hq; exact hn3
    | 4, hq => cases hq; exact hn4
    | 5, hq => cases hq; exact hn5
    | 6, hq => cases hq; exact hn6
    | 7, hq => cases hq; exact hn7
    | 8, hq => cases hq; exact hn8
    | 9, hq => cases hq; exact hn9
    | 10, hq => cases hq; exact hn10
    | 11, hq => cases hq; exact hn11
    | k + 12, hq => exact absurd hq (by simp [vwCl])
  · intro k q hq
    match k, hq with
    | 0, hq => cases hq; exact ⟨fun n z => ⟨(fun q h => by cases h), kB, gB, mB, eB⟩, fB⟩
    | 1, hq => cases hq; exact ⟨fun n z => ⟨(fun q h => by cases h), kI, gI, mI, eI⟩, fI⟩
    | 2, hq => cases hq; exact ⟨fun n z => ⟨(fun q h => by cases h), kJ, gJ, mJ, eJ⟩, fJ⟩
    | 3, hq => cases hq; exact ⟨fun n z => ⟨(fun q h => by cases h), kZ, gZ, mZ, eZ⟩, fZ⟩
    | 4, hq => cases hq; exact ⟨fun n z => ⟨(fun q h => by cases h), k7, g7, p7, e7⟩, k7, p7, g7, e7, u7, f7⟩
    | 5, hq => cases hq; exact ⟨fun n z => ⟨(fun q h => by cases h), k9, g9, p9, e9⟩, k9, p9, g9, e9, u9, f9⟩
    | 6, hq => cases hq; exact ⟨fun n z => ⟨(fun q h => by cases h), kA, gA, pA, eA⟩, fA⟩
    | k + 7, hq => exact absurd hq (by simp [md_tys])
