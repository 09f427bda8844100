set_option maxRecDepth 100000 in
set_option maxHeartbeats 4000000 in
theorem c_X12_seed (l : Launch) (D : va_G) (cy : Nat → ClassId) (tx : (Nat → Nat) × (Nat → Nat)) (base Z : Nat) (K N : Nat → Nat) (M : Nat → Nat → Int32) (R : Nat → Nat → Option Nat) (J : Nat → Nat → Int64) (hZ : 104 ≤ Z) (hK69 : K 69 = 12) (hR69_26 : R 69 26 = some 82) (hK82 : K 82 = 14) (hN82 : N 82 = 2) (hM82_0 : M 82 0 = 0) (p1 : Int32) (h1 : ¬ 0 ≤ p1) : Met l yX12_seed [Cond.code yX12_seed cX12_seed 3 (some .int)] (md_rm 2 0 0) (va_Pc [.ref (base + 69), .int p1] (md_U D cy tx base Z K N M R J)) (mQi D cy tx base (fun r u => r = (-2) ∧ u = (Z, K, N, (u2 M 82 0 1), R, J))) 0 0 (fun q => base ≤ q) := by
  refine Met.ofW (cc := cX12_seed) (maxL := 3) (ret := (some .int)) (by decide) rfl ?_
  intro p e s m args below meth c s₁ B hml hv
  have hW : ∀ w ∈ lw_tbl, goodWord w = true → w.before args s = true := fun w h g => hv.2.2.2.1.2.1 w h g _
  obtain ⟨rfl, hU⟩ := hv
  have hx := B.exec
  have hb := B.bytes
  have hr := B.returns
  have hlocks := B.notSynchronized
  have hown : s.vm.findClass RX12 = some m.cls := findClass_of_methodNamed B.named
  have hK := hU.2.2.1
  have hT := hU.2.2.2
  have hG := md_G.start hU
  have hl := lv_entry ([.ref (base + 69), .int p1]) (n := 3) (Nat.le_of_ble_eq_true rfl)
  rw [lg_entry_eq]
  generalize (lg_sl ([.ref (base + 69), .int p1]) ++ List.replicate (3 - (lg_sl ([.ref (base + 69), .int p1])).length) Slot.unset).toArray = ls at hl ⊢
  have hl : lv_has ls 3 [(0, .ref (base + 69)), (1, .int p1)] := hl
  refine lv_iload_n hx hb dX12_seed_0 rfl (lv_at hl 1 rfl) ?_
  refine lv_if_ge (tgt := 10) hx hb dX12_seed_1 (by decide) (fun h => absurd h h1) (fun _ => ?_)
  refine lv_aload_n hx hb dX12_seed_4 rfl (lv_at hl 0 rfl) ?_
  refine lv_iconst (v := 0) hx hb dX12_seed_5 (by decide) ?_
  refine md_goi hG (md_runV (As := [.int 0]) (rest := []) hx hb hml hown hW hK hT hG (c_X12_refuses l D cy tx base  Z  K N M R J hZ hK69 hR69_26 hK82 hN82 hM82_0 ) s_X12_338 ⟨rfl, rfl, ⟨Nat.le_of_ble_eq_true rfl, Nat.le_of_ble_eq_true rfl⟩, ⟨Nat.le_of_ble_eq_true rfl, Nat.le_of_ble_eq_true rfl⟩⟩ (Nat.lt_of_lt_of_le (by decide) hZ) hK69 (by decide) rfl rfl hl.1 rfl (Nat.le_of_ble_eq_true rfl) dX12_seed_6) (fun r u H locs hp hG => ?_)
  obtain ⟨rfl, rfl⟩ := hp
  have hG : md_G D cy base Z K N (u2 M 82 0 1) R J s H locs := hG
  exact md_endi hx hb hr hlocks hK hT hG (⟨rfl, rfl⟩) dX12_seed_9
set_option maxRecDepth 100000 in
set_option maxHeartbeats 4000000 in
theorem c_X12_seed_2 (l : Launch) (D : va_G) (cy : Nat → ClassId) (tx : (Nat → Nat) × (Nat → Nat)) (base Z : Nat) (K N : Nat → Nat) (M : Nat → Nat → Int32) (R : Nat → Nat → Option Nat) (J : Nat → Nat → Int64) (hZ : 104 ≤ Z) (hK69 : K 69 = 12) (hR69_25 : R 69 25 = some 81) (hK81 : K 81 = 14) (hN81 : N 81 = 226) (hM81_6 : M 81 6 = 0) (p1 : Int32) (h1 : 0 ≤ p1) : Met l yX12_seed [Cond.code yX12_seed cX12_seed 3 (some .int)] (md_rm 1 0 0) (va_Pc [.ref (base + 69), .int p1] (md_U D cy tx base Z K N M R J)) (mQi D cy tx base (fun r u => r = 0 ∧ u = (Z, K, N, (u2 M 81 6 p1), R, J))) 0 0 (fun q => base ≤ q) := by
  refine Met.ofW (cc := cX12_seed) (maxL := 3) (ret := (some .int)) (by decide) rfl ?_
  intro p e s m args below meth c s₁ B hml hv
  have hW : ∀ w ∈ lw_tbl, goodWord w = true → w.before args s = true := fun w h g => hv.2.2.2.1.2.1 w h g _
  obtain ⟨rfl, hU⟩ := hv
  have hx := B.exec
  have hb := B.bytes
  have hr := B.returns
  have hlocks := B.notSynchronized
  have hown : s.vm.findClass RX12 = some m.cls := findClass_of_methodNamed B.named
  have hK := hU.2.2.1
  have hT := hU.2.2.2
  have hG := md_G.start hU
  have hl := lv_entry ([.ref (base + 69), .int p1]) (n := 3) (Nat.le_of_ble_eq_true rfl)
  rw [lg_entry_eq]
  generalize (lg_sl ([.ref (base + 69), .int p1]) ++ List.replicate (3 - (lg_sl ([.ref (base + 69), .int p1])).length) Slot.unset).toArray = ls at hl ⊢
  have hl : lv_has ls 3 [(0, .ref (base + 69)), (1, .int p1)] := hl
  refine lv_iload_n hx hb dX12_seed_0 rfl (lv_at hl 1 rfl) ?_
  refine lv_if_ge (tgt := 10) hx hb dX12_seed_1 (by decide) (fun _ => ?_) (fun h => absurd h1 h)
  refine lv_aload_n hx hb dX12_seed_10 rfl (lv_at hl 0 rfl) ?_
  refine md_getr hx hb hW hown hK hG f_X12_45_11 (Nat.lt_of_lt_of_le (by decide) hZ) hK69 (b := 81) hR69_25 dX12_seed_11 ?_
  refine lv_bipush (v := 6) hx hb dX12_seed_14 (by decide) ?_
  refine md_iald hx hb hK hG (Nat.lt_of_lt_of_le (by decide) hZ) hK81 hN81 (md_inD (by decide)) (v := 0) hM81_6 dX12_seed_16 ?_
  refine lv_istore_n (lv' := [(2, .int 0), (0, .ref (base + 69)), (1, .int p1)]) hx hb dX12_seed_17 rfl hl (by decide) rfl (fun ls hl => ?_)
  refine lv_aload_n hx hb dX12_seed_18 rfl (lv_at hl 1 rfl) ?_
  refine md_getr hx hb hW hown hK hG f_X12_45_11 (Nat.lt_of_lt_of_le (by decide) hZ) hK69 (b := 81) hR69_25 dX12_seed_19 ?_
  refine lv_bipush (v := 6) hx hb dX12_seed_22 (by decide) ?_
  refine lv_iload_n hx hb dX12_seed_24 rfl (lv_at hl 2 rfl) ?_
  refine md_iast hx hb hK hG (Nat.lt_of_lt_of_le (by decide) hZ) hK81 hN81 (md_inD (by decide)) (k := 6) (by decide) dX12_seed_25 (fun H locs hG => ?_)
  refine lv_iload_n hx hb dX12_seed_26 rfl (lv_at hl 0 rfl) ?_
  exact md_endi hx hb hr hlocks hK hT hG (⟨rfl, rfl⟩) dX12_seed_27
set_option maxRecDepth 100000 in
set_option maxHeartbeats 4000000 in
theorem c_X12_year (l : Launch) (D : va_G) (cy : Nat → ClassId) (tx : (Nat → Nat) × (Nat → Nat)) (base Z : Nat) (K N : Nat → Nat) (M : Nat → Nat → Int32) (R : Nat → Nat → Option Nat) (J : Nat → Nat → Int64) (hZ : 104 ≤ Z) (hK69 : K 69 = 12) (hR69_25 : R 69 25 = some 81) (hK81 : K 81 = 14) (hN81 : N 81 = 226) (hM81_1 : M 81 1 = 0) (p1 : Int32) (p2 : Int32) (p3 : Int32) : Met l yX12_year [Cond.code yX12_year cX12_year 10 (some .int)] (md_rm 1 0 0) (va_Pc [.ref (base + 69), .int p1, .int p2, .int p3] (md_U D cy tx base Z K N M R J)) (mQi D cy tx base (fun r u => r = (-1000000) ∧ u = (Z, K, N, M, R, J))) 0 0 (fun q => base ≤ q) := by
  refine Met.ofW (cc := cX12_year) (maxL := 10) (ret := (some .int)) (by decide) rfl ?_
  intro p e s m args below meth c s₁ B hml hv
  have hW : ∀ w ∈ lw_tbl, goodWord w = true → w.before args s = true := fun w h g => hv.2.2.2.1.2.1 w h g _
  obtain ⟨rfl, hU⟩ := hv
  have hx := B.exec
  have hb := B.bytes
  have hr := B.returns
  have hlocks := B.notSynchronized
  have hown : s.vm.findClass RX12 = some m.cls := findClass_of_methodNamed B.named
  have hK := hU.2.2.1
  have hT := hU.2.2.2
  have hG := md_G.start hU
  have hl := lv_entry ([.ref (base + 69), .int p1, .int p2, .int p3]) (n := 10) (Nat.le_of_ble_eq_true rfl)
  rw [lg_entry_eq]
  generalize (lg_sl ([.ref (base + 69), .int p1, .int p2, .int p3]) ++ List.replicate (10 - (lg_sl ([.ref (base + 69), .int p1, .int p2, .int p3])).length) Slot.unset).toArray = ls at hl ⊢
  have hl : lv_has ls 10 [(0, .ref (base + 69)), (1, .int p1), (2, .int p2), (3, .int p3)] := hl
  refine lv_aload_n hx hb dX12_year_0 rfl (lv_at hl 0 rfl) ?_
  refine md_getr hx hb hW hown hK hG f_X12_45_11 (Nat.lt_of_lt_of_le (by decide) hZ) hK69 (b := 81) hR69_25 dX12_year_1 ?_
  refine lv_iconst (v := 1) hx hb dX12_year_4 (by decide) ?_
  refine md_iald hx hb hK hG (Nat.lt_of_lt_of_le (by decide) hZ) hK81 hN81 (md_inD (by decide)) (v := 0) hM81_1 dX12_year_5 ?_
  refine lv_if_eq (tgt := 41) hx hb dX12_year_6 (by decide) (fun _ => ?_) (fun h => absurd h (by decide))
  refine lv_ldcw hx hb hown (hW _ w_8_46 rfl) dX12_year_41 ?_
  exact md_endi hx hb hr hlocks hK hT hG (⟨rfl, rfl⟩) dX12_year_44
set_option maxRecDepth 100000 in
set_option maxHeartbeats 4000000 in
theorem c_X12_in_4 (l : Launch) (D : va_G) (cy : Nat → ClassId) (tx : (Nat → Nat) × (Nat → Nat)) (base Z : Nat) (K N : Nat → Nat) (M : Nat → Nat → Int32) (R : Nat → Nat → Option Nat) (J : Nat → Nat → Int64) (hZ : 104 ≤ Z) : Met l yX12_in [Cond.code yX12_in cX12_in 6 (some .boolean)] (md_rm 1 0 0) (va_Pc [.long 0, .long 0, .long 1] (md_U D cy tx base Z K N M R J)) (mQi D cy tx base (fun r u => r = 1 ∧ u = (Z, K, N, M, R, J))) 0 0 (fun q => base ≤ q) := by
  refine Met.ofW (cc := cX12_in) (maxL := 6) (ret := (some .boolean)) (by decide) rfl ?_
  intro p e s m args below meth c s₁ B hml hv
  have hW : ∀ w ∈ lw_tbl, goodWord w = true → w.before args s = true := fun w h g => hv.2.2.2.1.2.1 w h g _
  obtain ⟨rfl, hU⟩ := hv
  have hx := B.exec
  have hb := B.bytes
  have hr := B.returns
  have hlocks := B.notSynchronized
  have hown : s.vm.findClass RX12 = some m.cls := findClass_of_methodNamed B.named
  have hK := hU.2.2.1
  have hT := hU.2.2.2
  have hG := md_G.start hU
  have hl := lv_entry ([.long 0, .long 0, .long 1]) (n := 6) (Nat.le_of_ble_eq_true rfl)
  rw [lg_entry_eq]
  generalize (lg_sl ([.long 0, .long 0, .long 1]) ++ List.replicate (6 - (lg_sl ([.long 0, .long 0, .long 1])).length) Slot.unset).toArray = ls at hl ⊢
  have hl : lv_has ls 6 [(0, .long 0), (2, .long 0), (4, .long 1)] := hl
  refine lv_lload_n hx hb dX12_in_0 rfl (lv_at hl 0 rfl) ?_
  refine lv_lload_n hx hb dX12_in_1 rfl (lv_at hl 1 rfl) ?_
  refine W.lcmp hx hb dX12_in_2 ?_
  refine md_top (y := 0) (by decide) ?_
  refine lv_if_lt (tgt := 17) hx hb dX12_in_3 (by decide) (fun h => absurd h (by decide)) (fun _ => ?_)
  refine lv_lload_n hx hb dX12_in_6 rfl (lv_at hl 0 rfl) ?_
  refine lv_lload hx hb dX12_in_7 (lv_at hl 2 rfl) ?_
  refine W.lcmp hx hb dX12_in_9 ?_
  refine md_top (y := (-1)) (by decide) ?_
  refine lv_if_gt (tgt := 17) hx hb dX12_in_10 (by decide) (fun h => absurd h (by decide)) (fun _ => ?_)
  refine lv_iconst (v := 1) hx hb dX12_in_13 (by decide) ?_
  refine lv_goto (tgt := 18) hx hb dX12_in_14 (by decide) ?_
  exact md_endz hx hb hr hlocks hK hT hG rfl (⟨rfl, rfl⟩) dX12_in_18
set_option maxRecDepth 100000 in
set_option maxHeartbeats 4000000 in
theorem c_X12_status (l : Launch) (D : va_G) (cy : Nat → ClassId) (tx : (Nat → Nat) × (Nat → Nat)) (base Z : Nat) (K N : Nat → Nat) (M : Nat → Nat → Int32) (R : Nat → Nat → Option Nat) (J : Nat → Nat → Int64) (hZ : 104 ≤ Z) (hK69 : K 69 = 12) (hR69_26 : R 69 26 = some 82) (hK82 : K 82 = 14) (hN82 : N 82 = 2) (hM82_0 : M 82 0 = 0) : Met l yX12_status [Cond.code yX12_status cX12_status 2 (some .int)] (md_rm 2 0 0) (va_Pc [.ref (base + 69), .int 0] (md_U D cy tx base Z K N M R J)) (mQi D cy tx base (fun r u => r = 0 ∧ u = (Z, K, N, M, R, J))) 0 0 (fun q => base ≤ q) := by
  refine Met.ofW (cc := cX12_status) (maxL := 2) (ret := (some .int)) (by decide) rfl ?_
  intro p e s m args below meth c s₁ B hml hv
  have hW : ∀ w ∈ lw_tbl, goodWord w = true → w.before args s = true := fun w h g => hv.2.2.2.1.2.1 w h g _
  obtain ⟨rfl, hU⟩ := hv
  have hx := B.exec
  have hb := B.bytes
  have hr := B.returns
  have hlocks := B.notSynchronized
  have hown : s.vm.findClass RX12 = some m.cls := findClass_of_methodNamed B.named
  have hK := hU.2.2.1
  have hT := hU.2.2.2
  have hG := md_G.start hU
  have hl := lv_entry ([.ref (base + 69), .int 0]) (n := 2) (Nat.le_of_ble_eq_true rfl)
  rw [lg_entry_eq]
  generalize (lg_sl ([.ref (base + 69), .int 0]) ++ List.replicate (2 - (lg_sl ([.ref (base + 69), .int 0])).length) Slot.unset).toArray = ls at hl ⊢
  have hl : lv_has ls 2 [(0, .ref (base + 69)), (1, .int 0)] := hl
  refine lv_iload_n hx hb dX12_status_0 rfl (lv_at hl 1 rfl) ?_
  refine lv_i2l (v := 0) hx hb dX12_status_1 (by decide) ?_
  refine lv_lconst (v := 0) hx hb dX12_status_2 (by decide) ?_
  refine lv_lconst (v := 1) hx hb dX12_status_3 (by decide) ?_
  refine md_goi hG (md_runS (As := [.long 0, .long 0, .long 1]) (rest := []) hx hb hml hown hW hK hT hG (c_X12_in_4 l D cy tx base  Z  K N M R J hZ  ) s_X12_155 ⟨rfl, rfl, ⟨Nat.le_of_ble_eq_true rfl, Nat.le_of_ble_eq_true rfl⟩, ⟨Nat.le_of_ble_eq_true rfl, Nat.le_of_ble_eq_true rfl⟩⟩ rfl hl.1 rfl (Nat.le_of_ble_eq_true rfl) dX12_status_4) (fun r u H locs hp hG => ?_)
  obtain ⟨rfl, rfl⟩ := hp
  have hG : md_G D cy base Z K N M R J s H locs := hG
  refine lv_if_eq (tgt := 19) hx hb dX12_status_7 (by decide) (fun h => absurd h (by decide)) (fun _ => ?_)
  refine lv_aload_n hx hb dX12_status_10 rfl (lv_at hl 0 rfl) ?_
  refine md_getr hx hb hW hown hK hG f_X12_48_11 (Nat.lt_of_lt_of_le (by decide) hZ) hK69 (b := 82) hR69_26 dX12_status_11 ?_
  refine lv_iload_n hx hb dX12_status_14 rfl (lv_at hl 1 rfl) ?_
  refine md_iald hx hb hK hG (Nat.lt_of_lt_of_le (by decide) hZ) hK82 hN82 (md_inD (by decide)) (v := 0) hM82_0 dX12_status_15 ?_
  refine lv_goto (tgt := 20) hx hb dX12_status_16 (by decide) ?_
  exact md_endi hx hb hr hlocks hK hT hG (⟨rfl, rfl⟩) dX12_status_20
set_option maxRecDepth 100000 in
set_option maxHeartbeats 4000000 in
theorem c_X12_in_5 (l : Launch) (D : va_G) (cy : Nat → ClassId) (tx : (Nat → Nat) × (Nat → Nat)) (base Z : Nat) (K N : Nat → Nat) (M : Nat → Nat → Int32) (R : Nat → Nat → Option Nat) (J : Nat → Nat → Int64) (hZ : 104 ≤ Z) : Met l yX12_in [Cond.code yX12_in cX12_in 6 (some .boolean)] (md_rm 1 0 0) (va_Pc [.long 1, .long 0, .long 1] (md_U D cy tx base Z K N M R J)) (mQi D cy tx base (fun r u => r = 1 ∧ u = (Z, K, N, M, R, J))) 0 0 (fun q => base ≤ q) := by
  refine Met.ofW (cc := cX12_in) (maxL := 6) (ret := (some .boolean)) (by decide) rfl ?_
  intro p e s m args below meth c s₁ B hml hv
  have hW : ∀ w ∈ lw_tbl, goodWord w = true → w.before args s = true := fun w h g => hv.2.2.2.1.2.1 w h g _
  obtain ⟨rfl, hU⟩ := hv
  have hx := B.exec
  have hb := B.bytes
  have hr := B.returns
  have hlocks := B.notSynchronized
  have hown : s.vm.findClass RX12 = some m.cls := findClass_of_methodNamed B.named
  have hK := hU.2.2.1
  have hT := hU.2.2.2
  have hG := md_G.start hU
  have hl := lv_entry ([.long 1, .long 0, .long 1]) (n := 6) (Nat.le_of_ble_eq_true rfl)
  rw [lg_entry_eq]
  generalize (lg_sl ([.long 1, .long 0, .long 1]) ++ List.replicate (6 - (lg_sl ([.long 1, .long 0, .long 1])).length) Slot.unset).toArray = ls at hl ⊢
  have hl : lv_has ls 6 [(0, .long 1), (2, .long 0), (4, .long 1)] := hl
  refine lv_lload_n hx hb dX12_in_0 rfl (lv_at hl 0 rfl) ?_
  refine lv_lload_n hx hb dX12_in_1 rfl (lv_at hl 1 rfl) ?_
  refine W.lcmp hx hb dX12_in_2 ?_
  refine md_top (y := 1) (by decide) ?_
  refine lv_if_lt (tgt := 17) hx hb dX12_in_3 (by decide) (fun h => absurd h (by decide)) (fun _ => ?_)
  refine lv_lload_n hx hb dX12_in_6 rfl (lv_at hl 0 rfl) ?_
  refine lv_lload hx hb dX12_in_7 (lv_at hl 2 rfl) ?_
  refine W.lcmp hx hb dX12_in_9 ?_
  refine md_top (y := 0) (by decide) ?_
  refine lv_if_gt (tgt := 17) hx hb dX12_in_10 (by decide) (fun h => absurd h (by decide)) (fun _ => ?_)
  refine lv_iconst (v := 1) hx hb dX12_in_13 (by decide) ?_
  refine lv_goto (tgt := 18) hx hb dX12_in_14 (by decide) ?_
  exact md_endz hx hb hr hlocks hK hT hG rfl (⟨rfl, rfl⟩) dX12_in_18
set_option maxRecDepth 100000 in
set_option maxHeartbeats 4000000 in
theorem c_X12_status_2 (l : Launch) (D : va_G) (cy : Nat → ClassId) (tx : (Nat → Nat) × (Nat → Nat)) (base Z : Nat) (K N : Nat → Nat) (M : Nat → Nat → Int32) (R : Nat → Nat → Option Nat) (J : Nat → Nat → Int64) (hZ : 104 ≤ Z) (hK69 : K 69 = 12) (hR69_26 : R 69 26 = some 82) (hK82 : K 82 = 14) (hN82 : N 82 = 2) (hM82_1 : M 82 1 = 0) : Met l yX12_status [Cond.code yX12_status cX12_status 2 (some .int)] (md_rm 2 0 0) (va_Pc [.ref (base + 69), .int 1] (md_U D cy tx base Z K N M R J)) (mQi D cy tx base (fun r u => r = 0 ∧ u = (Z, K, N, M, R, J))) 0 0 (fun q => base ≤ q) := by
  refine Met.ofW (cc := cX12_status) (maxL := 2) (ret := (some .int)) (by decide) rfl ?_
  intro p e s m args below meth c s₁ B hml hv
  have hW : ∀ w ∈ lw_tbl, goodWord w = true → w.before args s = true := fun w h g => hv.2.2.2.1.2.1 w h g _
  obtain ⟨rfl, hU⟩ := hv
  have hx := B.exec
  have hb := B.bytes
  have hr := B.returns
  have hlocks := B.notSynchronized
  have hown : s.vm.findClass RX12 = some m.cls := findClass_of_methodNamed B.named
  have hK := hU.2.2.1
  have hT := hU.2.2.2
  have hG := md_G.start hU
  have hl := lv_entry ([.ref (base + 69), .int 1]) (n := 2) (Nat.le_of_ble_eq_true rfl)
  rw [lg_entry_eq]
  generalize (lg_sl ([.ref (base + 69), .int 1]) ++ List.replicate (2 - (lg_sl ([.ref (base + 69), .int 1])).length) Slot.unset).toArray = ls at hl ⊢
  have hl : lv_has ls 2 [(0, .ref (base + 69)), (1, .int 1)] := hl
  refine lv_iload_n hx hb dX12_status_0 rfl (lv_at hl 1 rfl) ?_
  refine lv_i2l (v := 1) hx hb dX12_status_1 (by decide) ?_
  refine lv_lconst (v := 0) hx hb dX12_status_2 (by decide) ?_
  refine lv_lconst (v := 1) hx hb dX12_status_3 (by decide) ?_
  refine md_goi hG (md_runS (As := [.long 1, .long 0, .long 1]) (rest := []) hx hb hml hown hW hK hT hG (c_X12_in_5 l D cy tx base  Z  K N M R J hZ  ) s_X12_155 ⟨rfl, rfl, ⟨Nat.le_of_ble_eq_true rfl, Nat.le_of_ble_eq_true rfl⟩, ⟨Nat.le_of_ble_eq_true rfl, Nat.le_of_ble_eq_true rfl⟩⟩ rfl hl.1 rfl (Nat.le_of_ble_eq_true rfl) dX12_status_4) (fun r u H locs hp hG => ?_)
  obtain ⟨rfl, rfl⟩ := hp
  have hG : md_G D cy base Z K N M R J s H locs := hG
  refine lv_if_eq (tgt := 19) hx hb dX12_status_7 (by decide) (fun h => absurd h (by decide)) (fun _ => ?_)
  refine lv_aload_n hx hb dX12_status_10 rfl (lv_at hl 0 rfl) ?_
  refine md_getr hx hb hW hown hK hG f_X12_48_11 (Nat.lt_of_lt_of_le (by decide) hZ) hK69 (b := 82) hR69_26 dX12_status_11 ?_
  refine lv_iload_n hx hb dX12_status_14 rfl (lv_at hl 1 rfl) ?_
  refine md_iald hx hb hK hG (Nat.lt_of_lt_of_le (by decide) hZ) hK82 hN82 (md_inD (by decide)) (v := 0) hM82_1 dX12_status_15 ?_
  refine lv_goto (tgt := 20) hx hb dX12_status_16 (by decide) ?_
  exact md_endi hx hb hr hlocks hK hT hG (⟨rfl, rfl⟩) dX12_status_20
set_option maxRecDepth 100000 in
set_option maxHeartbeats 4000000 in
theorem c_X12_in_6 (l : Launch) (D : va_G) (cy : Nat → ClassId) (tx : (Nat → Nat) × (Nat → Nat)) (base Z : Nat) (K N : Nat → Nat) (M : Nat → Nat → Int32) (R : Nat → Nat → Option Nat) (J : Nat → Nat → Int64) (hZ : 104 ≤ Z) (p1 : Int64) : Met l yX12_in [Cond.code yX12_in cX12_in 6 (some .boolean)] (md_rm 1 0 0) (va_Pc [.long p1, .long 0, .long 1] (md_U D cy tx base Z K N M R J)) (mQi D cy tx base (fun r u => (r = 0 ∧ u = (Z, K, N, M, R, J)) ∨ (¬ (lg_cmp p1 0) < 0 ∧ ¬ 0 < (lg_cmp p1 1) ∧ r = 1 ∧ u = (Z, K, N, M, R, J)))) 0 0 (fun q => base ≤ q) := by
  refine Met.ofW (cc := cX12_in) (maxL := 6) (ret := (some .boolean)) (by decide) rfl ?_
  intro p e s m args below meth c s₁ B hml hv
  have hW : ∀ w ∈ lw_tbl, goodWord w = true → w.before args s = true := fun w h g => hv.2.2.2.1.2.1 w h g _
  obtain ⟨rfl, hU⟩ := hv
  have hx := B.exec
  have hb := B.bytes
  have hr := B.returns
  have hlocks := B.notSynchronized
  have hown : s.vm.findClass RX12 = some m.cls := findClass_of_methodNamed B.named
  have hK := hU.2.2.1
  have hT := hU.2.2.2
  have hG := md_G.start hU
  have hl := lv_entry ([.long p1, .long 0, .long 1]) (n := 6) (Nat.le_of_ble_eq_true rfl)
  rw [lg_entry_eq]
  generalize (lg_sl ([.long p1, .long 0, .long 1]) ++ List.replicate (6 - (lg_sl ([.long p1, .long 0, .long 1])).length) Slot.unset).toArray = ls at hl ⊢
  have hl : lv_has ls 6 [(0, .long p1), (2, .long 0), (4, .long 1)] := hl
  refine lv_lload_n hx hb dX12_in_0 rfl (lv_at hl 0 rfl) ?_
  refine lv_lload_n hx hb dX12_in_1 rfl (lv_at hl 1 rfl) ?_
  refine W.lcmp hx hb dX12_in_2 ?_
  refine lv_if_lt (tgt := 17) hx hb dX12_in_3 (by decide) (fun c1 => ?_) (fun c1 => ?_)
  · refine lv_iconst (v := 0) hx hb dX12_in_17 (by decide) ?_
    exact md_endz hx hb hr hlocks hK hT hG rfl (Or.inl ⟨rfl, rfl⟩) dX12_in_18
  · refine lv_lload_n hx hb dX12_in_6 rfl (lv_at hl 0 rfl) ?_
    refine lv_lload hx hb dX12_in_7 (lv_at hl 2 rfl) ?_
    refine W.lcmp hx hb dX12_in_9 ?_
    refine lv_if_gt (tgt := 17) hx hb dX12_in_10 (by decide) (fun c2 => ?_) (fun c2 => ?_)
    · refine lv_iconst (v := 0) hx hb dX12_in_17 (by decide) ?_
      exact md_endz hx hb hr hlocks hK hT hG rfl (Or.inl ⟨rfl, rfl⟩) dX12_in_18
    · refine lv_iconst (v := 1) hx hb dX12_in_13 (by decide) ?_
      refine lv_goto (tgt := 18) hx hb dX12_in_14 (by decide) ?_
      exact md_endz hx hb hr hlocks hK hT hG rfl (Or.inr (⟨c1, c2, rfl, rfl⟩)) dX12_in_18
set_option maxRecDepth 100000 in
set_option maxHeartbeats 4000000 in
theorem c_X12_status_3 (l : Launch) (D : va_G) (cy : Nat → ClassId) (tx : (Nat → Nat) × (Nat → Nat)) (base Z : Nat) (K N : Nat → Nat) (M : Nat → Nat → Int32) (R : Nat → Nat → Option Nat) (J : Nat → Nat → Int64) (hZ : 104 ≤ Z) (p1 : Int32) (h1 : p1 < 0) : Met l yX12_status [Cond.code yX12_status cX12_status 2 (some .int)] (md_rm 2 0 0) (va_Pc [.ref (base + 69), .int p1] (md_U D cy tx base Z K N M R J)) (mQi D cy tx base (fun r u => r = (-1) ∧ u = (Z, K, N, M, R, J))) 0 0 (fun q => base ≤ q) := by
  refine Met.ofW (cc := cX12_status) (maxL := 2) (ret := (some .int)) (by decide) rfl ?_
  intro p e s m args below meth c s₁ B hml hv
  have hW : ∀ w ∈ lw_tbl, goodWord w = true → w.before args s = true := fun w h g => hv.2.2.2.1.2.1 w h g _
  obtain ⟨rfl, hU⟩ := hv
  have hx := B.exec
  have hb := B.bytes
  have hr := B.returns
  have hlocks := B.notSynchronized
  have hown : s.vm.findClass RX12 = some m.cls := findClass_of_methodNamed B.named
  have hK := hU.2.2.1
  have hT := hU.2.2.2
  have hG := md_G.start hU
  have hl := lv_entry ([.ref (base + 69), .int p1]) (n := 2) (Nat.le_of_ble_eq_true rfl)
  rw [lg_entry_eq]
  generalize (lg_sl ([.ref (base + 69), .int p1]) ++ List.replicate (2 - (lg_sl ([.ref (base + 69), .int p1])).length) Slot.unset).toArray = ls at hl ⊢
  have hl : lv_has ls 2 [(0, .ref (base + 69)), (1, .int p1)] := hl
  refine lv_iload_n hx hb dX12_status_0 rfl (lv_at hl 1 rfl) ?_
  refine lv_i2l hx hb dX12_status_1 rfl ?_
  refine lv_lconst (v := 0) hx hb dX12_status_2 (by decide) ?_
  refine lv_lconst (v := 1) hx hb dX12_status_3 (by decide) ?_
  refine md_goi hG (md_runS (As := [.long p1.toInt64, .long 0, .long 1]) (rest := []) hx hb hml hown hW hK hT hG (c_X12_in_6 l D cy tx base  Z  K N M R J hZ  p1.toInt64) s_X12_155 ⟨rfl, rfl, ⟨Nat.le_of_ble_eq_true rfl, Nat.le_of_ble_eq_true rfl⟩, ⟨Nat.le_of_ble_eq_true rfl, Nat.le_of_ble_eq_true rfl⟩⟩ rfl hl.1 rfl (Nat.le_of_ble_eq_true rfl) dX12_status_4) (fun r u H locs hp hG => ?_)
  rcases hp with ⟨rfl, rfl⟩ | ⟨d0_0, d0_1, rfl, rfl⟩
  · have hG : md_G D cy base Z K N M R J s H locs := hG
    refine lv_if_eq (tgt := 19) hx hb dX12_status_7 (by decide) (fun _ => ?_) (fun h => absurd h (by decide))
    refine lv_iconst (v := (-1)) hx hb dX12_status_19 (by decide) ?_
    exact md_endi hx hb hr hlocks hK hT hG (⟨rfl, rfl⟩) dX12_status_20
  · have hG : md_G D cy base Z K N M R J s H locs := hG
    exact absurd (md_lcn h1) d0_0
set_option maxRecDepth 100000 in
set_option maxHeartbeats 4000000 in
theorem c_X12_status_4 (l : Launch) (D : va_G) (cy : Nat → ClassId) (tx : (Nat → Nat) × (Nat → Nat)) (base Z : Nat) (K N : Nat → Nat) (M : Nat → Nat → Int32) (R : Nat → Nat → Option Nat) (J : Nat → Nat → Int64) (hZ : 104 ≤ Z) (p1 : Int32) (h1 : ¬ p1 < 0) (h2 : 2 ≤ p1) : Met l yX12_status [Cond.code yX12_status cX12_status 2 (some .int)] (md_rm 2 0 0) (va_Pc [.ref (base + 69), .int p1] (md_U D cy tx base Z K N M R J)) (mQi D cy tx base (fun r u => r = (-1) ∧ u = (Z, K, N, M, R, J))) 0 0 (fun q => base ≤ q) := by
  refine Met.ofW (cc := cX12_status) (maxL := 2) (ret := (some .int)) (by decide) rfl ?_
  intro p e s m args below meth c s₁ B hml hv
  have hW : ∀ w ∈ lw_tbl, goodWord w = true → w.before args s = true := fun w h g => hv.2.2.2.1.2.1 w h g _
  obtain ⟨rfl, hU⟩ := hv
  have hx := B.exec
  have hb := B.bytes
  have hr := B.returns
  have hlocks := B.notSynchronized
  have hown : s.vm.findClass RX12 = some m.cls := findClass_of_methodNamed B.named
  have hK := hU.2.2.1
  have hT := hU.2.2.2
  have hG := md_G.start hU
  have hl := lv_entry ([.ref (base + 69), .int p1]) (n := 2) (Nat.le_of_ble_eq_true rfl)
  rw [lg_entry_eq]
  generalize (lg_sl ([.ref (base + 69), .int p1]) ++ List.replicate (2 - (lg_sl ([.ref (base + 69), .int p1])).length) Slot.unset).toArray = ls at hl ⊢
  have hl : lv_has ls 2 [(0, .ref (base + 69)), (1, .int p1)] := hl
  refine lv_iload_n hx hb dX12_status_0 rfl (lv_at hl 1 rfl) ?_
  refine lv_i2l hx hb dX12_status_1 rfl ?_
  refine lv_lconst (v := 0) hx hb dX12_status_2 (by decide) ?_
  refine lv_lconst (v := 1) hx hb dX12_status_3 (by decide) ?_
  refine md_goi hG (md_runS (As := [.long p1.toInt64, .long 0, .long 1]) (rest := []) hx hb hml hown hW hK hT hG (c_X12_in_6 l D cy tx base  Z  K N M R J hZ  p1.toInt64) s_X12_155 ⟨rfl, rfl, ⟨Nat.le_of_ble_eq_true rfl, Nat.le_of_ble_eq_true rfl⟩, ⟨Nat.le_of_ble_eq_true rfl, Nat.le_of_ble_eq_true rfl⟩⟩ rfl hl.1 rfl (Nat.le_of_ble_eq_true rfl) dX12_status_4) (fun r u H locs hp hG => ?_)
  rcases hp with ⟨rfl, rfl⟩ | ⟨d0_0, d0_1, rfl, rfl⟩
  · have hG : md_G D cy base Z K N M R J s H locs := hG
    refine lv_if_eq (tgt := 19) hx hb dX12_status_7 (by decide) (fun _ => ?_) (fun h => absurd h (by decide))
    refine lv_iconst (v := (-1)) hx hb dX12_status_19 (by decide) ?_
    exact md_endi hx hb hr hlocks hK hT hG (⟨rfl, rfl⟩) dX12_status_20
  · have hG : md_G D cy base Z K N M R J s H locs := hG
    exact absurd (md_lc2 h2) d0_1
set_option maxRecDepth 100000 in
set_option maxHeartbeats 4000000 in
theorem c_X12_count (l : Launch) (D : va_G) (cy : Nat → ClassId) (tx : (Nat → Nat) × (Nat → Nat)) (base Z : Nat) (K N : Nat → Nat) (M : Nat → Nat → Int32) (R : Nat → Nat → Option Nat) (J : Nat → Nat → Int64) (hZ : 104 ≤ Z) (hK69 : K 69 = 12) (hR69_25 : R 69 25 = some 81) (hK81 : K 81 = 14) (hN81 : N 81 = 226) (hM81_0 : M 81 0 = 0) : Met l yX12_count [Cond.code yX12_count cX12_count 4 (some .int)] (md_rm 1 0 0) (va_Pc [.ref (base + 69), .int 0] (md_U D cy tx base Z K N M R J)) (mQi D cy tx base (fun r u => r = 0 ∧ u = (Z, K, N, M, R, J))) 0 0 (fun q => base ≤ q) := by
  refine Met.ofW (cc := cX12_count) (maxL := 4) (ret := (some .int)) (by decide) rfl ?_
  intro p e s m args below meth c s₁ B hml hv
  have hW : ∀ w ∈ lw_tbl, goodWord w = true → w.before args s = true := fun w h g => hv.2.2.2.1.2.1 w h g _
  obtain ⟨rfl, hU⟩ := hv
  have hx := B.exec
  have hb := B.bytes
  have hr := B.returns
  have hlocks := B.notSynchronized
  have hown : s.vm.findClass RX12 = some m.cls := findClass_of_methodNamed B.named
  have hK := hU.2.2.1
  have hT := hU.2.2.2
  have hG := md_G.start hU
  have hl := lv_entry ([.ref (base + 69), .int 0]) (n := 4) (Nat.le_of_ble_eq_true rfl)
  rw [lg_entry_eq]
  generalize (lg_sl ([.ref (base + 69), .int 0]) ++ List.replicate (4 - (lg_sl ([.ref (base + 69), .int 0])).length) Slot.unset).toArray = ls at hl ⊢
  have hl : lv_has ls 4 [(0, .ref (base + 69)), (1, .int 0)] := hl
  refine lv_iconst (v := 0) hx hb dX12_count_0 (by decide) ?_
  refine lv_istore_n (lv' := [(2, .int 0), (0, .ref (base + 69)), (1, .int 0)]) hx hb dX12_count_1 rfl hl (by decide) rfl (fun ls hl => ?_)
  refine lv_iload_n hx hb dX12_count_2 rfl (lv_at hl 2 rfl) ?_
  refine lv_tableIn (off := 61) (tgt := 64) hx hb dX12_count_3 (by decide) (by decide) rfl (by decide) ?_
  refine lv_aload_n hx hb dX12_count_64 rfl (lv_at hl 1 rfl) ?_
  refine md_getr hx hb hW hown hK hG f_X12_45_11 (Nat.lt_of_lt_of_le (by decide) hZ) hK69 (b := 81) hR69_25 dX12_count_65 ?_
  refine lv_iload_n hx hb dX12_count_68 rfl (lv_at hl 2 rfl) ?_
  refine md_iald hx hb hK hG (Nat.lt_of_lt_of_le (by decide) hZ) hK81 hN81 (md_inD (by decide)) (v := 0) hM81_0 dX12_count_69 ?_
  exact md_endi hx hb hr hlocks hK hT hG (⟨rfl, rfl⟩) dX12_count_70
set_option maxRecDepth 100000 in
set_option maxHeartbeats 4000000 in
theorem c_X12_count_2 (l : Launch) (D : va_G) (cy : Nat → ClassId) (tx : (Nat → Nat) × (Nat → Nat)) (base Z : Nat) (K N : Nat → Nat) (M : Nat → Nat → Int32) (R : Nat → Nat → Option Nat) (J : Nat → Nat → Int64) (hZ : 104 ≤ Z) (hK69 : K 69 = 12) (hR69_25 : R 69 25 = some 81) (hK81 : K 81 = 14) (hN81 : N 81 = 226) (hM81_1 : M 81 1 = 0) : Met l yX12_count [Cond.code yX12_count cX12_count 4 (some .int)] (md_rm 1 0 0) (va_Pc [.ref (base + 69), .int 1] (md_U D cy tx base Z K N M R J)) (mQi D cy tx base (fun r u => r = 0 ∧ u = (Z, K, N, M, R, J))) 0 0 (fun q => base ≤ q) := by
  refine Met.ofW (cc := cX12_count) (maxL := 4) (ret := (some .int)) (by decide) rfl ?_
  intro p e s m args below meth c s₁ B hml hv
  have hW : ∀ w ∈ lw_tbl, goodWord w = true → w.before args s = true := fun w h g => hv.2.2.2.1.2.1 w h g _
  obtain ⟨rfl, hU⟩ := hv
  have hx := B.exec
  have hb := B.bytes
  have hr := B.returns
  have hlocks := B.notSynchronized
  have hown : s.vm.findClass RX12 = some m.cls := findClass_of_methodNamed B.named
  have hK := hU.2.2.1
  have hT := hU.2.2.2
  have hG := md_G.start hU
  have hl := lv_entry ([.ref (base + 69), .int 1]) (n := 4) (Nat.le_of_ble_eq_true rfl)
  rw [lg_entry_eq]
  generalize (lg_sl ([.ref (base + 69), .int 1]) ++ List.replicate (4 - (lg_sl ([.ref (base + 69), .int 1])).length) Slot.unset).toArray = ls at hl ⊢
  have hl : lv_has ls 4 [(0, .ref (base + 69)), (1, .int 1)] := hl
  refine lv_iconst (v := 0) hx hb dX12_count_0 (by decide) ?_
  refine lv_istore_n (lv' := [(2, .int 0), (0, .ref (base + 69)), (1, .int 1)]) hx hb dX12_count_1 rfl hl (by decide) rfl (fun ls hl => ?_)
  refine lv_iload_n hx hb dX12_count_2 rfl (lv_at hl 2 rfl) ?_
  refine lv_tableIn (off := 61) (tgt := 64) hx hb dX12_count_3 (by decide) (by decide) rfl (by decide) ?_
  refine lv_aload_n hx hb dX12_count_64 rfl (lv_at hl 1 rfl) ?_
  refine md_getr hx hb hW hown hK hG f_X12_45_11 (Nat.lt_of_lt_of_le (by decide) hZ) hK69 (b := 81) hR69_25 dX12_count_65 ?_
  refine lv_iload_n hx hb dX12_count_68 rfl (lv_at hl 2 rfl) ?_
  refine md_iald hx hb hK hG (Nat.lt_of_lt_of_le (by decide) hZ) hK81 hN81 (md_inD (by decide)) (v := 0) hM81_1 dX12_count_69 ?_
  exact md_endi hx hb hr hlocks hK hT hG (⟨rfl, rfl⟩) dX12_count_70
set_option maxRecDepth 100000 in
set_option maxHeartbeats 4000000 in
theorem c_X12_count_3 (l : Launch) (D : va_G) (cy : Nat → ClassId) (tx : (Nat → Nat) × (Nat → Nat)) (base Z : Nat) (K N : Nat → Nat) (M : Nat → Nat → Int32) (R : Nat → Nat → Option Nat) (J : Nat → Nat → Int64) (hZ : 104 ≤ Z) (hK69 : K 69 = 12) (hM69_2 : M 69 2 = 0) : Met l yX12_count [Cond.code yX12_count cX12_count 4 (some .int)] (md_rm 1 0 0) (va_Pc [.ref (base + 69), .int 2] (md_U D cy tx base Z K N M R J)) (mQi D cy tx base (fun r u => r = 0 ∧ u = (Z, K, N, M, R, J))) 0 0 (fun q => base ≤ q) := by
  refine Met.ofW (cc := cX12_count) (maxL := 4) (ret := (some .int)) (by decide) rfl ?_
  intro p e s m args below meth c s₁ B hml hv
  have hW : ∀ w ∈ lw_tbl, goodWord w = true → w.before args s = true := fun w h g => hv.2.2.2.1.2.1 w h g _
  obtain ⟨rfl, hU⟩ := hv
  have hx := B.exec
  have hb := B.bytes
  have hr := B.returns
  have hlocks := B.notSynchronized
  have hown : s.vm.findClass RX12 = some m.cls := findClass_of_methodNamed B.named
  have hK := hU.2.2.1
  have hT := hU.2.2.2
  have hG := md_G.start hU
  have hl := lv_entry ([.ref (base + 69), .int 2]) (n := 4) (Nat.le_of_ble_eq_true rfl)
  rw [lg_entry_eq]
  generalize (lg_sl ([.ref (base + 69), .int 2]) ++ List.replicate (4 - (lg_sl ([.ref (base + 69), .int 2])).length) Slot.unset).toArray = ls at hl ⊢
  have hl : lv_has ls 4 [(0, .ref (base + 69)), (1, .int 2)] := hl
  refine lv_iconst (v := 0) hx hb dX12_count_0 (by decide) ?_
  refine lv_istore_n (lv' := [(2, .int 0), (0, .ref (base + 69)), (1, .int 2)]) hx hb dX12_count_1 rfl hl (by decide) rfl (fun ls hl => ?_)
  refine lv_iload_n hx hb dX12_count_2 rfl (lv_at hl 2 rfl) ?_
  refine lv_tableIn (off := 68) (tgt := 71) hx hb dX12_count_3 (by decide) (by decide) rfl (by decide) ?_
  refine lv_aload_n hx hb dX12_count_71 rfl (lv_at hl 1 rfl) ?_
  refine md_geti hx hb hW hown hK hG f_X12_298_11 (Nat.lt_of_lt_of_le (by decide) hZ) hK69 (v := 0) hM69_2 dX12_count_72 ?_
  exact md_endi hx hb hr hlocks hK hT hG (⟨rfl, rfl⟩) dX12_count_75
set_option maxRecDepth 100000 in
set_option maxHeartbeats 4000000 in
theorem c_X12_count_4 (l : Launch) (D : va_G) (cy : Nat → ClassId) (tx : (Nat → Nat) × (Nat → Nat)) (base Z : Nat) (K N : Nat → Nat) (M : Nat → Nat → Int32) (R : Nat → Nat → Option Nat) (J : Nat → Nat → Int64) (hZ : 104 ≤ Z) (hK69 : K 69 = 12) (hR69_25 : R 69 25 = some 81) (hK81 : K 81 = 14) (hN81 : N 81 = 226) (hM81_2 : M 81 2 = 0) : Met l yX12_count [Cond.code yX12_count cX12_count 4 (some .int)] (md_rm 2 0 0) (va_Pc [.ref (base + 69), .int 3] (md_U D cy tx base Z K N M R J)) (mQi D cy tx base (fun r u => r = 0 ∧ u = (Z, K, N, M, R, J))) 0 0 (fun q => base ≤ q) := by
  refine Met.ofW (cc := cX12_count) (maxL := 4) (ret := (some .int)) (by decide) rfl ?_
  intro p e s m args below meth c s₁ B hml hv
  have hW : ∀ w ∈ lw_tbl, goodWord w = true → w.before args s = true := fun w h g => hv.2.2.2.1.2.1 w h g _
  obtain ⟨rfl, hU⟩ := hv
  have hx := B.exec
  have hb := B.bytes
  have hr := B.returns
  have hlocks := B.notSynchronized
  have hown : s.vm.findClass RX12 = some m.cls := findClass_of_methodNamed B.named
  have hK := hU.2.2.1
  have hT := hU.2.2.2
  have hG := md_G.start hU
  have hl := lv_entry ([.ref (base + 69), .int 3]) (n := 4) (Nat.le_of_ble_eq_true rfl)
  rw [lg_entry_eq]
  generalize (lg_sl ([.ref (base + 69), .int 3]) ++ List.replicate (4 - (lg_sl ([.ref (base + 69), .int 3])).length) Slot.unset).toArray = ls at hl ⊢
  have hl : lv_has ls 4 [(0, .ref (base + 69)), (1, .int 3)] := hl
  refine lv_iconst (v := 0) hx hb dX12_count_0 (by decide) ?_
  refine lv_istore_n (lv' := [(2, .int 0), (0, .ref (base + 69)), (1, .int 3)]) hx hb dX12_count_1 rfl hl (by decide) rfl (fun ls hl => ?_)
  refine lv_iload_n hx hb dX12_count_2 rfl (lv_at hl 2 rfl) ?_
  refine lv_tableIn (off := 73) (tgt := 76) hx hb dX12_count_3 (by decide) (by decide) rfl (by decide) ?_
  refine lv_aload_n hx hb dX12_count_76 rfl (lv_at hl 1 rfl) ?_
  refine md_getr hx hb hW hown hK hG f_X12_45_11 (Nat.lt_of_lt_of_le (by decide) hZ) hK69 (b := 81) hR69_25 dX12_count_77 ?_
  refine lv_iconst (v := 2) hx hb dX12_count_80 (by decide) ?_
  refine md_iald hx hb hK hG (Nat.lt_of_lt_of_le (by decide) hZ) hK81 hN81 (md_inD (by decide)) (v := 0) hM81_2 dX12_count_81 ?_
  refine md_goi hG (md_runS (As := [.int 0]) (rest := []) hx hb hml hown hW hK hT hG (c_X12_bits l D cy tx base  Z  K N M R J hZ  ) s_X12_341 ⟨rfl, rfl, ⟨Nat.le_of_ble_eq_true rfl, Nat.le_of_ble_eq_true rfl⟩, ⟨Nat.le_of_ble_eq_true rfl, Nat.le_of_ble_eq_true rfl⟩⟩ rfl hl.1 rfl (Nat.le_of_ble_eq_true rfl) dX12_count_82) (fun r u H locs hp hG => ?_)
  obtain ⟨rfl, rfl⟩ := hp
  have hG : md_G D cy base Z K N M R J s H locs := hG
  exact md_endi hx hb hr hlocks hK hT hG (⟨rfl, rfl⟩) dX12_count_85
set_option maxRecDepth 100000 in
set_option maxHeartbeats 4000000 in
theorem c_X12_count_5 (l : Launch) (D : va_G) (cy : Nat → ClassId) (tx : (Nat → Nat) × (Nat → Nat)) (base Z : Nat) (K N : Nat → Nat) (M : Nat → Nat → Int32) (R : Nat → Nat → Option Nat) (J : Nat → Nat → Int64) (hZ : 104 ≤ Z) (hK69 : K 69 = 12) (hR69_25 : R 69 25 = some 81) (hK81 : K 81 = 14) (hN81 : N 81 = 226) (hM81_0 : M 81 0 = 0) : Met l yX12_count [Cond.code yX12_count cX12_count 4 (some .int)] (md_rm 1 0 0) (va_Pc [.ref (base + 69), .int 4] (md_U D cy tx base Z K N M R J)) (mQi D cy tx base (fun r u => r = 0 ∧ u = (Z, K, N, M, R, J))) 0 0 (fun q => base ≤ q) := by
  refine Met.ofW (cc := cX12_count) (maxL := 4) (ret := (some .int)) (by decide) rfl ?_
  intro p e s m args below meth c s₁ B hml hv
  have hW : ∀ w ∈ lw_tbl, goodWord w = true → w.before args s = true := fun w h g => hv.2.2.2.1.2.1 w h g _
  obtain ⟨rfl, hU⟩ := hv
  have hx := B.exec
  have hb := B.bytes
  have hr := B.returns
  have hlocks := B.notSynchronized
  have hown : s.vm.findClass RX12 = some m.cls := findClass_of_methodNamed B.named
  have hK := hU.2.2.1
  have hT := hU.2.2.2
  have hG := md_G.start hU
  have hl := lv_entry ([.ref (base + 69), .int 4]) (n := 4) (Nat.le_of_ble_eq_true rfl)
  rw [lg_entry_eq]
  generalize (lg_sl ([.ref (base + 69), .int 4]) ++ List.replicate (4 - (lg_sl ([.ref (base + 69), .int 4])).length) Slot.unset).toArray = ls at hl ⊢
  have hl : lv_has ls 4 [(0, .ref (base + 69)), (1, .int 4)] := hl
  refine lv_iconst (v := 0) hx hb dX12_count_0 (by decide) ?_
  refine lv_istore_n (lv' := [(2, .int 0), (0, .ref (base + 69)), (1, .int 4)]) hx hb dX12_count_1 rfl hl (by decide) rfl (fun ls hl => ?_)
  refine lv_iload_n hx hb dX12_count_2 rfl (lv_at hl 2 rfl) ?_
  refine lv_tableIn (off := 83) (tgt := 86) hx hb dX12_count_3 (by decide) (by decide) rfl (by decide) ?_
  refine lv_iconst (v := 0) hx hb dX12_count_86 (by decide) ?_
  refine lv_istore_n (lv' := [(3, .int 0), (2, .int 0), (0, .ref (base + 69)), (1, .int 4)]) hx hb dX12_count_87 rfl hl (by decide) rfl (fun ls hl => ?_)
  refine lv_iload_n hx hb dX12_count_88 rfl (lv_at hl 0 rfl) ?_
  refine lv_aload_n hx hb dX12_count_89 rfl (lv_at hl 2 rfl) ?_
  refine md_getr hx hb hW hown hK hG f_X12_45_11 (Nat.lt_of_lt_of_le (by decide) hZ) hK69 (b := 81) hR69_25 dX12_count_90 ?_
  refine lv_iconst (v := 0) hx hb dX12_count_93 (by decide) ?_
  refine md_iald hx hb hK hG (Nat.lt_of_lt_of_le (by decide) hZ) hK81 hN81 (md_inD (by decide)) (v := 0) hM81_0 dX12_count_94 ?_
  refine lv_icmp_ge (tgt := 133) hx hb dX12_count_95 (by decide) (fun _ => ?_) (fun h => absurd h (by decide))
  refine lv_iload_n hx hb dX12_count_133 rfl (lv_at hl 1 rfl) ?_
  exact md_endi hx hb hr hlocks hK hT hG (⟨rfl, rfl⟩) dX12_count_134
set_option maxRecDepth 100000 in
set_option maxHeartbeats 4000000 in
theorem c_X12_count_6 (l : Launch) (D : va_G) (cy : Nat → ClassId) (tx : (Nat → Nat) × (Nat → Nat)) (base Z : Nat) (K N : Nat → Nat) (M : Nat → Nat → Int32) (R : Nat → Nat → Option Nat) (J : Nat → Nat → Int64) (hZ : 104 ≤ Z) (hK69 : K 69 = 12) (hR69_25 : R 69 25 = some 81) (hK81 : K 81 = 14) (hN81 : N 81 = 226) (hM81_3 : M 81 3 = 0) : Met l yX12_count [Cond.code yX12_count cX12_count 4 (some .int)] (md_rm 1 0 0) (va_Pc [.ref (base + 69), .int 5] (md_U D cy tx base Z K N M R J)) (mQi D cy tx base (fun r u => r = 0 ∧ u = (Z, K, N, M, R, J))) 0 0 (fun q => base ≤ q) := by
  refine Met.ofW (cc := cX12_count) (maxL := 4) (ret := (some .int)) (by decide) rfl ?_
  intro p e s m args below meth c s₁ B hml hv
  have hW : ∀ w ∈ lw_tbl, goodWord w = true → w.before args s = true := fun w h g => hv.2.2.2.1.2.1 w h g _
  obtain ⟨rfl, hU⟩ := hv
  have hx := B.exec
  have hb := B.bytes
  have hr := B.returns
  have hlocks := B.notSynchronized
  have hown : s.vm.findClass RX12 = some m.cls := findClass_of_methodNamed B.named
  have hK := hU.2.2.1
  have hT := hU.2.2.2
  have hG := md_G.start hU
  have hl := lv_entry ([.ref (base + 69), .int 5]) (n := 4) (Nat.le_of_ble_eq_true rfl)
  rw [lg_entry_eq]
  generalize (lg_sl ([.ref (base + 69), .int 5]) ++ List.replicate (4 - (lg_sl ([.ref (base + 69), .int 5])).length) Slot.unset).toArray = ls at hl ⊢
  have hl : lv_has ls 4 [(0, .ref (base + 69)), (1, .int 5)] := hl
  refine lv_iconst (v := 0) hx hb dX12_count_0 (by decide) ?_
  refine lv_istore_n (lv' := [(2, .int 0), (0, .ref (base + 69)), (1, .int 5)]) hx hb dX12_count_1 rfl hl (by decide) rfl (fun ls hl => ?_)
  refine lv_iload_n hx hb dX12_count_2 rfl (lv_at hl 2 rfl) ?_
  refine lv_tableIn (off := 132) (tgt := 135) hx hb dX12_count_3 (by decide) (by decide) rfl (by decide) ?_
  refine lv_aload_n hx hb dX12_count_135 rfl (lv_at hl 1 rfl) ?_
  refine md_getr hx hb hW hown hK hG f_X12_45_11 (Nat.lt_of_lt_of_le (by decide) hZ) hK69 (b := 81) hR69_25 dX12_count_136 ?_
  refine lv_iconst (v := 3) hx hb dX12_count_139 (by decide) ?_
  refine md_iald hx hb hK hG (Nat.lt_of_lt_of_le (by decide) hZ) hK81 hN81 (md_inD (by decide)) (v := 0) hM81_3 dX12_count_140 ?_
  exact md_endi hx hb hr hlocks hK hT hG (⟨rfl, rfl⟩) dX12_count_141
set_option maxRecDepth 100000 in
set_option maxHeartbeats 4000000 in
theorem c_X12_count_7 (l : Launch) (D : va_G) (cy : Nat → ClassId) (tx : (Nat → Nat) × (Nat → Nat)) (base Z : Nat) (K N : Nat → Nat) (M : Nat → Nat → Int32) (R : Nat → Nat → Option Nat) (J : Nat → Nat → Int64) (hZ : 104 ≤ Z) (hK69 : K 69 = 12) (hR69_25 : R 69 25 = some 81) (hK81 : K 81 = 14) (hN81 : N 81 = 226) (hM81_4 : M 81 4 = 0) : Met l yX12_count [Cond.code yX12_count cX12_count 4 (some .int)] (md_rm 1 0 0) (va_Pc [.ref (base + 69), .int 6] (md_U D cy tx base Z K N M R J)) (mQi D cy tx base (fun r u => r = 0 ∧ u = (Z, K, N, M, R, J))) 0 0 (fun q => base ≤ q) := by
  refine Met.ofW (cc := cX12_count) (maxL := 4) (ret := (some .int)) (by decide) rfl ?_
  intro p e s m args below meth c s₁ B hml hv
  have hW : ∀ w ∈ lw_tbl, goodWord w = true → w.before args s = true := fun w h g => hv.2.2.2.1.2.1 w h g _
  obtain ⟨rfl, hU⟩ := hv
  have hx := B.exec
  have hb := B.bytes
  have hr := B.returns
  have hlocks := B.notSynchronized
  have hown : s.vm.findClass RX12 = some m.cls := findClass_of_methodNamed B.named
  have hK := hU.2.2.1
  have hT := hU.2.2.2
  have hG := md_G.start hU
  have hl := lv_entry ([.ref (base + 69), .int 6]) (n := 4) (Nat.le_of_ble_eq_true rfl)
  rw [lg_entry_eq]
  generalize (lg_sl ([.ref (base + 69), .int 6]) ++ List.replicate (4 - (lg_sl ([.ref (base + 69), .int 6])).length) Slot.unset).toArray = ls at hl ⊢
  have hl : lv_has ls 4 [(0, .ref (base + 69)), (1, .int 6)] := hl
  refine lv_iconst (v := 0) hx hb dX12_count_0 (by decide) ?_
  refine lv_istore_n (lv' := [(2, .int 0), (0, .ref (base + 69)), (1, .int 6)]) hx hb dX12_count_1 rfl hl (by decide) rfl (fun ls hl => ?_)
  refine lv_iload_n hx hb dX12_count_2 rfl (lv_at hl 2 rfl) ?_
  refine lv_tableIn (off := 139) (tgt := 142) hx hb dX12_count_3 (by decide) (by decide) rfl (by decide) ?_
  refine lv_aload_n hx hb dX12_count_142 rfl (lv_at hl 1 rfl) ?_
  refine md_getr hx hb hW hown hK hG f_X12_45_11 (Nat.lt_of_lt_of_le (by decide) hZ) hK69 (b := 81) hR69_25 dX12_count_143 ?_
  refine lv_iconst (v := 4) hx hb dX12_count_146 (by decide) ?_
  refine md_iald hx hb hK hG (Nat.lt_of_lt_of_le (by decide) hZ) hK81 hN81 (md_inD (by decide)) (v := 0) hM81_4 dX12_count_147 ?_
  exact md_endi hx hb hr hlocks hK hT hG (⟨rfl, rfl⟩) dX12_count_148
set_option maxRecDepth 100000 in
set_option maxHeartbeats 4000000 in
theorem c_X12_count_8 (l : Launch) (D : va_G) (cy : Nat → ClassId) (tx : (Nat → Nat) × (Nat → Nat)) (base Z : Nat) (K N : Nat → Nat) (M : Nat → Nat → Int32) (R : Nat → Nat → Option Nat) (J : Nat → Nat → Int64) (hZ : 104 ≤ Z) (hK69 : K 69 = 12) (hR69_25 : R 69 25 = some 81) (hK81 : K 81 = 14) (hN81 : N 81 = 226) (hM81_5 : M 81 5 = 0) : Met l yX12_count [Cond.code yX12_count cX12_count 4 (some .int)] (md_rm 1 0 0) (va_Pc [.ref (base + 69), .int 7] (md_U D cy tx base Z K N M R J)) (mQi D cy tx base (fun r u => r = 0 ∧ u = (Z, K, N, M, R, J))) 0 0 (fun q => base ≤ q) := by
  refine Met.ofW (cc := cX12_count) (maxL := 4) (ret := (some .int)) (by decide) rfl ?_
  intro p e s m args below meth c s₁ B hml hv
  have hW : ∀ w ∈ lw_tbl, goodWord w = true → w.before args s = true := fun w h g => hv.2.2.2.1.2.1 w h g _
  obtain ⟨rfl, hU⟩ := hv
  have hx := B.exec
  have hb := B.bytes
  have hr := B.returns
  have hlocks := B.notSynchronized
  have hown : s.vm.findClass RX12 = some m.cls := findClass_of_methodNamed B.named
  have hK := hU.2.2.1
  have hT := hU.2.2.2
  have hG := md_G.start hU
  have hl := lv_entry ([.ref (base + 69), .int 7]) (n := 4) (Nat.le_of_ble_eq_true rfl)
  rw [lg_entry_eq]
  generalize (lg_sl ([.ref (base + 69), .int 7]) ++ List.replicate (4 - (lg_sl ([.ref (base + 69), .int 7])).length) Slot.unset).toArray = ls at hl ⊢
  have hl : lv_has ls 4 [(0, .ref (base + 69)), (1, .int 7)] := hl
  refine lv_iconst (v := 0) hx hb dX12_count_0 (by decide) ?_
  refine lv_istore_n (lv' := [(2, .int 0), (0, .ref (base + 69)), (1, .int 7)]) hx hb dX12_count_1 rfl hl (by decide) rfl (fun ls hl => ?_)
  refine lv_iload_n hx hb dX12_count_2 rfl (lv_at hl 2 rfl) ?_
  refine lv_tableIn (off := 146) (tgt := 149) hx hb dX12_count_3 (by decide) (by decide) rfl (by decide) ?_
  refine lv_aload_n hx hb dX12_count_149 rfl (lv_at hl 1 rfl) ?_
  refine md_getr hx hb hW hown hK hG f_X12_45_11 (Nat.lt_of_lt_of_le (by decide) hZ) hK69 (b := 81) hR69_25 dX12_count_150 ?_
  refine lv_iconst (v := 5) hx hb dX12_count_153 (by decide) ?_
  refine md_iald hx hb hK hG (Nat.lt_of_lt_of_le (by decide) hZ) hK81 hN81 (md_inD (by decide)) (v := 0) hM81_5 dX12_count_154 ?_
  exact md_endi hx hb hr hlocks hK hT hG (⟨rfl, rfl⟩) dX12_count_155
set_option maxRecDepth 100000 in
set_option maxHeartbeats 4000000 in
theorem c_X12_count_9 (l : Launch) (D : va_G) (cy : Nat → ClassId) (tx : (Nat → Nat) × (Nat → Nat)) (base Z : Nat) (K N : Nat → Nat) (M : Nat → Nat → Int32) (R : Nat → Nat → Option Nat) (J : Nat → Nat → Int64) (hZ : 104 ≤ Z) (hK69 : K 69 = 12) (hR69_25 : R 69 25 = some 81) (hK81 : K 81 = 14) (hN81 : N 81 = 226) (hM81_6 : M 81 6 = 0) : Met l yX12_count [Cond.code yX12_count cX12_count 4 (some .int)] (md_rm 1 0 0) (va_Pc [.ref (base + 69), .int 8] (md_U D cy tx base Z K N M R J)) (mQi D cy tx base (fun r u => r = 0 ∧ u = (Z, K, N, M, R, J))) 0 0 (fun q => base ≤ q) := by
  refine Met.ofW (cc := cX12_count) (maxL := 4) (ret := (some .int)) (by decide) rfl ?_
  intro p e s m args below meth c s₁ B hml hv
  have hW : ∀ w ∈ lw_tbl, goodWord w = true → w.before args s = true := fun w h g => hv.2.2.2.1.2.1 w h g _
  obtain ⟨rfl, hU⟩ := hv
  have hx := B.exec
  have hb := B.bytes
  have hr := B.returns
  have hlocks := B.notSynchronized
  have hown : s.vm.findClass RX12 = some m.cls := findClass_of_methodNamed B.named
  have hK := hU.2.2.1
  have hT := hU.2.2.2
  have hG := md_G.start hU
  have hl := lv_entry ([.ref (base + 69), .int 8]) (n := 4) (Nat.le_of_ble_eq_true rfl)
  rw [lg_entry_eq]
  generalize (lg_sl ([.ref (base + 69), .int 8]) ++ List.replicate (4 - (lg_sl ([.ref (base + 69), .int 8])).length) Slot.unset).toArray = ls at hl ⊢
  have hl : lv_has ls 4 [(0, .ref (base + 69)), (1, .int 8)] := hl
  refine lv_iconst (v := 0) hx hb dX12_count_0 (by decide) ?_
  refine lv_istore_n (lv' := [(2, .int 0), (0, .ref (base + 69)), (1, .int 8)]) hx hb dX12_count_1 rfl hl (by decide) rfl (fun ls hl => ?_)
  refine lv_iload_n hx hb dX12_count_2 rfl (lv_at hl 2 rfl) ?_
  refine lv_tableIn (off := 153) (tgt := 156) hx hb dX12_count_3 (by decide) (by decide) rfl (by decide) ?_
  refine lv_aload_n hx hb dX12_count_156 rfl (lv_at hl 1 rfl) ?_
  refine md_getr hx hb hW hown hK hG f_X12_45_11 (Nat.lt_of_lt_of_le (by decide) hZ) hK69 (b := 81) hR69_25 dX12_count_157 ?_
  refine lv_bipush (v := 6) hx hb dX12_count_160 (by decide) ?_
  refine md_iald hx hb hK hG (Nat.lt_of_lt_of_le (by decide) hZ) hK81 hN81 (md_inD (by decide)) (v := 0) hM81_6 dX12_count_162 ?_
  exact md_endi hx hb hr hlocks hK hT hG (⟨rfl, rfl⟩) dX12_count_163
set_option maxRecDepth 100000 in
set_option maxHeartbeats 4000000 in
theorem c_X12_count_10 (l : Launch) (D : va_G) (cy : Nat → ClassId) (tx : (Nat → Nat) × (Nat → Nat)) (base Z : Nat) (K N : Nat → Nat) (M : Nat → Nat → Int32) (R : Nat → Nat → Option Nat) (J : Nat → Nat → Int64) (hZ : 104 ≤ Z) (hK69 : K 69 = 12) (hM69_1 : M 69 1 = 0) : Met l yX12_count [Cond.code yX12_count cX12_count 4 (some .int)] (md_rm 1 0 0) (va_Pc [.ref (base + 69), .int 9] (md_U D cy tx base Z K N M R J)) (mQi D cy tx base (fun r u => r = 0 ∧ u = (Z, K, N, M, R, J))) 0 0 (fun q => base ≤ q) := by
  refine Met.ofW (cc := cX12_count) (maxL := 4) (ret := (some .int)) (by decide) rfl ?_
  intro p e s m args below meth c s₁ B hml hv
  have hW : ∀ w ∈ lw_tbl, goodWord w = true → w.before args s = true := fun w h g => hv.2.2.2.1.2.1 w h g _
  obtain ⟨rfl, hU⟩ := hv
  have hx := B.exec
  have hb := B.bytes
  have hr := B.returns
  have hlocks := B.notSynchronized
  have hown : s.vm.findClass RX12 = some m.cls := findClass_of_methodNamed B.named
  have hK := hU.2.2.1
  have hT := hU.2.2.2
  have hG := md_G.start hU
  have hl := lv_entry ([.ref (base + 69), .int 9]) (n := 4) (Nat.le_of_ble_eq_true rfl)
  rw [lg_entry_eq]
  generalize (lg_sl ([.ref (base + 69), .int 9]) ++ List.replicate (4 - (lg_sl ([.ref (base + 69), .int 9])).length) Slot.unset).toArray = ls at hl ⊢
  have hl : lv_has ls 4 [(0, .ref (base + 69)), (1, .int 9)] := hl
  refine lv_iconst (v := 0) hx hb dX12_count_0 (by decide) ?_
  refine lv_istore_n (lv' := [(2, .int 0), (0, .ref (base + 69)), (1, .int 9)]) hx hb dX12_count_1 rfl hl (by decide) rfl (fun ls hl => ?_)
  refine lv_iload_n hx hb dX12_count_2 rfl (lv_at hl 2 rfl) ?_
  refine lv_tableIn (off := 161) (tgt := 164) hx hb dX12_count_3 (by decide) (by decide) rfl (by decide) ?_
  refine lv_aload_n hx hb dX12_count_164 rfl (lv_at hl 1 rfl) ?_
  refine md_geti hx hb hW hown hK hG f_X12_116_11 (Nat.lt_of_lt_of_le (by decide) hZ) hK69 (v := 0) hM69_1 dX12_count_165 ?_
  exact md_endi hx hb hr hlocks hK hT hG (⟨rfl, rfl⟩) dX12_count_168
set_option maxRecDepth 100000 in
set_option maxHeartbeats 4000000 in
theorem c_X12_count_11 (l : Launch) (D : va_G) (cy : Nat → ClassId) (tx : (Nat → Nat) × (Nat → Nat)) (base Z : Nat) (K N : Nat → Nat) (M : Nat → Nat → Int32) (R : Nat → Nat → Option Nat) (J : Nat → Nat → Int64) (hZ : 104 ≤ Z) (hK69 : K 69 = 12) (hR69_25 : R 69 25 = some 81) (hK81 : K 81 = 14) (hN81 : N 81 = 226) (hM81_7 : M 81 7 = 0) : Met l yX12_count [Cond.code yX12_count cX12_count 4 (some .int)] (md_rm 1 0 0) (va_Pc [.ref (base + 69), .int 10] (md_U D cy tx base Z K N M R J)) (mQi D cy tx base (fun r u => r = 0 ∧ u = (Z, K, N, M, R, J))) 0 0 (fun q => base ≤ q) := by
  refine Met.ofW (cc := cX12_count) (maxL := 4) (ret := (some .int)) (by decide) rfl ?_
  intro p e s m args below meth c s₁ B hml hv
  have hW : ∀ w ∈ lw_tbl, goodWord w = true → w.before args s = true := fun w h g => hv.2.2.2.1.2.1 w h g _
  obtain ⟨rfl, hU⟩ := hv
  have hx := B.exec
  have hb := B.bytes
  have hr := B.returns
  have hlocks := B.notSynchronized
  have hown : s.vm.findClass RX12 = some m.cls := findClass_of_methodNamed B.named
  have hK := hU.2.2.1
  have hT := hU.2.2.2
  have hG := md_G.start hU
  have hl := lv_entry ([.ref (base + 69), .int 10]) (n := 4) (Nat.le_of_ble_eq_true rfl)
  rw [lg_entry_eq]
  generalize (lg_sl ([.ref (base + 69), .int 10]) ++ List.replicate (4 - (lg_sl ([.ref (base + 69), .int 10])).length) Slot.unset).toArray = ls at hl ⊢
  have hl : lv_has ls 4 [(0, .ref (base + 69)), (1, .int 10)] := hl
  refine lv_iconst (v := 0) hx hb dX12_count_0 (by decide) ?_
  refine lv_istore_n (lv' := [(2, .int 0), (0, .ref (base + 69)), (1, .int 10)]) hx hb dX12_count_1 rfl hl (by decide) rfl (fun ls hl => ?_)
  refine lv_iload_n hx hb dX12_count_2 rfl (lv_at hl 2 rfl) ?_
  refine lv_tableIn (off := 166) (tgt := 169) hx hb dX12_count_3 (by decide) (by decide) rfl (by decide) ?_
  refine lv_aload_n hx hb dX12_count_169 rfl (lv_at hl 1 rfl) ?_
  refine md_getr hx hb hW hown hK hG f_X12_45_11 (Nat.lt_of_lt_of_le (by decide) hZ) hK69 (b := 81) hR69_25 dX12_count_170 ?_
  refine lv_iload_n hx hb dX12_count_173 rfl (lv_at hl 2 rfl) ?_
  refine lv_iconst (v := 3) hx hb dX12_count_174 (by decide) ?_
  refine lv_isub hx hb dX12_count_175 ?_
  refine md_top (y := 7) (by decide) ?_
  refine md_iald hx hb hK hG (Nat.lt_of_lt_of_le (by decide) hZ) hK81 hN81 (md_inD (by decide)) (v := 0) hM81_7 dX12_count_176 ?_
  exact md_endi hx hb hr hlocks hK hT hG (⟨rfl, rfl⟩) dX12_count_177
set_option maxRecDepth 100000 in
set_option maxHeartbeats 4000000 in
theorem c_X12_count_12 (l : Launch) (D : va_G) (cy : Nat → ClassId) (tx : (Nat → Nat) × (Nat → Nat)) (base Z : Nat) (K N : Nat → Nat) (M : Nat → Nat → Int32) (R : Nat → Nat → Option Nat) (J : Nat → Nat → Int64) (hZ : 104 ≤ Z) (hK69 : K 69 = 12) (hR69_25 : R 69 25 = some 81) (hK81 : K 81 = 14) (hN81 : N 81 = 226) (hM81_8 : M 81 8 = 0) : Met l yX12_count [Cond.code yX12_count cX12_count 4 (some .int)] (md_rm 1 0 0) (va_Pc [.ref (base + 69), .int 11] (md_U D cy tx base Z K N M R J)) (mQi D cy tx base (fun r u => r = 0 ∧ u = (Z, K, N, M, R, J))) 0 0 (fun q => base ≤ q) := by
  refine Met.ofW (cc := cX12_count) (maxL := 4) (ret := (some .int)) (by decide) rfl ?_
  intro p e s m args below meth c s₁ B hml hv
  have hW : ∀ w ∈ lw_tbl, goodWord w = true → w.before args s = true := fun w h g => hv.2.2.2.1.2.1 w h g _
  obtain ⟨rfl, hU⟩ := hv
  have hx := B.exec
  have hb := B.bytes
  have hr := B.returns
  have hlocks := B.notSynchronized
  have hown : s.vm.findClass RX12 = some m.cls := findClass_of_methodNamed B.named
  have hK := hU.2.2.1
  have hT := hU.2.2.2
  have hG := md_G.start hU
  have hl := lv_entry ([.ref (base + 69), .int 11]) (n := 4) (Nat.le_of_ble_eq_true rfl)
  rw [lg_entry_eq]
  generalize (lg_sl ([.ref (base + 69), .int 11]) ++ List.replicate (4 - (lg_sl ([.ref (base + 69), .int 11])).length) Slot.unset).toArray = ls at hl ⊢
  have hl : lv_has ls 4 [(0, .ref (base + 69)), (1, .int 11)] := hl
  refine lv_iconst (v := 0) hx hb dX12_count_0 (by decide) ?_
  refine lv_istore_n (lv' := [(2, .int 0), (0, .ref (base + 69)), (1, .int 11)]) hx hb dX12_count_1 rfl hl (by decide) rfl (fun ls hl => ?_)
  refine lv_iload_n hx hb dX12_count_2 rfl (lv_at hl 2 rfl) ?_
  refine lv_tableIn (off := 166) (tgt := 169) hx hb dX12_count_3 (by decide) (by decide) rfl (by decide) ?_
  refine lv_aload_n hx hb dX12_count_169 rfl (lv_at hl 1 rfl) ?_
  refine md_getr hx hb hW hown hK hG f_X12_45_11 (Nat.lt_of_lt_of_le (by decide) hZ) hK69 (b := 81) hR69_25 dX12_count_170 ?_
  refine lv_iload_n hx hb dX12_count_173 rfl (lv_at hl 2 rfl) ?_
  refine lv_iconst (v := 3) hx hb dX12_count_174 (by decide) ?_
  refine lv_isub hx hb dX12_count_175 ?_
  refine md_top (y := 8) (by decide) ?_
  refine md_iald hx hb hK hG (Nat.lt_of_lt_of_le (by decide) hZ) hK81 hN81 (md_inD (by decide)) (v := 0) hM81_8 dX12_count_176 ?_
  exact md_endi hx hb hr hlocks hK hT hG (⟨rfl, rfl⟩) dX12_count_177
set_option maxRecDepth 100000 in
set_option maxHeartbeats 4000000 in
theorem c_X12_count_13 (l : Launch) (D : va_G) (cy : Nat → ClassId) (tx : (Nat → Nat) × (Nat → Nat)) (base Z : Nat) (K N : Nat → Nat) (M : Nat → Nat → Int32) (R : Nat → Nat → Option Nat) (J : Nat → Nat → Int64) (hZ : 104 ≤ Z) (p1 : Int32) (h1 : p1.toInt < 0 ∨ 11 < p1.toInt) : Met l yX12_count [Cond.code yX12_count cX12_count 4 (some .int)] (md_rm 1 0 0) (va_Pc [.ref (base + 69), .int p1] (md_U D cy tx base Z K N M R J)) (mQi D cy tx base (fun r u => r = (-1) ∧ u = (Z, K, N, M, R, J))) 0 0 (fun q => base ≤ q) := by
  refine Met.ofW (cc := cX12_count) (maxL := 4) (ret := (some .int)) (by decide) rfl ?_
  intro p e s m args below meth c s₁ B hml hv
  have hW : ∀ w ∈ lw_tbl, goodWord w = true → w.before args s = true := fun w h g => hv.2.2.2.1.2.1 w h g _
  obtain ⟨rfl, hU⟩ := hv
  have hx := B.exec
  have hb := B.bytes
  have hr := B.returns
  have hlocks := B.notSynchronized
  have hown : s.vm.findClass RX12 = some m.cls := findClass_of_methodNamed B.named
  have hK := hU.2.2.1
  have hT := hU.2.2.2
  have hG := md_G.start hU
  have hl := lv_entry ([.ref (base + 69), .int p1]) (n := 4) (Nat.le_of_ble_eq_true rfl)
  rw [lg_entry_eq]
  generalize (lg_sl ([.ref (base + 69), .int p1]) ++ List.replicate (4 - (lg_sl ([.ref (base + 69), .int p1])).length) Slot.unset).toArray = ls at hl ⊢
  have hl : lv_has ls 4 [(0, .ref (base + 69)), (1, .int p1)] := hl
  refine lv_iconst (v := 0) hx hb dX12_count_0 (by decide) ?_
  refine lv_istore_n (lv' := [(2, .int 0), (0, .ref (base + 69)), (1, .int p1)]) hx hb dX12_count_1 rfl hl (by decide) rfl (fun ls hl => ?_)
  refine lv_iload_n hx hb dX12_count_2 rfl (lv_at hl 2 rfl) ?_
  refine lv_tableOut (tgt := 178) hx hb dX12_count_3 h1 (by decide) ?_
  refine lv_iconst (v := (-1)) hx hb dX12_count_178 (by decide) ?_
  exact md_endi hx hb hr hlocks hK hT hG (⟨rfl, rfl⟩) dX12_count_179
set_option maxRecDepth 100000 in
set_option maxHeartbeats 4000000 in
theorem c_X12_in_7 (l : Launch) (D : va_G) (cy : Nat → ClassId) (tx : (Nat → Nat) × (Nat → Nat)) (base Z : Nat) (K N : Nat → Nat) (M : Nat → Nat → Int32) (R : Nat → Nat → Option Nat) (J : Nat → Nat → Int64) (hZ : 104 ≤ Z) (p1 : Int64) : Met l yX12_in [Cond.code yX12_in cX12_in 6 (some .boolean)] (md_rm 1 0 0) (va_Pc [.long p1, .long 0, .long 3] (md_U D cy tx base Z K N M R J)) (mQi D cy tx base (fun r u => (r = 0 ∧ u = (Z, K, N, M, R, J)) ∨ (¬ (lg_cmp p1 0) < 0 ∧ ¬ 0 < (lg_cmp p1 3) ∧ r = 1 ∧ u = (Z, K, N, M, R, J)))) 0 0 (fun q => base ≤ q) := by
  refine Met.ofW (cc := cX12_in) (maxL := 6) (ret := (some .boolean)) (by decide) rfl ?_
  intro p e s m args below meth c s₁ B hml hv
  have hW : ∀ w ∈ lw_tbl, goodWord w = true → w.before args s = true := fun w h g => hv.2.2.2.1.2.1 w h g _
  obtain ⟨rfl, hU⟩ := hv
  have hx := B.exec
  have hb := B.bytes
  have hr := B.returns
  have hlocks := B.notSynchronized
  have hown : s.vm.findClass RX12 = some m.cls := findClass_of_methodNamed B.named
  have hK := hU.2.2.1
  have hT := hU.2.2.2
  have hG := md_G.start hU
  have hl := lv_entry ([.long p1, .long 0, .long 3]) (n := 6) (Nat.le_of_ble_eq_true rfl)
  rw [lg_entry_eq]
  generalize (lg_sl ([.long p1, .long 0, .long 3]) ++ List.replicate (6 - (lg_sl ([.long p1, .long 0, .long 3])).length) Slot.unset).toArray = ls at hl ⊢
  have hl : lv_has ls 6 [(0, .long p1), (2, .long 0), (4, .long 3)] := hl
  refine lv_lload_n hx hb dX12_in_0 rfl (lv_at hl 0 rfl) ?_
  refine lv_lload_n hx hb dX12_in_1 rfl (lv_at hl 1 rfl) ?_
  refine W.lcmp hx hb dX12_in_2 ?_
  refine lv_if_lt (tgt := 17) hx hb dX12_in_3 (by decide) (fun c1 => ?_) (fun c1 => ?_)
  · refine lv_iconst (v := 0) hx hb dX12_in_17 (by decide) ?_
    exact md_endz hx hb hr hlocks hK hT hG rfl (Or.inl ⟨rfl, rfl⟩) dX12_in_18
  · refine lv_lload_n hx hb dX12_in_6 rfl (lv_at hl 0 rfl) ?_
    refine lv_lload hx hb dX12_in_7 (lv_at hl 2 rfl) ?_
    refine W.lcmp hx hb dX12_in_9 ?_
    refine lv_if_gt (tgt := 17) hx hb dX12_in_10 (by decide) (fun c2 => ?_) (fun c2 => ?_)
    · refine lv_iconst (v := 0) hx hb dX12_in_17 (by decide) ?_
      exact md_endz hx hb hr hlocks hK hT hG rfl (Or.inl ⟨rfl, rfl⟩) dX12_in_18
    · refine lv_iconst (v := 1) hx hb dX12_in_13 (by decide) ?_
      refine lv_goto (tgt := 18) hx hb dX12_in_14 (by decide) ?_
      exact md_endz hx hb hr hlocks hK hT hG rfl (Or.inr (⟨c1, c2, rfl, rfl⟩)) dX12_in_18
set_option maxRecDepth 100000 in
set_option maxHeartbeats 4000000 in
theorem c_X12_image (l : Launch) (D : va_G) (cy : Nat → ClassId) (tx : (Nat → Nat) × (Nat → Nat)) (base Z : Nat) (K N : Nat → Nat) (M : Nat → Nat → Int32) (R : Nat → Nat → Option Nat) (J : Nat → Nat → Int64) (hZ : 104 ≤ Z) (hK69 : K 69 = 12) (hR69_26 : R 69 26 = some 82) (hK82 : K 82 = 14) (hN82 : N 82 = 2) (hM82_0 : M 82 0 = 0) (p1 : Int32) (h1 : p1 < 0) : Met l yX12_image [Cond.code yX12_image cX12_image 3 (some .int)] (md_rm 2 0 0) (va_Pc [.ref (base + 69), .int p1] (md_U D cy tx base Z K N M R J)) (mQi D cy tx base (fun r u => r = (-2) ∧ u = (Z, K, N, (u2 M 82 0 1), R, J))) 0 0 (fun q => base ≤ q) := by
  refine Met.ofW (cc := cX12_image) (maxL := 3) (ret := (some .int)) (by decide) rfl ?_
  intro p e s m args below meth c s₁ B hml hv
  have hW : ∀ w ∈ lw_tbl, goodWord w = true → w.before args s = true := fun w h g => hv.2.2.2.1.2.1 w h g _
  obtain ⟨rfl, hU⟩ := hv
  have hx := B.exec
  have hb := B.bytes
  have hr := B.returns
  have hlocks := B.notSynchronized
  have hown : s.vm.findClass RX12 = some m.cls := findClass_of_methodNamed B.named
  have hK := hU.2.2.1
  have hT := hU.2.2.2
  have hG := md_G.start hU
  have hl := lv_entry ([.ref (base + 69), .int p1]) (n := 3) (Nat.le_of_ble_eq_true rfl)
  rw [lg_entry_eq]
  generalize (lg_sl ([.ref (base + 69), .int p1]) ++ List.replicate (3 - (lg_sl ([.ref (base + 69), .int p1])).length) Slot.unset).toArray = ls at hl ⊢
  have hl : lv_has ls 3 [(0, .ref (base + 69)), (1, .int p1)] := hl
  refine lv_iload_n hx hb dX12_image_0 rfl (lv_at hl 1 rfl) ?_
  refine lv_i2l hx hb dX12_image_1 rfl ?_
  refine lv_lconst (v := 0) hx hb dX12_image_2 (by decide) ?_
  refine lv_ldc2 hx hb hown (hW _ w_8_59 rfl) dX12_image_3 ?_
  refine md_goi hG (md_runS (As := [.long p1.toInt64, .long 0, .long 3]) (rest := []) hx hb hml hown hW hK hT hG (c_X12_in_7 l D cy tx base  Z  K N M R J hZ  p1.toInt64) s_X12_155 ⟨rfl, rfl, ⟨Nat.le_of_ble_eq_true rfl, Nat.le_of_ble_eq_true rfl⟩, ⟨Nat.le_of_ble_eq_true rfl, Nat.le_of_ble_eq_true rfl⟩⟩ rfl hl.1 rfl (Nat.le_of_ble_eq_true rfl) dX12_image_6) (fun r u H locs hp hG => ?_)
  rcases hp with ⟨rfl, rfl⟩ | ⟨d0_0, d0_1, rfl, rfl⟩
  · have hG : md_G D cy base Z K N M R J s H locs := hG
    refine lv_if_ne (tgt := 18) hx hb dX12_image_9 (by decide) (fun h => absurd h (by decide)) (fun _ => ?_)
    refine lv_aload_n hx hb dX12_image_12 rfl (lv_at hl 0 rfl) ?_
    refine lv_iconst (v := 0) hx hb dX12_image_13 (by decide) ?_
    refine md_goi hG (md_runV (As := [.int 0]) (rest := []) hx hb hml hown hW hK hT hG (c_X12_refuses l D cy tx base  Z  K N M R J hZ hK69 hR69_26 hK82 hN82 hM82_0 ) s_X12_338 ⟨rfl, rfl, ⟨Nat.le_of_ble_eq_true rfl, Nat.le_of_ble_eq_true rfl⟩, ⟨Nat.le_of_ble_eq_true rfl, Nat.le_of_ble_eq_true rfl⟩⟩ (Nat.lt_of_lt_of_le (by decide) hZ) hK69 (by decide) rfl rfl hl.1 rfl (Nat.le_of_ble_eq_true rfl) dX12_image_14) (fun r u H locs hp hG => ?_)
    obtain ⟨rfl, rfl⟩ := hp
    have hG : md_G D cy base Z K N (u2 M 82 0 1) R J s H locs := hG
    exact md_endi hx hb hr hlocks hK hT hG (⟨rfl, rfl⟩) dX12_image_17
  · have hG : md_G D cy base Z K N M R J s H locs := hG
    exact absurd (md_lcn h1) d0_0
set_option maxRecDepth 100000 in
set_option maxHeartbeats 4000000 in
theorem c_X12_image_2 (l : Launch) (D : va_G) (cy : Nat → ClassId) (tx : (Nat → Nat) × (Nat → Nat)) (base Z : Nat) (K N : Nat → Nat) (M : Nat → Nat → Int32) (R : Nat → Nat → Option Nat) (J : Nat → Nat → Int64) (hZ : 104 ≤ Z) (hK69 : K 69 = 12) (hR69_26 : R 69 26 = some 82) (hK82 : K 82 = 14) (hN82 : N 82 = 2) (hM82_0 : M 82 0 = 0) (p1 : Int32) (h1 : ¬ p1 < 0) (h2 : ¬ p1 < 4) : Met l yX12_image [Cond.code yX12_image cX12_image 3 (some .int)] (md_rm 2 0 0) (va_Pc [.ref (base + 69), .int p1] (md_U D cy tx base Z K N M R J)) (mQi D cy tx base (fun r u => r = (-2) ∧ u = (Z, K, N, (u2 M 82 0 1), R, J))) 0 0 (fun q => base ≤ q) := by
  refine Met.ofW (cc := cX12_image) (maxL := 3) (ret := (some .int)) (by decide) rfl ?_
  intro p e s m args below meth c s₁ B hml hv
  have hW : ∀ w ∈ lw_tbl, goodWord w = true → w.before args s = true := fun w h g => hv.2.2.2.1.2.1 w h g _
  obtain ⟨rfl, hU⟩ := hv
  have hx := B.exec
  have hb := B.bytes
  have hr := B.returns
  have hlocks := B.notSynchronized
  have hown : s.vm.findClass RX12 = some m.cls := findClass_of_methodNamed B.named
  have hK := hU.2.2.1
  have hT := hU.2.2.2
  have hG := md_G.start hU
  have hl := lv_entry ([.ref (base + 69), .int p1]) (n := 3) (Nat.le_of_ble_eq_true rfl)
  rw [lg_entry_eq]
  generalize (lg_sl ([.ref (base + 69), .int p1]) ++ List.replicate (3 - (lg_sl ([.ref (base + 69), .int p1])).length) Slot.unset).toArray = ls at hl ⊢
  have hl : lv_has ls 3 [(0, .ref (base + 69)), (1, .int p1)] := hl
  refine lv_iload_n hx hb dX12_image_0 rfl (lv_at hl 1 rfl) ?_
  refine lv_i2l hx hb dX12_image_1 rfl ?_
  refine lv_lconst (v := 0) hx hb dX12_image_2 (by decide) ?_
  refine lv_ldc2 hx hb hown (hW _ w_8_59 rfl) dX12_image_3 ?_
  refine md_goi hG (md_runS (As := [.long p1.toInt64, .long 0, .long 3]) (rest := []) hx hb hml hown hW hK hT hG (c_X12_in_7 l D cy tx base  Z  K N M R J hZ  p1.toInt64) s_X12_155 ⟨rfl, rfl, ⟨Nat.le_of_ble_eq_true rfl, Nat.le_of_ble_eq_true rfl⟩, ⟨Nat.le_of_ble_eq_true rfl, Nat.le_of_ble_eq_true rfl⟩⟩ rfl hl.1 rfl (Nat.le_of_ble_eq_true rfl) dX12_image_6) (fun r u H locs hp hG => ?_)
  rcases hp with ⟨rfl, rfl⟩ | ⟨d0_0, d0_1, rfl, rfl⟩
  · have hG : md_G D cy base Z K N M R J s H locs := hG
    refine lv_if_ne (tgt := 18) hx hb dX12_image_9 (by decide) (fun h => absurd h (by decide)) (fun _ => ?_)
    refine lv_aload_n hx hb dX12_image_12 rfl (lv_at hl 0 rfl) ?_
    refine lv_iconst (v := 0) hx hb dX12_image_13 (by decide) ?_
    refine md_goi hG (md_runV (As := [.int 0]) (rest := []) hx hb hml hown hW hK hT hG (c_X12_refuses l D cy tx base  Z  K N M R J hZ hK69 hR69_26 hK82 hN82 hM82_0 ) s_X12_338 ⟨rfl, rfl, ⟨Nat.le_of_ble_eq_true rfl, Nat.le_of_ble_eq_true rfl⟩, ⟨Nat.le_of_ble_eq_true rfl, Nat.le_of_ble_eq_true rfl⟩⟩ (Nat.lt_of_lt_of_le (by decide) hZ) hK69 (by decide) rfl rfl hl.1 rfl (Nat.le_of_ble_eq_true rfl) dX12_image_14) (fun r u H locs hp hG => ?_)
    obtain ⟨rfl, rfl⟩ := hp
    have hG : md_G D cy base Z K N (u2 M 82 0 1) R J s H locs := hG
    exact md_endi hx hb hr hlocks hK hT hG (⟨rfl, rfl⟩) dX12_image_17
  · have hG : md_G D cy base Z K N M R J s H locs := hG
    exact absurd (md_lc4 h2) d0_1
set_option maxRecDepth 100000 in
set_option maxHeartbeats 4000000 in
theorem c_X12_in_8 (l : Launch) (D : va_G) (cy : Nat → ClassId) (tx : (Nat → Nat) × (Nat → Nat)) (base Z : Nat) (K N : Nat → Nat) (M : Nat → Nat → Int32) (R : Nat → Nat → Option Nat) (J : Nat → Nat → Int64) (hZ : 104 ≤ Z) : Met l yX12_in [Cond.code yX12_in cX12_in 6 (some .boolean)] (md_rm 1 0 0) (va_Pc [.long 0, .long 0, .long 3] (md_U D cy tx base Z K N M R J)) (mQi D cy tx base (fun r u => r = 1 ∧ u = (Z, K, N, M, R, J))) 0 0 (fun q => base ≤ q) := by
  refine Met.ofW (cc := cX12_in) (maxL := 6) (ret := (some .boolean)) (by decide) rfl ?_
  intro p e s m args below meth c s₁ B hml hv
  have hW : ∀ w ∈ lw_tbl, goodWord w = true → w.before args s = true := fun w h g => hv.2.2.2.1.2.1 w h g _
  obtain ⟨rfl, hU⟩ := hv
  have hx := B.exec
  have hb := B.bytes
  have hr := B.returns
  have hlocks := B.notSynchronized
  have hown : s.vm.findClass RX12 = some m.cls := findClass_of_methodNamed B.named
  have hK := hU.2.2.1
  have hT := hU.2.2.2
  have hG := md_G.start hU
  have hl := lv_entry ([.long 0, .long 0, .long 3]) (n := 6) (Nat.le_of_ble_eq_true rfl)
  rw [lg_entry_eq]
  generalize (lg_sl ([.long 0, .long 0, .long 3]) ++ List.replicate (6 - (lg_sl ([.long 0, .long 0, .long 3])).length) Slot.unset).toArray = ls at hl ⊢
  have hl : lv_has ls 6 [(0, .long 0), (2, .long 0), (4, .long 3)] := hl
  refine lv_lload_n hx hb dX12_in_0 rfl (lv_at hl 0 rfl) ?_
  refine lv_lload_n hx hb dX12_in_1 rfl (lv_at hl 1 rfl) ?_
  refine W.lcmp hx hb dX12_in_2 ?_
  refine md_top (y := 0) (by decide) ?_
  refine lv_if_lt (tgt := 17) hx hb dX12_in_3 (by decide) (fun h => absurd h (by decide)) (fun _ => ?_)
  refine lv_lload_n hx hb dX12_in_6 rfl (lv_at hl 0 rfl) ?_
  refine lv_lload hx hb dX12_in_7 (lv_at hl 2 rfl) ?_
  refine W.lcmp hx hb dX12_in_9 ?_
  refine md_top (y := (-1)) (by decide) ?_
  refine lv_if_gt (tgt := 17) hx hb dX12_in_10 (by decide) (fun h => absurd h (by decide)) (fun _ => ?_)
  refine lv_iconst (v := 1) hx hb dX12_in_13 (by decide) ?_
  refine lv_goto (tgt := 18) hx hb dX12_in_14 (by decide) ?_
  exact md_endz hx hb hr hlocks hK hT hG rfl (⟨rfl, rfl⟩) dX12_in_18
set_option maxRecDepth 100000 in
set_option maxHeartbeats 4000000 in
theorem c_X12_back (l : Launch) (D : va_G) (cy : Nat → ClassId) (tx : (Nat → Nat) × (Nat → Nat)) (base Z : Nat) (K N : Nat → Nat) (M : Nat → Nat → Int32) (R : Nat → Nat → Option Nat) (J : Nat → Nat → Int64) (hZ : 104 ≤ Z) (hK69 : K 69 = 12) (hR69_54 : R 69 54 = some 103) (hK103 : K 103 = 16) (hN103 : N 103 = 4) (hM103_0 : M 103 0 = 0) (hR69_26 : R 69 26 = some 82) (hK82 : K 82 = 14) (hN82 : N 82 = 2) (hM82_0 : M 82 0 = 0) : Met l yX12_back [Cond.code yX12_back cX12_back 3 (some .int)] (md_rm 2 0 0) (va_Pc [.ref (base + 69), .int 0] (md_U D cy tx base Z K N M R J)) (mQi D cy tx base (fun r u => r = (-2) ∧ u = (Z, K, N, (u2 M 82 0 1), R, J))) 0 0 (fun q => base ≤ q) := by
  refine Met.ofW (cc := cX12_back) (maxL := 3) (ret := (some .int)) (by decide) rfl ?_
  intro p e s m args below meth c s₁ B hml hv
  have hW : ∀ w ∈ lw_tbl, goodWord w = true → w.before args s = true := fun w h g => hv.2.2.2.1.2.1 w h g _
  obtain ⟨rfl, hU⟩ := hv
  have hx := B.exec
  have hb := B.bytes
  have hr := B.returns
  have hlocks := B.notSynchronized
  have hown : s.vm.findClass RX12 = some m.cls := findClass_of_methodNamed B.named
  have hK := hU.2.2.1
  have hT := hU.2.2.2
  have hG := md_G.start hU
  have hl := lv_entry ([.ref (base + 69), .int 0]) (n := 3) (Nat.le_of_ble_eq_true rfl)
  rw [lg_entry_eq]
  generalize (lg_sl ([.ref (base + 69), .int 0]) ++ List.replicate (3 - (lg_sl ([.ref (base + 69), .int 0])).length) Slot.unset).toArray = ls at hl ⊢
  have hl : lv_has ls 3 [(0, .ref (base + 69)), (1, .int 0)] := hl
  refine lv_iload_n hx hb dX12_back_0 rfl (lv_at hl 1 rfl) ?_
  refine lv_i2l (v := 0) hx hb dX12_back_1 (by decide) ?_
  refine lv_lconst (v := 0) hx hb dX12_back_2 (by decide) ?_
  refine lv_ldc2 hx hb hown (hW _ w_8_59 rfl) dX12_back_3 ?_
  refine md_goi hG (md_runS (As := [.long 0, .long 0, .long 3]) (rest := []) hx hb hml hown hW hK hT hG (c_X12_in_8 l D cy tx base  Z  K N M R J hZ  ) s_X12_155 ⟨rfl, rfl, ⟨Nat.le_of_ble_eq_true rfl, Nat.le_of_ble_eq_true rfl⟩, ⟨Nat.le_of_ble_eq_true rfl, Nat.le_of_ble_eq_true rfl⟩⟩ rfl hl.1 rfl (Nat.le_of_ble_eq_true rfl) dX12_back_6) (fun r u H locs hp hG => ?_)
  obtain ⟨rfl, rfl⟩ := hp
  have hG : md_G D cy base Z K N M R J s H locs := hG
  refine lv_if_eq (tgt := 21) hx hb dX12_back_9 (by decide) (fun h => absurd h (by decide)) (fun _ => ?_)
  refine lv_aload_n hx hb dX12_back_12 rfl (lv_at hl 0 rfl) ?_
  refine md_getr hx hb hW hown hK hG f_X12_112_11 (Nat.lt_of_lt_of_le (by decide) hZ) hK69 (b := 103) hR69_54 dX12_back_13 ?_
  refine lv_iload_n hx hb dX12_back_16 rfl (lv_at hl 1 rfl) ?_
  refine md_zald hx hb hK hG (Nat.lt_of_lt_of_le (by decide) hZ) hK103 hN103 (md_inD (by decide)) (v := 0) hM103_0 dX12_back_17 ?_
  refine lv_if_ne (tgt := 27) hx hb dX12_back_18 (by decide) (fun h => absurd h (by decide)) (fun _ => ?_)
  refine lv_aload_n hx hb dX12_back_21 rfl (lv_at hl 0 rfl) ?_
  refine lv_iconst (v := 0) hx hb dX12_back_22 (by decide) ?_
  refine md_goi hG (md_runV (As := [.int 0]) (rest := []) hx hb hml hown hW hK hT hG (c_X12_refuses l D cy tx base  Z  K N M R J hZ hK69 hR69_26 hK82 hN82 hM82_0 ) s_X12_338 ⟨rfl, rfl, ⟨Nat.le_of_ble_eq_true rfl, Nat.le_of_ble_eq_true rfl⟩, ⟨Nat.le_of_ble_eq_true rfl, Nat.le_of_ble_eq_true rfl⟩⟩ (Nat.lt_of_lt_of_le (by decide) hZ) hK69 (by decide) rfl rfl hl.1 rfl (Nat.le_of_ble_eq_true rfl) dX12_back_23) (fun r u H locs hp hG => ?_)
  obtain ⟨rfl, rfl⟩ := hp
  have hG : md_G D cy base Z K N (u2 M 82 0 1) R J s H locs := hG
  exact md_endi hx hb hr hlocks hK hT hG (⟨rfl, rfl⟩) dX12_back_26
set_option maxRecDepth 100000 in
set_option maxHeartbeats 4000000 in
theorem c_X12_in_9 (l : Launch) (D : va_G) (cy : Nat → ClassId) (tx : (Nat → Nat) × (Nat → Nat)) (base Z : Nat) (K N : Nat → Nat) (M : Nat → Nat → Int32) (R : Nat → Nat → Option Nat) (J : Nat → Nat → Int64) (hZ : 104 ≤ Z) : Met l yX12_in [Cond.code yX12_in cX12_in 6 (some .boolean)] (md_rm 1 0 0) (va_Pc [.long 1, .long 0, .long 3] (md_U D cy tx base Z K N M R J)) (mQi D cy tx base (fun r u => r = 1 ∧ u = (Z, K, N, M, R, J))) 0 0 (fun q => base ≤ q) := by
  refine Met.ofW (cc := cX12_in) (maxL := 6) (ret := (some .boolean)) (by decide) rfl ?_
  intro p e s m args below meth c s₁ B hml hv
  have hW : ∀ w ∈ lw_tbl, goodWord w = true → w.before args s = true := fun w h g => hv.2.2.2.1.2.1 w h g _
  obtain ⟨rfl, hU⟩ := hv
  have hx := B.exec
  have hb := B.bytes
  have hr := B.returns
  have hlocks := B.notSynchronized
  have hown : s.vm.findClass RX12 = some m.cls := findClass_of_methodNamed B.named
  have hK := hU.2.2.1
  have hT := hU.2.2.2
  have hG := md_G.start hU
  have hl := lv_entry ([.long 1, .long 0, .long 3]) (n := 6) (Nat.le_of_ble_eq_true rfl)
  rw [lg_entry_eq]
  generalize (lg_sl ([.long 1, .long 0, .long 3]) ++ List.replicate (6 - (lg_sl ([.long 1, .long 0, .long 3])).length) Slot.unset).toArray = ls at hl ⊢
  have hl : lv_has ls 6 [(0, .long 1), (2, .long 0), (4, .long 3)] := hl
  refine lv_lload_n hx hb dX12_in_0 rfl (lv_at hl 0 rfl) ?_
  refine lv_lload_n hx hb dX12_in_1 rfl (lv_at hl 1 rfl) ?_
  refine W.lcmp hx hb dX12_in_2 ?_
  refine md_top (y := 1) (by decide) ?_
  refine lv_if_lt (tgt := 17) hx hb dX12_in_3 (by decide) (fun h => absurd h (by decide)) (fun _ => ?_)
  refine lv_lload_n hx hb dX12_in_6 rfl (lv_at hl 0 rfl) ?_
  refine lv_lload hx hb dX12_in_7 (lv_at hl 2 rfl) ?_
  refine W.lcmp hx hb dX12_in_9 ?_
  refine md_top (y := (-1)) (by decide) ?_
  refine lv_if_gt (tgt := 17) hx hb dX12_in_10 (by decide) (fun h => absurd h (by decide)) (fun _ => ?_)
  refine lv_iconst (v := 1) hx hb dX12_in_13 (by decide) ?_
  refine lv_goto (tgt := 18) hx hb dX12_in_14 (by decide) ?_
  exact md_endz hx hb hr hlocks hK hT hG rfl (⟨rfl, rfl⟩) dX12_in_18
set_option maxRecDepth 100000 in
set_option maxHeartbeats 4000000 in
theorem c_X12_back_2 (l : Launch) (D : va_G) (cy : Nat → ClassId) (tx : (Nat → Nat) × (Nat → Nat)) (base Z : Nat) (K N : Nat → Nat) (M : Nat → Nat → Int32) (R : Nat → Nat → Option Nat) (J : Nat → Nat → Int64) (hZ : 104 ≤ Z) (hK69 : K 69 = 12) (hR69_54 : R 69 54 = some 103) (hK103 : K 103 = 16) (hN103 : N 103 = 4) (hM103_1 : M 103 1 = 0) (hR69_26 : R 69 26 = some 82) (hK82 : K 82 = 14) (hN82 : N 82 = 2) (hM82_0 : M 82 0 = 0) : Met l yX12_back [Cond.code yX12_back cX12_back 3 (some .int)] (md_rm 2 0 0) (va_Pc [.ref (base + 69), .int 1] (md_U D cy tx base Z K N M R J)) (mQi D cy tx base (fun r u => r = (-2) ∧ u = (Z, K, N, (u2 M 82 0 1), R, J))) 0 0 (fun q => base ≤ q) := by
  refine Met.ofW (cc := cX12_back) (maxL := 3) (ret := (some .int)) (by decide) rfl ?_
  intro p e s m args below meth c s₁ B hml hv
  have hW : ∀ w ∈ lw_tbl, goodWord w = true → w.before args s = true := fun w h g => hv.2.2.2.1.2.1 w h g _
  obtain ⟨rfl, hU⟩ := hv
  have hx := B.exec
  have hb := B.bytes
  have hr := B.returns
  have hlocks := B.notSynchronized
  have hown : s.vm.findClass RX12 = some m.cls := findClass_of_methodNamed B.named
  have hK := hU.2.2.1
  have hT := hU.2.2.2
  have hG := md_G.start hU
  have hl := lv_entry ([.ref (base + 69), .int 1]) (n := 3) (Nat.le_of_ble_eq_true rfl)
  rw [lg_entry_eq]
  generalize (lg_sl ([.ref (base + 69), .int 1]) ++ List.replicate (3 - (lg_sl ([.ref (base + 69), .int 1])).length) Slot.unset).toArray = ls at hl ⊢
  have hl : lv_has ls 3 [(0, .ref (base + 69)), (1, .int 1)] := hl
  refine lv_iload_n hx hb dX12_back_0 rfl (lv_at hl 1 rfl) ?_
  refine lv_i2l (v := 1) hx hb dX12_back_1 (by decide) ?_
  refine lv_lconst (v := 0) hx hb dX12_back_2 (by decide) ?_
  refine lv_ldc2 hx hb hown (hW _ w_8_59 rfl) dX12_back_3 ?_
  refine md_goi hG (md_runS (As := [.long 1, .long 0, .long 3]) (rest := []) hx hb hml hown hW hK hT hG (c_X12_in_9 l D cy tx base  Z  K N M R J hZ  ) s_X12_155 ⟨rfl, rfl, ⟨Nat.le_of_ble_eq_true rfl, Nat.le_of_ble_eq_true rfl⟩, ⟨Nat.le_of_ble_eq_true rfl, Nat.le_of_ble_eq_true rfl⟩⟩ rfl hl.1 rfl (Nat.le_of_ble_eq_true rfl) dX12_back_6) (fun r u H locs hp hG => ?_)
  obtain ⟨rfl, rfl⟩ := hp
  have hG : md_G D cy base Z K N M R J s H locs := hG
  refine lv_if_eq (tgt := 21) hx hb dX12_back_9 (by decide) (fun h => absurd h (by decide)) (fun _ => ?_)
  refine lv_aload_n hx hb dX12_back_12 rfl (lv_at hl 0 rfl) ?_
  refine md_getr hx hb hW hown hK hG f_X12_112_11 (Nat.lt_of_lt_of_le (by decide) hZ) hK69 (b := 103) hR69_54 dX12_back_13 ?_
  refine lv_iload_n hx hb dX12_back_16 rfl (lv_at hl 1 rfl) ?_
  refine md_zald hx hb hK hG (Nat.lt_of_lt_of_le (by decide) hZ) hK103 hN103 (md_inD (by decide)) (v := 0) hM103_1 dX12_back_17 ?_
  refine lv_if_ne (tgt := 27) hx hb dX12_back_18 (by decide) (fun h => absurd h (by decide)) (fun _ => ?_)
  refine lv_aload_n hx hb dX12_back_21 rfl (lv_at hl 0 rfl) ?_
  refine lv_iconst (v := 0) hx hb dX12_back_22 (by decide) ?_
  refine md_goi hG (md_runV (As := [.int 0]) (rest := []) hx hb hml hown hW hK hT hG (c_X12_refuses l D cy tx base  Z  K N M R J hZ hK69 hR69_26 hK82 hN82 hM82_0 ) s_X12_338 ⟨rfl, rfl, ⟨Nat.le_of_ble_eq_true rfl, Nat.le_of_ble_eq_true rfl⟩, ⟨Nat.le_of_ble_eq_true rfl, Nat.le_of_ble_eq_true rfl⟩⟩ (Nat.lt_of_lt_of_le (by decide) hZ) hK69 (by decide) rfl rfl hl.1 rfl (Nat.le_of_ble_eq_true rfl) dX12_back_23) (fun r u H locs hp hG => ?_)
  obtain ⟨rfl, rfl⟩ := hp
  have hG : md_G D cy base Z K N (u2 M 82 0 1) R J s H locs := hG
  exact md_endi hx hb hr hlocks hK hT hG (⟨rfl, rfl⟩) dX12_back_26
set_option maxRecDepth 100000 in
set_option maxHeartbeats 4000000 in
theorem c_X12_in_10 (l : Launch) (D : va_G) (cy : Nat → ClassId) (tx : (Nat → Nat) × (Nat → Nat)) (base Z : Nat) (K N : Nat → Nat) (M : Nat → Nat → Int32) (R : Nat → Nat → Option Nat) (J : Nat → Nat → Int64) (hZ : 104 ≤ Z) : Met l yX12_in [Cond.code yX12_in cX12_in 6 (some .boolean)] (md_rm 1 0 0) (va_Pc [.long 2, .long 0, .long 3] (md_U D cy tx base Z K N M R J)) (mQi D cy tx base (fun r u => r = 1 ∧ u = (Z, K, N, M, R, J))) 0 0 (fun q => base ≤ q) := by
  refine Met.ofW (cc := cX12_in) (maxL := 6) (ret := (some .boolean)) (by decide) rfl ?_
  intro p e s m args below meth c s₁ B hml hv
  have hW : ∀ w ∈ lw_tbl, goodWord w = true → w.before args s = true := fun w h g => hv.2.2.2.1.2.1 w h g _
  obtain ⟨rfl, hU⟩ := hv
  have hx := B.exec
  have hb := B.bytes
  have hr := B.returns
  have hlocks := B.notSynchronized
  have hown : s.vm.findClass RX12 = some m.cls := findClass_of_methodNamed B.named
  have hK := hU.2.2.1
  have hT := hU.2.2.2
  have hG := md_G.start hU
  have hl := lv_entry ([.long 2, .long 0, .long 3]) (n := 6) (Nat.le_of_ble_eq_true rfl)
  rw [lg_entry_eq]
  generalize (lg_sl ([.long 2, .long 0, .long 3]) ++ List.replicate (6 - (lg_sl ([.long 2, .long 0, .long 3])).length) Slot.unset).toArray = ls at hl ⊢
  have hl : lv_has ls 6 [(0, .long 2), (2, .long 0), (4, .long 3)] := hl
  refine lv_lload_n hx hb dX12_in_0 rfl (lv_at hl 0 rfl) ?_
  refine lv_lload_n hx hb dX12_in_1 rfl (lv_at hl 1 rfl) ?_
  refine W.lcmp hx hb dX12_in_2 ?_
  refine md_top (y := 1) (by decide) ?_
  refine lv_if_lt (tgt := 17) hx hb dX12_in_3 (by decide) (fun h => absurd h (by decide)) (fun _ => ?_)
  refine lv_lload_n hx hb dX12_in_6 rfl (lv_at hl 0 rfl) ?_
  refine lv_lload hx hb dX12_in_7 (lv_at hl 2 rfl) ?_
  refine W.lcmp hx hb dX12_in_9 ?_
  refine md_top (y := (-1)) (by decide) ?_
  refine lv_if_gt (tgt := 17) hx hb dX12_in_10 (by decide) (fun h => absurd h (by decide)) (fun _ => ?_)
  refine lv_iconst (v := 1) hx hb dX12_in_13 (by decide) ?_
  refine lv_goto (tgt := 18) hx hb dX12_in_14 (by decide) ?_
  exact md_endz hx hb hr hlocks hK hT hG rfl (⟨rfl, rfl⟩) dX12_in_18
set_option maxRecDepth 100000 in
set_option maxHeartbeats 4000000 in
theorem c_X12_back_3 (l : Launch) (D : va_G) (cy : Nat → ClassId) (tx : (Nat → Nat) × (Nat → Nat)) (base Z : Nat) (K N : Nat → Nat) (M : Nat → Nat → Int32) (R : Nat → Nat → Option Nat) (J : Nat → Nat → Int64) (hZ : 104 ≤ Z) (hK69 : K 69 = 12) (hR69_54 : R 69 54 = some 103) (hK103 : K 103 = 16) (hN103 : N 103 = 4) (hM103_2 : M 103 2 = 0) (hR69_26 : R 69 26 = some 82) (hK82 : K 82 = 14) (hN82 : N 82 = 2) (hM82_0 : M 82 0 = 0) : Met l yX12_back [Cond.code yX12_back cX12_back 3 (some .int)] (md_rm 2 0 0) (va_Pc [.ref (base + 69), .int 2] (md_U D cy tx base Z K N M R J)) (mQi D cy tx base (fun r u => r = (-2) ∧ u = (Z, K, N, (u2 M 82 0 1), R, J))) 0 0 (fun q => base ≤ q) := by
  refine Met.ofW (cc := cX12_back) (maxL := 3) (ret := (some .int)) (by decide) rfl ?_
  intro p e s m args below meth c s₁ B hml hv
  have hW : ∀ w ∈ lw_tbl, goodWord w = true → w.before args s = true := fun w h g => hv.2.2.2.1.2.1 w h g _
  obtain ⟨rfl, hU⟩ := hv
  have hx := B.exec
  have hb := B.bytes
  have hr := B.returns
  have hlocks := B.notSynchronized
  have hown : s.vm.findClass RX12 = some m.cls := findClass_of_methodNamed B.named
  have hK := hU.2.2.1
  have hT := hU.2.2.2
  have hG := md_G.start hU
  have hl := lv_entry ([.ref (base + 69), .int 2]) (n := 3) (Nat.le_of_ble_eq_true rfl)
  rw [lg_entry_eq]
  generalize (lg_sl ([.ref (base + 69), .int 2]) ++ List.replicate (3 - (lg_sl ([.ref (base + 69), .int 2])).length) Slot.unset).toArray = ls at hl ⊢
  have hl : lv_has ls 3 [(0, .ref (base + 69)), (1, .int 2)] := hl
  refine lv_iload_n hx hb dX12_back_0 rfl (lv_at hl 1 rfl) ?_
  refine lv_i2l (v := 2) hx hb dX12_back_1 (by decide) ?_
  refine lv_lconst (v := 0) hx hb dX12_back_2 (by decide) ?_
  refine lv_ldc2 hx hb hown (hW _ w_8_59 rfl) dX12_back_3 ?_
  refine md_goi hG (md_runS (As := [.long 2, .long 0, .long 3]) (rest := []) hx hb hml hown hW hK hT hG (c_X12_in_10 l D cy tx base  Z  K N M R J hZ  ) s_X12_155 ⟨rfl, rfl, ⟨Nat.le_of_ble_eq_true rfl, Nat.le_of_ble_eq_true rfl⟩, ⟨Nat.le_of_ble_eq_true rfl, Nat.le_of_ble_eq_true rfl⟩⟩ rfl hl.1 rfl (Nat.le_of_ble_eq_true rfl) dX12_back_6) (fun r u H locs hp hG => ?_)
  obtain ⟨rfl, rfl⟩ := hp
  have hG : md_G D cy base Z K N M R J s H locs := hG
  refine lv_if_eq (tgt := 21) hx hb dX12_back_9 (by decide) (fun h => absurd h (by decide)) (fun _ => ?_)
  refine lv_aload_n hx hb dX12_back_12 rfl (lv_at hl 0 rfl) ?_
  refine md_getr hx hb hW hown hK hG f_X12_112_11 (Nat.lt_of_lt_of_le (by decide) hZ) hK69 (b := 103) hR69_54 dX12_back_13 ?_
  refine lv_iload_n hx hb dX12_back_16 rfl (lv_at hl 1 rfl) ?_
  refine md_zald hx hb hK hG (Nat.lt_of_lt_of_le (by decide) hZ) hK103 hN103 (md_inD (by decide)) (v := 0) hM103_2 dX12_back_17 ?_
  refine lv_if_ne (tgt := 27) hx hb dX12_back_18 (by decide) (fun h => absurd h (by decide)) (fun _ => ?_)
  refine lv_aload_n hx hb dX12_back_21 rfl (lv_at hl 0 rfl) ?_
  refine lv_iconst (v := 0) hx hb dX12_back_22 (by decide) ?_
  refine md_goi hG (md_runV (As := [.int 0]) (rest := []) hx hb hml hown hW hK hT hG (c_X12_refuses l D cy tx base  Z  K N M R J hZ hK69 hR69_26 hK82 hN82 hM82_0 ) s_X12_338 ⟨rfl, rfl, ⟨Nat.le_of_ble_eq_true rfl, Nat.le_of_ble_eq_true rfl⟩, ⟨Nat.le_of_ble_eq_true rfl, Nat.le_of_ble_eq_true rfl⟩⟩ (Nat.lt_of_lt_of_le (by decide) hZ) hK69 (by decide) rfl rfl hl.1 rfl (Nat.le_of_ble_eq_true rfl) dX12_back_23) (fun r u H locs hp hG => ?_)
  obtain ⟨rfl, rfl⟩ := hp
  have hG : md_G D cy base Z K N (u2 M 82 0 1) R J s H locs := hG
  exact md_endi hx hb hr hlocks hK hT hG (⟨rfl, rfl⟩) dX12_back_26
set_option maxRecDepth 100000 in
set_option maxHeartbeats 4000000 in
theorem c_X12_in_11 (l : Launch) (D : va_G) (cy : Nat → ClassId) (tx : (Nat → Nat) × (Nat → Nat)) (base Z : Nat) (K N : Nat → Nat) (M : Nat → Nat → Int32) (R : Nat → Nat → Option Nat) (J : Nat → Nat → Int64) (hZ : 104 ≤ Z) : Met l yX12_in [Cond.code yX12_in cX12_in 6 (some .boolean)] (md_rm 1 0 0) (va_Pc [.long 3, .long 0, .long 3] (md_U D cy tx base Z K N M R J)) (mQi D cy tx base (fun r u => r = 1 ∧ u = (Z, K, N, M, R, J))) 0 0 (fun q => base ≤ q) := by
  refine Met.ofW (cc := cX12_in) (maxL := 6) (ret := (some .boolean)) (by decide) rfl ?_
  intro p e s m args below meth c s₁ B hml hv
  have hW : ∀ w ∈ lw_tbl, goodWord w = true → w.before args s = true := fun w h g => hv.2.2.2.1.2.1 w h g _
  obtain ⟨rfl, hU⟩ := hv
  have hx := B.exec
  have hb := B.bytes
  have hr := B.returns
  have hlocks := B.notSynchronized
  have hown : s.vm.findClass RX12 = some m.cls := findClass_of_methodNamed B.named
  have hK := hU.2.2.1
  have hT := hU.2.2.2
  have hG := md_G.start hU
  have hl := lv_entry ([.long 3, .long 0, .long 3]) (n := 6) (Nat.le_of_ble_eq_true rfl)
  rw [lg_entry_eq]
  generalize (lg_sl ([.long 3, .long 0, .long 3]) ++ List.replicate (6 - (lg_sl ([.long 3, .long 0, .long 3])).length) Slot.unset).toArray = ls at hl ⊢
  have hl : lv_has ls 6 [(0, .long 3), (2, .long 0), (4, .long 3)] := hl
  refine lv_lload_n hx hb dX12_in_0 rfl (lv_at hl 0 rfl) ?_
  refine lv_lload_n hx hb dX12_in_1 rfl (lv_at hl 1 rfl) ?_
  refine W.lcmp hx hb dX12_in_2 ?_
  refine md_top (y := 1) (by decide) ?_
  refine lv_if_lt (tgt := 17) hx hb dX12_in_3 (by decide) (fun h => absurd h (by decide)) (fun _ => ?_)
  refine lv_lload_n hx hb dX12_in_6 rfl (lv_at hl 0 rfl) ?_
  refine lv_lload hx hb dX12_in_7 (lv_at hl 2 rfl) ?_
  refine W.lcmp hx hb dX12_in_9 ?_
  refine md_top (y := 0) (by decide) ?_
  refine lv_if_gt (tgt := 17) hx hb dX12_in_10 (by decide) (fun h => absurd h (by decide)) (fun _ => ?_)
  refine lv_iconst (v := 1) hx hb dX12_in_13 (by decide) ?_
  refine lv_goto (tgt := 18) hx hb dX12_in_14 (by decide) ?_
  exact md_endz hx hb hr hlocks hK hT hG rfl (⟨rfl, rfl⟩) dX12_in_18
set_option maxRecDepth 100000 in
set_option maxHeartbeats 4000000 in
theorem c_X12_back_4 (l : Launch) (D : va_G) (cy : Nat → ClassId) (tx : (Nat → Nat) × (Nat → Nat)) (base Z : Nat) (K N : Nat → Nat) (M : Nat → Nat → Int32) (R : Nat → Nat → Option Nat) (J : Nat → Nat → Int64) (hZ : 104 ≤ Z) (hK69 : K 69 = 12) (hR69_54 : R 69 54 = some 103) (hK103 : K 103 = 16) (hN103 : N 103 = 4) (hM103_3 : M 103 3 = 0) (hR69_26 : R 69 26 = some 82) (hK82 : K 82 = 14) (hN82 : N 82 = 2) (hM82_0 : M 82 0 = 0) : Met l yX12_back [Cond.code yX12_back cX12_back 3 (some .int)] (md_rm 2 0 0) (va_Pc [.ref (base + 69), .int 3] (md_U D cy tx base Z K N M R J)) (mQi D cy tx base (fun r u => r = (-2) ∧ u = (Z, K, N, (u2 M 82 0 1), R, J))) 0 0 (fun q => base ≤ q) := by
  refine Met.ofW (cc := cX12_back) (maxL := 3) (ret := (some .int)) (by decide) rfl ?_
  intro p e s m args below meth c s₁ B hml hv
  have hW : ∀ w ∈ lw_tbl, goodWord w = true → w.before args s = true := fun w h g => hv.2.2.2.1.2.1 w h g _
  obtain ⟨rfl, hU⟩ := hv
  have hx := B.exec
  have hb := B.bytes
  have hr := B.returns
  have hlocks := B.notSynchronized
  have hown : s.vm.findClass RX12 = some m.cls := findClass_of_methodNamed B.named
  have hK := hU.2.2.1
  have hT := hU.2.2.2
  have hG := md_G.start hU
  have hl := lv_entry ([.ref (base + 69), .int 3]) (n := 3) (Nat.le_of_ble_eq_true rfl)
  rw [lg_entry_eq]
  generalize (lg_sl ([.ref (base + 69), .int 3]) ++ List.replicate (3 - (lg_sl ([.ref (base + 69), .int 3])).length) Slot.unset).toArray = ls at hl ⊢
  have hl : lv_has ls 3 [(0, .ref (base + 69)), (1, .int 3)] := hl
  refine lv_iload_n hx hb dX12_back_0 rfl (lv_at hl 1 rfl) ?_
  refine lv_i2l (v := 3) hx hb dX12_back_1 (by decide) ?_
  refine lv_lconst (v := 0) hx hb dX12_back_2 (by decide) ?_
  refine lv_ldc2 hx hb hown (hW _ w_8_59 rfl) dX12_back_3 ?_
  refine md_goi hG (md_runS (As := [.long 3, .long 0, .long 3]) (rest := []) hx hb hml hown hW hK hT hG (c_X12_in_11 l D cy tx base  Z  K N M R J hZ  ) s_X12_155 ⟨rfl, rfl, ⟨Nat.le_of_ble_eq_true rfl, Nat.le_of_ble_eq_true rfl⟩, ⟨Nat.le_of_ble_eq_true rfl, Nat.le_of_ble_eq_true rfl⟩⟩ rfl hl.1 rfl (Nat.le_of_ble_eq_true rfl) dX12_back_6) (fun r u H locs hp hG => ?_)
  obtain ⟨rfl, rfl⟩ := hp
  have hG : md_G D cy base Z K N M R J s H locs := hG
  refine lv_if_eq (tgt := 21) hx hb dX12_back_9 (by decide) (fun h => absurd h (by decide)) (fun _ => ?_)
  refine lv_aload_n hx hb dX12_back_12 rfl (lv_at hl 0 rfl) ?_
  refine md_getr hx hb hW hown hK hG f_X12_112_11 (Nat.lt_of_lt_of_le (by decide) hZ) hK69 (b := 103) hR69_54 dX12_back_13 ?_
  refine lv_iload_n hx hb dX12_back_16 rfl (lv_at hl 1 rfl) ?_
  refine md_zald hx hb hK hG (Nat.lt_of_lt_of_le (by decide) hZ) hK103 hN103 (md_inD (by decide)) (v := 0) hM103_3 dX12_back_17 ?_
  refine lv_if_ne (tgt := 27) hx hb dX12_back_18 (by decide) (fun h => absurd h (by decide)) (fun _ => ?_)
  refine lv_aload_n hx hb dX12_back_21 rfl (lv_at hl 0 rfl) ?_
  refine lv_iconst (v := 0) hx hb dX12_back_22 (by decide) ?_
  refine md_goi hG (md_runV (As := [.int 0]) (rest := []) hx hb hml hown hW hK hT hG (c_X12_refuses l D cy tx base  Z  K N M R J hZ hK69 hR69_26 hK82 hN82 hM82_0 ) s_X12_338 ⟨rfl, rfl, ⟨Nat.le_of_ble_eq_true rfl, Nat.le_of_ble_eq_true rfl⟩, ⟨Nat.le_of_ble_eq_true rfl, Nat.le_of_ble_eq_true rfl⟩⟩ (Nat.lt_of_lt_of_le (by decide) hZ) hK69 (by decide) rfl rfl hl.1 rfl (Nat.le_of_ble_eq_true rfl) dX12_back_23) (fun r u H locs hp hG => ?_)
  obtain ⟨rfl, rfl⟩ := hp
  have hG : md_G D cy base Z K N (u2 M 82 0 1) R J s H locs := hG
  exact md_endi hx hb hr hlocks hK hT hG (⟨rfl, rfl⟩) dX12_back_26
set_option maxRecDepth 100000 in
set_option maxHeartbeats 4000000 in
theorem c_X12_back_5 (l : Launch) (D : va_G) (cy : Nat → ClassId) (tx : (Nat → Nat) × (Nat → Nat)) (base Z : Nat) (K N : Nat → Nat) (M : Nat → Nat → Int32) (R : Nat → Nat → Option Nat) (J : Nat → Nat → Int64) (hZ : 104 ≤ Z) (hK69 : K 69 = 12) (hR69_26 : R 69 26 = some 82) (hK82 : K 82 = 14) (hN82 : N 82 = 2) (hM82_0 : M 82 0 = 0) (p1 : Int32) (h1 : p1 < 0) : Met l yX12_back [Cond.code yX12_back cX12_back 3 (some .int)] (md_rm 2 0 0) (va_Pc [.ref (base + 69), .int p1] (md_U D cy tx base Z K N M R J)) (mQi D cy tx base (fun r u => r = (-2) ∧ u = (Z, K, N, (u2 M 82 0 1), R, J))) 0 0 (fun q => base ≤ q) := by
  refine Met.ofW (cc := cX12_back) (maxL := 3) (ret := (some .int)) (by decide) rfl ?_
  intro p e s m args below meth c s₁ B hml hv
  have hW : ∀ w ∈ lw_tbl, goodWord w = true → w.before args s = true := fun w h g => hv.2.2.2.1.2.1 w h g _
  obtain ⟨rfl, hU⟩ := hv
  have hx := B.exec
  have hb := B.bytes
  have hr := B.returns
  have hlocks := B.notSynchronized
  have hown : s.vm.findClass RX12 = some m.cls := findClass_of_methodNamed B.named
  have hK := hU.2.2.1
  have hT := hU.2.2.2
  have hG := md_G.start hU
  have hl := lv_entry ([.ref (base + 69), .int p1]) (n := 3) (Nat.le_of_ble_eq_true rfl)
  rw [lg_entry_eq]
  generalize (lg_sl ([.ref (base + 69), .int p1]) ++ List.replicate (3 - (lg_sl ([.ref (base + 69), .int p1])).length) Slot.unset).toArray = ls at hl ⊢
  have hl : lv_has ls 3 [(0, .ref (base + 69)), (1, .int p1)] := hl
  refine lv_iload_n hx hb dX12_back_0 rfl (lv_at hl 1 rfl) ?_
  refine lv_i2l hx hb dX12_back_1 rfl ?_
  refine lv_lconst (v := 0) hx hb dX12_back_2 (by decide) ?_
  refine lv_ldc2 hx hb hown (hW _ w_8_59 rfl) dX12_back_3 ?_
  refine md_goi hG (md_runS (As := [.long p1.toInt64, .long 0, .long 3]) (rest := []) hx hb hml hown hW hK hT hG (c_X12_in_7 l D cy tx base  Z  K N M R J hZ  p1.toInt64) s_X12_155 ⟨rfl, rfl, ⟨Nat.le_of_ble_eq_true rfl, Nat.le_of_ble_eq_true rfl⟩, ⟨Nat.le_of_ble_eq_true rfl, Nat.le_of_ble_eq_true rfl⟩⟩ rfl hl.1 rfl (Nat.le_of_ble_eq_true rfl) dX12_back_6) (fun r u H locs hp hG => ?_)
  rcases hp with ⟨rfl, rfl⟩ | ⟨d0_0, d0_1, rfl, rfl⟩
  · have hG : md_G D cy base Z K N M R J s H locs := hG
    refine lv_if_eq (tgt := 21) hx hb dX12_back_9 (by decide) (fun _ => ?_) (fun h => absurd h (by decide))
    refine lv_aload_n hx hb dX12_back_21 rfl (lv_at hl 0 rfl) ?_
    refine lv_iconst (v := 0) hx hb dX12_back_22 (by decide) ?_
    refine md_goi hG (md_runV (As := [.int 0]) (rest := []) hx hb hml hown hW hK hT hG (c_X12_refuses l D cy tx base  Z  K N M R J hZ hK69 hR69_26 hK82 hN82 hM82_0 ) s_X12_338 ⟨rfl, rfl, ⟨Nat.le_of_ble_eq_true rfl, Nat.le_of_ble_eq_true rfl⟩, ⟨Nat.le_of_ble_eq_true rfl, Nat.le_of_ble_eq_true rfl⟩⟩ (Nat.lt_of_lt_of_le (by decide) hZ) hK69 (by decide) rfl rfl hl.1 rfl (Nat.le_of_ble_eq_true rfl) dX12_back_23) (fun r u H locs hp hG => ?_)
    obtain ⟨rfl, rfl⟩ := hp
    have hG : md_G D cy base Z K N (u2 M 82 0 1) R J s H locs := hG
    exact md_endi hx hb hr hlocks hK hT hG (⟨rfl, rfl⟩) dX12_back_26
  · have hG : md_G D cy base Z K N M R J s H locs := hG
    exact absurd (md_lcn h1) d0_0
set_option maxRecDepth 100000 in
set_option maxHeartbeats 4000000 in
theorem c_X12_back_6 (l : Launch) (D : va_G) (cy : Nat → ClassId) (tx : (Nat → Nat) × (Nat → Nat)) (base Z : Nat) (K N : Nat → Nat) (M : Nat → Nat → Int32) (R : Nat → Nat → Option Nat) (J : Nat → Nat → Int64) (hZ : 104 ≤ Z) (hK69 : K 69 = 12) (hR69_26 : R 69 26 = some 82) (hK82 : K 82 = 14) (hN82 : N 82 = 2) (hM82_0 : M 82 0 = 0) (p1 : Int32) (h1 : ¬ p1 < 0) (h2 : ¬ p1 < 4) : Met l yX12_back [Cond.code yX12_back cX12_back 3 (some .int)] (md_rm 2 0 0) (va_Pc [.ref (base + 69), .int p1] (md_U D cy tx base Z K N M R J)) (mQi D cy tx base (fun r u => r = (-2) ∧ u = (Z, K, N, (u2 M 82 0 1), R, J))) 0 0 (fun q => base ≤ q) := by
  refine Met.ofW (cc := cX12_back) (maxL := 3) (ret := (some .int)) (by decide) rfl ?_
  intro p e s m args below meth c s₁ B hml hv
  have hW : ∀ w ∈ lw_tbl, goodWord w = true → w.before args s = true := fun w h g => hv.2.2.2.1.2.1 w h g _
  obtain ⟨rfl, hU⟩ := hv
  have hx := B.exec
  have hb := B.bytes
  have hr := B.returns
  have hlocks := B.notSynchronized
  have hown : s.vm.findClass RX12 = some m.cls := findClass_of_methodNamed B.named
  have hK := hU.2.2.1
  have hT := hU.2.2.2
  have hG := md_G.start hU
  have hl := lv_entry ([.ref (base + 69), .int p1]) (n := 3) (Nat.le_of_ble_eq_true rfl)
  rw [lg_entry_eq]
  generalize (lg_sl ([.ref (base + 69), .int p1]) ++ List.replicate (3 - (lg_sl ([.ref (base + 69), .int p1])).length) Slot.unset).toArray = ls at hl ⊢
  have hl : lv_has ls 3 [(0, .ref (base + 69)), (1, .int p1)] := hl
  refine lv_iload_n hx hb dX12_back_0 rfl (lv_at hl 1 rfl) ?_
  refine lv_i2l hx hb dX12_back_1 rfl ?_
  refine lv_lconst (v := 0) hx hb dX12_back_2 (by decide) ?_
  refine lv_ldc2 hx hb hown (hW _ w_8_59 rfl) dX12_back_3 ?_
  refine md_goi hG (md_runS (As := [.long p1.toInt64, .long 0, .long 3]) (rest := []) hx hb hml hown hW hK hT hG (c_X12_in_7 l D cy tx base  Z  K N M R J hZ  p1.toInt64) s_X12_155 ⟨rfl, rfl, ⟨Nat.le_of_ble_eq_true rfl, Nat.le_of_ble_eq_true rfl⟩, ⟨Nat.le_of_ble_eq_true rfl, Nat.le_of_ble_eq_true rfl⟩⟩ rfl hl.1 rfl (Nat.le_of_ble_eq_true rfl) dX12_back_6) (fun r u H locs hp hG => ?_)
  rcases hp with ⟨rfl, rfl⟩ | ⟨d0_0, d0_1, rfl, rfl⟩
  · have hG : md_G D cy base Z K N M R J s H locs := hG
    refine lv_if_eq (tgt := 21) hx hb dX12_back_9 (by decide) (fun _ => ?_) (fun h => absurd h (by decide))
    refine lv_aload_n hx hb dX12_back_21 rfl (lv_at hl 0 rfl) ?_
    refine lv_iconst (v := 0) hx hb dX12_back_22 (by decide) ?_
    refine md_goi hG (md_runV (As := [.int 0]) (rest := []) hx hb hml hown hW hK hT hG (c_X12_refuses l D cy tx base  Z  K N M R J hZ hK69 hR69_26 hK82 hN82 hM82_0 ) s_X12_338 ⟨rfl, rfl, ⟨Nat.le_of_ble_eq_true rfl, Nat.le_of_ble_eq_true rfl⟩, ⟨Nat.le_of_ble_eq_true rfl, Nat.le_of_ble_eq_true rfl⟩⟩ (Nat.lt_of_lt_of_le (by decide) hZ) hK69 (by decide) rfl rfl hl.1 rfl (Nat.le_of_ble_eq_true rfl) dX12_back_23) (fun r u H locs hp hG => ?_)
    obtain ⟨rfl, rfl⟩ := hp
    have hG : md_G D cy base Z K N (u2 M 82 0 1) R J s H locs := hG
    exact md_endi hx hb hr hlocks hK hT hG (⟨rfl, rfl⟩) dX12_back_26
  · have hG : md_G D cy base Z K N M R J s H locs := hG
    exact absurd (md_lc4 h2) d0_1
