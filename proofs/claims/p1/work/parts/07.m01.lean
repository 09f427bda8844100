set_option maxRecDepth 100000 in
set_option maxHeartbeats 4000000 in
theorem c_X12_isWord_5 (l : Launch) (D : va_G) (cy : Nat → ClassId) (tx : (Nat → Nat) × (Nat → Nat)) (base Z : Nat) (K N : Nat → Nat) (M : Nat → Nat → Int32) (R : Nat → Nat → Option Nat) (J : Nat → Nat → Int64) (hZ : 104 ≤ Z) (hK69 : K 69 = 12) (hM69_13 : M 69 13 = 0) (hM69_1 : M 69 1 = 0) : Met l yX12_isWord [Cond.code yX12_isWord cX12_isWord 6 (some .boolean)] (md_rm 2 0 0) (va_Pc [.ref (base + 69), .long 7955827] (md_U D cy tx base Z K N M R J)) (mQi D cy tx base (fun r u => r = 0 ∧ u = (Z, K, N, M, R, J))) 0 0 (fun q => base ≤ q) := by
  refine Met.ofW (cc := cX12_isWord) (maxL := 6) (ret := (some .boolean)) (by decide) rfl ?_
  intro p e s m args below meth c s₁ B hml hv
  have hW : ∀ w ∈ lw_tbl, goodWord w = true → w.before args s = true := fun w h g => hv.2.2.2.1.2.1 w h g _
  obtain ⟨rfl, hU⟩ := hv
  have hx := B.exec
  have hb := B.bytes
  have hr := B.returns
  have hlocks := B.notSynchronized
  have hown : s.vm.findClass RX12 = some m.cls := findClass_of_methodNamed B.named
  have hK := hU.2.2.1
  have hT := hU.2.2.2
  have hG := md_G.start hU
  have hl := lv_entry ([.ref (base + 69), .long 7955827]) (n := 6) (Nat.le_of_ble_eq_true rfl)
  rw [lg_entry_eq]
  generalize (lg_sl ([.ref (base + 69), .long 7955827]) ++ List.replicate (6 - (lg_sl ([.ref (base + 69), .long 7955827])).length) Slot.unset).toArray = ls at hl ⊢
  have hl : lv_has ls 6 [(0, .ref (base + 69)), (1, .long 7955827)] := hl
  refine lv_aload_n hx hb dX12_isWord_0 rfl (lv_at hl 0 rfl) ?_
  refine md_goi hG (md_runV (As := []) (rest := []) hx hb hml hown hW hK hT hG (c_X12_see l D cy tx base  Z  K N M R J hZ hK69 hM69_13 hM69_1 ) s_X12_130 ⟨rfl, rfl, ⟨Nat.le_of_ble_eq_true rfl, Nat.le_of_ble_eq_true rfl⟩, ⟨Nat.le_of_ble_eq_true rfl, Nat.le_of_ble_eq_true rfl⟩⟩ (Nat.lt_of_lt_of_le (by decide) hZ) hK69 (by decide) rfl rfl hl.1 rfl (Nat.le_of_ble_eq_true rfl) dX12_isWord_1) (fun r u H locs hp hG => ?_)
  obtain ⟨rfl, rfl⟩ := hp
  have hG : md_G D cy base Z K N M R J s H locs := hG
  refine lv_pop hx hb dX12_isWord_4 rfl ?_
  refine lv_lconst (v := 0) hx hb dX12_isWord_5 (by decide) ?_
  refine lv_lstore_n (lv' := [(3, .long 0), (0, .ref (base + 69)), (1, .long 7955827)]) hx hb dX12_isWord_6 rfl hl (by decide) rfl (fun ls hl => ?_)
  refine lv_iconst (v := 0) hx hb dX12_isWord_7 (by decide) ?_
  refine lv_istore (lv' := [(5, .int 0), (3, .long 0), (0, .ref (base + 69)), (1, .long 7955827)]) hx hb dX12_isWord_8 hl (by decide) rfl (fun ls hl => ?_)
  refine lv_aload_n hx hb dX12_isWord_10 rfl (lv_at hl 2 rfl) ?_
  refine lv_aload_n hx hb dX12_isWord_11 rfl (lv_at hl 2 rfl) ?_
  refine md_geti hx hb hW hown hK hG f_X12_127_11 (Nat.lt_of_lt_of_le (by decide) hZ) hK69 (v := 0) hM69_13 dX12_isWord_12 ?_
  refine lv_iload hx hb dX12_isWord_15 (lv_at hl 0 rfl) ?_
  refine lv_iadd hx hb dX12_isWord_17 ?_
  refine md_top (y := 0) (by decide) ?_
  refine md_goi hG (md_runV (As := [.int 0]) (rest := []) hx hb hml hown hW hK hT hG (c_X12_isLetter l D cy tx base  Z  K N M R J hZ hK69 hM69_1 ) s_X12_134 ⟨rfl, rfl, ⟨Nat.le_of_ble_eq_true rfl, Nat.le_of_ble_eq_true rfl⟩, ⟨Nat.le_of_ble_eq_true rfl, Nat.le_of_ble_eq_true rfl⟩⟩ (Nat.lt_of_lt_of_le (by decide) hZ) hK69 (by decide) rfl rfl hl.1 rfl (Nat.le_of_ble_eq_true rfl) dX12_isWord_18) (fun r u H locs hp hG => ?_)
  obtain ⟨rfl, rfl⟩ := hp
  have hG : md_G D cy base Z K N M R J s H locs := hG
  refine lv_if_eq (tgt := 56) hx hb dX12_isWord_21 (by decide) (fun _ => ?_) (fun h => absurd h (by decide))
  refine lv_iload hx hb dX12_isWord_56 (lv_at hl 0 rfl) ?_
  refine lv_if_le (tgt := 78) hx hb dX12_isWord_58 (by decide) (fun _ => ?_) (fun h => absurd h (by decide))
  refine lv_iconst (v := 0) hx hb dX12_isWord_78 (by decide) ?_
  exact md_endz hx hb hr hlocks hK hT hG rfl (⟨rfl, rfl⟩) dX12_isWord_79
set_option maxRecDepth 100000 in
set_option maxHeartbeats 4000000 in
theorem c_X12_isWord_6 (l : Launch) (D : va_G) (cy : Nat → ClassId) (tx : (Nat → Nat) × (Nat → Nat)) (base Z : Nat) (K N : Nat → Nat) (M : Nat → Nat → Int32) (R : Nat → Nat → Option Nat) (J : Nat → Nat → Int64) (hZ : 104 ≤ Z) (hK69 : K 69 = 12) (hM69_13 : M 69 13 = 0) (hM69_1 : M 69 1 = 0) : Met l yX12_isWord [Cond.code yX12_isWord cX12_isWord 6 (some .boolean)] (md_rm 2 0 0) (va_Pc [.ref (base + 69), .long 28271] (md_U D cy tx base Z K N M R J)) (mQi D cy tx base (fun r u => r = 0 ∧ u = (Z, K, N, M, R, J))) 0 0 (fun q => base ≤ q) := by
  refine Met.ofW (cc := cX12_isWord) (maxL := 6) (ret := (some .boolean)) (by decide) rfl ?_
  intro p e s m args below meth c s₁ B hml hv
  have hW : ∀ w ∈ lw_tbl, goodWord w = true → w.before args s = true := fun w h g => hv.2.2.2.1.2.1 w h g _
  obtain ⟨rfl, hU⟩ := hv
  have hx := B.exec
  have hb := B.bytes
  have hr := B.returns
  have hlocks := B.notSynchronized
  have hown : s.vm.findClass RX12 = some m.cls := findClass_of_methodNamed B.named
  have hK := hU.2.2.1
  have hT := hU.2.2.2
  have hG := md_G.start hU
  have hl := lv_entry ([.ref (base + 69), .long 28271]) (n := 6) (Nat.le_of_ble_eq_true rfl)
  rw [lg_entry_eq]
  generalize (lg_sl ([.ref (base + 69), .long 28271]) ++ List.replicate (6 - (lg_sl ([.ref (base + 69), .long 28271])).length) Slot.unset).toArray = ls at hl ⊢
  have hl : lv_has ls 6 [(0, .ref (base + 69)), (1, .long 28271)] := hl
  refine lv_aload_n hx hb dX12_isWord_0 rfl (lv_at hl 0 rfl) ?_
  refine md_goi hG (md_runV (As := []) (rest := []) hx hb hml hown hW hK hT hG (c_X12_see l D cy tx base  Z  K N M R J hZ hK69 hM69_13 hM69_1 ) s_X12_130 ⟨rfl, rfl, ⟨Nat.le_of_ble_eq_true rfl, Nat.le_of_ble_eq_true rfl⟩, ⟨Nat.le_of_ble_eq_true rfl, Nat.le_of_ble_eq_true rfl⟩⟩ (Nat.lt_of_lt_of_le (by decide) hZ) hK69 (by decide) rfl rfl hl.1 rfl (Nat.le_of_ble_eq_true rfl) dX12_isWord_1) (fun r u H locs hp hG => ?_)
  obtain ⟨rfl, rfl⟩ := hp
  have hG : md_G D cy base Z K N M R J s H locs := hG
  refine lv_pop hx hb dX12_isWord_4 rfl ?_
  refine lv_lconst (v := 0) hx hb dX12_isWord_5 (by decide) ?_
  refine lv_lstore_n (lv' := [(3, .long 0), (0, .ref (base + 69)), (1, .long 28271)]) hx hb dX12_isWord_6 rfl hl (by decide) rfl (fun ls hl => ?_)
  refine lv_iconst (v := 0) hx hb dX12_isWord_7 (by decide) ?_
  refine lv_istore (lv' := [(5, .int 0), (3, .long 0), (0, .ref (base + 69)), (1, .long 28271)]) hx hb dX12_isWord_8 hl (by decide) rfl (fun ls hl => ?_)
  refine lv_aload_n hx hb dX12_isWord_10 rfl (lv_at hl 2 rfl) ?_
  refine lv_aload_n hx hb dX12_isWord_11 rfl (lv_at hl 2 rfl) ?_
  refine md_geti hx hb hW hown hK hG f_X12_127_11 (Nat.lt_of_lt_of_le (by decide) hZ) hK69 (v := 0) hM69_13 dX12_isWord_12 ?_
  refine lv_iload hx hb dX12_isWord_15 (lv_at hl 0 rfl) ?_
  refine lv_iadd hx hb dX12_isWord_17 ?_
  refine md_top (y := 0) (by decide) ?_
  refine md_goi hG (md_runV (As := [.int 0]) (rest := []) hx hb hml hown hW hK hT hG (c_X12_isLetter l D cy tx base  Z  K N M R J hZ hK69 hM69_1 ) s_X12_134 ⟨rfl, rfl, ⟨Nat.le_of_ble_eq_true rfl, Nat.le_of_ble_eq_true rfl⟩, ⟨Nat.le_of_ble_eq_true rfl, Nat.le_of_ble_eq_true rfl⟩⟩ (Nat.lt_of_lt_of_le (by decide) hZ) hK69 (by decide) rfl rfl hl.1 rfl (Nat.le_of_ble_eq_true rfl) dX12_isWord_18) (fun r u H locs hp hG => ?_)
  obtain ⟨rfl, rfl⟩ := hp
  have hG : md_G D cy base Z K N M R J s H locs := hG
  refine lv_if_eq (tgt := 56) hx hb dX12_isWord_21 (by decide) (fun _ => ?_) (fun h => absurd h (by decide))
  refine lv_iload hx hb dX12_isWord_56 (lv_at hl 0 rfl) ?_
  refine lv_if_le (tgt := 78) hx hb dX12_isWord_58 (by decide) (fun _ => ?_) (fun h => absurd h (by decide))
  refine lv_iconst (v := 0) hx hb dX12_isWord_78 (by decide) ?_
  exact md_endz hx hb hr hlocks hK hT hG rfl (⟨rfl, rfl⟩) dX12_isWord_79
set_option maxRecDepth 100000 in
set_option maxHeartbeats 4000000 in
theorem c_X12_isWord_7 (l : Launch) (D : va_G) (cy : Nat → ClassId) (tx : (Nat → Nat) × (Nat → Nat)) (base Z : Nat) (K N : Nat → Nat) (M : Nat → Nat → Int32) (R : Nat → Nat → Option Nat) (J : Nat → Nat → Int64) (hZ : 104 ≤ Z) (hK69 : K 69 = 12) (hM69_13 : M 69 13 = 0) (hM69_1 : M 69 1 = 0) : Met l yX12_isWord [Cond.code yX12_isWord cX12_isWord 6 (some .boolean)] (md_rm 2 0 0) (va_Pc [.ref (base + 69), .long 1801807216] (md_U D cy tx base Z K N M R J)) (mQi D cy tx base (fun r u => r = 0 ∧ u = (Z, K, N, M, R, J))) 0 0 (fun q => base ≤ q) := by
  refine Met.ofW (cc := cX12_isWord) (maxL := 6) (ret := (some .boolean)) (by decide) rfl ?_
  intro p e s m args below meth c s₁ B hml hv
  have hW : ∀ w ∈ lw_tbl, goodWord w = true → w.before args s = true := fun w h g => hv.2.2.2.1.2.1 w h g _
  obtain ⟨rfl, hU⟩ := hv
  have hx := B.exec
  have hb := B.bytes
  have hr := B.returns
  have hlocks := B.notSynchronized
  have hown : s.vm.findClass RX12 = some m.cls := findClass_of_methodNamed B.named
  have hK := hU.2.2.1
  have hT := hU.2.2.2
  have hG := md_G.start hU
  have hl := lv_entry ([.ref (base + 69), .long 1801807216]) (n := 6) (Nat.le_of_ble_eq_true rfl)
  rw [lg_entry_eq]
  generalize (lg_sl ([.ref (base + 69), .long 1801807216]) ++ List.replicate (6 - (lg_sl ([.ref (base + 69), .long 1801807216])).length) Slot.unset).toArray = ls at hl ⊢
  have hl : lv_has ls 6 [(0, .ref (base + 69)), (1, .long 1801807216)] := hl
  refine lv_aload_n hx hb dX12_isWord_0 rfl (lv_at hl 0 rfl) ?_
  refine md_goi hG (md_runV (As := []) (rest := []) hx hb hml hown hW hK hT hG (c_X12_see l D cy tx base  Z  K N M R J hZ hK69 hM69_13 hM69_1 ) s_X12_130 ⟨rfl, rfl, ⟨Nat.le_of_ble_eq_true rfl, Nat.le_of_ble_eq_true rfl⟩, ⟨Nat.le_of_ble_eq_true rfl, Nat.le_of_ble_eq_true rfl⟩⟩ (Nat.lt_of_lt_of_le (by decide) hZ) hK69 (by decide) rfl rfl hl.1 rfl (Nat.le_of_ble_eq_true rfl) dX12_isWord_1) (fun r u H locs hp hG => ?_)
  obtain ⟨rfl, rfl⟩ := hp
  have hG : md_G D cy base Z K N M R J s H locs := hG
  refine lv_pop hx hb dX12_isWord_4 rfl ?_
  refine lv_lconst (v := 0) hx hb dX12_isWord_5 (by decide) ?_
  refine lv_lstore_n (lv' := [(3, .long 0), (0, .ref (base + 69)), (1, .long 1801807216)]) hx hb dX12_isWord_6 rfl hl (by decide) rfl (fun ls hl => ?_)
  refine lv_iconst (v := 0) hx hb dX12_isWord_7 (by decide) ?_
  refine lv_istore (lv' := [(5, .int 0), (3, .long 0), (0, .ref (base + 69)), (1, .long 1801807216)]) hx hb dX12_isWord_8 hl (by decide) rfl (fun ls hl => ?_)
  refine lv_aload_n hx hb dX12_isWord_10 rfl (lv_at hl 2 rfl) ?_
  refine lv_aload_n hx hb dX12_isWord_11 rfl (lv_at hl 2 rfl) ?_
  refine md_geti hx hb hW hown hK hG f_X12_127_11 (Nat.lt_of_lt_of_le (by decide) hZ) hK69 (v := 0) hM69_13 dX12_isWord_12 ?_
  refine lv_iload hx hb dX12_isWord_15 (lv_at hl 0 rfl) ?_
  refine lv_iadd hx hb dX12_isWord_17 ?_
  refine md_top (y := 0) (by decide) ?_
  refine md_goi hG (md_runV (As := [.int 0]) (rest := []) hx hb hml hown hW hK hT hG (c_X12_isLetter l D cy tx base  Z  K N M R J hZ hK69 hM69_1 ) s_X12_134 ⟨rfl, rfl, ⟨Nat.le_of_ble_eq_true rfl, Nat.le_of_ble_eq_true rfl⟩, ⟨Nat.le_of_ble_eq_true rfl, Nat.le_of_ble_eq_true rfl⟩⟩ (Nat.lt_of_lt_of_le (by decide) hZ) hK69 (by decide) rfl rfl hl.1 rfl (Nat.le_of_ble_eq_true rfl) dX12_isWord_18) (fun r u H locs hp hG => ?_)
  obtain ⟨rfl, rfl⟩ := hp
  have hG : md_G D cy base Z K N M R J s H locs := hG
  refine lv_if_eq (tgt := 56) hx hb dX12_isWord_21 (by decide) (fun _ => ?_) (fun h => absurd h (by decide))
  refine lv_iload hx hb dX12_isWord_56 (lv_at hl 0 rfl) ?_
  refine lv_if_le (tgt := 78) hx hb dX12_isWord_58 (by decide) (fun _ => ?_) (fun h => absurd h (by decide))
  refine lv_iconst (v := 0) hx hb dX12_isWord_78 (by decide) ?_
  exact md_endz hx hb hr hlocks hK hT hG rfl (⟨rfl, rfl⟩) dX12_isWord_79
set_option maxRecDepth 100000 in
set_option maxHeartbeats 4000000 in
theorem c_X12_clauseHere_2 (l : Launch) (D : va_G) (cy : Nat → ClassId) (tx : (Nat → Nat) × (Nat → Nat)) (base Z : Nat) (K N : Nat → Nat) (M : Nat → Nat → Int32) (R : Nat → Nat → Option Nat) (J : Nat → Nat → Int64) (hZ : 104 ≤ Z) (hK69 : K 69 = 12) (hM69_13 : M 69 13 = 0) (hM69_1 : M 69 1 = 0) (hM69_16 : M 69 16 = 0) (hM69_14 : M 69 14 = 0) : Met l yX12_clauseHere [Cond.code yX12_clauseHere cX12_clauseHere 4 (some .boolean)] (md_rm 3 0 0) (va_Pc [.ref (base + 69)] (md_U D cy tx base Z K N M R J)) (mQi D cy tx base (fun r u => r = 0 ∧ u = (Z, K, N, (u2 M 69 14 1), R, J))) 0 0 (fun q => base ≤ q) := by
  refine Met.ofW (cc := cX12_clauseHere) (maxL := 4) (ret := (some .boolean)) (by decide) rfl ?_
  intro p e s m args below meth c s₁ B hml hv
  have hW : ∀ w ∈ lw_tbl, goodWord w = true → w.before args s = true := fun w h g => hv.2.2.2.1.2.1 w h g _
  obtain ⟨rfl, hU⟩ := hv
  have hx := B.exec
  have hb := B.bytes
  have hr := B.returns
  have hlocks := B.notSynchronized
  have hown : s.vm.findClass RX12 = some m.cls := findClass_of_methodNamed B.named
  have hK := hU.2.2.1
  have hT := hU.2.2.2
  have hG := md_G.start hU
  have hl := lv_entry ([.ref (base + 69)]) (n := 4) (Nat.le_of_ble_eq_true rfl)
  rw [lg_entry_eq]
  generalize (lg_sl ([.ref (base + 69)]) ++ List.replicate (4 - (lg_sl ([.ref (base + 69)])).length) Slot.unset).toArray = ls at hl ⊢
  have hl : lv_has ls 4 [(0, .ref (base + 69))] := hl
  refine lv_aload_n hx hb dX12_clauseHere_0 rfl (lv_at hl 0 rfl) ?_
  refine md_goi hG (md_runV (As := []) (rest := []) hx hb hml hown hW hK hT hG (c_X12_see l D cy tx base  Z  K N M R J hZ hK69 hM69_13 hM69_1 ) s_X12_130 ⟨rfl, rfl, ⟨Nat.le_of_ble_eq_true rfl, Nat.le_of_ble_eq_true rfl⟩, ⟨Nat.le_of_ble_eq_true rfl, Nat.le_of_ble_eq_true rfl⟩⟩ (Nat.lt_of_lt_of_le (by decide) hZ) hK69 (by decide) rfl rfl hl.1 rfl (Nat.le_of_ble_eq_true rfl) dX12_clauseHere_1) (fun r u H locs hp hG => ?_)
  obtain ⟨rfl, rfl⟩ := hp
  have hG : md_G D cy base Z K N M R J s H locs := hG
  refine lv_pop hx hb dX12_clauseHere_4 rfl ?_
  refine lv_aload_n hx hb dX12_clauseHere_5 rfl (lv_at hl 0 rfl) ?_
  refine md_geti hx hb hW hown hK hG f_X12_127_11 (Nat.lt_of_lt_of_le (by decide) hZ) hK69 (v := 0) hM69_13 dX12_clauseHere_6 ?_
  refine lv_istore_n (lv' := [(1, .int 0), (0, .ref (base + 69))]) hx hb dX12_clauseHere_9 rfl hl (by decide) rfl (fun ls hl => ?_)
  refine lv_aload_n hx hb dX12_clauseHere_10 rfl (lv_at hl 1 rfl) ?_
  refine md_geti hx hb hW hown hK hG f_X12_179_11 (Nat.lt_of_lt_of_le (by decide) hZ) hK69 (v := 0) hM69_16 dX12_clauseHere_11 ?_
  refine lv_bipush (v := 6) hx hb dX12_clauseHere_14 (by decide) ?_
  refine lv_icmp_ne (tgt := 23) hx hb dX12_clauseHere_16 (by decide) (fun _ => ?_) (fun h => absurd h (by decide))
  refine lv_iconst (v := 0) hx hb dX12_clauseHere_23 (by decide) ?_
  refine lv_istore_n (lv' := [(2, .int 0), (1, .int 0), (0, .ref (base + 69))]) hx hb dX12_clauseHere_24 rfl hl (by decide) rfl (fun ls hl => ?_)
  refine lv_iload_n hx hb dX12_clauseHere_25 rfl (lv_at hl 0 rfl) ?_
  refine lv_if_eq (tgt := 77) hx hb dX12_clauseHere_26 (by decide) (fun _ => ?_) (fun h => absurd h (by decide))
  refine lv_aload_n hx hb dX12_clauseHere_77 rfl (lv_at hl 2 rfl) ?_
  refine lv_ldc2 hx hb hown (hW _ w_7_7 rfl) dX12_clauseHere_78 ?_
  refine md_goi hG (md_runV (As := [.long 7955827]) (rest := []) hx hb hml hown hW hK hT hG (c_X12_isWord_5 l D cy tx base  Z  K N M R J hZ hK69 hM69_13 hM69_1 ) s_X12_138 ⟨rfl, rfl, ⟨Nat.le_of_ble_eq_true rfl, Nat.le_of_ble_eq_true rfl⟩, ⟨Nat.le_of_ble_eq_true rfl, Nat.le_of_ble_eq_true rfl⟩⟩ (Nat.lt_of_lt_of_le (by decide) hZ) hK69 (by decide) rfl rfl hl.1 rfl (Nat.le_of_ble_eq_true rfl) dX12_clauseHere_81) (fun r u H locs hp hG => ?_)
  obtain ⟨rfl, rfl⟩ := hp
  have hG : md_G D cy base Z K N M R J s H locs := hG
  refine lv_if_ne (tgt := 107) hx hb dX12_clauseHere_84 (by decide) (fun h => absurd h (by decide)) (fun _ => ?_)
  refine lv_aload_n hx hb dX12_clauseHere_87 rfl (lv_at hl 2 rfl) ?_
  refine lv_ldc2 hx hb hown (hW _ w_7_8 rfl) dX12_clauseHere_88 ?_
  refine md_goi hG (md_runV (As := [.long 28271]) (rest := []) hx hb hml hown hW hK hT hG (c_X12_isWord_6 l D cy tx base  Z  K N M R J hZ hK69 hM69_13 hM69_1 ) s_X12_138 ⟨rfl, rfl, ⟨Nat.le_of_ble_eq_true rfl, Nat.le_of_ble_eq_true rfl⟩, ⟨Nat.le_of_ble_eq_true rfl, Nat.le_of_ble_eq_true rfl⟩⟩ (Nat.lt_of_lt_of_le (by decide) hZ) hK69 (by decide) rfl rfl hl.1 rfl (Nat.le_of_ble_eq_true rfl) dX12_clauseHere_91) (fun r u H locs hp hG => ?_)
  obtain ⟨rfl, rfl⟩ := hp
  have hG : md_G D cy base Z K N M R J s H locs := hG
  refine lv_if_ne (tgt := 107) hx hb dX12_clauseHere_94 (by decide) (fun h => absurd h (by decide)) (fun _ => ?_)
  refine lv_aload_n hx hb dX12_clauseHere_97 rfl (lv_at hl 2 rfl) ?_
  refine lv_ldc2 hx hb hown (hW _ w_7_9 rfl) dX12_clauseHere_98 ?_
  refine md_goi hG (md_runV (As := [.long 1801807216]) (rest := []) hx hb hml hown hW hK hT hG (c_X12_isWord_7 l D cy tx base  Z  K N M R J hZ hK69 hM69_13 hM69_1 ) s_X12_138 ⟨rfl, rfl, ⟨Nat.le_of_ble_eq_true rfl, Nat.le_of_ble_eq_true rfl⟩, ⟨Nat.le_of_ble_eq_true rfl, Nat.le_of_ble_eq_true rfl⟩⟩ (Nat.lt_of_lt_of_le (by decide) hZ) hK69 (by decide) rfl rfl hl.1 rfl (Nat.le_of_ble_eq_true rfl) dX12_clauseHere_101) (fun r u H locs hp hG => ?_)
  obtain ⟨rfl, rfl⟩ := hp
  have hG : md_G D cy base Z K N M R J s H locs := hG
  refine lv_if_eq (tgt := 111) hx hb dX12_clauseHere_104 (by decide) (fun _ => ?_) (fun h => absurd h (by decide))
  refine lv_iconst (v := 0) hx hb dX12_clauseHere_111 (by decide) ?_
  refine lv_istore_n (lv' := [(3, .int 0), (2, .int 0), (1, .int 0), (0, .ref (base + 69))]) hx hb dX12_clauseHere_112 rfl hl (by decide) rfl (fun ls hl => ?_)
  refine lv_iload_n hx hb dX12_clauseHere_113 rfl (lv_at hl 0 rfl) ?_
  refine lv_if_ne (tgt := 124) hx hb dX12_clauseHere_114 (by decide) (fun h => absurd h (by decide)) (fun _ => ?_)
  refine lv_aload_n hx hb dX12_clauseHere_117 rfl (lv_at hl 3 rfl) ?_
  refine lv_iconst (v := 0) hx hb dX12_clauseHere_118 (by decide) ?_
  refine lv_iload_n hx hb dX12_clauseHere_119 rfl (lv_at hl 2 rfl) ?_
  refine md_goi hG (md_runV (As := [.int 0, .int 0]) (rest := []) hx hb hml hown hW hK hT hG (c_X12_fails l D cy tx base  Z  K N M R J hZ hK69 hM69_14 ) s_X12_148 ⟨rfl, rfl, ⟨Nat.le_of_ble_eq_true rfl, Nat.le_of_ble_eq_true rfl⟩, ⟨Nat.le_of_ble_eq_true rfl, Nat.le_of_ble_eq_true rfl⟩⟩ (Nat.lt_of_lt_of_le (by decide) hZ) hK69 (by decide) rfl rfl hl.1 rfl (Nat.le_of_ble_eq_true rfl) dX12_clauseHere_120) (fun r u H locs hp hG => ?_)
  obtain ⟨rfl, rfl⟩ := hp
  have hG : md_G D cy base Z K N (u2 M 69 14 1) R J s H locs := hG
  exact md_endz hx hb hr hlocks hK hT hG rfl (⟨rfl, rfl⟩) dX12_clauseHere_123
set_option maxRecDepth 100000 in
set_option maxHeartbeats 4000000 in
theorem c_X12_readsAll_2 (l : Launch) (D : va_G) (cy : Nat → ClassId) (tx : (Nat → Nat) × (Nat → Nat)) (base Z : Nat) (K N : Nat → Nat) (M : Nat → Nat → Int32) (R : Nat → Nat → Option Nat) (J : Nat → Nat → Int64) (hZ : 104 ≤ Z) (hK69 : K 69 = 12) (hR69_4 : R 69 4 = some 72) (hM69_16 : M 69 16 = 0) (hK72 : K 72 = 14) (hN72 : N 72 = 7) (hM69_1 : M 69 1 = 0) : Met l yX12_readsAll [Cond.code yX12_readsAll cX12_readsAll 2 (some .boolean)] (md_rm 4 0 0) (va_Pc [.ref (base + 69)] (md_U D cy tx base Z K N M R J)) (mQi D cy tx base (fun r u => r = 0 ∧ u = (Z, K, N, (u2 (u2 (u2 (u2 (u2 (u2 (u2 M 72 0 0) 69 19 0) 69 13 0) 69 14 0) 69 17 0) 69 14 1) 69 1 0), R, J))) 0 0 (fun q => base ≤ q) := by
  refine Met.ofW (cc := cX12_readsAll) (maxL := 2) (ret := (some .boolean)) (by decide) rfl ?_
  intro p e s m args below meth c s₁ B hml hv
  have hW : ∀ w ∈ lw_tbl, goodWord w = true → w.before args s = true := fun w h g => hv.2.2.2.1.2.1 w h g _
  obtain ⟨rfl, hU⟩ := hv
  have hx := B.exec
  have hb := B.bytes
  have hr := B.returns
  have hlocks := B.notSynchronized
  have hown : s.vm.findClass RX12 = some m.cls := findClass_of_methodNamed B.named
  have hK := hU.2.2.1
  have hT := hU.2.2.2
  have hG := md_G.start hU
  have hl := lv_entry ([.ref (base + 69)]) (n := 2) (Nat.le_of_ble_eq_true rfl)
  rw [lg_entry_eq]
  generalize (lg_sl ([.ref (base + 69)]) ++ List.replicate (2 - (lg_sl ([.ref (base + 69)])).length) Slot.unset).toArray = ls at hl ⊢
  have hl : lv_has ls 2 [(0, .ref (base + 69))] := hl
  refine lv_aload_n hx hb dX12_readsAll_0 rfl (lv_at hl 0 rfl) ?_
  refine md_getr hx hb hW hown hK hG f_X12_17_11 (Nat.lt_of_lt_of_le (by decide) hZ) hK69 (b := 72) hR69_4 dX12_readsAll_1 ?_
  refine lv_aload_n hx hb dX12_readsAll_4 rfl (lv_at hl 0 rfl) ?_
  refine md_geti hx hb hW hown hK hG f_X12_179_11 (Nat.lt_of_lt_of_le (by decide) hZ) hK69 (v := 0) hM69_16 dX12_readsAll_5 ?_
  refine lv_iconst (v := 0) hx hb dX12_readsAll_8 (by decide) ?_
  refine md_iast hx hb hK hG (Nat.lt_of_lt_of_le (by decide) hZ) hK72 hN72 (md_inD (by decide)) (k := 0) (by decide) dX12_readsAll_9 (fun H locs hG => ?_)
  refine lv_aload_n hx hb dX12_readsAll_10 rfl (lv_at hl 0 rfl) ?_
  refine lv_iconst (v := 0) hx hb dX12_readsAll_11 (by decide) ?_
  refine md_puti hx hb hW hown hK hG f_X12_286_11 (Nat.lt_of_lt_of_le (by decide) hZ) hK69 rfl rfl dX12_readsAll_12 (fun H locs hG => ?_)
  refine lv_aload_n hx hb dX12_readsAll_15 rfl (lv_at hl 0 rfl) ?_
  refine lv_iconst (v := 0) hx hb dX12_readsAll_16 (by decide) ?_
  refine md_puti hx hb hW hown hK hG f_X12_127_11 (Nat.lt_of_lt_of_le (by decide) hZ) hK69 rfl rfl dX12_readsAll_17 (fun H locs hG => ?_)
  refine lv_aload_n hx hb dX12_readsAll_20 rfl (lv_at hl 0 rfl) ?_
  refine lv_iconst (v := 0) hx hb dX12_readsAll_21 (by decide) ?_
  refine md_puti hx hb hW hown hK hG f_X12_124_11 (Nat.lt_of_lt_of_le (by decide) hZ) hK69 rfl rfl dX12_readsAll_22 (fun H locs hG => ?_)
  refine lv_aload_n hx hb dX12_readsAll_25 rfl (lv_at hl 0 rfl) ?_
  refine lv_iconst (v := 0) hx hb dX12_readsAll_26 (by decide) ?_
  refine md_puti hx hb hW hown hK hG f_X12_182_11 (Nat.lt_of_lt_of_le (by decide) hZ) hK69 rfl rfl dX12_readsAll_27 (fun H locs hG => ?_)
  refine lv_aload_n hx hb dX12_readsAll_30 rfl (lv_at hl 0 rfl) ?_
  refine md_goi hG (md_runV (As := []) (rest := []) hx hb hml hown hW hK hT hG (c_X12_clauseHere_2 l D cy tx base  Z  K N (u2 (u2 (u2 (u2 (u2 M 72 0 0) 69 19 0) 69 13 0) 69 14 0) 69 17 0) R J hZ hK69 rfl hM69_1 hM69_16 rfl ) s_X12_295 ⟨rfl, rfl, ⟨Nat.le_of_ble_eq_true rfl, Nat.le_of_ble_eq_true rfl⟩, ⟨Nat.le_of_ble_eq_true rfl, Nat.le_of_ble_eq_true rfl⟩⟩ (Nat.lt_of_lt_of_le (by decide) hZ) hK69 (by decide) rfl rfl hl.1 rfl (Nat.le_of_ble_eq_true rfl) dX12_readsAll_31) (fun r u H locs hp hG => ?_)
  obtain ⟨rfl, rfl⟩ := hp
  have hG : md_G D cy base Z K N (u2 (u2 (u2 (u2 (u2 (u2 M 72 0 0) 69 19 0) 69 13 0) 69 14 0) 69 17 0) 69 14 1) R J s H locs := hG
  refine lv_istore_n (lv' := [(1, .int 0), (0, .ref (base + 69))]) hx hb dX12_readsAll_34 rfl hl (by decide) rfl (fun ls hl => ?_)
  refine lv_iload_n hx hb dX12_readsAll_35 rfl (lv_at hl 0 rfl) ?_
  refine lv_if_eq (tgt := 66) hx hb dX12_readsAll_36 (by decide) (fun _ => ?_) (fun h => absurd h (by decide))
  refine lv_iload_n hx hb dX12_readsAll_66 rfl (lv_at hl 0 rfl) ?_
  refine lv_if_eq (tgt := 88) hx hb dX12_readsAll_67 (by decide) (fun _ => ?_) (fun h => absurd h (by decide))
  refine lv_aload_n hx hb dX12_readsAll_88 rfl (lv_at hl 1 rfl) ?_
  refine lv_iconst (v := 0) hx hb dX12_readsAll_89 (by decide) ?_
  refine md_puti hx hb hW hown hK hG f_X12_116_11 (Nat.lt_of_lt_of_le (by decide) hZ) hK69 rfl rfl dX12_readsAll_90 (fun H locs hG => ?_)
  refine lv_aload_n hx hb dX12_readsAll_93 rfl (lv_at hl 1 rfl) ?_
  refine md_geti hx hb hW hown hK hG f_X12_124_11 (Nat.lt_of_lt_of_le (by decide) hZ) hK69 (v := 1) rfl dX12_readsAll_94 ?_
  refine lv_if_ne (tgt := 104) hx hb dX12_readsAll_97 (by decide) (fun _ => ?_) (fun h => absurd h (by decide))
  refine lv_iconst (v := 0) hx hb dX12_readsAll_104 (by decide) ?_
  exact md_endz hx hb hr hlocks hK hT hG rfl (⟨rfl, rfl⟩) dX12_readsAll_105
set_option maxRecDepth 100000 in
set_option maxHeartbeats 4000000 in
theorem c_X12_rule (l : Launch) (D : va_G) (cy : Nat → ClassId) (tx : (Nat → Nat) × (Nat → Nat)) (base Z : Nat) (K N : Nat → Nat) (M : Nat → Nat → Int32) (R : Nat → Nat → Option Nat) (J : Nat → Nat → Int64) (hZ : 104 ≤ Z) (hK69 : K 69 = 12) (hM69_2 : M 69 2 = 0) (hR69_6 : R 69 6 = some 74) (hK74 : K 74 = 14) (hN74 : N 74 = 6) (hR69_4 : R 69 4 = some 72) (hK72 : K 72 = 14) (hN72 : N 72 = 7) (hM69_1 : M 69 1 = 0) : Met l yX12_rule [Cond.code yX12_rule cX12_rule 1 (some .int)] (md_rm 5 0 0) (va_Pc [.ref (base + 69)] (md_U D cy tx base Z K N M R J)) (mQi D cy tx base (fun r u => r = (-3) ∧ u = (Z, K, N, (u2 (u2 (u2 (u2 (u2 (u2 (u2 (u2 (u2 M 69 16 0) 74 0 0) 72 0 0) 69 19 0) 69 13 0) 69 14 0) 69 17 0) 69 14 1) 69 1 0), R, J))) 0 0 (fun q => base ≤ q) := by
  refine Met.ofW (cc := cX12_rule) (maxL := 1) (ret := (some .int)) (by decide) rfl ?_
  intro p e s m args below meth c s₁ B hml hv
  have hW : ∀ w ∈ lw_tbl, goodWord w = true → w.before args s = true := fun w h g => hv.2.2.2.1.2.1 w h g _
  obtain ⟨rfl, hU⟩ := hv
  have hx := B.exec
  have hb := B.bytes
  have hr := B.returns
  have hlocks := B.notSynchronized
  have hown : s.vm.findClass RX12 = some m.cls := findClass_of_methodNamed B.named
  have hK := hU.2.2.1
  have hT := hU.2.2.2
  have hG := md_G.start hU
  have hl := lv_entry ([.ref (base + 69)]) (n := 1) (Nat.le_of_ble_eq_true rfl)
  rw [lg_entry_eq]
  generalize (lg_sl ([.ref (base + 69)]) ++ List.replicate (1 - (lg_sl ([.ref (base + 69)])).length) Slot.unset).toArray = ls at hl ⊢
  have hl : lv_has ls 1 [(0, .ref (base + 69))] := hl
  refine lv_aload_n hx hb dX12_rule_0 rfl (lv_at hl 0 rfl) ?_
  refine md_geti hx hb hW hown hK hG f_X12_298_11 (Nat.lt_of_lt_of_le (by decide) hZ) hK69 (v := 0) hM69_2 dX12_rule_1 ?_
  refine lv_bipush (v := 6) hx hb dX12_rule_4 (by decide) ?_
  refine lv_icmp_ne (tgt := 11) hx hb dX12_rule_6 (by decide) (fun _ => ?_) (fun h => absurd h (by decide))
  refine lv_aload_n hx hb dX12_rule_11 rfl (lv_at hl 0 rfl) ?_
  refine lv_aload_n hx hb dX12_rule_12 rfl (lv_at hl 0 rfl) ?_
  refine md_geti hx hb hW hown hK hG f_X12_298_11 (Nat.lt_of_lt_of_le (by decide) hZ) hK69 (v := 0) hM69_2 dX12_rule_13 ?_
  refine md_puti hx hb hW hown hK hG f_X12_179_11 (Nat.lt_of_lt_of_le (by decide) hZ) hK69 rfl rfl dX12_rule_16 (fun H locs hG => ?_)
  refine lv_aload_n hx hb dX12_rule_19 rfl (lv_at hl 0 rfl) ?_
  refine md_getr hx hb hW hown hK hG f_X12_23_11 (Nat.lt_of_lt_of_le (by decide) hZ) hK69 (b := 74) hR69_6 dX12_rule_20 ?_
  refine lv_aload_n hx hb dX12_rule_23 rfl (lv_at hl 0 rfl) ?_
  refine md_geti hx hb hW hown hK hG f_X12_179_11 (Nat.lt_of_lt_of_le (by decide) hZ) hK69 (v := 0) rfl dX12_rule_24 ?_
  refine lv_iconst (v := 0) hx hb dX12_rule_27 (by decide) ?_
  refine md_iast hx hb hK hG (Nat.lt_of_lt_of_le (by decide) hZ) hK74 hN74 (md_inD (by decide)) (k := 0) (by decide) dX12_rule_28 (fun H locs hG => ?_)
  refine lv_aload_n hx hb dX12_rule_29 rfl (lv_at hl 0 rfl) ?_
  refine md_goi hG (md_runV (As := []) (rest := []) hx hb hml hown hW hK hT hG (c_X12_readsAll_2 l D cy tx base  Z  K N (u2 (u2 M 69 16 0) 74 0 0) R J hZ hK69 hR69_4 rfl hK72 hN72 hM69_1 ) s_X12_301 ⟨rfl, rfl, ⟨Nat.le_of_ble_eq_true rfl, Nat.le_of_ble_eq_true rfl⟩, ⟨Nat.le_of_ble_eq_true rfl, Nat.le_of_ble_eq_true rfl⟩⟩ (Nat.lt_of_lt_of_le (by decide) hZ) hK69 (by decide) rfl rfl hl.1 rfl (Nat.le_of_ble_eq_true rfl) dX12_rule_30) (fun r u H locs hp hG => ?_)
  obtain ⟨rfl, rfl⟩ := hp
  have hG : md_G D cy base Z K N (u2 (u2 (u2 (u2 (u2 (u2 (u2 (u2 (u2 M 69 16 0) 74 0 0) 72 0 0) 69 19 0) 69 13 0) 69 14 0) 69 17 0) 69 14 1) 69 1 0) R J s H locs := hG
  refine lv_if_ne (tgt := 44) hx hb dX12_rule_33 (by decide) (fun h => absurd h (by decide)) (fun _ => ?_)
  refine lv_bipush (v := (-2)) hx hb dX12_rule_36 (by decide) ?_
  refine lv_aload_n hx hb dX12_rule_38 rfl (lv_at hl 0 rfl) ?_
  refine md_geti hx hb hW hown hK hG f_X12_124_11 (Nat.lt_of_lt_of_le (by decide) hZ) hK69 (v := 1) rfl dX12_rule_39 ?_
  refine lv_isub hx hb dX12_rule_42 ?_
  refine md_top (y := (-3)) (by decide) ?_
  exact md_endi hx hb hr hlocks hK hT hG (⟨rfl, rfl⟩) dX12_rule_43
set_option maxRecDepth 100000 in
set_option maxHeartbeats 4000000 in
theorem c_X12_isMember (l : Launch) (D : va_G) (cy : Nat → ClassId) (tx : (Nat → Nat) × (Nat → Nat)) (base Z : Nat) (K N : Nat → Nat) (M : Nat → Nat → Int32) (R : Nat → Nat → Option Nat) (J : Nat → Nat → Int64) (hZ : 104 ≤ Z) (hK69 : K 69 = 12) (hR69_25 : R 69 25 = some 81) (hK81 : K 81 = 14) (hN81 : N 81 = 226) (hM81_0 : M 81 0 = 0) (p1 : Int32) : Met l yX12_isMember [Cond.code yX12_isMember cX12_isMember 2 (some .boolean)] (md_rm 1 0 0) (va_Pc [.ref (base + 69), .int p1] (md_U D cy tx base Z K N M R J)) (mQi D cy tx base (fun r u => r = 0 ∧ u = (Z, K, N, M, R, J))) 0 0 (fun q => base ≤ q) := by
  refine Met.ofW (cc := cX12_isMember) (maxL := 2) (ret := (some .boolean)) (by decide) rfl ?_
  intro p e s m args below meth c s₁ B hml hv
  have hW : ∀ w ∈ lw_tbl, goodWord w = true → w.before args s = true := fun w h g => hv.2.2.2.1.2.1 w h g _
  obtain ⟨rfl, hU⟩ := hv
  have hx := B.exec
  have hb := B.bytes
  have hr := B.returns
  have hlocks := B.notSynchronized
  have hown : s.vm.findClass RX12 = some m.cls := findClass_of_methodNamed B.named
  have hK := hU.2.2.1
  have hT := hU.2.2.2
  have hG := md_G.start hU
  have hl := lv_entry ([.ref (base + 69), .int p1]) (n := 2) (Nat.le_of_ble_eq_true rfl)
  rw [lg_entry_eq]
  generalize (lg_sl ([.ref (base + 69), .int p1]) ++ List.replicate (2 - (lg_sl ([.ref (base + 69), .int p1])).length) Slot.unset).toArray = ls at hl ⊢
  have hl : lv_has ls 2 [(0, .ref (base + 69)), (1, .int p1)] := hl
  refine lv_iload_n hx hb dX12_isMember_0 rfl (lv_at hl 1 rfl) ?_
  refine lv_if_lt (tgt := 18) hx hb dX12_isMember_1 (by decide) (fun c1 => ?_) (fun c1 => ?_)
  · refine lv_iconst (v := 0) hx hb dX12_isMember_18 (by decide) ?_
    exact md_endz hx hb hr hlocks hK hT hG rfl (⟨rfl, rfl⟩) dX12_isMember_19
  · refine lv_iload_n hx hb dX12_isMember_4 rfl (lv_at hl 1 rfl) ?_
    refine lv_aload_n hx hb dX12_isMember_5 rfl (lv_at hl 0 rfl) ?_
    refine md_getr hx hb hW hown hK hG f_X12_45_11 (Nat.lt_of_lt_of_le (by decide) hZ) hK69 (b := 81) hR69_25 dX12_isMember_6 ?_
    refine lv_iconst (v := 0) hx hb dX12_isMember_9 (by decide) ?_
    refine md_iald hx hb hK hG (Nat.lt_of_lt_of_le (by decide) hZ) hK81 hN81 (md_inD (by decide)) (v := 0) hM81_0 dX12_isMember_10 ?_
    refine lv_icmp_ge (tgt := 18) hx hb dX12_isMember_11 (by decide) (fun _ => ?_) (fun h => absurd (Int32.not_lt.mp c1) h)
    refine lv_iconst (v := 0) hx hb dX12_isMember_18 (by decide) ?_
    exact md_endz hx hb hr hlocks hK hT hG rfl (⟨rfl, rfl⟩) dX12_isMember_19
set_option maxRecDepth 100000 in
set_option maxHeartbeats 4000000 in
theorem c_X12_voice (l : Launch) (D : va_G) (cy : Nat → ClassId) (tx : (Nat → Nat) × (Nat → Nat)) (base Z : Nat) (K N : Nat → Nat) (M : Nat → Nat → Int32) (R : Nat → Nat → Option Nat) (J : Nat → Nat → Int64) (hZ : 104 ≤ Z) (hK69 : K 69 = 12) (hR69_25 : R 69 25 = some 81) (hK81 : K 81 = 14) (hN81 : N 81 = 226) (hM81_0 : M 81 0 = 0) (p1 : Int32) (p2 : Int32) : Met l yX12_voice [Cond.code yX12_voice cX12_voice 3 (some .int)] (md_rm 2 0 0) (va_Pc [.ref (base + 69), .int p1, .int p2] (md_U D cy tx base Z K N M R J)) (mQi D cy tx base (fun r u => r = (-1) ∧ u = (Z, K, N, M, R, J))) 0 0 (fun q => base ≤ q) := by
  refine Met.ofW (cc := cX12_voice) (maxL := 3) (ret := (some .int)) (by decide) rfl ?_
  intro p e s m args below meth c s₁ B hml hv
  have hW : ∀ w ∈ lw_tbl, goodWord w = true → w.before args s = true := fun w h g => hv.2.2.2.1.2.1 w h g _
  obtain ⟨rfl, hU⟩ := hv
  have hx := B.exec
  have hb := B.bytes
  have hr := B.returns
  have hlocks := B.notSynchronized
  have hown : s.vm.findClass RX12 = some m.cls := findClass_of_methodNamed B.named
  have hK := hU.2.2.1
  have hT := hU.2.2.2
  have hG := md_G.start hU
  have hl := lv_entry ([.ref (base + 69), .int p1, .int p2]) (n := 3) (Nat.le_of_ble_eq_true rfl)
  rw [lg_entry_eq]
  generalize (lg_sl ([.ref (base + 69), .int p1, .int p2]) ++ List.replicate (3 - (lg_sl ([.ref (base + 69), .int p1, .int p2])).length) Slot.unset).toArray = ls at hl ⊢
  have hl : lv_has ls 3 [(0, .ref (base + 69)), (1, .int p1), (2, .int p2)] := hl
  refine lv_aload_n hx hb dX12_voice_0 rfl (lv_at hl 0 rfl) ?_
  refine lv_iload_n hx hb dX12_voice_1 rfl (lv_at hl 1 rfl) ?_
  refine md_goi hG (md_runV (As := [.int p1]) (rest := []) hx hb hml hown hW hK hT hG (c_X12_isMember l D cy tx base  Z  K N M R J hZ hK69 hR69_25 hK81 hN81 hM81_0 p1) s_X12_319 ⟨rfl, rfl, ⟨Nat.le_of_ble_eq_true rfl, Nat.le_of_ble_eq_true rfl⟩, ⟨Nat.le_of_ble_eq_true rfl, Nat.le_of_ble_eq_true rfl⟩⟩ (Nat.lt_of_lt_of_le (by decide) hZ) hK69 (by decide) rfl rfl hl.1 rfl (Nat.le_of_ble_eq_true rfl) dX12_voice_2) (fun r u H locs hp hG => ?_)
  obtain ⟨rfl, rfl⟩ := hp
  have hG : md_G D cy base Z K N M R J s H locs := hG
  refine lv_if_eq (tgt := 20) hx hb dX12_voice_5 (by decide) (fun _ => ?_) (fun h => absurd h (by decide))
  refine lv_iconst (v := (-1)) hx hb dX12_voice_20 (by decide) ?_
  exact md_endi hx hb hr hlocks hK hT hG (⟨rfl, rfl⟩) dX12_voice_21
set_option maxRecDepth 100000 in
set_option maxHeartbeats 4000000 in
theorem c_X12_worth (l : Launch) (D : va_G) (cy : Nat → ClassId) (tx : (Nat → Nat) × (Nat → Nat)) (base Z : Nat) (K N : Nat → Nat) (M : Nat → Nat → Int32) (R : Nat → Nat → Option Nat) (J : Nat → Nat → Int64) (hZ : 104 ≤ Z) (hK69 : K 69 = 12) (hR69_25 : R 69 25 = some 81) (hK81 : K 81 = 14) (hN81 : N 81 = 226) (hM81_0 : M 81 0 = 0) (p1 : Int32) (p2 : Int32) : Met l yX12_worth [Cond.code yX12_worth cX12_worth 3 (some .int)] (md_rm 2 0 0) (va_Pc [.ref (base + 69), .int p1, .int p2] (md_U D cy tx base Z K N M R J)) (mQi D cy tx base (fun r u => r = (-1000) ∧ u = (Z, K, N, M, R, J))) 0 0 (fun q => base ≤ q) := by
  refine Met.ofW (cc := cX12_worth) (maxL := 3) (ret := (some .int)) (by decide) rfl ?_
  intro p e s m args below meth c s₁ B hml hv
  have hW : ∀ w ∈ lw_tbl, goodWord w = true → w.before args s = true := fun w h g => hv.2.2.2.1.2.1 w h g _
  obtain ⟨rfl, hU⟩ := hv
  have hx := B.exec
  have hb := B.bytes
  have hr := B.returns
  have hlocks := B.notSynchronized
  have hown : s.vm.findClass RX12 = some m.cls := findClass_of_methodNamed B.named
  have hK := hU.2.2.1
  have hT := hU.2.2.2
  have hG := md_G.start hU
  have hl := lv_entry ([.ref (base + 69), .int p1, .int p2]) (n := 3) (Nat.le_of_ble_eq_true rfl)
  rw [lg_entry_eq]
  generalize (lg_sl ([.ref (base + 69), .int p1, .int p2]) ++ List.replicate (3 - (lg_sl ([.ref (base + 69), .int p1, .int p2])).length) Slot.unset).toArray = ls at hl ⊢
  have hl : lv_has ls 3 [(0, .ref (base + 69)), (1, .int p1), (2, .int p2)] := hl
  refine lv_aload_n hx hb dX12_worth_0 rfl (lv_at hl 0 rfl) ?_
  refine lv_iload_n hx hb dX12_worth_1 rfl (lv_at hl 1 rfl) ?_
  refine md_goi hG (md_runV (As := [.int p1]) (rest := []) hx hb hml hown hW hK hT hG (c_X12_isMember l D cy tx base  Z  K N M R J hZ hK69 hR69_25 hK81 hN81 hM81_0 p1) s_X12_319 ⟨rfl, rfl, ⟨Nat.le_of_ble_eq_true rfl, Nat.le_of_ble_eq_true rfl⟩, ⟨Nat.le_of_ble_eq_true rfl, Nat.le_of_ble_eq_true rfl⟩⟩ (Nat.lt_of_lt_of_le (by decide) hZ) hK69 (by decide) rfl rfl hl.1 rfl (Nat.le_of_ble_eq_true rfl) dX12_worth_2) (fun r u H locs hp hG => ?_)
  obtain ⟨rfl, rfl⟩ := hp
  have hG : md_G D cy base Z K N M R J s H locs := hG
  refine lv_if_eq (tgt := 25) hx hb dX12_worth_5 (by decide) (fun _ => ?_) (fun h => absurd h (by decide))
  refine lv_sipush (v := (-1000)) hx hb dX12_worth_25 (by decide) ?_
  exact md_endi hx hb hr hlocks hK hT hG (⟨rfl, rfl⟩) dX12_worth_28
set_option maxRecDepth 100000 in
set_option maxHeartbeats 4000000 in
theorem c_X12_refuses (l : Launch) (D : va_G) (cy : Nat → ClassId) (tx : (Nat → Nat) × (Nat → Nat)) (base Z : Nat) (K N : Nat → Nat) (M : Nat → Nat → Int32) (R : Nat → Nat → Option Nat) (J : Nat → Nat → Int64) (hZ : 104 ≤ Z) (hK69 : K 69 = 12) (hR69_26 : R 69 26 = some 82) (hK82 : K 82 = 14) (hN82 : N 82 = 2) (hM82_0 : M 82 0 = 0) : Met l yX12_refuses [Cond.code yX12_refuses cX12_refuses 2 (some .int)] (md_rm 1 0 0) (va_Pc [.ref (base + 69), .int 0] (md_U D cy tx base Z K N M R J)) (mQi D cy tx base (fun r u => r = (-2) ∧ u = (Z, K, N, (u2 M 82 0 1), R, J))) 0 0 (fun q => base ≤ q) := by
  refine Met.ofW (cc := cX12_refuses) (maxL := 2) (ret := (some .int)) (by decide) rfl ?_
  intro p e s m args below meth c s₁ B hml hv
  have hW : ∀ w ∈ lw_tbl, goodWord w = true → w.before args s = true := fun w h g => hv.2.2.2.1.2.1 w h g _
  obtain ⟨rfl, hU⟩ := hv
  have hx := B.exec
  have hb := B.bytes
  have hr := B.returns
  have hlocks := B.notSynchronized
  have hown : s.vm.findClass RX12 = some m.cls := findClass_of_methodNamed B.named
  have hK := hU.2.2.1
  have hT := hU.2.2.2
  have hG := md_G.start hU
  have hl := lv_entry ([.ref (base + 69), .int 0]) (n := 2) (Nat.le_of_ble_eq_true rfl)
  rw [lg_entry_eq]
  generalize (lg_sl ([.ref (base + 69), .int 0]) ++ List.replicate (2 - (lg_sl ([.ref (base + 69), .int 0])).length) Slot.unset).toArray = ls at hl ⊢
  have hl : lv_has ls 2 [(0, .ref (base + 69)), (1, .int 0)] := hl
  refine lv_aload_n hx hb dX12_refuses_0 rfl (lv_at hl 0 rfl) ?_
  refine md_getr hx hb hW hown hK hG f_X12_48_11 (Nat.lt_of_lt_of_le (by decide) hZ) hK69 (b := 82) hR69_26 dX12_refuses_1 ?_
  refine lv_iload_n hx hb dX12_refuses_4 rfl (lv_at hl 1 rfl) ?_
  refine lv_dup2_11 hx hb dX12_refuses_5 rfl rfl ?_
  refine md_iald hx hb hK hG (Nat.lt_of_lt_of_le (by decide) hZ) hK82 hN82 (md_inD (by decide)) (v := 0) hM82_0 dX12_refuses_6 ?_
  refine lv_iconst (v := 1) hx hb dX12_refuses_7 (by decide) ?_
  refine lv_iadd hx hb dX12_refuses_8 ?_
  refine md_top (y := 1) (by decide) ?_
  refine md_iast hx hb hK hG (Nat.lt_of_lt_of_le (by decide) hZ) hK82 hN82 (md_inD (by decide)) (k := 0) (by decide) dX12_refuses_9 (fun H locs hG => ?_)
  refine lv_bipush (v := (-2)) hx hb dX12_refuses_10 (by decide) ?_
  exact md_endi hx hb hr hlocks hK hT hG (⟨rfl, rfl⟩) dX12_refuses_12
set_option maxRecDepth 100000 in
set_option maxHeartbeats 4000000 in
theorem c_X12_bend (l : Launch) (D : va_G) (cy : Nat → ClassId) (tx : (Nat → Nat) × (Nat → Nat)) (base Z : Nat) (K N : Nat → Nat) (M : Nat → Nat → Int32) (R : Nat → Nat → Option Nat) (J : Nat → Nat → Int64) (hZ : 104 ≤ Z) (hK69 : K 69 = 12) (hR69_25 : R 69 25 = some 81) (hK81 : K 81 = 14) (hN81 : N 81 = 226) (hM81_0 : M 81 0 = 0) (hR69_26 : R 69 26 = some 82) (hK82 : K 82 = 14) (hN82 : N 82 = 2) (hM82_0 : M 82 0 = 0) (p1 : Int32) (p2 : Int32) : Met l yX12_bend [Cond.code yX12_bend cX12_bend 4 (some .int)] (md_rm 2 0 0) (va_Pc [.ref (base + 69), .int p1, .int p2] (md_U D cy tx base Z K N M R J)) (mQi D cy tx base (fun r u => r = (-2) ∧ u = (Z, K, N, (u2 M 82 0 1), R, J))) 0 0 (fun q => base ≤ q) := by
  refine Met.ofW (cc := cX12_bend) (maxL := 4) (ret := (some .int)) (by decide) rfl ?_
  intro p e s m args below meth c s₁ B hml hv
  have hW : ∀ w ∈ lw_tbl, goodWord w = true → w.before args s = true := fun w h g => hv.2.2.2.1.2.1 w h g _
  obtain ⟨rfl, hU⟩ := hv
  have hx := B.exec
  have hb := B.bytes
  have hr := B.returns
  have hlocks := B.notSynchronized
  have hown : s.vm.findClass RX12 = some m.cls := findClass_of_methodNamed B.named
  have hK := hU.2.2.1
  have hT := hU.2.2.2
  have hG := md_G.start hU
  have hl := lv_entry ([.ref (base + 69), .int p1, .int p2]) (n := 4) (Nat.le_of_ble_eq_true rfl)
  rw [lg_entry_eq]
  generalize (lg_sl ([.ref (base + 69), .int p1, .int p2]) ++ List.replicate (4 - (lg_sl ([.ref (base + 69), .int p1, .int p2])).length) Slot.unset).toArray = ls at hl ⊢
  have hl : lv_has ls 4 [(0, .ref (base + 69)), (1, .int p1), (2, .int p2)] := hl
  refine lv_aload_n hx hb dX12_bend_0 rfl (lv_at hl 0 rfl) ?_
  refine lv_iload_n hx hb dX12_bend_1 rfl (lv_at hl 1 rfl) ?_
  refine md_goi hG (md_runV (As := [.int p1]) (rest := []) hx hb hml hown hW hK hT hG (c_X12_isMember l D cy tx base  Z  K N M R J hZ hK69 hR69_25 hK81 hN81 hM81_0 p1) s_X12_319 ⟨rfl, rfl, ⟨Nat.le_of_ble_eq_true rfl, Nat.le_of_ble_eq_true rfl⟩, ⟨Nat.le_of_ble_eq_true rfl, Nat.le_of_ble_eq_true rfl⟩⟩ (Nat.lt_of_lt_of_le (by decide) hZ) hK69 (by decide) rfl rfl hl.1 rfl (Nat.le_of_ble_eq_true rfl) dX12_bend_2) (fun r u H locs hp hG => ?_)
  obtain ⟨rfl, rfl⟩ := hp
  have hG : md_G D cy base Z K N M R J s H locs := hG
  refine lv_if_eq (tgt := 22) hx hb dX12_bend_5 (by decide) (fun _ => ?_) (fun h => absurd h (by decide))
  refine lv_aload_n hx hb dX12_bend_22 rfl (lv_at hl 0 rfl) ?_
  refine lv_iconst (v := 0) hx hb dX12_bend_23 (by decide) ?_
  refine md_goi hG (md_runV (As := [.int 0]) (rest := []) hx hb hml hown hW hK hT hG (c_X12_refuses l D cy tx base  Z  K N M R J hZ hK69 hR69_26 hK82 hN82 hM82_0 ) s_X12_338 ⟨rfl, rfl, ⟨Nat.le_of_ble_eq_true rfl, Nat.le_of_ble_eq_true rfl⟩, ⟨Nat.le_of_ble_eq_true rfl, Nat.le_of_ble_eq_true rfl⟩⟩ (Nat.lt_of_lt_of_le (by decide) hZ) hK69 (by decide) rfl rfl hl.1 rfl (Nat.le_of_ble_eq_true rfl) dX12_bend_24) (fun r u H locs hp hG => ?_)
  obtain ⟨rfl, rfl⟩ := hp
  have hG : md_G D cy base Z K N (u2 M 82 0 1) R J s H locs := hG
  exact md_endi hx hb hr hlocks hK hT hG (⟨rfl, rfl⟩) dX12_bend_27
set_option maxRecDepth 100000 in
set_option maxHeartbeats 4000000 in
theorem c_X12_attends (l : Launch) (D : va_G) (cy : Nat → ClassId) (tx : (Nat → Nat) × (Nat → Nat)) (base Z : Nat) (K N : Nat → Nat) (M : Nat → Nat → Int32) (R : Nat → Nat → Option Nat) (J : Nat → Nat → Int64) (hZ : 104 ≤ Z) (hK69 : K 69 = 12) (hR69_25 : R 69 25 = some 81) (hK81 : K 81 = 14) (hN81 : N 81 = 226) (hM81_0 : M 81 0 = 0) (hR69_26 : R 69 26 = some 82) (hK82 : K 82 = 14) (hN82 : N 82 = 2) (hM82_0 : M 82 0 = 0) (p1 : Int32) (p2 : Int32) : Met l yX12_attends [Cond.code yX12_attends cX12_attends 3 (some .int)] (md_rm 2 0 0) (va_Pc [.ref (base + 69), .int p1, .int p2] (md_U D cy tx base Z K N M R J)) (mQi D cy tx base (fun r u => r = (-2) ∧ u = (Z, K, N, (u2 M 82 0 1), R, J))) 0 0 (fun q => base ≤ q) := by
  refine Met.ofW (cc := cX12_attends) (maxL := 3) (ret := (some .int)) (by decide) rfl ?_
  intro p e s m args below meth c s₁ B hml hv
  have hW : ∀ w ∈ lw_tbl, goodWord w = true → w.before args s = true := fun w h g => hv.2.2.2.1.2.1 w h g _
  obtain ⟨rfl, hU⟩ := hv
  have hx := B.exec
  have hb := B.bytes
  have hr := B.returns
  have hlocks := B.notSynchronized
  have hown : s.vm.findClass RX12 = some m.cls := findClass_of_methodNamed B.named
  have hK := hU.2.2.1
  have hT := hU.2.2.2
  have hG := md_G.start hU
  have hl := lv_entry ([.ref (base + 69), .int p1, .int p2]) (n := 3) (Nat.le_of_ble_eq_true rfl)
  rw [lg_entry_eq]
  generalize (lg_sl ([.ref (base + 69), .int p1, .int p2]) ++ List.replicate (3 - (lg_sl ([.ref (base + 69), .int p1, .int p2])).length) Slot.unset).toArray = ls at hl ⊢
  have hl : lv_has ls 3 [(0, .ref (base + 69)), (1, .int p1), (2, .int p2)] := hl
  refine lv_aload_n hx hb dX12_attends_0 rfl (lv_at hl 0 rfl) ?_
  refine lv_iload_n hx hb dX12_attends_1 rfl (lv_at hl 1 rfl) ?_
  refine md_goi hG (md_runV (As := [.int p1]) (rest := []) hx hb hml hown hW hK hT hG (c_X12_isMember l D cy tx base  Z  K N M R J hZ hK69 hR69_25 hK81 hN81 hM81_0 p1) s_X12_319 ⟨rfl, rfl, ⟨Nat.le_of_ble_eq_true rfl, Nat.le_of_ble_eq_true rfl⟩, ⟨Nat.le_of_ble_eq_true rfl, Nat.le_of_ble_eq_true rfl⟩⟩ (Nat.lt_of_lt_of_le (by decide) hZ) hK69 (by decide) rfl rfl hl.1 rfl (Nat.le_of_ble_eq_true rfl) dX12_attends_2) (fun r u H locs hp hG => ?_)
  obtain ⟨rfl, rfl⟩ := hp
  have hG : md_G D cy base Z K N M R J s H locs := hG
  refine lv_if_eq (tgt := 22) hx hb dX12_attends_5 (by decide) (fun _ => ?_) (fun h => absurd h (by decide))
  refine lv_aload_n hx hb dX12_attends_22 rfl (lv_at hl 0 rfl) ?_
  refine lv_iconst (v := 0) hx hb dX12_attends_23 (by decide) ?_
  refine md_goi hG (md_runV (As := [.int 0]) (rest := []) hx hb hml hown hW hK hT hG (c_X12_refuses l D cy tx base  Z  K N M R J hZ hK69 hR69_26 hK82 hN82 hM82_0 ) s_X12_338 ⟨rfl, rfl, ⟨Nat.le_of_ble_eq_true rfl, Nat.le_of_ble_eq_true rfl⟩, ⟨Nat.le_of_ble_eq_true rfl, Nat.le_of_ble_eq_true rfl⟩⟩ (Nat.lt_of_lt_of_le (by decide) hZ) hK69 (by decide) rfl rfl hl.1 rfl (Nat.le_of_ble_eq_true rfl) dX12_attends_24) (fun r u H locs hp hG => ?_)
  obtain ⟨rfl, rfl⟩ := hp
  have hG : md_G D cy base Z K N (u2 M 82 0 1) R J s H locs := hG
  exact md_endi hx hb hr hlocks hK hT hG (⟨rfl, rfl⟩) dX12_attends_27
set_option maxRecDepth 100000 in
set_option maxHeartbeats 4000000 in
theorem c_X12_beside (l : Launch) (D : va_G) (cy : Nat → ClassId) (tx : (Nat → Nat) × (Nat → Nat)) (base Z : Nat) (K N : Nat → Nat) (M : Nat → Nat → Int32) (R : Nat → Nat → Option Nat) (J : Nat → Nat → Int64) (hZ : 104 ≤ Z) (hK69 : K 69 = 12) (hR69_25 : R 69 25 = some 81) (hK81 : K 81 = 14) (hN81 : N 81 = 226) (hM81_0 : M 81 0 = 0) (hR69_26 : R 69 26 = some 82) (hK82 : K 82 = 14) (hN82 : N 82 = 2) (hM82_0 : M 82 0 = 0) (p1 : Int32) (p2 : Int32) : Met l yX12_beside [Cond.code yX12_beside cX12_beside 4 (some .int)] (md_rm 2 0 0) (va_Pc [.ref (base + 69), .int p1, .int p2] (md_U D cy tx base Z K N M R J)) (mQi D cy tx base (fun r u => r = (-2) ∧ u = (Z, K, N, (u2 M 82 0 1), R, J))) 0 0 (fun q => base ≤ q) := by
  refine Met.ofW (cc := cX12_beside) (maxL := 4) (ret := (some .int)) (by decide) rfl ?_
  intro p e s m args below meth c s₁ B hml hv
  have hW : ∀ w ∈ lw_tbl, goodWord w = true → w.before args s = true := fun w h g => hv.2.2.2.1.2.1 w h g _
  obtain ⟨rfl, hU⟩ := hv
  have hx := B.exec
  have hb := B.bytes
  have hr := B.returns
  have hlocks := B.notSynchronized
  have hown : s.vm.findClass RX12 = some m.cls := findClass_of_methodNamed B.named
  have hK := hU.2.2.1
  have hT := hU.2.2.2
  have hG := md_G.start hU
  have hl := lv_entry ([.ref (base + 69), .int p1, .int p2]) (n := 4) (Nat.le_of_ble_eq_true rfl)
  rw [lg_entry_eq]
  generalize (lg_sl ([.ref (base + 69), .int p1, .int p2]) ++ List.replicate (4 - (lg_sl ([.ref (base + 69), .int p1, .int p2])).length) Slot.unset).toArray = ls at hl ⊢
  have hl : lv_has ls 4 [(0, .ref (base + 69)), (1, .int p1), (2, .int p2)] := hl
  refine lv_aload_n hx hb dX12_beside_0 rfl (lv_at hl 0 rfl) ?_
  refine md_getr hx hb hW hown hK hG f_X12_45_11 (Nat.lt_of_lt_of_le (by decide) hZ) hK69 (b := 81) hR69_25 dX12_beside_1 ?_
  refine lv_iconst (v := 0) hx hb dX12_beside_4 (by decide) ?_
  refine md_iald hx hb hK hG (Nat.lt_of_lt_of_le (by decide) hZ) hK81 hN81 (md_inD (by decide)) (v := 0) hM81_0 dX12_beside_5 ?_
  refine lv_if_eq (tgt := 33) hx hb dX12_beside_6 (by decide) (fun _ => ?_) (fun h => absurd h (by decide))
  refine lv_aload_n hx hb dX12_beside_33 rfl (lv_at hl 0 rfl) ?_
  refine lv_iconst (v := 0) hx hb dX12_beside_34 (by decide) ?_
  refine md_goi hG (md_runV (As := [.int 0]) (rest := []) hx hb hml hown hW hK hT hG (c_X12_refuses l D cy tx base  Z  K N M R J hZ hK69 hR69_26 hK82 hN82 hM82_0 ) s_X12_338 ⟨rfl, rfl, ⟨Nat.le_of_ble_eq_true rfl, Nat.le_of_ble_eq_true rfl⟩, ⟨Nat.le_of_ble_eq_true rfl, Nat.le_of_ble_eq_true rfl⟩⟩ (Nat.lt_of_lt_of_le (by decide) hZ) hK69 (by decide) rfl rfl hl.1 rfl (Nat.le_of_ble_eq_true rfl) dX12_beside_35) (fun r u H locs hp hG => ?_)
  obtain ⟨rfl, rfl⟩ := hp
  have hG : md_G D cy base Z K N (u2 M 82 0 1) R J s H locs := hG
  exact md_endi hx hb hr hlocks hK hT hG (⟨rfl, rfl⟩) dX12_beside_38
set_option maxRecDepth 100000 in
set_option maxHeartbeats 4000000 in
theorem c_X12_isPresent (l : Launch) (D : va_G) (cy : Nat → ClassId) (tx : (Nat → Nat) × (Nat → Nat)) (base Z : Nat) (K N : Nat → Nat) (M : Nat → Nat → Int32) (R : Nat → Nat → Option Nat) (J : Nat → Nat → Int64) (hZ : 104 ≤ Z) (hK69 : K 69 = 12) (hR69_25 : R 69 25 = some 81) (hK81 : K 81 = 14) (hN81 : N 81 = 226) (hM81_0 : M 81 0 = 0) (p1 : Int32) : Met l yX12_isPresent [Cond.code yX12_isPresent cX12_isPresent 2 (some .boolean)] (md_rm 2 0 0) (va_Pc [.ref (base + 69), .int p1] (md_U D cy tx base Z K N M R J)) (mQi D cy tx base (fun r u => r = 0 ∧ u = (Z, K, N, M, R, J))) 0 0 (fun q => base ≤ q) := by
  refine Met.ofW (cc := cX12_isPresent) (maxL := 2) (ret := (some .boolean)) (by decide) rfl ?_
  intro p e s m args below meth c s₁ B hml hv
  have hW : ∀ w ∈ lw_tbl, goodWord w = true → w.before args s = true := fun w h g => hv.2.2.2.1.2.1 w h g _
  obtain ⟨rfl, hU⟩ := hv
  have hx := B.exec
  have hb := B.bytes
  have hr := B.returns
  have hlocks := B.notSynchronized
  have hown : s.vm.findClass RX12 = some m.cls := findClass_of_methodNamed B.named
  have hK := hU.2.2.1
  have hT := hU.2.2.2
  have hG := md_G.start hU
  have hl := lv_entry ([.ref (base + 69), .int p1]) (n := 2) (Nat.le_of_ble_eq_true rfl)
  rw [lg_entry_eq]
  generalize (lg_sl ([.ref (base + 69), .int p1]) ++ List.replicate (2 - (lg_sl ([.ref (base + 69), .int p1])).length) Slot.unset).toArray = ls at hl ⊢
  have hl : lv_has ls 2 [(0, .ref (base + 69)), (1, .int p1)] := hl
  refine lv_aload_n hx hb dX12_isPresent_0 rfl (lv_at hl 0 rfl) ?_
  refine lv_iload_n hx hb dX12_isPresent_1 rfl (lv_at hl 1 rfl) ?_
  refine md_goi hG (md_runV (As := [.int p1]) (rest := []) hx hb hml hown hW hK hT hG (c_X12_isMember l D cy tx base  Z  K N M R J hZ hK69 hR69_25 hK81 hN81 hM81_0 p1) s_X12_319 ⟨rfl, rfl, ⟨Nat.le_of_ble_eq_true rfl, Nat.le_of_ble_eq_true rfl⟩, ⟨Nat.le_of_ble_eq_true rfl, Nat.le_of_ble_eq_true rfl⟩⟩ (Nat.lt_of_lt_of_le (by decide) hZ) hK69 (by decide) rfl rfl hl.1 rfl (Nat.le_of_ble_eq_true rfl) dX12_isPresent_2) (fun r u H locs hp hG => ?_)
  obtain ⟨rfl, rfl⟩ := hp
  have hG : md_G D cy base Z K N M R J s H locs := hG
  refine lv_if_eq (tgt := 25) hx hb dX12_isPresent_5 (by decide) (fun _ => ?_) (fun h => absurd h (by decide))
  refine lv_iconst (v := 0) hx hb dX12_isPresent_25 (by decide) ?_
  exact md_endz hx hb hr hlocks hK hT hG rfl (⟨rfl, rfl⟩) dX12_isPresent_26
set_option maxRecDepth 100000 in
set_option maxHeartbeats 4000000 in
theorem c_X12_says (l : Launch) (D : va_G) (cy : Nat → ClassId) (tx : (Nat → Nat) × (Nat → Nat)) (base Z : Nat) (K N : Nat → Nat) (M : Nat → Nat → Int32) (R : Nat → Nat → Option Nat) (J : Nat → Nat → Int64) (hZ : 104 ≤ Z) (hK69 : K 69 = 12) (hR69_25 : R 69 25 = some 81) (hK81 : K 81 = 14) (hN81 : N 81 = 226) (hM81_0 : M 81 0 = 0) (p1 : Int32) (p2 : Int32) : Met l yX12_says [Cond.code yX12_says cX12_says 3 (some .int)] (md_rm 3 0 0) (va_Pc [.ref (base + 69), .int p1, .int p2] (md_U D cy tx base Z K N M R J)) (mQi D cy tx base (fun r u => r = (-1) ∧ u = (Z, K, N, M, R, J))) 0 0 (fun q => base ≤ q) := by
  refine Met.ofW (cc := cX12_says) (maxL := 3) (ret := (some .int)) (by decide) rfl ?_
  intro p e s m args below meth c s₁ B hml hv
  have hW : ∀ w ∈ lw_tbl, goodWord w = true → w.before args s = true := fun w h g => hv.2.2.2.1.2.1 w h g _
  obtain ⟨rfl, hU⟩ := hv
  have hx := B.exec
  have hb := B.bytes
  have hr := B.returns
  have hlocks := B.notSynchronized
  have hown : s.vm.findClass RX12 = some m.cls := findClass_of_methodNamed B.named
  have hK := hU.2.2.1
  have hT := hU.2.2.2
  have hG := md_G.start hU
  have hl := lv_entry ([.ref (base + 69), .int p1, .int p2]) (n := 3) (Nat.le_of_ble_eq_true rfl)
  rw [lg_entry_eq]
  generalize (lg_sl ([.ref (base + 69), .int p1, .int p2]) ++ List.replicate (3 - (lg_sl ([.ref (base + 69), .int p1, .int p2])).length) Slot.unset).toArray = ls at hl ⊢
  have hl : lv_has ls 3 [(0, .ref (base + 69)), (1, .int p1), (2, .int p2)] := hl
  refine lv_aload_n hx hb dX12_says_0 rfl (lv_at hl 0 rfl) ?_
  refine lv_iload_n hx hb dX12_says_1 rfl (lv_at hl 1 rfl) ?_
  refine md_goi hG (md_runV (As := [.int p1]) (rest := []) hx hb hml hown hW hK hT hG (c_X12_isPresent l D cy tx base  Z  K N M R J hZ hK69 hR69_25 hK81 hN81 hM81_0 p1) s_X12_390 ⟨rfl, rfl, ⟨Nat.le_of_ble_eq_true rfl, Nat.le_of_ble_eq_true rfl⟩, ⟨Nat.le_of_ble_eq_true rfl, Nat.le_of_ble_eq_true rfl⟩⟩ (Nat.lt_of_lt_of_le (by decide) hZ) hK69 (by decide) rfl rfl hl.1 rfl (Nat.le_of_ble_eq_true rfl) dX12_says_2) (fun r u H locs hp hG => ?_)
  obtain ⟨rfl, rfl⟩ := hp
  have hG : md_G D cy base Z K N M R J s H locs := hG
  refine lv_if_eq (tgt := 16) hx hb dX12_says_5 (by decide) (fun _ => ?_) (fun h => absurd h (by decide))
  refine lv_iconst (v := (-1)) hx hb dX12_says_16 (by decide) ?_
  exact md_endi hx hb hr hlocks hK hT hG (⟨rfl, rfl⟩) dX12_says_17
set_option maxRecDepth 100000 in
set_option maxHeartbeats 4000000 in
theorem c_X12_isPoint (l : Launch) (D : va_G) (cy : Nat → ClassId) (tx : (Nat → Nat) × (Nat → Nat)) (base Z : Nat) (K N : Nat → Nat) (M : Nat → Nat → Int32) (R : Nat → Nat → Option Nat) (J : Nat → Nat → Int64) (hZ : 104 ≤ Z) (hK69 : K 69 = 12) (hR69_25 : R 69 25 = some 81) (hK81 : K 81 = 14) (hN81 : N 81 = 226) (hM81_1 : M 81 1 = 0) (p1 : Int32) : Met l yX12_isPoint [Cond.code yX12_isPoint cX12_isPoint 2 (some .boolean)] (md_rm 1 0 0) (va_Pc [.ref (base + 69), .int p1] (md_U D cy tx base Z K N M R J)) (mQi D cy tx base (fun r u => r = 0 ∧ u = (Z, K, N, M, R, J))) 0 0 (fun q => base ≤ q) := by
  refine Met.ofW (cc := cX12_isPoint) (maxL := 2) (ret := (some .boolean)) (by decide) rfl ?_
  intro p e s m args below meth c s₁ B hml hv
  have hW : ∀ w ∈ lw_tbl, goodWord w = true → w.before args s = true := fun w h g => hv.2.2.2.1.2.1 w h g _
  obtain ⟨rfl, hU⟩ := hv
  have hx := B.exec
  have hb := B.bytes
  have hr := B.returns
  have hlocks := B.notSynchronized
  have hown : s.vm.findClass RX12 = some m.cls := findClass_of_methodNamed B.named
  have hK := hU.2.2.1
  have hT := hU.2.2.2
  have hG := md_G.start hU
  have hl := lv_entry ([.ref (base + 69), .int p1]) (n := 2) (Nat.le_of_ble_eq_true rfl)
  rw [lg_entry_eq]
  generalize (lg_sl ([.ref (base + 69), .int p1]) ++ List.replicate (2 - (lg_sl ([.ref (base + 69), .int p1])).length) Slot.unset).toArray = ls at hl ⊢
  have hl : lv_has ls 2 [(0, .ref (base + 69)), (1, .int p1)] := hl
  refine lv_iload_n hx hb dX12_isPoint_0 rfl (lv_at hl 1 rfl) ?_
  refine lv_if_lt (tgt := 18) hx hb dX12_isPoint_1 (by decide) (fun c1 => ?_) (fun c1 => ?_)
  · refine lv_iconst (v := 0) hx hb dX12_isPoint_18 (by decide) ?_
    exact md_endz hx hb hr hlocks hK hT hG rfl (⟨rfl, rfl⟩) dX12_isPoint_19
  · refine lv_iload_n hx hb dX12_isPoint_4 rfl (lv_at hl 1 rfl) ?_
    refine lv_aload_n hx hb dX12_isPoint_5 rfl (lv_at hl 0 rfl) ?_
    refine md_getr hx hb hW hown hK hG f_X12_45_11 (Nat.lt_of_lt_of_le (by decide) hZ) hK69 (b := 81) hR69_25 dX12_isPoint_6 ?_
    refine lv_iconst (v := 1) hx hb dX12_isPoint_9 (by decide) ?_
    refine md_iald hx hb hK hG (Nat.lt_of_lt_of_le (by decide) hZ) hK81 hN81 (md_inD (by decide)) (v := 0) hM81_1 dX12_isPoint_10 ?_
    refine lv_icmp_ge (tgt := 18) hx hb dX12_isPoint_11 (by decide) (fun _ => ?_) (fun h => absurd (Int32.not_lt.mp c1) h)
    refine lv_iconst (v := 0) hx hb dX12_isPoint_18 (by decide) ?_
    exact md_endz hx hb hr hlocks hK hT hG rfl (⟨rfl, rfl⟩) dX12_isPoint_19
set_option maxRecDepth 100000 in
set_option maxHeartbeats 4000000 in
theorem c_X12_vote (l : Launch) (D : va_G) (cy : Nat → ClassId) (tx : (Nat → Nat) × (Nat → Nat)) (base Z : Nat) (K N : Nat → Nat) (M : Nat → Nat → Int32) (R : Nat → Nat → Option Nat) (J : Nat → Nat → Int64) (hZ : 104 ≤ Z) (hK69 : K 69 = 12) (hR69_25 : R 69 25 = some 81) (hK81 : K 81 = 14) (hN81 : N 81 = 226) (hM81_1 : M 81 1 = 0) (hR69_26 : R 69 26 = some 82) (hK82 : K 82 = 14) (hN82 : N 82 = 2) (hM82_0 : M 82 0 = 0) (p1 : Int32) : Met l yX12_vote [Cond.code yX12_vote cX12_vote 3 (some .int)] (md_rm 2 0 0) (va_Pc [.ref (base + 69), .int p1] (md_U D cy tx base Z K N M R J)) (mQi D cy tx base (fun r u => r = (-2) ∧ u = (Z, K, N, (u2 M 82 0 1), R, J))) 0 0 (fun q => base ≤ q) := by
  refine Met.ofW (cc := cX12_vote) (maxL := 3) (ret := (some .int)) (by decide) rfl ?_
  intro p e s m args below meth c s₁ B hml hv
  have hW : ∀ w ∈ lw_tbl, goodWord w = true → w.before args s = true := fun w h g => hv.2.2.2.1.2.1 w h g _
  obtain ⟨rfl, hU⟩ := hv
  have hx := B.exec
  have hb := B.bytes
  have hr := B.returns
  have hlocks := B.notSynchronized
  have hown : s.vm.findClass RX12 = some m.cls := findClass_of_methodNamed B.named
  have hK := hU.2.2.1
  have hT := hU.2.2.2
  have hG := md_G.start hU
  have hl := lv_entry ([.ref (base + 69), .int p1]) (n := 3) (Nat.le_of_ble_eq_true rfl)
  rw [lg_entry_eq]
  generalize (lg_sl ([.ref (base + 69), .int p1]) ++ List.replicate (3 - (lg_sl ([.ref (base + 69), .int p1])).length) Slot.unset).toArray = ls at hl ⊢
  have hl : lv_has ls 3 [(0, .ref (base + 69)), (1, .int p1)] := hl
  refine lv_aload_n hx hb dX12_vote_0 rfl (lv_at hl 0 rfl) ?_
  refine lv_iload_n hx hb dX12_vote_1 rfl (lv_at hl 1 rfl) ?_
  refine md_goi hG (md_runV (As := [.int p1]) (rest := []) hx hb hml hown hW hK hT hG (c_X12_isPoint l D cy tx base  Z  K N M R J hZ hK69 hR69_25 hK81 hN81 hM81_1 p1) s_X12_327 ⟨rfl, rfl, ⟨Nat.le_of_ble_eq_true rfl, Nat.le_of_ble_eq_true rfl⟩, ⟨Nat.le_of_ble_eq_true rfl, Nat.le_of_ble_eq_true rfl⟩⟩ (Nat.lt_of_lt_of_le (by decide) hZ) hK69 (by decide) rfl rfl hl.1 rfl (Nat.le_of_ble_eq_true rfl) dX12_vote_2) (fun r u H locs hp hG => ?_)
  obtain ⟨rfl, rfl⟩ := hp
  have hG : md_G D cy base Z K N M R J s H locs := hG
  refine lv_if_ne (tgt := 14) hx hb dX12_vote_5 (by decide) (fun h => absurd h (by decide)) (fun _ => ?_)
  refine lv_aload_n hx hb dX12_vote_8 rfl (lv_at hl 0 rfl) ?_
  refine lv_iconst (v := 0) hx hb dX12_vote_9 (by decide) ?_
  refine md_goi hG (md_runV (As := [.int 0]) (rest := []) hx hb hml hown hW hK hT hG (c_X12_refuses l D cy tx base  Z  K N M R J hZ hK69 hR69_26 hK82 hN82 hM82_0 ) s_X12_338 ⟨rfl, rfl, ⟨Nat.le_of_ble_eq_true rfl, Nat.le_of_ble_eq_true rfl⟩, ⟨Nat.le_of_ble_eq_true rfl, Nat.le_of_ble_eq_true rfl⟩⟩ (Nat.lt_of_lt_of_le (by decide) hZ) hK69 (by decide) rfl rfl hl.1 rfl (Nat.le_of_ble_eq_true rfl) dX12_vote_10) (fun r u H locs hp hG => ?_)
  obtain ⟨rfl, rfl⟩ := hp
  have hG : md_G D cy base Z K N (u2 M 82 0 1) R J s H locs := hG
  exact md_endi hx hb hr hlocks hK hT hG (⟨rfl, rfl⟩) dX12_vote_13
set_option maxRecDepth 100000 in
set_option maxHeartbeats 4000000 in
theorem c_X12_bench (l : Launch) (D : va_G) (cy : Nat → ClassId) (tx : (Nat → Nat) × (Nat → Nat)) (base Z : Nat) (K N : Nat → Nat) (M : Nat → Nat → Int32) (R : Nat → Nat → Option Nat) (J : Nat → Nat → Int64) (hZ : 104 ≤ Z) (hK69 : K 69 = 12) (hR69_25 : R 69 25 = some 81) (hK81 : K 81 = 14) (hN81 : N 81 = 226) (hM81_0 : M 81 0 = 0) (hR69_26 : R 69 26 = some 82) (hK82 : K 82 = 14) (hN82 : N 82 = 2) (hM82_0 : M 82 0 = 0) (p1 : Int32) (p2 : Int32) : Met l yX12_bench [Cond.code yX12_bench cX12_bench 4 (some .int)] (md_rm 2 0 0) (va_Pc [.ref (base + 69), .int p1, .int p2] (md_U D cy tx base Z K N M R J)) (mQi D cy tx base (fun r u => r = (-2) ∧ u = (Z, K, N, (u2 M 82 0 1), R, J))) 0 0 (fun q => base ≤ q) := by
  refine Met.ofW (cc := cX12_bench) (maxL := 4) (ret := (some .int)) (by decide) rfl ?_
  intro p e s m args below meth c s₁ B hml hv
  have hW : ∀ w ∈ lw_tbl, goodWord w = true → w.before args s = true := fun w h g => hv.2.2.2.1.2.1 w h g _
  obtain ⟨rfl, hU⟩ := hv
  have hx := B.exec
  have hb := B.bytes
  have hr := B.returns
  have hlocks := B.notSynchronized
  have hown : s.vm.findClass RX12 = some m.cls := findClass_of_methodNamed B.named
  have hK := hU.2.2.1
  have hT := hU.2.2.2
  have hG := md_G.start hU
  have hl := lv_entry ([.ref (base + 69), .int p1, .int p2]) (n := 4) (Nat.le_of_ble_eq_true rfl)
  rw [lg_entry_eq]
  generalize (lg_sl ([.ref (base + 69), .int p1, .int p2]) ++ List.replicate (4 - (lg_sl ([.ref (base + 69), .int p1, .int p2])).length) Slot.unset).toArray = ls at hl ⊢
  have hl : lv_has ls 4 [(0, .ref (base + 69)), (1, .int p1), (2, .int p2)] := hl
  refine lv_aload_n hx hb dX12_bench_0 rfl (lv_at hl 0 rfl) ?_
  refine md_getr hx hb hW hown hK hG f_X12_45_11 (Nat.lt_of_lt_of_le (by decide) hZ) hK69 (b := 81) hR69_25 dX12_bench_1 ?_
  refine lv_iconst (v := 0) hx hb dX12_bench_4 (by decide) ?_
  refine md_iald hx hb hK hG (Nat.lt_of_lt_of_le (by decide) hZ) hK81 hN81 (md_inD (by decide)) (v := 0) hM81_0 dX12_bench_5 ?_
  refine lv_if_eq (tgt := 31) hx hb dX12_bench_6 (by decide) (fun _ => ?_) (fun h => absurd h (by decide))
  refine lv_aload_n hx hb dX12_bench_31 rfl (lv_at hl 0 rfl) ?_
  refine lv_iconst (v := 0) hx hb dX12_bench_32 (by decide) ?_
  refine md_goi hG (md_runV (As := [.int 0]) (rest := []) hx hb hml hown hW hK hT hG (c_X12_refuses l D cy tx base  Z  K N M R J hZ hK69 hR69_26 hK82 hN82 hM82_0 ) s_X12_338 ⟨rfl, rfl, ⟨Nat.le_of_ble_eq_true rfl, Nat.le_of_ble_eq_true rfl⟩, ⟨Nat.le_of_ble_eq_true rfl, Nat.le_of_ble_eq_true rfl⟩⟩ (Nat.lt_of_lt_of_le (by decide) hZ) hK69 (by decide) rfl rfl hl.1 rfl (Nat.le_of_ble_eq_true rfl) dX12_bench_33) (fun r u H locs hp hG => ?_)
  obtain ⟨rfl, rfl⟩ := hp
  have hG : md_G D cy base Z K N (u2 M 82 0 1) R J s H locs := hG
  exact md_endi hx hb hr hlocks hK hT hG (⟨rfl, rfl⟩) dX12_bench_36
set_option maxRecDepth 100000 in
set_option maxHeartbeats 4000000 in
theorem c_X12_order (l : Launch) (D : va_G) (cy : Nat → ClassId) (tx : (Nat → Nat) × (Nat → Nat)) (base Z : Nat) (K N : Nat → Nat) (M : Nat → Nat → Int32) (R : Nat → Nat → Option Nat) (J : Nat → Nat → Int64) (hZ : 104 ≤ Z) (hK69 : K 69 = 12) (hR69_25 : R 69 25 = some 81) (hK81 : K 81 = 14) (hN81 : N 81 = 226) : Met l yX12_order [Cond.code yX12_order cX12_order 2 (some .int)] (md_rm 1 0 0) (va_Pc [.ref (base + 69), .int (-1)] (md_U D cy tx base Z K N M R J)) (mQi D cy tx base (fun r u => r = 0 ∧ u = (Z, K, N, (u2 M 81 4 0), R, J))) 0 0 (fun q => base ≤ q) := by
  refine Met.ofW (cc := cX12_order) (maxL := 2) (ret := (some .int)) (by decide) rfl ?_
  intro p e s m args below meth c s₁ B hml hv
  have hW : ∀ w ∈ lw_tbl, goodWord w = true → w.before args s = true := fun w h g => hv.2.2.2.1.2.1 w h g _
  obtain ⟨rfl, hU⟩ := hv
  have hx := B.exec
  have hb := B.bytes
  have hr := B.returns
  have hlocks := B.notSynchronized
  have hown : s.vm.findClass RX12 = some m.cls := findClass_of_methodNamed B.named
  have hK := hU.2.2.1
  have hT := hU.2.2.2
  have hG := md_G.start hU
  have hl := lv_entry ([.ref (base + 69), .int (-1)]) (n := 2) (Nat.le_of_ble_eq_true rfl)
  rw [lg_entry_eq]
  generalize (lg_sl ([.ref (base + 69), .int (-1)]) ++ List.replicate (2 - (lg_sl ([.ref (base + 69), .int (-1)])).length) Slot.unset).toArray = ls at hl ⊢
  have hl : lv_has ls 2 [(0, .ref (base + 69)), (1, .int (-1))] := hl
  refine lv_iload_n hx hb dX12_order_0 rfl (lv_at hl 1 rfl) ?_
  refine lv_iconst (v := (-1)) hx hb dX12_order_1 (by decide) ?_
  refine lv_icmp_ne (tgt := 14) hx hb dX12_order_2 (by decide) (fun h => absurd h (by decide)) (fun _ => ?_)
  refine lv_aload_n hx hb dX12_order_5 rfl (lv_at hl 0 rfl) ?_
  refine md_getr hx hb hW hown hK hG f_X12_45_11 (Nat.lt_of_lt_of_le (by decide) hZ) hK69 (b := 81) hR69_25 dX12_order_6 ?_
  refine lv_iconst (v := 4) hx hb dX12_order_9 (by decide) ?_
  refine lv_iconst (v := 0) hx hb dX12_order_10 (by decide) ?_
  refine md_iast hx hb hK hG (Nat.lt_of_lt_of_le (by decide) hZ) hK81 hN81 (md_inD (by decide)) (k := 4) (by decide) dX12_order_11 (fun H locs hG => ?_)
  refine lv_iconst (v := 0) hx hb dX12_order_12 (by decide) ?_
  exact md_endi hx hb hr hlocks hK hT hG (⟨rfl, rfl⟩) dX12_order_13
set_option maxRecDepth 100000 in
set_option maxHeartbeats 4000000 in
theorem c_X12_order_2 (l : Launch) (D : va_G) (cy : Nat → ClassId) (tx : (Nat → Nat) × (Nat → Nat)) (base Z : Nat) (K N : Nat → Nat) (M : Nat → Nat → Int32) (R : Nat → Nat → Option Nat) (J : Nat → Nat → Int64) (hZ : 104 ≤ Z) (hK69 : K 69 = 12) (hR69_25 : R 69 25 = some 81) (hK81 : K 81 = 14) (hN81 : N 81 = 226) (hM81_1 : M 81 1 = 0) (hR69_26 : R 69 26 = some 82) (hK82 : K 82 = 14) (hN82 : N 82 = 2) (hM82_0 : M 82 0 = 0) (p1 : Int32) (h1 : ¬ p1 = (-1)) : Met l yX12_order [Cond.code yX12_order cX12_order 2 (some .int)] (md_rm 2 0 0) (va_Pc [.ref (base + 69), .int p1] (md_U D cy tx base Z K N M R J)) (mQi D cy tx base (fun r u => r = (-2) ∧ u = (Z, K, N, (u2 M 82 0 1), R, J))) 0 0 (fun q => base ≤ q) := by
  refine Met.ofW (cc := cX12_order) (maxL := 2) (ret := (some .int)) (by decide) rfl ?_
  intro p e s m args below meth c s₁ B hml hv
  have hW : ∀ w ∈ lw_tbl, goodWord w = true → w.before args s = true := fun w h g => hv.2.2.2.1.2.1 w h g _
  obtain ⟨rfl, hU⟩ := hv
  have hx := B.exec
  have hb := B.bytes
  have hr := B.returns
  have hlocks := B.notSynchronized
  have hown : s.vm.findClass RX12 = some m.cls := findClass_of_methodNamed B.named
  have hK := hU.2.2.1
  have hT := hU.2.2.2
  have hG := md_G.start hU
  have hl := lv_entry ([.ref (base + 69), .int p1]) (n := 2) (Nat.le_of_ble_eq_true rfl)
  rw [lg_entry_eq]
  generalize (lg_sl ([.ref (base + 69), .int p1]) ++ List.replicate (2 - (lg_sl ([.ref (base + 69), .int p1])).length) Slot.unset).toArray = ls at hl ⊢
  have hl : lv_has ls 2 [(0, .ref (base + 69)), (1, .int p1)] := hl
  refine lv_iload_n hx hb dX12_order_0 rfl (lv_at hl 1 rfl) ?_
  refine lv_iconst (v := (-1)) hx hb dX12_order_1 (by decide) ?_
  refine lv_icmp_ne (tgt := 14) hx hb dX12_order_2 (by decide) (fun _ => ?_) (fun h => absurd h h1)
  refine lv_aload_n hx hb dX12_order_14 rfl (lv_at hl 0 rfl) ?_
  refine lv_iload_n hx hb dX12_order_15 rfl (lv_at hl 1 rfl) ?_
  refine md_goi hG (md_runV (As := [.int p1]) (rest := []) hx hb hml hown hW hK hT hG (c_X12_isPoint l D cy tx base  Z  K N M R J hZ hK69 hR69_25 hK81 hN81 hM81_1 p1) s_X12_327 ⟨rfl, rfl, ⟨Nat.le_of_ble_eq_true rfl, Nat.le_of_ble_eq_true rfl⟩, ⟨Nat.le_of_ble_eq_true rfl, Nat.le_of_ble_eq_true rfl⟩⟩ (Nat.lt_of_lt_of_le (by decide) hZ) hK69 (by decide) rfl rfl hl.1 rfl (Nat.le_of_ble_eq_true rfl) dX12_order_16) (fun r u H locs hp hG => ?_)
  obtain ⟨rfl, rfl⟩ := hp
  have hG : md_G D cy base Z K N M R J s H locs := hG
  refine lv_if_ne (tgt := 28) hx hb dX12_order_19 (by decide) (fun h => absurd h (by decide)) (fun _ => ?_)
  refine lv_aload_n hx hb dX12_order_22 rfl (lv_at hl 0 rfl) ?_
  refine lv_iconst (v := 0) hx hb dX12_order_23 (by decide) ?_
  refine md_goi hG (md_runV (As := [.int 0]) (rest := []) hx hb hml hown hW hK hT hG (c_X12_refuses l D cy tx base  Z  K N M R J hZ hK69 hR69_26 hK82 hN82 hM82_0 ) s_X12_338 ⟨rfl, rfl, ⟨Nat.le_of_ble_eq_true rfl, Nat.le_of_ble_eq_true rfl⟩, ⟨Nat.le_of_ble_eq_true rfl, Nat.le_of_ble_eq_true rfl⟩⟩ (Nat.lt_of_lt_of_le (by decide) hZ) hK69 (by decide) rfl rfl hl.1 rfl (Nat.le_of_ble_eq_true rfl) dX12_order_24) (fun r u H locs hp hG => ?_)
  obtain ⟨rfl, rfl⟩ := hp
  have hG : md_G D cy base Z K N (u2 M 82 0 1) R J s H locs := hG
  exact md_endi hx hb hr hlocks hK hT hG (⟨rfl, rfl⟩) dX12_order_27
set_option maxRecDepth 100000 in
set_option maxHeartbeats 4000000 in
theorem c_X12_ordered (l : Launch) (D : va_G) (cy : Nat → ClassId) (tx : (Nat → Nat) × (Nat → Nat)) (base Z : Nat) (K N : Nat → Nat) (M : Nat → Nat → Int32) (R : Nat → Nat → Option Nat) (J : Nat → Nat → Int64) (hZ : 104 ≤ Z) (hK69 : K 69 = 12) (hR69_25 : R 69 25 = some 81) (hK81 : K 81 = 14) (hN81 : N 81 = 226) (hM81_4 : M 81 4 = 0) (p1 : Int32) : Met l yX12_ordered [Cond.code yX12_ordered cX12_ordered 2 (some .int)] (md_rm 1 0 0) (va_Pc [.ref (base + 69), .int p1] (md_U D cy tx base Z K N M R J)) (mQi D cy tx base (fun r u => r = (-1) ∧ u = (Z, K, N, M, R, J))) 0 0 (fun q => base ≤ q) := by
  refine Met.ofW (cc := cX12_ordered) (maxL := 2) (ret := (some .int)) (by decide) rfl ?_
  intro p e s m args below meth c s₁ B hml hv
  have hW : ∀ w ∈ lw_tbl, goodWord w = true → w.before args s = true := fun w h g => hv.2.2.2.1.2.1 w h g _
  obtain ⟨rfl, hU⟩ := hv
  have hx := B.exec
  have hb := B.bytes
  have hr := B.returns
  have hlocks := B.notSynchronized
  have hown : s.vm.findClass RX12 = some m.cls := findClass_of_methodNamed B.named
  have hK := hU.2.2.1
  have hT := hU.2.2.2
  have hG := md_G.start hU
  have hl := lv_entry ([.ref (base + 69), .int p1]) (n := 2) (Nat.le_of_ble_eq_true rfl)
  rw [lg_entry_eq]
  generalize (lg_sl ([.ref (base + 69), .int p1]) ++ List.replicate (2 - (lg_sl ([.ref (base + 69), .int p1])).length) Slot.unset).toArray = ls at hl ⊢
  have hl : lv_has ls 2 [(0, .ref (base + 69)), (1, .int p1)] := hl
  refine lv_iload_n hx hb dX12_ordered_0 rfl (lv_at hl 1 rfl) ?_
  refine lv_if_lt (tgt := 27) hx hb dX12_ordered_1 (by decide) (fun c1 => ?_) (fun c1 => ?_)
  · refine lv_iconst (v := (-1)) hx hb dX12_ordered_27 (by decide) ?_
    exact md_endi hx hb hr hlocks hK hT hG (⟨rfl, rfl⟩) dX12_ordered_28
  · refine lv_iload_n hx hb dX12_ordered_4 rfl (lv_at hl 1 rfl) ?_
    refine lv_aload_n hx hb dX12_ordered_5 rfl (lv_at hl 0 rfl) ?_
    refine md_getr hx hb hW hown hK hG f_X12_45_11 (Nat.lt_of_lt_of_le (by decide) hZ) hK69 (b := 81) hR69_25 dX12_ordered_6 ?_
    refine lv_iconst (v := 4) hx hb dX12_ordered_9 (by decide) ?_
    refine md_iald hx hb hK hG (Nat.lt_of_lt_of_le (by decide) hZ) hK81 hN81 (md_inD (by decide)) (v := 0) hM81_4 dX12_ordered_10 ?_
    refine lv_icmp_ge (tgt := 27) hx hb dX12_ordered_11 (by decide) (fun _ => ?_) (fun h => absurd (Int32.not_lt.mp c1) h)
    refine lv_iconst (v := (-1)) hx hb dX12_ordered_27 (by decide) ?_
    exact md_endi hx hb hr hlocks hK hT hG (⟨rfl, rfl⟩) dX12_ordered_28
set_option maxRecDepth 100000 in
set_option maxHeartbeats 4000000 in
theorem c_X12_day (l : Launch) (D : va_G) (cy : Nat → ClassId) (tx : (Nat → Nat) × (Nat → Nat)) (base Z : Nat) (K N : Nat → Nat) (M : Nat → Nat → Int32) (R : Nat → Nat → Option Nat) (J : Nat → Nat → Int64) (hZ : 104 ≤ Z) (hK69 : K 69 = 12) (hR69_25 : R 69 25 = some 81) (hK81 : K 81 = 14) (hN81 : N 81 = 226) (hM81_0 : M 81 0 = 0) (hR69_26 : R 69 26 = some 82) (hK82 : K 82 = 14) (hN82 : N 82 = 2) (hM82_0 : M 82 0 = 0) : Met l yX12_day [Cond.code yX12_day cX12_day 1 (some .int)] (md_rm 2 0 0) (va_Pc [.ref (base + 69)] (md_U D cy tx base Z K N M R J)) (mQi D cy tx base (fun r u => r = (-2) ∧ u = (Z, K, N, (u2 M 82 0 1), R, J))) 0 0 (fun q => base ≤ q) := by
  refine Met.ofW (cc := cX12_day) (maxL := 1) (ret := (some .int)) (by decide) rfl ?_
  intro p e s m args below meth c s₁ B hml hv
  have hW : ∀ w ∈ lw_tbl, goodWord w = true → w.before args s = true := fun w h g => hv.2.2.2.1.2.1 w h g _
  obtain ⟨rfl, hU⟩ := hv
  have hx := B.exec
  have hb := B.bytes
  have hr := B.returns
  have hlocks := B.notSynchronized
  have hown : s.vm.findClass RX12 = some m.cls := findClass_of_methodNamed B.named
  have hK := hU.2.2.1
  have hT := hU.2.2.2
  have hG := md_G.start hU
  have hl := lv_entry ([.ref (base + 69)]) (n := 1) (Nat.le_of_ble_eq_true rfl)
  rw [lg_entry_eq]
  generalize (lg_sl ([.ref (base + 69)]) ++ List.replicate (1 - (lg_sl ([.ref (base + 69)])).length) Slot.unset).toArray = ls at hl ⊢
  have hl : lv_has ls 1 [(0, .ref (base + 69))] := hl
  refine lv_aload_n hx hb dX12_day_0 rfl (lv_at hl 0 rfl) ?_
  refine md_getr hx hb hW hown hK hG f_X12_45_11 (Nat.lt_of_lt_of_le (by decide) hZ) hK69 (b := 81) hR69_25 dX12_day_1 ?_
  refine lv_iconst (v := 0) hx hb dX12_day_4 (by decide) ?_
  refine md_iald hx hb hK hG (Nat.lt_of_lt_of_le (by decide) hZ) hK81 hN81 (md_inD (by decide)) (v := 0) hM81_0 dX12_day_5 ?_
  refine lv_if_ne (tgt := 15) hx hb dX12_day_6 (by decide) (fun h => absurd h (by decide)) (fun _ => ?_)
  refine lv_aload_n hx hb dX12_day_9 rfl (lv_at hl 0 rfl) ?_
  refine lv_iconst (v := 0) hx hb dX12_day_10 (by decide) ?_
  refine md_goi hG (md_runV (As := [.int 0]) (rest := []) hx hb hml hown hW hK hT hG (c_X12_refuses l D cy tx base  Z  K N M R J hZ hK69 hR69_26 hK82 hN82 hM82_0 ) s_X12_338 ⟨rfl, rfl, ⟨Nat.le_of_ble_eq_true rfl, Nat.le_of_ble_eq_true rfl⟩, ⟨Nat.le_of_ble_eq_true rfl, Nat.le_of_ble_eq_true rfl⟩⟩ (Nat.lt_of_lt_of_le (by decide) hZ) hK69 (by decide) rfl rfl hl.1 rfl (Nat.le_of_ble_eq_true rfl) dX12_day_11) (fun r u H locs hp hG => ?_)
  obtain ⟨rfl, rfl⟩ := hp
  have hG : md_G D cy base Z K N (u2 M 82 0 1) R J s H locs := hG
  exact md_endi hx hb hr hlocks hK hT hG (⟨rfl, rfl⟩) dX12_day_14
set_option maxRecDepth 100000 in
set_option maxHeartbeats 4000000 in
theorem c_X12_in (l : Launch) (D : va_G) (cy : Nat → ClassId) (tx : (Nat → Nat) × (Nat → Nat)) (base Z : Nat) (K N : Nat → Nat) (M : Nat → Nat → Int32) (R : Nat → Nat → Option Nat) (J : Nat → Nat → Int64) (hZ : 104 ≤ Z) (p1 : Int64) : Met l yX12_in [Cond.code yX12_in cX12_in 6 (some .boolean)] (md_rm 1 0 0) (va_Pc [.long p1, .long 0, .long 60] (md_U D cy tx base Z K N M R J)) (mQi D cy tx base (fun r u => (r = 0 ∧ u = (Z, K, N, M, R, J)) ∨ (¬ (lg_cmp p1 0) < 0 ∧ ¬ 0 < (lg_cmp p1 60) ∧ r = 1 ∧ u = (Z, K, N, M, R, J)))) 0 0 (fun q => base ≤ q) := by
  refine Met.ofW (cc := cX12_in) (maxL := 6) (ret := (some .boolean)) (by decide) rfl ?_
  intro p e s m args below meth c s₁ B hml hv
  have hW : ∀ w ∈ lw_tbl, goodWord w = true → w.before args s = true := fun w h g => hv.2.2.2.1.2.1 w h g _
  obtain ⟨rfl, hU⟩ := hv
  have hx := B.exec
  have hb := B.bytes
  have hr := B.returns
  have hlocks := B.notSynchronized
  have hown : s.vm.findClass RX12 = some m.cls := findClass_of_methodNamed B.named
  have hK := hU.2.2.1
  have hT := hU.2.2.2
  have hG := md_G.start hU
  have hl := lv_entry ([.long p1, .long 0, .long 60]) (n := 6) (Nat.le_of_ble_eq_true rfl)
  rw [lg_entry_eq]
  generalize (lg_sl ([.long p1, .long 0, .long 60]) ++ List.replicate (6 - (lg_sl ([.long p1, .long 0, .long 60])).length) Slot.unset).toArray = ls at hl ⊢
  have hl : lv_has ls 6 [(0, .long p1), (2, .long 0), (4, .long 60)] := hl
  refine lv_lload_n hx hb dX12_in_0 rfl (lv_at hl 0 rfl) ?_
  refine lv_lload_n hx hb dX12_in_1 rfl (lv_at hl 1 rfl) ?_
  refine W.lcmp hx hb dX12_in_2 ?_
  refine lv_if_lt (tgt := 17) hx hb dX12_in_3 (by decide) (fun c1 => ?_) (fun c1 => ?_)
  · refine lv_iconst (v := 0) hx hb dX12_in_17 (by decide) ?_
    exact md_endz hx hb hr hlocks hK hT hG rfl (Or.inl ⟨rfl, rfl⟩) dX12_in_18
  · refine lv_lload_n hx hb dX12_in_6 rfl (lv_at hl 0 rfl) ?_
    refine lv_lload hx hb dX12_in_7 (lv_at hl 2 rfl) ?_
    refine W.lcmp hx hb dX12_in_9 ?_
    refine lv_if_gt (tgt := 17) hx hb dX12_in_10 (by decide) (fun c2 => ?_) (fun c2 => ?_)
    · refine lv_iconst (v := 0) hx hb dX12_in_17 (by decide) ?_
      exact md_endz hx hb hr hlocks hK hT hG rfl (Or.inl ⟨rfl, rfl⟩) dX12_in_18
    · refine lv_iconst (v := 1) hx hb dX12_in_13 (by decide) ?_
      refine lv_goto (tgt := 18) hx hb dX12_in_14 (by decide) ?_
      exact md_endz hx hb hr hlocks hK hT hG rfl (Or.inr (⟨c1, c2, rfl, rfl⟩)) dX12_in_18
set_option maxRecDepth 100000 in
set_option maxHeartbeats 4000000 in
theorem c_X12_open (l : Launch) (D : va_G) (cy : Nat → ClassId) (tx : (Nat → Nat) × (Nat → Nat)) (base Z : Nat) (K N : Nat → Nat) (M : Nat → Nat → Int32) (R : Nat → Nat → Option Nat) (J : Nat → Nat → Int64) (hZ : 104 ≤ Z) (hK69 : K 69 = 12) (hR69_25 : R 69 25 = some 81) (hK81 : K 81 = 14) (hN81 : N 81 = 226) (hM81_0 : M 81 0 = 0) (p1 : Int32) (p2 : Int32) (p3 : Int32) : Met l yX12_open [Cond.code yX12_open cX12_open 6 (some .int)] (md_rm 2 0 0) (va_Pc [.ref (base + 69), .int p1, .int p2, .int p3] (md_U D cy tx base Z K N M R J)) (mQi D cy tx base (fun r u => r = (-1000000) ∧ u = (Z, K, N, M, R, J))) 0 0 (fun q => base ≤ q) := by
  refine Met.ofW (cc := cX12_open) (maxL := 6) (ret := (some .int)) (by decide) rfl ?_
  intro p e s m args below meth c s₁ B hml hv
  have hW : ∀ w ∈ lw_tbl, goodWord w = true → w.before args s = true := fun w h g => hv.2.2.2.1.2.1 w h g _
  obtain ⟨rfl, hU⟩ := hv
  have hx := B.exec
  have hb := B.bytes
  have hr := B.returns
  have hlocks := B.notSynchronized
  have hown : s.vm.findClass RX12 = some m.cls := findClass_of_methodNamed B.named
  have hK := hU.2.2.1
  have hT := hU.2.2.2
  have hG := md_G.start hU
  have hl := lv_entry ([.ref (base + 69), .int p1, .int p2, .int p3]) (n := 6) (Nat.le_of_ble_eq_true rfl)
  rw [lg_entry_eq]
  generalize (lg_sl ([.ref (base + 69), .int p1, .int p2, .int p3]) ++ List.replicate (6 - (lg_sl ([.ref (base + 69), .int p1, .int p2, .int p3])).length) Slot.unset).toArray = ls at hl ⊢
  have hl : lv_has ls 6 [(0, .ref (base + 69)), (1, .int p1), (2, .int p2), (3, .int p3)] := hl
  refine lv_iload_n hx hb dX12_open_0 rfl (lv_at hl 1 rfl) ?_
  refine lv_i2l hx hb dX12_open_1 rfl ?_
  refine lv_lconst (v := 0) hx hb dX12_open_2 (by decide) ?_
  refine lv_ldc2 hx hb hown (hW _ w_8_45 rfl) dX12_open_3 ?_
  refine md_goi hG (md_runS (As := [.long p1.toInt64, .long 0, .long 60]) (rest := []) hx hb hml hown hW hK hT hG (c_X12_in l D cy tx base  Z  K N M R J hZ  p1.toInt64) s_X12_155 ⟨rfl, rfl, ⟨Nat.le_of_ble_eq_true rfl, Nat.le_of_ble_eq_true rfl⟩, ⟨Nat.le_of_ble_eq_true rfl, Nat.le_of_ble_eq_true rfl⟩⟩ rfl hl.1 rfl (Nat.le_of_ble_eq_true rfl) dX12_open_6) (fun r u H locs hp hG => ?_)
  rcases hp with ⟨rfl, rfl⟩ | ⟨d0_0, d0_1, rfl, rfl⟩
  · have hG : md_G D cy base Z K N M R J s H locs := hG
    refine lv_if_eq (tgt := 32) hx hb dX12_open_9 (by decide) (fun _ => ?_) (fun h => absurd h (by decide))
    refine lv_ldcw hx hb hown (hW _ w_8_46 rfl) dX12_open_32 ?_
    exact md_endi hx hb hr hlocks hK hT hG (⟨rfl, rfl⟩) dX12_open_35
  · have hG : md_G D cy base Z K N M R J s H locs := hG
    refine lv_if_eq (tgt := 32) hx hb dX12_open_9 (by decide) (fun h => absurd h (by decide)) (fun _ => ?_)
    refine lv_aload_n hx hb dX12_open_12 rfl (lv_at hl 0 rfl) ?_
    refine lv_iload_n hx hb dX12_open_13 rfl (lv_at hl 2 rfl) ?_
    refine md_goi hG (md_runV (As := [.int p2]) (rest := []) hx hb hml hown hW hK hT hG (c_X12_isMember l D cy tx base  Z  K N M R J hZ hK69 hR69_25 hK81 hN81 hM81_0 p2) s_X12_319 ⟨rfl, rfl, ⟨Nat.le_of_ble_eq_true rfl, Nat.le_of_ble_eq_true rfl⟩, ⟨Nat.le_of_ble_eq_true rfl, Nat.le_of_ble_eq_true rfl⟩⟩ (Nat.lt_of_lt_of_le (by decide) hZ) hK69 (by decide) rfl rfl hl.1 rfl (Nat.le_of_ble_eq_true rfl) dX12_open_14) (fun r u H locs hp hG => ?_)
    obtain ⟨rfl, rfl⟩ := hp
    have hG : md_G D cy base Z K N M R J s H locs := hG
    refine lv_if_eq (tgt := 32) hx hb dX12_open_17 (by decide) (fun _ => ?_) (fun h => absurd h (by decide))
    refine lv_ldcw hx hb hown (hW _ w_8_46 rfl) dX12_open_32 ?_
    exact md_endi hx hb hr hlocks hK hT hG (⟨rfl, rfl⟩) dX12_open_35
set_option maxRecDepth 100000 in
set_option maxHeartbeats 4000000 in
theorem c_X12_isSet (l : Launch) (D : va_G) (cy : Nat → ClassId) (tx : (Nat → Nat) × (Nat → Nat)) (base Z : Nat) (K N : Nat → Nat) (M : Nat → Nat → Int32) (R : Nat → Nat → Option Nat) (J : Nat → Nat → Int64) (hZ : 104 ≤ Z) (hK69 : K 69 = 12) (hR69_25 : R 69 25 = some 81) (hK81 : K 81 = 14) (hN81 : N 81 = 226) (hM81_0 : M 81 0 = 0) (p1 : Int32) : Met l yX12_isSet [Cond.code yX12_isSet cX12_isSet 2 (some .boolean)] (md_rm 1 0 0) (va_Pc [.ref (base + 69), .int p1] (md_U D cy tx base Z K N M R J)) (mQi D cy tx base (fun r u => (r = 0 ∧ u = (Z, K, N, M, R, J)) ∨ (p1 = 0 ∧ r = 1 ∧ u = (Z, K, N, M, R, J)))) 0 0 (fun q => base ≤ q) := by
  refine Met.ofW (cc := cX12_isSet) (maxL := 2) (ret := (some .boolean)) (by decide) rfl ?_
  intro p e s m args below meth c s₁ B hml hv
  have hW : ∀ w ∈ lw_tbl, goodWord w = true → w.before args s = true := fun w h g => hv.2.2.2.1.2.1 w h g _
  obtain ⟨rfl, hU⟩ := hv
  have hx := B.exec
  have hb := B.bytes
  have hr := B.returns
  have hlocks := B.notSynchronized
  have hown : s.vm.findClass RX12 = some m.cls := findClass_of_methodNamed B.named
  have hK := hU.2.2.1
  have hT := hU.2.2.2
  have hG := md_G.start hU
  have hl := lv_entry ([.ref (base + 69), .int p1]) (n := 2) (Nat.le_of_ble_eq_true rfl)
  rw [lg_entry_eq]
  generalize (lg_sl ([.ref (base + 69), .int p1]) ++ List.replicate (2 - (lg_sl ([.ref (base + 69), .int p1])).length) Slot.unset).toArray = ls at hl ⊢
  have hl : lv_has ls 2 [(0, .ref (base + 69)), (1, .int p1)] := hl
  refine lv_iload_n hx hb dX12_isSet_0 rfl (lv_at hl 1 rfl) ?_
  refine lv_if_lt (tgt := 20) hx hb dX12_isSet_1 (by decide) (fun c1 => ?_) (fun c1 => ?_)
  · refine lv_iconst (v := 0) hx hb dX12_isSet_20 (by decide) ?_
    exact md_endz hx hb hr hlocks hK hT hG rfl (Or.inl ⟨rfl, rfl⟩) dX12_isSet_21
  · refine lv_iload_n hx hb dX12_isSet_4 rfl (lv_at hl 1 rfl) ?_
    refine lv_iconst (v := 1) hx hb dX12_isSet_5 (by decide) ?_
    refine lv_aload_n hx hb dX12_isSet_6 rfl (lv_at hl 0 rfl) ?_
    refine md_getr hx hb hW hown hK hG f_X12_45_11 (Nat.lt_of_lt_of_le (by decide) hZ) hK69 (b := 81) hR69_25 dX12_isSet_7 ?_
    refine lv_iconst (v := 0) hx hb dX12_isSet_10 (by decide) ?_
    refine md_iald hx hb hK hG (Nat.lt_of_lt_of_le (by decide) hZ) hK81 hN81 (md_inD (by decide)) (v := 0) hM81_0 dX12_isSet_11 ?_
    refine lv_ishl hx hb dX12_isSet_12 ?_
    refine md_top (y := 1) (by decide) ?_
    refine lv_icmp_ge (tgt := 20) hx hb dX12_isSet_13 (by decide) (fun c2 => ?_) (fun c2 => ?_)
    · refine lv_iconst (v := 0) hx hb dX12_isSet_20 (by decide) ?_
      exact md_endz hx hb hr hlocks hK hT hG rfl (Or.inl ⟨rfl, rfl⟩) dX12_isSet_21
    · obtain rfl : p1 = 0 := md_zero c1 c2
      refine lv_iconst (v := 1) hx hb dX12_isSet_16 (by decide) ?_
      refine lv_goto (tgt := 21) hx hb dX12_isSet_17 (by decide) ?_
      exact md_endz hx hb hr hlocks hK hT hG rfl (Or.inr (⟨rfl, rfl, rfl⟩)) dX12_isSet_21
set_option maxRecDepth 100000 in
set_option maxHeartbeats 4000000 in
theorem c_X12_bits (l : Launch) (D : va_G) (cy : Nat → ClassId) (tx : (Nat → Nat) × (Nat → Nat)) (base Z : Nat) (K N : Nat → Nat) (M : Nat → Nat → Int32) (R : Nat → Nat → Option Nat) (J : Nat → Nat → Int64) (hZ : 104 ≤ Z) : Met l yX12_bits [Cond.code yX12_bits cX12_bits 3 (some .int)] (md_rm 1 0 0) (va_Pc [.int 0] (md_U D cy tx base Z K N M R J)) (mQi D cy tx base (fun r u => r = 0 ∧ u = (Z, K, N, M, R, J))) 0 0 (fun q => base ≤ q) := by
  refine Met.ofW (cc := cX12_bits) (maxL := 3) (ret := (some .int)) (by decide) rfl ?_
  intro p e s m args below meth c s₁ B hml hv
  have hW : ∀ w ∈ lw_tbl, goodWord w = true → w.before args s = true := fun w h g => hv.2.2.2.1.2.1 w h g _
  obtain ⟨rfl, hU⟩ := hv
  have hx := B.exec
  have hb := B.bytes
  have hr := B.returns
  have hlocks := B.notSynchronized
  have hown : s.vm.findClass RX12 = some m.cls := findClass_of_methodNamed B.named
  have hK := hU.2.2.1
  have hT := hU.2.2.2
  have hG := md_G.start hU
  have hl := lv_entry ([.int 0]) (n := 3) (Nat.le_of_ble_eq_true rfl)
  rw [lg_entry_eq]
  generalize (lg_sl ([.int 0]) ++ List.replicate (3 - (lg_sl ([.int 0])).length) Slot.unset).toArray = ls at hl ⊢
  have hl : lv_has ls 3 [(0, .int 0)] := hl
  refine lv_iconst (v := 0) hx hb dX12_bits_0 (by decide) ?_
  refine lv_istore_n (lv' := [(1, .int 0), (0, .int 0)]) hx hb dX12_bits_1 rfl hl (by decide) rfl (fun ls hl => ?_)
  refine lv_iload_n hx hb dX12_bits_2 rfl (lv_at hl 1 rfl) ?_
  refine lv_istore_n (lv' := [(2, .int 0), (1, .int 0), (0, .int 0)]) hx hb dX12_bits_3 rfl hl (by decide) rfl (fun ls hl => ?_)
  refine lv_iload_n hx hb dX12_bits_4 rfl (lv_at hl 0 rfl) ?_
  refine lv_if_eq (tgt := 20) hx hb dX12_bits_5 (by decide) (fun _ => ?_) (fun h => absurd h (by decide))
  refine lv_iload_n hx hb dX12_bits_20 rfl (lv_at hl 1 rfl) ?_
  exact md_endi hx hb hr hlocks hK hT hG (⟨rfl, rfl⟩) dX12_bits_21
set_option maxRecDepth 100000 in
set_option maxHeartbeats 4000000 in
theorem c_X12_in_2 (l : Launch) (D : va_G) (cy : Nat → ClassId) (tx : (Nat → Nat) × (Nat → Nat)) (base Z : Nat) (K N : Nat → Nat) (M : Nat → Nat → Int32) (R : Nat → Nat → Option Nat) (J : Nat → Nat → Int64) (hZ : 104 ≤ Z) : Met l yX12_in [Cond.code yX12_in cX12_in 6 (some .boolean)] (md_rm 1 0 0) (va_Pc [.long 0, .long 1, .long 3] (md_U D cy tx base Z K N M R J)) (mQi D cy tx base (fun r u => r = 0 ∧ u = (Z, K, N, M, R, J))) 0 0 (fun q => base ≤ q) := by
  refine Met.ofW (cc := cX12_in) (maxL := 6) (ret := (some .boolean)) (by decide) rfl ?_
  intro p e s m args below meth c s₁ B hml hv
  have hW : ∀ w ∈ lw_tbl, goodWord w = true → w.before args s = true := fun w h g => hv.2.2.2.1.2.1 w h g _
  obtain ⟨rfl, hU⟩ := hv
  have hx := B.exec
  have hb := B.bytes
  have hr := B.returns
  have hlocks := B.notSynchronized
  have hown : s.vm.findClass RX12 = some m.cls := findClass_of_methodNamed B.named
  have hK := hU.2.2.1
  have hT := hU.2.2.2
  have hG := md_G.start hU
  have hl := lv_entry ([.long 0, .long 1, .long 3]) (n := 6) (Nat.le_of_ble_eq_true rfl)
  rw [lg_entry_eq]
  generalize (lg_sl ([.long 0, .long 1, .long 3]) ++ List.replicate (6 - (lg_sl ([.long 0, .long 1, .long 3])).length) Slot.unset).toArray = ls at hl ⊢
  have hl : lv_has ls 6 [(0, .long 0), (2, .long 1), (4, .long 3)] := hl
  refine lv_lload_n hx hb dX12_in_0 rfl (lv_at hl 0 rfl) ?_
  refine lv_lload_n hx hb dX12_in_1 rfl (lv_at hl 1 rfl) ?_
  refine W.lcmp hx hb dX12_in_2 ?_
  refine md_top (y := (-1)) (by decide) ?_
  refine lv_if_lt (tgt := 17) hx hb dX12_in_3 (by decide) (fun _ => ?_) (fun h => absurd h (by decide))
  refine lv_iconst (v := 0) hx hb dX12_in_17 (by decide) ?_
  exact md_endz hx hb hr hlocks hK hT hG rfl (⟨rfl, rfl⟩) dX12_in_18
set_option maxRecDepth 100000 in
set_option maxHeartbeats 4000000 in
theorem c_X12_canLose (l : Launch) (D : va_G) (cy : Nat → ClassId) (tx : (Nat → Nat) × (Nat → Nat)) (base Z : Nat) (K N : Nat → Nat) (M : Nat → Nat → Int32) (R : Nat → Nat → Option Nat) (J : Nat → Nat → Int64) (hZ : 104 ≤ Z) (hK69 : K 69 = 12) (hR69_25 : R 69 25 = some 81) (hK81 : K 81 = 14) (hN81 : N 81 = 226) (hM81_0 : M 81 0 = 0) (p1 : Int32) : Met l yX12_canLose [Cond.code yX12_canLose cX12_canLose 2 (some .boolean)] (md_rm 2 0 0) (va_Pc [.ref (base + 69), .int p1] (md_U D cy tx base Z K N M R J)) (mQi D cy tx base (fun r u => r = 0 ∧ u = (Z, K, N, M, R, J))) 0 0 (fun q => base ≤ q) := by
  refine Met.ofW (cc := cX12_canLose) (maxL := 2) (ret := (some .boolean)) (by decide) rfl ?_
  intro p e s m args below meth c s₁ B hml hv
  have hW : ∀ w ∈ lw_tbl, goodWord w = true → w.before args s = true := fun w h g => hv.2.2.2.1.2.1 w h g _
  obtain ⟨rfl, hU⟩ := hv
  have hx := B.exec
  have hb := B.bytes
  have hr := B.returns
  have hlocks := B.notSynchronized
  have hown : s.vm.findClass RX12 = some m.cls := findClass_of_methodNamed B.named
  have hK := hU.2.2.1
  have hT := hU.2.2.2
  have hG := md_G.start hU
  have hl := lv_entry ([.ref (base + 69), .int p1]) (n := 2) (Nat.le_of_ble_eq_true rfl)
  rw [lg_entry_eq]
  generalize (lg_sl ([.ref (base + 69), .int p1]) ++ List.replicate (2 - (lg_sl ([.ref (base + 69), .int p1])).length) Slot.unset).toArray = ls at hl ⊢
  have hl : lv_has ls 2 [(0, .ref (base + 69)), (1, .int p1)] := hl
  refine lv_aload_n hx hb dX12_canLose_0 rfl (lv_at hl 0 rfl) ?_
  refine lv_iload_n hx hb dX12_canLose_1 rfl (lv_at hl 1 rfl) ?_
  refine md_goi hG (md_runV (As := [.int p1]) (rest := []) hx hb hml hown hW hK hT hG (c_X12_isSet l D cy tx base  Z  K N M R J hZ hK69 hR69_25 hK81 hN81 hM81_0 p1) s_X12_404 ⟨rfl, rfl, ⟨Nat.le_of_ble_eq_true rfl, Nat.le_of_ble_eq_true rfl⟩, ⟨Nat.le_of_ble_eq_true rfl, Nat.le_of_ble_eq_true rfl⟩⟩ (Nat.lt_of_lt_of_le (by decide) hZ) hK69 (by decide) rfl rfl hl.1 rfl (Nat.le_of_ble_eq_true rfl) dX12_canLose_2) (fun r u H locs hp hG => ?_)
  rcases hp with ⟨rfl, rfl⟩ | ⟨rfl, rfl, rfl⟩
  · have hG : md_G D cy base Z K N M R J s H locs := hG
    refine lv_if_eq (tgt := 57) hx hb dX12_canLose_5 (by decide) (fun _ => ?_) (fun h => absurd h (by decide))
    refine lv_iconst (v := 0) hx hb dX12_canLose_57 (by decide) ?_
    exact md_endz hx hb hr hlocks hK hT hG rfl (⟨rfl, rfl⟩) dX12_canLose_58
  · have hG : md_G D cy base Z K N M R J s H locs := hG
    refine lv_if_eq (tgt := 57) hx hb dX12_canLose_5 (by decide) (fun h => absurd h (by decide)) (fun _ => ?_)
    refine lv_iload_n hx hb dX12_canLose_8 rfl (lv_at hl 1 rfl) ?_
    refine md_goi hG (md_runS (As := [.int 0]) (rest := []) hx hb hml hown hW hK hT hG (c_X12_bits l D cy tx base  Z  K N M R J hZ  ) s_X12_341 ⟨rfl, rfl, ⟨Nat.le_of_ble_eq_true rfl, Nat.le_of_ble_eq_true rfl⟩, ⟨Nat.le_of_ble_eq_true rfl, Nat.le_of_ble_eq_true rfl⟩⟩ rfl hl.1 rfl (Nat.le_of_ble_eq_true rfl) dX12_canLose_9) (fun r u H locs hp hG => ?_)
    obtain ⟨rfl, rfl⟩ := hp
    have hG : md_G D cy base Z K N M R J s H locs := hG
    refine lv_i2l (v := 0) hx hb dX12_canLose_12 (by decide) ?_
    refine lv_lconst (v := 1) hx hb dX12_canLose_13 (by decide) ?_
    refine lv_ldc2 hx hb hown (hW _ w_8_59 rfl) dX12_canLose_14 ?_
    refine md_goi hG (md_runS (As := [.long 0, .long 1, .long 3]) (rest := []) hx hb hml hown hW hK hT hG (c_X12_in_2 l D cy tx base  Z  K N M R J hZ  ) s_X12_155 ⟨rfl, rfl, ⟨Nat.le_of_ble_eq_true rfl, Nat.le_of_ble_eq_true rfl⟩, ⟨Nat.le_of_ble_eq_true rfl, Nat.le_of_ble_eq_true rfl⟩⟩ rfl hl.1 rfl (Nat.le_of_ble_eq_true rfl) dX12_canLose_17) (fun r u H locs hp hG => ?_)
    obtain ⟨rfl, rfl⟩ := hp
    have hG : md_G D cy base Z K N M R J s H locs := hG
    refine lv_if_eq (tgt := 57) hx hb dX12_canLose_20 (by decide) (fun _ => ?_) (fun h => absurd h (by decide))
    refine lv_iconst (v := 0) hx hb dX12_canLose_57 (by decide) ?_
    exact md_endz hx hb hr hlocks hK hT hG rfl (⟨rfl, rfl⟩) dX12_canLose_58
set_option maxRecDepth 100000 in
set_option maxHeartbeats 4000000 in
theorem c_X12_lose (l : Launch) (D : va_G) (cy : Nat → ClassId) (tx : (Nat → Nat) × (Nat → Nat)) (base Z : Nat) (K N : Nat → Nat) (M : Nat → Nat → Int32) (R : Nat → Nat → Option Nat) (J : Nat → Nat → Int64) (hZ : 104 ≤ Z) (hK69 : K 69 = 12) (hR69_25 : R 69 25 = some 81) (hK81 : K 81 = 14) (hN81 : N 81 = 226) (hM81_0 : M 81 0 = 0) (p1 : Int32) : Met l yX12_lose [Cond.code yX12_lose cX12_lose 2 (some .int)] (md_rm 3 0 0) (va_Pc [.ref (base + 69), .int p1] (md_U D cy tx base Z K N M R J)) (mQi D cy tx base (fun r u => r = (-1) ∧ u = (Z, K, N, M, R, J))) 0 0 (fun q => base ≤ q) := by
  refine Met.ofW (cc := cX12_lose) (maxL := 2) (ret := (some .int)) (by decide) rfl ?_
  intro p e s m args below meth c s₁ B hml hv
  have hW : ∀ w ∈ lw_tbl, goodWord w = true → w.before args s = true := fun w h g => hv.2.2.2.1.2.1 w h g _
  obtain ⟨rfl, hU⟩ := hv
  have hx := B.exec
  have hb := B.bytes
  have hr := B.returns
  have hlocks := B.notSynchronized
  have hown : s.vm.findClass RX12 = some m.cls := findClass_of_methodNamed B.named
  have hK := hU.2.2.1
  have hT := hU.2.2.2
  have hG := md_G.start hU
  have hl := lv_entry ([.ref (base + 69), .int p1]) (n := 2) (Nat.le_of_ble_eq_true rfl)
  rw [lg_entry_eq]
  generalize (lg_sl ([.ref (base + 69), .int p1]) ++ List.replicate (2 - (lg_sl ([.ref (base + 69), .int p1])).length) Slot.unset).toArray = ls at hl ⊢
  have hl : lv_has ls 2 [(0, .ref (base + 69)), (1, .int p1)] := hl
  refine lv_aload_n hx hb dX12_lose_0 rfl (lv_at hl 0 rfl) ?_
  refine lv_iload_n hx hb dX12_lose_1 rfl (lv_at hl 1 rfl) ?_
  refine md_goi hG (md_runV (As := [.int p1]) (rest := []) hx hb hml hown hW hK hT hG (c_X12_canLose l D cy tx base  Z  K N M R J hZ hK69 hR69_25 hK81 hN81 hM81_0 p1) s_X12_446 ⟨rfl, rfl, ⟨Nat.le_of_ble_eq_true rfl, Nat.le_of_ble_eq_true rfl⟩, ⟨Nat.le_of_ble_eq_true rfl, Nat.le_of_ble_eq_true rfl⟩⟩ (Nat.lt_of_lt_of_le (by decide) hZ) hK69 (by decide) rfl rfl hl.1 rfl (Nat.le_of_ble_eq_true rfl) dX12_lose_2) (fun r u H locs hp hG => ?_)
  obtain ⟨rfl, rfl⟩ := hp
  have hG : md_G D cy base Z K N M R J s H locs := hG
  refine lv_if_ne (tgt := 10) hx hb dX12_lose_5 (by decide) (fun h => absurd h (by decide)) (fun _ => ?_)
  refine lv_iconst (v := (-1)) hx hb dX12_lose_8 (by decide) ?_
  exact md_endi hx hb hr hlocks hK hT hG (⟨rfl, rfl⟩) dX12_lose_9
set_option maxRecDepth 100000 in
set_option maxHeartbeats 4000000 in
theorem c_X12_plan (l : Launch) (D : va_G) (cy : Nat → ClassId) (tx : (Nat → Nat) × (Nat → Nat)) (base Z : Nat) (K N : Nat → Nat) (M : Nat → Nat → Int32) (R : Nat → Nat → Option Nat) (J : Nat → Nat → Int64) (hZ : 104 ≤ Z) (hK69 : K 69 = 12) (hR69_25 : R 69 25 = some 81) (hK81 : K 81 = 14) (hN81 : N 81 = 226) (hM81_0 : M 81 0 = 0) (p1 : Int32) (p2 : Int32) (p3 : Int32) : Met l yX12_plan [Cond.code yX12_plan cX12_plan 4 (some .int)] (md_rm 3 0 0) (va_Pc [.ref (base + 69), .int p1, .int p2, .int p3] (md_U D cy tx base Z K N M R J)) (mQi D cy tx base (fun r u => r = (-1) ∧ u = (Z, K, N, M, R, J))) 0 0 (fun q => base ≤ q) := by
  refine Met.ofW (cc := cX12_plan) (maxL := 4) (ret := (some .int)) (by decide) rfl ?_
  intro p e s m args below meth c s₁ B hml hv
  have hW : ∀ w ∈ lw_tbl, goodWord w = true → w.before args s = true := fun w h g => hv.2.2.2.1.2.1 w h g _
  obtain ⟨rfl, hU⟩ := hv
  have hx := B.exec
  have hb := B.bytes
  have hr := B.returns
  have hlocks := B.notSynchronized
  have hown : s.vm.findClass RX12 = some m.cls := findClass_of_methodNamed B.named
  have hK := hU.2.2.1
  have hT := hU.2.2.2
  have hG := md_G.start hU
  have hl := lv_entry ([.ref (base + 69), .int p1, .int p2, .int p3]) (n := 4) (Nat.le_of_ble_eq_true rfl)
  rw [lg_entry_eq]
  generalize (lg_sl ([.ref (base + 69), .int p1, .int p2, .int p3]) ++ List.replicate (4 - (lg_sl ([.ref (base + 69), .int p1, .int p2, .int p3])).length) Slot.unset).toArray = ls at hl ⊢
  have hl : lv_has ls 4 [(0, .ref (base + 69)), (1, .int p1), (2, .int p2), (3, .int p3)] := hl
  refine lv_aload_n hx hb dX12_plan_0 rfl (lv_at hl 0 rfl) ?_
  refine lv_iload_n hx hb dX12_plan_1 rfl (lv_at hl 1 rfl) ?_
  refine md_goi hG (md_runV (As := [.int p1]) (rest := []) hx hb hml hown hW hK hT hG (c_X12_canLose l D cy tx base  Z  K N M R J hZ hK69 hR69_25 hK81 hN81 hM81_0 p1) s_X12_446 ⟨rfl, rfl, ⟨Nat.le_of_ble_eq_true rfl, Nat.le_of_ble_eq_true rfl⟩, ⟨Nat.le_of_ble_eq_true rfl, Nat.le_of_ble_eq_true rfl⟩⟩ (Nat.lt_of_lt_of_le (by decide) hZ) hK69 (by decide) rfl rfl hl.1 rfl (Nat.le_of_ble_eq_true rfl) dX12_plan_2) (fun r u H locs hp hG => ?_)
  obtain ⟨rfl, rfl⟩ := hp
  have hG : md_G D cy base Z K N M R J s H locs := hG
  refine lv_if_eq (tgt := 42) hx hb dX12_plan_5 (by decide) (fun _ => ?_) (fun h => absurd h (by decide))
  refine lv_iconst (v := (-1)) hx hb dX12_plan_42 (by decide) ?_
  exact md_endi hx hb hr hlocks hK hT hG (⟨rfl, rfl⟩) dX12_plan_43
set_option maxRecDepth 100000 in
set_option maxHeartbeats 4000000 in
theorem c_X12_spoilers (l : Launch) (D : va_G) (cy : Nat → ClassId) (tx : (Nat → Nat) × (Nat → Nat)) (base Z : Nat) (K N : Nat → Nat) (M : Nat → Nat → Int32) (R : Nat → Nat → Option Nat) (J : Nat → Nat → Int64) (hZ : 104 ≤ Z) (hK69 : K 69 = 12) (hR69_25 : R 69 25 = some 81) (hK81 : K 81 = 14) (hN81 : N 81 = 226) (hM81_0 : M 81 0 = 0) (p1 : Int32) : Met l yX12_spoilers [Cond.code yX12_spoilers cX12_spoilers 6 (some .int)] (md_rm 3 0 0) (va_Pc [.ref (base + 69), .int p1] (md_U D cy tx base Z K N M R J)) (mQi D cy tx base (fun r u => r = (-1) ∧ u = (Z, K, N, M, R, J))) 0 0 (fun q => base ≤ q) := by
  refine Met.ofW (cc := cX12_spoilers) (maxL := 6) (ret := (some .int)) (by decide) rfl ?_
  intro p e s m args below meth c s₁ B hml hv
  have hW : ∀ w ∈ lw_tbl, goodWord w = true → w.before args s = true := fun w h g => hv.2.2.2.1.2.1 w h g _
  obtain ⟨rfl, hU⟩ := hv
  have hx := B.exec
  have hb := B.bytes
  have hr := B.returns
  have hlocks := B.notSynchronized
  have hown : s.vm.findClass RX12 = some m.cls := findClass_of_methodNamed B.named
  have hK := hU.2.2.1
  have hT := hU.2.2.2
  have hG := md_G.start hU
  have hl := lv_entry ([.ref (base + 69), .int p1]) (n := 6) (Nat.le_of_ble_eq_true rfl)
  rw [lg_entry_eq]
  generalize (lg_sl ([.ref (base + 69), .int p1]) ++ List.replicate (6 - (lg_sl ([.ref (base + 69), .int p1])).length) Slot.unset).toArray = ls at hl ⊢
  have hl : lv_has ls 6 [(0, .ref (base + 69)), (1, .int p1)] := hl
  refine lv_aload_n hx hb dX12_spoilers_0 rfl (lv_at hl 0 rfl) ?_
  refine lv_iload_n hx hb dX12_spoilers_1 rfl (lv_at hl 1 rfl) ?_
  refine md_goi hG (md_runV (As := [.int p1]) (rest := []) hx hb hml hown hW hK hT hG (c_X12_canLose l D cy tx base  Z  K N M R J hZ hK69 hR69_25 hK81 hN81 hM81_0 p1) s_X12_446 ⟨rfl, rfl, ⟨Nat.le_of_ble_eq_true rfl, Nat.le_of_ble_eq_true rfl⟩, ⟨Nat.le_of_ble_eq_true rfl, Nat.le_of_ble_eq_true rfl⟩⟩ (Nat.lt_of_lt_of_le (by decide) hZ) hK69 (by decide) rfl rfl hl.1 rfl (Nat.le_of_ble_eq_true rfl) dX12_spoilers_2) (fun r u H locs hp hG => ?_)
  obtain ⟨rfl, rfl⟩ := hp
  have hG : md_G D cy base Z K N M R J s H locs := hG
  refine lv_if_ne (tgt := 10) hx hb dX12_spoilers_5 (by decide) (fun h => absurd h (by decide)) (fun _ => ?_)
  refine lv_iconst (v := (-1)) hx hb dX12_spoilers_8 (by decide) ?_
  exact md_endi hx hb hr hlocks hK hT hG (⟨rfl, rfl⟩) dX12_spoilers_9
set_option maxRecDepth 100000 in
set_option maxHeartbeats 4000000 in
theorem c_X12_sides (l : Launch) (D : va_G) (cy : Nat → ClassId) (tx : (Nat → Nat) × (Nat → Nat)) (base Z : Nat) (K N : Nat → Nat) (M : Nat → Nat → Int32) (R : Nat → Nat → Option Nat) (J : Nat → Nat → Int64) (hZ : 104 ≤ Z) (hK69 : K 69 = 12) (hR69_25 : R 69 25 = some 81) (hK81 : K 81 = 14) (hN81 : N 81 = 226) (hM81_0 : M 81 0 = 0) (p1 : Int32) (p2 : Int32) (p3 : Int32) : Met l yX12_sides [Cond.code yX12_sides cX12_sides 6 (some .int)] (md_rm 2 0 0) (va_Pc [.ref (base + 69), .int p1, .int p2, .int p3] (md_U D cy tx base Z K N M R J)) (mQi D cy tx base (fun r u => r = (-1000000) ∧ u = (Z, K, N, M, R, J))) 0 0 (fun q => base ≤ q) := by
  refine Met.ofW (cc := cX12_sides) (maxL := 6) (ret := (some .int)) (by decide) rfl ?_
  intro p e s m args below meth c s₁ B hml hv
  have hW : ∀ w ∈ lw_tbl, goodWord w = true → w.before args s = true := fun w h g => hv.2.2.2.1.2.1 w h g _
  obtain ⟨rfl, hU⟩ := hv
  have hx := B.exec
  have hb := B.bytes
  have hr := B.returns
  have hlocks := B.notSynchronized
  have hown : s.vm.findClass RX12 = some m.cls := findClass_of_methodNamed B.named
  have hK := hU.2.2.1
  have hT := hU.2.2.2
  have hG := md_G.start hU
  have hl := lv_entry ([.ref (base + 69), .int p1, .int p2, .int p3]) (n := 6) (Nat.le_of_ble_eq_true rfl)
  rw [lg_entry_eq]
  generalize (lg_sl ([.ref (base + 69), .int p1, .int p2, .int p3]) ++ List.replicate (6 - (lg_sl ([.ref (base + 69), .int p1, .int p2, .int p3])).length) Slot.unset).toArray = ls at hl ⊢
  have hl : lv_has ls 6 [(0, .ref (base + 69)), (1, .int p1), (2, .int p2), (3, .int p3)] := hl
  refine lv_aload_n hx hb dX12_sides_0 rfl (lv_at hl 0 rfl) ?_
  refine lv_iload_n hx hb dX12_sides_1 rfl (lv_at hl 1 rfl) ?_
  refine md_goi hG (md_runV (As := [.int p1]) (rest := []) hx hb hml hown hW hK hT hG (c_X12_isSet l D cy tx base  Z  K N M R J hZ hK69 hR69_25 hK81 hN81 hM81_0 p1) s_X12_404 ⟨rfl, rfl, ⟨Nat.le_of_ble_eq_true rfl, Nat.le_of_ble_eq_true rfl⟩, ⟨Nat.le_of_ble_eq_true rfl, Nat.le_of_ble_eq_true rfl⟩⟩ (Nat.lt_of_lt_of_le (by decide) hZ) hK69 (by decide) rfl rfl hl.1 rfl (Nat.le_of_ble_eq_true rfl) dX12_sides_2) (fun r u H locs hp hG => ?_)
  rcases hp with ⟨rfl, rfl⟩ | ⟨rfl, rfl, rfl⟩
  · have hG : md_G D cy base Z K N M R J s H locs := hG
    refine lv_if_eq (tgt := 72) hx hb dX12_sides_5 (by decide) (fun _ => ?_) (fun h => absurd h (by decide))
    refine lv_ldcw hx hb hown (hW _ w_8_46 rfl) dX12_sides_72 ?_
    exact md_endi hx hb hr hlocks hK hT hG (⟨rfl, rfl⟩) dX12_sides_75
  · have hG : md_G D cy base Z K N M R J s H locs := hG
    refine lv_if_eq (tgt := 72) hx hb dX12_sides_5 (by decide) (fun h => absurd h (by decide)) (fun _ => ?_)
    refine lv_aload_n hx hb dX12_sides_8 rfl (lv_at hl 0 rfl) ?_
    refine lv_iload_n hx hb dX12_sides_9 rfl (lv_at hl 2 rfl) ?_
    refine md_goi hG (md_runV (As := [.int p2]) (rest := []) hx hb hml hown hW hK hT hG (c_X12_isSet l D cy tx base  Z  K N M R J hZ hK69 hR69_25 hK81 hN81 hM81_0 p2) s_X12_404 ⟨rfl, rfl, ⟨Nat.le_of_ble_eq_true rfl, Nat.le_of_ble_eq_true rfl⟩, ⟨Nat.le_of_ble_eq_true rfl, Nat.le_of_ble_eq_true rfl⟩⟩ (Nat.lt_of_lt_of_le (by decide) hZ) hK69 (by decide) rfl rfl hl.1 rfl (Nat.le_of_ble_eq_true rfl) dX12_sides_10) (fun r u H locs hp hG => ?_)
    rcases hp with ⟨rfl, rfl⟩ | ⟨rfl, rfl, rfl⟩
    · have hG : md_G D cy base Z K N M R J s H locs := hG
      refine lv_if_eq (tgt := 72) hx hb dX12_sides_13 (by decide) (fun _ => ?_) (fun h => absurd h (by decide))
      refine lv_ldcw hx hb hown (hW _ w_8_46 rfl) dX12_sides_72 ?_
      exact md_endi hx hb hr hlocks hK hT hG (⟨rfl, rfl⟩) dX12_sides_75
    · have hG : md_G D cy base Z K N M R J s H locs := hG
      refine lv_if_eq (tgt := 72) hx hb dX12_sides_13 (by decide) (fun h => absurd h (by decide)) (fun _ => ?_)
      refine lv_iload_n hx hb dX12_sides_16 rfl (lv_at hl 1 rfl) ?_
      refine lv_if_eq (tgt := 72) hx hb dX12_sides_17 (by decide) (fun _ => ?_) (fun h => absurd h (by decide))
      refine lv_ldcw hx hb hown (hW _ w_8_46 rfl) dX12_sides_72 ?_
      exact md_endi hx hb hr hlocks hK hT hG (⟨rfl, rfl⟩) dX12_sides_75
set_option maxRecDepth 100000 in
set_option maxHeartbeats 4000000 in
theorem c_X12_chair (l : Launch) (D : va_G) (cy : Nat → ClassId) (tx : (Nat → Nat) × (Nat → Nat)) (base Z : Nat) (K N : Nat → Nat) (M : Nat → Nat → Int32) (R : Nat → Nat → Option Nat) (J : Nat → Nat → Int64) (hZ : 104 ≤ Z) (hK69 : K 69 = 12) (hR69_25 : R 69 25 = some 81) (hK81 : K 81 = 14) (hN81 : N 81 = 226) (hM81_4 : M 81 4 = 0) (hM81_0 : M 81 0 = 0) (p1 : Int32) (p2 : Int32) (p3 : Int32) : Met l yX12_chair [Cond.code yX12_chair cX12_chair 11 (some .int)] (md_rm 2 0 0) (va_Pc [.ref (base + 69), .int p1, .int p2, .int p3] (md_U D cy tx base Z K N M R J)) (mQi D cy tx base (fun r u => r = (-1000000) ∧ u = (Z, K, N, M, R, J))) 0 0 (fun q => base ≤ q) := by
  refine Met.ofW (cc := cX12_chair) (maxL := 11) (ret := (some .int)) (by decide) rfl ?_
  intro p e s m args below meth c s₁ B hml hv
  have hW : ∀ w ∈ lw_tbl, goodWord w = true → w.before args s = true := fun w h g => hv.2.2.2.1.2.1 w h g _
  obtain ⟨rfl, hU⟩ := hv
  have hx := B.exec
  have hb := B.bytes
  have hr := B.returns
  have hlocks := B.notSynchronized
  have hown : s.vm.findClass RX12 = some m.cls := findClass_of_methodNamed B.named
  have hK := hU.2.2.1
  have hT := hU.2.2.2
  have hG := md_G.start hU
  have hl := lv_entry ([.ref (base + 69), .int p1, .int p2, .int p3]) (n := 11) (Nat.le_of_ble_eq_true rfl)
  rw [lg_entry_eq]
  generalize (lg_sl ([.ref (base + 69), .int p1, .int p2, .int p3]) ++ List.replicate (11 - (lg_sl ([.ref (base + 69), .int p1, .int p2, .int p3])).length) Slot.unset).toArray = ls at hl ⊢
  have hl : lv_has ls 11 [(0, .ref (base + 69)), (1, .int p1), (2, .int p2), (3, .int p3)] := hl
  refine lv_aload_n hx hb dX12_chair_0 rfl (lv_at hl 0 rfl) ?_
  refine md_getr hx hb hW hown hK hG f_X12_45_11 (Nat.lt_of_lt_of_le (by decide) hZ) hK69 (b := 81) hR69_25 dX12_chair_1 ?_
  refine lv_iconst (v := 4) hx hb dX12_chair_4 (by decide) ?_
  refine md_iald hx hb hK hG (Nat.lt_of_lt_of_le (by decide) hZ) hK81 hN81 (md_inD (by decide)) (v := 0) hM81_4 dX12_chair_5 ?_
  refine lv_istore (lv' := [(4, .int 0), (0, .ref (base + 69)), (1, .int p1), (2, .int p2), (3, .int p3)]) hx hb dX12_chair_6 hl (by decide) rfl (fun ls hl => ?_)
  refine lv_aload_n hx hb dX12_chair_8 rfl (lv_at hl 1 rfl) ?_
  refine lv_iload_n hx hb dX12_chair_9 rfl (lv_at hl 2 rfl) ?_
  refine md_goi hG (md_runV (As := [.int p1]) (rest := []) hx hb hml hown hW hK hT hG (c_X12_isMember l D cy tx base  Z  K N M R J hZ hK69 hR69_25 hK81 hN81 hM81_0 p1) s_X12_319 ⟨rfl, rfl, ⟨Nat.le_of_ble_eq_true rfl, Nat.le_of_ble_eq_true rfl⟩, ⟨Nat.le_of_ble_eq_true rfl, Nat.le_of_ble_eq_true rfl⟩⟩ (Nat.lt_of_lt_of_le (by decide) hZ) hK69 (by decide) rfl rfl hl.1 rfl (Nat.le_of_ble_eq_true rfl) dX12_chair_10) (fun r u H locs hp hG => ?_)
  obtain ⟨rfl, rfl⟩ := hp
  have hG : md_G D cy base Z K N M R J s H locs := hG
  refine lv_if_eq (tgt := 41) hx hb dX12_chair_13 (by decide) (fun _ => ?_) (fun h => absurd h (by decide))
  refine lv_ldcw hx hb hown (hW _ w_8_46 rfl) dX12_chair_41 ?_
  exact md_endi hx hb hr hlocks hK hT hG (⟨rfl, rfl⟩) dX12_chair_44
set_option maxRecDepth 100000 in
set_option maxHeartbeats 4000000 in
theorem c_X12_rounds (l : Launch) (D : va_G) (cy : Nat → ClassId) (tx : (Nat → Nat) × (Nat → Nat)) (base Z : Nat) (K N : Nat → Nat) (M : Nat → Nat → Int32) (R : Nat → Nat → Option Nat) (J : Nat → Nat → Int64) (hZ : 104 ≤ Z) (hK69 : K 69 = 12) (hR69_25 : R 69 25 = some 81) (hK81 : K 81 = 14) (hN81 : N 81 = 226) (hM81_4 : M 81 4 = 0) (p1 : Int32) : Met l yX12_rounds [Cond.code yX12_rounds cX12_rounds 4 (some .int)] (md_rm 1 0 0) (va_Pc [.ref (base + 69), .int p1] (md_U D cy tx base Z K N M R J)) (mQi D cy tx base (fun r u => r = (-1) ∧ u = (Z, K, N, M, R, J))) 0 0 (fun q => base ≤ q) := by
  refine Met.ofW (cc := cX12_rounds) (maxL := 4) (ret := (some .int)) (by decide) rfl ?_
  intro p e s m args below meth c s₁ B hml hv
  have hW : ∀ w ∈ lw_tbl, goodWord w = true → w.before args s = true := fun w h g => hv.2.2.2.1.2.1 w h g _
  obtain ⟨rfl, hU⟩ := hv
  have hx := B.exec
  have hb := B.bytes
  have hr := B.returns
  have hlocks := B.notSynchronized
  have hown : s.vm.findClass RX12 = some m.cls := findClass_of_methodNamed B.named
  have hK := hU.2.2.1
  have hT := hU.2.2.2
  have hG := md_G.start hU
  have hl := lv_entry ([.ref (base + 69), .int p1]) (n := 4) (Nat.le_of_ble_eq_true rfl)
  rw [lg_entry_eq]
  generalize (lg_sl ([.ref (base + 69), .int p1]) ++ List.replicate (4 - (lg_sl ([.ref (base + 69), .int p1])).length) Slot.unset).toArray = ls at hl ⊢
  have hl : lv_has ls 4 [(0, .ref (base + 69)), (1, .int p1)] := hl
  refine lv_aload_n hx hb dX12_rounds_0 rfl (lv_at hl 0 rfl) ?_
  refine md_getr hx hb hW hown hK hG f_X12_45_11 (Nat.lt_of_lt_of_le (by decide) hZ) hK69 (b := 81) hR69_25 dX12_rounds_1 ?_
  refine lv_iconst (v := 4) hx hb dX12_rounds_4 (by decide) ?_
  refine md_iald hx hb hK hG (Nat.lt_of_lt_of_le (by decide) hZ) hK81 hN81 (md_inD (by decide)) (v := 0) hM81_4 dX12_rounds_5 ?_
  refine lv_if_eq (tgt := 31) hx hb dX12_rounds_6 (by decide) (fun _ => ?_) (fun h => absurd h (by decide))
  refine lv_iconst (v := (-1)) hx hb dX12_rounds_31 (by decide) ?_
  exact md_endi hx hb hr hlocks hK hT hG (⟨rfl, rfl⟩) dX12_rounds_32
set_option maxRecDepth 100000 in
set_option maxHeartbeats 4000000 in
theorem c_X12_entry (l : Launch) (D : va_G) (cy : Nat → ClassId) (tx : (Nat → Nat) × (Nat → Nat)) (base Z : Nat) (K N : Nat → Nat) (M : Nat → Nat → Int32) (R : Nat → Nat → Option Nat) (J : Nat → Nat → Int64) (hZ : 104 ≤ Z) (hK69 : K 69 = 12) (hR69_25 : R 69 25 = some 81) (hK81 : K 81 = 14) (hN81 : N 81 = 226) (p2 : Int32) (p3 : Int32) (p4 : Int32) : Met l yX12_entry [Cond.code yX12_entry cX12_entry 6 (some .int)] (md_rm 1 0 0) (va_Pc [.ref (base + 69), .int (-1), .int p2, .int p3, .int p4] (md_U D cy tx base Z K N M R J)) (mQi D cy tx base (fun r u => r = 0 ∧ u = (Z, K, N, (u2 M 81 5 0), R, J))) 0 0 (fun q => base ≤ q) := by
  refine Met.ofW (cc := cX12_entry) (maxL := 6) (ret := (some .int)) (by decide) rfl ?_
  intro p e s m args below meth c s₁ B hml hv
  have hW : ∀ w ∈ lw_tbl, goodWord w = true → w.before args s = true := fun w h g => hv.2.2.2.1.2.1 w h g _
  obtain ⟨rfl, hU⟩ := hv
  have hx := B.exec
  have hb := B.bytes
  have hr := B.returns
  have hlocks := B.notSynchronized
  have hown : s.vm.findClass RX12 = some m.cls := findClass_of_methodNamed B.named
  have hK := hU.2.2.1
  have hT := hU.2.2.2
  have hG := md_G.start hU
  have hl := lv_entry ([.ref (base + 69), .int (-1), .int p2, .int p3, .int p4]) (n := 6) (Nat.le_of_ble_eq_true rfl)
  rw [lg_entry_eq]
  generalize (lg_sl ([.ref (base + 69), .int (-1), .int p2, .int p3, .int p4]) ++ List.replicate (6 - (lg_sl ([.ref (base + 69), .int (-1), .int p2, .int p3, .int p4])).length) Slot.unset).toArray = ls at hl ⊢
  have hl : lv_has ls 6 [(0, .ref (base + 69)), (1, .int (-1)), (2, .int p2), (3, .int p3), (4, .int p4)] := hl
  refine lv_iload_n hx hb dX12_entry_0 rfl (lv_at hl 1 rfl) ?_
  refine lv_iconst (v := (-1)) hx hb dX12_entry_1 (by decide) ?_
  refine lv_icmp_ne (tgt := 14) hx hb dX12_entry_2 (by decide) (fun h => absurd h (by decide)) (fun _ => ?_)
  refine lv_aload_n hx hb dX12_entry_5 rfl (lv_at hl 0 rfl) ?_
  refine md_getr hx hb hW hown hK hG f_X12_45_11 (Nat.lt_of_lt_of_le (by decide) hZ) hK69 (b := 81) hR69_25 dX12_entry_6 ?_
  refine lv_iconst (v := 5) hx hb dX12_entry_9 (by decide) ?_
  refine lv_iconst (v := 0) hx hb dX12_entry_10 (by decide) ?_
  refine md_iast hx hb hK hG (Nat.lt_of_lt_of_le (by decide) hZ) hK81 hN81 (md_inD (by decide)) (k := 5) (by decide) dX12_entry_11 (fun H locs hG => ?_)
  refine lv_iconst (v := 0) hx hb dX12_entry_12 (by decide) ?_
  exact md_endi hx hb hr hlocks hK hT hG (⟨rfl, rfl⟩) dX12_entry_13
set_option maxRecDepth 100000 in
set_option maxHeartbeats 4000000 in
theorem c_X12_entry_2 (l : Launch) (D : va_G) (cy : Nat → ClassId) (tx : (Nat → Nat) × (Nat → Nat)) (base Z : Nat) (K N : Nat → Nat) (M : Nat → Nat → Int32) (R : Nat → Nat → Option Nat) (J : Nat → Nat → Int64) (hZ : 104 ≤ Z) (hK69 : K 69 = 12) (hR69_25 : R 69 25 = some 81) (hK81 : K 81 = 14) (hN81 : N 81 = 226) (hM81_0 : M 81 0 = 0) (hR69_26 : R 69 26 = some 82) (hK82 : K 82 = 14) (hN82 : N 82 = 2) (hM82_0 : M 82 0 = 0) (p1 : Int32) (p2 : Int32) (p3 : Int32) (p4 : Int32) (h1 : ¬ p1 = (-1)) : Met l yX12_entry [Cond.code yX12_entry cX12_entry 6 (some .int)] (md_rm 2 0 0) (va_Pc [.ref (base + 69), .int p1, .int p2, .int p3, .int p4] (md_U D cy tx base Z K N M R J)) (mQi D cy tx base (fun r u => r = (-2) ∧ u = (Z, K, N, (u2 M 82 0 1), R, J))) 0 0 (fun q => base ≤ q) := by
  refine Met.ofW (cc := cX12_entry) (maxL := 6) (ret := (some .int)) (by decide) rfl ?_
  intro p e s m args below meth c s₁ B hml hv
  have hW : ∀ w ∈ lw_tbl, goodWord w = true → w.before args s = true := fun w h g => hv.2.2.2.1.2.1 w h g _
  obtain ⟨rfl, hU⟩ := hv
  have hx := B.exec
  have hb := B.bytes
  have hr := B.returns
  have hlocks := B.notSynchronized
  have hown : s.vm.findClass RX12 = some m.cls := findClass_of_methodNamed B.named
  have hK := hU.2.2.1
  have hT := hU.2.2.2
  have hG := md_G.start hU
  have hl := lv_entry ([.ref (base + 69), .int p1, .int p2, .int p3, .int p4]) (n := 6) (Nat.le_of_ble_eq_true rfl)
  rw [lg_entry_eq]
  generalize (lg_sl ([.ref (base + 69), .int p1, .int p2, .int p3, .int p4]) ++ List.replicate (6 - (lg_sl ([.ref (base + 69), .int p1, .int p2, .int p3, .int p4])).length) Slot.unset).toArray = ls at hl ⊢
  have hl : lv_has ls 6 [(0, .ref (base + 69)), (1, .int p1), (2, .int p2), (3, .int p3), (4, .int p4)] := hl
  refine lv_iload_n hx hb dX12_entry_0 rfl (lv_at hl 1 rfl) ?_
  refine lv_iconst (v := (-1)) hx hb dX12_entry_1 (by decide) ?_
  refine lv_icmp_ne (tgt := 14) hx hb dX12_entry_2 (by decide) (fun _ => ?_) (fun h => absurd h h1)
  refine lv_aload_n hx hb dX12_entry_14 rfl (lv_at hl 0 rfl) ?_
  refine md_getr hx hb hW hown hK hG f_X12_45_11 (Nat.lt_of_lt_of_le (by decide) hZ) hK69 (b := 81) hR69_25 dX12_entry_15 ?_
  refine lv_iconst (v := 0) hx hb dX12_entry_18 (by decide) ?_
  refine md_iald hx hb hK hG (Nat.lt_of_lt_of_le (by decide) hZ) hK81 hN81 (md_inD (by decide)) (v := 0) hM81_0 dX12_entry_19 ?_
  refine lv_if_eq (tgt := 70) hx hb dX12_entry_20 (by decide) (fun _ => ?_) (fun h => absurd h (by decide))
  refine lv_aload_n hx hb dX12_entry_70 rfl (lv_at hl 0 rfl) ?_
  refine lv_iconst (v := 0) hx hb dX12_entry_71 (by decide) ?_
  refine md_goi hG (md_runV (As := [.int 0]) (rest := []) hx hb hml hown hW hK hT hG (c_X12_refuses l D cy tx base  Z  K N M R J hZ hK69 hR69_26 hK82 hN82 hM82_0 ) s_X12_338 ⟨rfl, rfl, ⟨Nat.le_of_ble_eq_true rfl, Nat.le_of_ble_eq_true rfl⟩, ⟨Nat.le_of_ble_eq_true rfl, Nat.le_of_ble_eq_true rfl⟩⟩ (Nat.lt_of_lt_of_le (by decide) hZ) hK69 (by decide) rfl rfl hl.1 rfl (Nat.le_of_ble_eq_true rfl) dX12_entry_72) (fun r u H locs hp hG => ?_)
  obtain ⟨rfl, rfl⟩ := hp
  have hG : md_G D cy base Z K N (u2 M 82 0 1) R J s H locs := hG
  exact md_endi hx hb hr hlocks hK hT hG (⟨rfl, rfl⟩) dX12_entry_75
set_option maxRecDepth 100000 in
set_option maxHeartbeats 4000000 in
theorem c_X12_in_3 (l : Launch) (D : va_G) (cy : Nat → ClassId) (tx : (Nat → Nat) × (Nat → Nat)) (base Z : Nat) (K N : Nat → Nat) (M : Nat → Nat → Int32) (R : Nat → Nat → Option Nat) (J : Nat → Nat → Int64) (hZ : 104 ≤ Z) : Met l yX12_in [Cond.code yX12_in cX12_in 6 (some .boolean)] (md_rm 1 0 0) (va_Pc [.long 0, .long 1, .long 5] (md_U D cy tx base Z K N M R J)) (mQi D cy tx base (fun r u => r = 0 ∧ u = (Z, K, N, M, R, J))) 0 0 (fun q => base ≤ q) := by
  refine Met.ofW (cc := cX12_in) (maxL := 6) (ret := (some .boolean)) (by decide) rfl ?_
  intro p e s m args below meth c s₁ B hml hv
  have hW : ∀ w ∈ lw_tbl, goodWord w = true → w.before args s = true := fun w h g => hv.2.2.2.1.2.1 w h g _
  obtain ⟨rfl, hU⟩ := hv
  have hx := B.exec
  have hb := B.bytes
  have hr := B.returns
  have hlocks := B.notSynchronized
  have hown : s.vm.findClass RX12 = some m.cls := findClass_of_methodNamed B.named
  have hK := hU.2.2.1
  have hT := hU.2.2.2
  have hG := md_G.start hU
  have hl := lv_entry ([.long 0, .long 1, .long 5]) (n := 6) (Nat.le_of_ble_eq_true rfl)
  rw [lg_entry_eq]
  generalize (lg_sl ([.long 0, .long 1, .long 5]) ++ List.replicate (6 - (lg_sl ([.long 0, .long 1, .long 5])).length) Slot.unset).toArray = ls at hl ⊢
  have hl : lv_has ls 6 [(0, .long 0), (2, .long 1), (4, .long 5)] := hl
  refine lv_lload_n hx hb dX12_in_0 rfl (lv_at hl 0 rfl) ?_
  refine lv_lload_n hx hb dX12_in_1 rfl (lv_at hl 1 rfl) ?_
  refine W.lcmp hx hb dX12_in_2 ?_
  refine md_top (y := (-1)) (by decide) ?_
  refine lv_if_lt (tgt := 17) hx hb dX12_in_3 (by decide) (fun _ => ?_) (fun h => absurd h (by decide))
  refine lv_iconst (v := 0) hx hb dX12_in_17 (by decide) ?_
  exact md_endz hx hb hr hlocks hK hT hG rfl (⟨rfl, rfl⟩) dX12_in_18
set_option maxRecDepth 100000 in
set_option maxHeartbeats 4000000 in
theorem c_X12_canFit (l : Launch) (D : va_G) (cy : Nat → ClassId) (tx : (Nat → Nat) × (Nat → Nat)) (base Z : Nat) (K N : Nat → Nat) (M : Nat → Nat → Int32) (R : Nat → Nat → Option Nat) (J : Nat → Nat → Int64) (hZ : 104 ≤ Z) (hK69 : K 69 = 12) (hR69_25 : R 69 25 = some 81) (hK81 : K 81 = 14) (hN81 : N 81 = 226) (hM81_0 : M 81 0 = 0) (p1 : Int32) : Met l yX12_canFit [Cond.code yX12_canFit cX12_canFit 2 (some .boolean)] (md_rm 2 0 0) (va_Pc [.ref (base + 69), .int p1] (md_U D cy tx base Z K N M R J)) (mQi D cy tx base (fun r u => r = 0 ∧ u = (Z, K, N, M, R, J))) 0 0 (fun q => base ≤ q) := by
  refine Met.ofW (cc := cX12_canFit) (maxL := 2) (ret := (some .boolean)) (by decide) rfl ?_
  intro p e s m args below meth c s₁ B hml hv
  have hW : ∀ w ∈ lw_tbl, goodWord w = true → w.before args s = true := fun w h g => hv.2.2.2.1.2.1 w h g _
  obtain ⟨rfl, hU⟩ := hv
  have hx := B.exec
  have hb := B.bytes
  have hr := B.returns
  have hlocks := B.notSynchronized
  have hown : s.vm.findClass RX12 = some m.cls := findClass_of_methodNamed B.named
  have hK := hU.2.2.1
  have hT := hU.2.2.2
  have hG := md_G.start hU
  have hl := lv_entry ([.ref (base + 69), .int p1]) (n := 2) (Nat.le_of_ble_eq_true rfl)
  rw [lg_entry_eq]
  generalize (lg_sl ([.ref (base + 69), .int p1]) ++ List.replicate (2 - (lg_sl ([.ref (base + 69), .int p1])).length) Slot.unset).toArray = ls at hl ⊢
  have hl : lv_has ls 2 [(0, .ref (base + 69)), (1, .int p1)] := hl
  refine lv_aload_n hx hb dX12_canFit_0 rfl (lv_at hl 0 rfl) ?_
  refine md_getr hx hb hW hown hK hG f_X12_45_11 (Nat.lt_of_lt_of_le (by decide) hZ) hK69 (b := 81) hR69_25 dX12_canFit_1 ?_
  refine lv_iconst (v := 0) hx hb dX12_canFit_4 (by decide) ?_
  refine md_iald hx hb hK hG (Nat.lt_of_lt_of_le (by decide) hZ) hK81 hN81 (md_inD (by decide)) (v := 0) hM81_0 dX12_canFit_5 ?_
  refine lv_i2l (v := 0) hx hb dX12_canFit_6 (by decide) ?_
  refine lv_lconst (v := 1) hx hb dX12_canFit_7 (by decide) ?_
  refine lv_ldc2 hx hb hown (hW _ w_7_162 rfl) dX12_canFit_8 ?_
  refine md_goi hG (md_runS (As := [.long 0, .long 1, .long 5]) (rest := []) hx hb hml hown hW hK hT hG (c_X12_in_3 l D cy tx base  Z  K N M R J hZ  ) s_X12_155 ⟨rfl, rfl, ⟨Nat.le_of_ble_eq_true rfl, Nat.le_of_ble_eq_true rfl⟩, ⟨Nat.le_of_ble_eq_true rfl, Nat.le_of_ble_eq_true rfl⟩⟩ rfl hl.1 rfl (Nat.le_of_ble_eq_true rfl) dX12_canFit_11) (fun r u H locs hp hG => ?_)
  obtain ⟨rfl, rfl⟩ := hp
  have hG : md_G D cy base Z K N M R J s H locs := hG
  refine lv_if_eq (tgt := 33) hx hb dX12_canFit_14 (by decide) (fun _ => ?_) (fun h => absurd h (by decide))
  refine lv_iconst (v := 0) hx hb dX12_canFit_33 (by decide) ?_
  exact md_endz hx hb hr hlocks hK hT hG rfl (⟨rfl, rfl⟩) dX12_canFit_34
set_option maxRecDepth 100000 in
set_option maxHeartbeats 4000000 in
theorem c_X12_fits (l : Launch) (D : va_G) (cy : Nat → ClassId) (tx : (Nat → Nat) × (Nat → Nat)) (base Z : Nat) (K N : Nat → Nat) (M : Nat → Nat → Int32) (R : Nat → Nat → Option Nat) (J : Nat → Nat → Int64) (hZ : 104 ≤ Z) (hK69 : K 69 = 12) (hR69_25 : R 69 25 = some 81) (hK81 : K 81 = 14) (hN81 : N 81 = 226) (hM81_0 : M 81 0 = 0) (p1 : Int32) (p2 : Int32) (p3 : Int32) : Met l yX12_fits [Cond.code yX12_fits cX12_fits 9 (some .int)] (md_rm 3 0 0) (va_Pc [.ref (base + 69), .int p1, .int p2, .int p3] (md_U D cy tx base Z K N M R J)) (mQi D cy tx base (fun r u => r = (-1) ∧ u = (Z, K, N, M, R, J))) 0 0 (fun q => base ≤ q) := by
  refine Met.ofW (cc := cX12_fits) (maxL := 9) (ret := (some .int)) (by decide) rfl ?_
  intro p e s m args below meth c s₁ B hml hv
  have hW : ∀ w ∈ lw_tbl, goodWord w = true → w.before args s = true := fun w h g => hv.2.2.2.1.2.1 w h g _
  obtain ⟨rfl, hU⟩ := hv
  have hx := B.exec
  have hb := B.bytes
  have hr := B.returns
  have hlocks := B.notSynchronized
  have hown : s.vm.findClass RX12 = some m.cls := findClass_of_methodNamed B.named
  have hK := hU.2.2.1
  have hT := hU.2.2.2
  have hG := md_G.start hU
  have hl := lv_entry ([.ref (base + 69), .int p1, .int p2, .int p3]) (n := 9) (Nat.le_of_ble_eq_true rfl)
  rw [lg_entry_eq]
  generalize (lg_sl ([.ref (base + 69), .int p1, .int p2, .int p3]) ++ List.replicate (9 - (lg_sl ([.ref (base + 69), .int p1, .int p2, .int p3])).length) Slot.unset).toArray = ls at hl ⊢
  have hl : lv_has ls 9 [(0, .ref (base + 69)), (1, .int p1), (2, .int p2), (3, .int p3)] := hl
  refine lv_aload_n hx hb dX12_fits_0 rfl (lv_at hl 0 rfl) ?_
  refine lv_iload_n hx hb dX12_fits_1 rfl (lv_at hl 1 rfl) ?_
  refine md_goi hG (md_runV (As := [.int p1]) (rest := []) hx hb hml hown hW hK hT hG (c_X12_canFit l D cy tx base  Z  K N M R J hZ hK69 hR69_25 hK81 hN81 hM81_0 p1) s_X12_486 ⟨rfl, rfl, ⟨Nat.le_of_ble_eq_true rfl, Nat.le_of_ble_eq_true rfl⟩, ⟨Nat.le_of_ble_eq_true rfl, Nat.le_of_ble_eq_true rfl⟩⟩ (Nat.lt_of_lt_of_le (by decide) hZ) hK69 (by decide) rfl rfl hl.1 rfl (Nat.le_of_ble_eq_true rfl) dX12_fits_2) (fun r u H locs hp hG => ?_)
  obtain ⟨rfl, rfl⟩ := hp
  have hG : md_G D cy base Z K N M R J s H locs := hG
  refine lv_if_eq (tgt := 28) hx hb dX12_fits_5 (by decide) (fun _ => ?_) (fun h => absurd h (by decide))
  refine lv_iconst (v := (-1)) hx hb dX12_fits_28 (by decide) ?_
  exact md_endi hx hb hr hlocks hK hT hG (⟨rfl, rfl⟩) dX12_fits_29
set_option maxRecDepth 100000 in
set_option maxHeartbeats 4000000 in
theorem c_X12_tells (l : Launch) (D : va_G) (cy : Nat → ClassId) (tx : (Nat → Nat) × (Nat → Nat)) (base Z : Nat) (K N : Nat → Nat) (M : Nat → Nat → Int32) (R : Nat → Nat → Option Nat) (J : Nat → Nat → Int64) (hZ : 104 ≤ Z) (hK69 : K 69 = 12) (hR69_25 : R 69 25 = some 81) (hK81 : K 81 = 14) (hN81 : N 81 = 226) (hM81_0 : M 81 0 = 0) (p1 : Int32) (p2 : Int32) : Met l yX12_tells [Cond.code yX12_tells cX12_tells 7 (some .int)] (md_rm 3 0 0) (va_Pc [.ref (base + 69), .int p1, .int p2] (md_U D cy tx base Z K N M R J)) (mQi D cy tx base (fun r u => r = (-1) ∧ u = (Z, K, N, M, R, J))) 0 0 (fun q => base ≤ q) := by
  refine Met.ofW (cc := cX12_tells) (maxL := 7) (ret := (some .int)) (by decide) rfl ?_
  intro p e s m args below meth c s₁ B hml hv
  have hW : ∀ w ∈ lw_tbl, goodWord w = true → w.before args s = true := fun w h g => hv.2.2.2.1.2.1 w h g _
  obtain ⟨rfl, hU⟩ := hv
  have hx := B.exec
  have hb := B.bytes
  have hr := B.returns
  have hlocks := B.notSynchronized
  have hown : s.vm.findClass RX12 = some m.cls := findClass_of_methodNamed B.named
  have hK := hU.2.2.1
  have hT := hU.2.2.2
  have hG := md_G.start hU
  have hl := lv_entry ([.ref (base + 69), .int p1, .int p2]) (n := 7) (Nat.le_of_ble_eq_true rfl)
  rw [lg_entry_eq]
  generalize (lg_sl ([.ref (base + 69), .int p1, .int p2]) ++ List.replicate (7 - (lg_sl ([.ref (base + 69), .int p1, .int p2])).length) Slot.unset).toArray = ls at hl ⊢
  have hl : lv_has ls 7 [(0, .ref (base + 69)), (1, .int p1), (2, .int p2)] := hl
  refine lv_aload_n hx hb dX12_tells_0 rfl (lv_at hl 0 rfl) ?_
  refine lv_iload_n hx hb dX12_tells_1 rfl (lv_at hl 1 rfl) ?_
  refine md_goi hG (md_runV (As := [.int p1]) (rest := []) hx hb hml hown hW hK hT hG (c_X12_canFit l D cy tx base  Z  K N M R J hZ hK69 hR69_25 hK81 hN81 hM81_0 p1) s_X12_486 ⟨rfl, rfl, ⟨Nat.le_of_ble_eq_true rfl, Nat.le_of_ble_eq_true rfl⟩, ⟨Nat.le_of_ble_eq_true rfl, Nat.le_of_ble_eq_true rfl⟩⟩ (Nat.lt_of_lt_of_le (by decide) hZ) hK69 (by decide) rfl rfl hl.1 rfl (Nat.le_of_ble_eq_true rfl) dX12_tells_2) (fun r u H locs hp hG => ?_)
  obtain ⟨rfl, rfl⟩ := hp
  have hG : md_G D cy base Z K N M R J s H locs := hG
  refine lv_if_eq (tgt := 18) hx hb dX12_tells_5 (by decide) (fun _ => ?_) (fun h => absurd h (by decide))
  refine lv_iconst (v := (-1)) hx hb dX12_tells_18 (by decide) ?_
  exact md_endi hx hb hr hlocks hK hT hG (⟨rfl, rfl⟩) dX12_tells_19
