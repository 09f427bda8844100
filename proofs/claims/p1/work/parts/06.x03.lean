set_option maxRecDepth 100000 in
set_option maxHeartbeats 4000000 in
theorem c_X11_mayThrow (l : Launch) (D : va_G) (cy : Nat → ClassId) (tx : (Nat → Nat) × (Nat → Nat)) (base Z : Nat) (K N : Nat → Nat) (M : Nat → Nat → Int32) (R : Nat → Nat → Option Nat) (J : Nat → Nat → Int64) (hZ : 104 ≤ Z) (hK0 : K 0 = 11) (hR0_3 : R 0 3 = some 4) (hK4 : K 4 = 10) (hM4_0 : M 4 0 = 0) (p1 : Int32) : Met l yX11_mayThrow [Cond.code yX11_mayThrow cX11_mayThrow 2 (some .boolean)] (md_rm 3 0 0) (va_Pc [.ref (base + 0), .int p1] (md_U D cy tx base Z K N M R J)) (mQi D cy tx base (fun r u => r = 0 ∧ u = (Z, K, N, M, R, J))) 0 0 (fun q => base ≤ q) := by
  refine Met.ofW (cc := cX11_mayThrow) (maxL := 2) (ret := (some .boolean)) (by decide) rfl ?_
  intro p e s m args below meth c s₁ B hml hv
  have hW : ∀ w ∈ lw_tbl, goodWord w = true → w.before args s = true := fun w h g => hv.2.2.2.1.2.1 w h g _
  obtain ⟨rfl, hU⟩ := hv
  have hx := B.exec
  have hb := B.bytes
  have hr := B.returns
  have hlocks := B.notSynchronized
  have hown : s.vm.findClass RX11 = some m.cls := findClass_of_methodNamed B.named
  have hK := hU.2.2.1
  have hT := hU.2.2.2
  have hG := md_G.start hU
  have hl := lv_entry ([.ref (base + 0), .int p1]) (n := 2) (Nat.le_of_ble_eq_true rfl)
  rw [lg_entry_eq]
  generalize (lg_sl ([.ref (base + 0), .int p1]) ++ List.replicate (2 - (lg_sl ([.ref (base + 0), .int p1])).length) Slot.unset).toArray = ls at hl ⊢
  have hl : lv_has ls 2 [(0, .ref (base + 0)), (1, .int p1)] := hl
  refine lv_aload_n hx hb dX11_mayThrow_0 rfl (lv_at hl 0 rfl) ?_
  refine md_getr hx hb hW hown hK hG f_X11_31_10 (Nat.lt_of_lt_of_le (by decide) hZ) hK0 (b := 4) hR0_3 dX11_mayThrow_1 ?_
  refine lv_iload_n hx hb dX11_mayThrow_4 rfl (lv_at hl 1 rfl) ?_
  refine md_goi hG (md_runV (As := [.int p1]) (rest := []) hx hb hml hown hW hK hT hG (c_X9_isSide l D cy tx base  Z  K N M R J hZ hK4 hM4_0 p1) s_X11_242 ⟨rfl, rfl, ⟨Nat.le_of_ble_eq_true rfl, Nat.le_of_ble_eq_true rfl⟩, ⟨Nat.le_of_ble_eq_true rfl, Nat.le_of_ble_eq_true rfl⟩⟩ (Nat.lt_of_lt_of_le (by decide) hZ) hK4 (by decide) rfl rfl hl.1 rfl (Nat.le_of_ble_eq_true rfl) dX11_mayThrow_5) (fun r u H locs hp hG => ?_)
  obtain ⟨rfl, rfl⟩ := hp
  have hG : md_G D cy base Z K N M R J s H locs := hG
  refine lv_if_eq (tgt := 33) hx hb dX11_mayThrow_8 (by decide) (fun _ => ?_) (fun h => absurd h (by decide))
  refine lv_iconst (v := 0) hx hb dX11_mayThrow_33 (by decide) ?_
  exact md_endz hx hb hr hlocks hK hT hG rfl (⟨rfl, rfl⟩) dX11_mayThrow_34
set_option maxRecDepth 100000 in
set_option maxHeartbeats 4000000 in
theorem c_X11_lose (l : Launch) (D : va_G) (cy : Nat → ClassId) (tx : (Nat → Nat) × (Nat → Nat)) (base Z : Nat) (K N : Nat → Nat) (M : Nat → Nat → Int32) (R : Nat → Nat → Option Nat) (J : Nat → Nat → Int64) (hZ : 104 ≤ Z) (hK0 : K 0 = 11) (hR0_3 : R 0 3 = some 4) (hK4 : K 4 = 10) (hM4_0 : M 4 0 = 0) (p1 : Int32) : Met l yX11_lose [Cond.code yX11_lose cX11_lose 2 (some .int)] (md_rm 4 0 0) (va_Pc [.ref (base + 0), .int p1] (md_U D cy tx base Z K N M R J)) (mQi D cy tx base (fun r u => r = (-1) ∧ u = (Z, K, N, M, R, J))) 0 0 (fun q => base ≤ q) := by
  refine Met.ofW (cc := cX11_lose) (maxL := 2) (ret := (some .int)) (by decide) rfl ?_
  intro p e s m args below meth c s₁ B hml hv
  have hW : ∀ w ∈ lw_tbl, goodWord w = true → w.before args s = true := fun w h g => hv.2.2.2.1.2.1 w h g _
  obtain ⟨rfl, hU⟩ := hv
  have hx := B.exec
  have hb := B.bytes
  have hr := B.returns
  have hlocks := B.notSynchronized
  have hown : s.vm.findClass RX11 = some m.cls := findClass_of_methodNamed B.named
  have hK := hU.2.2.1
  have hT := hU.2.2.2
  have hG := md_G.start hU
  have hl := lv_entry ([.ref (base + 0), .int p1]) (n := 2) (Nat.le_of_ble_eq_true rfl)
  rw [lg_entry_eq]
  generalize (lg_sl ([.ref (base + 0), .int p1]) ++ List.replicate (2 - (lg_sl ([.ref (base + 0), .int p1])).length) Slot.unset).toArray = ls at hl ⊢
  have hl : lv_has ls 2 [(0, .ref (base + 0)), (1, .int p1)] := hl
  refine lv_aload_n hx hb dX11_lose_0 rfl (lv_at hl 0 rfl) ?_
  refine lv_iload_n hx hb dX11_lose_1 rfl (lv_at hl 1 rfl) ?_
  refine md_goi hG (md_runV (As := [.int p1]) (rest := []) hx hb hml hown hW hK hT hG (c_X11_mayThrow l D cy tx base  Z  K N M R J hZ hK0 hR0_3 hK4 hM4_0 p1) s_X11_226 ⟨rfl, rfl, ⟨Nat.le_of_ble_eq_true rfl, Nat.le_of_ble_eq_true rfl⟩, ⟨Nat.le_of_ble_eq_true rfl, Nat.le_of_ble_eq_true rfl⟩⟩ (Nat.lt_of_lt_of_le (by decide) hZ) hK0 (by decide) rfl rfl hl.1 rfl (Nat.le_of_ble_eq_true rfl) dX11_lose_2) (fun r u H locs hp hG => ?_)
  obtain ⟨rfl, rfl⟩ := hp
  have hG : md_G D cy base Z K N M R J s H locs := hG
  refine lv_if_ne (tgt := 10) hx hb dX11_lose_5 (by decide) (fun h => absurd h (by decide)) (fun _ => ?_)
  refine lv_iconst (v := (-1)) hx hb dX11_lose_8 (by decide) ?_
  exact md_endi hx hb hr hlocks hK hT hG (⟨rfl, rfl⟩) dX11_lose_9
set_option maxRecDepth 100000 in
set_option maxHeartbeats 4000000 in
theorem c_X11_plan (l : Launch) (D : va_G) (cy : Nat → ClassId) (tx : (Nat → Nat) × (Nat → Nat)) (base Z : Nat) (K N : Nat → Nat) (M : Nat → Nat → Int32) (R : Nat → Nat → Option Nat) (J : Nat → Nat → Int64) (hZ : 104 ≤ Z) (hK0 : K 0 = 11) (hR0_3 : R 0 3 = some 4) (hK4 : K 4 = 10) (hM4_0 : M 4 0 = 0) (p1 : Int32) (p2 : Int32) (p3 : Int32) : Met l yX11_plan [Cond.code yX11_plan cX11_plan 5 (some .int)] (md_rm 4 0 0) (va_Pc [.ref (base + 0), .int p1, .int p2, .int p3] (md_U D cy tx base Z K N M R J)) (mQi D cy tx base (fun r u => r = (-1) ∧ u = (Z, K, N, M, R, J))) 0 0 (fun q => base ≤ q) := by
  refine Met.ofW (cc := cX11_plan) (maxL := 5) (ret := (some .int)) (by decide) rfl ?_
  intro p e s m args below meth c s₁ B hml hv
  have hW : ∀ w ∈ lw_tbl, goodWord w = true → w.before args s = true := fun w h g => hv.2.2.2.1.2.1 w h g _
  obtain ⟨rfl, hU⟩ := hv
  have hx := B.exec
  have hb := B.bytes
  have hr := B.returns
  have hlocks := B.notSynchronized
  have hown : s.vm.findClass RX11 = some m.cls := findClass_of_methodNamed B.named
  have hK := hU.2.2.1
  have hT := hU.2.2.2
  have hG := md_G.start hU
  have hl := lv_entry ([.ref (base + 0), .int p1, .int p2, .int p3]) (n := 5) (Nat.le_of_ble_eq_true rfl)
  rw [lg_entry_eq]
  generalize (lg_sl ([.ref (base + 0), .int p1, .int p2, .int p3]) ++ List.replicate (5 - (lg_sl ([.ref (base + 0), .int p1, .int p2, .int p3])).length) Slot.unset).toArray = ls at hl ⊢
  have hl : lv_has ls 5 [(0, .ref (base + 0)), (1, .int p1), (2, .int p2), (3, .int p3)] := hl
  refine lv_aload_n hx hb dX11_plan_0 rfl (lv_at hl 0 rfl) ?_
  refine lv_iload_n hx hb dX11_plan_1 rfl (lv_at hl 1 rfl) ?_
  refine md_goi hG (md_runV (As := [.int p1]) (rest := []) hx hb hml hown hW hK hT hG (c_X11_mayThrow l D cy tx base  Z  K N M R J hZ hK0 hR0_3 hK4 hM4_0 p1) s_X11_226 ⟨rfl, rfl, ⟨Nat.le_of_ble_eq_true rfl, Nat.le_of_ble_eq_true rfl⟩, ⟨Nat.le_of_ble_eq_true rfl, Nat.le_of_ble_eq_true rfl⟩⟩ (Nat.lt_of_lt_of_le (by decide) hZ) hK0 (by decide) rfl rfl hl.1 rfl (Nat.le_of_ble_eq_true rfl) dX11_plan_2) (fun r u H locs hp hG => ?_)
  obtain ⟨rfl, rfl⟩ := hp
  have hG : md_G D cy base Z K N M R J s H locs := hG
  refine lv_if_eq (tgt := 34) hx hb dX11_plan_5 (by decide) (fun _ => ?_) (fun h => absurd h (by decide))
  refine lv_iconst (v := 0) hx hb dX11_plan_34 (by decide) ?_
  refine lv_istore (lv' := [(4, .int 0), (0, .ref (base + 0)), (1, .int p1), (2, .int p2), (3, .int p3)]) hx hb dX11_plan_35 hl (by decide) rfl (fun ls hl => ?_)
  refine lv_iload hx hb dX11_plan_37 (lv_at hl 0 rfl) ?_
  refine lv_if_eq (tgt := 50) hx hb dX11_plan_39 (by decide) (fun _ => ?_) (fun h => absurd h (by decide))
  refine lv_iconst (v := (-1)) hx hb dX11_plan_50 (by decide) ?_
  exact md_endi hx hb hr hlocks hK hT hG (⟨rfl, rfl⟩) dX11_plan_51
set_option maxRecDepth 100000 in
set_option maxHeartbeats 4000000 in
theorem c_X11_spoilers (l : Launch) (D : va_G) (cy : Nat → ClassId) (tx : (Nat → Nat) × (Nat → Nat)) (base Z : Nat) (K N : Nat → Nat) (M : Nat → Nat → Int32) (R : Nat → Nat → Option Nat) (J : Nat → Nat → Int64) (hZ : 104 ≤ Z) (hK0 : K 0 = 11) (hR0_3 : R 0 3 = some 4) (hK4 : K 4 = 10) (hM4_0 : M 4 0 = 0) (p1 : Int32) : Met l yX11_spoilers [Cond.code yX11_spoilers cX11_spoilers 2 (some .int)] (md_rm 4 0 0) (va_Pc [.ref (base + 0), .int p1] (md_U D cy tx base Z K N M R J)) (mQi D cy tx base (fun r u => r = (-1) ∧ u = (Z, K, N, M, R, J))) 0 0 (fun q => base ≤ q) := by
  refine Met.ofW (cc := cX11_spoilers) (maxL := 2) (ret := (some .int)) (by decide) rfl ?_
  intro p e s m args below meth c s₁ B hml hv
  have hW : ∀ w ∈ lw_tbl, goodWord w = true → w.before args s = true := fun w h g => hv.2.2.2.1.2.1 w h g _
  obtain ⟨rfl, hU⟩ := hv
  have hx := B.exec
  have hb := B.bytes
  have hr := B.returns
  have hlocks := B.notSynchronized
  have hown : s.vm.findClass RX11 = some m.cls := findClass_of_methodNamed B.named
  have hK := hU.2.2.1
  have hT := hU.2.2.2
  have hG := md_G.start hU
  have hl := lv_entry ([.ref (base + 0), .int p1]) (n := 2) (Nat.le_of_ble_eq_true rfl)
  rw [lg_entry_eq]
  generalize (lg_sl ([.ref (base + 0), .int p1]) ++ List.replicate (2 - (lg_sl ([.ref (base + 0), .int p1])).length) Slot.unset).toArray = ls at hl ⊢
  have hl : lv_has ls 2 [(0, .ref (base + 0)), (1, .int p1)] := hl
  refine lv_aload_n hx hb dX11_spoilers_0 rfl (lv_at hl 0 rfl) ?_
  refine lv_iload_n hx hb dX11_spoilers_1 rfl (lv_at hl 1 rfl) ?_
  refine md_goi hG (md_runV (As := [.int p1]) (rest := []) hx hb hml hown hW hK hT hG (c_X11_mayThrow l D cy tx base  Z  K N M R J hZ hK0 hR0_3 hK4 hM4_0 p1) s_X11_226 ⟨rfl, rfl, ⟨Nat.le_of_ble_eq_true rfl, Nat.le_of_ble_eq_true rfl⟩, ⟨Nat.le_of_ble_eq_true rfl, Nat.le_of_ble_eq_true rfl⟩⟩ (Nat.lt_of_lt_of_le (by decide) hZ) hK0 (by decide) rfl rfl hl.1 rfl (Nat.le_of_ble_eq_true rfl) dX11_spoilers_2) (fun r u H locs hp hG => ?_)
  obtain ⟨rfl, rfl⟩ := hp
  have hG : md_G D cy base Z K N M R J s H locs := hG
  refine lv_if_ne (tgt := 10) hx hb dX11_spoilers_5 (by decide) (fun h => absurd h (by decide)) (fun _ => ?_)
  refine lv_iconst (v := (-1)) hx hb dX11_spoilers_8 (by decide) ?_
  exact md_endi hx hb hr hlocks hK hT hG (⟨rfl, rfl⟩) dX11_spoilers_9
set_option maxRecDepth 100000 in
set_option maxHeartbeats 4000000 in
theorem c_X11_sides (l : Launch) (D : va_G) (cy : Nat → ClassId) (tx : (Nat → Nat) × (Nat → Nat)) (base Z : Nat) (K N : Nat → Nat) (M : Nat → Nat → Int32) (R : Nat → Nat → Option Nat) (J : Nat → Nat → Int64) (hZ : 104 ≤ Z) (hK0 : K 0 = 11) (hR0_3 : R 0 3 = some 4) (hK4 : K 4 = 10) (hM4_0 : M 4 0 = 0) (p1 : Int32) (p2 : Int32) (p3 : Int32) : Met l yX11_sides [Cond.code yX11_sides cX11_sides 6 (some .int)] (md_rm 3 0 0) (va_Pc [.ref (base + 0), .int p1, .int p2, .int p3] (md_U D cy tx base Z K N M R J)) (mQi D cy tx base (fun r u => r = (-1000000) ∧ u = (Z, K, N, M, R, J))) 0 0 (fun q => base ≤ q) := by
  refine Met.ofW (cc := cX11_sides) (maxL := 6) (ret := (some .int)) (by decide) rfl ?_
  intro p e s m args below meth c s₁ B hml hv
  have hW : ∀ w ∈ lw_tbl, goodWord w = true → w.before args s = true := fun w h g => hv.2.2.2.1.2.1 w h g _
  obtain ⟨rfl, hU⟩ := hv
  have hx := B.exec
  have hb := B.bytes
  have hr := B.returns
  have hlocks := B.notSynchronized
  have hown : s.vm.findClass RX11 = some m.cls := findClass_of_methodNamed B.named
  have hK := hU.2.2.1
  have hT := hU.2.2.2
  have hG := md_G.start hU
  have hl := lv_entry ([.ref (base + 0), .int p1, .int p2, .int p3]) (n := 6) (Nat.le_of_ble_eq_true rfl)
  rw [lg_entry_eq]
  generalize (lg_sl ([.ref (base + 0), .int p1, .int p2, .int p3]) ++ List.replicate (6 - (lg_sl ([.ref (base + 0), .int p1, .int p2, .int p3])).length) Slot.unset).toArray = ls at hl ⊢
  have hl : lv_has ls 6 [(0, .ref (base + 0)), (1, .int p1), (2, .int p2), (3, .int p3)] := hl
  refine lv_aload_n hx hb dX11_sides_0 rfl (lv_at hl 0 rfl) ?_
  refine md_getr hx hb hW hown hK hG f_X11_31_10 (Nat.lt_of_lt_of_le (by decide) hZ) hK0 (b := 4) hR0_3 dX11_sides_1 ?_
  refine lv_iload_n hx hb dX11_sides_4 rfl (lv_at hl 1 rfl) ?_
  refine md_goi hG (md_runV (As := [.int p1]) (rest := []) hx hb hml hown hW hK hT hG (c_X9_isSide l D cy tx base  Z  K N M R J hZ hK4 hM4_0 p1) s_X11_242 ⟨rfl, rfl, ⟨Nat.le_of_ble_eq_true rfl, Nat.le_of_ble_eq_true rfl⟩, ⟨Nat.le_of_ble_eq_true rfl, Nat.le_of_ble_eq_true rfl⟩⟩ (Nat.lt_of_lt_of_le (by decide) hZ) hK4 (by decide) rfl rfl hl.1 rfl (Nat.le_of_ble_eq_true rfl) dX11_sides_5) (fun r u H locs hp hG => ?_)
  obtain ⟨rfl, rfl⟩ := hp
  have hG : md_G D cy base Z K N M R J s H locs := hG
  refine lv_if_eq (tgt := 32) hx hb dX11_sides_8 (by decide) (fun _ => ?_) (fun h => absurd h (by decide))
  refine lv_iconst (v := 0) hx hb dX11_sides_32 (by decide) ?_
  refine lv_istore (lv' := [(4, .int 0), (0, .ref (base + 0)), (1, .int p1), (2, .int p2), (3, .int p3)]) hx hb dX11_sides_33 hl (by decide) rfl (fun ls hl => ?_)
  refine lv_iload hx hb dX11_sides_35 (lv_at hl 0 rfl) ?_
  refine lv_if_eq (tgt := 59) hx hb dX11_sides_37 (by decide) (fun _ => ?_) (fun h => absurd h (by decide))
  refine lv_ldc hx hb hown (hW _ w_4_221 rfl) dX11_sides_59 ?_
  exact md_endi hx hb hr hlocks hK hT hG (⟨rfl, rfl⟩) dX11_sides_61
set_option maxRecDepth 100000 in
set_option maxHeartbeats 4000000 in
theorem c_X11_chair (l : Launch) (D : va_G) (cy : Nat → ClassId) (tx : (Nat → Nat) × (Nat → Nat)) (base Z : Nat) (K N : Nat → Nat) (M : Nat → Nat → Int32) (R : Nat → Nat → Option Nat) (J : Nat → Nat → Int64) (hZ : 104 ≤ Z) (hK0 : K 0 = 11) (hR0_3 : R 0 3 = some 4) (hK4 : K 4 = 10) (hM4_7 : M 4 7 = 0) (hM4_0 : M 4 0 = 0) (p1 : Int32) (p2 : Int32) (p3 : Int32) : Met l yX11_chair [Cond.code yX11_chair cX11_chair 5 (some .int)] (md_rm 2 0 0) (va_Pc [.ref (base + 0), .int p1, .int p2, .int p3] (md_U D cy tx base Z K N M R J)) (mQi D cy tx base (fun r u => r = (-1000000) ∧ u = (Z, K, N, M, R, J))) 0 0 (fun q => base ≤ q) := by
  refine Met.ofW (cc := cX11_chair) (maxL := 5) (ret := (some .int)) (by decide) rfl ?_
  intro p e s m args below meth c s₁ B hml hv
  have hW : ∀ w ∈ lw_tbl, goodWord w = true → w.before args s = true := fun w h g => hv.2.2.2.1.2.1 w h g _
  obtain ⟨rfl, hU⟩ := hv
  have hx := B.exec
  have hb := B.bytes
  have hr := B.returns
  have hlocks := B.notSynchronized
  have hown : s.vm.findClass RX11 = some m.cls := findClass_of_methodNamed B.named
  have hK := hU.2.2.1
  have hT := hU.2.2.2
  have hG := md_G.start hU
  have hl := lv_entry ([.ref (base + 0), .int p1, .int p2, .int p3]) (n := 5) (Nat.le_of_ble_eq_true rfl)
  rw [lg_entry_eq]
  generalize (lg_sl ([.ref (base + 0), .int p1, .int p2, .int p3]) ++ List.replicate (5 - (lg_sl ([.ref (base + 0), .int p1, .int p2, .int p3])).length) Slot.unset).toArray = ls at hl ⊢
  have hl : lv_has ls 5 [(0, .ref (base + 0)), (1, .int p1), (2, .int p2), (3, .int p3)] := hl
  refine lv_aload_n hx hb dX11_chair_0 rfl (lv_at hl 0 rfl) ?_
  refine md_getr hx hb hW hown hK hG f_X11_31_10 (Nat.lt_of_lt_of_le (by decide) hZ) hK0 (b := 4) hR0_3 dX11_chair_1 ?_
  refine md_geti hx hb hW hown hK hG f_X11_202_9 (Nat.lt_of_lt_of_le (by decide) hZ) hK4 (v := 0) hM4_7 dX11_chair_4 ?_
  refine lv_iconst (v := 1) hx hb dX11_chair_7 (by decide) ?_
  refine lv_icmp_lt (tgt := 27) hx hb dX11_chair_8 (by decide) (fun _ => ?_) (fun h => absurd h (by decide))
  refine lv_iconst (v := 0) hx hb dX11_chair_27 (by decide) ?_
  refine lv_istore (lv' := [(4, .int 0), (0, .ref (base + 0)), (1, .int p1), (2, .int p2), (3, .int p3)]) hx hb dX11_chair_28 hl (by decide) rfl (fun ls hl => ?_)
  refine lv_aload_n hx hb dX11_chair_30 rfl (lv_at hl 1 rfl) ?_
  refine md_getr hx hb hW hown hK hG f_X11_31_10 (Nat.lt_of_lt_of_le (by decide) hZ) hK0 (b := 4) hR0_3 dX11_chair_31 ?_
  refine lv_iload_n hx hb dX11_chair_34 rfl (lv_at hl 2 rfl) ?_
  refine md_goi hG (md_runV (As := [.int p1]) (rest := []) hx hb hml hown hW hK hT hG (c_X9_hasMember l D cy tx base  Z  K N M R J hZ hK4 hM4_0 p1) s_X11_132 ⟨rfl, rfl, ⟨Nat.le_of_ble_eq_true rfl, Nat.le_of_ble_eq_true rfl⟩, ⟨Nat.le_of_ble_eq_true rfl, Nat.le_of_ble_eq_true rfl⟩⟩ (Nat.lt_of_lt_of_le (by decide) hZ) hK4 (by decide) rfl rfl hl.1 rfl (Nat.le_of_ble_eq_true rfl) dX11_chair_35) (fun r u H locs hp hG => ?_)
  obtain ⟨rfl, rfl⟩ := hp
  have hG : md_G D cy base Z K N M R J s H locs := hG
  refine lv_if_eq (tgt := 61) hx hb dX11_chair_38 (by decide) (fun _ => ?_) (fun h => absurd h (by decide))
  refine lv_ldc hx hb hown (hW _ w_4_221 rfl) dX11_chair_61 ?_
  exact md_endi hx hb hr hlocks hK hT hG (⟨rfl, rfl⟩) dX11_chair_63
set_option maxRecDepth 100000 in
set_option maxHeartbeats 4000000 in
theorem c_X11_rounds (l : Launch) (D : va_G) (cy : Nat → ClassId) (tx : (Nat → Nat) × (Nat → Nat)) (base Z : Nat) (K N : Nat → Nat) (M : Nat → Nat → Int32) (R : Nat → Nat → Option Nat) (J : Nat → Nat → Int64) (hZ : 104 ≤ Z) (hK0 : K 0 = 11) (hR0_3 : R 0 3 = some 4) (hK4 : K 4 = 10) (hM4_7 : M 4 7 = 0) (p1 : Int32) : Met l yX11_rounds [Cond.code yX11_rounds cX11_rounds 2 (some .int)] (md_rm 1 0 0) (va_Pc [.ref (base + 0), .int p1] (md_U D cy tx base Z K N M R J)) (mQi D cy tx base (fun r u => r = (-1) ∧ u = (Z, K, N, M, R, J))) 0 0 (fun q => base ≤ q) := by
  refine Met.ofW (cc := cX11_rounds) (maxL := 2) (ret := (some .int)) (by decide) rfl ?_
  intro p e s m args below meth c s₁ B hml hv
  have hW : ∀ w ∈ lw_tbl, goodWord w = true → w.before args s = true := fun w h g => hv.2.2.2.1.2.1 w h g _
  obtain ⟨rfl, hU⟩ := hv
  have hx := B.exec
  have hb := B.bytes
  have hr := B.returns
  have hlocks := B.notSynchronized
  have hown : s.vm.findClass RX11 = some m.cls := findClass_of_methodNamed B.named
  have hK := hU.2.2.1
  have hT := hU.2.2.2
  have hG := md_G.start hU
  have hl := lv_entry ([.ref (base + 0), .int p1]) (n := 2) (Nat.le_of_ble_eq_true rfl)
  rw [lg_entry_eq]
  generalize (lg_sl ([.ref (base + 0), .int p1]) ++ List.replicate (2 - (lg_sl ([.ref (base + 0), .int p1])).length) Slot.unset).toArray = ls at hl ⊢
  have hl : lv_has ls 2 [(0, .ref (base + 0)), (1, .int p1)] := hl
  refine lv_aload_n hx hb dX11_rounds_0 rfl (lv_at hl 0 rfl) ?_
  refine md_getr hx hb hW hown hK hG f_X11_31_10 (Nat.lt_of_lt_of_le (by decide) hZ) hK0 (b := 4) hR0_3 dX11_rounds_1 ?_
  refine md_geti hx hb hW hown hK hG f_X11_202_9 (Nat.lt_of_lt_of_le (by decide) hZ) hK4 (v := 0) hM4_7 dX11_rounds_4 ?_
  refine lv_iconst (v := 1) hx hb dX11_rounds_7 (by decide) ?_
  refine lv_icmp_lt (tgt := 28) hx hb dX11_rounds_8 (by decide) (fun _ => ?_) (fun h => absurd h (by decide))
  refine lv_iconst (v := (-1)) hx hb dX11_rounds_28 (by decide) ?_
  exact md_endi hx hb hr hlocks hK hT hG (⟨rfl, rfl⟩) dX11_rounds_29
set_option maxRecDepth 100000 in
set_option maxHeartbeats 4000000 in
theorem c_X11_entry (l : Launch) (D : va_G) (cy : Nat → ClassId) (tx : (Nat → Nat) × (Nat → Nat)) (base Z : Nat) (K N : Nat → Nat) (M : Nat → Nat → Int32) (R : Nat → Nat → Option Nat) (J : Nat → Nat → Int64) (hZ : 104 ≤ Z) (hK0 : K 0 = 11) (hR0_3 : R 0 3 = some 4) (hK4 : K 4 = 10) (p2 : Int32) (p3 : Int32) (p4 : Int32) : Met l yX11_entry [Cond.code yX11_entry cX11_entry 6 (some .int)] (md_rm 1 0 0) (va_Pc [.ref (base + 0), .int (-1), .int p2, .int p3, .int p4] (md_U D cy tx base Z K N M R J)) (mQi D cy tx base (fun r u => r = 0 ∧ u = (Z, K, N, (u2 M 4 8 0), R, J))) 0 0 (fun q => base ≤ q) := by
  refine Met.ofW (cc := cX11_entry) (maxL := 6) (ret := (some .int)) (by decide) rfl ?_
  intro p e s m args below meth c s₁ B hml hv
  have hW : ∀ w ∈ lw_tbl, goodWord w = true → w.before args s = true := fun w h g => hv.2.2.2.1.2.1 w h g _
  obtain ⟨rfl, hU⟩ := hv
  have hx := B.exec
  have hb := B.bytes
  have hr := B.returns
  have hlocks := B.notSynchronized
  have hown : s.vm.findClass RX11 = some m.cls := findClass_of_methodNamed B.named
  have hK := hU.2.2.1
  have hT := hU.2.2.2
  have hG := md_G.start hU
  have hl := lv_entry ([.ref (base + 0), .int (-1), .int p2, .int p3, .int p4]) (n := 6) (Nat.le_of_ble_eq_true rfl)
  rw [lg_entry_eq]
  generalize (lg_sl ([.ref (base + 0), .int (-1), .int p2, .int p3, .int p4]) ++ List.replicate (6 - (lg_sl ([.ref (base + 0), .int (-1), .int p2, .int p3, .int p4])).length) Slot.unset).toArray = ls at hl ⊢
  have hl : lv_has ls 6 [(0, .ref (base + 0)), (1, .int (-1)), (2, .int p2), (3, .int p3), (4, .int p4)] := hl
  refine lv_iload_n hx hb dX11_entry_0 rfl (lv_at hl 1 rfl) ?_
  refine lv_iconst (v := (-1)) hx hb dX11_entry_1 (by decide) ?_
  refine lv_icmp_ne (tgt := 15) hx hb dX11_entry_2 (by decide) (fun h => absurd h (by decide)) (fun _ => ?_)
  refine lv_aload_n hx hb dX11_entry_5 rfl (lv_at hl 0 rfl) ?_
  refine md_getr hx hb hW hown hK hG f_X11_31_10 (Nat.lt_of_lt_of_le (by decide) hZ) hK0 (b := 4) hR0_3 dX11_entry_6 ?_
  refine lv_iconst (v := 0) hx hb dX11_entry_9 (by decide) ?_
  refine md_puti hx hb hW hown hK hG f_X11_276_9 (Nat.lt_of_lt_of_le (by decide) hZ) hK4 rfl rfl dX11_entry_10 (fun H locs hG => ?_)
  refine lv_iconst (v := 0) hx hb dX11_entry_13 (by decide) ?_
  exact md_endi hx hb hr hlocks hK hT hG (⟨rfl, rfl⟩) dX11_entry_14
set_option maxRecDepth 100000 in
set_option maxHeartbeats 4000000 in
theorem c_X11_entry_2 (l : Launch) (D : va_G) (cy : Nat → ClassId) (tx : (Nat → Nat) × (Nat → Nat)) (base Z : Nat) (K N : Nat → Nat) (M : Nat → Nat → Int32) (R : Nat → Nat → Option Nat) (J : Nat → Nat → Int64) (hZ : 104 ≤ Z) (hK0 : K 0 = 11) (hR0_3 : R 0 3 = some 4) (hK4 : K 4 = 10) (hM4_0 : M 4 0 = 0) (hR0_2 : R 0 2 = some 2) (hK2 : K 2 = 14) (hN2 : N 2 = 2) (hM2_0 : M 2 0 = 0) (p1 : Int32) (p2 : Int32) (p3 : Int32) (p4 : Int32) (h1 : ¬ p1 = (-1)) : Met l yX11_entry [Cond.code yX11_entry cX11_entry 6 (some .int)] (md_rm 2 0 0) (va_Pc [.ref (base + 0), .int p1, .int p2, .int p3, .int p4] (md_U D cy tx base Z K N M R J)) (mQi D cy tx base (fun r u => r = (-2) ∧ u = (Z, K, N, (u2 M 2 0 1), R, J))) 0 0 (fun q => base ≤ q) := by
  refine Met.ofW (cc := cX11_entry) (maxL := 6) (ret := (some .int)) (by decide) rfl ?_
  intro p e s m args below meth c s₁ B hml hv
  have hW : ∀ w ∈ lw_tbl, goodWord w = true → w.before args s = true := fun w h g => hv.2.2.2.1.2.1 w h g _
  obtain ⟨rfl, hU⟩ := hv
  have hx := B.exec
  have hb := B.bytes
  have hr := B.returns
  have hlocks := B.notSynchronized
  have hown : s.vm.findClass RX11 = some m.cls := findClass_of_methodNamed B.named
  have hK := hU.2.2.1
  have hT := hU.2.2.2
  have hG := md_G.start hU
  have hl := lv_entry ([.ref (base + 0), .int p1, .int p2, .int p3, .int p4]) (n := 6) (Nat.le_of_ble_eq_true rfl)
  rw [lg_entry_eq]
  generalize (lg_sl ([.ref (base + 0), .int p1, .int p2, .int p3, .int p4]) ++ List.replicate (6 - (lg_sl ([.ref (base + 0), .int p1, .int p2, .int p3, .int p4])).length) Slot.unset).toArray = ls at hl ⊢
  have hl : lv_has ls 6 [(0, .ref (base + 0)), (1, .int p1), (2, .int p2), (3, .int p3), (4, .int p4)] := hl
  refine lv_iload_n hx hb dX11_entry_0 rfl (lv_at hl 1 rfl) ?_
  refine lv_iconst (v := (-1)) hx hb dX11_entry_1 (by decide) ?_
  refine lv_icmp_ne (tgt := 15) hx hb dX11_entry_2 (by decide) (fun _ => ?_) (fun h => absurd h h1)
  refine lv_aload_n hx hb dX11_entry_15 rfl (lv_at hl 0 rfl) ?_
  refine md_getr hx hb hW hown hK hG f_X11_31_10 (Nat.lt_of_lt_of_le (by decide) hZ) hK0 (b := 4) hR0_3 dX11_entry_16 ?_
  refine lv_iload_n hx hb dX11_entry_19 rfl (lv_at hl 1 rfl) ?_
  refine md_goi hG (md_runV (As := [.int p1]) (rest := []) hx hb hml hown hW hK hT hG (c_X9_hasSet l D cy tx base  Z  K N M R J hZ hK4 hM4_0 p1) s_X11_199 ⟨rfl, rfl, ⟨Nat.le_of_ble_eq_true rfl, Nat.le_of_ble_eq_true rfl⟩, ⟨Nat.le_of_ble_eq_true rfl, Nat.le_of_ble_eq_true rfl⟩⟩ (Nat.lt_of_lt_of_le (by decide) hZ) hK4 (by decide) rfl rfl hl.1 rfl (Nat.le_of_ble_eq_true rfl) dX11_entry_20) (fun r u H locs hp hG => ?_)
  obtain ⟨rfl, rfl⟩ := hp
  have hG : md_G D cy base Z K N M R J s H locs := hG
  refine lv_if_eq (tgt := 47) hx hb dX11_entry_23 (by decide) (fun _ => ?_) (fun h => absurd h (by decide))
  refine lv_iconst (v := 0) hx hb dX11_entry_47 (by decide) ?_
  refine lv_istore (lv' := [(5, .int 0), (0, .ref (base + 0)), (1, .int p1), (2, .int p2), (3, .int p3), (4, .int p4)]) hx hb dX11_entry_48 hl (by decide) rfl (fun ls hl => ?_)
  refine lv_iload hx hb dX11_entry_50 (lv_at hl 0 rfl) ?_
  refine lv_if_eq (tgt := 70) hx hb dX11_entry_52 (by decide) (fun _ => ?_) (fun h => absurd h (by decide))
  refine lv_aload_n hx hb dX11_entry_70 rfl (lv_at hl 1 rfl) ?_
  refine lv_iconst (v := 0) hx hb dX11_entry_71 (by decide) ?_
  refine md_goi hG (md_runV (As := [.int 0]) (rest := []) hx hb hml hown hW hK hT hG (c_X11_refuse l D cy tx base  Z  K N M R J hZ hK0 hR0_2 hK2 hN2 hM2_0 ) s_X11_158 ⟨rfl, rfl, ⟨Nat.le_of_ble_eq_true rfl, Nat.le_of_ble_eq_true rfl⟩, ⟨Nat.le_of_ble_eq_true rfl, Nat.le_of_ble_eq_true rfl⟩⟩ (Nat.lt_of_lt_of_le (by decide) hZ) hK0 (by decide) rfl rfl hl.1 rfl (Nat.le_of_ble_eq_true rfl) dX11_entry_72) (fun r u H locs hp hG => ?_)
  obtain ⟨rfl, rfl⟩ := hp
  have hG : md_G D cy base Z K N (u2 M 2 0 1) R J s H locs := hG
  exact md_endi hx hb hr hlocks hK hT hG (⟨rfl, rfl⟩) dX11_entry_75
set_option maxRecDepth 100000 in
set_option maxHeartbeats 4000000 in
theorem c_X11_isForBooks (l : Launch) (D : va_G) (cy : Nat → ClassId) (tx : (Nat → Nat) × (Nat → Nat)) (base Z : Nat) (K N : Nat → Nat) (M : Nat → Nat → Int32) (R : Nat → Nat → Option Nat) (J : Nat → Nat → Int64) (hZ : 104 ≤ Z) (hK0 : K 0 = 11) (hR0_3 : R 0 3 = some 4) (hK4 : K 4 = 10) (hM4_0 : M 4 0 = 0) (p1 : Int32) : Met l yX11_isForBooks [Cond.code yX11_isForBooks cX11_isForBooks 2 (some .boolean)] (md_rm 2 0 0) (va_Pc [.ref (base + 0), .int p1] (md_U D cy tx base Z K N M R J)) (mQi D cy tx base (fun r u => r = 0 ∧ u = (Z, K, N, M, R, J))) 0 0 (fun q => base ≤ q) := by
  refine Met.ofW (cc := cX11_isForBooks) (maxL := 2) (ret := (some .boolean)) (by decide) rfl ?_
  intro p e s m args below meth c s₁ B hml hv
  have hW : ∀ w ∈ lw_tbl, goodWord w = true → w.before args s = true := fun w h g => hv.2.2.2.1.2.1 w h g _
  obtain ⟨rfl, hU⟩ := hv
  have hx := B.exec
  have hb := B.bytes
  have hr := B.returns
  have hlocks := B.notSynchronized
  have hown : s.vm.findClass RX11 = some m.cls := findClass_of_methodNamed B.named
  have hK := hU.2.2.1
  have hT := hU.2.2.2
  have hG := md_G.start hU
  have hl := lv_entry ([.ref (base + 0), .int p1]) (n := 2) (Nat.le_of_ble_eq_true rfl)
  rw [lg_entry_eq]
  generalize (lg_sl ([.ref (base + 0), .int p1]) ++ List.replicate (2 - (lg_sl ([.ref (base + 0), .int p1])).length) Slot.unset).toArray = ls at hl ⊢
  have hl : lv_has ls 2 [(0, .ref (base + 0)), (1, .int p1)] := hl
  refine lv_aload_n hx hb dX11_isForBooks_0 rfl (lv_at hl 0 rfl) ?_
  refine md_getr hx hb hW hown hK hG f_X11_31_10 (Nat.lt_of_lt_of_le (by decide) hZ) hK0 (b := 4) hR0_3 dX11_isForBooks_1 ?_
  refine md_goi hG (md_runV (As := []) (rest := []) hx hb hml hown hW hK hT hG (c_X9_hasCouncil l D cy tx base  Z  K N M R J hZ hK4 hM4_0 ) s_X11_170 ⟨rfl, rfl, ⟨Nat.le_of_ble_eq_true rfl, Nat.le_of_ble_eq_true rfl⟩, ⟨Nat.le_of_ble_eq_true rfl, Nat.le_of_ble_eq_true rfl⟩⟩ (Nat.lt_of_lt_of_le (by decide) hZ) hK4 (by decide) rfl rfl hl.1 rfl (Nat.le_of_ble_eq_true rfl) dX11_isForBooks_4) (fun r u H locs hp hG => ?_)
  obtain ⟨rfl, rfl⟩ := hp
  have hG : md_G D cy base Z K N M R J s H locs := hG
  refine lv_if_eq (tgt := 36) hx hb dX11_isForBooks_7 (by decide) (fun _ => ?_) (fun h => absurd h (by decide))
  refine lv_iconst (v := 0) hx hb dX11_isForBooks_36 (by decide) ?_
  exact md_endz hx hb hr hlocks hK hT hG rfl (⟨rfl, rfl⟩) dX11_isForBooks_37
set_option maxRecDepth 100000 in
set_option maxHeartbeats 4000000 in
theorem c_X11_fits (l : Launch) (D : va_G) (cy : Nat → ClassId) (tx : (Nat → Nat) × (Nat → Nat)) (base Z : Nat) (K N : Nat → Nat) (M : Nat → Nat → Int32) (R : Nat → Nat → Option Nat) (J : Nat → Nat → Int64) (hZ : 104 ≤ Z) (hK0 : K 0 = 11) (hR0_3 : R 0 3 = some 4) (hK4 : K 4 = 10) (hM4_0 : M 4 0 = 0) (p1 : Int32) (p2 : Int32) (p3 : Int32) : Met l yX11_fits [Cond.code yX11_fits cX11_fits 4 (some .int)] (md_rm 3 0 0) (va_Pc [.ref (base + 0), .int p1, .int p2, .int p3] (md_U D cy tx base Z K N M R J)) (mQi D cy tx base (fun r u => r = (-1) ∧ u = (Z, K, N, M, R, J))) 0 0 (fun q => base ≤ q) := by
  refine Met.ofW (cc := cX11_fits) (maxL := 4) (ret := (some .int)) (by decide) rfl ?_
  intro p e s m args below meth c s₁ B hml hv
  have hW : ∀ w ∈ lw_tbl, goodWord w = true → w.before args s = true := fun w h g => hv.2.2.2.1.2.1 w h g _
  obtain ⟨rfl, hU⟩ := hv
  have hx := B.exec
  have hb := B.bytes
  have hr := B.returns
  have hlocks := B.notSynchronized
  have hown : s.vm.findClass RX11 = some m.cls := findClass_of_methodNamed B.named
  have hK := hU.2.2.1
  have hT := hU.2.2.2
  have hG := md_G.start hU
  have hl := lv_entry ([.ref (base + 0), .int p1, .int p2, .int p3]) (n := 4) (Nat.le_of_ble_eq_true rfl)
  rw [lg_entry_eq]
  generalize (lg_sl ([.ref (base + 0), .int p1, .int p2, .int p3]) ++ List.replicate (4 - (lg_sl ([.ref (base + 0), .int p1, .int p2, .int p3])).length) Slot.unset).toArray = ls at hl ⊢
  have hl : lv_has ls 4 [(0, .ref (base + 0)), (1, .int p1), (2, .int p2), (3, .int p3)] := hl
  refine lv_aload_n hx hb dX11_fits_0 rfl (lv_at hl 0 rfl) ?_
  refine lv_iload_n hx hb dX11_fits_1 rfl (lv_at hl 1 rfl) ?_
  refine md_goi hG (md_runV (As := [.int p1]) (rest := []) hx hb hml hown hW hK hT hG (c_X11_isForBooks l D cy tx base  Z  K N M R J hZ hK0 hR0_3 hK4 hM4_0 p1) s_X11_287 ⟨rfl, rfl, ⟨Nat.le_of_ble_eq_true rfl, Nat.le_of_ble_eq_true rfl⟩, ⟨Nat.le_of_ble_eq_true rfl, Nat.le_of_ble_eq_true rfl⟩⟩ (Nat.lt_of_lt_of_le (by decide) hZ) hK0 (by decide) rfl rfl hl.1 rfl (Nat.le_of_ble_eq_true rfl) dX11_fits_2) (fun r u H locs hp hG => ?_)
  obtain ⟨rfl, rfl⟩ := hp
  have hG : md_G D cy base Z K N M R J s H locs := hG
  refine lv_if_eq (tgt := 28) hx hb dX11_fits_5 (by decide) (fun _ => ?_) (fun h => absurd h (by decide))
  refine lv_iconst (v := (-1)) hx hb dX11_fits_28 (by decide) ?_
  exact md_endi hx hb hr hlocks hK hT hG (⟨rfl, rfl⟩) dX11_fits_29
set_option maxRecDepth 100000 in
set_option maxHeartbeats 4000000 in
theorem c_X11_tells (l : Launch) (D : va_G) (cy : Nat → ClassId) (tx : (Nat → Nat) × (Nat → Nat)) (base Z : Nat) (K N : Nat → Nat) (M : Nat → Nat → Int32) (R : Nat → Nat → Option Nat) (J : Nat → Nat → Int64) (hZ : 104 ≤ Z) (hK0 : K 0 = 11) (hR0_3 : R 0 3 = some 4) (hK4 : K 4 = 10) (hM4_0 : M 4 0 = 0) (p1 : Int32) (p2 : Int32) : Met l yX11_tells [Cond.code yX11_tells cX11_tells 3 (some .int)] (md_rm 3 0 0) (va_Pc [.ref (base + 0), .int p1, .int p2] (md_U D cy tx base Z K N M R J)) (mQi D cy tx base (fun r u => r = (-1) ∧ u = (Z, K, N, M, R, J))) 0 0 (fun q => base ≤ q) := by
  refine Met.ofW (cc := cX11_tells) (maxL := 3) (ret := (some .int)) (by decide) rfl ?_
  intro p e s m args below meth c s₁ B hml hv
  have hW : ∀ w ∈ lw_tbl, goodWord w = true → w.before args s = true := fun w h g => hv.2.2.2.1.2.1 w h g _
  obtain ⟨rfl, hU⟩ := hv
  have hx := B.exec
  have hb := B.bytes
  have hr := B.returns
  have hlocks := B.notSynchronized
  have hown : s.vm.findClass RX11 = some m.cls := findClass_of_methodNamed B.named
  have hK := hU.2.2.1
  have hT := hU.2.2.2
  have hG := md_G.start hU
  have hl := lv_entry ([.ref (base + 0), .int p1, .int p2]) (n := 3) (Nat.le_of_ble_eq_true rfl)
  rw [lg_entry_eq]
  generalize (lg_sl ([.ref (base + 0), .int p1, .int p2]) ++ List.replicate (3 - (lg_sl ([.ref (base + 0), .int p1, .int p2])).length) Slot.unset).toArray = ls at hl ⊢
  have hl : lv_has ls 3 [(0, .ref (base + 0)), (1, .int p1), (2, .int p2)] := hl
  refine lv_aload_n hx hb dX11_tells_0 rfl (lv_at hl 0 rfl) ?_
  refine lv_iload_n hx hb dX11_tells_1 rfl (lv_at hl 1 rfl) ?_
  refine md_goi hG (md_runV (As := [.int p1]) (rest := []) hx hb hml hown hW hK hT hG (c_X11_isForBooks l D cy tx base  Z  K N M R J hZ hK0 hR0_3 hK4 hM4_0 p1) s_X11_287 ⟨rfl, rfl, ⟨Nat.le_of_ble_eq_true rfl, Nat.le_of_ble_eq_true rfl⟩, ⟨Nat.le_of_ble_eq_true rfl, Nat.le_of_ble_eq_true rfl⟩⟩ (Nat.lt_of_lt_of_le (by decide) hZ) hK0 (by decide) rfl rfl hl.1 rfl (Nat.le_of_ble_eq_true rfl) dX11_tells_2) (fun r u H locs hp hG => ?_)
  obtain ⟨rfl, rfl⟩ := hp
  have hG : md_G D cy base Z K N M R J s H locs := hG
  refine lv_if_eq (tgt := 17) hx hb dX11_tells_5 (by decide) (fun _ => ?_) (fun h => absurd h (by decide))
  refine lv_iconst (v := (-1)) hx hb dX11_tells_17 (by decide) ?_
  exact md_endi hx hb hr hlocks hK hT hG (⟨rfl, rfl⟩) dX11_tells_18
set_option maxRecDepth 100000 in
set_option maxHeartbeats 4000000 in
theorem c_X11_seed (l : Launch) (D : va_G) (cy : Nat → ClassId) (tx : (Nat → Nat) × (Nat → Nat)) (base Z : Nat) (K N : Nat → Nat) (M : Nat → Nat → Int32) (R : Nat → Nat → Option Nat) (J : Nat → Nat → Int64) (hZ : 104 ≤ Z) (hK0 : K 0 = 11) (hR0_2 : R 0 2 = some 2) (hK2 : K 2 = 14) (hN2 : N 2 = 2) (hM2_0 : M 2 0 = 0) (p1 : Int32) (h1 : ¬ 0 ≤ p1) : Met l yX11_seed [Cond.code yX11_seed cX11_seed 3 (some .int)] (md_rm 2 0 0) (va_Pc [.ref (base + 0), .int p1] (md_U D cy tx base Z K N M R J)) (mQi D cy tx base (fun r u => r = (-2) ∧ u = (Z, K, N, (u2 M 2 0 1), R, J))) 0 0 (fun q => base ≤ q) := by
  refine Met.ofW (cc := cX11_seed) (maxL := 3) (ret := (some .int)) (by decide) rfl ?_
  intro p e s m args below meth c s₁ B hml hv
  have hW : ∀ w ∈ lw_tbl, goodWord w = true → w.before args s = true := fun w h g => hv.2.2.2.1.2.1 w h g _
  obtain ⟨rfl, hU⟩ := hv
  have hx := B.exec
  have hb := B.bytes
  have hr := B.returns
  have hlocks := B.notSynchronized
  have hown : s.vm.findClass RX11 = some m.cls := findClass_of_methodNamed B.named
  have hK := hU.2.2.1
  have hT := hU.2.2.2
  have hG := md_G.start hU
  have hl := lv_entry ([.ref (base + 0), .int p1]) (n := 3) (Nat.le_of_ble_eq_true rfl)
  rw [lg_entry_eq]
  generalize (lg_sl ([.ref (base + 0), .int p1]) ++ List.replicate (3 - (lg_sl ([.ref (base + 0), .int p1])).length) Slot.unset).toArray = ls at hl ⊢
  have hl : lv_has ls 3 [(0, .ref (base + 0)), (1, .int p1)] := hl
  refine lv_iload_n hx hb dX11_seed_0 rfl (lv_at hl 1 rfl) ?_
  refine lv_if_ge (tgt := 10) hx hb dX11_seed_1 (by decide) (fun h => absurd h h1) (fun _ => ?_)
  refine lv_aload_n hx hb dX11_seed_4 rfl (lv_at hl 0 rfl) ?_
  refine lv_iconst (v := 0) hx hb dX11_seed_5 (by decide) ?_
  refine md_goi hG (md_runV (As := [.int 0]) (rest := []) hx hb hml hown hW hK hT hG (c_X11_refuse l D cy tx base  Z  K N M R J hZ hK0 hR0_2 hK2 hN2 hM2_0 ) s_X11_158 ⟨rfl, rfl, ⟨Nat.le_of_ble_eq_true rfl, Nat.le_of_ble_eq_true rfl⟩, ⟨Nat.le_of_ble_eq_true rfl, Nat.le_of_ble_eq_true rfl⟩⟩ (Nat.lt_of_lt_of_le (by decide) hZ) hK0 (by decide) rfl rfl hl.1 rfl (Nat.le_of_ble_eq_true rfl) dX11_seed_6) (fun r u H locs hp hG => ?_)
  obtain ⟨rfl, rfl⟩ := hp
  have hG : md_G D cy base Z K N (u2 M 2 0 1) R J s H locs := hG
  exact md_endi hx hb hr hlocks hK hT hG (⟨rfl, rfl⟩) dX11_seed_9
set_option maxRecDepth 100000 in
set_option maxHeartbeats 4000000 in
theorem c_X11_seed_2 (l : Launch) (D : va_G) (cy : Nat → ClassId) (tx : (Nat → Nat) × (Nat → Nat)) (base Z : Nat) (K N : Nat → Nat) (M : Nat → Nat → Int32) (R : Nat → Nat → Option Nat) (J : Nat → Nat → Int64) (hZ : 104 ≤ Z) (hK0 : K 0 = 11) (hR0_3 : R 0 3 = some 4) (hK4 : K 4 = 10) (hM4_6 : M 4 6 = 0) (p1 : Int32) (h1 : 0 ≤ p1) : Met l yX11_seed [Cond.code yX11_seed cX11_seed 3 (some .int)] (md_rm 1 0 0) (va_Pc [.ref (base + 0), .int p1] (md_U D cy tx base Z K N M R J)) (mQi D cy tx base (fun r u => r = 0 ∧ u = (Z, K, N, (u2 M 4 6 p1), R, J))) 0 0 (fun q => base ≤ q) := by
  refine Met.ofW (cc := cX11_seed) (maxL := 3) (ret := (some .int)) (by decide) rfl ?_
  intro p e s m args below meth c s₁ B hml hv
  have hW : ∀ w ∈ lw_tbl, goodWord w = true → w.before args s = true := fun w h g => hv.2.2.2.1.2.1 w h g _
  obtain ⟨rfl, hU⟩ := hv
  have hx := B.exec
  have hb := B.bytes
  have hr := B.returns
  have hlocks := B.notSynchronized
  have hown : s.vm.findClass RX11 = some m.cls := findClass_of_methodNamed B.named
  have hK := hU.2.2.1
  have hT := hU.2.2.2
  have hG := md_G.start hU
  have hl := lv_entry ([.ref (base + 0), .int p1]) (n := 3) (Nat.le_of_ble_eq_true rfl)
  rw [lg_entry_eq]
  generalize (lg_sl ([.ref (base + 0), .int p1]) ++ List.replicate (3 - (lg_sl ([.ref (base + 0), .int p1])).length) Slot.unset).toArray = ls at hl ⊢
  have hl : lv_has ls 3 [(0, .ref (base + 0)), (1, .int p1)] := hl
  refine lv_iload_n hx hb dX11_seed_0 rfl (lv_at hl 1 rfl) ?_
  refine lv_if_ge (tgt := 10) hx hb dX11_seed_1 (by decide) (fun _ => ?_) (fun h => absurd h1 h)
  refine lv_aload_n hx hb dX11_seed_10 rfl (lv_at hl 0 rfl) ?_
  refine md_getr hx hb hW hown hK hG f_X11_31_10 (Nat.lt_of_lt_of_le (by decide) hZ) hK0 (b := 4) hR0_3 dX11_seed_11 ?_
  refine md_geti hx hb hW hown hK hG f_X11_106_9 (Nat.lt_of_lt_of_le (by decide) hZ) hK4 (v := 0) hM4_6 dX11_seed_14 ?_
  refine lv_istore_n (lv' := [(2, .int 0), (0, .ref (base + 0)), (1, .int p1)]) hx hb dX11_seed_17 rfl hl (by decide) rfl (fun ls hl => ?_)
  refine lv_aload_n hx hb dX11_seed_18 rfl (lv_at hl 1 rfl) ?_
  refine md_getr hx hb hW hown hK hG f_X11_31_10 (Nat.lt_of_lt_of_le (by decide) hZ) hK0 (b := 4) hR0_3 dX11_seed_19 ?_
  refine lv_iload_n hx hb dX11_seed_22 rfl (lv_at hl 2 rfl) ?_
  refine md_puti hx hb hW hown hK hG f_X11_106_9 (Nat.lt_of_lt_of_le (by decide) hZ) hK4 rfl rfl dX11_seed_23 (fun H locs hG => ?_)
  refine lv_iload_n hx hb dX11_seed_26 rfl (lv_at hl 0 rfl) ?_
  exact md_endi hx hb hr hlocks hK hT hG (⟨rfl, rfl⟩) dX11_seed_27
set_option maxRecDepth 100000 in
set_option maxHeartbeats 4000000 in
theorem c_X11_year (l : Launch) (D : va_G) (cy : Nat → ClassId) (tx : (Nat → Nat) × (Nat → Nat)) (base Z : Nat) (K N : Nat → Nat) (M : Nat → Nat → Int32) (R : Nat → Nat → Option Nat) (J : Nat → Nat → Int64) (hZ : 104 ≤ Z) (hK0 : K 0 = 11) (hR0_3 : R 0 3 = some 4) (hK4 : K 4 = 10) (hM4_0 : M 4 0 = 0) (p1 : Int32) (p2 : Int32) (p3 : Int32) : Met l yX11_year [Cond.code yX11_year cX11_year 5 (some .int)] (md_rm 2 0 0) (va_Pc [.ref (base + 0), .int p1, .int p2, .int p3] (md_U D cy tx base Z K N M R J)) (mQi D cy tx base (fun r u => r = (-1000000) ∧ u = (Z, K, N, M, R, J))) 0 0 (fun q => base ≤ q) := by
  refine Met.ofW (cc := cX11_year) (maxL := 5) (ret := (some .int)) (by decide) rfl ?_
  intro p e s m args below meth c s₁ B hml hv
  have hW : ∀ w ∈ lw_tbl, goodWord w = true → w.before args s = true := fun w h g => hv.2.2.2.1.2.1 w h g _
  obtain ⟨rfl, hU⟩ := hv
  have hx := B.exec
  have hb := B.bytes
  have hr := B.returns
  have hlocks := B.notSynchronized
  have hown : s.vm.findClass RX11 = some m.cls := findClass_of_methodNamed B.named
  have hK := hU.2.2.1
  have hT := hU.2.2.2
  have hG := md_G.start hU
  have hl := lv_entry ([.ref (base + 0), .int p1, .int p2, .int p3]) (n := 5) (Nat.le_of_ble_eq_true rfl)
  rw [lg_entry_eq]
  generalize (lg_sl ([.ref (base + 0), .int p1, .int p2, .int p3]) ++ List.replicate (5 - (lg_sl ([.ref (base + 0), .int p1, .int p2, .int p3])).length) Slot.unset).toArray = ls at hl ⊢
  have hl : lv_has ls 5 [(0, .ref (base + 0)), (1, .int p1), (2, .int p2), (3, .int p3)] := hl
  refine lv_aload_n hx hb dX11_year_0 rfl (lv_at hl 0 rfl) ?_
  refine md_getr hx hb hW hown hK hG f_X11_31_10 (Nat.lt_of_lt_of_le (by decide) hZ) hK0 (b := 4) hR0_3 dX11_year_1 ?_
  refine lv_iload_n hx hb dX11_year_4 rfl (lv_at hl 2 rfl) ?_
  refine md_goi hG (md_runV (As := [.int p2]) (rest := []) hx hb hml hown hW hK hT hG (c_X9_hasMember l D cy tx base  Z  K N M R J hZ hK4 hM4_0 p2) s_X11_132 ⟨rfl, rfl, ⟨Nat.le_of_ble_eq_true rfl, Nat.le_of_ble_eq_true rfl⟩, ⟨Nat.le_of_ble_eq_true rfl, Nat.le_of_ble_eq_true rfl⟩⟩ (Nat.lt_of_lt_of_le (by decide) hZ) hK4 (by decide) rfl rfl hl.1 rfl (Nat.le_of_ble_eq_true rfl) dX11_year_5) (fun r u H locs hp hG => ?_)
  obtain ⟨rfl, rfl⟩ := hp
  have hG : md_G D cy base Z K N M R J s H locs := hG
  refine lv_if_eq (tgt := 25) hx hb dX11_year_8 (by decide) (fun _ => ?_) (fun h => absurd h (by decide))
  refine lv_iconst (v := 0) hx hb dX11_year_25 (by decide) ?_
  refine lv_istore (lv' := [(4, .int 0), (0, .ref (base + 0)), (1, .int p1), (2, .int p2), (3, .int p3)]) hx hb dX11_year_26 hl (by decide) rfl (fun ls hl => ?_)
  refine lv_iload hx hb dX11_year_28 (lv_at hl 0 rfl) ?_
  refine lv_if_eq (tgt := 54) hx hb dX11_year_30 (by decide) (fun _ => ?_) (fun h => absurd h (by decide))
  refine lv_ldc hx hb hown (hW _ w_4_221 rfl) dX11_year_54 ?_
  exact md_endi hx hb hr hlocks hK hT hG (⟨rfl, rfl⟩) dX11_year_56
set_option maxRecDepth 100000 in
set_option maxHeartbeats 4000000 in
theorem c_X11_status (l : Launch) (D : va_G) (cy : Nat → ClassId) (tx : (Nat → Nat) × (Nat → Nat)) (base Z : Nat) (K N : Nat → Nat) (M : Nat → Nat → Int32) (R : Nat → Nat → Option Nat) (J : Nat → Nat → Int64) (hZ : 104 ≤ Z) (hK0 : K 0 = 11) (hR0_2 : R 0 2 = some 2) (hK2 : K 2 = 14) (hN2 : N 2 = 2) (hM2_0 : M 2 0 = 0) : Met l yX11_status [Cond.code yX11_status cX11_status 2 (some .int)] (md_rm 1 0 0) (va_Pc [.ref (base + 0), .int 0] (md_U D cy tx base Z K N M R J)) (mQi D cy tx base (fun r u => r = 0 ∧ u = (Z, K, N, M, R, J))) 0 0 (fun q => base ≤ q) := by
  refine Met.ofW (cc := cX11_status) (maxL := 2) (ret := (some .int)) (by decide) rfl ?_
  intro p e s m args below meth c s₁ B hml hv
  have hW : ∀ w ∈ lw_tbl, goodWord w = true → w.before args s = true := fun w h g => hv.2.2.2.1.2.1 w h g _
  obtain ⟨rfl, hU⟩ := hv
  have hx := B.exec
  have hb := B.bytes
  have hr := B.returns
  have hlocks := B.notSynchronized
  have hown : s.vm.findClass RX11 = some m.cls := findClass_of_methodNamed B.named
  have hK := hU.2.2.1
  have hT := hU.2.2.2
  have hG := md_G.start hU
  have hl := lv_entry ([.ref (base + 0), .int 0]) (n := 2) (Nat.le_of_ble_eq_true rfl)
  rw [lg_entry_eq]
  generalize (lg_sl ([.ref (base + 0), .int 0]) ++ List.replicate (2 - (lg_sl ([.ref (base + 0), .int 0])).length) Slot.unset).toArray = ls at hl ⊢
  have hl : lv_has ls 2 [(0, .ref (base + 0)), (1, .int 0)] := hl
  refine lv_iload_n hx hb dX11_status_0 rfl (lv_at hl 1 rfl) ?_
  refine lv_if_lt (tgt := 22) hx hb dX11_status_1 (by decide) (fun h => absurd h (by decide)) (fun _ => ?_)
  refine lv_iload_n hx hb dX11_status_4 rfl (lv_at hl 1 rfl) ?_
  refine lv_aload_n hx hb dX11_status_5 rfl (lv_at hl 0 rfl) ?_
  refine md_getr hx hb hW hown hK hG f_X11_13_10 (Nat.lt_of_lt_of_le (by decide) hZ) hK0 (b := 2) hR0_2 dX11_status_6 ?_
  refine md_alen (t := 14) hx hb hK hG (Nat.lt_of_lt_of_le (by decide) hZ) hK2 ⟨by decide, by decide⟩ hN2 (v := 2) (by decide) dX11_status_9 ?_
  refine lv_icmp_ge (tgt := 22) hx hb dX11_status_10 (by decide) (fun h => absurd h (by decide)) (fun _ => ?_)
  refine lv_aload_n hx hb dX11_status_13 rfl (lv_at hl 0 rfl) ?_
  refine md_getr hx hb hW hown hK hG f_X11_13_10 (Nat.lt_of_lt_of_le (by decide) hZ) hK0 (b := 2) hR0_2 dX11_status_14 ?_
  refine lv_iload_n hx hb dX11_status_17 rfl (lv_at hl 1 rfl) ?_
  refine md_iald hx hb hK hG (Nat.lt_of_lt_of_le (by decide) hZ) hK2 hN2 (md_inD (by decide)) (v := 0) hM2_0 dX11_status_18 ?_
  refine lv_goto (tgt := 23) hx hb dX11_status_19 (by decide) ?_
  exact md_endi hx hb hr hlocks hK hT hG (⟨rfl, rfl⟩) dX11_status_23
set_option maxRecDepth 100000 in
set_option maxHeartbeats 4000000 in
theorem c_X11_status_2 (l : Launch) (D : va_G) (cy : Nat → ClassId) (tx : (Nat → Nat) × (Nat → Nat)) (base Z : Nat) (K N : Nat → Nat) (M : Nat → Nat → Int32) (R : Nat → Nat → Option Nat) (J : Nat → Nat → Int64) (hZ : 104 ≤ Z) (hK0 : K 0 = 11) (hR0_2 : R 0 2 = some 2) (hK2 : K 2 = 14) (hN2 : N 2 = 2) (hM2_1 : M 2 1 = 0) : Met l yX11_status [Cond.code yX11_status cX11_status 2 (some .int)] (md_rm 1 0 0) (va_Pc [.ref (base + 0), .int 1] (md_U D cy tx base Z K N M R J)) (mQi D cy tx base (fun r u => r = 0 ∧ u = (Z, K, N, M, R, J))) 0 0 (fun q => base ≤ q) := by
  refine Met.ofW (cc := cX11_status) (maxL := 2) (ret := (some .int)) (by decide) rfl ?_
  intro p e s m args below meth c s₁ B hml hv
  have hW : ∀ w ∈ lw_tbl, goodWord w = true → w.before args s = true := fun w h g => hv.2.2.2.1.2.1 w h g _
  obtain ⟨rfl, hU⟩ := hv
  have hx := B.exec
  have hb := B.bytes
  have hr := B.returns
  have hlocks := B.notSynchronized
  have hown : s.vm.findClass RX11 = some m.cls := findClass_of_methodNamed B.named
  have hK := hU.2.2.1
  have hT := hU.2.2.2
  have hG := md_G.start hU
  have hl := lv_entry ([.ref (base + 0), .int 1]) (n := 2) (Nat.le_of_ble_eq_true rfl)
  rw [lg_entry_eq]
  generalize (lg_sl ([.ref (base + 0), .int 1]) ++ List.replicate (2 - (lg_sl ([.ref (base + 0), .int 1])).length) Slot.unset).toArray = ls at hl ⊢
  have hl : lv_has ls 2 [(0, .ref (base + 0)), (1, .int 1)] := hl
  refine lv_iload_n hx hb dX11_status_0 rfl (lv_at hl 1 rfl) ?_
  refine lv_if_lt (tgt := 22) hx hb dX11_status_1 (by decide) (fun h => absurd h (by decide)) (fun _ => ?_)
  refine lv_iload_n hx hb dX11_status_4 rfl (lv_at hl 1 rfl) ?_
  refine lv_aload_n hx hb dX11_status_5 rfl (lv_at hl 0 rfl) ?_
  refine md_getr hx hb hW hown hK hG f_X11_13_10 (Nat.lt_of_lt_of_le (by decide) hZ) hK0 (b := 2) hR0_2 dX11_status_6 ?_
  refine md_alen (t := 14) hx hb hK hG (Nat.lt_of_lt_of_le (by decide) hZ) hK2 ⟨by decide, by decide⟩ hN2 (v := 2) (by decide) dX11_status_9 ?_
  refine lv_icmp_ge (tgt := 22) hx hb dX11_status_10 (by decide) (fun h => absurd h (by decide)) (fun _ => ?_)
  refine lv_aload_n hx hb dX11_status_13 rfl (lv_at hl 0 rfl) ?_
  refine md_getr hx hb hW hown hK hG f_X11_13_10 (Nat.lt_of_lt_of_le (by decide) hZ) hK0 (b := 2) hR0_2 dX11_status_14 ?_
  refine lv_iload_n hx hb dX11_status_17 rfl (lv_at hl 1 rfl) ?_
  refine md_iald hx hb hK hG (Nat.lt_of_lt_of_le (by decide) hZ) hK2 hN2 (md_inD (by decide)) (v := 0) hM2_1 dX11_status_18 ?_
  refine lv_goto (tgt := 23) hx hb dX11_status_19 (by decide) ?_
  exact md_endi hx hb hr hlocks hK hT hG (⟨rfl, rfl⟩) dX11_status_23
set_option maxRecDepth 100000 in
set_option maxHeartbeats 4000000 in
theorem c_X11_status_3 (l : Launch) (D : va_G) (cy : Nat → ClassId) (tx : (Nat → Nat) × (Nat → Nat)) (base Z : Nat) (K N : Nat → Nat) (M : Nat → Nat → Int32) (R : Nat → Nat → Option Nat) (J : Nat → Nat → Int64) (hZ : 104 ≤ Z) (p1 : Int32) (h1 : p1 < 0) : Met l yX11_status [Cond.code yX11_status cX11_status 2 (some .int)] (md_rm 1 0 0) (va_Pc [.ref (base + 0), .int p1] (md_U D cy tx base Z K N M R J)) (mQi D cy tx base (fun r u => r = (-1) ∧ u = (Z, K, N, M, R, J))) 0 0 (fun q => base ≤ q) := by
  refine Met.ofW (cc := cX11_status) (maxL := 2) (ret := (some .int)) (by decide) rfl ?_
  intro p e s m args below meth c s₁ B hml hv
  have hW : ∀ w ∈ lw_tbl, goodWord w = true → w.before args s = true := fun w h g => hv.2.2.2.1.2.1 w h g _
  obtain ⟨rfl, hU⟩ := hv
  have hx := B.exec
  have hb := B.bytes
  have hr := B.returns
  have hlocks := B.notSynchronized
  have hown : s.vm.findClass RX11 = some m.cls := findClass_of_methodNamed B.named
  have hK := hU.2.2.1
  have hT := hU.2.2.2
  have hG := md_G.start hU
  have hl := lv_entry ([.ref (base + 0), .int p1]) (n := 2) (Nat.le_of_ble_eq_true rfl)
  rw [lg_entry_eq]
  generalize (lg_sl ([.ref (base + 0), .int p1]) ++ List.replicate (2 - (lg_sl ([.ref (base + 0), .int p1])).length) Slot.unset).toArray = ls at hl ⊢
  have hl : lv_has ls 2 [(0, .ref (base + 0)), (1, .int p1)] := hl
  refine lv_iload_n hx hb dX11_status_0 rfl (lv_at hl 1 rfl) ?_
  refine lv_if_lt (tgt := 22) hx hb dX11_status_1 (by decide) (fun _ => ?_) (fun h => absurd h1 h)
  refine lv_iconst (v := (-1)) hx hb dX11_status_22 (by decide) ?_
  exact md_endi hx hb hr hlocks hK hT hG (⟨rfl, rfl⟩) dX11_status_23
set_option maxRecDepth 100000 in
set_option maxHeartbeats 4000000 in
theorem c_X11_status_4 (l : Launch) (D : va_G) (cy : Nat → ClassId) (tx : (Nat → Nat) × (Nat → Nat)) (base Z : Nat) (K N : Nat → Nat) (M : Nat → Nat → Int32) (R : Nat → Nat → Option Nat) (J : Nat → Nat → Int64) (hZ : 104 ≤ Z) (hK0 : K 0 = 11) (hR0_2 : R 0 2 = some 2) (hK2 : K 2 = 14) (hN2 : N 2 = 2) (p1 : Int32) (h1 : ¬ p1 < 0) (h2 : 2 ≤ p1) : Met l yX11_status [Cond.code yX11_status cX11_status 2 (some .int)] (md_rm 1 0 0) (va_Pc [.ref (base + 0), .int p1] (md_U D cy tx base Z K N M R J)) (mQi D cy tx base (fun r u => r = (-1) ∧ u = (Z, K, N, M, R, J))) 0 0 (fun q => base ≤ q) := by
  refine Met.ofW (cc := cX11_status) (maxL := 2) (ret := (some .int)) (by decide) rfl ?_
  intro p e s m args below meth c s₁ B hml hv
  have hW : ∀ w ∈ lw_tbl, goodWord w = true → w.before args s = true := fun w h g => hv.2.2.2.1.2.1 w h g _
  obtain ⟨rfl, hU⟩ := hv
  have hx := B.exec
  have hb := B.bytes
  have hr := B.returns
  have hlocks := B.notSynchronized
  have hown : s.vm.findClass RX11 = some m.cls := findClass_of_methodNamed B.named
  have hK := hU.2.2.1
  have hT := hU.2.2.2
  have hG := md_G.start hU
  have hl := lv_entry ([.ref (base + 0), .int p1]) (n := 2) (Nat.le_of_ble_eq_true rfl)
  rw [lg_entry_eq]
  generalize (lg_sl ([.ref (base + 0), .int p1]) ++ List.replicate (2 - (lg_sl ([.ref (base + 0), .int p1])).length) Slot.unset).toArray = ls at hl ⊢
  have hl : lv_has ls 2 [(0, .ref (base + 0)), (1, .int p1)] := hl
  refine lv_iload_n hx hb dX11_status_0 rfl (lv_at hl 1 rfl) ?_
  refine lv_if_lt (tgt := 22) hx hb dX11_status_1 (by decide) (fun h => absurd h h1) (fun _ => ?_)
  refine lv_iload_n hx hb dX11_status_4 rfl (lv_at hl 1 rfl) ?_
  refine lv_aload_n hx hb dX11_status_5 rfl (lv_at hl 0 rfl) ?_
  refine md_getr hx hb hW hown hK hG f_X11_13_10 (Nat.lt_of_lt_of_le (by decide) hZ) hK0 (b := 2) hR0_2 dX11_status_6 ?_
  refine md_alen (t := 14) hx hb hK hG (Nat.lt_of_lt_of_le (by decide) hZ) hK2 ⟨by decide, by decide⟩ hN2 (v := 2) (by decide) dX11_status_9 ?_
  refine lv_icmp_ge (tgt := 22) hx hb dX11_status_10 (by decide) (fun _ => ?_) (fun h => absurd h2 h)
  refine lv_iconst (v := (-1)) hx hb dX11_status_22 (by decide) ?_
  exact md_endi hx hb hr hlocks hK hT hG (⟨rfl, rfl⟩) dX11_status_23
set_option maxRecDepth 100000 in
set_option maxHeartbeats 4000000 in
theorem c_X11_count (l : Launch) (D : va_G) (cy : Nat → ClassId) (tx : (Nat → Nat) × (Nat → Nat)) (base Z : Nat) (K N : Nat → Nat) (M : Nat → Nat → Int32) (R : Nat → Nat → Option Nat) (J : Nat → Nat → Int64) (hZ : 104 ≤ Z) (hK0 : K 0 = 11) (hR0_3 : R 0 3 = some 4) (hK4 : K 4 = 10) (hM4_0 : M 4 0 = 0) : Met l yX11_count [Cond.code yX11_count cX11_count 2 (some .int)] (md_rm 1 0 0) (va_Pc [.ref (base + 0), .int 0] (md_U D cy tx base Z K N M R J)) (mQi D cy tx base (fun r u => r = 0 ∧ u = (Z, K, N, M, R, J))) 0 0 (fun q => base ≤ q) := by
  refine Met.ofW (cc := cX11_count) (maxL := 2) (ret := (some .int)) (by decide) rfl ?_
  intro p e s m args below meth c s₁ B hml hv
  have hW : ∀ w ∈ lw_tbl, goodWord w = true → w.before args s = true := fun w h g => hv.2.2.2.1.2.1 w h g _
  obtain ⟨rfl, hU⟩ := hv
  have hx := B.exec
  have hb := B.bytes
  have hr := B.returns
  have hlocks := B.notSynchronized
  have hown : s.vm.findClass RX11 = some m.cls := findClass_of_methodNamed B.named
  have hK := hU.2.2.1
  have hT := hU.2.2.2
  have hG := md_G.start hU
  have hl := lv_entry ([.ref (base + 0), .int 0]) (n := 2) (Nat.le_of_ble_eq_true rfl)
  rw [lg_entry_eq]
  generalize (lg_sl ([.ref (base + 0), .int 0]) ++ List.replicate (2 - (lg_sl ([.ref (base + 0), .int 0])).length) Slot.unset).toArray = ls at hl ⊢
  have hl : lv_has ls 2 [(0, .ref (base + 0)), (1, .int 0)] := hl
  refine lv_iload_n hx hb dX11_count_0 rfl (lv_at hl 1 rfl) ?_
  refine lv_tableIn (off := 63) (tgt := 64) hx hb dX11_count_1 (by decide) (by decide) rfl (by decide) ?_
  refine lv_aload_n hx hb dX11_count_64 rfl (lv_at hl 0 rfl) ?_
  refine md_getr hx hb hW hown hK hG f_X11_31_10 (Nat.lt_of_lt_of_le (by decide) hZ) hK0 (b := 4) hR0_3 dX11_count_65 ?_
  refine md_geti hx hb hW hown hK hG f_X11_116_9 (Nat.lt_of_lt_of_le (by decide) hZ) hK4 (v := 0) hM4_0 dX11_count_68 ?_
  exact md_endi hx hb hr hlocks hK hT hG (⟨rfl, rfl⟩) dX11_count_71
set_option maxRecDepth 100000 in
set_option maxHeartbeats 4000000 in
theorem c_X11_count_2 (l : Launch) (D : va_G) (cy : Nat → ClassId) (tx : (Nat → Nat) × (Nat → Nat)) (base Z : Nat) (K N : Nat → Nat) (M : Nat → Nat → Int32) (R : Nat → Nat → Option Nat) (J : Nat → Nat → Int64) (hZ : 104 ≤ Z) (hK0 : K 0 = 11) (hR0_3 : R 0 3 = some 4) (hK4 : K 4 = 10) (hM4_1 : M 4 1 = 0) : Met l yX11_count [Cond.code yX11_count cX11_count 2 (some .int)] (md_rm 1 0 0) (va_Pc [.ref (base + 0), .int 1] (md_U D cy tx base Z K N M R J)) (mQi D cy tx base (fun r u => r = 0 ∧ u = (Z, K, N, M, R, J))) 0 0 (fun q => base ≤ q) := by
  refine Met.ofW (cc := cX11_count) (maxL := 2) (ret := (some .int)) (by decide) rfl ?_
  intro p e s m args below meth c s₁ B hml hv
  have hW : ∀ w ∈ lw_tbl, goodWord w = true → w.before args s = true := fun w h g => hv.2.2.2.1.2.1 w h g _
  obtain ⟨rfl, hU⟩ := hv
  have hx := B.exec
  have hb := B.bytes
  have hr := B.returns
  have hlocks := B.notSynchronized
  have hown : s.vm.findClass RX11 = some m.cls := findClass_of_methodNamed B.named
  have hK := hU.2.2.1
  have hT := hU.2.2.2
  have hG := md_G.start hU
  have hl := lv_entry ([.ref (base + 0), .int 1]) (n := 2) (Nat.le_of_ble_eq_true rfl)
  rw [lg_entry_eq]
  generalize (lg_sl ([.ref (base + 0), .int 1]) ++ List.replicate (2 - (lg_sl ([.ref (base + 0), .int 1])).length) Slot.unset).toArray = ls at hl ⊢
  have hl : lv_has ls 2 [(0, .ref (base + 0)), (1, .int 1)] := hl
  refine lv_iload_n hx hb dX11_count_0 rfl (lv_at hl 1 rfl) ?_
  refine lv_tableIn (off := 71) (tgt := 72) hx hb dX11_count_1 (by decide) (by decide) rfl (by decide) ?_
  refine lv_aload_n hx hb dX11_count_72 rfl (lv_at hl 0 rfl) ?_
  refine md_getr hx hb hW hown hK hG f_X11_31_10 (Nat.lt_of_lt_of_le (by decide) hZ) hK0 (b := 4) hR0_3 dX11_count_73 ?_
  refine md_geti hx hb hW hown hK hG f_X11_310_9 (Nat.lt_of_lt_of_le (by decide) hZ) hK4 (v := 0) hM4_1 dX11_count_76 ?_
  exact md_endi hx hb hr hlocks hK hT hG (⟨rfl, rfl⟩) dX11_count_79
set_option maxRecDepth 100000 in
set_option maxHeartbeats 4000000 in
theorem c_X11_count_3 (l : Launch) (D : va_G) (cy : Nat → ClassId) (tx : (Nat → Nat) × (Nat → Nat)) (base Z : Nat) (K N : Nat → Nat) (M : Nat → Nat → Int32) (R : Nat → Nat → Option Nat) (J : Nat → Nat → Int64) (hZ : 104 ≤ Z) (hK0 : K 0 = 11) (hM0_6 : M 0 6 = 0) : Met l yX11_count [Cond.code yX11_count cX11_count 2 (some .int)] (md_rm 1 0 0) (va_Pc [.ref (base + 0), .int 2] (md_U D cy tx base Z K N M R J)) (mQi D cy tx base (fun r u => r = 0 ∧ u = (Z, K, N, M, R, J))) 0 0 (fun q => base ≤ q) := by
  refine Met.ofW (cc := cX11_count) (maxL := 2) (ret := (some .int)) (by decide) rfl ?_
  intro p e s m args below meth c s₁ B hml hv
  have hW : ∀ w ∈ lw_tbl, goodWord w = true → w.before args s = true := fun w h g => hv.2.2.2.1.2.1 w h g _
  obtain ⟨rfl, hU⟩ := hv
  have hx := B.exec
  have hb := B.bytes
  have hr := B.returns
  have hlocks := B.notSynchronized
  have hown : s.vm.findClass RX11 = some m.cls := findClass_of_methodNamed B.named
  have hK := hU.2.2.1
  have hT := hU.2.2.2
  have hG := md_G.start hU
  have hl := lv_entry ([.ref (base + 0), .int 2]) (n := 2) (Nat.le_of_ble_eq_true rfl)
  rw [lg_entry_eq]
  generalize (lg_sl ([.ref (base + 0), .int 2]) ++ List.replicate (2 - (lg_sl ([.ref (base + 0), .int 2])).length) Slot.unset).toArray = ls at hl ⊢
  have hl : lv_has ls 2 [(0, .ref (base + 0)), (1, .int 2)] := hl
  refine lv_iload_n hx hb dX11_count_0 rfl (lv_at hl 1 rfl) ?_
  refine lv_tableIn (off := 79) (tgt := 80) hx hb dX11_count_1 (by decide) (by decide) rfl (by decide) ?_
  refine lv_aload_n hx hb dX11_count_80 rfl (lv_at hl 0 rfl) ?_
  refine md_geti hx hb hW hown hK hG f_X11_119_10 (Nat.lt_of_lt_of_le (by decide) hZ) hK0 (v := 0) hM0_6 dX11_count_81 ?_
  exact md_endi hx hb hr hlocks hK hT hG (⟨rfl, rfl⟩) dX11_count_84
set_option maxRecDepth 100000 in
set_option maxHeartbeats 4000000 in
theorem c_J6_bitCount_0f7a4 (l : Launch) (D : va_G) (cy : Nat → ClassId) (tx : (Nat → Nat) × (Nat → Nat)) (base Z : Nat) (K N : Nat → Nat) (M : Nat → Nat → Int32) (R : Nat → Nat → Option Nat) (J : Nat → Nat → Int64) (hZ : 104 ≤ Z) : Met l yJ6_bitCount_0f7a4 [Cond.code yJ6_bitCount_0f7a4 cJ6_bitCount_0f7a4 1 (some .int)] (md_rm 1 0 0) (va_Pc [.int 0] (md_U D cy tx base Z K N M R J)) (mQi D cy tx base (fun r u => r = 0 ∧ u = (Z, K, N, M, R, J))) 0 0 (fun q => base ≤ q) := by
  refine Met.ofW (cc := cJ6_bitCount_0f7a4) (maxL := 1) (ret := (some .int)) (by decide) rfl ?_
  intro p e s m args below meth c s₁ B hml hv
  have hW : ∀ w ∈ lw_tbl, goodWord w = true → w.before args s = true := fun w h g => hv.2.2.2.1.2.1 w h g _
  obtain ⟨rfl, hU⟩ := hv
  have hx := B.exec
  have hb := B.bytes
  have hr := B.returns
  have hlocks := B.notSynchronized
  have hown : s.vm.findClass RJ6 = some m.cls := findClass_of_methodNamed B.named
  have hK := hU.2.2.1
  have hT := hU.2.2.2
  have hG := md_G.start hU
  have hl := lv_entry ([.int 0]) (n := 1) (Nat.le_of_ble_eq_true rfl)
  rw [lg_entry_eq]
  generalize (lg_sl ([.int 0]) ++ List.replicate (1 - (lg_sl ([.int 0])).length) Slot.unset).toArray = ls at hl ⊢
  have hl : lv_has ls 1 [(0, .int 0)] := hl
  refine lv_iload_n hx hb dJ6_bitCount_0f7a4_0 rfl (lv_at hl 0 rfl) ?_
  refine lv_iload_n hx hb dJ6_bitCount_0f7a4_1 rfl (lv_at hl 0 rfl) ?_
  refine lv_iconst (v := 1) hx hb dJ6_bitCount_0f7a4_2 (by decide) ?_
  refine lv_iushr (v := 0) hx hb dJ6_bitCount_0f7a4_3 (by decide) ?_
  refine lv_ldcw hx hb hown (hW _ w_4_121 rfl) dJ6_bitCount_0f7a4_4 ?_
  refine lv_iand hx hb dJ6_bitCount_0f7a4_7 ?_
  refine md_top (y := 0) (by decide) ?_
  refine lv_isub hx hb dJ6_bitCount_0f7a4_8 ?_
  refine md_top (y := 0) (by decide) ?_
  refine lv_istore_n (lv' := [(0, .int 0)]) hx hb dJ6_bitCount_0f7a4_9 rfl hl (by decide) rfl (fun ls hl => ?_)
  refine lv_iload_n hx hb dJ6_bitCount_0f7a4_10 rfl (lv_at hl 0 rfl) ?_
  refine lv_ldcw hx hb hown (hW _ w_4_122 rfl) dJ6_bitCount_0f7a4_11 ?_
  refine lv_iand hx hb dJ6_bitCount_0f7a4_14 ?_
  refine md_top (y := 0) (by decide) ?_
  refine lv_iload_n hx hb dJ6_bitCount_0f7a4_15 rfl (lv_at hl 0 rfl) ?_
  refine lv_iconst (v := 2) hx hb dJ6_bitCount_0f7a4_16 (by decide) ?_
  refine lv_iushr (v := 0) hx hb dJ6_bitCount_0f7a4_17 (by decide) ?_
  refine lv_ldcw hx hb hown (hW _ w_4_122 rfl) dJ6_bitCount_0f7a4_18 ?_
  refine lv_iand hx hb dJ6_bitCount_0f7a4_21 ?_
  refine md_top (y := 0) (by decide) ?_
  refine lv_iadd hx hb dJ6_bitCount_0f7a4_22 ?_
  refine md_top (y := 0) (by decide) ?_
  refine lv_istore_n (lv' := [(0, .int 0)]) hx hb dJ6_bitCount_0f7a4_23 rfl hl (by decide) rfl (fun ls hl => ?_)
  refine lv_iload_n hx hb dJ6_bitCount_0f7a4_24 rfl (lv_at hl 0 rfl) ?_
  refine lv_iload_n hx hb dJ6_bitCount_0f7a4_25 rfl (lv_at hl 0 rfl) ?_
  refine lv_iconst (v := 4) hx hb dJ6_bitCount_0f7a4_26 (by decide) ?_
  refine lv_iushr (v := 0) hx hb dJ6_bitCount_0f7a4_27 (by decide) ?_
  refine lv_iadd hx hb dJ6_bitCount_0f7a4_28 ?_
  refine md_top (y := 0) (by decide) ?_
  refine lv_ldcw hx hb hown (hW _ w_4_123 rfl) dJ6_bitCount_0f7a4_29 ?_
  refine lv_iand hx hb dJ6_bitCount_0f7a4_32 ?_
  refine md_top (y := 0) (by decide) ?_
  refine lv_istore_n (lv' := [(0, .int 0)]) hx hb dJ6_bitCount_0f7a4_33 rfl hl (by decide) rfl (fun ls hl => ?_)
  refine lv_iload_n hx hb dJ6_bitCount_0f7a4_34 rfl (lv_at hl 0 rfl) ?_
  refine lv_iload_n hx hb dJ6_bitCount_0f7a4_35 rfl (lv_at hl 0 rfl) ?_
  refine lv_bipush (v := 8) hx hb dJ6_bitCount_0f7a4_36 (by decide) ?_
  refine lv_iushr (v := 0) hx hb dJ6_bitCount_0f7a4_38 (by decide) ?_
  refine lv_iadd hx hb dJ6_bitCount_0f7a4_39 ?_
  refine md_top (y := 0) (by decide) ?_
  refine lv_istore_n (lv' := [(0, .int 0)]) hx hb dJ6_bitCount_0f7a4_40 rfl hl (by decide) rfl (fun ls hl => ?_)
  refine lv_iload_n hx hb dJ6_bitCount_0f7a4_41 rfl (lv_at hl 0 rfl) ?_
  refine lv_iload_n hx hb dJ6_bitCount_0f7a4_42 rfl (lv_at hl 0 rfl) ?_
  refine lv_bipush (v := 16) hx hb dJ6_bitCount_0f7a4_43 (by decide) ?_
  refine lv_iushr (v := 0) hx hb dJ6_bitCount_0f7a4_45 (by decide) ?_
  refine lv_iadd hx hb dJ6_bitCount_0f7a4_46 ?_
  refine md_top (y := 0) (by decide) ?_
  refine lv_istore_n (lv' := [(0, .int 0)]) hx hb dJ6_bitCount_0f7a4_47 rfl hl (by decide) rfl (fun ls hl => ?_)
  refine lv_iload_n hx hb dJ6_bitCount_0f7a4_48 rfl (lv_at hl 0 rfl) ?_
  refine lv_bipush (v := 63) hx hb dJ6_bitCount_0f7a4_49 (by decide) ?_
  refine lv_iand hx hb dJ6_bitCount_0f7a4_51 ?_
  refine md_top (y := 0) (by decide) ?_
  exact md_endi hx hb hr hlocks hK hT hG (⟨rfl, rfl⟩) dJ6_bitCount_0f7a4_52
set_option maxRecDepth 100000 in
set_option maxHeartbeats 4000000 in
theorem c_X11_count_4 (l : Launch) (D : va_G) (cy : Nat → ClassId) (tx : (Nat → Nat) × (Nat → Nat)) (base Z : Nat) (K N : Nat → Nat) (M : Nat → Nat → Int32) (R : Nat → Nat → Option Nat) (J : Nat → Nat → Int64) (hZ : 104 ≤ Z) (hK0 : K 0 = 11) (hR0_3 : R 0 3 = some 4) (hK4 : K 4 = 10) (hM4_2 : M 4 2 = 0) : Met l yX11_count [Cond.code yX11_count cX11_count 2 (some .int)] (md_rm 2 0 0) (va_Pc [.ref (base + 0), .int 3] (md_U D cy tx base Z K N M R J)) (mQi D cy tx base (fun r u => r = 0 ∧ u = (Z, K, N, M, R, J))) 0 0 (fun q => base ≤ q) := by
  refine Met.ofW (cc := cX11_count) (maxL := 2) (ret := (some .int)) (by decide) rfl ?_
  intro p e s m args below meth c s₁ B hml hv
  have hW : ∀ w ∈ lw_tbl, goodWord w = true → w.before args s = true := fun w h g => hv.2.2.2.1.2.1 w h g _
  obtain ⟨rfl, hU⟩ := hv
  have hx := B.exec
  have hb := B.bytes
  have hr := B.returns
  have hlocks := B.notSynchronized
  have hown : s.vm.findClass RX11 = some m.cls := findClass_of_methodNamed B.named
  have hK := hU.2.2.1
  have hT := hU.2.2.2
  have hG := md_G.start hU
  have hl := lv_entry ([.ref (base + 0), .int 3]) (n := 2) (Nat.le_of_ble_eq_true rfl)
  rw [lg_entry_eq]
  generalize (lg_sl ([.ref (base + 0), .int 3]) ++ List.replicate (2 - (lg_sl ([.ref (base + 0), .int 3])).length) Slot.unset).toArray = ls at hl ⊢
  have hl : lv_has ls 2 [(0, .ref (base + 0)), (1, .int 3)] := hl
  refine lv_iload_n hx hb dX11_count_0 rfl (lv_at hl 1 rfl) ?_
  refine lv_tableIn (off := 84) (tgt := 85) hx hb dX11_count_1 (by decide) (by decide) rfl (by decide) ?_
  refine lv_aload_n hx hb dX11_count_85 rfl (lv_at hl 0 rfl) ?_
  refine md_getr hx hb hW hown hK hG f_X11_31_10 (Nat.lt_of_lt_of_le (by decide) hZ) hK0 (b := 4) hR0_3 dX11_count_86 ?_
  refine md_geti hx hb hW hown hK hG f_X11_142_9 (Nat.lt_of_lt_of_le (by decide) hZ) hK4 (v := 0) hM4_2 dX11_count_89 ?_
  refine md_goi hG (md_runS (As := [.int 0]) (rest := []) hx hb hml hown hW hK hT hG (c_J6_bitCount_0f7a4 l D cy tx base  Z  K N M R J hZ  ) s_X11_165 ⟨rfl, rfl, ⟨Nat.le_of_ble_eq_true rfl, Nat.le_of_ble_eq_true rfl⟩, ⟨Nat.le_of_ble_eq_true rfl, Nat.le_of_ble_eq_true rfl⟩⟩ rfl hl.1 rfl (Nat.le_of_ble_eq_true rfl) dX11_count_92) (fun r u H locs hp hG => ?_)
  obtain ⟨rfl, rfl⟩ := hp
  have hG : md_G D cy base Z K N M R J s H locs := hG
  exact md_endi hx hb hr hlocks hK hT hG (⟨rfl, rfl⟩) dX11_count_95
set_option maxRecDepth 100000 in
set_option maxHeartbeats 4000000 in
theorem c_X9_sumOf (l : Launch) (D : va_G) (cy : Nat → ClassId) (tx : (Nat → Nat) × (Nat → Nat)) (base Z : Nat) (K N : Nat → Nat) (M : Nat → Nat → Int32) (R : Nat → Nat → Option Nat) (J : Nat → Nat → Int64) (hZ : 104 ≤ Z) (hK4 : K 4 = 10) (hM4_0 : M 4 0 = 0) : Met l yX9_sumOf [Cond.code yX9_sumOf cX9_sumOf 5 (some .int)] (md_rm 1 0 0) (va_Pc [.ref (base + 4), .ref (base + 6), .int 0] (md_U D cy tx base Z K N M R J)) (mQi D cy tx base (fun r u => r = 0 ∧ u = (Z, K, N, M, R, J))) 0 0 (fun q => base ≤ q) := by
  refine Met.ofW (cc := cX9_sumOf) (maxL := 5) (ret := (some .int)) (by decide) rfl ?_
  intro p e s m args below meth c s₁ B hml hv
  have hW : ∀ w ∈ lw_tbl, goodWord w = true → w.before args s = true := fun w h g => hv.2.2.2.1.2.1 w h g _
  obtain ⟨rfl, hU⟩ := hv
  have hx := B.exec
  have hb := B.bytes
  have hr := B.returns
  have hlocks := B.notSynchronized
  have hown : s.vm.findClass RX9 = some m.cls := findClass_of_methodNamed B.named
  have hK := hU.2.2.1
  have hT := hU.2.2.2
  have hG := md_G.start hU
  have hl := lv_entry ([.ref (base + 4), .ref (base + 6), .int 0]) (n := 5) (Nat.le_of_ble_eq_true rfl)
  rw [lg_entry_eq]
  generalize (lg_sl ([.ref (base + 4), .ref (base + 6), .int 0]) ++ List.replicate (5 - (lg_sl ([.ref (base + 4), .ref (base + 6), .int 0])).length) Slot.unset).toArray = ls at hl ⊢
  have hl : lv_has ls 5 [(0, .ref (base + 4)), (1, .ref (base + 6)), (2, .int 0)] := hl
  refine lv_iconst (v := 0) hx hb dX9_sumOf_0 (by decide) ?_
  refine lv_istore_n (lv' := [(3, .int 0), (0, .ref (base + 4)), (1, .ref (base + 6)), (2, .int 0)]) hx hb dX9_sumOf_1 rfl hl (by decide) rfl (fun ls hl => ?_)
  refine lv_iconst (v := 0) hx hb dX9_sumOf_2 (by decide) ?_
  refine lv_istore (lv' := [(4, .int 0), (3, .int 0), (0, .ref (base + 4)), (1, .ref (base + 6)), (2, .int 0)]) hx hb dX9_sumOf_3 hl (by decide) rfl (fun ls hl => ?_)
  refine lv_iload hx hb dX9_sumOf_5 (lv_at hl 0 rfl) ?_
  refine lv_aload_n hx hb dX9_sumOf_7 rfl (lv_at hl 2 rfl) ?_
  refine md_geti hx hb hW hown hK hG f_X9_33_9 (Nat.lt_of_lt_of_le (by decide) hZ) hK4 (v := 0) hM4_0 dX9_sumOf_8 ?_
  refine lv_icmp_ge (tgt := 37) hx hb dX9_sumOf_11 (by decide) (fun _ => ?_) (fun h => absurd h (by decide))
  refine lv_iload_n hx hb dX9_sumOf_37 rfl (lv_at hl 1 rfl) ?_
  exact md_endi hx hb hr hlocks hK hT hG (⟨rfl, rfl⟩) dX9_sumOf_38
set_option maxRecDepth 100000 in
set_option maxHeartbeats 4000000 in
theorem c_X11_count_5 (l : Launch) (D : va_G) (cy : Nat → ClassId) (tx : (Nat → Nat) × (Nat → Nat)) (base Z : Nat) (K N : Nat → Nat) (M : Nat → Nat → Int32) (R : Nat → Nat → Option Nat) (J : Nat → Nat → Int64) (hZ : 104 ≤ Z) (hK0 : K 0 = 11) (hR0_3 : R 0 3 = some 4) (hK4 : K 4 = 10) (hR4_10 : R 4 10 = some 6) (hM4_2 : M 4 2 = 0) (hM4_0 : M 4 0 = 0) : Met l yX11_count [Cond.code yX11_count cX11_count 2 (some .int)] (md_rm 2 0 0) (va_Pc [.ref (base + 0), .int 4] (md_U D cy tx base Z K N M R J)) (mQi D cy tx base (fun r u => r = 0 ∧ u = (Z, K, N, M, R, J))) 0 0 (fun q => base ≤ q) := by
  refine Met.ofW (cc := cX11_count) (maxL := 2) (ret := (some .int)) (by decide) rfl ?_
  intro p e s m args below meth c s₁ B hml hv
  have hW : ∀ w ∈ lw_tbl, goodWord w = true → w.before args s = true := fun w h g => hv.2.2.2.1.2.1 w h g _
  obtain ⟨rfl, hU⟩ := hv
  have hx := B.exec
  have hb := B.bytes
  have hr := B.returns
  have hlocks := B.notSynchronized
  have hown : s.vm.findClass RX11 = some m.cls := findClass_of_methodNamed B.named
  have hK := hU.2.2.1
  have hT := hU.2.2.2
  have hG := md_G.start hU
  have hl := lv_entry ([.ref (base + 0), .int 4]) (n := 2) (Nat.le_of_ble_eq_true rfl)
  rw [lg_entry_eq]
  generalize (lg_sl ([.ref (base + 0), .int 4]) ++ List.replicate (2 - (lg_sl ([.ref (base + 0), .int 4])).length) Slot.unset).toArray = ls at hl ⊢
  have hl : lv_has ls 2 [(0, .ref (base + 0)), (1, .int 4)] := hl
  refine lv_iload_n hx hb dX11_count_0 rfl (lv_at hl 1 rfl) ?_
  refine lv_tableIn (off := 95) (tgt := 96) hx hb dX11_count_1 (by decide) (by decide) rfl (by decide) ?_
  refine lv_aload_n hx hb dX11_count_96 rfl (lv_at hl 0 rfl) ?_
  refine md_getr hx hb hW hown hK hG f_X11_31_10 (Nat.lt_of_lt_of_le (by decide) hZ) hK0 (b := 4) hR0_3 dX11_count_97 ?_
  refine lv_aload_n hx hb dX11_count_100 rfl (lv_at hl 0 rfl) ?_
  refine md_getr hx hb hW hown hK hG f_X11_31_10 (Nat.lt_of_lt_of_le (by decide) hZ) hK0 (b := 4) hR0_3 dX11_count_101 ?_
  refine md_getr hx hb hW hown hK hG f_X11_136_9 (Nat.lt_of_lt_of_le (by decide) hZ) hK4 (b := 6) hR4_10 dX11_count_104 ?_
  refine lv_aload_n hx hb dX11_count_107 rfl (lv_at hl 0 rfl) ?_
  refine md_getr hx hb hW hown hK hG f_X11_31_10 (Nat.lt_of_lt_of_le (by decide) hZ) hK0 (b := 4) hR0_3 dX11_count_108 ?_
  refine md_geti hx hb hW hown hK hG f_X11_142_9 (Nat.lt_of_lt_of_le (by decide) hZ) hK4 (v := 0) hM4_2 dX11_count_111 ?_
  refine md_goi hG (md_runV (As := [.ref (base + 6), .int 0]) (rest := []) hx hb hml hown hW hK hT hG (c_X9_sumOf l D cy tx base  Z  K N M R J hZ hK4 hM4_0 ) s_X11_320 ⟨rfl, rfl, ⟨Nat.le_of_ble_eq_true rfl, Nat.le_of_ble_eq_true rfl⟩, ⟨Nat.le_of_ble_eq_true rfl, Nat.le_of_ble_eq_true rfl⟩⟩ (Nat.lt_of_lt_of_le (by decide) hZ) hK4 (by decide) rfl rfl hl.1 rfl (Nat.le_of_ble_eq_true rfl) dX11_count_114) (fun r u H locs hp hG => ?_)
  obtain ⟨rfl, rfl⟩ := hp
  have hG : md_G D cy base Z K N M R J s H locs := hG
  exact md_endi hx hb hr hlocks hK hT hG (⟨rfl, rfl⟩) dX11_count_117
set_option maxRecDepth 100000 in
set_option maxHeartbeats 4000000 in
theorem c_X11_count_6 (l : Launch) (D : va_G) (cy : Nat → ClassId) (tx : (Nat → Nat) × (Nat → Nat)) (base Z : Nat) (K N : Nat → Nat) (M : Nat → Nat → Int32) (R : Nat → Nat → Option Nat) (J : Nat → Nat → Int64) (hZ : 104 ≤ Z) (hK0 : K 0 = 11) (hR0_3 : R 0 3 = some 4) (hK4 : K 4 = 10) (hM4_3 : M 4 3 = 0) : Met l yX11_count [Cond.code yX11_count cX11_count 2 (some .int)] (md_rm 1 0 0) (va_Pc [.ref (base + 0), .int 5] (md_U D cy tx base Z K N M R J)) (mQi D cy tx base (fun r u => r = 0 ∧ u = (Z, K, N, M, R, J))) 0 0 (fun q => base ≤ q) := by
  refine Met.ofW (cc := cX11_count) (maxL := 2) (ret := (some .int)) (by decide) rfl ?_
  intro p e s m args below meth c s₁ B hml hv
  have hW : ∀ w ∈ lw_tbl, goodWord w = true → w.before args s = true := fun w h g => hv.2.2.2.1.2.1 w h g _
  obtain ⟨rfl, hU⟩ := hv
  have hx := B.exec
  have hb := B.bytes
  have hr := B.returns
  have hlocks := B.notSynchronized
  have hown : s.vm.findClass RX11 = some m.cls := findClass_of_methodNamed B.named
  have hK := hU.2.2.1
  have hT := hU.2.2.2
  have hG := md_G.start hU
  have hl := lv_entry ([.ref (base + 0), .int 5]) (n := 2) (Nat.le_of_ble_eq_true rfl)
  rw [lg_entry_eq]
  generalize (lg_sl ([.ref (base + 0), .int 5]) ++ List.replicate (2 - (lg_sl ([.ref (base + 0), .int 5])).length) Slot.unset).toArray = ls at hl ⊢
  have hl : lv_has ls 2 [(0, .ref (base + 0)), (1, .int 5)] := hl
  refine lv_iload_n hx hb dX11_count_0 rfl (lv_at hl 1 rfl) ?_
  refine lv_tableIn (off := 117) (tgt := 118) hx hb dX11_count_1 (by decide) (by decide) rfl (by decide) ?_
  refine lv_aload_n hx hb dX11_count_118 rfl (lv_at hl 0 rfl) ?_
  refine md_getr hx hb hW hown hK hG f_X11_31_10 (Nat.lt_of_lt_of_le (by decide) hZ) hK0 (b := 4) hR0_3 dX11_count_119 ?_
  refine md_geti hx hb hW hown hK hG f_X11_180_9 (Nat.lt_of_lt_of_le (by decide) hZ) hK4 (v := 0) hM4_3 dX11_count_122 ?_
  exact md_endi hx hb hr hlocks hK hT hG (⟨rfl, rfl⟩) dX11_count_125
set_option maxRecDepth 100000 in
set_option maxHeartbeats 4000000 in
theorem c_X11_count_7 (l : Launch) (D : va_G) (cy : Nat → ClassId) (tx : (Nat → Nat) × (Nat → Nat)) (base Z : Nat) (K N : Nat → Nat) (M : Nat → Nat → Int32) (R : Nat → Nat → Option Nat) (J : Nat → Nat → Int64) (hZ : 104 ≤ Z) (hK0 : K 0 = 11) (hR0_3 : R 0 3 = some 4) (hK4 : K 4 = 10) (hM4_7 : M 4 7 = 0) : Met l yX11_count [Cond.code yX11_count cX11_count 2 (some .int)] (md_rm 1 0 0) (va_Pc [.ref (base + 0), .int 6] (md_U D cy tx base Z K N M R J)) (mQi D cy tx base (fun r u => r = 0 ∧ u = (Z, K, N, M, R, J))) 0 0 (fun q => base ≤ q) := by
  refine Met.ofW (cc := cX11_count) (maxL := 2) (ret := (some .int)) (by decide) rfl ?_
  intro p e s m args below meth c s₁ B hml hv
  have hW : ∀ w ∈ lw_tbl, goodWord w = true → w.before args s = true := fun w h g => hv.2.2.2.1.2.1 w h g _
  obtain ⟨rfl, hU⟩ := hv
  have hx := B.exec
  have hb := B.bytes
  have hr := B.returns
  have hlocks := B.notSynchronized
  have hown : s.vm.findClass RX11 = some m.cls := findClass_of_methodNamed B.named
  have hK := hU.2.2.1
  have hT := hU.2.2.2
  have hG := md_G.start hU
  have hl := lv_entry ([.ref (base + 0), .int 6]) (n := 2) (Nat.le_of_ble_eq_true rfl)
  rw [lg_entry_eq]
  generalize (lg_sl ([.ref (base + 0), .int 6]) ++ List.replicate (2 - (lg_sl ([.ref (base + 0), .int 6])).length) Slot.unset).toArray = ls at hl ⊢
  have hl : lv_has ls 2 [(0, .ref (base + 0)), (1, .int 6)] := hl
  refine lv_iload_n hx hb dX11_count_0 rfl (lv_at hl 1 rfl) ?_
  refine lv_tableIn (off := 125) (tgt := 126) hx hb dX11_count_1 (by decide) (by decide) rfl (by decide) ?_
  refine lv_aload_n hx hb dX11_count_126 rfl (lv_at hl 0 rfl) ?_
  refine md_getr hx hb hW hown hK hG f_X11_31_10 (Nat.lt_of_lt_of_le (by decide) hZ) hK0 (b := 4) hR0_3 dX11_count_127 ?_
  refine md_geti hx hb hW hown hK hG f_X11_202_9 (Nat.lt_of_lt_of_le (by decide) hZ) hK4 (v := 0) hM4_7 dX11_count_130 ?_
  exact md_endi hx hb hr hlocks hK hT hG (⟨rfl, rfl⟩) dX11_count_133
set_option maxRecDepth 100000 in
set_option maxHeartbeats 4000000 in
theorem c_X11_count_8 (l : Launch) (D : va_G) (cy : Nat → ClassId) (tx : (Nat → Nat) × (Nat → Nat)) (base Z : Nat) (K N : Nat → Nat) (M : Nat → Nat → Int32) (R : Nat → Nat → Option Nat) (J : Nat → Nat → Int64) (hZ : 104 ≤ Z) (hK0 : K 0 = 11) (hR0_3 : R 0 3 = some 4) (hK4 : K 4 = 10) (hM4_8 : M 4 8 = 0) : Met l yX11_count [Cond.code yX11_count cX11_count 2 (some .int)] (md_rm 1 0 0) (va_Pc [.ref (base + 0), .int 7] (md_U D cy tx base Z K N M R J)) (mQi D cy tx base (fun r u => r = 0 ∧ u = (Z, K, N, M, R, J))) 0 0 (fun q => base ≤ q) := by
  refine Met.ofW (cc := cX11_count) (maxL := 2) (ret := (some .int)) (by decide) rfl ?_
  intro p e s m args below meth c s₁ B hml hv
  have hW : ∀ w ∈ lw_tbl, goodWord w = true → w.before args s = true := fun w h g => hv.2.2.2.1.2.1 w h g _
  obtain ⟨rfl, hU⟩ := hv
  have hx := B.exec
  have hb := B.bytes
  have hr := B.returns
  have hlocks := B.notSynchronized
  have hown : s.vm.findClass RX11 = some m.cls := findClass_of_methodNamed B.named
  have hK := hU.2.2.1
  have hT := hU.2.2.2
  have hG := md_G.start hU
  have hl := lv_entry ([.ref (base + 0), .int 7]) (n := 2) (Nat.le_of_ble_eq_true rfl)
  rw [lg_entry_eq]
  generalize (lg_sl ([.ref (base + 0), .int 7]) ++ List.replicate (2 - (lg_sl ([.ref (base + 0), .int 7])).length) Slot.unset).toArray = ls at hl ⊢
  have hl : lv_has ls 2 [(0, .ref (base + 0)), (1, .int 7)] := hl
  refine lv_iload_n hx hb dX11_count_0 rfl (lv_at hl 1 rfl) ?_
  refine lv_tableIn (off := 133) (tgt := 134) hx hb dX11_count_1 (by decide) (by decide) rfl (by decide) ?_
  refine lv_aload_n hx hb dX11_count_134 rfl (lv_at hl 0 rfl) ?_
  refine md_getr hx hb hW hown hK hG f_X11_31_10 (Nat.lt_of_lt_of_le (by decide) hZ) hK0 (b := 4) hR0_3 dX11_count_135 ?_
  refine md_geti hx hb hW hown hK hG f_X11_276_9 (Nat.lt_of_lt_of_le (by decide) hZ) hK4 (v := 0) hM4_8 dX11_count_138 ?_
  exact md_endi hx hb hr hlocks hK hT hG (⟨rfl, rfl⟩) dX11_count_141
set_option maxRecDepth 100000 in
set_option maxHeartbeats 4000000 in
theorem c_X11_count_9 (l : Launch) (D : va_G) (cy : Nat → ClassId) (tx : (Nat → Nat) × (Nat → Nat)) (base Z : Nat) (K N : Nat → Nat) (M : Nat → Nat → Int32) (R : Nat → Nat → Option Nat) (J : Nat → Nat → Int64) (hZ : 104 ≤ Z) (hK0 : K 0 = 11) (hR0_3 : R 0 3 = some 4) (hK4 : K 4 = 10) (hM4_6 : M 4 6 = 0) : Met l yX11_count [Cond.code yX11_count cX11_count 2 (some .int)] (md_rm 1 0 0) (va_Pc [.ref (base + 0), .int 8] (md_U D cy tx base Z K N M R J)) (mQi D cy tx base (fun r u => r = 0 ∧ u = (Z, K, N, M, R, J))) 0 0 (fun q => base ≤ q) := by
  refine Met.ofW (cc := cX11_count) (maxL := 2) (ret := (some .int)) (by decide) rfl ?_
  intro p e s m args below meth c s₁ B hml hv
  have hW : ∀ w ∈ lw_tbl, goodWord w = true → w.before args s = true := fun w h g => hv.2.2.2.1.2.1 w h g _
  obtain ⟨rfl, hU⟩ := hv
  have hx := B.exec
  have hb := B.bytes
  have hr := B.returns
  have hlocks := B.notSynchronized
  have hown : s.vm.findClass RX11 = some m.cls := findClass_of_methodNamed B.named
  have hK := hU.2.2.1
  have hT := hU.2.2.2
  have hG := md_G.start hU
  have hl := lv_entry ([.ref (base + 0), .int 8]) (n := 2) (Nat.le_of_ble_eq_true rfl)
  rw [lg_entry_eq]
  generalize (lg_sl ([.ref (base + 0), .int 8]) ++ List.replicate (2 - (lg_sl ([.ref (base + 0), .int 8])).length) Slot.unset).toArray = ls at hl ⊢
  have hl : lv_has ls 2 [(0, .ref (base + 0)), (1, .int 8)] := hl
  refine lv_iload_n hx hb dX11_count_0 rfl (lv_at hl 1 rfl) ?_
  refine lv_tableIn (off := 141) (tgt := 142) hx hb dX11_count_1 (by decide) (by decide) rfl (by decide) ?_
  refine lv_aload_n hx hb dX11_count_142 rfl (lv_at hl 0 rfl) ?_
  refine md_getr hx hb hW hown hK hG f_X11_31_10 (Nat.lt_of_lt_of_le (by decide) hZ) hK0 (b := 4) hR0_3 dX11_count_143 ?_
  refine md_geti hx hb hW hown hK hG f_X11_106_9 (Nat.lt_of_lt_of_le (by decide) hZ) hK4 (v := 0) hM4_6 dX11_count_146 ?_
  exact md_endi hx hb hr hlocks hK hT hG (⟨rfl, rfl⟩) dX11_count_149
set_option maxRecDepth 100000 in
set_option maxHeartbeats 4000000 in
theorem c_X11_count_10 (l : Launch) (D : va_G) (cy : Nat → ClassId) (tx : (Nat → Nat) × (Nat → Nat)) (base Z : Nat) (K N : Nat → Nat) (M : Nat → Nat → Int32) (R : Nat → Nat → Option Nat) (J : Nat → Nat → Int64) (hZ : 104 ≤ Z) (hK0 : K 0 = 11) (hM0_1 : M 0 1 = 0) : Met l yX11_count [Cond.code yX11_count cX11_count 2 (some .int)] (md_rm 1 0 0) (va_Pc [.ref (base + 0), .int 9] (md_U D cy tx base Z K N M R J)) (mQi D cy tx base (fun r u => r = 0 ∧ u = (Z, K, N, M, R, J))) 0 0 (fun q => base ≤ q) := by
  refine Met.ofW (cc := cX11_count) (maxL := 2) (ret := (some .int)) (by decide) rfl ?_
  intro p e s m args below meth c s₁ B hml hv
  have hW : ∀ w ∈ lw_tbl, goodWord w = true → w.before args s = true := fun w h g => hv.2.2.2.1.2.1 w h g _
  obtain ⟨rfl, hU⟩ := hv
  have hx := B.exec
  have hb := B.bytes
  have hr := B.returns
  have hlocks := B.notSynchronized
  have hown : s.vm.findClass RX11 = some m.cls := findClass_of_methodNamed B.named
  have hK := hU.2.2.1
  have hT := hU.2.2.2
  have hG := md_G.start hU
  have hl := lv_entry ([.ref (base + 0), .int 9]) (n := 2) (Nat.le_of_ble_eq_true rfl)
  rw [lg_entry_eq]
  generalize (lg_sl ([.ref (base + 0), .int 9]) ++ List.replicate (2 - (lg_sl ([.ref (base + 0), .int 9])).length) Slot.unset).toArray = ls at hl ⊢
  have hl : lv_has ls 2 [(0, .ref (base + 0)), (1, .int 9)] := hl
  refine lv_iload_n hx hb dX11_count_0 rfl (lv_at hl 1 rfl) ?_
  refine lv_tableIn (off := 149) (tgt := 150) hx hb dX11_count_1 (by decide) (by decide) rfl (by decide) ?_
  refine lv_aload_n hx hb dX11_count_150 rfl (lv_at hl 0 rfl) ?_
  refine md_geti hx hb hW hown hK hG f_X11_94_10 (Nat.lt_of_lt_of_le (by decide) hZ) hK0 (v := 0) hM0_1 dX11_count_151 ?_
  exact md_endi hx hb hr hlocks hK hT hG (⟨rfl, rfl⟩) dX11_count_154
set_option maxRecDepth 100000 in
set_option maxHeartbeats 4000000 in
theorem c_X11_count_11 (l : Launch) (D : va_G) (cy : Nat → ClassId) (tx : (Nat → Nat) × (Nat → Nat)) (base Z : Nat) (K N : Nat → Nat) (M : Nat → Nat → Int32) (R : Nat → Nat → Option Nat) (J : Nat → Nat → Int64) (hZ : 104 ≤ Z) (hK0 : K 0 = 11) (hR0_3 : R 0 3 = some 4) (hK4 : K 4 = 10) (hM4_4 : M 4 4 = 0) : Met l yX11_count [Cond.code yX11_count cX11_count 2 (some .int)] (md_rm 1 0 0) (va_Pc [.ref (base + 0), .int 10] (md_U D cy tx base Z K N M R J)) (mQi D cy tx base (fun r u => r = 0 ∧ u = (Z, K, N, M, R, J))) 0 0 (fun q => base ≤ q) := by
  refine Met.ofW (cc := cX11_count) (maxL := 2) (ret := (some .int)) (by decide) rfl ?_
  intro p e s m args below meth c s₁ B hml hv
  have hW : ∀ w ∈ lw_tbl, goodWord w = true → w.before args s = true := fun w h g => hv.2.2.2.1.2.1 w h g _
  obtain ⟨rfl, hU⟩ := hv
  have hx := B.exec
  have hb := B.bytes
  have hr := B.returns
  have hlocks := B.notSynchronized
  have hown : s.vm.findClass RX11 = some m.cls := findClass_of_methodNamed B.named
  have hK := hU.2.2.1
  have hT := hU.2.2.2
  have hG := md_G.start hU
  have hl := lv_entry ([.ref (base + 0), .int 10]) (n := 2) (Nat.le_of_ble_eq_true rfl)
  rw [lg_entry_eq]
  generalize (lg_sl ([.ref (base + 0), .int 10]) ++ List.replicate (2 - (lg_sl ([.ref (base + 0), .int 10])).length) Slot.unset).toArray = ls at hl ⊢
  have hl : lv_has ls 2 [(0, .ref (base + 0)), (1, .int 10)] := hl
  refine lv_iload_n hx hb dX11_count_0 rfl (lv_at hl 1 rfl) ?_
  refine lv_tableIn (off := 154) (tgt := 155) hx hb dX11_count_1 (by decide) (by decide) rfl (by decide) ?_
  refine lv_aload_n hx hb dX11_count_155 rfl (lv_at hl 0 rfl) ?_
  refine md_getr hx hb hW hown hK hG f_X11_31_10 (Nat.lt_of_lt_of_le (by decide) hZ) hK0 (b := 4) hR0_3 dX11_count_156 ?_
  refine md_geti hx hb hW hown hK hG f_X11_174_9 (Nat.lt_of_lt_of_le (by decide) hZ) hK4 (v := 0) hM4_4 dX11_count_159 ?_
  exact md_endi hx hb hr hlocks hK hT hG (⟨rfl, rfl⟩) dX11_count_162
set_option maxRecDepth 100000 in
set_option maxHeartbeats 4000000 in
theorem c_X11_count_12 (l : Launch) (D : va_G) (cy : Nat → ClassId) (tx : (Nat → Nat) × (Nat → Nat)) (base Z : Nat) (K N : Nat → Nat) (M : Nat → Nat → Int32) (R : Nat → Nat → Option Nat) (J : Nat → Nat → Int64) (hZ : 104 ≤ Z) (hK0 : K 0 = 11) (hR0_3 : R 0 3 = some 4) (hK4 : K 4 = 10) (hM4_5 : M 4 5 = 0) : Met l yX11_count [Cond.code yX11_count cX11_count 2 (some .int)] (md_rm 1 0 0) (va_Pc [.ref (base + 0), .int 11] (md_U D cy tx base Z K N M R J)) (mQi D cy tx base (fun r u => r = 0 ∧ u = (Z, K, N, M, R, J))) 0 0 (fun q => base ≤ q) := by
  refine Met.ofW (cc := cX11_count) (maxL := 2) (ret := (some .int)) (by decide) rfl ?_
  intro p e s m args below meth c s₁ B hml hv
  have hW : ∀ w ∈ lw_tbl, goodWord w = true → w.before args s = true := fun w h g => hv.2.2.2.1.2.1 w h g _
  obtain ⟨rfl, hU⟩ := hv
  have hx := B.exec
  have hb := B.bytes
  have hr := B.returns
  have hlocks := B.notSynchronized
  have hown : s.vm.findClass RX11 = some m.cls := findClass_of_methodNamed B.named
  have hK := hU.2.2.1
  have hT := hU.2.2.2
  have hG := md_G.start hU
  have hl := lv_entry ([.ref (base + 0), .int 11]) (n := 2) (Nat.le_of_ble_eq_true rfl)
  rw [lg_entry_eq]
  generalize (lg_sl ([.ref (base + 0), .int 11]) ++ List.replicate (2 - (lg_sl ([.ref (base + 0), .int 11])).length) Slot.unset).toArray = ls at hl ⊢
  have hl : lv_has ls 2 [(0, .ref (base + 0)), (1, .int 11)] := hl
  refine lv_iload_n hx hb dX11_count_0 rfl (lv_at hl 1 rfl) ?_
  refine lv_tableIn (off := 162) (tgt := 163) hx hb dX11_count_1 (by decide) (by decide) rfl (by decide) ?_
  refine lv_aload_n hx hb dX11_count_163 rfl (lv_at hl 0 rfl) ?_
  refine md_getr hx hb hW hown hK hG f_X11_31_10 (Nat.lt_of_lt_of_le (by decide) hZ) hK0 (b := 4) hR0_3 dX11_count_164 ?_
  refine md_geti hx hb hW hown hK hG f_X11_177_9 (Nat.lt_of_lt_of_le (by decide) hZ) hK4 (v := 0) hM4_5 dX11_count_167 ?_
  exact md_endi hx hb hr hlocks hK hT hG (⟨rfl, rfl⟩) dX11_count_170
set_option maxRecDepth 100000 in
set_option maxHeartbeats 4000000 in
theorem c_X11_count_13 (l : Launch) (D : va_G) (cy : Nat → ClassId) (tx : (Nat → Nat) × (Nat → Nat)) (base Z : Nat) (K N : Nat → Nat) (M : Nat → Nat → Int32) (R : Nat → Nat → Option Nat) (J : Nat → Nat → Int64) (hZ : 104 ≤ Z) (p1 : Int32) (h1 : p1.toInt < 0 ∨ 11 < p1.toInt) : Met l yX11_count [Cond.code yX11_count cX11_count 2 (some .int)] (md_rm 1 0 0) (va_Pc [.ref (base + 0), .int p1] (md_U D cy tx base Z K N M R J)) (mQi D cy tx base (fun r u => r = (-1) ∧ u = (Z, K, N, M, R, J))) 0 0 (fun q => base ≤ q) := by
  refine Met.ofW (cc := cX11_count) (maxL := 2) (ret := (some .int)) (by decide) rfl ?_
  intro p e s m args below meth c s₁ B hml hv
  have hW : ∀ w ∈ lw_tbl, goodWord w = true → w.before args s = true := fun w h g => hv.2.2.2.1.2.1 w h g _
  obtain ⟨rfl, hU⟩ := hv
  have hx := B.exec
  have hb := B.bytes
  have hr := B.returns
  have hlocks := B.notSynchronized
  have hown : s.vm.findClass RX11 = some m.cls := findClass_of_methodNamed B.named
  have hK := hU.2.2.1
  have hT := hU.2.2.2
  have hG := md_G.start hU
  have hl := lv_entry ([.ref (base + 0), .int p1]) (n := 2) (Nat.le_of_ble_eq_true rfl)
  rw [lg_entry_eq]
  generalize (lg_sl ([.ref (base + 0), .int p1]) ++ List.replicate (2 - (lg_sl ([.ref (base + 0), .int p1])).length) Slot.unset).toArray = ls at hl ⊢
  have hl : lv_has ls 2 [(0, .ref (base + 0)), (1, .int p1)] := hl
  refine lv_iload_n hx hb dX11_count_0 rfl (lv_at hl 1 rfl) ?_
  refine lv_tableOut (tgt := 171) hx hb dX11_count_1 h1 (by decide) ?_
  refine lv_iconst (v := (-1)) hx hb dX11_count_171 (by decide) ?_
  exact md_endi hx hb hr hlocks hK hT hG (⟨rfl, rfl⟩) dX11_count_172
set_option maxRecDepth 100000 in
set_option maxHeartbeats 4000000 in
theorem c_X9_init_7 (l : Launch) (D : va_G) (cy : Nat → ClassId) (tx : (Nat → Nat) × (Nat → Nat)) (base : Nat) (K N : Nat → Nat) (M : Nat → Nat → Int32) (R : Nat → Nat → Option Nat) (J : Nat → Nat → Int64) (hF : ∀ a, 105 ≤ a → ∀ k, M a k = 0 ∧ R a k = none ∧ J a k = 0) (hK105 : K 105 = 14) (hN105 : N 105 = 120) (hK104 : K 104 = 10) (hK106 : K 106 = 14) (hN106 : N 106 = 10) (hK107 : K 107 = 14) (hN107 : N 107 = 10) (hK108 : K 108 = 14) (hN108 : N 108 = 10) (hK109 : K 109 = 14) (hN109 : N 109 = 10) (hK110 : K 110 = 14) (hN110 : N 110 = 8) (hK111 : K 111 = 14) (hN111 : N 111 = 48) : Met l yX9_init [Cond.code yX9_init cX9_init 1 none] (md_rm 1 7 216) (va_Pc [.ref (base + 104)] (md_U D cy tx base 105 K N M R J)) (mQv D cy tx base (fun u => u = (112, K, N, M, (u2 (u2 (u2 (u2 (u2 (u2 (u2 R 104 9 (some 105)) 104 10 (some 106)) 104 11 (some 107)) 104 12 (some 108)) 104 13 (some 109)) 104 14 (some 110)) 104 15 (some 111)), J))) 7 216 (fun q => base ≤ q) := by
  refine Met.ofW (cc := cX9_init) (maxL := 1) (ret := none) (by decide) rfl ?_
  intro p e s m args below meth c s₁ B hml hv
  have hW : ∀ w ∈ lw_tbl, goodWord w = true → w.before args s = true := fun w h g => hv.2.2.2.1.2.1 w h g _
  obtain ⟨rfl, hU⟩ := hv
  have hx := B.exec
  have hb := B.bytes
  have hr := B.returns
  have hlocks := B.notSynchronized
  have hown : s.vm.findClass RX9 = some m.cls := findClass_of_methodNamed B.named
  have hK := hU.2.2.1
  have hT := hU.2.2.2
  have hG := md_G.start hU
  have hin : meth.name = "<init>" := (name_of_methodNamed B.named B.method).1
  have hl := lv_entry ([.ref (base + 104)]) (n := 1) (Nat.le_of_ble_eq_true rfl)
  rw [lg_entry_eq]
  generalize (lg_sl ([.ref (base + 104)]) ++ List.replicate (1 - (lg_sl ([.ref (base + 104)])).length) Slot.unset).toArray = ls at hl ⊢
  have hl : lv_has ls 1 [(0, .ref (base + 104))] := hl
  refine lv_aload_n hx hb dX9_init_0 rfl (lv_at hl 0 rfl) ?_
  refine W.objInit hx hb hown (hW _ w_1_35 rfl) (hW _ w_1_27 rfl) (hW _ w_1_28 rfl) rfl (by rw [hml]; exact hl.1) rfl dX9_init_1 (Nat.le_of_ble_eq_true rfl) (Nat.le_of_ble_eq_true rfl) ?_
  refine W.eq (g2 := F0 m 4 ls []) rfl ?_
  refine lv_aload_n hx hb dX9_init_4 rfl (lv_at hl 0 rfl) ?_
  refine lv_bipush (v := 120) hx hb dX9_init_5 (by decide) ?_
  refine md_newa hx hb hW hK hG (Or.inr (Or.inl ⟨rfl, rfl⟩)) w_1_144 (na := 120) (by decide) (by decide) (by decide) (Or.inl ⟨hK105, hN105⟩) (fun k => (hF 105 (by decide) k).1) (fun k => (hF 105 (by decide) k).2.2) (Nat.le_of_ble_eq_true rfl) (Nat.le_of_ble_eq_true rfl) dX9_init_7 (fun H hG => ?_)
  have hG : md_G D cy base 106 K N M R J s H _ := hG
  refine md_putF hx hb hW hown hK hG f_X9_9_9 hin rfl (by decide) hK104 rfl rfl dX9_init_9 (fun H locs hG => ?_)
  refine lv_aload_n hx hb dX9_init_12 rfl (lv_at hl 0 rfl) ?_
  refine lv_bipush (v := 10) hx hb dX9_init_13 (by decide) ?_
  refine md_newa hx hb hW hK hG (Or.inr (Or.inl ⟨rfl, rfl⟩)) w_1_144 (na := 10) (by decide) (by decide) (by decide) (Or.inl ⟨hK106, hN106⟩) (fun k => (hF 106 (by decide) k).1) (fun k => (hF 106 (by decide) k).2.2) (Nat.le_of_ble_eq_true rfl) (Nat.le_of_ble_eq_true rfl) dX9_init_15 (fun H hG => ?_)
  have hG : md_G D cy base 107 K N M (u2 R 104 9 (some 105)) J s H _ := hG
  refine md_putF hx hb hW hown hK hG f_X9_15_9 hin rfl (by decide) hK104 rfl rfl dX9_init_17 (fun H locs hG => ?_)
  refine lv_aload_n hx hb dX9_init_20 rfl (lv_at hl 0 rfl) ?_
  refine lv_bipush (v := 10) hx hb dX9_init_21 (by decide) ?_
  refine md_newa hx hb hW hK hG (Or.inr (Or.inl ⟨rfl, rfl⟩)) w_1_144 (na := 10) (by decide) (by decide) (by decide) (Or.inl ⟨hK107, hN107⟩) (fun k => (hF 107 (by decide) k).1) (fun k => (hF 107 (by decide) k).2.2) (Nat.le_of_ble_eq_true rfl) (Nat.le_of_ble_eq_true rfl) dX9_init_23 (fun H hG => ?_)
  have hG : md_G D cy base 108 K N M (u2 (u2 R 104 9 (some 105)) 104 10 (some 106)) J s H _ := hG
  refine md_putF hx hb hW hown hK hG f_X9_18_9 hin rfl (by decide) hK104 rfl rfl dX9_init_25 (fun H locs hG => ?_)
  refine lv_aload_n hx hb dX9_init_28 rfl (lv_at hl 0 rfl) ?_
  refine lv_bipush (v := 10) hx hb dX9_init_29 (by decide) ?_
  refine md_newa hx hb hW hK hG (Or.inr (Or.inl ⟨rfl, rfl⟩)) w_1_144 (na := 10) (by decide) (by decide) (by decide) (Or.inl ⟨hK108, hN108⟩) (fun k => (hF 108 (by decide) k).1) (fun k => (hF 108 (by decide) k).2.2) (Nat.le_of_ble_eq_true rfl) (Nat.le_of_ble_eq_true rfl) dX9_init_31 (fun H hG => ?_)
  have hG : md_G D cy base 109 K N M (u2 (u2 (u2 R 104 9 (some 105)) 104 10 (some 106)) 104 11 (some 107)) J s H _ := hG
  refine md_putF hx hb hW hown hK hG f_X9_21_9 hin rfl (by decide) hK104 rfl rfl dX9_init_33 (fun H locs hG => ?_)
  refine lv_aload_n hx hb dX9_init_36 rfl (lv_at hl 0 rfl) ?_
  refine lv_bipush (v := 10) hx hb dX9_init_37 (by decide) ?_
  refine md_newa hx hb hW hK hG (Or.inr (Or.inl ⟨rfl, rfl⟩)) w_1_144 (na := 10) (by decide) (by decide) (by decide) (Or.inl ⟨hK109, hN109⟩) (fun k => (hF 109 (by decide) k).1) (fun k => (hF 109 (by decide) k).2.2) (Nat.le_of_ble_eq_true rfl) (Nat.le_of_ble_eq_true rfl) dX9_init_39 (fun H hG => ?_)
  have hG : md_G D cy base 110 K N M (u2 (u2 (u2 (u2 R 104 9 (some 105)) 104 10 (some 106)) 104 11 (some 107)) 104 12 (some 108)) J s H _ := hG
  refine md_putF hx hb hW hown hK hG f_X9_24_9 hin rfl (by decide) hK104 rfl rfl dX9_init_41 (fun H locs hG => ?_)
  refine lv_aload_n hx hb dX9_init_44 rfl (lv_at hl 0 rfl) ?_
  refine lv_bipush (v := 8) hx hb dX9_init_45 (by decide) ?_
  refine md_newa hx hb hW hK hG (Or.inr (Or.inl ⟨rfl, rfl⟩)) w_1_144 (na := 8) (by decide) (by decide) (by decide) (Or.inl ⟨hK110, hN110⟩) (fun k => (hF 110 (by decide) k).1) (fun k => (hF 110 (by decide) k).2.2) (Nat.le_of_ble_eq_true rfl) (Nat.le_of_ble_eq_true rfl) dX9_init_47 (fun H hG => ?_)
  have hG : md_G D cy base 111 K N M (u2 (u2 (u2 (u2 (u2 R 104 9 (some 105)) 104 10 (some 106)) 104 11 (some 107)) 104 12 (some 108)) 104 13 (some 109)) J s H _ := hG
  refine md_putF hx hb hW hown hK hG f_X9_27_9 hin rfl (by decide) hK104 rfl rfl dX9_init_49 (fun H locs hG => ?_)
  refine lv_aload_n hx hb dX9_init_52 rfl (lv_at hl 0 rfl) ?_
  refine lv_bipush (v := 48) hx hb dX9_init_53 (by decide) ?_
  refine md_newa hx hb hW hK hG (Or.inr (Or.inl ⟨rfl, rfl⟩)) w_1_144 (na := 48) (by decide) (by decide) (by decide) (Or.inl ⟨hK111, hN111⟩) (fun k => (hF 111 (by decide) k).1) (fun k => (hF 111 (by decide) k).2.2) (Nat.le_of_ble_eq_true rfl) (Nat.le_of_ble_eq_true rfl) dX9_init_55 (fun H hG => ?_)
  have hG : md_G D cy base 112 K N M (u2 (u2 (u2 (u2 (u2 (u2 R 104 9 (some 105)) 104 10 (some 106)) 104 11 (some 107)) 104 12 (some 108)) 104 13 (some 109)) 104 14 (some 110)) J s H _ := hG
  refine md_putF hx hb hW hown hK hG f_X9_30_9 hin rfl (by decide) hK104 rfl rfl dX9_init_57 (fun H locs hG => ?_)
  exact md_endv hx hb hr hlocks hK hT hG (rfl) dX9_init_60
