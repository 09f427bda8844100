set_option maxRecDepth 100000 in
set_option maxHeartbeats 4000000 in
theorem c_X11_image_5 (l : Launch) (D : va_G) (cy : Nat → ClassId) (tx : (Nat → Nat) × (Nat → Nat)) (base Z : Nat) (K N : Nat → Nat) (M : Nat → Nat → Int32) (R : Nat → Nat → Option Nat) (J : Nat → Nat → Int64) (hZ : 104 ≤ Z) (hK0 : K 0 = 11) (hR0_2 : R 0 2 = some 2) (hK2 : K 2 = 14) (hN2 : N 2 = 2) (hM2_0 : M 2 0 = 0) (p1 : Int32) (h1 : p1 < 0) : Met l yX11_image [Cond.code yX11_image cX11_image 2 (some .int)] (md_rm 2 0 0) (va_Pc [.ref (base + 0), .int p1] (md_U D cy tx base Z K N M R J)) (mQi D cy tx base (fun r u => r = (-2) ∧ u = (Z, K, N, (u2 M 2 0 1), R, J))) 0 0 (fun q => base ≤ q) := by
  refine Met.ofW (cc := cX11_image) (maxL := 2) (ret := (some .int)) (by decide) rfl ?_
  intro p e s m args below meth c s₁ B hml hv
  have hW : ∀ w ∈ lw_tbl, goodWord w = true → w.before args s = true := fun w h g => hv.2.2.2.1.2.1 w h g _
  obtain ⟨rfl, hU⟩ := hv
  have hx := B.exec
  have hb := B.bytes
  have hr := B.returns
  have hlocks := B.notSynchronized
  have hown : s.vm.findClass RX11 = some m.cls := findClass_of_methodNamed B.named
  have hK := hU.2.2.1
  have hT := hU.2.2.2
  have hG := md_G.start hU
  have hl := lv_entry ([.ref (base + 0), .int p1]) (n := 2) (Nat.le_of_ble_eq_true rfl)
  rw [lg_entry_eq]
  generalize (lg_sl ([.ref (base + 0), .int p1]) ++ List.replicate (2 - (lg_sl ([.ref (base + 0), .int p1])).length) Slot.unset).toArray = ls at hl ⊢
  have hl : lv_has ls 2 [(0, .ref (base + 0)), (1, .int p1)] := hl
  refine lv_iload_n hx hb dX11_image_0 rfl (lv_at hl 1 rfl) ?_
  refine lv_if_lt (tgt := 9) hx hb dX11_image_1 (by decide) (fun _ => ?_) (fun h => absurd h1 h)
  refine lv_aload_n hx hb dX11_image_9 rfl (lv_at hl 0 rfl) ?_
  refine lv_iconst (v := 0) hx hb dX11_image_10 (by decide) ?_
  refine md_goi hG (md_runV (As := [.int 0]) (rest := []) hx hb hml hown hW hK hT hG (c_X11_refuse l D cy tx base  Z  K N M R J hZ hK0 hR0_2 hK2 hN2 hM2_0 ) s_X11_158 ⟨rfl, rfl, ⟨Nat.le_of_ble_eq_true rfl, Nat.le_of_ble_eq_true rfl⟩, ⟨Nat.le_of_ble_eq_true rfl, Nat.le_of_ble_eq_true rfl⟩⟩ (Nat.lt_of_lt_of_le (by decide) hZ) hK0 (by decide) rfl rfl hl.1 rfl (Nat.le_of_ble_eq_true rfl) dX11_image_11) (fun r u H locs hp hG => ?_)
  obtain ⟨rfl, rfl⟩ := hp
  have hG : md_G D cy base Z K N (u2 M 2 0 1) R J s H locs := hG
  exact md_endi hx hb hr hlocks hK hT hG (⟨rfl, rfl⟩) dX11_image_14
set_option maxRecDepth 100000 in
set_option maxHeartbeats 4000000 in
theorem c_X11_image_6 (l : Launch) (D : va_G) (cy : Nat → ClassId) (tx : (Nat → Nat) × (Nat → Nat)) (base Z : Nat) (K N : Nat → Nat) (M : Nat → Nat → Int32) (R : Nat → Nat → Option Nat) (J : Nat → Nat → Int64) (hZ : 104 ≤ Z) (hK0 : K 0 = 11) (hR0_2 : R 0 2 = some 2) (hK2 : K 2 = 14) (hN2 : N 2 = 2) (hM2_0 : M 2 0 = 0) (p1 : Int32) (h1 : ¬ p1 < 0) (h2 : ¬ p1 < 4) : Met l yX11_image [Cond.code yX11_image cX11_image 2 (some .int)] (md_rm 2 0 0) (va_Pc [.ref (base + 0), .int p1] (md_U D cy tx base Z K N M R J)) (mQi D cy tx base (fun r u => r = (-2) ∧ u = (Z, K, N, (u2 M 2 0 1), R, J))) 0 0 (fun q => base ≤ q) := by
  refine Met.ofW (cc := cX11_image) (maxL := 2) (ret := (some .int)) (by decide) rfl ?_
  intro p e s m args below meth c s₁ B hml hv
  have hW : ∀ w ∈ lw_tbl, goodWord w = true → w.before args s = true := fun w h g => hv.2.2.2.1.2.1 w h g _
  obtain ⟨rfl, hU⟩ := hv
  have hx := B.exec
  have hb := B.bytes
  have hr := B.returns
  have hlocks := B.notSynchronized
  have hown : s.vm.findClass RX11 = some m.cls := findClass_of_methodNamed B.named
  have hK := hU.2.2.1
  have hT := hU.2.2.2
  have hG := md_G.start hU
  have hl := lv_entry ([.ref (base + 0), .int p1]) (n := 2) (Nat.le_of_ble_eq_true rfl)
  rw [lg_entry_eq]
  generalize (lg_sl ([.ref (base + 0), .int p1]) ++ List.replicate (2 - (lg_sl ([.ref (base + 0), .int p1])).length) Slot.unset).toArray = ls at hl ⊢
  have hl : lv_has ls 2 [(0, .ref (base + 0)), (1, .int p1)] := hl
  refine lv_iload_n hx hb dX11_image_0 rfl (lv_at hl 1 rfl) ?_
  refine lv_if_lt (tgt := 9) hx hb dX11_image_1 (by decide) (fun h => absurd h h1) (fun _ => ?_)
  refine lv_iload_n hx hb dX11_image_4 rfl (lv_at hl 1 rfl) ?_
  refine lv_iconst (v := 4) hx hb dX11_image_5 (by decide) ?_
  refine lv_icmp_lt (tgt := 15) hx hb dX11_image_6 (by decide) (fun h => absurd h h2) (fun _ => ?_)
  refine lv_aload_n hx hb dX11_image_9 rfl (lv_at hl 0 rfl) ?_
  refine lv_iconst (v := 0) hx hb dX11_image_10 (by decide) ?_
  refine md_goi hG (md_runV (As := [.int 0]) (rest := []) hx hb hml hown hW hK hT hG (c_X11_refuse l D cy tx base  Z  K N M R J hZ hK0 hR0_2 hK2 hN2 hM2_0 ) s_X11_158 ⟨rfl, rfl, ⟨Nat.le_of_ble_eq_true rfl, Nat.le_of_ble_eq_true rfl⟩, ⟨Nat.le_of_ble_eq_true rfl, Nat.le_of_ble_eq_true rfl⟩⟩ (Nat.lt_of_lt_of_le (by decide) hZ) hK0 (by decide) rfl rfl hl.1 rfl (Nat.le_of_ble_eq_true rfl) dX11_image_11) (fun r u H locs hp hG => ?_)
  obtain ⟨rfl, rfl⟩ := hp
  have hG : md_G D cy base Z K N (u2 M 2 0 1) R J s H locs := hG
  exact md_endi hx hb hr hlocks hK hT hG (⟨rfl, rfl⟩) dX11_image_14
set_option maxRecDepth 100000 in
set_option maxHeartbeats 4000000 in
theorem c_X11_back (l : Launch) (D : va_G) (cy : Nat → ClassId) (tx : (Nat → Nat) × (Nat → Nat)) (base Z : Nat) (K N : Nat → Nat) (M : Nat → Nat → Int32) (R : Nat → Nat → Option Nat) (J : Nat → Nat → Int64) (hZ : 104 ≤ Z) (hK0 : K 0 = 11) (hR0_4 : R 0 4 = some 3) (hK3 : K 3 = 18) (hN3 : N 3 = 4) (hR3_0 : R 3 0 = none) (hR0_2 : R 0 2 = some 2) (hK2 : K 2 = 14) (hN2 : N 2 = 2) (hM2_0 : M 2 0 = 0) : Met l yX11_back [Cond.code yX11_back cX11_back 2 (some .int)] (md_rm 2 0 0) (va_Pc [.ref (base + 0), .int 0] (md_U D cy tx base Z K N M R J)) (mQi D cy tx base (fun r u => r = (-2) ∧ u = (Z, K, N, (u2 M 2 0 1), R, J))) 0 0 (fun q => base ≤ q) := by
  refine Met.ofW (cc := cX11_back) (maxL := 2) (ret := (some .int)) (by decide) rfl ?_
  intro p e s m args below meth c s₁ B hml hv
  have hW : ∀ w ∈ lw_tbl, goodWord w = true → w.before args s = true := fun w h g => hv.2.2.2.1.2.1 w h g _
  obtain ⟨rfl, hU⟩ := hv
  have hx := B.exec
  have hb := B.bytes
  have hr := B.returns
  have hlocks := B.notSynchronized
  have hown : s.vm.findClass RX11 = some m.cls := findClass_of_methodNamed B.named
  have hK := hU.2.2.1
  have hT := hU.2.2.2
  have hG := md_G.start hU
  have hl := lv_entry ([.ref (base + 0), .int 0]) (n := 2) (Nat.le_of_ble_eq_true rfl)
  rw [lg_entry_eq]
  generalize (lg_sl ([.ref (base + 0), .int 0]) ++ List.replicate (2 - (lg_sl ([.ref (base + 0), .int 0])).length) Slot.unset).toArray = ls at hl ⊢
  have hl : lv_has ls 2 [(0, .ref (base + 0)), (1, .int 0)] := hl
  refine lv_iload_n hx hb dX11_back_0 rfl (lv_at hl 1 rfl) ?_
  refine lv_if_lt (tgt := 18) hx hb dX11_back_1 (by decide) (fun h => absurd h (by decide)) (fun _ => ?_)
  refine lv_iload_n hx hb dX11_back_4 rfl (lv_at hl 1 rfl) ?_
  refine lv_iconst (v := 4) hx hb dX11_back_5 (by decide) ?_
  refine lv_icmp_ge (tgt := 18) hx hb dX11_back_6 (by decide) (fun h => absurd h (by decide)) (fun _ => ?_)
  refine lv_aload_n hx hb dX11_back_9 rfl (lv_at hl 0 rfl) ?_
  refine md_getr hx hb hW hown hK hG f_X11_19_10 (Nat.lt_of_lt_of_le (by decide) hZ) hK0 (b := 3) hR0_4 dX11_back_10 ?_
  refine lv_iload_n hx hb dX11_back_13 rfl (lv_at hl 1 rfl) ?_
  refine md_aald (t := 18) hx hb hK hG (Nat.lt_of_lt_of_le (by decide) hZ) hK3 ⟨by decide, by decide⟩ hN3 (md_inD (by decide)) (r := none) hR3_0 dX11_back_14 ?_
  refine lv_ifnonnullN hx hb dX11_back_15 ?_
  refine lv_aload_n hx hb dX11_back_18 rfl (lv_at hl 0 rfl) ?_
  refine lv_iconst (v := 0) hx hb dX11_back_19 (by decide) ?_
  refine md_goi hG (md_runV (As := [.int 0]) (rest := []) hx hb hml hown hW hK hT hG (c_X11_refuse l D cy tx base  Z  K N M R J hZ hK0 hR0_2 hK2 hN2 hM2_0 ) s_X11_158 ⟨rfl, rfl, ⟨Nat.le_of_ble_eq_true rfl, Nat.le_of_ble_eq_true rfl⟩, ⟨Nat.le_of_ble_eq_true rfl, Nat.le_of_ble_eq_true rfl⟩⟩ (Nat.lt_of_lt_of_le (by decide) hZ) hK0 (by decide) rfl rfl hl.1 rfl (Nat.le_of_ble_eq_true rfl) dX11_back_20) (fun r u H locs hp hG => ?_)
  obtain ⟨rfl, rfl⟩ := hp
  have hG : md_G D cy base Z K N (u2 M 2 0 1) R J s H locs := hG
  exact md_endi hx hb hr hlocks hK hT hG (⟨rfl, rfl⟩) dX11_back_23
set_option maxRecDepth 100000 in
set_option maxHeartbeats 4000000 in
theorem c_X11_back_2 (l : Launch) (D : va_G) (cy : Nat → ClassId) (tx : (Nat → Nat) × (Nat → Nat)) (base Z : Nat) (K N : Nat → Nat) (M : Nat → Nat → Int32) (R : Nat → Nat → Option Nat) (J : Nat → Nat → Int64) (hZ : 104 ≤ Z) (hK0 : K 0 = 11) (hR0_4 : R 0 4 = some 3) (hK3 : K 3 = 18) (hN3 : N 3 = 4) (hR3_1 : R 3 1 = none) (hR0_2 : R 0 2 = some 2) (hK2 : K 2 = 14) (hN2 : N 2 = 2) (hM2_0 : M 2 0 = 0) : Met l yX11_back [Cond.code yX11_back cX11_back 2 (some .int)] (md_rm 2 0 0) (va_Pc [.ref (base + 0), .int 1] (md_U D cy tx base Z K N M R J)) (mQi D cy tx base (fun r u => r = (-2) ∧ u = (Z, K, N, (u2 M 2 0 1), R, J))) 0 0 (fun q => base ≤ q) := by
  refine Met.ofW (cc := cX11_back) (maxL := 2) (ret := (some .int)) (by decide) rfl ?_
  intro p e s m args below meth c s₁ B hml hv
  have hW : ∀ w ∈ lw_tbl, goodWord w = true → w.before args s = true := fun w h g => hv.2.2.2.1.2.1 w h g _
  obtain ⟨rfl, hU⟩ := hv
  have hx := B.exec
  have hb := B.bytes
  have hr := B.returns
  have hlocks := B.notSynchronized
  have hown : s.vm.findClass RX11 = some m.cls := findClass_of_methodNamed B.named
  have hK := hU.2.2.1
  have hT := hU.2.2.2
  have hG := md_G.start hU
  have hl := lv_entry ([.ref (base + 0), .int 1]) (n := 2) (Nat.le_of_ble_eq_true rfl)
  rw [lg_entry_eq]
  generalize (lg_sl ([.ref (base + 0), .int 1]) ++ List.replicate (2 - (lg_sl ([.ref (base + 0), .int 1])).length) Slot.unset).toArray = ls at hl ⊢
  have hl : lv_has ls 2 [(0, .ref (base + 0)), (1, .int 1)] := hl
  refine lv_iload_n hx hb dX11_back_0 rfl (lv_at hl 1 rfl) ?_
  refine lv_if_lt (tgt := 18) hx hb dX11_back_1 (by decide) (fun h => absurd h (by decide)) (fun _ => ?_)
  refine lv_iload_n hx hb dX11_back_4 rfl (lv_at hl 1 rfl) ?_
  refine lv_iconst (v := 4) hx hb dX11_back_5 (by decide) ?_
  refine lv_icmp_ge (tgt := 18) hx hb dX11_back_6 (by decide) (fun h => absurd h (by decide)) (fun _ => ?_)
  refine lv_aload_n hx hb dX11_back_9 rfl (lv_at hl 0 rfl) ?_
  refine md_getr hx hb hW hown hK hG f_X11_19_10 (Nat.lt_of_lt_of_le (by decide) hZ) hK0 (b := 3) hR0_4 dX11_back_10 ?_
  refine lv_iload_n hx hb dX11_back_13 rfl (lv_at hl 1 rfl) ?_
  refine md_aald (t := 18) hx hb hK hG (Nat.lt_of_lt_of_le (by decide) hZ) hK3 ⟨by decide, by decide⟩ hN3 (md_inD (by decide)) (r := none) hR3_1 dX11_back_14 ?_
  refine lv_ifnonnullN hx hb dX11_back_15 ?_
  refine lv_aload_n hx hb dX11_back_18 rfl (lv_at hl 0 rfl) ?_
  refine lv_iconst (v := 0) hx hb dX11_back_19 (by decide) ?_
  refine md_goi hG (md_runV (As := [.int 0]) (rest := []) hx hb hml hown hW hK hT hG (c_X11_refuse l D cy tx base  Z  K N M R J hZ hK0 hR0_2 hK2 hN2 hM2_0 ) s_X11_158 ⟨rfl, rfl, ⟨Nat.le_of_ble_eq_true rfl, Nat.le_of_ble_eq_true rfl⟩, ⟨Nat.le_of_ble_eq_true rfl, Nat.le_of_ble_eq_true rfl⟩⟩ (Nat.lt_of_lt_of_le (by decide) hZ) hK0 (by decide) rfl rfl hl.1 rfl (Nat.le_of_ble_eq_true rfl) dX11_back_20) (fun r u H locs hp hG => ?_)
  obtain ⟨rfl, rfl⟩ := hp
  have hG : md_G D cy base Z K N (u2 M 2 0 1) R J s H locs := hG
  exact md_endi hx hb hr hlocks hK hT hG (⟨rfl, rfl⟩) dX11_back_23
set_option maxRecDepth 100000 in
set_option maxHeartbeats 4000000 in
theorem c_X11_back_3 (l : Launch) (D : va_G) (cy : Nat → ClassId) (tx : (Nat → Nat) × (Nat → Nat)) (base Z : Nat) (K N : Nat → Nat) (M : Nat → Nat → Int32) (R : Nat → Nat → Option Nat) (J : Nat → Nat → Int64) (hZ : 104 ≤ Z) (hK0 : K 0 = 11) (hR0_4 : R 0 4 = some 3) (hK3 : K 3 = 18) (hN3 : N 3 = 4) (hR3_2 : R 3 2 = none) (hR0_2 : R 0 2 = some 2) (hK2 : K 2 = 14) (hN2 : N 2 = 2) (hM2_0 : M 2 0 = 0) : Met l yX11_back [Cond.code yX11_back cX11_back 2 (some .int)] (md_rm 2 0 0) (va_Pc [.ref (base + 0), .int 2] (md_U D cy tx base Z K N M R J)) (mQi D cy tx base (fun r u => r = (-2) ∧ u = (Z, K, N, (u2 M 2 0 1), R, J))) 0 0 (fun q => base ≤ q) := by
  refine Met.ofW (cc := cX11_back) (maxL := 2) (ret := (some .int)) (by decide) rfl ?_
  intro p e s m args below meth c s₁ B hml hv
  have hW : ∀ w ∈ lw_tbl, goodWord w = true → w.before args s = true := fun w h g => hv.2.2.2.1.2.1 w h g _
  obtain ⟨rfl, hU⟩ := hv
  have hx := B.exec
  have hb := B.bytes
  have hr := B.returns
  have hlocks := B.notSynchronized
  have hown : s.vm.findClass RX11 = some m.cls := findClass_of_methodNamed B.named
  have hK := hU.2.2.1
  have hT := hU.2.2.2
  have hG := md_G.start hU
  have hl := lv_entry ([.ref (base + 0), .int 2]) (n := 2) (Nat.le_of_ble_eq_true rfl)
  rw [lg_entry_eq]
  generalize (lg_sl ([.ref (base + 0), .int 2]) ++ List.replicate (2 - (lg_sl ([.ref (base + 0), .int 2])).length) Slot.unset).toArray = ls at hl ⊢
  have hl : lv_has ls 2 [(0, .ref (base + 0)), (1, .int 2)] := hl
  refine lv_iload_n hx hb dX11_back_0 rfl (lv_at hl 1 rfl) ?_
  refine lv_if_lt (tgt := 18) hx hb dX11_back_1 (by decide) (fun h => absurd h (by decide)) (fun _ => ?_)
  refine lv_iload_n hx hb dX11_back_4 rfl (lv_at hl 1 rfl) ?_
  refine lv_iconst (v := 4) hx hb dX11_back_5 (by decide) ?_
  refine lv_icmp_ge (tgt := 18) hx hb dX11_back_6 (by decide) (fun h => absurd h (by decide)) (fun _ => ?_)
  refine lv_aload_n hx hb dX11_back_9 rfl (lv_at hl 0 rfl) ?_
  refine md_getr hx hb hW hown hK hG f_X11_19_10 (Nat.lt_of_lt_of_le (by decide) hZ) hK0 (b := 3) hR0_4 dX11_back_10 ?_
  refine lv_iload_n hx hb dX11_back_13 rfl (lv_at hl 1 rfl) ?_
  refine md_aald (t := 18) hx hb hK hG (Nat.lt_of_lt_of_le (by decide) hZ) hK3 ⟨by decide, by decide⟩ hN3 (md_inD (by decide)) (r := none) hR3_2 dX11_back_14 ?_
  refine lv_ifnonnullN hx hb dX11_back_15 ?_
  refine lv_aload_n hx hb dX11_back_18 rfl (lv_at hl 0 rfl) ?_
  refine lv_iconst (v := 0) hx hb dX11_back_19 (by decide) ?_
  refine md_goi hG (md_runV (As := [.int 0]) (rest := []) hx hb hml hown hW hK hT hG (c_X11_refuse l D cy tx base  Z  K N M R J hZ hK0 hR0_2 hK2 hN2 hM2_0 ) s_X11_158 ⟨rfl, rfl, ⟨Nat.le_of_ble_eq_true rfl, Nat.le_of_ble_eq_true rfl⟩, ⟨Nat.le_of_ble_eq_true rfl, Nat.le_of_ble_eq_true rfl⟩⟩ (Nat.lt_of_lt_of_le (by decide) hZ) hK0 (by decide) rfl rfl hl.1 rfl (Nat.le_of_ble_eq_true rfl) dX11_back_20) (fun r u H locs hp hG => ?_)
  obtain ⟨rfl, rfl⟩ := hp
  have hG : md_G D cy base Z K N (u2 M 2 0 1) R J s H locs := hG
  exact md_endi hx hb hr hlocks hK hT hG (⟨rfl, rfl⟩) dX11_back_23
set_option maxRecDepth 100000 in
set_option maxHeartbeats 4000000 in
theorem c_X11_back_4 (l : Launch) (D : va_G) (cy : Nat → ClassId) (tx : (Nat → Nat) × (Nat → Nat)) (base Z : Nat) (K N : Nat → Nat) (M : Nat → Nat → Int32) (R : Nat → Nat → Option Nat) (J : Nat → Nat → Int64) (hZ : 104 ≤ Z) (hK0 : K 0 = 11) (hR0_4 : R 0 4 = some 3) (hK3 : K 3 = 18) (hN3 : N 3 = 4) (hR3_3 : R 3 3 = none) (hR0_2 : R 0 2 = some 2) (hK2 : K 2 = 14) (hN2 : N 2 = 2) (hM2_0 : M 2 0 = 0) : Met l yX11_back [Cond.code yX11_back cX11_back 2 (some .int)] (md_rm 2 0 0) (va_Pc [.ref (base + 0), .int 3] (md_U D cy tx base Z K N M R J)) (mQi D cy tx base (fun r u => r = (-2) ∧ u = (Z, K, N, (u2 M 2 0 1), R, J))) 0 0 (fun q => base ≤ q) := by
  refine Met.ofW (cc := cX11_back) (maxL := 2) (ret := (some .int)) (by decide) rfl ?_
  intro p e s m args below meth c s₁ B hml hv
  have hW : ∀ w ∈ lw_tbl, goodWord w = true → w.before args s = true := fun w h g => hv.2.2.2.1.2.1 w h g _
  obtain ⟨rfl, hU⟩ := hv
  have hx := B.exec
  have hb := B.bytes
  have hr := B.returns
  have hlocks := B.notSynchronized
  have hown : s.vm.findClass RX11 = some m.cls := findClass_of_methodNamed B.named
  have hK := hU.2.2.1
  have hT := hU.2.2.2
  have hG := md_G.start hU
  have hl := lv_entry ([.ref (base + 0), .int 3]) (n := 2) (Nat.le_of_ble_eq_true rfl)
  rw [lg_entry_eq]
  generalize (lg_sl ([.ref (base + 0), .int 3]) ++ List.replicate (2 - (lg_sl ([.ref (base + 0), .int 3])).length) Slot.unset).toArray = ls at hl ⊢
  have hl : lv_has ls 2 [(0, .ref (base + 0)), (1, .int 3)] := hl
  refine lv_iload_n hx hb dX11_back_0 rfl (lv_at hl 1 rfl) ?_
  refine lv_if_lt (tgt := 18) hx hb dX11_back_1 (by decide) (fun h => absurd h (by decide)) (fun _ => ?_)
  refine lv_iload_n hx hb dX11_back_4 rfl (lv_at hl 1 rfl) ?_
  refine lv_iconst (v := 4) hx hb dX11_back_5 (by decide) ?_
  refine lv_icmp_ge (tgt := 18) hx hb dX11_back_6 (by decide) (fun h => absurd h (by decide)) (fun _ => ?_)
  refine lv_aload_n hx hb dX11_back_9 rfl (lv_at hl 0 rfl) ?_
  refine md_getr hx hb hW hown hK hG f_X11_19_10 (Nat.lt_of_lt_of_le (by decide) hZ) hK0 (b := 3) hR0_4 dX11_back_10 ?_
  refine lv_iload_n hx hb dX11_back_13 rfl (lv_at hl 1 rfl) ?_
  refine md_aald (t := 18) hx hb hK hG (Nat.lt_of_lt_of_le (by decide) hZ) hK3 ⟨by decide, by decide⟩ hN3 (md_inD (by decide)) (r := none) hR3_3 dX11_back_14 ?_
  refine lv_ifnonnullN hx hb dX11_back_15 ?_
  refine lv_aload_n hx hb dX11_back_18 rfl (lv_at hl 0 rfl) ?_
  refine lv_iconst (v := 0) hx hb dX11_back_19 (by decide) ?_
  refine md_goi hG (md_runV (As := [.int 0]) (rest := []) hx hb hml hown hW hK hT hG (c_X11_refuse l D cy tx base  Z  K N M R J hZ hK0 hR0_2 hK2 hN2 hM2_0 ) s_X11_158 ⟨rfl, rfl, ⟨Nat.le_of_ble_eq_true rfl, Nat.le_of_ble_eq_true rfl⟩, ⟨Nat.le_of_ble_eq_true rfl, Nat.le_of_ble_eq_true rfl⟩⟩ (Nat.lt_of_lt_of_le (by decide) hZ) hK0 (by decide) rfl rfl hl.1 rfl (Nat.le_of_ble_eq_true rfl) dX11_back_20) (fun r u H locs hp hG => ?_)
  obtain ⟨rfl, rfl⟩ := hp
  have hG : md_G D cy base Z K N (u2 M 2 0 1) R J s H locs := hG
  exact md_endi hx hb hr hlocks hK hT hG (⟨rfl, rfl⟩) dX11_back_23
set_option maxRecDepth 100000 in
set_option maxHeartbeats 4000000 in
theorem c_X11_back_5 (l : Launch) (D : va_G) (cy : Nat → ClassId) (tx : (Nat → Nat) × (Nat → Nat)) (base Z : Nat) (K N : Nat → Nat) (M : Nat → Nat → Int32) (R : Nat → Nat → Option Nat) (J : Nat → Nat → Int64) (hZ : 104 ≤ Z) (hK0 : K 0 = 11) (hR0_2 : R 0 2 = some 2) (hK2 : K 2 = 14) (hN2 : N 2 = 2) (hM2_0 : M 2 0 = 0) (p1 : Int32) (h1 : p1 < 0) : Met l yX11_back [Cond.code yX11_back cX11_back 2 (some .int)] (md_rm 2 0 0) (va_Pc [.ref (base + 0), .int p1] (md_U D cy tx base Z K N M R J)) (mQi D cy tx base (fun r u => r = (-2) ∧ u = (Z, K, N, (u2 M 2 0 1), R, J))) 0 0 (fun q => base ≤ q) := by
  refine Met.ofW (cc := cX11_back) (maxL := 2) (ret := (some .int)) (by decide) rfl ?_
  intro p e s m args below meth c s₁ B hml hv
  have hW : ∀ w ∈ lw_tbl, goodWord w = true → w.before args s = true := fun w h g => hv.2.2.2.1.2.1 w h g _
  obtain ⟨rfl, hU⟩ := hv
  have hx := B.exec
  have hb := B.bytes
  have hr := B.returns
  have hlocks := B.notSynchronized
  have hown : s.vm.findClass RX11 = some m.cls := findClass_of_methodNamed B.named
  have hK := hU.2.2.1
  have hT := hU.2.2.2
  have hG := md_G.start hU
  have hl := lv_entry ([.ref (base + 0), .int p1]) (n := 2) (Nat.le_of_ble_eq_true rfl)
  rw [lg_entry_eq]
  generalize (lg_sl ([.ref (base + 0), .int p1]) ++ List.replicate (2 - (lg_sl ([.ref (base + 0), .int p1])).length) Slot.unset).toArray = ls at hl ⊢
  have hl : lv_has ls 2 [(0, .ref (base + 0)), (1, .int p1)] := hl
  refine lv_iload_n hx hb dX11_back_0 rfl (lv_at hl 1 rfl) ?_
  refine lv_if_lt (tgt := 18) hx hb dX11_back_1 (by decide) (fun _ => ?_) (fun h => absurd h1 h)
  refine lv_aload_n hx hb dX11_back_18 rfl (lv_at hl 0 rfl) ?_
  refine lv_iconst (v := 0) hx hb dX11_back_19 (by decide) ?_
  refine md_goi hG (md_runV (As := [.int 0]) (rest := []) hx hb hml hown hW hK hT hG (c_X11_refuse l D cy tx base  Z  K N M R J hZ hK0 hR0_2 hK2 hN2 hM2_0 ) s_X11_158 ⟨rfl, rfl, ⟨Nat.le_of_ble_eq_true rfl, Nat.le_of_ble_eq_true rfl⟩, ⟨Nat.le_of_ble_eq_true rfl, Nat.le_of_ble_eq_true rfl⟩⟩ (Nat.lt_of_lt_of_le (by decide) hZ) hK0 (by decide) rfl rfl hl.1 rfl (Nat.le_of_ble_eq_true rfl) dX11_back_20) (fun r u H locs hp hG => ?_)
  obtain ⟨rfl, rfl⟩ := hp
  have hG : md_G D cy base Z K N (u2 M 2 0 1) R J s H locs := hG
  exact md_endi hx hb hr hlocks hK hT hG (⟨rfl, rfl⟩) dX11_back_23
set_option maxRecDepth 100000 in
set_option maxHeartbeats 4000000 in
theorem c_X11_back_6 (l : Launch) (D : va_G) (cy : Nat → ClassId) (tx : (Nat → Nat) × (Nat → Nat)) (base Z : Nat) (K N : Nat → Nat) (M : Nat → Nat → Int32) (R : Nat → Nat → Option Nat) (J : Nat → Nat → Int64) (hZ : 104 ≤ Z) (hK0 : K 0 = 11) (hR0_2 : R 0 2 = some 2) (hK2 : K 2 = 14) (hN2 : N 2 = 2) (hM2_0 : M 2 0 = 0) (p1 : Int32) (h1 : ¬ p1 < 0) (h2 : ¬ p1 < 4) : Met l yX11_back [Cond.code yX11_back cX11_back 2 (some .int)] (md_rm 2 0 0) (va_Pc [.ref (base + 0), .int p1] (md_U D cy tx base Z K N M R J)) (mQi D cy tx base (fun r u => r = (-2) ∧ u = (Z, K, N, (u2 M 2 0 1), R, J))) 0 0 (fun q => base ≤ q) := by
  refine Met.ofW (cc := cX11_back) (maxL := 2) (ret := (some .int)) (by decide) rfl ?_
  intro p e s m args below meth c s₁ B hml hv
  have hW : ∀ w ∈ lw_tbl, goodWord w = true → w.before args s = true := fun w h g => hv.2.2.2.1.2.1 w h g _
  obtain ⟨rfl, hU⟩ := hv
  have hx := B.exec
  have hb := B.bytes
  have hr := B.returns
  have hlocks := B.notSynchronized
  have hown : s.vm.findClass RX11 = some m.cls := findClass_of_methodNamed B.named
  have hK := hU.2.2.1
  have hT := hU.2.2.2
  have hG := md_G.start hU
  have hl := lv_entry ([.ref (base + 0), .int p1]) (n := 2) (Nat.le_of_ble_eq_true rfl)
  rw [lg_entry_eq]
  generalize (lg_sl ([.ref (base + 0), .int p1]) ++ List.replicate (2 - (lg_sl ([.ref (base + 0), .int p1])).length) Slot.unset).toArray = ls at hl ⊢
  have hl : lv_has ls 2 [(0, .ref (base + 0)), (1, .int p1)] := hl
  refine lv_iload_n hx hb dX11_back_0 rfl (lv_at hl 1 rfl) ?_
  refine lv_if_lt (tgt := 18) hx hb dX11_back_1 (by decide) (fun h => absurd h h1) (fun _ => ?_)
  refine lv_iload_n hx hb dX11_back_4 rfl (lv_at hl 1 rfl) ?_
  refine lv_iconst (v := 4) hx hb dX11_back_5 (by decide) ?_
  refine lv_icmp_ge (tgt := 18) hx hb dX11_back_6 (by decide) (fun _ => ?_) (fun h => absurd (Int32.not_lt.mp h2) h)
  refine lv_aload_n hx hb dX11_back_18 rfl (lv_at hl 0 rfl) ?_
  refine lv_iconst (v := 0) hx hb dX11_back_19 (by decide) ?_
  refine md_goi hG (md_runV (As := [.int 0]) (rest := []) hx hb hml hown hW hK hT hG (c_X11_refuse l D cy tx base  Z  K N M R J hZ hK0 hR0_2 hK2 hN2 hM2_0 ) s_X11_158 ⟨rfl, rfl, ⟨Nat.le_of_ble_eq_true rfl, Nat.le_of_ble_eq_true rfl⟩, ⟨Nat.le_of_ble_eq_true rfl, Nat.le_of_ble_eq_true rfl⟩⟩ (Nat.lt_of_lt_of_le (by decide) hZ) hK0 (by decide) rfl rfl hl.1 rfl (Nat.le_of_ble_eq_true rfl) dX11_back_20) (fun r u H locs hp hG => ?_)
  obtain ⟨rfl, rfl⟩ := hp
  have hG : md_G D cy base Z K N (u2 M 2 0 1) R J s H locs := hG
  exact md_endi hx hb hr hlocks hK hT hG (⟨rfl, rfl⟩) dX11_back_23
