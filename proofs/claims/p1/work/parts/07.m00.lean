set_option maxRecDepth 100000 in
set_option maxHeartbeats 4000000 in
theorem c_X12_four (l : Launch) (D : va_G) (cy : Nat → ClassId) (tx : (Nat → Nat) × (Nat → Nat)) (base Z : Nat) (K N : Nat → Nat) (M : Nat → Nat → Int32) (R : Nat → Nat → Option Nat) (J : Nat → Nat → Int64) (hZ : 104 ≤ Z) (hK69 : K 69 = 12) (hR69_0 : R 69 0 = some 70) (hM69_1 : M 69 1 = 0) (hK70 : K 70 = 13) (hN70 : N 70 = 400) (p1 : Int32) : Met l yX12_four [Cond.code yX12_four cX12_four 3 none] (md_rm 1 0 0) (va_Pc [.ref (base + 69), .int p1] (md_U D cy tx base Z K N M R J)) (mQv D cy tx base (fun u => u = (Z, K, N, (u2 (u2 (u2 (u2 (u2 (u2 (u2 (u2 M 70 0 (vp_nar .byte ((p1 >>> (24 &&& 31)).toInt8.toInt32))) 69 1 1) 70 1 (vp_nar .byte ((p1 >>> (16 &&& 31)).toInt8.toInt32))) 69 1 2) 70 2 (vp_nar .byte ((p1 >>> (8 &&& 31)).toInt8.toInt32))) 69 1 3) 70 3 (vp_nar .byte ((p1 >>> (0 &&& 31)).toInt8.toInt32))) 69 1 4), R, J))) 0 0 (fun q => base ≤ q) := by
  refine Met.ofW (cc := cX12_four) (maxL := 3) (ret := none) (by decide) rfl ?_
  intro p e s m args below meth c s₁ B hml hv
  have hW : ∀ w ∈ lw_tbl, goodWord w = true → w.before args s = true := fun w h g => hv.2.2.2.1.2.1 w h g _
  obtain ⟨rfl, hU⟩ := hv
  have hx := B.exec
  have hb := B.bytes
  have hr := B.returns
  have hlocks := B.notSynchronized
  have hown : s.vm.findClass RX12 = some m.cls := findClass_of_methodNamed B.named
  have hK := hU.2.2.1
  have hT := hU.2.2.2
  have hG := md_G.start hU
  have hl := lv_entry ([.ref (base + 69), .int p1]) (n := 3) (Nat.le_of_ble_eq_true rfl)
  rw [lg_entry_eq]
  generalize (lg_sl ([.ref (base + 69), .int p1]) ++ List.replicate (3 - (lg_sl ([.ref (base + 69), .int p1])).length) Slot.unset).toArray = ls at hl ⊢
  have hl : lv_has ls 3 [(0, .ref (base + 69)), (1, .int p1)] := hl
  refine lv_bipush (v := 24) hx hb dX12_four_0 (by decide) ?_
  refine lv_istore_n (lv' := [(2, .int 24), (0, .ref (base + 69)), (1, .int p1)]) hx hb dX12_four_2 rfl hl (by decide) rfl (fun ls hl => ?_)
  refine lv_iload_n hx hb dX12_four_3 rfl (lv_at hl 0 rfl) ?_
  refine lv_if_lt (tgt := 36) hx hb dX12_four_4 (by decide) (fun h => absurd h (by decide)) (fun _ => ?_)
  refine lv_aload_n hx hb dX12_four_7 rfl (lv_at hl 1 rfl) ?_
  refine md_getr hx hb hW hown hK hG f_X12_7_11 (Nat.lt_of_lt_of_le (by decide) hZ) hK69 (b := 70) hR69_0 dX12_four_8 ?_
  refine lv_aload_n hx hb dX12_four_11 rfl (lv_at hl 1 rfl) ?_
  refine md_geti hx hb hW hown hK hG f_X12_116_11 (Nat.lt_of_lt_of_le (by decide) hZ) hK69 (v := 0) hM69_1 dX12_four_12 ?_
  refine lv_iload_n hx hb dX12_four_15 rfl (lv_at hl 2 rfl) ?_
  refine lv_iload_n hx hb dX12_four_16 rfl (lv_at hl 0 rfl) ?_
  refine lv_ishr hx hb dX12_four_17 ?_
  refine lv_i2b hx hb dX12_four_18 rfl ?_
  refine md_bast hx hb hK hG (Nat.lt_of_lt_of_le (by decide) hZ) hK70 hN70 (md_inD (by decide)) (k := 0) (by decide) dX12_four_19 (fun H locs hG => ?_)
  refine lv_aload_n hx hb dX12_four_20 rfl (lv_at hl 1 rfl) ?_
  refine lv_dup hx hb dX12_four_21 rfl ?_
  refine md_geti hx hb hW hown hK hG f_X12_116_11 (Nat.lt_of_lt_of_le (by decide) hZ) hK69 (v := 0) hM69_1 dX12_four_22 ?_
  refine lv_iconst (v := 1) hx hb dX12_four_25 (by decide) ?_
  refine lv_iadd hx hb dX12_four_26 ?_
  refine md_top (y := 1) (by decide) ?_
  refine md_puti hx hb hW hown hK hG f_X12_116_11 (Nat.lt_of_lt_of_le (by decide) hZ) hK69 rfl rfl dX12_four_27 (fun H locs hG => ?_)
  refine lv_iinc (v := 16) (lv' := [(2, .int 16), (0, .ref (base + 69)), (1, .int p1)]) hx hb dX12_four_30 hl (k := 0) rfl (by decide) (by decide) rfl (fun ls hl => ?_)
  refine lv_goto (tgt := 3) hx hb dX12_four_33 (by decide) ?_
  refine lv_iload_n hx hb dX12_four_3 rfl (lv_at hl 0 rfl) ?_
  refine lv_if_lt (tgt := 36) hx hb dX12_four_4 (by decide) (fun h => absurd h (by decide)) (fun _ => ?_)
  refine lv_aload_n hx hb dX12_four_7 rfl (lv_at hl 1 rfl) ?_
  refine md_getr hx hb hW hown hK hG f_X12_7_11 (Nat.lt_of_lt_of_le (by decide) hZ) hK69 (b := 70) hR69_0 dX12_four_8 ?_
  refine lv_aload_n hx hb dX12_four_11 rfl (lv_at hl 1 rfl) ?_
  refine md_geti hx hb hW hown hK hG f_X12_116_11 (Nat.lt_of_lt_of_le (by decide) hZ) hK69 (v := 1) rfl dX12_four_12 ?_
  refine lv_iload_n hx hb dX12_four_15 rfl (lv_at hl 2 rfl) ?_
  refine lv_iload_n hx hb dX12_four_16 rfl (lv_at hl 0 rfl) ?_
  refine lv_ishr hx hb dX12_four_17 ?_
  refine lv_i2b hx hb dX12_four_18 rfl ?_
  refine md_bast hx hb hK hG (Nat.lt_of_lt_of_le (by decide) hZ) hK70 hN70 (md_inD (by decide)) (k := 1) (by decide) dX12_four_19 (fun H locs hG => ?_)
  refine lv_aload_n hx hb dX12_four_20 rfl (lv_at hl 1 rfl) ?_
  refine lv_dup hx hb dX12_four_21 rfl ?_
  refine md_geti hx hb hW hown hK hG f_X12_116_11 (Nat.lt_of_lt_of_le (by decide) hZ) hK69 (v := 1) rfl dX12_four_22 ?_
  refine lv_iconst (v := 1) hx hb dX12_four_25 (by decide) ?_
  refine lv_iadd hx hb dX12_four_26 ?_
  refine md_top (y := 2) (by decide) ?_
  refine md_puti hx hb hW hown hK hG f_X12_116_11 (Nat.lt_of_lt_of_le (by decide) hZ) hK69 rfl rfl dX12_four_27 (fun H locs hG => ?_)
  refine lv_iinc (v := 8) (lv' := [(2, .int 8), (0, .ref (base + 69)), (1, .int p1)]) hx hb dX12_four_30 hl (k := 0) rfl (by decide) (by decide) rfl (fun ls hl => ?_)
  refine lv_goto (tgt := 3) hx hb dX12_four_33 (by decide) ?_
  refine lv_iload_n hx hb dX12_four_3 rfl (lv_at hl 0 rfl) ?_
  refine lv_if_lt (tgt := 36) hx hb dX12_four_4 (by decide) (fun h => absurd h (by decide)) (fun _ => ?_)
  refine lv_aload_n hx hb dX12_four_7 rfl (lv_at hl 1 rfl) ?_
  refine md_getr hx hb hW hown hK hG f_X12_7_11 (Nat.lt_of_lt_of_le (by decide) hZ) hK69 (b := 70) hR69_0 dX12_four_8 ?_
  refine lv_aload_n hx hb dX12_four_11 rfl (lv_at hl 1 rfl) ?_
  refine md_geti hx hb hW hown hK hG f_X12_116_11 (Nat.lt_of_lt_of_le (by decide) hZ) hK69 (v := 2) rfl dX12_four_12 ?_
  refine lv_iload_n hx hb dX12_four_15 rfl (lv_at hl 2 rfl) ?_
  refine lv_iload_n hx hb dX12_four_16 rfl (lv_at hl 0 rfl) ?_
  refine lv_ishr hx hb dX12_four_17 ?_
  refine lv_i2b hx hb dX12_four_18 rfl ?_
  refine md_bast hx hb hK hG (Nat.lt_of_lt_of_le (by decide) hZ) hK70 hN70 (md_inD (by decide)) (k := 2) (by decide) dX12_four_19 (fun H locs hG => ?_)
  refine lv_aload_n hx hb dX12_four_20 rfl (lv_at hl 1 rfl) ?_
  refine lv_dup hx hb dX12_four_21 rfl ?_
  refine md_geti hx hb hW hown hK hG f_X12_116_11 (Nat.lt_of_lt_of_le (by decide) hZ) hK69 (v := 2) rfl dX12_four_22 ?_
  refine lv_iconst (v := 1) hx hb dX12_four_25 (by decide) ?_
  refine lv_iadd hx hb dX12_four_26 ?_
  refine md_top (y := 3) (by decide) ?_
  refine md_puti hx hb hW hown hK hG f_X12_116_11 (Nat.lt_of_lt_of_le (by decide) hZ) hK69 rfl rfl dX12_four_27 (fun H locs hG => ?_)
  refine lv_iinc (v := 0) (lv' := [(2, .int 0), (0, .ref (base + 69)), (1, .int p1)]) hx hb dX12_four_30 hl (k := 0) rfl (by decide) (by decide) rfl (fun ls hl => ?_)
  refine lv_goto (tgt := 3) hx hb dX12_four_33 (by decide) ?_
  refine lv_iload_n hx hb dX12_four_3 rfl (lv_at hl 0 rfl) ?_
  refine lv_if_lt (tgt := 36) hx hb dX12_four_4 (by decide) (fun h => absurd h (by decide)) (fun _ => ?_)
  refine lv_aload_n hx hb dX12_four_7 rfl (lv_at hl 1 rfl) ?_
  refine md_getr hx hb hW hown hK hG f_X12_7_11 (Nat.lt_of_lt_of_le (by decide) hZ) hK69 (b := 70) hR69_0 dX12_four_8 ?_
  refine lv_aload_n hx hb dX12_four_11 rfl (lv_at hl 1 rfl) ?_
  refine md_geti hx hb hW hown hK hG f_X12_116_11 (Nat.lt_of_lt_of_le (by decide) hZ) hK69 (v := 3) rfl dX12_four_12 ?_
  refine lv_iload_n hx hb dX12_four_15 rfl (lv_at hl 2 rfl) ?_
  refine lv_iload_n hx hb dX12_four_16 rfl (lv_at hl 0 rfl) ?_
  refine lv_ishr hx hb dX12_four_17 ?_
  refine lv_i2b hx hb dX12_four_18 rfl ?_
  refine md_bast hx hb hK hG (Nat.lt_of_lt_of_le (by decide) hZ) hK70 hN70 (md_inD (by decide)) (k := 3) (by decide) dX12_four_19 (fun H locs hG => ?_)
  refine lv_aload_n hx hb dX12_four_20 rfl (lv_at hl 1 rfl) ?_
  refine lv_dup hx hb dX12_four_21 rfl ?_
  refine md_geti hx hb hW hown hK hG f_X12_116_11 (Nat.lt_of_lt_of_le (by decide) hZ) hK69 (v := 3) rfl dX12_four_22 ?_
  refine lv_iconst (v := 1) hx hb dX12_four_25 (by decide) ?_
  refine lv_iadd hx hb dX12_four_26 ?_
  refine md_top (y := 4) (by decide) ?_
  refine md_puti hx hb hW hown hK hG f_X12_116_11 (Nat.lt_of_lt_of_le (by decide) hZ) hK69 rfl rfl dX12_four_27 (fun H locs hG => ?_)
  refine lv_iinc (v := (-8)) (lv' := [(2, .int (-8)), (0, .ref (base + 69)), (1, .int p1)]) hx hb dX12_four_30 hl (k := 0) rfl (by decide) (by decide) rfl (fun ls hl => ?_)
  refine lv_goto (tgt := 3) hx hb dX12_four_33 (by decide) ?_
  refine lv_iload_n hx hb dX12_four_3 rfl (lv_at hl 0 rfl) ?_
  refine lv_if_lt (tgt := 36) hx hb dX12_four_4 (by decide) (fun _ => ?_) (fun h => absurd h (by decide))
  exact md_endv hx hb hr hlocks hK hT hG (rfl) dX12_four_36
set_option maxRecDepth 100000 in
set_option maxHeartbeats 4000000 in
theorem c_X12_four_2 (l : Launch) (D : va_G) (cy : Nat → ClassId) (tx : (Nat → Nat) × (Nat → Nat)) (base Z : Nat) (K N : Nat → Nat) (M : Nat → Nat → Int32) (R : Nat → Nat → Option Nat) (J : Nat → Nat → Int64) (hZ : 104 ≤ Z) (hK69 : K 69 = 12) (hR69_0 : R 69 0 = some 70) (hM69_1 : M 69 1 = 4) (hK70 : K 70 = 13) (hN70 : N 70 = 400) (p1 : Int32) : Met l yX12_four [Cond.code yX12_four cX12_four 3 none] (md_rm 1 0 0) (va_Pc [.ref (base + 69), .int p1] (md_U D cy tx base Z K N M R J)) (mQv D cy tx base (fun u => u = (Z, K, N, (u2 (u2 (u2 (u2 (u2 (u2 (u2 (u2 M 70 4 (vp_nar .byte ((p1 >>> (24 &&& 31)).toInt8.toInt32))) 69 1 5) 70 5 (vp_nar .byte ((p1 >>> (16 &&& 31)).toInt8.toInt32))) 69 1 6) 70 6 (vp_nar .byte ((p1 >>> (8 &&& 31)).toInt8.toInt32))) 69 1 7) 70 7 (vp_nar .byte ((p1 >>> (0 &&& 31)).toInt8.toInt32))) 69 1 8), R, J))) 0 0 (fun q => base ≤ q) := by
  refine Met.ofW (cc := cX12_four) (maxL := 3) (ret := none) (by decide) rfl ?_
  intro p e s m args below meth c s₁ B hml hv
  have hW : ∀ w ∈ lw_tbl, goodWord w = true → w.before args s = true := fun w h g => hv.2.2.2.1.2.1 w h g _
  obtain ⟨rfl, hU⟩ := hv
  have hx := B.exec
  have hb := B.bytes
  have hr := B.returns
  have hlocks := B.notSynchronized
  have hown : s.vm.findClass RX12 = some m.cls := findClass_of_methodNamed B.named
  have hK := hU.2.2.1
  have hT := hU.2.2.2
  have hG := md_G.start hU
  have hl := lv_entry ([.ref (base + 69), .int p1]) (n := 3) (Nat.le_of_ble_eq_true rfl)
  rw [lg_entry_eq]
  generalize (lg_sl ([.ref (base + 69), .int p1]) ++ List.replicate (3 - (lg_sl ([.ref (base + 69), .int p1])).length) Slot.unset).toArray = ls at hl ⊢
  have hl : lv_has ls 3 [(0, .ref (base + 69)), (1, .int p1)] := hl
  refine lv_bipush (v := 24) hx hb dX12_four_0 (by decide) ?_
  refine lv_istore_n (lv' := [(2, .int 24), (0, .ref (base + 69)), (1, .int p1)]) hx hb dX12_four_2 rfl hl (by decide) rfl (fun ls hl => ?_)
  refine lv_iload_n hx hb dX12_four_3 rfl (lv_at hl 0 rfl) ?_
  refine lv_if_lt (tgt := 36) hx hb dX12_four_4 (by decide) (fun h => absurd h (by decide)) (fun _ => ?_)
  refine lv_aload_n hx hb dX12_four_7 rfl (lv_at hl 1 rfl) ?_
  refine md_getr hx hb hW hown hK hG f_X12_7_11 (Nat.lt_of_lt_of_le (by decide) hZ) hK69 (b := 70) hR69_0 dX12_four_8 ?_
  refine lv_aload_n hx hb dX12_four_11 rfl (lv_at hl 1 rfl) ?_
  refine md_geti hx hb hW hown hK hG f_X12_116_11 (Nat.lt_of_lt_of_le (by decide) hZ) hK69 (v := 4) hM69_1 dX12_four_12 ?_
  refine lv_iload_n hx hb dX12_four_15 rfl (lv_at hl 2 rfl) ?_
  refine lv_iload_n hx hb dX12_four_16 rfl (lv_at hl 0 rfl) ?_
  refine lv_ishr hx hb dX12_four_17 ?_
  refine lv_i2b hx hb dX12_four_18 rfl ?_
  refine md_bast hx hb hK hG (Nat.lt_of_lt_of_le (by decide) hZ) hK70 hN70 (md_inD (by decide)) (k := 4) (by decide) dX12_four_19 (fun H locs hG => ?_)
  refine lv_aload_n hx hb dX12_four_20 rfl (lv_at hl 1 rfl) ?_
  refine lv_dup hx hb dX12_four_21 rfl ?_
  refine md_geti hx hb hW hown hK hG f_X12_116_11 (Nat.lt_of_lt_of_le (by decide) hZ) hK69 (v := 4) hM69_1 dX12_four_22 ?_
  refine lv_iconst (v := 1) hx hb dX12_four_25 (by decide) ?_
  refine lv_iadd hx hb dX12_four_26 ?_
  refine md_top (y := 5) (by decide) ?_
  refine md_puti hx hb hW hown hK hG f_X12_116_11 (Nat.lt_of_lt_of_le (by decide) hZ) hK69 rfl rfl dX12_four_27 (fun H locs hG => ?_)
  refine lv_iinc (v := 16) (lv' := [(2, .int 16), (0, .ref (base + 69)), (1, .int p1)]) hx hb dX12_four_30 hl (k := 0) rfl (by decide) (by decide) rfl (fun ls hl => ?_)
  refine lv_goto (tgt := 3) hx hb dX12_four_33 (by decide) ?_
  refine lv_iload_n hx hb dX12_four_3 rfl (lv_at hl 0 rfl) ?_
  refine lv_if_lt (tgt := 36) hx hb dX12_four_4 (by decide) (fun h => absurd h (by decide)) (fun _ => ?_)
  refine lv_aload_n hx hb dX12_four_7 rfl (lv_at hl 1 rfl) ?_
  refine md_getr hx hb hW hown hK hG f_X12_7_11 (Nat.lt_of_lt_of_le (by decide) hZ) hK69 (b := 70) hR69_0 dX12_four_8 ?_
  refine lv_aload_n hx hb dX12_four_11 rfl (lv_at hl 1 rfl) ?_
  refine md_geti hx hb hW hown hK hG f_X12_116_11 (Nat.lt_of_lt_of_le (by decide) hZ) hK69 (v := 5) rfl dX12_four_12 ?_
  refine lv_iload_n hx hb dX12_four_15 rfl (lv_at hl 2 rfl) ?_
  refine lv_iload_n hx hb dX12_four_16 rfl (lv_at hl 0 rfl) ?_
  refine lv_ishr hx hb dX12_four_17 ?_
  refine lv_i2b hx hb dX12_four_18 rfl ?_
  refine md_bast hx hb hK hG (Nat.lt_of_lt_of_le (by decide) hZ) hK70 hN70 (md_inD (by decide)) (k := 5) (by decide) dX12_four_19 (fun H locs hG => ?_)
  refine lv_aload_n hx hb dX12_four_20 rfl (lv_at hl 1 rfl) ?_
  refine lv_dup hx hb dX12_four_21 rfl ?_
  refine md_geti hx hb hW hown hK hG f_X12_116_11 (Nat.lt_of_lt_of_le (by decide) hZ) hK69 (v := 5) rfl dX12_four_22 ?_
  refine lv_iconst (v := 1) hx hb dX12_four_25 (by decide) ?_
  refine lv_iadd hx hb dX12_four_26 ?_
  refine md_top (y := 6) (by decide) ?_
  refine md_puti hx hb hW hown hK hG f_X12_116_11 (Nat.lt_of_lt_of_le (by decide) hZ) hK69 rfl rfl dX12_four_27 (fun H locs hG => ?_)
  refine lv_iinc (v := 8) (lv' := [(2, .int 8), (0, .ref (base + 69)), (1, .int p1)]) hx hb dX12_four_30 hl (k := 0) rfl (by decide) (by decide) rfl (fun ls hl => ?_)
  refine lv_goto (tgt := 3) hx hb dX12_four_33 (by decide) ?_
  refine lv_iload_n hx hb dX12_four_3 rfl (lv_at hl 0 rfl) ?_
  refine lv_if_lt (tgt := 36) hx hb dX12_four_4 (by decide) (fun h => absurd h (by decide)) (fun _ => ?_)
  refine lv_aload_n hx hb dX12_four_7 rfl (lv_at hl 1 rfl) ?_
  refine md_getr hx hb hW hown hK hG f_X12_7_11 (Nat.lt_of_lt_of_le (by decide) hZ) hK69 (b := 70) hR69_0 dX12_four_8 ?_
  refine lv_aload_n hx hb dX12_four_11 rfl (lv_at hl 1 rfl) ?_
  refine md_geti hx hb hW hown hK hG f_X12_116_11 (Nat.lt_of_lt_of_le (by decide) hZ) hK69 (v := 6) rfl dX12_four_12 ?_
  refine lv_iload_n hx hb dX12_four_15 rfl (lv_at hl 2 rfl) ?_
  refine lv_iload_n hx hb dX12_four_16 rfl (lv_at hl 0 rfl) ?_
  refine lv_ishr hx hb dX12_four_17 ?_
  refine lv_i2b hx hb dX12_four_18 rfl ?_
  refine md_bast hx hb hK hG (Nat.lt_of_lt_of_le (by decide) hZ) hK70 hN70 (md_inD (by decide)) (k := 6) (by decide) dX12_four_19 (fun H locs hG => ?_)
  refine lv_aload_n hx hb dX12_four_20 rfl (lv_at hl 1 rfl) ?_
  refine lv_dup hx hb dX12_four_21 rfl ?_
  refine md_geti hx hb hW hown hK hG f_X12_116_11 (Nat.lt_of_lt_of_le (by decide) hZ) hK69 (v := 6) rfl dX12_four_22 ?_
  refine lv_iconst (v := 1) hx hb dX12_four_25 (by decide) ?_
  refine lv_iadd hx hb dX12_four_26 ?_
  refine md_top (y := 7) (by decide) ?_
  refine md_puti hx hb hW hown hK hG f_X12_116_11 (Nat.lt_of_lt_of_le (by decide) hZ) hK69 rfl rfl dX12_four_27 (fun H locs hG => ?_)
  refine lv_iinc (v := 0) (lv' := [(2, .int 0), (0, .ref (base + 69)), (1, .int p1)]) hx hb dX12_four_30 hl (k := 0) rfl (by decide) (by decide) rfl (fun ls hl => ?_)
  refine lv_goto (tgt := 3) hx hb dX12_four_33 (by decide) ?_
  refine lv_iload_n hx hb dX12_four_3 rfl (lv_at hl 0 rfl) ?_
  refine lv_if_lt (tgt := 36) hx hb dX12_four_4 (by decide) (fun h => absurd h (by decide)) (fun _ => ?_)
  refine lv_aload_n hx hb dX12_four_7 rfl (lv_at hl 1 rfl) ?_
  refine md_getr hx hb hW hown hK hG f_X12_7_11 (Nat.lt_of_lt_of_le (by decide) hZ) hK69 (b := 70) hR69_0 dX12_four_8 ?_
  refine lv_aload_n hx hb dX12_four_11 rfl (lv_at hl 1 rfl) ?_
  refine md_geti hx hb hW hown hK hG f_X12_116_11 (Nat.lt_of_lt_of_le (by decide) hZ) hK69 (v := 7) rfl dX12_four_12 ?_
  refine lv_iload_n hx hb dX12_four_15 rfl (lv_at hl 2 rfl) ?_
  refine lv_iload_n hx hb dX12_four_16 rfl (lv_at hl 0 rfl) ?_
  refine lv_ishr hx hb dX12_four_17 ?_
  refine lv_i2b hx hb dX12_four_18 rfl ?_
  refine md_bast hx hb hK hG (Nat.lt_of_lt_of_le (by decide) hZ) hK70 hN70 (md_inD (by decide)) (k := 7) (by decide) dX12_four_19 (fun H locs hG => ?_)
  refine lv_aload_n hx hb dX12_four_20 rfl (lv_at hl 1 rfl) ?_
  refine lv_dup hx hb dX12_four_21 rfl ?_
  refine md_geti hx hb hW hown hK hG f_X12_116_11 (Nat.lt_of_lt_of_le (by decide) hZ) hK69 (v := 7) rfl dX12_four_22 ?_
  refine lv_iconst (v := 1) hx hb dX12_four_25 (by decide) ?_
  refine lv_iadd hx hb dX12_four_26 ?_
  refine md_top (y := 8) (by decide) ?_
  refine md_puti hx hb hW hown hK hG f_X12_116_11 (Nat.lt_of_lt_of_le (by decide) hZ) hK69 rfl rfl dX12_four_27 (fun H locs hG => ?_)
  refine lv_iinc (v := (-8)) (lv' := [(2, .int (-8)), (0, .ref (base + 69)), (1, .int p1)]) hx hb dX12_four_30 hl (k := 0) rfl (by decide) (by decide) rfl (fun ls hl => ?_)
  refine lv_goto (tgt := 3) hx hb dX12_four_33 (by decide) ?_
  refine lv_iload_n hx hb dX12_four_3 rfl (lv_at hl 0 rfl) ?_
  refine lv_if_lt (tgt := 36) hx hb dX12_four_4 (by decide) (fun _ => ?_) (fun h => absurd h (by decide))
  exact md_endv hx hb hr hlocks hK hT hG (rfl) dX12_four_36
set_option maxRecDepth 100000 in
set_option maxHeartbeats 4000000 in
theorem c_X12_four_3 (l : Launch) (D : va_G) (cy : Nat → ClassId) (tx : (Nat → Nat) × (Nat → Nat)) (base Z : Nat) (K N : Nat → Nat) (M : Nat → Nat → Int32) (R : Nat → Nat → Option Nat) (J : Nat → Nat → Int64) (hZ : 104 ≤ Z) (hK69 : K 69 = 12) (hR69_0 : R 69 0 = some 70) (hM69_1 : M 69 1 = 8) (hK70 : K 70 = 13) (hN70 : N 70 = 400) (p1 : Int32) : Met l yX12_four [Cond.code yX12_four cX12_four 3 none] (md_rm 1 0 0) (va_Pc [.ref (base + 69), .int p1] (md_U D cy tx base Z K N M R J)) (mQv D cy tx base (fun u => u = (Z, K, N, (u2 (u2 (u2 (u2 (u2 (u2 (u2 (u2 M 70 8 (vp_nar .byte ((p1 >>> (24 &&& 31)).toInt8.toInt32))) 69 1 9) 70 9 (vp_nar .byte ((p1 >>> (16 &&& 31)).toInt8.toInt32))) 69 1 10) 70 10 (vp_nar .byte ((p1 >>> (8 &&& 31)).toInt8.toInt32))) 69 1 11) 70 11 (vp_nar .byte ((p1 >>> (0 &&& 31)).toInt8.toInt32))) 69 1 12), R, J))) 0 0 (fun q => base ≤ q) := by
  refine Met.ofW (cc := cX12_four) (maxL := 3) (ret := none) (by decide) rfl ?_
  intro p e s m args below meth c s₁ B hml hv
  have hW : ∀ w ∈ lw_tbl, goodWord w = true → w.before args s = true := fun w h g => hv.2.2.2.1.2.1 w h g _
  obtain ⟨rfl, hU⟩ := hv
  have hx := B.exec
  have hb := B.bytes
  have hr := B.returns
  have hlocks := B.notSynchronized
  have hown : s.vm.findClass RX12 = some m.cls := findClass_of_methodNamed B.named
  have hK := hU.2.2.1
  have hT := hU.2.2.2
  have hG := md_G.start hU
  have hl := lv_entry ([.ref (base + 69), .int p1]) (n := 3) (Nat.le_of_ble_eq_true rfl)
  rw [lg_entry_eq]
  generalize (lg_sl ([.ref (base + 69), .int p1]) ++ List.replicate (3 - (lg_sl ([.ref (base + 69), .int p1])).length) Slot.unset).toArray = ls at hl ⊢
  have hl : lv_has ls 3 [(0, .ref (base + 69)), (1, .int p1)] := hl
  refine lv_bipush (v := 24) hx hb dX12_four_0 (by decide) ?_
  refine lv_istore_n (lv' := [(2, .int 24), (0, .ref (base + 69)), (1, .int p1)]) hx hb dX12_four_2 rfl hl (by decide) rfl (fun ls hl => ?_)
  refine lv_iload_n hx hb dX12_four_3 rfl (lv_at hl 0 rfl) ?_
  refine lv_if_lt (tgt := 36) hx hb dX12_four_4 (by decide) (fun h => absurd h (by decide)) (fun _ => ?_)
  refine lv_aload_n hx hb dX12_four_7 rfl (lv_at hl 1 rfl) ?_
  refine md_getr hx hb hW hown hK hG f_X12_7_11 (Nat.lt_of_lt_of_le (by decide) hZ) hK69 (b := 70) hR69_0 dX12_four_8 ?_
  refine lv_aload_n hx hb dX12_four_11 rfl (lv_at hl 1 rfl) ?_
  refine md_geti hx hb hW hown hK hG f_X12_116_11 (Nat.lt_of_lt_of_le (by decide) hZ) hK69 (v := 8) hM69_1 dX12_four_12 ?_
  refine lv_iload_n hx hb dX12_four_15 rfl (lv_at hl 2 rfl) ?_
  refine lv_iload_n hx hb dX12_four_16 rfl (lv_at hl 0 rfl) ?_
  refine lv_ishr hx hb dX12_four_17 ?_
  refine lv_i2b hx hb dX12_four_18 rfl ?_
  refine md_bast hx hb hK hG (Nat.lt_of_lt_of_le (by decide) hZ) hK70 hN70 (md_inD (by decide)) (k := 8) (by decide) dX12_four_19 (fun H locs hG => ?_)
  refine lv_aload_n hx hb dX12_four_20 rfl (lv_at hl 1 rfl) ?_
  refine lv_dup hx hb dX12_four_21 rfl ?_
  refine md_geti hx hb hW hown hK hG f_X12_116_11 (Nat.lt_of_lt_of_le (by decide) hZ) hK69 (v := 8) hM69_1 dX12_four_22 ?_
  refine lv_iconst (v := 1) hx hb dX12_four_25 (by decide) ?_
  refine lv_iadd hx hb dX12_four_26 ?_
  refine md_top (y := 9) (by decide) ?_
  refine md_puti hx hb hW hown hK hG f_X12_116_11 (Nat.lt_of_lt_of_le (by decide) hZ) hK69 rfl rfl dX12_four_27 (fun H locs hG => ?_)
  refine lv_iinc (v := 16) (lv' := [(2, .int 16), (0, .ref (base + 69)), (1, .int p1)]) hx hb dX12_four_30 hl (k := 0) rfl (by decide) (by decide) rfl (fun ls hl => ?_)
  refine lv_goto (tgt := 3) hx hb dX12_four_33 (by decide) ?_
  refine lv_iload_n hx hb dX12_four_3 rfl (lv_at hl 0 rfl) ?_
  refine lv_if_lt (tgt := 36) hx hb dX12_four_4 (by decide) (fun h => absurd h (by decide)) (fun _ => ?_)
  refine lv_aload_n hx hb dX12_four_7 rfl (lv_at hl 1 rfl) ?_
  refine md_getr hx hb hW hown hK hG f_X12_7_11 (Nat.lt_of_lt_of_le (by decide) hZ) hK69 (b := 70) hR69_0 dX12_four_8 ?_
  refine lv_aload_n hx hb dX12_four_11 rfl (lv_at hl 1 rfl) ?_
  refine md_geti hx hb hW hown hK hG f_X12_116_11 (Nat.lt_of_lt_of_le (by decide) hZ) hK69 (v := 9) rfl dX12_four_12 ?_
  refine lv_iload_n hx hb dX12_four_15 rfl (lv_at hl 2 rfl) ?_
  refine lv_iload_n hx hb dX12_four_16 rfl (lv_at hl 0 rfl) ?_
  refine lv_ishr hx hb dX12_four_17 ?_
  refine lv_i2b hx hb dX12_four_18 rfl ?_
  refine md_bast hx hb hK hG (Nat.lt_of_lt_of_le (by decide) hZ) hK70 hN70 (md_inD (by decide)) (k := 9) (by decide) dX12_four_19 (fun H locs hG => ?_)
  refine lv_aload_n hx hb dX12_four_20 rfl (lv_at hl 1 rfl) ?_
  refine lv_dup hx hb dX12_four_21 rfl ?_
  refine md_geti hx hb hW hown hK hG f_X12_116_11 (Nat.lt_of_lt_of_le (by decide) hZ) hK69 (v := 9) rfl dX12_four_22 ?_
  refine lv_iconst (v := 1) hx hb dX12_four_25 (by decide) ?_
  refine lv_iadd hx hb dX12_four_26 ?_
  refine md_top (y := 10) (by decide) ?_
  refine md_puti hx hb hW hown hK hG f_X12_116_11 (Nat.lt_of_lt_of_le (by decide) hZ) hK69 rfl rfl dX12_four_27 (fun H locs hG => ?_)
  refine lv_iinc (v := 8) (lv' := [(2, .int 8), (0, .ref (base + 69)), (1, .int p1)]) hx hb dX12_four_30 hl (k := 0) rfl (by decide) (by decide) rfl (fun ls hl => ?_)
  refine lv_goto (tgt := 3) hx hb dX12_four_33 (by decide) ?_
  refine lv_iload_n hx hb dX12_four_3 rfl (lv_at hl 0 rfl) ?_
  refine lv_if_lt (tgt := 36) hx hb dX12_four_4 (by decide) (fun h => absurd h (by decide)) (fun _ => ?_)
  refine lv_aload_n hx hb dX12_four_7 rfl (lv_at hl 1 rfl) ?_
  refine md_getr hx hb hW hown hK hG f_X12_7_11 (Nat.lt_of_lt_of_le (by decide) hZ) hK69 (b := 70) hR69_0 dX12_four_8 ?_
  refine lv_aload_n hx hb dX12_four_11 rfl (lv_at hl 1 rfl) ?_
  refine md_geti hx hb hW hown hK hG f_X12_116_11 (Nat.lt_of_lt_of_le (by decide) hZ) hK69 (v := 10) rfl dX12_four_12 ?_
  refine lv_iload_n hx hb dX12_four_15 rfl (lv_at hl 2 rfl) ?_
  refine lv_iload_n hx hb dX12_four_16 rfl (lv_at hl 0 rfl) ?_
  refine lv_ishr hx hb dX12_four_17 ?_
  refine lv_i2b hx hb dX12_four_18 rfl ?_
  refine md_bast hx hb hK hG (Nat.lt_of_lt_of_le (by decide) hZ) hK70 hN70 (md_inD (by decide)) (k := 10) (by decide) dX12_four_19 (fun H locs hG => ?_)
  refine lv_aload_n hx hb dX12_four_20 rfl (lv_at hl 1 rfl) ?_
  refine lv_dup hx hb dX12_four_21 rfl ?_
  refine md_geti hx hb hW hown hK hG f_X12_116_11 (Nat.lt_of_lt_of_le (by decide) hZ) hK69 (v := 10) rfl dX12_four_22 ?_
  refine lv_iconst (v := 1) hx hb dX12_four_25 (by decide) ?_
  refine lv_iadd hx hb dX12_four_26 ?_
  refine md_top (y := 11) (by decide) ?_
  refine md_puti hx hb hW hown hK hG f_X12_116_11 (Nat.lt_of_lt_of_le (by decide) hZ) hK69 rfl rfl dX12_four_27 (fun H locs hG => ?_)
  refine lv_iinc (v := 0) (lv' := [(2, .int 0), (0, .ref (base + 69)), (1, .int p1)]) hx hb dX12_four_30 hl (k := 0) rfl (by decide) (by decide) rfl (fun ls hl => ?_)
  refine lv_goto (tgt := 3) hx hb dX12_four_33 (by decide) ?_
  refine lv_iload_n hx hb dX12_four_3 rfl (lv_at hl 0 rfl) ?_
  refine lv_if_lt (tgt := 36) hx hb dX12_four_4 (by decide) (fun h => absurd h (by decide)) (fun _ => ?_)
  refine lv_aload_n hx hb dX12_four_7 rfl (lv_at hl 1 rfl) ?_
  refine md_getr hx hb hW hown hK hG f_X12_7_11 (Nat.lt_of_lt_of_le (by decide) hZ) hK69 (b := 70) hR69_0 dX12_four_8 ?_
  refine lv_aload_n hx hb dX12_four_11 rfl (lv_at hl 1 rfl) ?_
  refine md_geti hx hb hW hown hK hG f_X12_116_11 (Nat.lt_of_lt_of_le (by decide) hZ) hK69 (v := 11) rfl dX12_four_12 ?_
  refine lv_iload_n hx hb dX12_four_15 rfl (lv_at hl 2 rfl) ?_
  refine lv_iload_n hx hb dX12_four_16 rfl (lv_at hl 0 rfl) ?_
  refine lv_ishr hx hb dX12_four_17 ?_
  refine lv_i2b hx hb dX12_four_18 rfl ?_
  refine md_bast hx hb hK hG (Nat.lt_of_lt_of_le (by decide) hZ) hK70 hN70 (md_inD (by decide)) (k := 11) (by decide) dX12_four_19 (fun H locs hG => ?_)
  refine lv_aload_n hx hb dX12_four_20 rfl (lv_at hl 1 rfl) ?_
  refine lv_dup hx hb dX12_four_21 rfl ?_
  refine md_geti hx hb hW hown hK hG f_X12_116_11 (Nat.lt_of_lt_of_le (by decide) hZ) hK69 (v := 11) rfl dX12_four_22 ?_
  refine lv_iconst (v := 1) hx hb dX12_four_25 (by decide) ?_
  refine lv_iadd hx hb dX12_four_26 ?_
  refine md_top (y := 12) (by decide) ?_
  refine md_puti hx hb hW hown hK hG f_X12_116_11 (Nat.lt_of_lt_of_le (by decide) hZ) hK69 rfl rfl dX12_four_27 (fun H locs hG => ?_)
  refine lv_iinc (v := (-8)) (lv' := [(2, .int (-8)), (0, .ref (base + 69)), (1, .int p1)]) hx hb dX12_four_30 hl (k := 0) rfl (by decide) (by decide) rfl (fun ls hl => ?_)
  refine lv_goto (tgt := 3) hx hb dX12_four_33 (by decide) ?_
  refine lv_iload_n hx hb dX12_four_3 rfl (lv_at hl 0 rfl) ?_
  refine lv_if_lt (tgt := 36) hx hb dX12_four_4 (by decide) (fun _ => ?_) (fun h => absurd h (by decide))
  exact md_endv hx hb hr hlocks hK hT hG (rfl) dX12_four_36
set_option maxRecDepth 100000 in
set_option maxHeartbeats 4000000 in
theorem c_X12_four_4 (l : Launch) (D : va_G) (cy : Nat → ClassId) (tx : (Nat → Nat) × (Nat → Nat)) (base Z : Nat) (K N : Nat → Nat) (M : Nat → Nat → Int32) (R : Nat → Nat → Option Nat) (J : Nat → Nat → Int64) (hZ : 104 ≤ Z) (hK69 : K 69 = 12) (hR69_0 : R 69 0 = some 70) (hM69_1 : M 69 1 = 12) (hK70 : K 70 = 13) (hN70 : N 70 = 400) (p1 : Int32) : Met l yX12_four [Cond.code yX12_four cX12_four 3 none] (md_rm 1 0 0) (va_Pc [.ref (base + 69), .int p1] (md_U D cy tx base Z K N M R J)) (mQv D cy tx base (fun u => u = (Z, K, N, (u2 (u2 (u2 (u2 (u2 (u2 (u2 (u2 M 70 12 (vp_nar .byte ((p1 >>> (24 &&& 31)).toInt8.toInt32))) 69 1 13) 70 13 (vp_nar .byte ((p1 >>> (16 &&& 31)).toInt8.toInt32))) 69 1 14) 70 14 (vp_nar .byte ((p1 >>> (8 &&& 31)).toInt8.toInt32))) 69 1 15) 70 15 (vp_nar .byte ((p1 >>> (0 &&& 31)).toInt8.toInt32))) 69 1 16), R, J))) 0 0 (fun q => base ≤ q) := by
  refine Met.ofW (cc := cX12_four) (maxL := 3) (ret := none) (by decide) rfl ?_
  intro p e s m args below meth c s₁ B hml hv
  have hW : ∀ w ∈ lw_tbl, goodWord w = true → w.before args s = true := fun w h g => hv.2.2.2.1.2.1 w h g _
  obtain ⟨rfl, hU⟩ := hv
  have hx := B.exec
  have hb := B.bytes
  have hr := B.returns
  have hlocks := B.notSynchronized
  have hown : s.vm.findClass RX12 = some m.cls := findClass_of_methodNamed B.named
  have hK := hU.2.2.1
  have hT := hU.2.2.2
  have hG := md_G.start hU
  have hl := lv_entry ([.ref (base + 69), .int p1]) (n := 3) (Nat.le_of_ble_eq_true rfl)
  rw [lg_entry_eq]
  generalize (lg_sl ([.ref (base + 69), .int p1]) ++ List.replicate (3 - (lg_sl ([.ref (base + 69), .int p1])).length) Slot.unset).toArray = ls at hl ⊢
  have hl : lv_has ls 3 [(0, .ref (base + 69)), (1, .int p1)] := hl
  refine lv_bipush (v := 24) hx hb dX12_four_0 (by decide) ?_
  refine lv_istore_n (lv' := [(2, .int 24), (0, .ref (base + 69)), (1, .int p1)]) hx hb dX12_four_2 rfl hl (by decide) rfl (fun ls hl => ?_)
  refine lv_iload_n hx hb dX12_four_3 rfl (lv_at hl 0 rfl) ?_
  refine lv_if_lt (tgt := 36) hx hb dX12_four_4 (by decide) (fun h => absurd h (by decide)) (fun _ => ?_)
  refine lv_aload_n hx hb dX12_four_7 rfl (lv_at hl 1 rfl) ?_
  refine md_getr hx hb hW hown hK hG f_X12_7_11 (Nat.lt_of_lt_of_le (by decide) hZ) hK69 (b := 70) hR69_0 dX12_four_8 ?_
  refine lv_aload_n hx hb dX12_four_11 rfl (lv_at hl 1 rfl) ?_
  refine md_geti hx hb hW hown hK hG f_X12_116_11 (Nat.lt_of_lt_of_le (by decide) hZ) hK69 (v := 12) hM69_1 dX12_four_12 ?_
  refine lv_iload_n hx hb dX12_four_15 rfl (lv_at hl 2 rfl) ?_
  refine lv_iload_n hx hb dX12_four_16 rfl (lv_at hl 0 rfl) ?_
  refine lv_ishr hx hb dX12_four_17 ?_
  refine lv_i2b hx hb dX12_four_18 rfl ?_
  refine md_bast hx hb hK hG (Nat.lt_of_lt_of_le (by decide) hZ) hK70 hN70 (md_inD (by decide)) (k := 12) (by decide) dX12_four_19 (fun H locs hG => ?_)
  refine lv_aload_n hx hb dX12_four_20 rfl (lv_at hl 1 rfl) ?_
  refine lv_dup hx hb dX12_four_21 rfl ?_
  refine md_geti hx hb hW hown hK hG f_X12_116_11 (Nat.lt_of_lt_of_le (by decide) hZ) hK69 (v := 12) hM69_1 dX12_four_22 ?_
  refine lv_iconst (v := 1) hx hb dX12_four_25 (by decide) ?_
  refine lv_iadd hx hb dX12_four_26 ?_
  refine md_top (y := 13) (by decide) ?_
  refine md_puti hx hb hW hown hK hG f_X12_116_11 (Nat.lt_of_lt_of_le (by decide) hZ) hK69 rfl rfl dX12_four_27 (fun H locs hG => ?_)
  refine lv_iinc (v := 16) (lv' := [(2, .int 16), (0, .ref (base + 69)), (1, .int p1)]) hx hb dX12_four_30 hl (k := 0) rfl (by decide) (by decide) rfl (fun ls hl => ?_)
  refine lv_goto (tgt := 3) hx hb dX12_four_33 (by decide) ?_
  refine lv_iload_n hx hb dX12_four_3 rfl (lv_at hl 0 rfl) ?_
  refine lv_if_lt (tgt := 36) hx hb dX12_four_4 (by decide) (fun h => absurd h (by decide)) (fun _ => ?_)
  refine lv_aload_n hx hb dX12_four_7 rfl (lv_at hl 1 rfl) ?_
  refine md_getr hx hb hW hown hK hG f_X12_7_11 (Nat.lt_of_lt_of_le (by decide) hZ) hK69 (b := 70) hR69_0 dX12_four_8 ?_
  refine lv_aload_n hx hb dX12_four_11 rfl (lv_at hl 1 rfl) ?_
  refine md_geti hx hb hW hown hK hG f_X12_116_11 (Nat.lt_of_lt_of_le (by decide) hZ) hK69 (v := 13) rfl dX12_four_12 ?_
  refine lv_iload_n hx hb dX12_four_15 rfl (lv_at hl 2 rfl) ?_
  refine lv_iload_n hx hb dX12_four_16 rfl (lv_at hl 0 rfl) ?_
  refine lv_ishr hx hb dX12_four_17 ?_
  refine lv_i2b hx hb dX12_four_18 rfl ?_
  refine md_bast hx hb hK hG (Nat.lt_of_lt_of_le (by decide) hZ) hK70 hN70 (md_inD (by decide)) (k := 13) (by decide) dX12_four_19 (fun H locs hG => ?_)
  refine lv_aload_n hx hb dX12_four_20 rfl (lv_at hl 1 rfl) ?_
  refine lv_dup hx hb dX12_four_21 rfl ?_
  refine md_geti hx hb hW hown hK hG f_X12_116_11 (Nat.lt_of_lt_of_le (by decide) hZ) hK69 (v := 13) rfl dX12_four_22 ?_
  refine lv_iconst (v := 1) hx hb dX12_four_25 (by decide) ?_
  refine lv_iadd hx hb dX12_four_26 ?_
  refine md_top (y := 14) (by decide) ?_
  refine md_puti hx hb hW hown hK hG f_X12_116_11 (Nat.lt_of_lt_of_le (by decide) hZ) hK69 rfl rfl dX12_four_27 (fun H locs hG => ?_)
  refine lv_iinc (v := 8) (lv' := [(2, .int 8), (0, .ref (base + 69)), (1, .int p1)]) hx hb dX12_four_30 hl (k := 0) rfl (by decide) (by decide) rfl (fun ls hl => ?_)
  refine lv_goto (tgt := 3) hx hb dX12_four_33 (by decide) ?_
  refine lv_iload_n hx hb dX12_four_3 rfl (lv_at hl 0 rfl) ?_
  refine lv_if_lt (tgt := 36) hx hb dX12_four_4 (by decide) (fun h => absurd h (by decide)) (fun _ => ?_)
  refine lv_aload_n hx hb dX12_four_7 rfl (lv_at hl 1 rfl) ?_
  refine md_getr hx hb hW hown hK hG f_X12_7_11 (Nat.lt_of_lt_of_le (by decide) hZ) hK69 (b := 70) hR69_0 dX12_four_8 ?_
  refine lv_aload_n hx hb dX12_four_11 rfl (lv_at hl 1 rfl) ?_
  refine md_geti hx hb hW hown hK hG f_X12_116_11 (Nat.lt_of_lt_of_le (by decide) hZ) hK69 (v := 14) rfl dX12_four_12 ?_
  refine lv_iload_n hx hb dX12_four_15 rfl (lv_at hl 2 rfl) ?_
  refine lv_iload_n hx hb dX12_four_16 rfl (lv_at hl 0 rfl) ?_
  refine lv_ishr hx hb dX12_four_17 ?_
  refine lv_i2b hx hb dX12_four_18 rfl ?_
  refine md_bast hx hb hK hG (Nat.lt_of_lt_of_le (by decide) hZ) hK70 hN70 (md_inD (by decide)) (k := 14) (by decide) dX12_four_19 (fun H locs hG => ?_)
  refine lv_aload_n hx hb dX12_four_20 rfl (lv_at hl 1 rfl) ?_
  refine lv_dup hx hb dX12_four_21 rfl ?_
  refine md_geti hx hb hW hown hK hG f_X12_116_11 (Nat.lt_of_lt_of_le (by decide) hZ) hK69 (v := 14) rfl dX12_four_22 ?_
  refine lv_iconst (v := 1) hx hb dX12_four_25 (by decide) ?_
  refine lv_iadd hx hb dX12_four_26 ?_
  refine md_top (y := 15) (by decide) ?_
  refine md_puti hx hb hW hown hK hG f_X12_116_11 (Nat.lt_of_lt_of_le (by decide) hZ) hK69 rfl rfl dX12_four_27 (fun H locs hG => ?_)
  refine lv_iinc (v := 0) (lv' := [(2, .int 0), (0, .ref (base + 69)), (1, .int p1)]) hx hb dX12_four_30 hl (k := 0) rfl (by decide) (by decide) rfl (fun ls hl => ?_)
  refine lv_goto (tgt := 3) hx hb dX12_four_33 (by decide) ?_
  refine lv_iload_n hx hb dX12_four_3 rfl (lv_at hl 0 rfl) ?_
  refine lv_if_lt (tgt := 36) hx hb dX12_four_4 (by decide) (fun h => absurd h (by decide)) (fun _ => ?_)
  refine lv_aload_n hx hb dX12_four_7 rfl (lv_at hl 1 rfl) ?_
  refine md_getr hx hb hW hown hK hG f_X12_7_11 (Nat.lt_of_lt_of_le (by decide) hZ) hK69 (b := 70) hR69_0 dX12_four_8 ?_
  refine lv_aload_n hx hb dX12_four_11 rfl (lv_at hl 1 rfl) ?_
  refine md_geti hx hb hW hown hK hG f_X12_116_11 (Nat.lt_of_lt_of_le (by decide) hZ) hK69 (v := 15) rfl dX12_four_12 ?_
  refine lv_iload_n hx hb dX12_four_15 rfl (lv_at hl 2 rfl) ?_
  refine lv_iload_n hx hb dX12_four_16 rfl (lv_at hl 0 rfl) ?_
  refine lv_ishr hx hb dX12_four_17 ?_
  refine lv_i2b hx hb dX12_four_18 rfl ?_
  refine md_bast hx hb hK hG (Nat.lt_of_lt_of_le (by decide) hZ) hK70 hN70 (md_inD (by decide)) (k := 15) (by decide) dX12_four_19 (fun H locs hG => ?_)
  refine lv_aload_n hx hb dX12_four_20 rfl (lv_at hl 1 rfl) ?_
  refine lv_dup hx hb dX12_four_21 rfl ?_
  refine md_geti hx hb hW hown hK hG f_X12_116_11 (Nat.lt_of_lt_of_le (by decide) hZ) hK69 (v := 15) rfl dX12_four_22 ?_
  refine lv_iconst (v := 1) hx hb dX12_four_25 (by decide) ?_
  refine lv_iadd hx hb dX12_four_26 ?_
  refine md_top (y := 16) (by decide) ?_
  refine md_puti hx hb hW hown hK hG f_X12_116_11 (Nat.lt_of_lt_of_le (by decide) hZ) hK69 rfl rfl dX12_four_27 (fun H locs hG => ?_)
  refine lv_iinc (v := (-8)) (lv' := [(2, .int (-8)), (0, .ref (base + 69)), (1, .int p1)]) hx hb dX12_four_30 hl (k := 0) rfl (by decide) (by decide) rfl (fun ls hl => ?_)
  refine lv_goto (tgt := 3) hx hb dX12_four_33 (by decide) ?_
  refine lv_iload_n hx hb dX12_four_3 rfl (lv_at hl 0 rfl) ?_
  refine lv_if_lt (tgt := 36) hx hb dX12_four_4 (by decide) (fun _ => ?_) (fun h => absurd h (by decide))
  exact md_endv hx hb hr hlocks hK hT hG (rfl) dX12_four_36
set_option maxRecDepth 100000 in
set_option maxHeartbeats 4000000 in
theorem c_X12_four_5 (l : Launch) (D : va_G) (cy : Nat → ClassId) (tx : (Nat → Nat) × (Nat → Nat)) (base Z : Nat) (K N : Nat → Nat) (M : Nat → Nat → Int32) (R : Nat → Nat → Option Nat) (J : Nat → Nat → Int64) (hZ : 104 ≤ Z) (hK69 : K 69 = 12) (hR69_0 : R 69 0 = some 70) (hM69_1 : M 69 1 = 16) (hK70 : K 70 = 13) (hN70 : N 70 = 400) (p1 : Int32) : Met l yX12_four [Cond.code yX12_four cX12_four 3 none] (md_rm 1 0 0) (va_Pc [.ref (base + 69), .int p1] (md_U D cy tx base Z K N M R J)) (mQv D cy tx base (fun u => u = (Z, K, N, (u2 (u2 (u2 (u2 (u2 (u2 (u2 (u2 M 70 16 (vp_nar .byte ((p1 >>> (24 &&& 31)).toInt8.toInt32))) 69 1 17) 70 17 (vp_nar .byte ((p1 >>> (16 &&& 31)).toInt8.toInt32))) 69 1 18) 70 18 (vp_nar .byte ((p1 >>> (8 &&& 31)).toInt8.toInt32))) 69 1 19) 70 19 (vp_nar .byte ((p1 >>> (0 &&& 31)).toInt8.toInt32))) 69 1 20), R, J))) 0 0 (fun q => base ≤ q) := by
  refine Met.ofW (cc := cX12_four) (maxL := 3) (ret := none) (by decide) rfl ?_
  intro p e s m args below meth c s₁ B hml hv
  have hW : ∀ w ∈ lw_tbl, goodWord w = true → w.before args s = true := fun w h g => hv.2.2.2.1.2.1 w h g _
  obtain ⟨rfl, hU⟩ := hv
  have hx := B.exec
  have hb := B.bytes
  have hr := B.returns
  have hlocks := B.notSynchronized
  have hown : s.vm.findClass RX12 = some m.cls := findClass_of_methodNamed B.named
  have hK := hU.2.2.1
  have hT := hU.2.2.2
  have hG := md_G.start hU
  have hl := lv_entry ([.ref (base + 69), .int p1]) (n := 3) (Nat.le_of_ble_eq_true rfl)
  rw [lg_entry_eq]
  generalize (lg_sl ([.ref (base + 69), .int p1]) ++ List.replicate (3 - (lg_sl ([.ref (base + 69), .int p1])).length) Slot.unset).toArray = ls at hl ⊢
  have hl : lv_has ls 3 [(0, .ref (base + 69)), (1, .int p1)] := hl
  refine lv_bipush (v := 24) hx hb dX12_four_0 (by decide) ?_
  refine lv_istore_n (lv' := [(2, .int 24), (0, .ref (base + 69)), (1, .int p1)]) hx hb dX12_four_2 rfl hl (by decide) rfl (fun ls hl => ?_)
  refine lv_iload_n hx hb dX12_four_3 rfl (lv_at hl 0 rfl) ?_
  refine lv_if_lt (tgt := 36) hx hb dX12_four_4 (by decide) (fun h => absurd h (by decide)) (fun _ => ?_)
  refine lv_aload_n hx hb dX12_four_7 rfl (lv_at hl 1 rfl) ?_
  refine md_getr hx hb hW hown hK hG f_X12_7_11 (Nat.lt_of_lt_of_le (by decide) hZ) hK69 (b := 70) hR69_0 dX12_four_8 ?_
  refine lv_aload_n hx hb dX12_four_11 rfl (lv_at hl 1 rfl) ?_
  refine md_geti hx hb hW hown hK hG f_X12_116_11 (Nat.lt_of_lt_of_le (by decide) hZ) hK69 (v := 16) hM69_1 dX12_four_12 ?_
  refine lv_iload_n hx hb dX12_four_15 rfl (lv_at hl 2 rfl) ?_
  refine lv_iload_n hx hb dX12_four_16 rfl (lv_at hl 0 rfl) ?_
  refine lv_ishr hx hb dX12_four_17 ?_
  refine lv_i2b hx hb dX12_four_18 rfl ?_
  refine md_bast hx hb hK hG (Nat.lt_of_lt_of_le (by decide) hZ) hK70 hN70 (md_inD (by decide)) (k := 16) (by decide) dX12_four_19 (fun H locs hG => ?_)
  refine lv_aload_n hx hb dX12_four_20 rfl (lv_at hl 1 rfl) ?_
  refine lv_dup hx hb dX12_four_21 rfl ?_
  refine md_geti hx hb hW hown hK hG f_X12_116_11 (Nat.lt_of_lt_of_le (by decide) hZ) hK69 (v := 16) hM69_1 dX12_four_22 ?_
  refine lv_iconst (v := 1) hx hb dX12_four_25 (by decide) ?_
  refine lv_iadd hx hb dX12_four_26 ?_
  refine md_top (y := 17) (by decide) ?_
  refine md_puti hx hb hW hown hK hG f_X12_116_11 (Nat.lt_of_lt_of_le (by decide) hZ) hK69 rfl rfl dX12_four_27 (fun H locs hG => ?_)
  refine lv_iinc (v := 16) (lv' := [(2, .int 16), (0, .ref (base + 69)), (1, .int p1)]) hx hb dX12_four_30 hl (k := 0) rfl (by decide) (by decide) rfl (fun ls hl => ?_)
  refine lv_goto (tgt := 3) hx hb dX12_four_33 (by decide) ?_
  refine lv_iload_n hx hb dX12_four_3 rfl (lv_at hl 0 rfl) ?_
  refine lv_if_lt (tgt := 36) hx hb dX12_four_4 (by decide) (fun h => absurd h (by decide)) (fun _ => ?_)
  refine lv_aload_n hx hb dX12_four_7 rfl (lv_at hl 1 rfl) ?_
  refine md_getr hx hb hW hown hK hG f_X12_7_11 (Nat.lt_of_lt_of_le (by decide) hZ) hK69 (b := 70) hR69_0 dX12_four_8 ?_
  refine lv_aload_n hx hb dX12_four_11 rfl (lv_at hl 1 rfl) ?_
  refine md_geti hx hb hW hown hK hG f_X12_116_11 (Nat.lt_of_lt_of_le (by decide) hZ) hK69 (v := 17) rfl dX12_four_12 ?_
  refine lv_iload_n hx hb dX12_four_15 rfl (lv_at hl 2 rfl) ?_
  refine lv_iload_n hx hb dX12_four_16 rfl (lv_at hl 0 rfl) ?_
  refine lv_ishr hx hb dX12_four_17 ?_
  refine lv_i2b hx hb dX12_four_18 rfl ?_
  refine md_bast hx hb hK hG (Nat.lt_of_lt_of_le (by decide) hZ) hK70 hN70 (md_inD (by decide)) (k := 17) (by decide) dX12_four_19 (fun H locs hG => ?_)
  refine lv_aload_n hx hb dX12_four_20 rfl (lv_at hl 1 rfl) ?_
  refine lv_dup hx hb dX12_four_21 rfl ?_
  refine md_geti hx hb hW hown hK hG f_X12_116_11 (Nat.lt_of_lt_of_le (by decide) hZ) hK69 (v := 17) rfl dX12_four_22 ?_
  refine lv_iconst (v := 1) hx hb dX12_four_25 (by decide) ?_
  refine lv_iadd hx hb dX12_four_26 ?_
  refine md_top (y := 18) (by decide) ?_
  refine md_puti hx hb hW hown hK hG f_X12_116_11 (Nat.lt_of_lt_of_le (by decide) hZ) hK69 rfl rfl dX12_four_27 (fun H locs hG => ?_)
  refine lv_iinc (v := 8) (lv' := [(2, .int 8), (0, .ref (base + 69)), (1, .int p1)]) hx hb dX12_four_30 hl (k := 0) rfl (by decide) (by decide) rfl (fun ls hl => ?_)
  refine lv_goto (tgt := 3) hx hb dX12_four_33 (by decide) ?_
  refine lv_iload_n hx hb dX12_four_3 rfl (lv_at hl 0 rfl) ?_
  refine lv_if_lt (tgt := 36) hx hb dX12_four_4 (by decide) (fun h => absurd h (by decide)) (fun _ => ?_)
  refine lv_aload_n hx hb dX12_four_7 rfl (lv_at hl 1 rfl) ?_
  refine md_getr hx hb hW hown hK hG f_X12_7_11 (Nat.lt_of_lt_of_le (by decide) hZ) hK69 (b := 70) hR69_0 dX12_four_8 ?_
  refine lv_aload_n hx hb dX12_four_11 rfl (lv_at hl 1 rfl) ?_
  refine md_geti hx hb hW hown hK hG f_X12_116_11 (Nat.lt_of_lt_of_le (by decide) hZ) hK69 (v := 18) rfl dX12_four_12 ?_
  refine lv_iload_n hx hb dX12_four_15 rfl (lv_at hl 2 rfl) ?_
  refine lv_iload_n hx hb dX12_four_16 rfl (lv_at hl 0 rfl) ?_
  refine lv_ishr hx hb dX12_four_17 ?_
  refine lv_i2b hx hb dX12_four_18 rfl ?_
  refine md_bast hx hb hK hG (Nat.lt_of_lt_of_le (by decide) hZ) hK70 hN70 (md_inD (by decide)) (k := 18) (by decide) dX12_four_19 (fun H locs hG => ?_)
  refine lv_aload_n hx hb dX12_four_20 rfl (lv_at hl 1 rfl) ?_
  refine lv_dup hx hb dX12_four_21 rfl ?_
  refine md_geti hx hb hW hown hK hG f_X12_116_11 (Nat.lt_of_lt_of_le (by decide) hZ) hK69 (v := 18) rfl dX12_four_22 ?_
  refine lv_iconst (v := 1) hx hb dX12_four_25 (by decide) ?_
  refine lv_iadd hx hb dX12_four_26 ?_
  refine md_top (y := 19) (by decide) ?_
  refine md_puti hx hb hW hown hK hG f_X12_116_11 (Nat.lt_of_lt_of_le (by decide) hZ) hK69 rfl rfl dX12_four_27 (fun H locs hG => ?_)
  refine lv_iinc (v := 0) (lv' := [(2, .int 0), (0, .ref (base + 69)), (1, .int p1)]) hx hb dX12_four_30 hl (k := 0) rfl (by decide) (by decide) rfl (fun ls hl => ?_)
  refine lv_goto (tgt := 3) hx hb dX12_four_33 (by decide) ?_
  refine lv_iload_n hx hb dX12_four_3 rfl (lv_at hl 0 rfl) ?_
  refine lv_if_lt (tgt := 36) hx hb dX12_four_4 (by decide) (fun h => absurd h (by decide)) (fun _ => ?_)
  refine lv_aload_n hx hb dX12_four_7 rfl (lv_at hl 1 rfl) ?_
  refine md_getr hx hb hW hown hK hG f_X12_7_11 (Nat.lt_of_lt_of_le (by decide) hZ) hK69 (b := 70) hR69_0 dX12_four_8 ?_
  refine lv_aload_n hx hb dX12_four_11 rfl (lv_at hl 1 rfl) ?_
  refine md_geti hx hb hW hown hK hG f_X12_116_11 (Nat.lt_of_lt_of_le (by decide) hZ) hK69 (v := 19) rfl dX12_four_12 ?_
  refine lv_iload_n hx hb dX12_four_15 rfl (lv_at hl 2 rfl) ?_
  refine lv_iload_n hx hb dX12_four_16 rfl (lv_at hl 0 rfl) ?_
  refine lv_ishr hx hb dX12_four_17 ?_
  refine lv_i2b hx hb dX12_four_18 rfl ?_
  refine md_bast hx hb hK hG (Nat.lt_of_lt_of_le (by decide) hZ) hK70 hN70 (md_inD (by decide)) (k := 19) (by decide) dX12_four_19 (fun H locs hG => ?_)
  refine lv_aload_n hx hb dX12_four_20 rfl (lv_at hl 1 rfl) ?_
  refine lv_dup hx hb dX12_four_21 rfl ?_
  refine md_geti hx hb hW hown hK hG f_X12_116_11 (Nat.lt_of_lt_of_le (by decide) hZ) hK69 (v := 19) rfl dX12_four_22 ?_
  refine lv_iconst (v := 1) hx hb dX12_four_25 (by decide) ?_
  refine lv_iadd hx hb dX12_four_26 ?_
  refine md_top (y := 20) (by decide) ?_
  refine md_puti hx hb hW hown hK hG f_X12_116_11 (Nat.lt_of_lt_of_le (by decide) hZ) hK69 rfl rfl dX12_four_27 (fun H locs hG => ?_)
  refine lv_iinc (v := (-8)) (lv' := [(2, .int (-8)), (0, .ref (base + 69)), (1, .int p1)]) hx hb dX12_four_30 hl (k := 0) rfl (by decide) (by decide) rfl (fun ls hl => ?_)
  refine lv_goto (tgt := 3) hx hb dX12_four_33 (by decide) ?_
  refine lv_iload_n hx hb dX12_four_3 rfl (lv_at hl 0 rfl) ?_
  refine lv_if_lt (tgt := 36) hx hb dX12_four_4 (by decide) (fun _ => ?_) (fun h => absurd h (by decide))
  exact md_endv hx hb hr hlocks hK hT hG (rfl) dX12_four_36
set_option maxRecDepth 100000 in
set_option maxHeartbeats 4000000 in
theorem c_X12_feed (l : Launch) (D : va_G) (cy : Nat → ClassId) (tx : (Nat → Nat) × (Nat → Nat)) (base Z : Nat) (K N : Nat → Nat) (M : Nat → Nat → Int32) (R : Nat → Nat → Option Nat) (J : Nat → Nat → Int64) (hZ : 104 ≤ Z) (hK69 : K 69 = 12) (hM69_1 : M 69 1 = 0) (hR69_0 : R 69 0 = some 70) (hK70 : K 70 = 13) (hN70 : N 70 = 400) (p1 : Int32) (p2 : Int32) (p3 : Int32) (p4 : Int32) (p5 : Int32) : Met l yX12_feed [Cond.code yX12_feed cX12_feed 6 (some .int)] (md_rm 2 0 0) (va_Pc [.ref (base + 69), .int p1, .int p2, .int p3, .int p4, .int p5] (md_U D cy tx base Z K N M R J)) (mQi D cy tx base (fun r u => r = 20 ∧ u = (Z, K, N, (u2 (u2 (u2 (u2 (u2 (u2 (u2 (u2 (u2 (u2 (u2 (u2 (u2 (u2 (u2 (u2 (u2 (u2 (u2 (u2 (u2 (u2 (u2 (u2 (u2 (u2 (u2 (u2 (u2 (u2 (u2 (u2 (u2 (u2 (u2 (u2 (u2 (u2 (u2 (u2 M 70 0 (vp_nar .byte ((p1 >>> (24 &&& 31)).toInt8.toInt32))) 69 1 1) 70 1 (vp_nar .byte ((p1 >>> (16 &&& 31)).toInt8.toInt32))) 69 1 2) 70 2 (vp_nar .byte ((p1 >>> (8 &&& 31)).toInt8.toInt32))) 69 1 3) 70 3 (vp_nar .byte ((p1 >>> (0 &&& 31)).toInt8.toInt32))) 69 1 4) 70 4 (vp_nar .byte ((p2 >>> (24 &&& 31)).toInt8.toInt32))) 69 1 5) 70 5 (vp_nar .byte ((p2 >>> (16 &&& 31)).toInt8.toInt32))) 69 1 6) 70 6 (vp_nar .byte ((p2 >>> (8 &&& 31)).toInt8.toInt32))) 69 1 7) 70 7 (vp_nar .byte ((p2 >>> (0 &&& 31)).toInt8.toInt32))) 69 1 8) 70 8 (vp_nar .byte ((p3 >>> (24 &&& 31)).toInt8.toInt32))) 69 1 9) 70 9 (vp_nar .byte ((p3 >>> (16 &&& 31)).toInt8.toInt32))) 69 1 10) 70 10 (vp_nar .byte ((p3 >>> (8 &&& 31)).toInt8.toInt32))) 69 1 11) 70 11 (vp_nar .byte ((p3 >>> (0 &&& 31)).toInt8.toInt32))) 69 1 12) 70 12 (vp_nar .byte ((p4 >>> (24 &&& 31)).toInt8.toInt32))) 69 1 13) 70 13 (vp_nar .byte ((p4 >>> (16 &&& 31)).toInt8.toInt32))) 69 1 14) 70 14 (vp_nar .byte ((p4 >>> (8 &&& 31)).toInt8.toInt32))) 69 1 15) 70 15 (vp_nar .byte ((p4 >>> (0 &&& 31)).toInt8.toInt32))) 69 1 16) 70 16 (vp_nar .byte ((p5 >>> (24 &&& 31)).toInt8.toInt32))) 69 1 17) 70 17 (vp_nar .byte ((p5 >>> (16 &&& 31)).toInt8.toInt32))) 69 1 18) 70 18 (vp_nar .byte ((p5 >>> (8 &&& 31)).toInt8.toInt32))) 69 1 19) 70 19 (vp_nar .byte ((p5 >>> (0 &&& 31)).toInt8.toInt32))) 69 1 20), R, J))) 0 0 (fun q => base ≤ q) := by
  refine Met.ofW (cc := cX12_feed) (maxL := 6) (ret := (some .int)) (by decide) rfl ?_
  intro p e s m args below meth c s₁ B hml hv
  have hW : ∀ w ∈ lw_tbl, goodWord w = true → w.before args s = true := fun w h g => hv.2.2.2.1.2.1 w h g _
  obtain ⟨rfl, hU⟩ := hv
  have hx := B.exec
  have hb := B.bytes
  have hr := B.returns
  have hlocks := B.notSynchronized
  have hown : s.vm.findClass RX12 = some m.cls := findClass_of_methodNamed B.named
  have hK := hU.2.2.1
  have hT := hU.2.2.2
  have hG := md_G.start hU
  have hl := lv_entry ([.ref (base + 69), .int p1, .int p2, .int p3, .int p4, .int p5]) (n := 6) (Nat.le_of_ble_eq_true rfl)
  rw [lg_entry_eq]
  generalize (lg_sl ([.ref (base + 69), .int p1, .int p2, .int p3, .int p4, .int p5]) ++ List.replicate (6 - (lg_sl ([.ref (base + 69), .int p1, .int p2, .int p3, .int p4, .int p5])).length) Slot.unset).toArray = ls at hl ⊢
  have hl : lv_has ls 6 [(0, .ref (base + 69)), (1, .int p1), (2, .int p2), (3, .int p3), (4, .int p4), (5, .int p5)] := hl
  refine lv_aload_n hx hb dX12_feed_0 rfl (lv_at hl 0 rfl) ?_
  refine md_geti hx hb hW hown hK hG f_X12_116_11 (Nat.lt_of_lt_of_le (by decide) hZ) hK69 (v := 0) hM69_1 dX12_feed_1 ?_
  refine lv_bipush (v := 20) hx hb dX12_feed_4 (by decide) ?_
  refine lv_iadd hx hb dX12_feed_6 ?_
  refine md_top (y := 20) (by decide) ?_
  refine lv_sipush (v := 400) hx hb dX12_feed_7 (by decide) ?_
  refine lv_icmp_le (tgt := 15) hx hb dX12_feed_10 (by decide) (fun _ => ?_) (fun h => absurd h (by decide))
  refine lv_aload_n hx hb dX12_feed_15 rfl (lv_at hl 0 rfl) ?_
  refine lv_iload_n hx hb dX12_feed_16 rfl (lv_at hl 1 rfl) ?_
  refine md_gov hG (md_runV (As := [.int p1]) (rest := []) hx hb hml hown hW hK hT hG (c_X12_four l D cy tx base  Z  K N M R J hZ hK69 hR69_0 hM69_1 hK70 hN70 p1) s_X12_120 ⟨rfl, rfl, ⟨Nat.le_of_ble_eq_true rfl, Nat.le_of_ble_eq_true rfl⟩, ⟨Nat.le_of_ble_eq_true rfl, Nat.le_of_ble_eq_true rfl⟩⟩ (Nat.lt_of_lt_of_le (by decide) hZ) hK69 (by decide) rfl rfl hl.1 rfl (Nat.le_of_ble_eq_true rfl) dX12_feed_17) (fun u H locs hp hG => ?_)
  subst hp
  have hG : md_G D cy base Z K N (u2 (u2 (u2 (u2 (u2 (u2 (u2 (u2 M 70 0 (vp_nar .byte ((p1 >>> (24 &&& 31)).toInt8.toInt32))) 69 1 1) 70 1 (vp_nar .byte ((p1 >>> (16 &&& 31)).toInt8.toInt32))) 69 1 2) 70 2 (vp_nar .byte ((p1 >>> (8 &&& 31)).toInt8.toInt32))) 69 1 3) 70 3 (vp_nar .byte ((p1 >>> (0 &&& 31)).toInt8.toInt32))) 69 1 4) R J s H locs := hG
  refine lv_aload_n hx hb dX12_feed_20 rfl (lv_at hl 0 rfl) ?_
  refine lv_iload_n hx hb dX12_feed_21 rfl (lv_at hl 2 rfl) ?_
  refine md_gov hG (md_runV (As := [.int p2]) (rest := []) hx hb hml hown hW hK hT hG (c_X12_four_2 l D cy tx base  Z  K N (u2 (u2 (u2 (u2 (u2 (u2 (u2 (u2 M 70 0 (vp_nar .byte ((p1 >>> (24 &&& 31)).toInt8.toInt32))) 69 1 1) 70 1 (vp_nar .byte ((p1 >>> (16 &&& 31)).toInt8.toInt32))) 69 1 2) 70 2 (vp_nar .byte ((p1 >>> (8 &&& 31)).toInt8.toInt32))) 69 1 3) 70 3 (vp_nar .byte ((p1 >>> (0 &&& 31)).toInt8.toInt32))) 69 1 4) R J hZ hK69 hR69_0 rfl hK70 hN70 p2) s_X12_120 ⟨rfl, rfl, ⟨Nat.le_of_ble_eq_true rfl, Nat.le_of_ble_eq_true rfl⟩, ⟨Nat.le_of_ble_eq_true rfl, Nat.le_of_ble_eq_true rfl⟩⟩ (Nat.lt_of_lt_of_le (by decide) hZ) hK69 (by decide) rfl rfl hl.1 rfl (Nat.le_of_ble_eq_true rfl) dX12_feed_22) (fun u H locs hp hG => ?_)
  subst hp
  have hG : md_G D cy base Z K N (u2 (u2 (u2 (u2 (u2 (u2 (u2 (u2 (u2 (u2 (u2 (u2 (u2 (u2 (u2 (u2 M 70 0 (vp_nar .byte ((p1 >>> (24 &&& 31)).toInt8.toInt32))) 69 1 1) 70 1 (vp_nar .byte ((p1 >>> (16 &&& 31)).toInt8.toInt32))) 69 1 2) 70 2 (vp_nar .byte ((p1 >>> (8 &&& 31)).toInt8.toInt32))) 69 1 3) 70 3 (vp_nar .byte ((p1 >>> (0 &&& 31)).toInt8.toInt32))) 69 1 4) 70 4 (vp_nar .byte ((p2 >>> (24 &&& 31)).toInt8.toInt32))) 69 1 5) 70 5 (vp_nar .byte ((p2 >>> (16 &&& 31)).toInt8.toInt32))) 69 1 6) 70 6 (vp_nar .byte ((p2 >>> (8 &&& 31)).toInt8.toInt32))) 69 1 7) 70 7 (vp_nar .byte ((p2 >>> (0 &&& 31)).toInt8.toInt32))) 69 1 8) R J s H locs := hG
  refine lv_aload_n hx hb dX12_feed_25 rfl (lv_at hl 0 rfl) ?_
  refine lv_iload_n hx hb dX12_feed_26 rfl (lv_at hl 3 rfl) ?_
  refine md_gov hG (md_runV (As := [.int p3]) (rest := []) hx hb hml hown hW hK hT hG (c_X12_four_3 l D cy tx base  Z  K N (u2 (u2 (u2 (u2 (u2 (u2 (u2 (u2 (u2 (u2 (u2 (u2 (u2 (u2 (u2 (u2 M 70 0 (vp_nar .byte ((p1 >>> (24 &&& 31)).toInt8.toInt32))) 69 1 1) 70 1 (vp_nar .byte ((p1 >>> (16 &&& 31)).toInt8.toInt32))) 69 1 2) 70 2 (vp_nar .byte ((p1 >>> (8 &&& 31)).toInt8.toInt32))) 69 1 3) 70 3 (vp_nar .byte ((p1 >>> (0 &&& 31)).toInt8.toInt32))) 69 1 4) 70 4 (vp_nar .byte ((p2 >>> (24 &&& 31)).toInt8.toInt32))) 69 1 5) 70 5 (vp_nar .byte ((p2 >>> (16 &&& 31)).toInt8.toInt32))) 69 1 6) 70 6 (vp_nar .byte ((p2 >>> (8 &&& 31)).toInt8.toInt32))) 69 1 7) 70 7 (vp_nar .byte ((p2 >>> (0 &&& 31)).toInt8.toInt32))) 69 1 8) R J hZ hK69 hR69_0 rfl hK70 hN70 p3) s_X12_120 ⟨rfl, rfl, ⟨Nat.le_of_ble_eq_true rfl, Nat.le_of_ble_eq_true rfl⟩, ⟨Nat.le_of_ble_eq_true rfl, Nat.le_of_ble_eq_true rfl⟩⟩ (Nat.lt_of_lt_of_le (by decide) hZ) hK69 (by decide) rfl rfl hl.1 rfl (Nat.le_of_ble_eq_true rfl) dX12_feed_27) (fun u H locs hp hG => ?_)
  subst hp
  have hG : md_G D cy base Z K N (u2 (u2 (u2 (u2 (u2 (u2 (u2 (u2 (u2 (u2 (u2 (u2 (u2 (u2 (u2 (u2 (u2 (u2 (u2 (u2 (u2 (u2 (u2 (u2 M 70 0 (vp_nar .byte ((p1 >>> (24 &&& 31)).toInt8.toInt32))) 69 1 1) 70 1 (vp_nar .byte ((p1 >>> (16 &&& 31)).toInt8.toInt32))) 69 1 2) 70 2 (vp_nar .byte ((p1 >>> (8 &&& 31)).toInt8.toInt32))) 69 1 3) 70 3 (vp_nar .byte ((p1 >>> (0 &&& 31)).toInt8.toInt32))) 69 1 4) 70 4 (vp_nar .byte ((p2 >>> (24 &&& 31)).toInt8.toInt32))) 69 1 5) 70 5 (vp_nar .byte ((p2 >>> (16 &&& 31)).toInt8.toInt32))) 69 1 6) 70 6 (vp_nar .byte ((p2 >>> (8 &&& 31)).toInt8.toInt32))) 69 1 7) 70 7 (vp_nar .byte ((p2 >>> (0 &&& 31)).toInt8.toInt32))) 69 1 8) 70 8 (vp_nar .byte ((p3 >>> (24 &&& 31)).toInt8.toInt32))) 69 1 9) 70 9 (vp_nar .byte ((p3 >>> (16 &&& 31)).toInt8.toInt32))) 69 1 10) 70 10 (vp_nar .byte ((p3 >>> (8 &&& 31)).toInt8.toInt32))) 69 1 11) 70 11 (vp_nar .byte ((p3 >>> (0 &&& 31)).toInt8.toInt32))) 69 1 12) R J s H locs := hG
  refine lv_aload_n hx hb dX12_feed_30 rfl (lv_at hl 0 rfl) ?_
  refine lv_iload hx hb dX12_feed_31 (lv_at hl 4 rfl) ?_
  refine md_gov hG (md_runV (As := [.int p4]) (rest := []) hx hb hml hown hW hK hT hG (c_X12_four_4 l D cy tx base  Z  K N (u2 (u2 (u2 (u2 (u2 (u2 (u2 (u2 (u2 (u2 (u2 (u2 (u2 (u2 (u2 (u2 (u2 (u2 (u2 (u2 (u2 (u2 (u2 (u2 M 70 0 (vp_nar .byte ((p1 >>> (24 &&& 31)).toInt8.toInt32))) 69 1 1) 70 1 (vp_nar .byte ((p1 >>> (16 &&& 31)).toInt8.toInt32))) 69 1 2) 70 2 (vp_nar .byte ((p1 >>> (8 &&& 31)).toInt8.toInt32))) 69 1 3) 70 3 (vp_nar .byte ((p1 >>> (0 &&& 31)).toInt8.toInt32))) 69 1 4) 70 4 (vp_nar .byte ((p2 >>> (24 &&& 31)).toInt8.toInt32))) 69 1 5) 70 5 (vp_nar .byte ((p2 >>> (16 &&& 31)).toInt8.toInt32))) 69 1 6) 70 6 (vp_nar .byte ((p2 >>> (8 &&& 31)).toInt8.toInt32))) 69 1 7) 70 7 (vp_nar .byte ((p2 >>> (0 &&& 31)).toInt8.toInt32))) 69 1 8) 70 8 (vp_nar .byte ((p3 >>> (24 &&& 31)).toInt8.toInt32))) 69 1 9) 70 9 (vp_nar .byte ((p3 >>> (16 &&& 31)).toInt8.toInt32))) 69 1 10) 70 10 (vp_nar .byte ((p3 >>> (8 &&& 31)).toInt8.toInt32))) 69 1 11) 70 11 (vp_nar .byte ((p3 >>> (0 &&& 31)).toInt8.toInt32))) 69 1 12) R J hZ hK69 hR69_0 rfl hK70 hN70 p4) s_X12_120 ⟨rfl, rfl, ⟨Nat.le_of_ble_eq_true rfl, Nat.le_of_ble_eq_true rfl⟩, ⟨Nat.le_of_ble_eq_true rfl, Nat.le_of_ble_eq_true rfl⟩⟩ (Nat.lt_of_lt_of_le (by decide) hZ) hK69 (by decide) rfl rfl hl.1 rfl (Nat.le_of_ble_eq_true rfl) dX12_feed_33) (fun u H locs hp hG => ?_)
  subst hp
  have hG : md_G D cy base Z K N (u2 (u2 (u2 (u2 (u2 (u2 (u2 (u2 (u2 (u2 (u2 (u2 (u2 (u2 (u2 (u2 (u2 (u2 (u2 (u2 (u2 (u2 (u2 (u2 (u2 (u2 (u2 (u2 (u2 (u2 (u2 (u2 M 70 0 (vp_nar .byte ((p1 >>> (24 &&& 31)).toInt8.toInt32))) 69 1 1) 70 1 (vp_nar .byte ((p1 >>> (16 &&& 31)).toInt8.toInt32))) 69 1 2) 70 2 (vp_nar .byte ((p1 >>> (8 &&& 31)).toInt8.toInt32))) 69 1 3) 70 3 (vp_nar .byte ((p1 >>> (0 &&& 31)).toInt8.toInt32))) 69 1 4) 70 4 (vp_nar .byte ((p2 >>> (24 &&& 31)).toInt8.toInt32))) 69 1 5) 70 5 (vp_nar .byte ((p2 >>> (16 &&& 31)).toInt8.toInt32))) 69 1 6) 70 6 (vp_nar .byte ((p2 >>> (8 &&& 31)).toInt8.toInt32))) 69 1 7) 70 7 (vp_nar .byte ((p2 >>> (0 &&& 31)).toInt8.toInt32))) 69 1 8) 70 8 (vp_nar .byte ((p3 >>> (24 &&& 31)).toInt8.toInt32))) 69 1 9) 70 9 (vp_nar .byte ((p3 >>> (16 &&& 31)).toInt8.toInt32))) 69 1 10) 70 10 (vp_nar .byte ((p3 >>> (8 &&& 31)).toInt8.toInt32))) 69 1 11) 70 11 (vp_nar .byte ((p3 >>> (0 &&& 31)).toInt8.toInt32))) 69 1 12) 70 12 (vp_nar .byte ((p4 >>> (24 &&& 31)).toInt8.toInt32))) 69 1 13) 70 13 (vp_nar .byte ((p4 >>> (16 &&& 31)).toInt8.toInt32))) 69 1 14) 70 14 (vp_nar .byte ((p4 >>> (8 &&& 31)).toInt8.toInt32))) 69 1 15) 70 15 (vp_nar .byte ((p4 >>> (0 &&& 31)).toInt8.toInt32))) 69 1 16) R J s H locs := hG
  refine lv_aload_n hx hb dX12_feed_36 rfl (lv_at hl 0 rfl) ?_
  refine lv_iload hx hb dX12_feed_37 (lv_at hl 5 rfl) ?_
  refine md_gov hG (md_runV (As := [.int p5]) (rest := []) hx hb hml hown hW hK hT hG (c_X12_four_5 l D cy tx base  Z  K N (u2 (u2 (u2 (u2 (u2 (u2 (u2 (u2 (u2 (u2 (u2 (u2 (u2 (u2 (u2 (u2 (u2 (u2 (u2 (u2 (u2 (u2 (u2 (u2 (u2 (u2 (u2 (u2 (u2 (u2 (u2 (u2 M 70 0 (vp_nar .byte ((p1 >>> (24 &&& 31)).toInt8.toInt32))) 69 1 1) 70 1 (vp_nar .byte ((p1 >>> (16 &&& 31)).toInt8.toInt32))) 69 1 2) 70 2 (vp_nar .byte ((p1 >>> (8 &&& 31)).toInt8.toInt32))) 69 1 3) 70 3 (vp_nar .byte ((p1 >>> (0 &&& 31)).toInt8.toInt32))) 69 1 4) 70 4 (vp_nar .byte ((p2 >>> (24 &&& 31)).toInt8.toInt32))) 69 1 5) 70 5 (vp_nar .byte ((p2 >>> (16 &&& 31)).toInt8.toInt32))) 69 1 6) 70 6 (vp_nar .byte ((p2 >>> (8 &&& 31)).toInt8.toInt32))) 69 1 7) 70 7 (vp_nar .byte ((p2 >>> (0 &&& 31)).toInt8.toInt32))) 69 1 8) 70 8 (vp_nar .byte ((p3 >>> (24 &&& 31)).toInt8.toInt32))) 69 1 9) 70 9 (vp_nar .byte ((p3 >>> (16 &&& 31)).toInt8.toInt32))) 69 1 10) 70 10 (vp_nar .byte ((p3 >>> (8 &&& 31)).toInt8.toInt32))) 69 1 11) 70 11 (vp_nar .byte ((p3 >>> (0 &&& 31)).toInt8.toInt32))) 69 1 12) 70 12 (vp_nar .byte ((p4 >>> (24 &&& 31)).toInt8.toInt32))) 69 1 13) 70 13 (vp_nar .byte ((p4 >>> (16 &&& 31)).toInt8.toInt32))) 69 1 14) 70 14 (vp_nar .byte ((p4 >>> (8 &&& 31)).toInt8.toInt32))) 69 1 15) 70 15 (vp_nar .byte ((p4 >>> (0 &&& 31)).toInt8.toInt32))) 69 1 16) R J hZ hK69 hR69_0 rfl hK70 hN70 p5) s_X12_120 ⟨rfl, rfl, ⟨Nat.le_of_ble_eq_true rfl, Nat.le_of_ble_eq_true rfl⟩, ⟨Nat.le_of_ble_eq_true rfl, Nat.le_of_ble_eq_true rfl⟩⟩ (Nat.lt_of_lt_of_le (by decide) hZ) hK69 (by decide) rfl rfl hl.1 rfl (Nat.le_of_ble_eq_true rfl) dX12_feed_39) (fun u H locs hp hG => ?_)
  subst hp
  have hG : md_G D cy base Z K N (u2 (u2 (u2 (u2 (u2 (u2 (u2 (u2 (u2 (u2 (u2 (u2 (u2 (u2 (u2 (u2 (u2 (u2 (u2 (u2 (u2 (u2 (u2 (u2 (u2 (u2 (u2 (u2 (u2 (u2 (u2 (u2 (u2 (u2 (u2 (u2 (u2 (u2 (u2 (u2 M 70 0 (vp_nar .byte ((p1 >>> (24 &&& 31)).toInt8.toInt32))) 69 1 1) 70 1 (vp_nar .byte ((p1 >>> (16 &&& 31)).toInt8.toInt32))) 69 1 2) 70 2 (vp_nar .byte ((p1 >>> (8 &&& 31)).toInt8.toInt32))) 69 1 3) 70 3 (vp_nar .byte ((p1 >>> (0 &&& 31)).toInt8.toInt32))) 69 1 4) 70 4 (vp_nar .byte ((p2 >>> (24 &&& 31)).toInt8.toInt32))) 69 1 5) 70 5 (vp_nar .byte ((p2 >>> (16 &&& 31)).toInt8.toInt32))) 69 1 6) 70 6 (vp_nar .byte ((p2 >>> (8 &&& 31)).toInt8.toInt32))) 69 1 7) 70 7 (vp_nar .byte ((p2 >>> (0 &&& 31)).toInt8.toInt32))) 69 1 8) 70 8 (vp_nar .byte ((p3 >>> (24 &&& 31)).toInt8.toInt32))) 69 1 9) 70 9 (vp_nar .byte ((p3 >>> (16 &&& 31)).toInt8.toInt32))) 69 1 10) 70 10 (vp_nar .byte ((p3 >>> (8 &&& 31)).toInt8.toInt32))) 69 1 11) 70 11 (vp_nar .byte ((p3 >>> (0 &&& 31)).toInt8.toInt32))) 69 1 12) 70 12 (vp_nar .byte ((p4 >>> (24 &&& 31)).toInt8.toInt32))) 69 1 13) 70 13 (vp_nar .byte ((p4 >>> (16 &&& 31)).toInt8.toInt32))) 69 1 14) 70 14 (vp_nar .byte ((p4 >>> (8 &&& 31)).toInt8.toInt32))) 69 1 15) 70 15 (vp_nar .byte ((p4 >>> (0 &&& 31)).toInt8.toInt32))) 69 1 16) 70 16 (vp_nar .byte ((p5 >>> (24 &&& 31)).toInt8.toInt32))) 69 1 17) 70 17 (vp_nar .byte ((p5 >>> (16 &&& 31)).toInt8.toInt32))) 69 1 18) 70 18 (vp_nar .byte ((p5 >>> (8 &&& 31)).toInt8.toInt32))) 69 1 19) 70 19 (vp_nar .byte ((p5 >>> (0 &&& 31)).toInt8.toInt32))) 69 1 20) R J s H locs := hG
  refine lv_aload_n hx hb dX12_feed_42 rfl (lv_at hl 0 rfl) ?_
  refine md_geti hx hb hW hown hK hG f_X12_116_11 (Nat.lt_of_lt_of_le (by decide) hZ) hK69 (v := 20) rfl dX12_feed_43 ?_
  exact md_endi hx hb hr hlocks hK hT hG (⟨rfl, rfl⟩) dX12_feed_46
set_option maxRecDepth 100000 in
set_option maxHeartbeats 4000000 in
theorem c_X12_end (l : Launch) (D : va_G) (cy : Nat → ClassId) (tx : (Nat → Nat) × (Nat → Nat)) (base Z : Nat) (K N : Nat → Nat) (M : Nat → Nat → Int32) (R : Nat → Nat → Option Nat) (J : Nat → Nat → Int64) (hZ : 104 ≤ Z) (p1 : Int32) (h1 : p1 < 0) : Met l yX12_end [Cond.code yX12_end cX12_end 2 (some .int)] (md_rm 1 0 0) (va_Pc [.ref (base + 69), .int p1] (md_U D cy tx base Z K N M R J)) (mQi D cy tx base (fun r u => r = (-1) ∧ u = (Z, K, N, M, R, J))) 0 0 (fun q => base ≤ q) := by
  refine Met.ofW (cc := cX12_end) (maxL := 2) (ret := (some .int)) (by decide) rfl ?_
  intro p e s m args below meth c s₁ B hml hv
  have hW : ∀ w ∈ lw_tbl, goodWord w = true → w.before args s = true := fun w h g => hv.2.2.2.1.2.1 w h g _
  obtain ⟨rfl, hU⟩ := hv
  have hx := B.exec
  have hb := B.bytes
  have hr := B.returns
  have hlocks := B.notSynchronized
  have hown : s.vm.findClass RX12 = some m.cls := findClass_of_methodNamed B.named
  have hK := hU.2.2.1
  have hT := hU.2.2.2
  have hG := md_G.start hU
  have hl := lv_entry ([.ref (base + 69), .int p1]) (n := 2) (Nat.le_of_ble_eq_true rfl)
  rw [lg_entry_eq]
  generalize (lg_sl ([.ref (base + 69), .int p1]) ++ List.replicate (2 - (lg_sl ([.ref (base + 69), .int p1])).length) Slot.unset).toArray = ls at hl ⊢
  have hl : lv_has ls 2 [(0, .ref (base + 69)), (1, .int p1)] := hl
  refine lv_iload_n hx hb dX12_end_0 rfl (lv_at hl 1 rfl) ?_
  refine lv_if_lt (tgt := 12) hx hb dX12_end_1 (by decide) (fun _ => ?_) (fun h => absurd h1 h)
  refine lv_iconst (v := (-1)) hx hb dX12_end_12 (by decide) ?_
  exact md_endi hx hb hr hlocks hK hT hG (⟨rfl, rfl⟩) dX12_end_13
set_option maxRecDepth 100000 in
set_option maxHeartbeats 4000000 in
theorem c_X12_end_2 (l : Launch) (D : va_G) (cy : Nat → ClassId) (tx : (Nat → Nat) × (Nat → Nat)) (base Z : Nat) (K N : Nat → Nat) (M : Nat → Nat → Int32) (R : Nat → Nat → Option Nat) (J : Nat → Nat → Int64) (hZ : 104 ≤ Z) (hK69 : K 69 = 12) (hM69_1 : M 69 1 = 0) (p1 : Int32) (h1 : ¬ p1 < 0) (h2 : ¬ p1 ≤ 0) : Met l yX12_end [Cond.code yX12_end cX12_end 2 (some .int)] (md_rm 1 0 0) (va_Pc [.ref (base + 69), .int p1] (md_U D cy tx base Z K N M R J)) (mQi D cy tx base (fun r u => r = (-1) ∧ u = (Z, K, N, M, R, J))) 0 0 (fun q => base ≤ q) := by
  refine Met.ofW (cc := cX12_end) (maxL := 2) (ret := (some .int)) (by decide) rfl ?_
  intro p e s m args below meth c s₁ B hml hv
  have hW : ∀ w ∈ lw_tbl, goodWord w = true → w.before args s = true := fun w h g => hv.2.2.2.1.2.1 w h g _
  obtain ⟨rfl, hU⟩ := hv
  have hx := B.exec
  have hb := B.bytes
  have hr := B.returns
  have hlocks := B.notSynchronized
  have hown : s.vm.findClass RX12 = some m.cls := findClass_of_methodNamed B.named
  have hK := hU.2.2.1
  have hT := hU.2.2.2
  have hG := md_G.start hU
  have hl := lv_entry ([.ref (base + 69), .int p1]) (n := 2) (Nat.le_of_ble_eq_true rfl)
  rw [lg_entry_eq]
  generalize (lg_sl ([.ref (base + 69), .int p1]) ++ List.replicate (2 - (lg_sl ([.ref (base + 69), .int p1])).length) Slot.unset).toArray = ls at hl ⊢
  have hl : lv_has ls 2 [(0, .ref (base + 69)), (1, .int p1)] := hl
  refine lv_iload_n hx hb dX12_end_0 rfl (lv_at hl 1 rfl) ?_
  refine lv_if_lt (tgt := 12) hx hb dX12_end_1 (by decide) (fun h => absurd h h1) (fun _ => ?_)
  refine lv_iload_n hx hb dX12_end_4 rfl (lv_at hl 1 rfl) ?_
  refine lv_aload_n hx hb dX12_end_5 rfl (lv_at hl 0 rfl) ?_
  refine md_geti hx hb hW hown hK hG f_X12_116_11 (Nat.lt_of_lt_of_le (by decide) hZ) hK69 (v := 0) hM69_1 dX12_end_6 ?_
  refine lv_icmp_le (tgt := 14) hx hb dX12_end_9 (by decide) (fun h => absurd h h2) (fun _ => ?_)
  refine lv_iconst (v := (-1)) hx hb dX12_end_12 (by decide) ?_
  exact md_endi hx hb hr hlocks hK hT hG (⟨rfl, rfl⟩) dX12_end_13
set_option maxRecDepth 100000 in
set_option maxHeartbeats 4000000 in
theorem c_X12_end_3 (l : Launch) (D : va_G) (cy : Nat → ClassId) (tx : (Nat → Nat) × (Nat → Nat)) (base Z : Nat) (K N : Nat → Nat) (M : Nat → Nat → Int32) (R : Nat → Nat → Option Nat) (J : Nat → Nat → Int64) (hZ : 104 ≤ Z) (hK69 : K 69 = 12) (hM69_1 : M 69 1 = 0) (p1 : Int32) (h1 : ¬ p1 < 0) (h2 : p1 ≤ 0) : Met l yX12_end [Cond.code yX12_end cX12_end 2 (some .int)] (md_rm 1 0 0) (va_Pc [.ref (base + 69), .int p1] (md_U D cy tx base Z K N M R J)) (mQi D cy tx base (fun r u => r = p1 ∧ u = (Z, K, N, (u2 M 69 1 p1), R, J))) 0 0 (fun q => base ≤ q) := by
  refine Met.ofW (cc := cX12_end) (maxL := 2) (ret := (some .int)) (by decide) rfl ?_
  intro p e s m args below meth c s₁ B hml hv
  have hW : ∀ w ∈ lw_tbl, goodWord w = true → w.before args s = true := fun w h g => hv.2.2.2.1.2.1 w h g _
  obtain ⟨rfl, hU⟩ := hv
  have hx := B.exec
  have hb := B.bytes
  have hr := B.returns
  have hlocks := B.notSynchronized
  have hown : s.vm.findClass RX12 = some m.cls := findClass_of_methodNamed B.named
  have hK := hU.2.2.1
  have hT := hU.2.2.2
  have hG := md_G.start hU
  have hl := lv_entry ([.ref (base + 69), .int p1]) (n := 2) (Nat.le_of_ble_eq_true rfl)
  rw [lg_entry_eq]
  generalize (lg_sl ([.ref (base + 69), .int p1]) ++ List.replicate (2 - (lg_sl ([.ref (base + 69), .int p1])).length) Slot.unset).toArray = ls at hl ⊢
  have hl : lv_has ls 2 [(0, .ref (base + 69)), (1, .int p1)] := hl
  refine lv_iload_n hx hb dX12_end_0 rfl (lv_at hl 1 rfl) ?_
  refine lv_if_lt (tgt := 12) hx hb dX12_end_1 (by decide) (fun h => absurd h h1) (fun _ => ?_)
  refine lv_iload_n hx hb dX12_end_4 rfl (lv_at hl 1 rfl) ?_
  refine lv_aload_n hx hb dX12_end_5 rfl (lv_at hl 0 rfl) ?_
  refine md_geti hx hb hW hown hK hG f_X12_116_11 (Nat.lt_of_lt_of_le (by decide) hZ) hK69 (v := 0) hM69_1 dX12_end_6 ?_
  refine lv_icmp_le (tgt := 14) hx hb dX12_end_9 (by decide) (fun _ => ?_) (fun h => absurd h2 h)
  refine lv_aload_n hx hb dX12_end_14 rfl (lv_at hl 0 rfl) ?_
  refine lv_iload_n hx hb dX12_end_15 rfl (lv_at hl 1 rfl) ?_
  refine md_puti hx hb hW hown hK hG f_X12_116_11 (Nat.lt_of_lt_of_le (by decide) hZ) hK69 rfl rfl dX12_end_16 (fun H locs hG => ?_)
  refine lv_iload_n hx hb dX12_end_19 rfl (lv_at hl 1 rfl) ?_
  exact md_endi hx hb hr hlocks hK hT hG (⟨rfl, rfl⟩) dX12_end_20
set_option maxRecDepth 100000 in
set_option maxHeartbeats 4000000 in
theorem c_X12_see (l : Launch) (D : va_G) (cy : Nat → ClassId) (tx : (Nat → Nat) × (Nat → Nat)) (base Z : Nat) (K N : Nat → Nat) (M : Nat → Nat → Int32) (R : Nat → Nat → Option Nat) (J : Nat → Nat → Int64) (hZ : 104 ≤ Z) (hK69 : K 69 = 12) (hM69_13 : M 69 13 = 0) (hM69_1 : M 69 1 = 0) : Met l yX12_see [Cond.code yX12_see cX12_see 1 (some .int)] (md_rm 1 0 0) (va_Pc [.ref (base + 69)] (md_U D cy tx base Z K N M R J)) (mQi D cy tx base (fun r u => r = (-1) ∧ u = (Z, K, N, M, R, J))) 0 0 (fun q => base ≤ q) := by
  refine Met.ofW (cc := cX12_see) (maxL := 1) (ret := (some .int)) (by decide) rfl ?_
  intro p e s m args below meth c s₁ B hml hv
  have hW : ∀ w ∈ lw_tbl, goodWord w = true → w.before args s = true := fun w h g => hv.2.2.2.1.2.1 w h g _
  obtain ⟨rfl, hU⟩ := hv
  have hx := B.exec
  have hb := B.bytes
  have hr := B.returns
  have hlocks := B.notSynchronized
  have hown : s.vm.findClass RX12 = some m.cls := findClass_of_methodNamed B.named
  have hK := hU.2.2.1
  have hT := hU.2.2.2
  have hG := md_G.start hU
  have hl := lv_entry ([.ref (base + 69)]) (n := 1) (Nat.le_of_ble_eq_true rfl)
  rw [lg_entry_eq]
  generalize (lg_sl ([.ref (base + 69)]) ++ List.replicate (1 - (lg_sl ([.ref (base + 69)])).length) Slot.unset).toArray = ls at hl ⊢
  have hl : lv_has ls 1 [(0, .ref (base + 69))] := hl
  refine lv_aload_n hx hb dX12_see_0 rfl (lv_at hl 0 rfl) ?_
  refine md_geti hx hb hW hown hK hG f_X12_127_11 (Nat.lt_of_lt_of_le (by decide) hZ) hK69 (v := 0) hM69_13 dX12_see_1 ?_
  refine lv_aload_n hx hb dX12_see_4 rfl (lv_at hl 0 rfl) ?_
  refine md_geti hx hb hW hown hK hG f_X12_116_11 (Nat.lt_of_lt_of_le (by decide) hZ) hK69 (v := 0) hM69_1 dX12_see_5 ?_
  refine lv_icmp_ge (tgt := 38) hx hb dX12_see_8 (by decide) (fun _ => ?_) (fun h => absurd h (by decide))
  refine lv_aload_n hx hb dX12_see_38 rfl (lv_at hl 0 rfl) ?_
  refine md_geti hx hb hW hown hK hG f_X12_127_11 (Nat.lt_of_lt_of_le (by decide) hZ) hK69 (v := 0) hM69_13 dX12_see_39 ?_
  refine lv_aload_n hx hb dX12_see_42 rfl (lv_at hl 0 rfl) ?_
  refine md_geti hx hb hW hown hK hG f_X12_116_11 (Nat.lt_of_lt_of_le (by decide) hZ) hK69 (v := 0) hM69_1 dX12_see_43 ?_
  refine lv_icmp_ge (tgt := 65) hx hb dX12_see_46 (by decide) (fun _ => ?_) (fun h => absurd h (by decide))
  refine lv_iconst (v := (-1)) hx hb dX12_see_65 (by decide) ?_
  exact md_endi hx hb hr hlocks hK hT hG (⟨rfl, rfl⟩) dX12_see_66
set_option maxRecDepth 100000 in
set_option maxHeartbeats 4000000 in
theorem c_X12_isLetter (l : Launch) (D : va_G) (cy : Nat → ClassId) (tx : (Nat → Nat) × (Nat → Nat)) (base Z : Nat) (K N : Nat → Nat) (M : Nat → Nat → Int32) (R : Nat → Nat → Option Nat) (J : Nat → Nat → Int64) (hZ : 104 ≤ Z) (hK69 : K 69 = 12) (hM69_1 : M 69 1 = 0) : Met l yX12_isLetter [Cond.code yX12_isLetter cX12_isLetter 2 (some .boolean)] (md_rm 1 0 0) (va_Pc [.ref (base + 69), .int 0] (md_U D cy tx base Z K N M R J)) (mQi D cy tx base (fun r u => r = 0 ∧ u = (Z, K, N, M, R, J))) 0 0 (fun q => base ≤ q) := by
  refine Met.ofW (cc := cX12_isLetter) (maxL := 2) (ret := (some .boolean)) (by decide) rfl ?_
  intro p e s m args below meth c s₁ B hml hv
  have hW : ∀ w ∈ lw_tbl, goodWord w = true → w.before args s = true := fun w h g => hv.2.2.2.1.2.1 w h g _
  obtain ⟨rfl, hU⟩ := hv
  have hx := B.exec
  have hb := B.bytes
  have hr := B.returns
  have hlocks := B.notSynchronized
  have hown : s.vm.findClass RX12 = some m.cls := findClass_of_methodNamed B.named
  have hK := hU.2.2.1
  have hT := hU.2.2.2
  have hG := md_G.start hU
  have hl := lv_entry ([.ref (base + 69), .int 0]) (n := 2) (Nat.le_of_ble_eq_true rfl)
  rw [lg_entry_eq]
  generalize (lg_sl ([.ref (base + 69), .int 0]) ++ List.replicate (2 - (lg_sl ([.ref (base + 69), .int 0])).length) Slot.unset).toArray = ls at hl ⊢
  have hl : lv_has ls 2 [(0, .ref (base + 69)), (1, .int 0)] := hl
  refine lv_iload_n hx hb dX12_isLetter_0 rfl (lv_at hl 1 rfl) ?_
  refine lv_aload_n hx hb dX12_isLetter_1 rfl (lv_at hl 0 rfl) ?_
  refine md_geti hx hb hW hown hK hG f_X12_116_11 (Nat.lt_of_lt_of_le (by decide) hZ) hK69 (v := 0) hM69_1 dX12_isLetter_2 ?_
  refine lv_icmp_ge (tgt := 34) hx hb dX12_isLetter_5 (by decide) (fun _ => ?_) (fun h => absurd h (by decide))
  refine lv_iconst (v := 0) hx hb dX12_isLetter_34 (by decide) ?_
  exact md_endz hx hb hr hlocks hK hT hG rfl (⟨rfl, rfl⟩) dX12_isLetter_35
set_option maxRecDepth 100000 in
set_option maxHeartbeats 4000000 in
theorem c_X12_isWord (l : Launch) (D : va_G) (cy : Nat → ClassId) (tx : (Nat → Nat) × (Nat → Nat)) (base Z : Nat) (K N : Nat → Nat) (M : Nat → Nat → Int32) (R : Nat → Nat → Option Nat) (J : Nat → Nat → Int64) (hZ : 104 ≤ Z) (hK69 : K 69 = 12) (hM69_13 : M 69 13 = 0) (hM69_1 : M 69 1 = 0) : Met l yX12_isWord [Cond.code yX12_isWord cX12_isWord 6 (some .boolean)] (md_rm 2 0 0) (va_Pc [.ref (base + 69), .long 30792292938117747] (md_U D cy tx base Z K N M R J)) (mQi D cy tx base (fun r u => r = 0 ∧ u = (Z, K, N, M, R, J))) 0 0 (fun q => base ≤ q) := by
  refine Met.ofW (cc := cX12_isWord) (maxL := 6) (ret := (some .boolean)) (by decide) rfl ?_
  intro p e s m args below meth c s₁ B hml hv
  have hW : ∀ w ∈ lw_tbl, goodWord w = true → w.before args s = true := fun w h g => hv.2.2.2.1.2.1 w h g _
  obtain ⟨rfl, hU⟩ := hv
  have hx := B.exec
  have hb := B.bytes
  have hr := B.returns
  have hlocks := B.notSynchronized
  have hown : s.vm.findClass RX12 = some m.cls := findClass_of_methodNamed B.named
  have hK := hU.2.2.1
  have hT := hU.2.2.2
  have hG := md_G.start hU
  have hl := lv_entry ([.ref (base + 69), .long 30792292938117747]) (n := 6) (Nat.le_of_ble_eq_true rfl)
  rw [lg_entry_eq]
  generalize (lg_sl ([.ref (base + 69), .long 30792292938117747]) ++ List.replicate (6 - (lg_sl ([.ref (base + 69), .long 30792292938117747])).length) Slot.unset).toArray = ls at hl ⊢
  have hl : lv_has ls 6 [(0, .ref (base + 69)), (1, .long 30792292938117747)] := hl
  refine lv_aload_n hx hb dX12_isWord_0 rfl (lv_at hl 0 rfl) ?_
  refine md_goi hG (md_runV (As := []) (rest := []) hx hb hml hown hW hK hT hG (c_X12_see l D cy tx base  Z  K N M R J hZ hK69 hM69_13 hM69_1 ) s_X12_130 ⟨rfl, rfl, ⟨Nat.le_of_ble_eq_true rfl, Nat.le_of_ble_eq_true rfl⟩, ⟨Nat.le_of_ble_eq_true rfl, Nat.le_of_ble_eq_true rfl⟩⟩ (Nat.lt_of_lt_of_le (by decide) hZ) hK69 (by decide) rfl rfl hl.1 rfl (Nat.le_of_ble_eq_true rfl) dX12_isWord_1) (fun r u H locs hp hG => ?_)
  obtain ⟨rfl, rfl⟩ := hp
  have hG : md_G D cy base Z K N M R J s H locs := hG
  refine lv_pop hx hb dX12_isWord_4 rfl ?_
  refine lv_lconst (v := 0) hx hb dX12_isWord_5 (by decide) ?_
  refine lv_lstore_n (lv' := [(3, .long 0), (0, .ref (base + 69)), (1, .long 30792292938117747)]) hx hb dX12_isWord_6 rfl hl (by decide) rfl (fun ls hl => ?_)
  refine lv_iconst (v := 0) hx hb dX12_isWord_7 (by decide) ?_
  refine lv_istore (lv' := [(5, .int 0), (3, .long 0), (0, .ref (base + 69)), (1, .long 30792292938117747)]) hx hb dX12_isWord_8 hl (by decide) rfl (fun ls hl => ?_)
  refine lv_aload_n hx hb dX12_isWord_10 rfl (lv_at hl 2 rfl) ?_
  refine lv_aload_n hx hb dX12_isWord_11 rfl (lv_at hl 2 rfl) ?_
  refine md_geti hx hb hW hown hK hG f_X12_127_11 (Nat.lt_of_lt_of_le (by decide) hZ) hK69 (v := 0) hM69_13 dX12_isWord_12 ?_
  refine lv_iload hx hb dX12_isWord_15 (lv_at hl 0 rfl) ?_
  refine lv_iadd hx hb dX12_isWord_17 ?_
  refine md_top (y := 0) (by decide) ?_
  refine md_goi hG (md_runV (As := [.int 0]) (rest := []) hx hb hml hown hW hK hT hG (c_X12_isLetter l D cy tx base  Z  K N M R J hZ hK69 hM69_1 ) s_X12_134 ⟨rfl, rfl, ⟨Nat.le_of_ble_eq_true rfl, Nat.le_of_ble_eq_true rfl⟩, ⟨Nat.le_of_ble_eq_true rfl, Nat.le_of_ble_eq_true rfl⟩⟩ (Nat.lt_of_lt_of_le (by decide) hZ) hK69 (by decide) rfl rfl hl.1 rfl (Nat.le_of_ble_eq_true rfl) dX12_isWord_18) (fun r u H locs hp hG => ?_)
  obtain ⟨rfl, rfl⟩ := hp
  have hG : md_G D cy base Z K N M R J s H locs := hG
  refine lv_if_eq (tgt := 56) hx hb dX12_isWord_21 (by decide) (fun _ => ?_) (fun h => absurd h (by decide))
  refine lv_iload hx hb dX12_isWord_56 (lv_at hl 0 rfl) ?_
  refine lv_if_le (tgt := 78) hx hb dX12_isWord_58 (by decide) (fun _ => ?_) (fun h => absurd h (by decide))
  refine lv_iconst (v := 0) hx hb dX12_isWord_78 (by decide) ?_
  exact md_endz hx hb hr hlocks hK hT hG rfl (⟨rfl, rfl⟩) dX12_isWord_79
set_option maxRecDepth 100000 in
set_option maxHeartbeats 4000000 in
theorem c_X12_isWord_2 (l : Launch) (D : va_G) (cy : Nat → ClassId) (tx : (Nat → Nat) × (Nat → Nat)) (base Z : Nat) (K N : Nat → Nat) (M : Nat → Nat → Int32) (R : Nat → Nat → Option Nat) (J : Nat → Nat → Int64) (hZ : 104 ≤ Z) (hK69 : K 69 = 12) (hM69_13 : M 69 13 = 0) (hM69_1 : M 69 1 = 0) : Met l yX12_isWord [Cond.code yX12_isWord cX12_isWord 6 (some .boolean)] (md_rm 2 0 0) (va_Pc [.ref (base + 69), .long 482905517684] (md_U D cy tx base Z K N M R J)) (mQi D cy tx base (fun r u => r = 0 ∧ u = (Z, K, N, M, R, J))) 0 0 (fun q => base ≤ q) := by
  refine Met.ofW (cc := cX12_isWord) (maxL := 6) (ret := (some .boolean)) (by decide) rfl ?_
  intro p e s m args below meth c s₁ B hml hv
  have hW : ∀ w ∈ lw_tbl, goodWord w = true → w.before args s = true := fun w h g => hv.2.2.2.1.2.1 w h g _
  obtain ⟨rfl, hU⟩ := hv
  have hx := B.exec
  have hb := B.bytes
  have hr := B.returns
  have hlocks := B.notSynchronized
  have hown : s.vm.findClass RX12 = some m.cls := findClass_of_methodNamed B.named
  have hK := hU.2.2.1
  have hT := hU.2.2.2
  have hG := md_G.start hU
  have hl := lv_entry ([.ref (base + 69), .long 482905517684]) (n := 6) (Nat.le_of_ble_eq_true rfl)
  rw [lg_entry_eq]
  generalize (lg_sl ([.ref (base + 69), .long 482905517684]) ++ List.replicate (6 - (lg_sl ([.ref (base + 69), .long 482905517684])).length) Slot.unset).toArray = ls at hl ⊢
  have hl : lv_has ls 6 [(0, .ref (base + 69)), (1, .long 482905517684)] := hl
  refine lv_aload_n hx hb dX12_isWord_0 rfl (lv_at hl 0 rfl) ?_
  refine md_goi hG (md_runV (As := []) (rest := []) hx hb hml hown hW hK hT hG (c_X12_see l D cy tx base  Z  K N M R J hZ hK69 hM69_13 hM69_1 ) s_X12_130 ⟨rfl, rfl, ⟨Nat.le_of_ble_eq_true rfl, Nat.le_of_ble_eq_true rfl⟩, ⟨Nat.le_of_ble_eq_true rfl, Nat.le_of_ble_eq_true rfl⟩⟩ (Nat.lt_of_lt_of_le (by decide) hZ) hK69 (by decide) rfl rfl hl.1 rfl (Nat.le_of_ble_eq_true rfl) dX12_isWord_1) (fun r u H locs hp hG => ?_)
  obtain ⟨rfl, rfl⟩ := hp
  have hG : md_G D cy base Z K N M R J s H locs := hG
  refine lv_pop hx hb dX12_isWord_4 rfl ?_
  refine lv_lconst (v := 0) hx hb dX12_isWord_5 (by decide) ?_
  refine lv_lstore_n (lv' := [(3, .long 0), (0, .ref (base + 69)), (1, .long 482905517684)]) hx hb dX12_isWord_6 rfl hl (by decide) rfl (fun ls hl => ?_)
  refine lv_iconst (v := 0) hx hb dX12_isWord_7 (by decide) ?_
  refine lv_istore (lv' := [(5, .int 0), (3, .long 0), (0, .ref (base + 69)), (1, .long 482905517684)]) hx hb dX12_isWord_8 hl (by decide) rfl (fun ls hl => ?_)
  refine lv_aload_n hx hb dX12_isWord_10 rfl (lv_at hl 2 rfl) ?_
  refine lv_aload_n hx hb dX12_isWord_11 rfl (lv_at hl 2 rfl) ?_
  refine md_geti hx hb hW hown hK hG f_X12_127_11 (Nat.lt_of_lt_of_le (by decide) hZ) hK69 (v := 0) hM69_13 dX12_isWord_12 ?_
  refine lv_iload hx hb dX12_isWord_15 (lv_at hl 0 rfl) ?_
  refine lv_iadd hx hb dX12_isWord_17 ?_
  refine md_top (y := 0) (by decide) ?_
  refine md_goi hG (md_runV (As := [.int 0]) (rest := []) hx hb hml hown hW hK hT hG (c_X12_isLetter l D cy tx base  Z  K N M R J hZ hK69 hM69_1 ) s_X12_134 ⟨rfl, rfl, ⟨Nat.le_of_ble_eq_true rfl, Nat.le_of_ble_eq_true rfl⟩, ⟨Nat.le_of_ble_eq_true rfl, Nat.le_of_ble_eq_true rfl⟩⟩ (Nat.lt_of_lt_of_le (by decide) hZ) hK69 (by decide) rfl rfl hl.1 rfl (Nat.le_of_ble_eq_true rfl) dX12_isWord_18) (fun r u H locs hp hG => ?_)
  obtain ⟨rfl, rfl⟩ := hp
  have hG : md_G D cy base Z K N M R J s H locs := hG
  refine lv_if_eq (tgt := 56) hx hb dX12_isWord_21 (by decide) (fun _ => ?_) (fun h => absurd h (by decide))
  refine lv_iload hx hb dX12_isWord_56 (lv_at hl 0 rfl) ?_
  refine lv_if_le (tgt := 78) hx hb dX12_isWord_58 (by decide) (fun _ => ?_) (fun h => absurd h (by decide))
  refine lv_iconst (v := 0) hx hb dX12_isWord_78 (by decide) ?_
  exact md_endz hx hb hr hlocks hK hT hG rfl (⟨rfl, rfl⟩) dX12_isWord_79
set_option maxRecDepth 100000 in
set_option maxHeartbeats 4000000 in
theorem c_X12_isWord_3 (l : Launch) (D : va_G) (cy : Nat → ClassId) (tx : (Nat → Nat) × (Nat → Nat)) (base Z : Nat) (K N : Nat → Nat) (M : Nat → Nat → Int32) (R : Nat → Nat → Option Nat) (J : Nat → Nat → Int64) (hZ : 104 ≤ Z) (hK69 : K 69 = 12) (hM69_13 : M 69 13 = 0) (hM69_1 : M 69 1 = 0) : Met l yX12_isWord [Cond.code yX12_isWord cX12_isWord 6 (some .boolean)] (md_rm 2 0 0) (va_Pc [.ref (base + 69), .long 130220881569139] (md_U D cy tx base Z K N M R J)) (mQi D cy tx base (fun r u => r = 0 ∧ u = (Z, K, N, M, R, J))) 0 0 (fun q => base ≤ q) := by
  refine Met.ofW (cc := cX12_isWord) (maxL := 6) (ret := (some .boolean)) (by decide) rfl ?_
  intro p e s m args below meth c s₁ B hml hv
  have hW : ∀ w ∈ lw_tbl, goodWord w = true → w.before args s = true := fun w h g => hv.2.2.2.1.2.1 w h g _
  obtain ⟨rfl, hU⟩ := hv
  have hx := B.exec
  have hb := B.bytes
  have hr := B.returns
  have hlocks := B.notSynchronized
  have hown : s.vm.findClass RX12 = some m.cls := findClass_of_methodNamed B.named
  have hK := hU.2.2.1
  have hT := hU.2.2.2
  have hG := md_G.start hU
  have hl := lv_entry ([.ref (base + 69), .long 130220881569139]) (n := 6) (Nat.le_of_ble_eq_true rfl)
  rw [lg_entry_eq]
  generalize (lg_sl ([.ref (base + 69), .long 130220881569139]) ++ List.replicate (6 - (lg_sl ([.ref (base + 69), .long 130220881569139])).length) Slot.unset).toArray = ls at hl ⊢
  have hl : lv_has ls 6 [(0, .ref (base + 69)), (1, .long 130220881569139)] := hl
  refine lv_aload_n hx hb dX12_isWord_0 rfl (lv_at hl 0 rfl) ?_
  refine md_goi hG (md_runV (As := []) (rest := []) hx hb hml hown hW hK hT hG (c_X12_see l D cy tx base  Z  K N M R J hZ hK69 hM69_13 hM69_1 ) s_X12_130 ⟨rfl, rfl, ⟨Nat.le_of_ble_eq_true rfl, Nat.le_of_ble_eq_true rfl⟩, ⟨Nat.le_of_ble_eq_true rfl, Nat.le_of_ble_eq_true rfl⟩⟩ (Nat.lt_of_lt_of_le (by decide) hZ) hK69 (by decide) rfl rfl hl.1 rfl (Nat.le_of_ble_eq_true rfl) dX12_isWord_1) (fun r u H locs hp hG => ?_)
  obtain ⟨rfl, rfl⟩ := hp
  have hG : md_G D cy base Z K N M R J s H locs := hG
  refine lv_pop hx hb dX12_isWord_4 rfl ?_
  refine lv_lconst (v := 0) hx hb dX12_isWord_5 (by decide) ?_
  refine lv_lstore_n (lv' := [(3, .long 0), (0, .ref (base + 69)), (1, .long 130220881569139)]) hx hb dX12_isWord_6 rfl hl (by decide) rfl (fun ls hl => ?_)
  refine lv_iconst (v := 0) hx hb dX12_isWord_7 (by decide) ?_
  refine lv_istore (lv' := [(5, .int 0), (3, .long 0), (0, .ref (base + 69)), (1, .long 130220881569139)]) hx hb dX12_isWord_8 hl (by decide) rfl (fun ls hl => ?_)
  refine lv_aload_n hx hb dX12_isWord_10 rfl (lv_at hl 2 rfl) ?_
  refine lv_aload_n hx hb dX12_isWord_11 rfl (lv_at hl 2 rfl) ?_
  refine md_geti hx hb hW hown hK hG f_X12_127_11 (Nat.lt_of_lt_of_le (by decide) hZ) hK69 (v := 0) hM69_13 dX12_isWord_12 ?_
  refine lv_iload hx hb dX12_isWord_15 (lv_at hl 0 rfl) ?_
  refine lv_iadd hx hb dX12_isWord_17 ?_
  refine md_top (y := 0) (by decide) ?_
  refine md_goi hG (md_runV (As := [.int 0]) (rest := []) hx hb hml hown hW hK hT hG (c_X12_isLetter l D cy tx base  Z  K N M R J hZ hK69 hM69_1 ) s_X12_134 ⟨rfl, rfl, ⟨Nat.le_of_ble_eq_true rfl, Nat.le_of_ble_eq_true rfl⟩, ⟨Nat.le_of_ble_eq_true rfl, Nat.le_of_ble_eq_true rfl⟩⟩ (Nat.lt_of_lt_of_le (by decide) hZ) hK69 (by decide) rfl rfl hl.1 rfl (Nat.le_of_ble_eq_true rfl) dX12_isWord_18) (fun r u H locs hp hG => ?_)
  obtain ⟨rfl, rfl⟩ := hp
  have hG : md_G D cy base Z K N M R J s H locs := hG
  refine lv_if_eq (tgt := 56) hx hb dX12_isWord_21 (by decide) (fun _ => ?_) (fun h => absurd h (by decide))
  refine lv_iload hx hb dX12_isWord_56 (lv_at hl 0 rfl) ?_
  refine lv_if_le (tgt := 78) hx hb dX12_isWord_58 (by decide) (fun _ => ?_) (fun h => absurd h (by decide))
  refine lv_iconst (v := 0) hx hb dX12_isWord_78 (by decide) ?_
  exact md_endz hx hb hr hlocks hK hT hG rfl (⟨rfl, rfl⟩) dX12_isWord_79
set_option maxRecDepth 100000 in
set_option maxHeartbeats 4000000 in
theorem c_X12_isWord_4 (l : Launch) (D : va_G) (cy : Nat → ClassId) (tx : (Nat → Nat) × (Nat → Nat)) (base Z : Nat) (K N : Nat → Nat) (M : Nat → Nat → Int32) (R : Nat → Nat → Option Nat) (J : Nat → Nat → Int64) (hZ : 104 ≤ Z) (hK69 : K 69 = 12) (hM69_13 : M 69 13 = 0) (hM69_1 : M 69 1 = 0) : Met l yX12_isWord [Cond.code yX12_isWord cX12_isWord 6 (some .boolean)] (md_rm 2 0 0) (va_Pc [.ref (base + 69), .long 1650814580] (md_U D cy tx base Z K N M R J)) (mQi D cy tx base (fun r u => r = 0 ∧ u = (Z, K, N, M, R, J))) 0 0 (fun q => base ≤ q) := by
  refine Met.ofW (cc := cX12_isWord) (maxL := 6) (ret := (some .boolean)) (by decide) rfl ?_
  intro p e s m args below meth c s₁ B hml hv
  have hW : ∀ w ∈ lw_tbl, goodWord w = true → w.before args s = true := fun w h g => hv.2.2.2.1.2.1 w h g _
  obtain ⟨rfl, hU⟩ := hv
  have hx := B.exec
  have hb := B.bytes
  have hr := B.returns
  have hlocks := B.notSynchronized
  have hown : s.vm.findClass RX12 = some m.cls := findClass_of_methodNamed B.named
  have hK := hU.2.2.1
  have hT := hU.2.2.2
  have hG := md_G.start hU
  have hl := lv_entry ([.ref (base + 69), .long 1650814580]) (n := 6) (Nat.le_of_ble_eq_true rfl)
  rw [lg_entry_eq]
  generalize (lg_sl ([.ref (base + 69), .long 1650814580]) ++ List.replicate (6 - (lg_sl ([.ref (base + 69), .long 1650814580])).length) Slot.unset).toArray = ls at hl ⊢
  have hl : lv_has ls 6 [(0, .ref (base + 69)), (1, .long 1650814580)] := hl
  refine lv_aload_n hx hb dX12_isWord_0 rfl (lv_at hl 0 rfl) ?_
  refine md_goi hG (md_runV (As := []) (rest := []) hx hb hml hown hW hK hT hG (c_X12_see l D cy tx base  Z  K N M R J hZ hK69 hM69_13 hM69_1 ) s_X12_130 ⟨rfl, rfl, ⟨Nat.le_of_ble_eq_true rfl, Nat.le_of_ble_eq_true rfl⟩, ⟨Nat.le_of_ble_eq_true rfl, Nat.le_of_ble_eq_true rfl⟩⟩ (Nat.lt_of_lt_of_le (by decide) hZ) hK69 (by decide) rfl rfl hl.1 rfl (Nat.le_of_ble_eq_true rfl) dX12_isWord_1) (fun r u H locs hp hG => ?_)
  obtain ⟨rfl, rfl⟩ := hp
  have hG : md_G D cy base Z K N M R J s H locs := hG
  refine lv_pop hx hb dX12_isWord_4 rfl ?_
  refine lv_lconst (v := 0) hx hb dX12_isWord_5 (by decide) ?_
  refine lv_lstore_n (lv' := [(3, .long 0), (0, .ref (base + 69)), (1, .long 1650814580)]) hx hb dX12_isWord_6 rfl hl (by decide) rfl (fun ls hl => ?_)
  refine lv_iconst (v := 0) hx hb dX12_isWord_7 (by decide) ?_
  refine lv_istore (lv' := [(5, .int 0), (3, .long 0), (0, .ref (base + 69)), (1, .long 1650814580)]) hx hb dX12_isWord_8 hl (by decide) rfl (fun ls hl => ?_)
  refine lv_aload_n hx hb dX12_isWord_10 rfl (lv_at hl 2 rfl) ?_
  refine lv_aload_n hx hb dX12_isWord_11 rfl (lv_at hl 2 rfl) ?_
  refine md_geti hx hb hW hown hK hG f_X12_127_11 (Nat.lt_of_lt_of_le (by decide) hZ) hK69 (v := 0) hM69_13 dX12_isWord_12 ?_
  refine lv_iload hx hb dX12_isWord_15 (lv_at hl 0 rfl) ?_
  refine lv_iadd hx hb dX12_isWord_17 ?_
  refine md_top (y := 0) (by decide) ?_
  refine md_goi hG (md_runV (As := [.int 0]) (rest := []) hx hb hml hown hW hK hT hG (c_X12_isLetter l D cy tx base  Z  K N M R J hZ hK69 hM69_1 ) s_X12_134 ⟨rfl, rfl, ⟨Nat.le_of_ble_eq_true rfl, Nat.le_of_ble_eq_true rfl⟩, ⟨Nat.le_of_ble_eq_true rfl, Nat.le_of_ble_eq_true rfl⟩⟩ (Nat.lt_of_lt_of_le (by decide) hZ) hK69 (by decide) rfl rfl hl.1 rfl (Nat.le_of_ble_eq_true rfl) dX12_isWord_18) (fun r u H locs hp hG => ?_)
  obtain ⟨rfl, rfl⟩ := hp
  have hG : md_G D cy base Z K N M R J s H locs := hG
  refine lv_if_eq (tgt := 56) hx hb dX12_isWord_21 (by decide) (fun _ => ?_) (fun h => absurd h (by decide))
  refine lv_iload hx hb dX12_isWord_56 (lv_at hl 0 rfl) ?_
  refine lv_if_le (tgt := 78) hx hb dX12_isWord_58 (by decide) (fun _ => ?_) (fun h => absurd h (by decide))
  refine lv_iconst (v := 0) hx hb dX12_isWord_78 (by decide) ?_
  exact md_endz hx hb hr hlocks hK hT hG rfl (⟨rfl, rfl⟩) dX12_isWord_79
set_option maxRecDepth 100000 in
set_option maxHeartbeats 4000000 in
theorem c_X12_fails (l : Launch) (D : va_G) (cy : Nat → ClassId) (tx : (Nat → Nat) × (Nat → Nat)) (base Z : Nat) (K N : Nat → Nat) (M : Nat → Nat → Int32) (R : Nat → Nat → Option Nat) (J : Nat → Nat → Int64) (hZ : 104 ≤ Z) (hK69 : K 69 = 12) (hM69_14 : M 69 14 = 0) : Met l yX12_fails [Cond.code yX12_fails cX12_fails 3 (some .boolean)] (md_rm 1 0 0) (va_Pc [.ref (base + 69), .int 0, .int 0] (md_U D cy tx base Z K N M R J)) (mQi D cy tx base (fun r u => r = 0 ∧ u = (Z, K, N, (u2 M 69 14 1), R, J))) 0 0 (fun q => base ≤ q) := by
  refine Met.ofW (cc := cX12_fails) (maxL := 3) (ret := (some .boolean)) (by decide) rfl ?_
  intro p e s m args below meth c s₁ B hml hv
  have hW : ∀ w ∈ lw_tbl, goodWord w = true → w.before args s = true := fun w h g => hv.2.2.2.1.2.1 w h g _
  obtain ⟨rfl, hU⟩ := hv
  have hx := B.exec
  have hb := B.bytes
  have hr := B.returns
  have hlocks := B.notSynchronized
  have hown : s.vm.findClass RX12 = some m.cls := findClass_of_methodNamed B.named
  have hK := hU.2.2.1
  have hT := hU.2.2.2
  have hG := md_G.start hU
  have hl := lv_entry ([.ref (base + 69), .int 0, .int 0]) (n := 3) (Nat.le_of_ble_eq_true rfl)
  rw [lg_entry_eq]
  generalize (lg_sl ([.ref (base + 69), .int 0, .int 0]) ++ List.replicate (3 - (lg_sl ([.ref (base + 69), .int 0, .int 0])).length) Slot.unset).toArray = ls at hl ⊢
  have hl : lv_has ls 3 [(0, .ref (base + 69)), (1, .int 0), (2, .int 0)] := hl
  refine lv_aload_n hx hb dX12_fails_0 rfl (lv_at hl 0 rfl) ?_
  refine md_geti hx hb hW hown hK hG f_X12_124_11 (Nat.lt_of_lt_of_le (by decide) hZ) hK69 (v := 0) hM69_14 dX12_fails_1 ?_
  refine lv_if_ne (tgt := 19) hx hb dX12_fails_4 (by decide) (fun h => absurd h (by decide)) (fun _ => ?_)
  refine lv_aload_n hx hb dX12_fails_7 rfl (lv_at hl 0 rfl) ?_
  refine lv_iconst (v := 1) hx hb dX12_fails_8 (by decide) ?_
  refine lv_bipush (v := 8) hx hb dX12_fails_9 (by decide) ?_
  refine lv_iload_n hx hb dX12_fails_11 rfl (lv_at hl 2 rfl) ?_
  refine lv_imul hx hb dX12_fails_12 ?_
  refine md_top (y := 0) (by decide) ?_
  refine lv_iadd hx hb dX12_fails_13 ?_
  refine md_top (y := 1) (by decide) ?_
  refine lv_iload_n hx hb dX12_fails_14 rfl (lv_at hl 1 rfl) ?_
  refine lv_iadd hx hb dX12_fails_15 ?_
  refine md_top (y := 1) (by decide) ?_
  refine md_puti hx hb hW hown hK hG f_X12_124_11 (Nat.lt_of_lt_of_le (by decide) hZ) hK69 rfl rfl dX12_fails_16 (fun H locs hG => ?_)
  refine lv_iconst (v := 0) hx hb dX12_fails_19 (by decide) ?_
  exact md_endz hx hb hr hlocks hK hT hG rfl (⟨rfl, rfl⟩) dX12_fails_20
set_option maxRecDepth 100000 in
set_option maxHeartbeats 4000000 in
theorem c_X12_clauseHere (l : Launch) (D : va_G) (cy : Nat → ClassId) (tx : (Nat → Nat) × (Nat → Nat)) (base Z : Nat) (K N : Nat → Nat) (M : Nat → Nat → Int32) (R : Nat → Nat → Option Nat) (J : Nat → Nat → Int64) (hZ : 104 ≤ Z) (hK69 : K 69 = 12) (hM69_13 : M 69 13 = 0) (hM69_1 : M 69 1 = 0) (hM69_16 : M 69 16 = 6) (hM69_14 : M 69 14 = 0) : Met l yX12_clauseHere [Cond.code yX12_clauseHere cX12_clauseHere 4 (some .boolean)] (md_rm 3 0 0) (va_Pc [.ref (base + 69)] (md_U D cy tx base Z K N M R J)) (mQi D cy tx base (fun r u => r = 0 ∧ u = (Z, K, N, (u2 M 69 14 1), R, J))) 0 0 (fun q => base ≤ q) := by
  refine Met.ofW (cc := cX12_clauseHere) (maxL := 4) (ret := (some .boolean)) (by decide) rfl ?_
  intro p e s m args below meth c s₁ B hml hv
  have hW : ∀ w ∈ lw_tbl, goodWord w = true → w.before args s = true := fun w h g => hv.2.2.2.1.2.1 w h g _
  obtain ⟨rfl, hU⟩ := hv
  have hx := B.exec
  have hb := B.bytes
  have hr := B.returns
  have hlocks := B.notSynchronized
  have hown : s.vm.findClass RX12 = some m.cls := findClass_of_methodNamed B.named
  have hK := hU.2.2.1
  have hT := hU.2.2.2
  have hG := md_G.start hU
  have hl := lv_entry ([.ref (base + 69)]) (n := 4) (Nat.le_of_ble_eq_true rfl)
  rw [lg_entry_eq]
  generalize (lg_sl ([.ref (base + 69)]) ++ List.replicate (4 - (lg_sl ([.ref (base + 69)])).length) Slot.unset).toArray = ls at hl ⊢
  have hl : lv_has ls 4 [(0, .ref (base + 69))] := hl
  refine lv_aload_n hx hb dX12_clauseHere_0 rfl (lv_at hl 0 rfl) ?_
  refine md_goi hG (md_runV (As := []) (rest := []) hx hb hml hown hW hK hT hG (c_X12_see l D cy tx base  Z  K N M R J hZ hK69 hM69_13 hM69_1 ) s_X12_130 ⟨rfl, rfl, ⟨Nat.le_of_ble_eq_true rfl, Nat.le_of_ble_eq_true rfl⟩, ⟨Nat.le_of_ble_eq_true rfl, Nat.le_of_ble_eq_true rfl⟩⟩ (Nat.lt_of_lt_of_le (by decide) hZ) hK69 (by decide) rfl rfl hl.1 rfl (Nat.le_of_ble_eq_true rfl) dX12_clauseHere_1) (fun r u H locs hp hG => ?_)
  obtain ⟨rfl, rfl⟩ := hp
  have hG : md_G D cy base Z K N M R J s H locs := hG
  refine lv_pop hx hb dX12_clauseHere_4 rfl ?_
  refine lv_aload_n hx hb dX12_clauseHere_5 rfl (lv_at hl 0 rfl) ?_
  refine md_geti hx hb hW hown hK hG f_X12_127_11 (Nat.lt_of_lt_of_le (by decide) hZ) hK69 (v := 0) hM69_13 dX12_clauseHere_6 ?_
  refine lv_istore_n (lv' := [(1, .int 0), (0, .ref (base + 69))]) hx hb dX12_clauseHere_9 rfl hl (by decide) rfl (fun ls hl => ?_)
  refine lv_aload_n hx hb dX12_clauseHere_10 rfl (lv_at hl 1 rfl) ?_
  refine md_geti hx hb hW hown hK hG f_X12_179_11 (Nat.lt_of_lt_of_le (by decide) hZ) hK69 (v := 6) hM69_16 dX12_clauseHere_11 ?_
  refine lv_bipush (v := 6) hx hb dX12_clauseHere_14 (by decide) ?_
  refine lv_icmp_ne (tgt := 23) hx hb dX12_clauseHere_16 (by decide) (fun h => absurd h (by decide)) (fun _ => ?_)
  refine lv_iconst (v := 1) hx hb dX12_clauseHere_19 (by decide) ?_
  refine lv_goto (tgt := 24) hx hb dX12_clauseHere_20 (by decide) ?_
  refine lv_istore_n (lv' := [(2, .int 1), (1, .int 0), (0, .ref (base + 69))]) hx hb dX12_clauseHere_24 rfl hl (by decide) rfl (fun ls hl => ?_)
  refine lv_iload_n hx hb dX12_clauseHere_25 rfl (lv_at hl 0 rfl) ?_
  refine lv_if_eq (tgt := 77) hx hb dX12_clauseHere_26 (by decide) (fun h => absurd h (by decide)) (fun _ => ?_)
  refine lv_aload_n hx hb dX12_clauseHere_29 rfl (lv_at hl 2 rfl) ?_
  refine lv_ldc2 hx hb hown (hW _ w_6_235 rfl) dX12_clauseHere_30 ?_
  refine md_goi hG (md_runV (As := [.long 30792292938117747]) (rest := []) hx hb hml hown hW hK hT hG (c_X12_isWord l D cy tx base  Z  K N M R J hZ hK69 hM69_13 hM69_1 ) s_X12_138 ⟨rfl, rfl, ⟨Nat.le_of_ble_eq_true rfl, Nat.le_of_ble_eq_true rfl⟩, ⟨Nat.le_of_ble_eq_true rfl, Nat.le_of_ble_eq_true rfl⟩⟩ (Nat.lt_of_lt_of_le (by decide) hZ) hK69 (by decide) rfl rfl hl.1 rfl (Nat.le_of_ble_eq_true rfl) dX12_clauseHere_33) (fun r u H locs hp hG => ?_)
  obtain ⟨rfl, rfl⟩ := hp
  have hG : md_G D cy base Z K N M R J s H locs := hG
  refine lv_if_ne (tgt := 69) hx hb dX12_clauseHere_36 (by decide) (fun h => absurd h (by decide)) (fun _ => ?_)
  refine lv_aload_n hx hb dX12_clauseHere_39 rfl (lv_at hl 2 rfl) ?_
  refine lv_ldc2 hx hb hown (hW _ w_7_4 rfl) dX12_clauseHere_40 ?_
  refine md_goi hG (md_runV (As := [.long 482905517684]) (rest := []) hx hb hml hown hW hK hT hG (c_X12_isWord_2 l D cy tx base  Z  K N M R J hZ hK69 hM69_13 hM69_1 ) s_X12_138 ⟨rfl, rfl, ⟨Nat.le_of_ble_eq_true rfl, Nat.le_of_ble_eq_true rfl⟩, ⟨Nat.le_of_ble_eq_true rfl, Nat.le_of_ble_eq_true rfl⟩⟩ (Nat.lt_of_lt_of_le (by decide) hZ) hK69 (by decide) rfl rfl hl.1 rfl (Nat.le_of_ble_eq_true rfl) dX12_clauseHere_43) (fun r u H locs hp hG => ?_)
  obtain ⟨rfl, rfl⟩ := hp
  have hG : md_G D cy base Z K N M R J s H locs := hG
  refine lv_if_ne (tgt := 69) hx hb dX12_clauseHere_46 (by decide) (fun h => absurd h (by decide)) (fun _ => ?_)
  refine lv_aload_n hx hb dX12_clauseHere_49 rfl (lv_at hl 2 rfl) ?_
  refine lv_ldc2 hx hb hown (hW _ w_7_5 rfl) dX12_clauseHere_50 ?_
  refine md_goi hG (md_runV (As := [.long 130220881569139]) (rest := []) hx hb hml hown hW hK hT hG (c_X12_isWord_3 l D cy tx base  Z  K N M R J hZ hK69 hM69_13 hM69_1 ) s_X12_138 ⟨rfl, rfl, ⟨Nat.le_of_ble_eq_true rfl, Nat.le_of_ble_eq_true rfl⟩, ⟨Nat.le_of_ble_eq_true rfl, Nat.le_of_ble_eq_true rfl⟩⟩ (Nat.lt_of_lt_of_le (by decide) hZ) hK69 (by decide) rfl rfl hl.1 rfl (Nat.le_of_ble_eq_true rfl) dX12_clauseHere_53) (fun r u H locs hp hG => ?_)
  obtain ⟨rfl, rfl⟩ := hp
  have hG : md_G D cy base Z K N M R J s H locs := hG
  refine lv_if_ne (tgt := 69) hx hb dX12_clauseHere_56 (by decide) (fun h => absurd h (by decide)) (fun _ => ?_)
  refine lv_aload_n hx hb dX12_clauseHere_59 rfl (lv_at hl 2 rfl) ?_
  refine lv_ldc2 hx hb hown (hW _ w_7_6 rfl) dX12_clauseHere_60 ?_
  refine md_goi hG (md_runV (As := [.long 1650814580]) (rest := []) hx hb hml hown hW hK hT hG (c_X12_isWord_4 l D cy tx base  Z  K N M R J hZ hK69 hM69_13 hM69_1 ) s_X12_138 ⟨rfl, rfl, ⟨Nat.le_of_ble_eq_true rfl, Nat.le_of_ble_eq_true rfl⟩, ⟨Nat.le_of_ble_eq_true rfl, Nat.le_of_ble_eq_true rfl⟩⟩ (Nat.lt_of_lt_of_le (by decide) hZ) hK69 (by decide) rfl rfl hl.1 rfl (Nat.le_of_ble_eq_true rfl) dX12_clauseHere_63) (fun r u H locs hp hG => ?_)
  obtain ⟨rfl, rfl⟩ := hp
  have hG : md_G D cy base Z K N M R J s H locs := hG
  refine lv_if_eq (tgt := 73) hx hb dX12_clauseHere_66 (by decide) (fun _ => ?_) (fun h => absurd h (by decide))
  refine lv_iconst (v := 0) hx hb dX12_clauseHere_73 (by decide) ?_
  refine lv_goto (tgt := 112) hx hb dX12_clauseHere_74 (by decide) ?_
  refine lv_istore_n (lv' := [(3, .int 0), (2, .int 1), (1, .int 0), (0, .ref (base + 69))]) hx hb dX12_clauseHere_112 rfl hl (by decide) rfl (fun ls hl => ?_)
  refine lv_iload_n hx hb dX12_clauseHere_113 rfl (lv_at hl 0 rfl) ?_
  refine lv_if_ne (tgt := 124) hx hb dX12_clauseHere_114 (by decide) (fun h => absurd h (by decide)) (fun _ => ?_)
  refine lv_aload_n hx hb dX12_clauseHere_117 rfl (lv_at hl 3 rfl) ?_
  refine lv_iconst (v := 0) hx hb dX12_clauseHere_118 (by decide) ?_
  refine lv_iload_n hx hb dX12_clauseHere_119 rfl (lv_at hl 2 rfl) ?_
  refine md_goi hG (md_runV (As := [.int 0, .int 0]) (rest := []) hx hb hml hown hW hK hT hG (c_X12_fails l D cy tx base  Z  K N M R J hZ hK69 hM69_14 ) s_X12_148 ⟨rfl, rfl, ⟨Nat.le_of_ble_eq_true rfl, Nat.le_of_ble_eq_true rfl⟩, ⟨Nat.le_of_ble_eq_true rfl, Nat.le_of_ble_eq_true rfl⟩⟩ (Nat.lt_of_lt_of_le (by decide) hZ) hK69 (by decide) rfl rfl hl.1 rfl (Nat.le_of_ble_eq_true rfl) dX12_clauseHere_120) (fun r u H locs hp hG => ?_)
  obtain ⟨rfl, rfl⟩ := hp
  have hG : md_G D cy base Z K N (u2 M 69 14 1) R J s H locs := hG
  exact md_endz hx hb hr hlocks hK hT hG rfl (⟨rfl, rfl⟩) dX12_clauseHere_123
set_option maxRecDepth 100000 in
set_option maxHeartbeats 4000000 in
theorem c_X12_readsAll (l : Launch) (D : va_G) (cy : Nat → ClassId) (tx : (Nat → Nat) × (Nat → Nat)) (base Z : Nat) (K N : Nat → Nat) (M : Nat → Nat → Int32) (R : Nat → Nat → Option Nat) (J : Nat → Nat → Int64) (hZ : 104 ≤ Z) (hK69 : K 69 = 12) (hR69_4 : R 69 4 = some 72) (hM69_16 : M 69 16 = 6) (hK72 : K 72 = 14) (hN72 : N 72 = 7) (hM69_1 : M 69 1 = 0) : Met l yX12_readsAll [Cond.code yX12_readsAll cX12_readsAll 2 (some .boolean)] (md_rm 4 0 0) (va_Pc [.ref (base + 69)] (md_U D cy tx base Z K N M R J)) (mQi D cy tx base (fun r u => r = 0 ∧ u = (Z, K, N, (u2 (u2 (u2 (u2 (u2 (u2 (u2 M 72 6 0) 69 19 0) 69 13 0) 69 14 0) 69 17 0) 69 14 1) 69 1 0), R, J))) 0 0 (fun q => base ≤ q) := by
  refine Met.ofW (cc := cX12_readsAll) (maxL := 2) (ret := (some .boolean)) (by decide) rfl ?_
  intro p e s m args below meth c s₁ B hml hv
  have hW : ∀ w ∈ lw_tbl, goodWord w = true → w.before args s = true := fun w h g => hv.2.2.2.1.2.1 w h g _
  obtain ⟨rfl, hU⟩ := hv
  have hx := B.exec
  have hb := B.bytes
  have hr := B.returns
  have hlocks := B.notSynchronized
  have hown : s.vm.findClass RX12 = some m.cls := findClass_of_methodNamed B.named
  have hK := hU.2.2.1
  have hT := hU.2.2.2
  have hG := md_G.start hU
  have hl := lv_entry ([.ref (base + 69)]) (n := 2) (Nat.le_of_ble_eq_true rfl)
  rw [lg_entry_eq]
  generalize (lg_sl ([.ref (base + 69)]) ++ List.replicate (2 - (lg_sl ([.ref (base + 69)])).length) Slot.unset).toArray = ls at hl ⊢
  have hl : lv_has ls 2 [(0, .ref (base + 69))] := hl
  refine lv_aload_n hx hb dX12_readsAll_0 rfl (lv_at hl 0 rfl) ?_
  refine md_getr hx hb hW hown hK hG f_X12_17_11 (Nat.lt_of_lt_of_le (by decide) hZ) hK69 (b := 72) hR69_4 dX12_readsAll_1 ?_
  refine lv_aload_n hx hb dX12_readsAll_4 rfl (lv_at hl 0 rfl) ?_
  refine md_geti hx hb hW hown hK hG f_X12_179_11 (Nat.lt_of_lt_of_le (by decide) hZ) hK69 (v := 6) hM69_16 dX12_readsAll_5 ?_
  refine lv_iconst (v := 0) hx hb dX12_readsAll_8 (by decide) ?_
  refine md_iast hx hb hK hG (Nat.lt_of_lt_of_le (by decide) hZ) hK72 hN72 (md_inD (by decide)) (k := 6) (by decide) dX12_readsAll_9 (fun H locs hG => ?_)
  refine lv_aload_n hx hb dX12_readsAll_10 rfl (lv_at hl 0 rfl) ?_
  refine lv_iconst (v := 0) hx hb dX12_readsAll_11 (by decide) ?_
  refine md_puti hx hb hW hown hK hG f_X12_286_11 (Nat.lt_of_lt_of_le (by decide) hZ) hK69 rfl rfl dX12_readsAll_12 (fun H locs hG => ?_)
  refine lv_aload_n hx hb dX12_readsAll_15 rfl (lv_at hl 0 rfl) ?_
  refine lv_iconst (v := 0) hx hb dX12_readsAll_16 (by decide) ?_
  refine md_puti hx hb hW hown hK hG f_X12_127_11 (Nat.lt_of_lt_of_le (by decide) hZ) hK69 rfl rfl dX12_readsAll_17 (fun H locs hG => ?_)
  refine lv_aload_n hx hb dX12_readsAll_20 rfl (lv_at hl 0 rfl) ?_
  refine lv_iconst (v := 0) hx hb dX12_readsAll_21 (by decide) ?_
  refine md_puti hx hb hW hown hK hG f_X12_124_11 (Nat.lt_of_lt_of_le (by decide) hZ) hK69 rfl rfl dX12_readsAll_22 (fun H locs hG => ?_)
  refine lv_aload_n hx hb dX12_readsAll_25 rfl (lv_at hl 0 rfl) ?_
  refine lv_iconst (v := 0) hx hb dX12_readsAll_26 (by decide) ?_
  refine md_puti hx hb hW hown hK hG f_X12_182_11 (Nat.lt_of_lt_of_le (by decide) hZ) hK69 rfl rfl dX12_readsAll_27 (fun H locs hG => ?_)
  refine lv_aload_n hx hb dX12_readsAll_30 rfl (lv_at hl 0 rfl) ?_
  refine md_goi hG (md_runV (As := []) (rest := []) hx hb hml hown hW hK hT hG (c_X12_clauseHere l D cy tx base  Z  K N (u2 (u2 (u2 (u2 (u2 M 72 6 0) 69 19 0) 69 13 0) 69 14 0) 69 17 0) R J hZ hK69 rfl hM69_1 hM69_16 rfl ) s_X12_295 ⟨rfl, rfl, ⟨Nat.le_of_ble_eq_true rfl, Nat.le_of_ble_eq_true rfl⟩, ⟨Nat.le_of_ble_eq_true rfl, Nat.le_of_ble_eq_true rfl⟩⟩ (Nat.lt_of_lt_of_le (by decide) hZ) hK69 (by decide) rfl rfl hl.1 rfl (Nat.le_of_ble_eq_true rfl) dX12_readsAll_31) (fun r u H locs hp hG => ?_)
  obtain ⟨rfl, rfl⟩ := hp
  have hG : md_G D cy base Z K N (u2 (u2 (u2 (u2 (u2 (u2 M 72 6 0) 69 19 0) 69 13 0) 69 14 0) 69 17 0) 69 14 1) R J s H locs := hG
  refine lv_istore_n (lv' := [(1, .int 0), (0, .ref (base + 69))]) hx hb dX12_readsAll_34 rfl hl (by decide) rfl (fun ls hl => ?_)
  refine lv_iload_n hx hb dX12_readsAll_35 rfl (lv_at hl 0 rfl) ?_
  refine lv_if_eq (tgt := 66) hx hb dX12_readsAll_36 (by decide) (fun _ => ?_) (fun h => absurd h (by decide))
  refine lv_iload_n hx hb dX12_readsAll_66 rfl (lv_at hl 0 rfl) ?_
  refine lv_if_eq (tgt := 88) hx hb dX12_readsAll_67 (by decide) (fun _ => ?_) (fun h => absurd h (by decide))
  refine lv_aload_n hx hb dX12_readsAll_88 rfl (lv_at hl 1 rfl) ?_
  refine lv_iconst (v := 0) hx hb dX12_readsAll_89 (by decide) ?_
  refine md_puti hx hb hW hown hK hG f_X12_116_11 (Nat.lt_of_lt_of_le (by decide) hZ) hK69 rfl rfl dX12_readsAll_90 (fun H locs hG => ?_)
  refine lv_aload_n hx hb dX12_readsAll_93 rfl (lv_at hl 1 rfl) ?_
  refine md_geti hx hb hW hown hK hG f_X12_124_11 (Nat.lt_of_lt_of_le (by decide) hZ) hK69 (v := 1) rfl dX12_readsAll_94 ?_
  refine lv_if_ne (tgt := 104) hx hb dX12_readsAll_97 (by decide) (fun _ => ?_) (fun h => absurd h (by decide))
  refine lv_iconst (v := 0) hx hb dX12_readsAll_104 (by decide) ?_
  exact md_endz hx hb hr hlocks hK hT hG rfl (⟨rfl, rfl⟩) dX12_readsAll_105
set_option maxRecDepth 100000 in
set_option maxHeartbeats 4000000 in
theorem c_X12_council (l : Launch) (D : va_G) (cy : Nat → ClassId) (tx : (Nat → Nat) × (Nat → Nat)) (base Z : Nat) (K N : Nat → Nat) (M : Nat → Nat → Int32) (R : Nat → Nat → Option Nat) (J : Nat → Nat → Int64) (hZ : 104 ≤ Z) (hK69 : K 69 = 12) (hR69_11 : R 69 11 = some 76) (hK76 : K 76 = 14) (hN76 : N 76 = 10) (hR69_12 : R 69 12 = some 77) (hK77 : K 77 = 14) (hN77 : N 77 = 10) (hR69_4 : R 69 4 = some 72) (hK72 : K 72 = 14) (hN72 : N 72 = 7) (hM69_1 : M 69 1 = 0) : Met l yX12_council [Cond.code yX12_council cX12_council 3 (some .int)] (md_rm 5 0 0) (va_Pc [.ref (base + 69)] (md_U D cy tx base Z K N M R J)) (mQi D cy tx base (fun r u => r = (-3) ∧ u = (Z, K, N, (u2 (u2 (u2 (u2 (u2 (u2 (u2 (u2 (u2 (u2 (u2 (u2 (u2 (u2 (u2 (u2 (u2 (u2 (u2 (u2 (u2 (u2 (u2 (u2 (u2 (u2 (u2 (u2 (u2 (u2 (u2 M 69 16 6) 69 7 0) 69 8 0) 69 9 0) 76 0 1) 77 0 (-1)) 76 1 1) 77 1 (-1)) 76 2 1) 77 2 (-1)) 76 3 1) 77 3 (-1)) 76 4 1) 77 4 (-1)) 76 5 1) 77 5 (-1)) 76 6 1) 77 6 (-1)) 76 7 1) 77 7 (-1)) 76 8 1) 77 8 (-1)) 76 9 1) 77 9 (-1)) 72 6 0) 69 19 0) 69 13 0) 69 14 0) 69 17 0) 69 14 1) 69 1 0), R, J))) 0 0 (fun q => base ≤ q) := by
  refine Met.ofW (cc := cX12_council) (maxL := 3) (ret := (some .int)) (by decide) rfl ?_
  intro p e s m args below meth c s₁ B hml hv
  have hW : ∀ w ∈ lw_tbl, goodWord w = true → w.before args s = true := fun w h g => hv.2.2.2.1.2.1 w h g _
  obtain ⟨rfl, hU⟩ := hv
  have hx := B.exec
  have hb := B.bytes
  have hr := B.returns
  have hlocks := B.notSynchronized
  have hown : s.vm.findClass RX12 = some m.cls := findClass_of_methodNamed B.named
  have hK := hU.2.2.1
  have hT := hU.2.2.2
  have hG := md_G.start hU
  have hl := lv_entry ([.ref (base + 69)]) (n := 3) (Nat.le_of_ble_eq_true rfl)
  rw [lg_entry_eq]
  generalize (lg_sl ([.ref (base + 69)]) ++ List.replicate (3 - (lg_sl ([.ref (base + 69)])).length) Slot.unset).toArray = ls at hl ⊢
  have hl : lv_has ls 3 [(0, .ref (base + 69))] := hl
  refine lv_aload_n hx hb dX12_council_0 rfl (lv_at hl 0 rfl) ?_
  refine lv_bipush (v := 6) hx hb dX12_council_1 (by decide) ?_
  refine md_puti hx hb hW hown hK hG f_X12_179_11 (Nat.lt_of_lt_of_le (by decide) hZ) hK69 rfl rfl dX12_council_3 (fun H locs hG => ?_)
  refine lv_aload_n hx hb dX12_council_6 rfl (lv_at hl 0 rfl) ?_
  refine lv_iconst (v := 0) hx hb dX12_council_7 (by decide) ?_
  refine md_puti hx hb hW hown hK hG f_X12_251_11 (Nat.lt_of_lt_of_le (by decide) hZ) hK69 rfl rfl dX12_council_8 (fun H locs hG => ?_)
  refine lv_aload_n hx hb dX12_council_11 rfl (lv_at hl 0 rfl) ?_
  refine lv_iconst (v := 0) hx hb dX12_council_12 (by decide) ?_
  refine md_puti hx hb hW hown hK hG f_X12_254_11 (Nat.lt_of_lt_of_le (by decide) hZ) hK69 rfl rfl dX12_council_13 (fun H locs hG => ?_)
  refine lv_aload_n hx hb dX12_council_16 rfl (lv_at hl 0 rfl) ?_
  refine lv_iconst (v := 0) hx hb dX12_council_17 (by decide) ?_
  refine md_puti hx hb hW hown hK hG f_X12_260_11 (Nat.lt_of_lt_of_le (by decide) hZ) hK69 rfl rfl dX12_council_18 (fun H locs hG => ?_)
  refine lv_iconst (v := 0) hx hb dX12_council_21 (by decide) ?_
  refine lv_istore_n (lv' := [(1, .int 0), (0, .ref (base + 69))]) hx hb dX12_council_22 rfl hl (by decide) rfl (fun ls hl => ?_)
  refine lv_iload_n hx hb dX12_council_23 rfl (lv_at hl 0 rfl) ?_
  refine lv_bipush (v := 10) hx hb dX12_council_24 (by decide) ?_
  refine lv_icmp_ge (tgt := 49) hx hb dX12_council_26 (by decide) (fun h => absurd h (by decide)) (fun _ => ?_)
  refine lv_aload_n hx hb dX12_council_29 rfl (lv_at hl 1 rfl) ?_
  refine md_getr hx hb hW hown hK hG f_X12_29_11 (Nat.lt_of_lt_of_le (by decide) hZ) hK69 (b := 76) hR69_11 dX12_council_30 ?_
  refine lv_iload_n hx hb dX12_council_33 rfl (lv_at hl 0 rfl) ?_
  refine lv_iconst (v := 1) hx hb dX12_council_34 (by decide) ?_
  refine md_iast hx hb hK hG (Nat.lt_of_lt_of_le (by decide) hZ) hK76 hN76 (md_inD (by decide)) (k := 0) (by decide) dX12_council_35 (fun H locs hG => ?_)
  refine lv_aload_n hx hb dX12_council_36 rfl (lv_at hl 1 rfl) ?_
  refine md_getr hx hb hW hown hK hG f_X12_32_11 (Nat.lt_of_lt_of_le (by decide) hZ) hK69 (b := 77) hR69_12 dX12_council_37 ?_
  refine lv_iload_n hx hb dX12_council_40 rfl (lv_at hl 0 rfl) ?_
  refine lv_iconst (v := (-1)) hx hb dX12_council_41 (by decide) ?_
  refine md_iast hx hb hK hG (Nat.lt_of_lt_of_le (by decide) hZ) hK77 hN77 (md_inD (by decide)) (k := 0) (by decide) dX12_council_42 (fun H locs hG => ?_)
  refine lv_iinc (v := 1) (lv' := [(1, .int 1), (0, .ref (base + 69))]) hx hb dX12_council_43 hl (k := 0) rfl (by decide) (by decide) rfl (fun ls hl => ?_)
  refine lv_goto (tgt := 23) hx hb dX12_council_46 (by decide) ?_
  refine lv_iload_n hx hb dX12_council_23 rfl (lv_at hl 0 rfl) ?_
  refine lv_bipush (v := 10) hx hb dX12_council_24 (by decide) ?_
  refine lv_icmp_ge (tgt := 49) hx hb dX12_council_26 (by decide) (fun h => absurd h (by decide)) (fun _ => ?_)
  refine lv_aload_n hx hb dX12_council_29 rfl (lv_at hl 1 rfl) ?_
  refine md_getr hx hb hW hown hK hG f_X12_29_11 (Nat.lt_of_lt_of_le (by decide) hZ) hK69 (b := 76) hR69_11 dX12_council_30 ?_
  refine lv_iload_n hx hb dX12_council_33 rfl (lv_at hl 0 rfl) ?_
  refine lv_iconst (v := 1) hx hb dX12_council_34 (by decide) ?_
  refine md_iast hx hb hK hG (Nat.lt_of_lt_of_le (by decide) hZ) hK76 hN76 (md_inD (by decide)) (k := 1) (by decide) dX12_council_35 (fun H locs hG => ?_)
  refine lv_aload_n hx hb dX12_council_36 rfl (lv_at hl 1 rfl) ?_
  refine md_getr hx hb hW hown hK hG f_X12_32_11 (Nat.lt_of_lt_of_le (by decide) hZ) hK69 (b := 77) hR69_12 dX12_council_37 ?_
  refine lv_iload_n hx hb dX12_council_40 rfl (lv_at hl 0 rfl) ?_
  refine lv_iconst (v := (-1)) hx hb dX12_council_41 (by decide) ?_
  refine md_iast hx hb hK hG (Nat.lt_of_lt_of_le (by decide) hZ) hK77 hN77 (md_inD (by decide)) (k := 1) (by decide) dX12_council_42 (fun H locs hG => ?_)
  refine lv_iinc (v := 2) (lv' := [(1, .int 2), (0, .ref (base + 69))]) hx hb dX12_council_43 hl (k := 0) rfl (by decide) (by decide) rfl (fun ls hl => ?_)
  refine lv_goto (tgt := 23) hx hb dX12_council_46 (by decide) ?_
  refine lv_iload_n hx hb dX12_council_23 rfl (lv_at hl 0 rfl) ?_
  refine lv_bipush (v := 10) hx hb dX12_council_24 (by decide) ?_
  refine lv_icmp_ge (tgt := 49) hx hb dX12_council_26 (by decide) (fun h => absurd h (by decide)) (fun _ => ?_)
  refine lv_aload_n hx hb dX12_council_29 rfl (lv_at hl 1 rfl) ?_
  refine md_getr hx hb hW hown hK hG f_X12_29_11 (Nat.lt_of_lt_of_le (by decide) hZ) hK69 (b := 76) hR69_11 dX12_council_30 ?_
  refine lv_iload_n hx hb dX12_council_33 rfl (lv_at hl 0 rfl) ?_
  refine lv_iconst (v := 1) hx hb dX12_council_34 (by decide) ?_
  refine md_iast hx hb hK hG (Nat.lt_of_lt_of_le (by decide) hZ) hK76 hN76 (md_inD (by decide)) (k := 2) (by decide) dX12_council_35 (fun H locs hG => ?_)
  refine lv_aload_n hx hb dX12_council_36 rfl (lv_at hl 1 rfl) ?_
  refine md_getr hx hb hW hown hK hG f_X12_32_11 (Nat.lt_of_lt_of_le (by decide) hZ) hK69 (b := 77) hR69_12 dX12_council_37 ?_
  refine lv_iload_n hx hb dX12_council_40 rfl (lv_at hl 0 rfl) ?_
  refine lv_iconst (v := (-1)) hx hb dX12_council_41 (by decide) ?_
  refine md_iast hx hb hK hG (Nat.lt_of_lt_of_le (by decide) hZ) hK77 hN77 (md_inD (by decide)) (k := 2) (by decide) dX12_council_42 (fun H locs hG => ?_)
  refine lv_iinc (v := 3) (lv' := [(1, .int 3), (0, .ref (base + 69))]) hx hb dX12_council_43 hl (k := 0) rfl (by decide) (by decide) rfl (fun ls hl => ?_)
  refine lv_goto (tgt := 23) hx hb dX12_council_46 (by decide) ?_
  refine lv_iload_n hx hb dX12_council_23 rfl (lv_at hl 0 rfl) ?_
  refine lv_bipush (v := 10) hx hb dX12_council_24 (by decide) ?_
  refine lv_icmp_ge (tgt := 49) hx hb dX12_council_26 (by decide) (fun h => absurd h (by decide)) (fun _ => ?_)
  refine lv_aload_n hx hb dX12_council_29 rfl (lv_at hl 1 rfl) ?_
  refine md_getr hx hb hW hown hK hG f_X12_29_11 (Nat.lt_of_lt_of_le (by decide) hZ) hK69 (b := 76) hR69_11 dX12_council_30 ?_
  refine lv_iload_n hx hb dX12_council_33 rfl (lv_at hl 0 rfl) ?_
  refine lv_iconst (v := 1) hx hb dX12_council_34 (by decide) ?_
  refine md_iast hx hb hK hG (Nat.lt_of_lt_of_le (by decide) hZ) hK76 hN76 (md_inD (by decide)) (k := 3) (by decide) dX12_council_35 (fun H locs hG => ?_)
  refine lv_aload_n hx hb dX12_council_36 rfl (lv_at hl 1 rfl) ?_
  refine md_getr hx hb hW hown hK hG f_X12_32_11 (Nat.lt_of_lt_of_le (by decide) hZ) hK69 (b := 77) hR69_12 dX12_council_37 ?_
  refine lv_iload_n hx hb dX12_council_40 rfl (lv_at hl 0 rfl) ?_
  refine lv_iconst (v := (-1)) hx hb dX12_council_41 (by decide) ?_
  refine md_iast hx hb hK hG (Nat.lt_of_lt_of_le (by decide) hZ) hK77 hN77 (md_inD (by decide)) (k := 3) (by decide) dX12_council_42 (fun H locs hG => ?_)
  refine lv_iinc (v := 4) (lv' := [(1, .int 4), (0, .ref (base + 69))]) hx hb dX12_council_43 hl (k := 0) rfl (by decide) (by decide) rfl (fun ls hl => ?_)
  refine lv_goto (tgt := 23) hx hb dX12_council_46 (by decide) ?_
  refine lv_iload_n hx hb dX12_council_23 rfl (lv_at hl 0 rfl) ?_
  refine lv_bipush (v := 10) hx hb dX12_council_24 (by decide) ?_
  refine lv_icmp_ge (tgt := 49) hx hb dX12_council_26 (by decide) (fun h => absurd h (by decide)) (fun _ => ?_)
  refine lv_aload_n hx hb dX12_council_29 rfl (lv_at hl 1 rfl) ?_
  refine md_getr hx hb hW hown hK hG f_X12_29_11 (Nat.lt_of_lt_of_le (by decide) hZ) hK69 (b := 76) hR69_11 dX12_council_30 ?_
  refine lv_iload_n hx hb dX12_council_33 rfl (lv_at hl 0 rfl) ?_
  refine lv_iconst (v := 1) hx hb dX12_council_34 (by decide) ?_
  refine md_iast hx hb hK hG (Nat.lt_of_lt_of_le (by decide) hZ) hK76 hN76 (md_inD (by decide)) (k := 4) (by decide) dX12_council_35 (fun H locs hG => ?_)
  refine lv_aload_n hx hb dX12_council_36 rfl (lv_at hl 1 rfl) ?_
  refine md_getr hx hb hW hown hK hG f_X12_32_11 (Nat.lt_of_lt_of_le (by decide) hZ) hK69 (b := 77) hR69_12 dX12_council_37 ?_
  refine lv_iload_n hx hb dX12_council_40 rfl (lv_at hl 0 rfl) ?_
  refine lv_iconst (v := (-1)) hx hb dX12_council_41 (by decide) ?_
  refine md_iast hx hb hK hG (Nat.lt_of_lt_of_le (by decide) hZ) hK77 hN77 (md_inD (by decide)) (k := 4) (by decide) dX12_council_42 (fun H locs hG => ?_)
  refine lv_iinc (v := 5) (lv' := [(1, .int 5), (0, .ref (base + 69))]) hx hb dX12_council_43 hl (k := 0) rfl (by decide) (by decide) rfl (fun ls hl => ?_)
  refine lv_goto (tgt := 23) hx hb dX12_council_46 (by decide) ?_
  refine lv_iload_n hx hb dX12_council_23 rfl (lv_at hl 0 rfl) ?_
  refine lv_bipush (v := 10) hx hb dX12_council_24 (by decide) ?_
  refine lv_icmp_ge (tgt := 49) hx hb dX12_council_26 (by decide) (fun h => absurd h (by decide)) (fun _ => ?_)
  refine lv_aload_n hx hb dX12_council_29 rfl (lv_at hl 1 rfl) ?_
  refine md_getr hx hb hW hown hK hG f_X12_29_11 (Nat.lt_of_lt_of_le (by decide) hZ) hK69 (b := 76) hR69_11 dX12_council_30 ?_
  refine lv_iload_n hx hb dX12_council_33 rfl (lv_at hl 0 rfl) ?_
  refine lv_iconst (v := 1) hx hb dX12_council_34 (by decide) ?_
  refine md_iast hx hb hK hG (Nat.lt_of_lt_of_le (by decide) hZ) hK76 hN76 (md_inD (by decide)) (k := 5) (by decide) dX12_council_35 (fun H locs hG => ?_)
  refine lv_aload_n hx hb dX12_council_36 rfl (lv_at hl 1 rfl) ?_
  refine md_getr hx hb hW hown hK hG f_X12_32_11 (Nat.lt_of_lt_of_le (by decide) hZ) hK69 (b := 77) hR69_12 dX12_council_37 ?_
  refine lv_iload_n hx hb dX12_council_40 rfl (lv_at hl 0 rfl) ?_
  refine lv_iconst (v := (-1)) hx hb dX12_council_41 (by decide) ?_
  refine md_iast hx hb hK hG (Nat.lt_of_lt_of_le (by decide) hZ) hK77 hN77 (md_inD (by decide)) (k := 5) (by decide) dX12_council_42 (fun H locs hG => ?_)
  refine lv_iinc (v := 6) (lv' := [(1, .int 6), (0, .ref (base + 69))]) hx hb dX12_council_43 hl (k := 0) rfl (by decide) (by decide) rfl (fun ls hl => ?_)
  refine lv_goto (tgt := 23) hx hb dX12_council_46 (by decide) ?_
  refine lv_iload_n hx hb dX12_council_23 rfl (lv_at hl 0 rfl) ?_
  refine lv_bipush (v := 10) hx hb dX12_council_24 (by decide) ?_
  refine lv_icmp_ge (tgt := 49) hx hb dX12_council_26 (by decide) (fun h => absurd h (by decide)) (fun _ => ?_)
  refine lv_aload_n hx hb dX12_council_29 rfl (lv_at hl 1 rfl) ?_
  refine md_getr hx hb hW hown hK hG f_X12_29_11 (Nat.lt_of_lt_of_le (by decide) hZ) hK69 (b := 76) hR69_11 dX12_council_30 ?_
  refine lv_iload_n hx hb dX12_council_33 rfl (lv_at hl 0 rfl) ?_
  refine lv_iconst (v := 1) hx hb dX12_council_34 (by decide) ?_
  refine md_iast hx hb hK hG (Nat.lt_of_lt_of_le (by decide) hZ) hK76 hN76 (md_inD (by decide)) (k := 6) (by decide) dX12_council_35 (fun H locs hG => ?_)
  refine lv_aload_n hx hb dX12_council_36 rfl (lv_at hl 1 rfl) ?_
  refine md_getr hx hb hW hown hK hG f_X12_32_11 (Nat.lt_of_lt_of_le (by decide) hZ) hK69 (b := 77) hR69_12 dX12_council_37 ?_
  refine lv_iload_n hx hb dX12_council_40 rfl (lv_at hl 0 rfl) ?_
  refine lv_iconst (v := (-1)) hx hb dX12_council_41 (by decide) ?_
  refine md_iast hx hb hK hG (Nat.lt_of_lt_of_le (by decide) hZ) hK77 hN77 (md_inD (by decide)) (k := 6) (by decide) dX12_council_42 (fun H locs hG => ?_)
  refine lv_iinc (v := 7) (lv' := [(1, .int 7), (0, .ref (base + 69))]) hx hb dX12_council_43 hl (k := 0) rfl (by decide) (by decide) rfl (fun ls hl => ?_)
  refine lv_goto (tgt := 23) hx hb dX12_council_46 (by decide) ?_
  refine lv_iload_n hx hb dX12_council_23 rfl (lv_at hl 0 rfl) ?_
  refine lv_bipush (v := 10) hx hb dX12_council_24 (by decide) ?_
  refine lv_icmp_ge (tgt := 49) hx hb dX12_council_26 (by decide) (fun h => absurd h (by decide)) (fun _ => ?_)
  refine lv_aload_n hx hb dX12_council_29 rfl (lv_at hl 1 rfl) ?_
  refine md_getr hx hb hW hown hK hG f_X12_29_11 (Nat.lt_of_lt_of_le (by decide) hZ) hK69 (b := 76) hR69_11 dX12_council_30 ?_
  refine lv_iload_n hx hb dX12_council_33 rfl (lv_at hl 0 rfl) ?_
  refine lv_iconst (v := 1) hx hb dX12_council_34 (by decide) ?_
  refine md_iast hx hb hK hG (Nat.lt_of_lt_of_le (by decide) hZ) hK76 hN76 (md_inD (by decide)) (k := 7) (by decide) dX12_council_35 (fun H locs hG => ?_)
  refine lv_aload_n hx hb dX12_council_36 rfl (lv_at hl 1 rfl) ?_
  refine md_getr hx hb hW hown hK hG f_X12_32_11 (Nat.lt_of_lt_of_le (by decide) hZ) hK69 (b := 77) hR69_12 dX12_council_37 ?_
  refine lv_iload_n hx hb dX12_council_40 rfl (lv_at hl 0 rfl) ?_
  refine lv_iconst (v := (-1)) hx hb dX12_council_41 (by decide) ?_
  refine md_iast hx hb hK hG (Nat.lt_of_lt_of_le (by decide) hZ) hK77 hN77 (md_inD (by decide)) (k := 7) (by decide) dX12_council_42 (fun H locs hG => ?_)
  refine lv_iinc (v := 8) (lv' := [(1, .int 8), (0, .ref (base + 69))]) hx hb dX12_council_43 hl (k := 0) rfl (by decide) (by decide) rfl (fun ls hl => ?_)
  refine lv_goto (tgt := 23) hx hb dX12_council_46 (by decide) ?_
  refine lv_iload_n hx hb dX12_council_23 rfl (lv_at hl 0 rfl) ?_
  refine lv_bipush (v := 10) hx hb dX12_council_24 (by decide) ?_
  refine lv_icmp_ge (tgt := 49) hx hb dX12_council_26 (by decide) (fun h => absurd h (by decide)) (fun _ => ?_)
  refine lv_aload_n hx hb dX12_council_29 rfl (lv_at hl 1 rfl) ?_
  refine md_getr hx hb hW hown hK hG f_X12_29_11 (Nat.lt_of_lt_of_le (by decide) hZ) hK69 (b := 76) hR69_11 dX12_council_30 ?_
  refine lv_iload_n hx hb dX12_council_33 rfl (lv_at hl 0 rfl) ?_
  refine lv_iconst (v := 1) hx hb dX12_council_34 (by decide) ?_
  refine md_iast hx hb hK hG (Nat.lt_of_lt_of_le (by decide) hZ) hK76 hN76 (md_inD (by decide)) (k := 8) (by decide) dX12_council_35 (fun H locs hG => ?_)
  refine lv_aload_n hx hb dX12_council_36 rfl (lv_at hl 1 rfl) ?_
  refine md_getr hx hb hW hown hK hG f_X12_32_11 (Nat.lt_of_lt_of_le (by decide) hZ) hK69 (b := 77) hR69_12 dX12_council_37 ?_
  refine lv_iload_n hx hb dX12_council_40 rfl (lv_at hl 0 rfl) ?_
  refine lv_iconst (v := (-1)) hx hb dX12_council_41 (by decide) ?_
  refine md_iast hx hb hK hG (Nat.lt_of_lt_of_le (by decide) hZ) hK77 hN77 (md_inD (by decide)) (k := 8) (by decide) dX12_council_42 (fun H locs hG => ?_)
  refine lv_iinc (v := 9) (lv' := [(1, .int 9), (0, .ref (base + 69))]) hx hb dX12_council_43 hl (k := 0) rfl (by decide) (by decide) rfl (fun ls hl => ?_)
  refine lv_goto (tgt := 23) hx hb dX12_council_46 (by decide) ?_
  refine lv_iload_n hx hb dX12_council_23 rfl (lv_at hl 0 rfl) ?_
  refine lv_bipush (v := 10) hx hb dX12_council_24 (by decide) ?_
  refine lv_icmp_ge (tgt := 49) hx hb dX12_council_26 (by decide) (fun h => absurd h (by decide)) (fun _ => ?_)
  refine lv_aload_n hx hb dX12_council_29 rfl (lv_at hl 1 rfl) ?_
  refine md_getr hx hb hW hown hK hG f_X12_29_11 (Nat.lt_of_lt_of_le (by decide) hZ) hK69 (b := 76) hR69_11 dX12_council_30 ?_
  refine lv_iload_n hx hb dX12_council_33 rfl (lv_at hl 0 rfl) ?_
  refine lv_iconst (v := 1) hx hb dX12_council_34 (by decide) ?_
  refine md_iast hx hb hK hG (Nat.lt_of_lt_of_le (by decide) hZ) hK76 hN76 (md_inD (by decide)) (k := 9) (by decide) dX12_council_35 (fun H locs hG => ?_)
  refine lv_aload_n hx hb dX12_council_36 rfl (lv_at hl 1 rfl) ?_
  refine md_getr hx hb hW hown hK hG f_X12_32_11 (Nat.lt_of_lt_of_le (by decide) hZ) hK69 (b := 77) hR69_12 dX12_council_37 ?_
  refine lv_iload_n hx hb dX12_council_40 rfl (lv_at hl 0 rfl) ?_
  refine lv_iconst (v := (-1)) hx hb dX12_council_41 (by decide) ?_
  refine md_iast hx hb hK hG (Nat.lt_of_lt_of_le (by decide) hZ) hK77 hN77 (md_inD (by decide)) (k := 9) (by decide) dX12_council_42 (fun H locs hG => ?_)
  refine lv_iinc (v := 10) (lv' := [(1, .int 10), (0, .ref (base + 69))]) hx hb dX12_council_43 hl (k := 0) rfl (by decide) (by decide) rfl (fun ls hl => ?_)
  refine lv_goto (tgt := 23) hx hb dX12_council_46 (by decide) ?_
  refine lv_iload_n hx hb dX12_council_23 rfl (lv_at hl 0 rfl) ?_
  refine lv_bipush (v := 10) hx hb dX12_council_24 (by decide) ?_
  refine lv_icmp_ge (tgt := 49) hx hb dX12_council_26 (by decide) (fun _ => ?_) (fun h => absurd h (by decide))
  refine lv_aload_n hx hb dX12_council_49 rfl (lv_at hl 1 rfl) ?_
  refine md_goi hG (md_runV (As := []) (rest := []) hx hb hml hown hW hK hT hG (c_X12_readsAll l D cy tx base  Z  K N (u2 (u2 (u2 (u2 (u2 (u2 (u2 (u2 (u2 (u2 (u2 (u2 (u2 (u2 (u2 (u2 (u2 (u2 (u2 (u2 (u2 (u2 (u2 (u2 M 69 16 6) 69 7 0) 69 8 0) 69 9 0) 76 0 1) 77 0 (-1)) 76 1 1) 77 1 (-1)) 76 2 1) 77 2 (-1)) 76 3 1) 77 3 (-1)) 76 4 1) 77 4 (-1)) 76 5 1) 77 5 (-1)) 76 6 1) 77 6 (-1)) 76 7 1) 77 7 (-1)) 76 8 1) 77 8 (-1)) 76 9 1) 77 9 (-1)) R J hZ hK69 hR69_4 rfl hK72 hN72 hM69_1 ) s_X12_301 ⟨rfl, rfl, ⟨Nat.le_of_ble_eq_true rfl, Nat.le_of_ble_eq_true rfl⟩, ⟨Nat.le_of_ble_eq_true rfl, Nat.le_of_ble_eq_true rfl⟩⟩ (Nat.lt_of_lt_of_le (by decide) hZ) hK69 (by decide) rfl rfl hl.1 rfl (Nat.le_of_ble_eq_true rfl) dX12_council_50) (fun r u H locs hp hG => ?_)
  obtain ⟨rfl, rfl⟩ := hp
  have hG : md_G D cy base Z K N (u2 (u2 (u2 (u2 (u2 (u2 (u2 (u2 (u2 (u2 (u2 (u2 (u2 (u2 (u2 (u2 (u2 (u2 (u2 (u2 (u2 (u2 (u2 (u2 (u2 (u2 (u2 (u2 (u2 (u2 (u2 M 69 16 6) 69 7 0) 69 8 0) 69 9 0) 76 0 1) 77 0 (-1)) 76 1 1) 77 1 (-1)) 76 2 1) 77 2 (-1)) 76 3 1) 77 3 (-1)) 76 4 1) 77 4 (-1)) 76 5 1) 77 5 (-1)) 76 6 1) 77 6 (-1)) 76 7 1) 77 7 (-1)) 76 8 1) 77 8 (-1)) 76 9 1) 77 9 (-1)) 72 6 0) 69 19 0) 69 13 0) 69 14 0) 69 17 0) 69 14 1) 69 1 0) R J s H locs := hG
  refine lv_if_ne (tgt := 64) hx hb dX12_council_53 (by decide) (fun h => absurd h (by decide)) (fun _ => ?_)
  refine lv_bipush (v := (-2)) hx hb dX12_council_56 (by decide) ?_
  refine lv_aload_n hx hb dX12_council_58 rfl (lv_at hl 1 rfl) ?_
  refine md_geti hx hb hW hown hK hG f_X12_124_11 (Nat.lt_of_lt_of_le (by decide) hZ) hK69 (v := 1) rfl dX12_council_59 ?_
  refine lv_isub hx hb dX12_council_62 ?_
  refine md_top (y := (-3)) (by decide) ?_
  exact md_endi hx hb hr hlocks hK hT hG (⟨rfl, rfl⟩) dX12_council_63
