set_option maxRecDepth 100000 in
set_option maxHeartbeats 4000000 in
theorem c_X11_lay (l : Launch) (D : va_G) (cy : Nat → ClassId) (tx : (Nat → Nat) × (Nat → Nat)) (base Z : Nat) (K N : Nat → Nat) (M : Nat → Nat → Int32) (R : Nat → Nat → Option Nat) (J : Nat → Nat → Int64) (hZ : 104 ≤ Z) (hK0 : K 0 = 11) (hM0_1 : M 0 1 = 0) (hR0_0 : R 0 0 = some 1) (hK1 : K 1 = 13) (hN1 : N 1 = 400) (p1 : Int32) : Met l yX11_lay [Cond.code yX11_lay cX11_lay 3 none] (md_rm 1 0 0) (va_Pc [.ref (base + 0), .int p1] (md_U D cy tx base Z K N M R J)) (mQv D cy tx base (fun u => u = (Z, K, N, (u2 (u2 (u2 (u2 (u2 (u2 (u2 (u2 M 1 0 (vp_nar .byte ((p1 >>> (24 &&& 31)).toInt8.toInt32))) 0 1 1) 1 1 (vp_nar .byte ((p1 >>> (16 &&& 31)).toInt8.toInt32))) 0 1 2) 1 2 (vp_nar .byte ((p1 >>> (8 &&& 31)).toInt8.toInt32))) 0 1 3) 1 3 (vp_nar .byte ((p1 >>> (0 &&& 31)).toInt8.toInt32))) 0 1 4), R, J))) 0 0 (fun q => base ≤ q) := by
  refine Met.ofW (cc := cX11_lay) (maxL := 3) (ret := none) (by decide) rfl ?_
  intro p e s m args below meth c s₁ B hml hv
  have hW : ∀ w ∈ lw_tbl, goodWord w = true → w.before args s = true := fun w h g => hv.2.2.2.1.2.1 w h g _
  obtain ⟨rfl, hU⟩ := hv
  have hx := B.exec
  have hb := B.bytes
  have hr := B.returns
  have hlocks := B.notSynchronized
  have hown : s.vm.findClass RX11 = some m.cls := findClass_of_methodNamed B.named
  have hK := hU.2.2.1
  have hT := hU.2.2.2
  have hG := md_G.start hU
  have hl := lv_entry ([.ref (base + 0), .int p1]) (n := 3) (Nat.le_of_ble_eq_true rfl)
  rw [lg_entry_eq]
  generalize (lg_sl ([.ref (base + 0), .int p1]) ++ List.replicate (3 - (lg_sl ([.ref (base + 0), .int p1])).length) Slot.unset).toArray = ls at hl ⊢
  have hl : lv_has ls 3 [(0, .ref (base + 0)), (1, .int p1)] := hl
  refine lv_bipush (v := 24) hx hb dX11_lay_0 (by decide) ?_
  refine lv_istore_n (lv' := [(2, .int 24), (0, .ref (base + 0)), (1, .int p1)]) hx hb dX11_lay_2 rfl hl (by decide) rfl (fun ls hl => ?_)
  refine lv_iload_n hx hb dX11_lay_3 rfl (lv_at hl 0 rfl) ?_
  refine lv_if_lt (tgt := 46) hx hb dX11_lay_4 (by decide) (fun h => absurd h (by decide)) (fun _ => ?_)
  refine lv_aload_n hx hb dX11_lay_7 rfl (lv_at hl 1 rfl) ?_
  refine md_geti hx hb hW hown hK hG f_X11_94_10 (Nat.lt_of_lt_of_le (by decide) hZ) hK0 (v := 0) hM0_1 dX11_lay_8 ?_
  refine lv_sipush (v := 400) hx hb dX11_lay_11 (by decide) ?_
  refine lv_icmp_ge (tgt := 46) hx hb dX11_lay_14 (by decide) (fun h => absurd h (by decide)) (fun _ => ?_)
  refine lv_aload_n hx hb dX11_lay_17 rfl (lv_at hl 1 rfl) ?_
  refine md_getr hx hb hW hown hK hG f_X11_9_10 (Nat.lt_of_lt_of_le (by decide) hZ) hK0 (b := 1) hR0_0 dX11_lay_18 ?_
  refine lv_aload_n hx hb dX11_lay_21 rfl (lv_at hl 1 rfl) ?_
  refine md_geti hx hb hW hown hK hG f_X11_94_10 (Nat.lt_of_lt_of_le (by decide) hZ) hK0 (v := 0) hM0_1 dX11_lay_22 ?_
  refine lv_iload_n hx hb dX11_lay_25 rfl (lv_at hl 2 rfl) ?_
  refine lv_iload_n hx hb dX11_lay_26 rfl (lv_at hl 0 rfl) ?_
  refine lv_ishr hx hb dX11_lay_27 ?_
  refine lv_i2b hx hb dX11_lay_28 rfl ?_
  refine md_bast hx hb hK hG (Nat.lt_of_lt_of_le (by decide) hZ) hK1 hN1 (md_inD (by decide)) (k := 0) (by decide) dX11_lay_29 (fun H locs hG => ?_)
  refine lv_aload_n hx hb dX11_lay_30 rfl (lv_at hl 1 rfl) ?_
  refine lv_dup hx hb dX11_lay_31 rfl ?_
  refine md_geti hx hb hW hown hK hG f_X11_94_10 (Nat.lt_of_lt_of_le (by decide) hZ) hK0 (v := 0) hM0_1 dX11_lay_32 ?_
  refine lv_iconst (v := 1) hx hb dX11_lay_35 (by decide) ?_
  refine lv_iadd hx hb dX11_lay_36 ?_
  refine md_top (y := 1) (by decide) ?_
  refine md_puti hx hb hW hown hK hG f_X11_94_10 (Nat.lt_of_lt_of_le (by decide) hZ) hK0 rfl rfl dX11_lay_37 (fun H locs hG => ?_)
  refine lv_iinc (v := 16) (lv' := [(2, .int 16), (0, .ref (base + 0)), (1, .int p1)]) hx hb dX11_lay_40 hl (k := 0) rfl (by decide) (by decide) rfl (fun ls hl => ?_)
  refine lv_goto (tgt := 3) hx hb dX11_lay_43 (by decide) ?_
  refine lv_iload_n hx hb dX11_lay_3 rfl (lv_at hl 0 rfl) ?_
  refine lv_if_lt (tgt := 46) hx hb dX11_lay_4 (by decide) (fun h => absurd h (by decide)) (fun _ => ?_)
  refine lv_aload_n hx hb dX11_lay_7 rfl (lv_at hl 1 rfl) ?_
  refine md_geti hx hb hW hown hK hG f_X11_94_10 (Nat.lt_of_lt_of_le (by decide) hZ) hK0 (v := 1) rfl dX11_lay_8 ?_
  refine lv_sipush (v := 400) hx hb dX11_lay_11 (by decide) ?_
  refine lv_icmp_ge (tgt := 46) hx hb dX11_lay_14 (by decide) (fun h => absurd h (by decide)) (fun _ => ?_)
  refine lv_aload_n hx hb dX11_lay_17 rfl (lv_at hl 1 rfl) ?_
  refine md_getr hx hb hW hown hK hG f_X11_9_10 (Nat.lt_of_lt_of_le (by decide) hZ) hK0 (b := 1) hR0_0 dX11_lay_18 ?_
  refine lv_aload_n hx hb dX11_lay_21 rfl (lv_at hl 1 rfl) ?_
  refine md_geti hx hb hW hown hK hG f_X11_94_10 (Nat.lt_of_lt_of_le (by decide) hZ) hK0 (v := 1) rfl dX11_lay_22 ?_
  refine lv_iload_n hx hb dX11_lay_25 rfl (lv_at hl 2 rfl) ?_
  refine lv_iload_n hx hb dX11_lay_26 rfl (lv_at hl 0 rfl) ?_
  refine lv_ishr hx hb dX11_lay_27 ?_
  refine lv_i2b hx hb dX11_lay_28 rfl ?_
  refine md_bast hx hb hK hG (Nat.lt_of_lt_of_le (by decide) hZ) hK1 hN1 (md_inD (by decide)) (k := 1) (by decide) dX11_lay_29 (fun H locs hG => ?_)
  refine lv_aload_n hx hb dX11_lay_30 rfl (lv_at hl 1 rfl) ?_
  refine lv_dup hx hb dX11_lay_31 rfl ?_
  refine md_geti hx hb hW hown hK hG f_X11_94_10 (Nat.lt_of_lt_of_le (by decide) hZ) hK0 (v := 1) rfl dX11_lay_32 ?_
  refine lv_iconst (v := 1) hx hb dX11_lay_35 (by decide) ?_
  refine lv_iadd hx hb dX11_lay_36 ?_
  refine md_top (y := 2) (by decide) ?_
  refine md_puti hx hb hW hown hK hG f_X11_94_10 (Nat.lt_of_lt_of_le (by decide) hZ) hK0 rfl rfl dX11_lay_37 (fun H locs hG => ?_)
  refine lv_iinc (v := 8) (lv' := [(2, .int 8), (0, .ref (base + 0)), (1, .int p1)]) hx hb dX11_lay_40 hl (k := 0) rfl (by decide) (by decide) rfl (fun ls hl => ?_)
  refine lv_goto (tgt := 3) hx hb dX11_lay_43 (by decide) ?_
  refine lv_iload_n hx hb dX11_lay_3 rfl (lv_at hl 0 rfl) ?_
  refine lv_if_lt (tgt := 46) hx hb dX11_lay_4 (by decide) (fun h => absurd h (by decide)) (fun _ => ?_)
  refine lv_aload_n hx hb dX11_lay_7 rfl (lv_at hl 1 rfl) ?_
  refine md_geti hx hb hW hown hK hG f_X11_94_10 (Nat.lt_of_lt_of_le (by decide) hZ) hK0 (v := 2) rfl dX11_lay_8 ?_
  refine lv_sipush (v := 400) hx hb dX11_lay_11 (by decide) ?_
  refine lv_icmp_ge (tgt := 46) hx hb dX11_lay_14 (by decide) (fun h => absurd h (by decide)) (fun _ => ?_)
  refine lv_aload_n hx hb dX11_lay_17 rfl (lv_at hl 1 rfl) ?_
  refine md_getr hx hb hW hown hK hG f_X11_9_10 (Nat.lt_of_lt_of_le (by decide) hZ) hK0 (b := 1) hR0_0 dX11_lay_18 ?_
  refine lv_aload_n hx hb dX11_lay_21 rfl (lv_at hl 1 rfl) ?_
  refine md_geti hx hb hW hown hK hG f_X11_94_10 (Nat.lt_of_lt_of_le (by decide) hZ) hK0 (v := 2) rfl dX11_lay_22 ?_
  refine lv_iload_n hx hb dX11_lay_25 rfl (lv_at hl 2 rfl) ?_
  refine lv_iload_n hx hb dX11_lay_26 rfl (lv_at hl 0 rfl) ?_
  refine lv_ishr hx hb dX11_lay_27 ?_
  refine lv_i2b hx hb dX11_lay_28 rfl ?_
  refine md_bast hx hb hK hG (Nat.lt_of_lt_of_le (by decide) hZ) hK1 hN1 (md_inD (by decide)) (k := 2) (by decide) dX11_lay_29 (fun H locs hG => ?_)
  refine lv_aload_n hx hb dX11_lay_30 rfl (lv_at hl 1 rfl) ?_
  refine lv_dup hx hb dX11_lay_31 rfl ?_
  refine md_geti hx hb hW hown hK hG f_X11_94_10 (Nat.lt_of_lt_of_le (by decide) hZ) hK0 (v := 2) rfl dX11_lay_32 ?_
  refine lv_iconst (v := 1) hx hb dX11_lay_35 (by decide) ?_
  refine lv_iadd hx hb dX11_lay_36 ?_
  refine md_top (y := 3) (by decide) ?_
  refine md_puti hx hb hW hown hK hG f_X11_94_10 (Nat.lt_of_lt_of_le (by decide) hZ) hK0 rfl rfl dX11_lay_37 (fun H locs hG => ?_)
  refine lv_iinc (v := 0) (lv' := [(2, .int 0), (0, .ref (base + 0)), (1, .int p1)]) hx hb dX11_lay_40 hl (k := 0) rfl (by decide) (by decide) rfl (fun ls hl => ?_)
  refine lv_goto (tgt := 3) hx hb dX11_lay_43 (by decide) ?_
  refine lv_iload_n hx hb dX11_lay_3 rfl (lv_at hl 0 rfl) ?_
  refine lv_if_lt (tgt := 46) hx hb dX11_lay_4 (by decide) (fun h => absurd h (by decide)) (fun _ => ?_)
  refine lv_aload_n hx hb dX11_lay_7 rfl (lv_at hl 1 rfl) ?_
  refine md_geti hx hb hW hown hK hG f_X11_94_10 (Nat.lt_of_lt_of_le (by decide) hZ) hK0 (v := 3) rfl dX11_lay_8 ?_
  refine lv_sipush (v := 400) hx hb dX11_lay_11 (by decide) ?_
  refine lv_icmp_ge (tgt := 46) hx hb dX11_lay_14 (by decide) (fun h => absurd h (by decide)) (fun _ => ?_)
  refine lv_aload_n hx hb dX11_lay_17 rfl (lv_at hl 1 rfl) ?_
  refine md_getr hx hb hW hown hK hG f_X11_9_10 (Nat.lt_of_lt_of_le (by decide) hZ) hK0 (b := 1) hR0_0 dX11_lay_18 ?_
  refine lv_aload_n hx hb dX11_lay_21 rfl (lv_at hl 1 rfl) ?_
  refine md_geti hx hb hW hown hK hG f_X11_94_10 (Nat.lt_of_lt_of_le (by decide) hZ) hK0 (v := 3) rfl dX11_lay_22 ?_
  refine lv_iload_n hx hb dX11_lay_25 rfl (lv_at hl 2 rfl) ?_
  refine lv_iload_n hx hb dX11_lay_26 rfl (lv_at hl 0 rfl) ?_
  refine lv_ishr hx hb dX11_lay_27 ?_
  refine lv_i2b hx hb dX11_lay_28 rfl ?_
  refine md_bast hx hb hK hG (Nat.lt_of_lt_of_le (by decide) hZ) hK1 hN1 (md_inD (by decide)) (k := 3) (by decide) dX11_lay_29 (fun H locs hG => ?_)
  refine lv_aload_n hx hb dX11_lay_30 rfl (lv_at hl 1 rfl) ?_
  refine lv_dup hx hb dX11_lay_31 rfl ?_
  refine md_geti hx hb hW hown hK hG f_X11_94_10 (Nat.lt_of_lt_of_le (by decide) hZ) hK0 (v := 3) rfl dX11_lay_32 ?_
  refine lv_iconst (v := 1) hx hb dX11_lay_35 (by decide) ?_
  refine lv_iadd hx hb dX11_lay_36 ?_
  refine md_top (y := 4) (by decide) ?_
  refine md_puti hx hb hW hown hK hG f_X11_94_10 (Nat.lt_of_lt_of_le (by decide) hZ) hK0 rfl rfl dX11_lay_37 (fun H locs hG => ?_)
  refine lv_iinc (v := (-8)) (lv' := [(2, .int (-8)), (0, .ref (base + 0)), (1, .int p1)]) hx hb dX11_lay_40 hl (k := 0) rfl (by decide) (by decide) rfl (fun ls hl => ?_)
  refine lv_goto (tgt := 3) hx hb dX11_lay_43 (by decide) ?_
  refine lv_iload_n hx hb dX11_lay_3 rfl (lv_at hl 0 rfl) ?_
  refine lv_if_lt (tgt := 46) hx hb dX11_lay_4 (by decide) (fun _ => ?_) (fun h => absurd h (by decide))
  exact md_endv hx hb hr hlocks hK hT hG (rfl) dX11_lay_46
set_option maxRecDepth 100000 in
set_option maxHeartbeats 4000000 in
theorem c_X11_lay_2 (l : Launch) (D : va_G) (cy : Nat → ClassId) (tx : (Nat → Nat) × (Nat → Nat)) (base Z : Nat) (K N : Nat → Nat) (M : Nat → Nat → Int32) (R : Nat → Nat → Option Nat) (J : Nat → Nat → Int64) (hZ : 104 ≤ Z) (hK0 : K 0 = 11) (hM0_1 : M 0 1 = 4) (hR0_0 : R 0 0 = some 1) (hK1 : K 1 = 13) (hN1 : N 1 = 400) (p1 : Int32) : Met l yX11_lay [Cond.code yX11_lay cX11_lay 3 none] (md_rm 1 0 0) (va_Pc [.ref (base + 0), .int p1] (md_U D cy tx base Z K N M R J)) (mQv D cy tx base (fun u => u = (Z, K, N, (u2 (u2 (u2 (u2 (u2 (u2 (u2 (u2 M 1 4 (vp_nar .byte ((p1 >>> (24 &&& 31)).toInt8.toInt32))) 0 1 5) 1 5 (vp_nar .byte ((p1 >>> (16 &&& 31)).toInt8.toInt32))) 0 1 6) 1 6 (vp_nar .byte ((p1 >>> (8 &&& 31)).toInt8.toInt32))) 0 1 7) 1 7 (vp_nar .byte ((p1 >>> (0 &&& 31)).toInt8.toInt32))) 0 1 8), R, J))) 0 0 (fun q => base ≤ q) := by
  refine Met.ofW (cc := cX11_lay) (maxL := 3) (ret := none) (by decide) rfl ?_
  intro p e s m args below meth c s₁ B hml hv
  have hW : ∀ w ∈ lw_tbl, goodWord w = true → w.before args s = true := fun w h g => hv.2.2.2.1.2.1 w h g _
  obtain ⟨rfl, hU⟩ := hv
  have hx := B.exec
  have hb := B.bytes
  have hr := B.returns
  have hlocks := B.notSynchronized
  have hown : s.vm.findClass RX11 = some m.cls := findClass_of_methodNamed B.named
  have hK := hU.2.2.1
  have hT := hU.2.2.2
  have hG := md_G.start hU
  have hl := lv_entry ([.ref (base + 0), .int p1]) (n := 3) (Nat.le_of_ble_eq_true rfl)
  rw [lg_entry_eq]
  generalize (lg_sl ([.ref (base + 0), .int p1]) ++ List.replicate (3 - (lg_sl ([.ref (base + 0), .int p1])).length) Slot.unset).toArray = ls at hl ⊢
  have hl : lv_has ls 3 [(0, .ref (base + 0)), (1, .int p1)] := hl
  refine lv_bipush (v := 24) hx hb dX11_lay_0 (by decide) ?_
  refine lv_istore_n (lv' := [(2, .int 24), (0, .ref (base + 0)), (1, .int p1)]) hx hb dX11_lay_2 rfl hl (by decide) rfl (fun ls hl => ?_)
  refine lv_iload_n hx hb dX11_lay_3 rfl (lv_at hl 0 rfl) ?_
  refine lv_if_lt (tgt := 46) hx hb dX11_lay_4 (by decide) (fun h => absurd h (by decide)) (fun _ => ?_)
  refine lv_aload_n hx hb dX11_lay_7 rfl (lv_at hl 1 rfl) ?_
  refine md_geti hx hb hW hown hK hG f_X11_94_10 (Nat.lt_of_lt_of_le (by decide) hZ) hK0 (v := 4) hM0_1 dX11_lay_8 ?_
  refine lv_sipush (v := 400) hx hb dX11_lay_11 (by decide) ?_
  refine lv_icmp_ge (tgt := 46) hx hb dX11_lay_14 (by decide) (fun h => absurd h (by decide)) (fun _ => ?_)
  refine lv_aload_n hx hb dX11_lay_17 rfl (lv_at hl 1 rfl) ?_
  refine md_getr hx hb hW hown hK hG f_X11_9_10 (Nat.lt_of_lt_of_le (by decide) hZ) hK0 (b := 1) hR0_0 dX11_lay_18 ?_
  refine lv_aload_n hx hb dX11_lay_21 rfl (lv_at hl 1 rfl) ?_
  refine md_geti hx hb hW hown hK hG f_X11_94_10 (Nat.lt_of_lt_of_le (by decide) hZ) hK0 (v := 4) hM0_1 dX11_lay_22 ?_
  refine lv_iload_n hx hb dX11_lay_25 rfl (lv_at hl 2 rfl) ?_
  refine lv_iload_n hx hb dX11_lay_26 rfl (lv_at hl 0 rfl) ?_
  refine lv_ishr hx hb dX11_lay_27 ?_
  refine lv_i2b hx hb dX11_lay_28 rfl ?_
  refine md_bast hx hb hK hG (Nat.lt_of_lt_of_le (by decide) hZ) hK1 hN1 (md_inD (by decide)) (k := 4) (by decide) dX11_lay_29 (fun H locs hG => ?_)
  refine lv_aload_n hx hb dX11_lay_30 rfl (lv_at hl 1 rfl) ?_
  refine lv_dup hx hb dX11_lay_31 rfl ?_
  refine md_geti hx hb hW hown hK hG f_X11_94_10 (Nat.lt_of_lt_of_le (by decide) hZ) hK0 (v := 4) hM0_1 dX11_lay_32 ?_
  refine lv_iconst (v := 1) hx hb dX11_lay_35 (by decide) ?_
  refine lv_iadd hx hb dX11_lay_36 ?_
  refine md_top (y := 5) (by decide) ?_
  refine md_puti hx hb hW hown hK hG f_X11_94_10 (Nat.lt_of_lt_of_le (by decide) hZ) hK0 rfl rfl dX11_lay_37 (fun H locs hG => ?_)
  refine lv_iinc (v := 16) (lv' := [(2, .int 16), (0, .ref (base + 0)), (1, .int p1)]) hx hb dX11_lay_40 hl (k := 0) rfl (by decide) (by decide) rfl (fun ls hl => ?_)
  refine lv_goto (tgt := 3) hx hb dX11_lay_43 (by decide) ?_
  refine lv_iload_n hx hb dX11_lay_3 rfl (lv_at hl 0 rfl) ?_
  refine lv_if_lt (tgt := 46) hx hb dX11_lay_4 (by decide) (fun h => absurd h (by decide)) (fun _ => ?_)
  refine lv_aload_n hx hb dX11_lay_7 rfl (lv_at hl 1 rfl) ?_
  refine md_geti hx hb hW hown hK hG f_X11_94_10 (Nat.lt_of_lt_of_le (by decide) hZ) hK0 (v := 5) rfl dX11_lay_8 ?_
  refine lv_sipush (v := 400) hx hb dX11_lay_11 (by decide) ?_
  refine lv_icmp_ge (tgt := 46) hx hb dX11_lay_14 (by decide) (fun h => absurd h (by decide)) (fun _ => ?_)
  refine lv_aload_n hx hb dX11_lay_17 rfl (lv_at hl 1 rfl) ?_
  refine md_getr hx hb hW hown hK hG f_X11_9_10 (Nat.lt_of_lt_of_le (by decide) hZ) hK0 (b := 1) hR0_0 dX11_lay_18 ?_
  refine lv_aload_n hx hb dX11_lay_21 rfl (lv_at hl 1 rfl) ?_
  refine md_geti hx hb hW hown hK hG f_X11_94_10 (Nat.lt_of_lt_of_le (by decide) hZ) hK0 (v := 5) rfl dX11_lay_22 ?_
  refine lv_iload_n hx hb dX11_lay_25 rfl (lv_at hl 2 rfl) ?_
  refine lv_iload_n hx hb dX11_lay_26 rfl (lv_at hl 0 rfl) ?_
  refine lv_ishr hx hb dX11_lay_27 ?_
  refine lv_i2b hx hb dX11_lay_28 rfl ?_
  refine md_bast hx hb hK hG (Nat.lt_of_lt_of_le (by decide) hZ) hK1 hN1 (md_inD (by decide)) (k := 5) (by decide) dX11_lay_29 (fun H locs hG => ?_)
  refine lv_aload_n hx hb dX11_lay_30 rfl (lv_at hl 1 rfl) ?_
  refine lv_dup hx hb dX11_lay_31 rfl ?_
  refine md_geti hx hb hW hown hK hG f_X11_94_10 (Nat.lt_of_lt_of_le (by decide) hZ) hK0 (v := 5) rfl dX11_lay_32 ?_
  refine lv_iconst (v := 1) hx hb dX11_lay_35 (by decide) ?_
  refine lv_iadd hx hb dX11_lay_36 ?_
  refine md_top (y := 6) (by decide) ?_
  refine md_puti hx hb hW hown hK hG f_X11_94_10 (Nat.lt_of_lt_of_le (by decide) hZ) hK0 rfl rfl dX11_lay_37 (fun H locs hG => ?_)
  refine lv_iinc (v := 8) (lv' := [(2, .int 8), (0, .ref (base + 0)), (1, .int p1)]) hx hb dX11_lay_40 hl (k := 0) rfl (by decide) (by decide) rfl (fun ls hl => ?_)
  refine lv_goto (tgt := 3) hx hb dX11_lay_43 (by decide) ?_
  refine lv_iload_n hx hb dX11_lay_3 rfl (lv_at hl 0 rfl) ?_
  refine lv_if_lt (tgt := 46) hx hb dX11_lay_4 (by decide) (fun h => absurd h (by decide)) (fun _ => ?_)
  refine lv_aload_n hx hb dX11_lay_7 rfl (lv_at hl 1 rfl) ?_
  refine md_geti hx hb hW hown hK hG f_X11_94_10 (Nat.lt_of_lt_of_le (by decide) hZ) hK0 (v := 6) rfl dX11_lay_8 ?_
  refine lv_sipush (v := 400) hx hb dX11_lay_11 (by decide) ?_
  refine lv_icmp_ge (tgt := 46) hx hb dX11_lay_14 (by decide) (fun h => absurd h (by decide)) (fun _ => ?_)
  refine lv_aload_n hx hb dX11_lay_17 rfl (lv_at hl 1 rfl) ?_
  refine md_getr hx hb hW hown hK hG f_X11_9_10 (Nat.lt_of_lt_of_le (by decide) hZ) hK0 (b := 1) hR0_0 dX11_lay_18 ?_
  refine lv_aload_n hx hb dX11_lay_21 rfl (lv_at hl 1 rfl) ?_
  refine md_geti hx hb hW hown hK hG f_X11_94_10 (Nat.lt_of_lt_of_le (by decide) hZ) hK0 (v := 6) rfl dX11_lay_22 ?_
  refine lv_iload_n hx hb dX11_lay_25 rfl (lv_at hl 2 rfl) ?_
  refine lv_iload_n hx hb dX11_lay_26 rfl (lv_at hl 0 rfl) ?_
  refine lv_ishr hx hb dX11_lay_27 ?_
  refine lv_i2b hx hb dX11_lay_28 rfl ?_
  refine md_bast hx hb hK hG (Nat.lt_of_lt_of_le (by decide) hZ) hK1 hN1 (md_inD (by decide)) (k := 6) (by decide) dX11_lay_29 (fun H locs hG => ?_)
  refine lv_aload_n hx hb dX11_lay_30 rfl (lv_at hl 1 rfl) ?_
  refine lv_dup hx hb dX11_lay_31 rfl ?_
  refine md_geti hx hb hW hown hK hG f_X11_94_10 (Nat.lt_of_lt_of_le (by decide) hZ) hK0 (v := 6) rfl dX11_lay_32 ?_
  refine lv_iconst (v := 1) hx hb dX11_lay_35 (by decide) ?_
  refine lv_iadd hx hb dX11_lay_36 ?_
  refine md_top (y := 7) (by decide) ?_
  refine md_puti hx hb hW hown hK hG f_X11_94_10 (Nat.lt_of_lt_of_le (by decide) hZ) hK0 rfl rfl dX11_lay_37 (fun H locs hG => ?_)
  refine lv_iinc (v := 0) (lv' := [(2, .int 0), (0, .ref (base + 0)), (1, .int p1)]) hx hb dX11_lay_40 hl (k := 0) rfl (by decide) (by decide) rfl (fun ls hl => ?_)
  refine lv_goto (tgt := 3) hx hb dX11_lay_43 (by decide) ?_
  refine lv_iload_n hx hb dX11_lay_3 rfl (lv_at hl 0 rfl) ?_
  refine lv_if_lt (tgt := 46) hx hb dX11_lay_4 (by decide) (fun h => absurd h (by decide)) (fun _ => ?_)
  refine lv_aload_n hx hb dX11_lay_7 rfl (lv_at hl 1 rfl) ?_
  refine md_geti hx hb hW hown hK hG f_X11_94_10 (Nat.lt_of_lt_of_le (by decide) hZ) hK0 (v := 7) rfl dX11_lay_8 ?_
  refine lv_sipush (v := 400) hx hb dX11_lay_11 (by decide) ?_
  refine lv_icmp_ge (tgt := 46) hx hb dX11_lay_14 (by decide) (fun h => absurd h (by decide)) (fun _ => ?_)
  refine lv_aload_n hx hb dX11_lay_17 rfl (lv_at hl 1 rfl) ?_
  refine md_getr hx hb hW hown hK hG f_X11_9_10 (Nat.lt_of_lt_of_le (by decide) hZ) hK0 (b := 1) hR0_0 dX11_lay_18 ?_
  refine lv_aload_n hx hb dX11_lay_21 rfl (lv_at hl 1 rfl) ?_
  refine md_geti hx hb hW hown hK hG f_X11_94_10 (Nat.lt_of_lt_of_le (by decide) hZ) hK0 (v := 7) rfl dX11_lay_22 ?_
  refine lv_iload_n hx hb dX11_lay_25 rfl (lv_at hl 2 rfl) ?_
  refine lv_iload_n hx hb dX11_lay_26 rfl (lv_at hl 0 rfl) ?_
  refine lv_ishr hx hb dX11_lay_27 ?_
  refine lv_i2b hx hb dX11_lay_28 rfl ?_
  refine md_bast hx hb hK hG (Nat.lt_of_lt_of_le (by decide) hZ) hK1 hN1 (md_inD (by decide)) (k := 7) (by decide) dX11_lay_29 (fun H locs hG => ?_)
  refine lv_aload_n hx hb dX11_lay_30 rfl (lv_at hl 1 rfl) ?_
  refine lv_dup hx hb dX11_lay_31 rfl ?_
  refine md_geti hx hb hW hown hK hG f_X11_94_10 (Nat.lt_of_lt_of_le (by decide) hZ) hK0 (v := 7) rfl dX11_lay_32 ?_
  refine lv_iconst (v := 1) hx hb dX11_lay_35 (by decide) ?_
  refine lv_iadd hx hb dX11_lay_36 ?_
  refine md_top (y := 8) (by decide) ?_
  refine md_puti hx hb hW hown hK hG f_X11_94_10 (Nat.lt_of_lt_of_le (by decide) hZ) hK0 rfl rfl dX11_lay_37 (fun H locs hG => ?_)
  refine lv_iinc (v := (-8)) (lv' := [(2, .int (-8)), (0, .ref (base + 0)), (1, .int p1)]) hx hb dX11_lay_40 hl (k := 0) rfl (by decide) (by decide) rfl (fun ls hl => ?_)
  refine lv_goto (tgt := 3) hx hb dX11_lay_43 (by decide) ?_
  refine lv_iload_n hx hb dX11_lay_3 rfl (lv_at hl 0 rfl) ?_
  refine lv_if_lt (tgt := 46) hx hb dX11_lay_4 (by decide) (fun _ => ?_) (fun h => absurd h (by decide))
  exact md_endv hx hb hr hlocks hK hT hG (rfl) dX11_lay_46
set_option maxRecDepth 100000 in
set_option maxHeartbeats 4000000 in
theorem c_X11_lay_3 (l : Launch) (D : va_G) (cy : Nat → ClassId) (tx : (Nat → Nat) × (Nat → Nat)) (base Z : Nat) (K N : Nat → Nat) (M : Nat → Nat → Int32) (R : Nat → Nat → Option Nat) (J : Nat → Nat → Int64) (hZ : 104 ≤ Z) (hK0 : K 0 = 11) (hM0_1 : M 0 1 = 8) (hR0_0 : R 0 0 = some 1) (hK1 : K 1 = 13) (hN1 : N 1 = 400) (p1 : Int32) : Met l yX11_lay [Cond.code yX11_lay cX11_lay 3 none] (md_rm 1 0 0) (va_Pc [.ref (base + 0), .int p1] (md_U D cy tx base Z K N M R J)) (mQv D cy tx base (fun u => u = (Z, K, N, (u2 (u2 (u2 (u2 (u2 (u2 (u2 (u2 M 1 8 (vp_nar .byte ((p1 >>> (24 &&& 31)).toInt8.toInt32))) 0 1 9) 1 9 (vp_nar .byte ((p1 >>> (16 &&& 31)).toInt8.toInt32))) 0 1 10) 1 10 (vp_nar .byte ((p1 >>> (8 &&& 31)).toInt8.toInt32))) 0 1 11) 1 11 (vp_nar .byte ((p1 >>> (0 &&& 31)).toInt8.toInt32))) 0 1 12), R, J))) 0 0 (fun q => base ≤ q) := by
  refine Met.ofW (cc := cX11_lay) (maxL := 3) (ret := none) (by decide) rfl ?_
  intro p e s m args below meth c s₁ B hml hv
  have hW : ∀ w ∈ lw_tbl, goodWord w = true → w.before args s = true := fun w h g => hv.2.2.2.1.2.1 w h g _
  obtain ⟨rfl, hU⟩ := hv
  have hx := B.exec
  have hb := B.bytes
  have hr := B.returns
  have hlocks := B.notSynchronized
  have hown : s.vm.findClass RX11 = some m.cls := findClass_of_methodNamed B.named
  have hK := hU.2.2.1
  have hT := hU.2.2.2
  have hG := md_G.start hU
  have hl := lv_entry ([.ref (base + 0), .int p1]) (n := 3) (Nat.le_of_ble_eq_true rfl)
  rw [lg_entry_eq]
  generalize (lg_sl ([.ref (base + 0), .int p1]) ++ List.replicate (3 - (lg_sl ([.ref (base + 0), .int p1])).length) Slot.unset).toArray = ls at hl ⊢
  have hl : lv_has ls 3 [(0, .ref (base + 0)), (1, .int p1)] := hl
  refine lv_bipush (v := 24) hx hb dX11_lay_0 (by decide) ?_
  refine lv_istore_n (lv' := [(2, .int 24), (0, .ref (base + 0)), (1, .int p1)]) hx hb dX11_lay_2 rfl hl (by decide) rfl (fun ls hl => ?_)
  refine lv_iload_n hx hb dX11_lay_3 rfl (lv_at hl 0 rfl) ?_
  refine lv_if_lt (tgt := 46) hx hb dX11_lay_4 (by decide) (fun h => absurd h (by decide)) (fun _ => ?_)
  refine lv_aload_n hx hb dX11_lay_7 rfl (lv_at hl 1 rfl) ?_
  refine md_geti hx hb hW hown hK hG f_X11_94_10 (Nat.lt_of_lt_of_le (by decide) hZ) hK0 (v := 8) hM0_1 dX11_lay_8 ?_
  refine lv_sipush (v := 400) hx hb dX11_lay_11 (by decide) ?_
  refine lv_icmp_ge (tgt := 46) hx hb dX11_lay_14 (by decide) (fun h => absurd h (by decide)) (fun _ => ?_)
  refine lv_aload_n hx hb dX11_lay_17 rfl (lv_at hl 1 rfl) ?_
  refine md_getr hx hb hW hown hK hG f_X11_9_10 (Nat.lt_of_lt_of_le (by decide) hZ) hK0 (b := 1) hR0_0 dX11_lay_18 ?_
  refine lv_aload_n hx hb dX11_lay_21 rfl (lv_at hl 1 rfl) ?_
  refine md_geti hx hb hW hown hK hG f_X11_94_10 (Nat.lt_of_lt_of_le (by decide) hZ) hK0 (v := 8) hM0_1 dX11_lay_22 ?_
  refine lv_iload_n hx hb dX11_lay_25 rfl (lv_at hl 2 rfl) ?_
  refine lv_iload_n hx hb dX11_lay_26 rfl (lv_at hl 0 rfl) ?_
  refine lv_ishr hx hb dX11_lay_27 ?_
  refine lv_i2b hx hb dX11_lay_28 rfl ?_
  refine md_bast hx hb hK hG (Nat.lt_of_lt_of_le (by decide) hZ) hK1 hN1 (md_inD (by decide)) (k := 8) (by decide) dX11_lay_29 (fun H locs hG => ?_)
  refine lv_aload_n hx hb dX11_lay_30 rfl (lv_at hl 1 rfl) ?_
  refine lv_dup hx hb dX11_lay_31 rfl ?_
  refine md_geti hx hb hW hown hK hG f_X11_94_10 (Nat.lt_of_lt_of_le (by decide) hZ) hK0 (v := 8) hM0_1 dX11_lay_32 ?_
  refine lv_iconst (v := 1) hx hb dX11_lay_35 (by decide) ?_
  refine lv_iadd hx hb dX11_lay_36 ?_
  refine md_top (y := 9) (by decide) ?_
  refine md_puti hx hb hW hown hK hG f_X11_94_10 (Nat.lt_of_lt_of_le (by decide) hZ) hK0 rfl rfl dX11_lay_37 (fun H locs hG => ?_)
  refine lv_iinc (v := 16) (lv' := [(2, .int 16), (0, .ref (base + 0)), (1, .int p1)]) hx hb dX11_lay_40 hl (k := 0) rfl (by decide) (by decide) rfl (fun ls hl => ?_)
  refine lv_goto (tgt := 3) hx hb dX11_lay_43 (by decide) ?_
  refine lv_iload_n hx hb dX11_lay_3 rfl (lv_at hl 0 rfl) ?_
  refine lv_if_lt (tgt := 46) hx hb dX11_lay_4 (by decide) (fun h => absurd h (by decide)) (fun _ => ?_)
  refine lv_aload_n hx hb dX11_lay_7 rfl (lv_at hl 1 rfl) ?_
  refine md_geti hx hb hW hown hK hG f_X11_94_10 (Nat.lt_of_lt_of_le (by decide) hZ) hK0 (v := 9) rfl dX11_lay_8 ?_
  refine lv_sipush (v := 400) hx hb dX11_lay_11 (by decide) ?_
  refine lv_icmp_ge (tgt := 46) hx hb dX11_lay_14 (by decide) (fun h => absurd h (by decide)) (fun _ => ?_)
  refine lv_aload_n hx hb dX11_lay_17 rfl (lv_at hl 1 rfl) ?_
  refine md_getr hx hb hW hown hK hG f_X11_9_10 (Nat.lt_of_lt_of_le (by decide) hZ) hK0 (b := 1) hR0_0 dX11_lay_18 ?_
  refine lv_aload_n hx hb dX11_lay_21 rfl (lv_at hl 1 rfl) ?_
  refine md_geti hx hb hW hown hK hG f_X11_94_10 (Nat.lt_of_lt_of_le (by decide) hZ) hK0 (v := 9) rfl dX11_lay_22 ?_
  refine lv_iload_n hx hb dX11_lay_25 rfl (lv_at hl 2 rfl) ?_
  refine lv_iload_n hx hb dX11_lay_26 rfl (lv_at hl 0 rfl) ?_
  refine lv_ishr hx hb dX11_lay_27 ?_
  refine lv_i2b hx hb dX11_lay_28 rfl ?_
  refine md_bast hx hb hK hG (Nat.lt_of_lt_of_le (by decide) hZ) hK1 hN1 (md_inD (by decide)) (k := 9) (by decide) dX11_lay_29 (fun H locs hG => ?_)
  refine lv_aload_n hx hb dX11_lay_30 rfl (lv_at hl 1 rfl) ?_
  refine lv_dup hx hb dX11_lay_31 rfl ?_
  refine md_geti hx hb hW hown hK hG f_X11_94_10 (Nat.lt_of_lt_of_le (by decide) hZ) hK0 (v := 9) rfl dX11_lay_32 ?_
  refine lv_iconst (v := 1) hx hb dX11_lay_35 (by decide) ?_
  refine lv_iadd hx hb dX11_lay_36 ?_
  refine md_top (y := 10) (by decide) ?_
  refine md_puti hx hb hW hown hK hG f_X11_94_10 (Nat.lt_of_lt_of_le (by decide) hZ) hK0 rfl rfl dX11_lay_37 (fun H locs hG => ?_)
  refine lv_iinc (v := 8) (lv' := [(2, .int 8), (0, .ref (base + 0)), (1, .int p1)]) hx hb dX11_lay_40 hl (k := 0) rfl (by decide) (by decide) rfl (fun ls hl => ?_)
  refine lv_goto (tgt := 3) hx hb dX11_lay_43 (by decide) ?_
  refine lv_iload_n hx hb dX11_lay_3 rfl (lv_at hl 0 rfl) ?_
  refine lv_if_lt (tgt := 46) hx hb dX11_lay_4 (by decide) (fun h => absurd h (by decide)) (fun _ => ?_)
  refine lv_aload_n hx hb dX11_lay_7 rfl (lv_at hl 1 rfl) ?_
  refine md_geti hx hb hW hown hK hG f_X11_94_10 (Nat.lt_of_lt_of_le (by decide) hZ) hK0 (v := 10) rfl dX11_lay_8 ?_
  refine lv_sipush (v := 400) hx hb dX11_lay_11 (by decide) ?_
  refine lv_icmp_ge (tgt := 46) hx hb dX11_lay_14 (by decide) (fun h => absurd h (by decide)) (fun _ => ?_)
  refine lv_aload_n hx hb dX11_lay_17 rfl (lv_at hl 1 rfl) ?_
  refine md_getr hx hb hW hown hK hG f_X11_9_10 (Nat.lt_of_lt_of_le (by decide) hZ) hK0 (b := 1) hR0_0 dX11_lay_18 ?_
  refine lv_aload_n hx hb dX11_lay_21 rfl (lv_at hl 1 rfl) ?_
  refine md_geti hx hb hW hown hK hG f_X11_94_10 (Nat.lt_of_lt_of_le (by decide) hZ) hK0 (v := 10) rfl dX11_lay_22 ?_
  refine lv_iload_n hx hb dX11_lay_25 rfl (lv_at hl 2 rfl) ?_
  refine lv_iload_n hx hb dX11_lay_26 rfl (lv_at hl 0 rfl) ?_
  refine lv_ishr hx hb dX11_lay_27 ?_
  refine lv_i2b hx hb dX11_lay_28 rfl ?_
  refine md_bast hx hb hK hG (Nat.lt_of_lt_of_le (by decide) hZ) hK1 hN1 (md_inD (by decide)) (k := 10) (by decide) dX11_lay_29 (fun H locs hG => ?_)
  refine lv_aload_n hx hb dX11_lay_30 rfl (lv_at hl 1 rfl) ?_
  refine lv_dup hx hb dX11_lay_31 rfl ?_
  refine md_geti hx hb hW hown hK hG f_X11_94_10 (Nat.lt_of_lt_of_le (by decide) hZ) hK0 (v := 10) rfl dX11_lay_32 ?_
  refine lv_iconst (v := 1) hx hb dX11_lay_35 (by decide) ?_
  refine lv_iadd hx hb dX11_lay_36 ?_
  refine md_top (y := 11) (by decide) ?_
  refine md_puti hx hb hW hown hK hG f_X11_94_10 (Nat.lt_of_lt_of_le (by decide) hZ) hK0 rfl rfl dX11_lay_37 (fun H locs hG => ?_)
  refine lv_iinc (v := 0) (lv' := [(2, .int 0), (0, .ref (base + 0)), (1, .int p1)]) hx hb dX11_lay_40 hl (k := 0) rfl (by decide) (by decide) rfl (fun ls hl => ?_)
  refine lv_goto (tgt := 3) hx hb dX11_lay_43 (by decide) ?_
  refine lv_iload_n hx hb dX11_lay_3 rfl (lv_at hl 0 rfl) ?_
  refine lv_if_lt (tgt := 46) hx hb dX11_lay_4 (by decide) (fun h => absurd h (by decide)) (fun _ => ?_)
  refine lv_aload_n hx hb dX11_lay_7 rfl (lv_at hl 1 rfl) ?_
  refine md_geti hx hb hW hown hK hG f_X11_94_10 (Nat.lt_of_lt_of_le (by decide) hZ) hK0 (v := 11) rfl dX11_lay_8 ?_
  refine lv_sipush (v := 400) hx hb dX11_lay_11 (by decide) ?_
  refine lv_icmp_ge (tgt := 46) hx hb dX11_lay_14 (by decide) (fun h => absurd h (by decide)) (fun _ => ?_)
  refine lv_aload_n hx hb dX11_lay_17 rfl (lv_at hl 1 rfl) ?_
  refine md_getr hx hb hW hown hK hG f_X11_9_10 (Nat.lt_of_lt_of_le (by decide) hZ) hK0 (b := 1) hR0_0 dX11_lay_18 ?_
  refine lv_aload_n hx hb dX11_lay_21 rfl (lv_at hl 1 rfl) ?_
  refine md_geti hx hb hW hown hK hG f_X11_94_10 (Nat.lt_of_lt_of_le (by decide) hZ) hK0 (v := 11) rfl dX11_lay_22 ?_
  refine lv_iload_n hx hb dX11_lay_25 rfl (lv_at hl 2 rfl) ?_
  refine lv_iload_n hx hb dX11_lay_26 rfl (lv_at hl 0 rfl) ?_
  refine lv_ishr hx hb dX11_lay_27 ?_
  refine lv_i2b hx hb dX11_lay_28 rfl ?_
  refine md_bast hx hb hK hG (Nat.lt_of_lt_of_le (by decide) hZ) hK1 hN1 (md_inD (by decide)) (k := 11) (by decide) dX11_lay_29 (fun H locs hG => ?_)
  refine lv_aload_n hx hb dX11_lay_30 rfl (lv_at hl 1 rfl) ?_
  refine lv_dup hx hb dX11_lay_31 rfl ?_
  refine md_geti hx hb hW hown hK hG f_X11_94_10 (Nat.lt_of_lt_of_le (by decide) hZ) hK0 (v := 11) rfl dX11_lay_32 ?_
  refine lv_iconst (v := 1) hx hb dX11_lay_35 (by decide) ?_
  refine lv_iadd hx hb dX11_lay_36 ?_
  refine md_top (y := 12) (by decide) ?_
  refine md_puti hx hb hW hown hK hG f_X11_94_10 (Nat.lt_of_lt_of_le (by decide) hZ) hK0 rfl rfl dX11_lay_37 (fun H locs hG => ?_)
  refine lv_iinc (v := (-8)) (lv' := [(2, .int (-8)), (0, .ref (base + 0)), (1, .int p1)]) hx hb dX11_lay_40 hl (k := 0) rfl (by decide) (by decide) rfl (fun ls hl => ?_)
  refine lv_goto (tgt := 3) hx hb dX11_lay_43 (by decide) ?_
  refine lv_iload_n hx hb dX11_lay_3 rfl (lv_at hl 0 rfl) ?_
  refine lv_if_lt (tgt := 46) hx hb dX11_lay_4 (by decide) (fun _ => ?_) (fun h => absurd h (by decide))
  exact md_endv hx hb hr hlocks hK hT hG (rfl) dX11_lay_46
set_option maxRecDepth 100000 in
set_option maxHeartbeats 4000000 in
theorem c_X11_lay_4 (l : Launch) (D : va_G) (cy : Nat → ClassId) (tx : (Nat → Nat) × (Nat → Nat)) (base Z : Nat) (K N : Nat → Nat) (M : Nat → Nat → Int32) (R : Nat → Nat → Option Nat) (J : Nat → Nat → Int64) (hZ : 104 ≤ Z) (hK0 : K 0 = 11) (hM0_1 : M 0 1 = 12) (hR0_0 : R 0 0 = some 1) (hK1 : K 1 = 13) (hN1 : N 1 = 400) (p1 : Int32) : Met l yX11_lay [Cond.code yX11_lay cX11_lay 3 none] (md_rm 1 0 0) (va_Pc [.ref (base + 0), .int p1] (md_U D cy tx base Z K N M R J)) (mQv D cy tx base (fun u => u = (Z, K, N, (u2 (u2 (u2 (u2 (u2 (u2 (u2 (u2 M 1 12 (vp_nar .byte ((p1 >>> (24 &&& 31)).toInt8.toInt32))) 0 1 13) 1 13 (vp_nar .byte ((p1 >>> (16 &&& 31)).toInt8.toInt32))) 0 1 14) 1 14 (vp_nar .byte ((p1 >>> (8 &&& 31)).toInt8.toInt32))) 0 1 15) 1 15 (vp_nar .byte ((p1 >>> (0 &&& 31)).toInt8.toInt32))) 0 1 16), R, J))) 0 0 (fun q => base ≤ q) := by
  refine Met.ofW (cc := cX11_lay) (maxL := 3) (ret := none) (by decide) rfl ?_
  intro p e s m args below meth c s₁ B hml hv
  have hW : ∀ w ∈ lw_tbl, goodWord w = true → w.before args s = true := fun w h g => hv.2.2.2.1.2.1 w h g _
  obtain ⟨rfl, hU⟩ := hv
  have hx := B.exec
  have hb := B.bytes
  have hr := B.returns
  have hlocks := B.notSynchronized
  have hown : s.vm.findClass RX11 = some m.cls := findClass_of_methodNamed B.named
  have hK := hU.2.2.1
  have hT := hU.2.2.2
  have hG := md_G.start hU
  have hl := lv_entry ([.ref (base + 0), .int p1]) (n := 3) (Nat.le_of_ble_eq_true rfl)
  rw [lg_entry_eq]
  generalize (lg_sl ([.ref (base + 0), .int p1]) ++ List.replicate (3 - (lg_sl ([.ref (base + 0), .int p1])).length) Slot.unset).toArray = ls at hl ⊢
  have hl : lv_has ls 3 [(0, .ref (base + 0)), (1, .int p1)] := hl
  refine lv_bipush (v := 24) hx hb dX11_lay_0 (by decide) ?_
  refine lv_istore_n (lv' := [(2, .int 24), (0, .ref (base + 0)), (1, .int p1)]) hx hb dX11_lay_2 rfl hl (by decide) rfl (fun ls hl => ?_)
  refine lv_iload_n hx hb dX11_lay_3 rfl (lv_at hl 0 rfl) ?_
  refine lv_if_lt (tgt := 46) hx hb dX11_lay_4 (by decide) (fun h => absurd h (by decide)) (fun _ => ?_)
  refine lv_aload_n hx hb dX11_lay_7 rfl (lv_at hl 1 rfl) ?_
  refine md_geti hx hb hW hown hK hG f_X11_94_10 (Nat.lt_of_lt_of_le (by decide) hZ) hK0 (v := 12) hM0_1 dX11_lay_8 ?_
  refine lv_sipush (v := 400) hx hb dX11_lay_11 (by decide) ?_
  refine lv_icmp_ge (tgt := 46) hx hb dX11_lay_14 (by decide) (fun h => absurd h (by decide)) (fun _ => ?_)
  refine lv_aload_n hx hb dX11_lay_17 rfl (lv_at hl 1 rfl) ?_
  refine md_getr hx hb hW hown hK hG f_X11_9_10 (Nat.lt_of_lt_of_le (by decide) hZ) hK0 (b := 1) hR0_0 dX11_lay_18 ?_
  refine lv_aload_n hx hb dX11_lay_21 rfl (lv_at hl 1 rfl) ?_
  refine md_geti hx hb hW hown hK hG f_X11_94_10 (Nat.lt_of_lt_of_le (by decide) hZ) hK0 (v := 12) hM0_1 dX11_lay_22 ?_
  refine lv_iload_n hx hb dX11_lay_25 rfl (lv_at hl 2 rfl) ?_
  refine lv_iload_n hx hb dX11_lay_26 rfl (lv_at hl 0 rfl) ?_
  refine lv_ishr hx hb dX11_lay_27 ?_
  refine lv_i2b hx hb dX11_lay_28 rfl ?_
  refine md_bast hx hb hK hG (Nat.lt_of_lt_of_le (by decide) hZ) hK1 hN1 (md_inD (by decide)) (k := 12) (by decide) dX11_lay_29 (fun H locs hG => ?_)
  refine lv_aload_n hx hb dX11_lay_30 rfl (lv_at hl 1 rfl) ?_
  refine lv_dup hx hb dX11_lay_31 rfl ?_
  refine md_geti hx hb hW hown hK hG f_X11_94_10 (Nat.lt_of_lt_of_le (by decide) hZ) hK0 (v := 12) hM0_1 dX11_lay_32 ?_
  refine lv_iconst (v := 1) hx hb dX11_lay_35 (by decide) ?_
  refine lv_iadd hx hb dX11_lay_36 ?_
  refine md_top (y := 13) (by decide) ?_
  refine md_puti hx hb hW hown hK hG f_X11_94_10 (Nat.lt_of_lt_of_le (by decide) hZ) hK0 rfl rfl dX11_lay_37 (fun H locs hG => ?_)
  refine lv_iinc (v := 16) (lv' := [(2, .int 16), (0, .ref (base + 0)), (1, .int p1)]) hx hb dX11_lay_40 hl (k := 0) rfl (by decide) (by decide) rfl (fun ls hl => ?_)
  refine lv_goto (tgt := 3) hx hb dX11_lay_43 (by decide) ?_
  refine lv_iload_n hx hb dX11_lay_3 rfl (lv_at hl 0 rfl) ?_
  refine lv_if_lt (tgt := 46) hx hb dX11_lay_4 (by decide) (fun h => absurd h (by decide)) (fun _ => ?_)
  refine lv_aload_n hx hb dX11_lay_7 rfl (lv_at hl 1 rfl) ?_
  refine md_geti hx hb hW hown hK hG f_X11_94_10 (Nat.lt_of_lt_of_le (by decide) hZ) hK0 (v := 13) rfl dX11_lay_8 ?_
  refine lv_sipush (v := 400) hx hb dX11_lay_11 (by decide) ?_
  refine lv_icmp_ge (tgt := 46) hx hb dX11_lay_14 (by decide) (fun h => absurd h (by decide)) (fun _ => ?_)
  refine lv_aload_n hx hb dX11_lay_17 rfl (lv_at hl 1 rfl) ?_
  refine md_getr hx hb hW hown hK hG f_X11_9_10 (Nat.lt_of_lt_of_le (by decide) hZ) hK0 (b := 1) hR0_0 dX11_lay_18 ?_
  refine lv_aload_n hx hb dX11_lay_21 rfl (lv_at hl 1 rfl) ?_
  refine md_geti hx hb hW hown hK hG f_X11_94_10 (Nat.lt_of_lt_of_le (by decide) hZ) hK0 (v := 13) rfl dX11_lay_22 ?_
  refine lv_iload_n hx hb dX11_lay_25 rfl (lv_at hl 2 rfl) ?_
  refine lv_iload_n hx hb dX11_lay_26 rfl (lv_at hl 0 rfl) ?_
  refine lv_ishr hx hb dX11_lay_27 ?_
  refine lv_i2b hx hb dX11_lay_28 rfl ?_
  refine md_bast hx hb hK hG (Nat.lt_of_lt_of_le (by decide) hZ) hK1 hN1 (md_inD (by decide)) (k := 13) (by decide) dX11_lay_29 (fun H locs hG => ?_)
  refine lv_aload_n hx hb dX11_lay_30 rfl (lv_at hl 1 rfl) ?_
  refine lv_dup hx hb dX11_lay_31 rfl ?_
  refine md_geti hx hb hW hown hK hG f_X11_94_10 (Nat.lt_of_lt_of_le (by decide) hZ) hK0 (v := 13) rfl dX11_lay_32 ?_
  refine lv_iconst (v := 1) hx hb dX11_lay_35 (by decide) ?_
  refine lv_iadd hx hb dX11_lay_36 ?_
  refine md_top (y := 14) (by decide) ?_
  refine md_puti hx hb hW hown hK hG f_X11_94_10 (Nat.lt_of_lt_of_le (by decide) hZ) hK0 rfl rfl dX11_lay_37 (fun H locs hG => ?_)
  refine lv_iinc (v := 8) (lv' := [(2, .int 8), (0, .ref (base + 0)), (1, .int p1)]) hx hb dX11_lay_40 hl (k := 0) rfl (by decide) (by decide) rfl (fun ls hl => ?_)
  refine lv_goto (tgt := 3) hx hb dX11_lay_43 (by decide) ?_
  refine lv_iload_n hx hb dX11_lay_3 rfl (lv_at hl 0 rfl) ?_
  refine lv_if_lt (tgt := 46) hx hb dX11_lay_4 (by decide) (fun h => absurd h (by decide)) (fun _ => ?_)
  refine lv_aload_n hx hb dX11_lay_7 rfl (lv_at hl 1 rfl) ?_
  refine md_geti hx hb hW hown hK hG f_X11_94_10 (Nat.lt_of_lt_of_le (by decide) hZ) hK0 (v := 14) rfl dX11_lay_8 ?_
  refine lv_sipush (v := 400) hx hb dX11_lay_11 (by decide) ?_
  refine lv_icmp_ge (tgt := 46) hx hb dX11_lay_14 (by decide) (fun h => absurd h (by decide)) (fun _ => ?_)
  refine lv_aload_n hx hb dX11_lay_17 rfl (lv_at hl 1 rfl) ?_
  refine md_getr hx hb hW hown hK hG f_X11_9_10 (Nat.lt_of_lt_of_le (by decide) hZ) hK0 (b := 1) hR0_0 dX11_lay_18 ?_
  refine lv_aload_n hx hb dX11_lay_21 rfl (lv_at hl 1 rfl) ?_
  refine md_geti hx hb hW hown hK hG f_X11_94_10 (Nat.lt_of_lt_of_le (by decide) hZ) hK0 (v := 14) rfl dX11_lay_22 ?_
  refine lv_iload_n hx hb dX11_lay_25 rfl (lv_at hl 2 rfl) ?_
  refine lv_iload_n hx hb dX11_lay_26 rfl (lv_at hl 0 rfl) ?_
  refine lv_ishr hx hb dX11_lay_27 ?_
  refine lv_i2b hx hb dX11_lay_28 rfl ?_
  refine md_bast hx hb hK hG (Nat.lt_of_lt_of_le (by decide) hZ) hK1 hN1 (md_inD (by decide)) (k := 14) (by decide) dX11_lay_29 (fun H locs hG => ?_)
  refine lv_aload_n hx hb dX11_lay_30 rfl (lv_at hl 1 rfl) ?_
  refine lv_dup hx hb dX11_lay_31 rfl ?_
  refine md_geti hx hb hW hown hK hG f_X11_94_10 (Nat.lt_of_lt_of_le (by decide) hZ) hK0 (v := 14) rfl dX11_lay_32 ?_
  refine lv_iconst (v := 1) hx hb dX11_lay_35 (by decide) ?_
  refine lv_iadd hx hb dX11_lay_36 ?_
  refine md_top (y := 15) (by decide) ?_
  refine md_puti hx hb hW hown hK hG f_X11_94_10 (Nat.lt_of_lt_of_le (by decide) hZ) hK0 rfl rfl dX11_lay_37 (fun H locs hG => ?_)
  refine lv_iinc (v := 0) (lv' := [(2, .int 0), (0, .ref (base + 0)), (1, .int p1)]) hx hb dX11_lay_40 hl (k := 0) rfl (by decide) (by decide) rfl (fun ls hl => ?_)
  refine lv_goto (tgt := 3) hx hb dX11_lay_43 (by decide) ?_
  refine lv_iload_n hx hb dX11_lay_3 rfl (lv_at hl 0 rfl) ?_
  refine lv_if_lt (tgt := 46) hx hb dX11_lay_4 (by decide) (fun h => absurd h (by decide)) (fun _ => ?_)
  refine lv_aload_n hx hb dX11_lay_7 rfl (lv_at hl 1 rfl) ?_
  refine md_geti hx hb hW hown hK hG f_X11_94_10 (Nat.lt_of_lt_of_le (by decide) hZ) hK0 (v := 15) rfl dX11_lay_8 ?_
  refine lv_sipush (v := 400) hx hb dX11_lay_11 (by decide) ?_
  refine lv_icmp_ge (tgt := 46) hx hb dX11_lay_14 (by decide) (fun h => absurd h (by decide)) (fun _ => ?_)
  refine lv_aload_n hx hb dX11_lay_17 rfl (lv_at hl 1 rfl) ?_
  refine md_getr hx hb hW hown hK hG f_X11_9_10 (Nat.lt_of_lt_of_le (by decide) hZ) hK0 (b := 1) hR0_0 dX11_lay_18 ?_
  refine lv_aload_n hx hb dX11_lay_21 rfl (lv_at hl 1 rfl) ?_
  refine md_geti hx hb hW hown hK hG f_X11_94_10 (Nat.lt_of_lt_of_le (by decide) hZ) hK0 (v := 15) rfl dX11_lay_22 ?_
  refine lv_iload_n hx hb dX11_lay_25 rfl (lv_at hl 2 rfl) ?_
  refine lv_iload_n hx hb dX11_lay_26 rfl (lv_at hl 0 rfl) ?_
  refine lv_ishr hx hb dX11_lay_27 ?_
  refine lv_i2b hx hb dX11_lay_28 rfl ?_
  refine md_bast hx hb hK hG (Nat.lt_of_lt_of_le (by decide) hZ) hK1 hN1 (md_inD (by decide)) (k := 15) (by decide) dX11_lay_29 (fun H locs hG => ?_)
  refine lv_aload_n hx hb dX11_lay_30 rfl (lv_at hl 1 rfl) ?_
  refine lv_dup hx hb dX11_lay_31 rfl ?_
  refine md_geti hx hb hW hown hK hG f_X11_94_10 (Nat.lt_of_lt_of_le (by decide) hZ) hK0 (v := 15) rfl dX11_lay_32 ?_
  refine lv_iconst (v := 1) hx hb dX11_lay_35 (by decide) ?_
  refine lv_iadd hx hb dX11_lay_36 ?_
  refine md_top (y := 16) (by decide) ?_
  refine md_puti hx hb hW hown hK hG f_X11_94_10 (Nat.lt_of_lt_of_le (by decide) hZ) hK0 rfl rfl dX11_lay_37 (fun H locs hG => ?_)
  refine lv_iinc (v := (-8)) (lv' := [(2, .int (-8)), (0, .ref (base + 0)), (1, .int p1)]) hx hb dX11_lay_40 hl (k := 0) rfl (by decide) (by decide) rfl (fun ls hl => ?_)
  refine lv_goto (tgt := 3) hx hb dX11_lay_43 (by decide) ?_
  refine lv_iload_n hx hb dX11_lay_3 rfl (lv_at hl 0 rfl) ?_
  refine lv_if_lt (tgt := 46) hx hb dX11_lay_4 (by decide) (fun _ => ?_) (fun h => absurd h (by decide))
  exact md_endv hx hb hr hlocks hK hT hG (rfl) dX11_lay_46
set_option maxRecDepth 100000 in
set_option maxHeartbeats 4000000 in
theorem c_X11_lay_5 (l : Launch) (D : va_G) (cy : Nat → ClassId) (tx : (Nat → Nat) × (Nat → Nat)) (base Z : Nat) (K N : Nat → Nat) (M : Nat → Nat → Int32) (R : Nat → Nat → Option Nat) (J : Nat → Nat → Int64) (hZ : 104 ≤ Z) (hK0 : K 0 = 11) (hM0_1 : M 0 1 = 16) (hR0_0 : R 0 0 = some 1) (hK1 : K 1 = 13) (hN1 : N 1 = 400) (p1 : Int32) : Met l yX11_lay [Cond.code yX11_lay cX11_lay 3 none] (md_rm 1 0 0) (va_Pc [.ref (base + 0), .int p1] (md_U D cy tx base Z K N M R J)) (mQv D cy tx base (fun u => u = (Z, K, N, (u2 (u2 (u2 (u2 (u2 (u2 (u2 (u2 M 1 16 (vp_nar .byte ((p1 >>> (24 &&& 31)).toInt8.toInt32))) 0 1 17) 1 17 (vp_nar .byte ((p1 >>> (16 &&& 31)).toInt8.toInt32))) 0 1 18) 1 18 (vp_nar .byte ((p1 >>> (8 &&& 31)).toInt8.toInt32))) 0 1 19) 1 19 (vp_nar .byte ((p1 >>> (0 &&& 31)).toInt8.toInt32))) 0 1 20), R, J))) 0 0 (fun q => base ≤ q) := by
  refine Met.ofW (cc := cX11_lay) (maxL := 3) (ret := none) (by decide) rfl ?_
  intro p e s m args below meth c s₁ B hml hv
  have hW : ∀ w ∈ lw_tbl, goodWord w = true → w.before args s = true := fun w h g => hv.2.2.2.1.2.1 w h g _
  obtain ⟨rfl, hU⟩ := hv
  have hx := B.exec
  have hb := B.bytes
  have hr := B.returns
  have hlocks := B.notSynchronized
  have hown : s.vm.findClass RX11 = some m.cls := findClass_of_methodNamed B.named
  have hK := hU.2.2.1
  have hT := hU.2.2.2
  have hG := md_G.start hU
  have hl := lv_entry ([.ref (base + 0), .int p1]) (n := 3) (Nat.le_of_ble_eq_true rfl)
  rw [lg_entry_eq]
  generalize (lg_sl ([.ref (base + 0), .int p1]) ++ List.replicate (3 - (lg_sl ([.ref (base + 0), .int p1])).length) Slot.unset).toArray = ls at hl ⊢
  have hl : lv_has ls 3 [(0, .ref (base + 0)), (1, .int p1)] := hl
  refine lv_bipush (v := 24) hx hb dX11_lay_0 (by decide) ?_
  refine lv_istore_n (lv' := [(2, .int 24), (0, .ref (base + 0)), (1, .int p1)]) hx hb dX11_lay_2 rfl hl (by decide) rfl (fun ls hl => ?_)
  refine lv_iload_n hx hb dX11_lay_3 rfl (lv_at hl 0 rfl) ?_
  refine lv_if_lt (tgt := 46) hx hb dX11_lay_4 (by decide) (fun h => absurd h (by decide)) (fun _ => ?_)
  refine lv_aload_n hx hb dX11_lay_7 rfl (lv_at hl 1 rfl) ?_
  refine md_geti hx hb hW hown hK hG f_X11_94_10 (Nat.lt_of_lt_of_le (by decide) hZ) hK0 (v := 16) hM0_1 dX11_lay_8 ?_
  refine lv_sipush (v := 400) hx hb dX11_lay_11 (by decide) ?_
  refine lv_icmp_ge (tgt := 46) hx hb dX11_lay_14 (by decide) (fun h => absurd h (by decide)) (fun _ => ?_)
  refine lv_aload_n hx hb dX11_lay_17 rfl (lv_at hl 1 rfl) ?_
  refine md_getr hx hb hW hown hK hG f_X11_9_10 (Nat.lt_of_lt_of_le (by decide) hZ) hK0 (b := 1) hR0_0 dX11_lay_18 ?_
  refine lv_aload_n hx hb dX11_lay_21 rfl (lv_at hl 1 rfl) ?_
  refine md_geti hx hb hW hown hK hG f_X11_94_10 (Nat.lt_of_lt_of_le (by decide) hZ) hK0 (v := 16) hM0_1 dX11_lay_22 ?_
  refine lv_iload_n hx hb dX11_lay_25 rfl (lv_at hl 2 rfl) ?_
  refine lv_iload_n hx hb dX11_lay_26 rfl (lv_at hl 0 rfl) ?_
  refine lv_ishr hx hb dX11_lay_27 ?_
  refine lv_i2b hx hb dX11_lay_28 rfl ?_
  refine md_bast hx hb hK hG (Nat.lt_of_lt_of_le (by decide) hZ) hK1 hN1 (md_inD (by decide)) (k := 16) (by decide) dX11_lay_29 (fun H locs hG => ?_)
  refine lv_aload_n hx hb dX11_lay_30 rfl (lv_at hl 1 rfl) ?_
  refine lv_dup hx hb dX11_lay_31 rfl ?_
  refine md_geti hx hb hW hown hK hG f_X11_94_10 (Nat.lt_of_lt_of_le (by decide) hZ) hK0 (v := 16) hM0_1 dX11_lay_32 ?_
  refine lv_iconst (v := 1) hx hb dX11_lay_35 (by decide) ?_
  refine lv_iadd hx hb dX11_lay_36 ?_
  refine md_top (y := 17) (by decide) ?_
  refine md_puti hx hb hW hown hK hG f_X11_94_10 (Nat.lt_of_lt_of_le (by decide) hZ) hK0 rfl rfl dX11_lay_37 (fun H locs hG => ?_)
  refine lv_iinc (v := 16) (lv' := [(2, .int 16), (0, .ref (base + 0)), (1, .int p1)]) hx hb dX11_lay_40 hl (k := 0) rfl (by decide) (by decide) rfl (fun ls hl => ?_)
  refine lv_goto (tgt := 3) hx hb dX11_lay_43 (by decide) ?_
  refine lv_iload_n hx hb dX11_lay_3 rfl (lv_at hl 0 rfl) ?_
  refine lv_if_lt (tgt := 46) hx hb dX11_lay_4 (by decide) (fun h => absurd h (by decide)) (fun _ => ?_)
  refine lv_aload_n hx hb dX11_lay_7 rfl (lv_at hl 1 rfl) ?_
  refine md_geti hx hb hW hown hK hG f_X11_94_10 (Nat.lt_of_lt_of_le (by decide) hZ) hK0 (v := 17) rfl dX11_lay_8 ?_
  refine lv_sipush (v := 400) hx hb dX11_lay_11 (by decide) ?_
  refine lv_icmp_ge (tgt := 46) hx hb dX11_lay_14 (by decide) (fun h => absurd h (by decide)) (fun _ => ?_)
  refine lv_aload_n hx hb dX11_lay_17 rfl (lv_at hl 1 rfl) ?_
  refine md_getr hx hb hW hown hK hG f_X11_9_10 (Nat.lt_of_lt_of_le (by decide) hZ) hK0 (b := 1) hR0_0 dX11_lay_18 ?_
  refine lv_aload_n hx hb dX11_lay_21 rfl (lv_at hl 1 rfl) ?_
  refine md_geti hx hb hW hown hK hG f_X11_94_10 (Nat.lt_of_lt_of_le (by decide) hZ) hK0 (v := 17) rfl dX11_lay_22 ?_
  refine lv_iload_n hx hb dX11_lay_25 rfl (lv_at hl 2 rfl) ?_
  refine lv_iload_n hx hb dX11_lay_26 rfl (lv_at hl 0 rfl) ?_
  refine lv_ishr hx hb dX11_lay_27 ?_
  refine lv_i2b hx hb dX11_lay_28 rfl ?_
  refine md_bast hx hb hK hG (Nat.lt_of_lt_of_le (by decide) hZ) hK1 hN1 (md_inD (by decide)) (k := 17) (by decide) dX11_lay_29 (fun H locs hG => ?_)
  refine lv_aload_n hx hb dX11_lay_30 rfl (lv_at hl 1 rfl) ?_
  refine lv_dup hx hb dX11_lay_31 rfl ?_
  refine md_geti hx hb hW hown hK hG f_X11_94_10 (Nat.lt_of_lt_of_le (by decide) hZ) hK0 (v := 17) rfl dX11_lay_32 ?_
  refine lv_iconst (v := 1) hx hb dX11_lay_35 (by decide) ?_
  refine lv_iadd hx hb dX11_lay_36 ?_
  refine md_top (y := 18) (by decide) ?_
  refine md_puti hx hb hW hown hK hG f_X11_94_10 (Nat.lt_of_lt_of_le (by decide) hZ) hK0 rfl rfl dX11_lay_37 (fun H locs hG => ?_)
  refine lv_iinc (v := 8) (lv' := [(2, .int 8), (0, .ref (base + 0)), (1, .int p1)]) hx hb dX11_lay_40 hl (k := 0) rfl (by decide) (by decide) rfl (fun ls hl => ?_)
  refine lv_goto (tgt := 3) hx hb dX11_lay_43 (by decide) ?_
  refine lv_iload_n hx hb dX11_lay_3 rfl (lv_at hl 0 rfl) ?_
  refine lv_if_lt (tgt := 46) hx hb dX11_lay_4 (by decide) (fun h => absurd h (by decide)) (fun _ => ?_)
  refine lv_aload_n hx hb dX11_lay_7 rfl (lv_at hl 1 rfl) ?_
  refine md_geti hx hb hW hown hK hG f_X11_94_10 (Nat.lt_of_lt_of_le (by decide) hZ) hK0 (v := 18) rfl dX11_lay_8 ?_
  refine lv_sipush (v := 400) hx hb dX11_lay_11 (by decide) ?_
  refine lv_icmp_ge (tgt := 46) hx hb dX11_lay_14 (by decide) (fun h => absurd h (by decide)) (fun _ => ?_)
  refine lv_aload_n hx hb dX11_lay_17 rfl (lv_at hl 1 rfl) ?_
  refine md_getr hx hb hW hown hK hG f_X11_9_10 (Nat.lt_of_lt_of_le (by decide) hZ) hK0 (b := 1) hR0_0 dX11_lay_18 ?_
  refine lv_aload_n hx hb dX11_lay_21 rfl (lv_at hl 1 rfl) ?_
  refine md_geti hx hb hW hown hK hG f_X11_94_10 (Nat.lt_of_lt_of_le (by decide) hZ) hK0 (v := 18) rfl dX11_lay_22 ?_
  refine lv_iload_n hx hb dX11_lay_25 rfl (lv_at hl 2 rfl) ?_
  refine lv_iload_n hx hb dX11_lay_26 rfl (lv_at hl 0 rfl) ?_
  refine lv_ishr hx hb dX11_lay_27 ?_
  refine lv_i2b hx hb dX11_lay_28 rfl ?_
  refine md_bast hx hb hK hG (Nat.lt_of_lt_of_le (by decide) hZ) hK1 hN1 (md_inD (by decide)) (k := 18) (by decide) dX11_lay_29 (fun H locs hG => ?_)
  refine lv_aload_n hx hb dX11_lay_30 rfl (lv_at hl 1 rfl) ?_
  refine lv_dup hx hb dX11_lay_31 rfl ?_
  refine md_geti hx hb hW hown hK hG f_X11_94_10 (Nat.lt_of_lt_of_le (by decide) hZ) hK0 (v := 18) rfl dX11_lay_32 ?_
  refine lv_iconst (v := 1) hx hb dX11_lay_35 (by decide) ?_
  refine lv_iadd hx hb dX11_lay_36 ?_
  refine md_top (y := 19) (by decide) ?_
  refine md_puti hx hb hW hown hK hG f_X11_94_10 (Nat.lt_of_lt_of_le (by decide) hZ) hK0 rfl rfl dX11_lay_37 (fun H locs hG => ?_)
  refine lv_iinc (v := 0) (lv' := [(2, .int 0), (0, .ref (base + 0)), (1, .int p1)]) hx hb dX11_lay_40 hl (k := 0) rfl (by decide) (by decide) rfl (fun ls hl => ?_)
  refine lv_goto (tgt := 3) hx hb dX11_lay_43 (by decide) ?_
  refine lv_iload_n hx hb dX11_lay_3 rfl (lv_at hl 0 rfl) ?_
  refine lv_if_lt (tgt := 46) hx hb dX11_lay_4 (by decide) (fun h => absurd h (by decide)) (fun _ => ?_)
  refine lv_aload_n hx hb dX11_lay_7 rfl (lv_at hl 1 rfl) ?_
  refine md_geti hx hb hW hown hK hG f_X11_94_10 (Nat.lt_of_lt_of_le (by decide) hZ) hK0 (v := 19) rfl dX11_lay_8 ?_
  refine lv_sipush (v := 400) hx hb dX11_lay_11 (by decide) ?_
  refine lv_icmp_ge (tgt := 46) hx hb dX11_lay_14 (by decide) (fun h => absurd h (by decide)) (fun _ => ?_)
  refine lv_aload_n hx hb dX11_lay_17 rfl (lv_at hl 1 rfl) ?_
  refine md_getr hx hb hW hown hK hG f_X11_9_10 (Nat.lt_of_lt_of_le (by decide) hZ) hK0 (b := 1) hR0_0 dX11_lay_18 ?_
  refine lv_aload_n hx hb dX11_lay_21 rfl (lv_at hl 1 rfl) ?_
  refine md_geti hx hb hW hown hK hG f_X11_94_10 (Nat.lt_of_lt_of_le (by decide) hZ) hK0 (v := 19) rfl dX11_lay_22 ?_
  refine lv_iload_n hx hb dX11_lay_25 rfl (lv_at hl 2 rfl) ?_
  refine lv_iload_n hx hb dX11_lay_26 rfl (lv_at hl 0 rfl) ?_
  refine lv_ishr hx hb dX11_lay_27 ?_
  refine lv_i2b hx hb dX11_lay_28 rfl ?_
  refine md_bast hx hb hK hG (Nat.lt_of_lt_of_le (by decide) hZ) hK1 hN1 (md_inD (by decide)) (k := 19) (by decide) dX11_lay_29 (fun H locs hG => ?_)
  refine lv_aload_n hx hb dX11_lay_30 rfl (lv_at hl 1 rfl) ?_
  refine lv_dup hx hb dX11_lay_31 rfl ?_
  refine md_geti hx hb hW hown hK hG f_X11_94_10 (Nat.lt_of_lt_of_le (by decide) hZ) hK0 (v := 19) rfl dX11_lay_32 ?_
  refine lv_iconst (v := 1) hx hb dX11_lay_35 (by decide) ?_
  refine lv_iadd hx hb dX11_lay_36 ?_
  refine md_top (y := 20) (by decide) ?_
  refine md_puti hx hb hW hown hK hG f_X11_94_10 (Nat.lt_of_lt_of_le (by decide) hZ) hK0 rfl rfl dX11_lay_37 (fun H locs hG => ?_)
  refine lv_iinc (v := (-8)) (lv' := [(2, .int (-8)), (0, .ref (base + 0)), (1, .int p1)]) hx hb dX11_lay_40 hl (k := 0) rfl (by decide) (by decide) rfl (fun ls hl => ?_)
  refine lv_goto (tgt := 3) hx hb dX11_lay_43 (by decide) ?_
  refine lv_iload_n hx hb dX11_lay_3 rfl (lv_at hl 0 rfl) ?_
  refine lv_if_lt (tgt := 46) hx hb dX11_lay_4 (by decide) (fun _ => ?_) (fun h => absurd h (by decide))
  exact md_endv hx hb hr hlocks hK hT hG (rfl) dX11_lay_46
set_option maxRecDepth 100000 in
set_option maxHeartbeats 4000000 in
theorem c_X11_feed (l : Launch) (D : va_G) (cy : Nat → ClassId) (tx : (Nat → Nat) × (Nat → Nat)) (base Z : Nat) (K N : Nat → Nat) (M : Nat → Nat → Int32) (R : Nat → Nat → Option Nat) (J : Nat → Nat → Int64) (hZ : 104 ≤ Z) (hK0 : K 0 = 11) (hM0_1 : M 0 1 = 0) (hR0_0 : R 0 0 = some 1) (hK1 : K 1 = 13) (hN1 : N 1 = 400) (p1 : Int32) (p2 : Int32) (p3 : Int32) (p4 : Int32) (p5 : Int32) : Met l yX11_feed [Cond.code yX11_feed cX11_feed 6 (some .int)] (md_rm 2 0 0) (va_Pc [.ref (base + 0), .int p1, .int p2, .int p3, .int p4, .int p5] (md_U D cy tx base Z K N M R J)) (mQi D cy tx base (fun r u => r = 20 ∧ u = (Z, K, N, (u2 (u2 (u2 (u2 (u2 (u2 (u2 (u2 (u2 (u2 (u2 (u2 (u2 (u2 (u2 (u2 (u2 (u2 (u2 (u2 (u2 (u2 (u2 (u2 (u2 (u2 (u2 (u2 (u2 (u2 (u2 (u2 (u2 (u2 (u2 (u2 (u2 (u2 (u2 (u2 M 1 0 (vp_nar .byte ((p1 >>> (24 &&& 31)).toInt8.toInt32))) 0 1 1) 1 1 (vp_nar .byte ((p1 >>> (16 &&& 31)).toInt8.toInt32))) 0 1 2) 1 2 (vp_nar .byte ((p1 >>> (8 &&& 31)).toInt8.toInt32))) 0 1 3) 1 3 (vp_nar .byte ((p1 >>> (0 &&& 31)).toInt8.toInt32))) 0 1 4) 1 4 (vp_nar .byte ((p2 >>> (24 &&& 31)).toInt8.toInt32))) 0 1 5) 1 5 (vp_nar .byte ((p2 >>> (16 &&& 31)).toInt8.toInt32))) 0 1 6) 1 6 (vp_nar .byte ((p2 >>> (8 &&& 31)).toInt8.toInt32))) 0 1 7) 1 7 (vp_nar .byte ((p2 >>> (0 &&& 31)).toInt8.toInt32))) 0 1 8) 1 8 (vp_nar .byte ((p3 >>> (24 &&& 31)).toInt8.toInt32))) 0 1 9) 1 9 (vp_nar .byte ((p3 >>> (16 &&& 31)).toInt8.toInt32))) 0 1 10) 1 10 (vp_nar .byte ((p3 >>> (8 &&& 31)).toInt8.toInt32))) 0 1 11) 1 11 (vp_nar .byte ((p3 >>> (0 &&& 31)).toInt8.toInt32))) 0 1 12) 1 12 (vp_nar .byte ((p4 >>> (24 &&& 31)).toInt8.toInt32))) 0 1 13) 1 13 (vp_nar .byte ((p4 >>> (16 &&& 31)).toInt8.toInt32))) 0 1 14) 1 14 (vp_nar .byte ((p4 >>> (8 &&& 31)).toInt8.toInt32))) 0 1 15) 1 15 (vp_nar .byte ((p4 >>> (0 &&& 31)).toInt8.toInt32))) 0 1 16) 1 16 (vp_nar .byte ((p5 >>> (24 &&& 31)).toInt8.toInt32))) 0 1 17) 1 17 (vp_nar .byte ((p5 >>> (16 &&& 31)).toInt8.toInt32))) 0 1 18) 1 18 (vp_nar .byte ((p5 >>> (8 &&& 31)).toInt8.toInt32))) 0 1 19) 1 19 (vp_nar .byte ((p5 >>> (0 &&& 31)).toInt8.toInt32))) 0 1 20), R, J))) 0 0 (fun q => base ≤ q) := by
  refine Met.ofW (cc := cX11_feed) (maxL := 6) (ret := (some .int)) (by decide) rfl ?_
  intro p e s m args below meth c s₁ B hml hv
  have hW : ∀ w ∈ lw_tbl, goodWord w = true → w.before args s = true := fun w h g => hv.2.2.2.1.2.1 w h g _
  obtain ⟨rfl, hU⟩ := hv
  have hx := B.exec
  have hb := B.bytes
  have hr := B.returns
  have hlocks := B.notSynchronized
  have hown : s.vm.findClass RX11 = some m.cls := findClass_of_methodNamed B.named
  have hK := hU.2.2.1
  have hT := hU.2.2.2
  have hG := md_G.start hU
  have hl := lv_entry ([.ref (base + 0), .int p1, .int p2, .int p3, .int p4, .int p5]) (n := 6) (Nat.le_of_ble_eq_true rfl)
  rw [lg_entry_eq]
  generalize (lg_sl ([.ref (base + 0), .int p1, .int p2, .int p3, .int p4, .int p5]) ++ List.replicate (6 - (lg_sl ([.ref (base + 0), .int p1, .int p2, .int p3, .int p4, .int p5])).length) Slot.unset).toArray = ls at hl ⊢
  have hl : lv_has ls 6 [(0, .ref (base + 0)), (1, .int p1), (2, .int p2), (3, .int p3), (4, .int p4), (5, .int p5)] := hl
  refine lv_aload_n hx hb dX11_feed_0 rfl (lv_at hl 0 rfl) ?_
  refine md_geti hx hb hW hown hK hG f_X11_94_10 (Nat.lt_of_lt_of_le (by decide) hZ) hK0 (v := 0) hM0_1 dX11_feed_1 ?_
  refine lv_bipush (v := 20) hx hb dX11_feed_4 (by decide) ?_
  refine lv_iadd hx hb dX11_feed_6 ?_
  refine md_top (y := 20) (by decide) ?_
  refine lv_sipush (v := 400) hx hb dX11_feed_7 (by decide) ?_
  refine lv_icmp_le (tgt := 15) hx hb dX11_feed_10 (by decide) (fun _ => ?_) (fun h => absurd h (by decide))
  refine lv_aload_n hx hb dX11_feed_15 rfl (lv_at hl 0 rfl) ?_
  refine lv_iload_n hx hb dX11_feed_16 rfl (lv_at hl 1 rfl) ?_
  refine md_gov hG (md_runV (As := [.int p1]) (rest := []) hx hb hml hown hW hK hT hG (c_X11_lay l D cy tx base  Z  K N M R J hZ hK0 hM0_1 hR0_0 hK1 hN1 p1) s_X11_98 ⟨rfl, rfl, ⟨Nat.le_of_ble_eq_true rfl, Nat.le_of_ble_eq_true rfl⟩, ⟨Nat.le_of_ble_eq_true rfl, Nat.le_of_ble_eq_true rfl⟩⟩ (Nat.lt_of_lt_of_le (by decide) hZ) hK0 (by decide) rfl rfl hl.1 rfl (Nat.le_of_ble_eq_true rfl) dX11_feed_17) (fun u H locs hp hG => ?_)
  subst hp
  have hG : md_G D cy base Z K N (u2 (u2 (u2 (u2 (u2 (u2 (u2 (u2 M 1 0 (vp_nar .byte ((p1 >>> (24 &&& 31)).toInt8.toInt32))) 0 1 1) 1 1 (vp_nar .byte ((p1 >>> (16 &&& 31)).toInt8.toInt32))) 0 1 2) 1 2 (vp_nar .byte ((p1 >>> (8 &&& 31)).toInt8.toInt32))) 0 1 3) 1 3 (vp_nar .byte ((p1 >>> (0 &&& 31)).toInt8.toInt32))) 0 1 4) R J s H locs := hG
  refine lv_aload_n hx hb dX11_feed_20 rfl (lv_at hl 0 rfl) ?_
  refine lv_iload_n hx hb dX11_feed_21 rfl (lv_at hl 2 rfl) ?_
  refine md_gov hG (md_runV (As := [.int p2]) (rest := []) hx hb hml hown hW hK hT hG (c_X11_lay_2 l D cy tx base  Z  K N (u2 (u2 (u2 (u2 (u2 (u2 (u2 (u2 M 1 0 (vp_nar .byte ((p1 >>> (24 &&& 31)).toInt8.toInt32))) 0 1 1) 1 1 (vp_nar .byte ((p1 >>> (16 &&& 31)).toInt8.toInt32))) 0 1 2) 1 2 (vp_nar .byte ((p1 >>> (8 &&& 31)).toInt8.toInt32))) 0 1 3) 1 3 (vp_nar .byte ((p1 >>> (0 &&& 31)).toInt8.toInt32))) 0 1 4) R J hZ hK0 rfl hR0_0 hK1 hN1 p2) s_X11_98 ⟨rfl, rfl, ⟨Nat.le_of_ble_eq_true rfl, Nat.le_of_ble_eq_true rfl⟩, ⟨Nat.le_of_ble_eq_true rfl, Nat.le_of_ble_eq_true rfl⟩⟩ (Nat.lt_of_lt_of_le (by decide) hZ) hK0 (by decide) rfl rfl hl.1 rfl (Nat.le_of_ble_eq_true rfl) dX11_feed_22) (fun u H locs hp hG => ?_)
  subst hp
  have hG : md_G D cy base Z K N (u2 (u2 (u2 (u2 (u2 (u2 (u2 (u2 (u2 (u2 (u2 (u2 (u2 (u2 (u2 (u2 M 1 0 (vp_nar .byte ((p1 >>> (24 &&& 31)).toInt8.toInt32))) 0 1 1) 1 1 (vp_nar .byte ((p1 >>> (16 &&& 31)).toInt8.toInt32))) 0 1 2) 1 2 (vp_nar .byte ((p1 >>> (8 &&& 31)).toInt8.toInt32))) 0 1 3) 1 3 (vp_nar .byte ((p1 >>> (0 &&& 31)).toInt8.toInt32))) 0 1 4) 1 4 (vp_nar .byte ((p2 >>> (24 &&& 31)).toInt8.toInt32))) 0 1 5) 1 5 (vp_nar .byte ((p2 >>> (16 &&& 31)).toInt8.toInt32))) 0 1 6) 1 6 (vp_nar .byte ((p2 >>> (8 &&& 31)).toInt8.toInt32))) 0 1 7) 1 7 (vp_nar .byte ((p2 >>> (0 &&& 31)).toInt8.toInt32))) 0 1 8) R J s H locs := hG
  refine lv_aload_n hx hb dX11_feed_25 rfl (lv_at hl 0 rfl) ?_
  refine lv_iload_n hx hb dX11_feed_26 rfl (lv_at hl 3 rfl) ?_
  refine md_gov hG (md_runV (As := [.int p3]) (rest := []) hx hb hml hown hW hK hT hG (c_X11_lay_3 l D cy tx base  Z  K N (u2 (u2 (u2 (u2 (u2 (u2 (u2 (u2 (u2 (u2 (u2 (u2 (u2 (u2 (u2 (u2 M 1 0 (vp_nar .byte ((p1 >>> (24 &&& 31)).toInt8.toInt32))) 0 1 1) 1 1 (vp_nar .byte ((p1 >>> (16 &&& 31)).toInt8.toInt32))) 0 1 2) 1 2 (vp_nar .byte ((p1 >>> (8 &&& 31)).toInt8.toInt32))) 0 1 3) 1 3 (vp_nar .byte ((p1 >>> (0 &&& 31)).toInt8.toInt32))) 0 1 4) 1 4 (vp_nar .byte ((p2 >>> (24 &&& 31)).toInt8.toInt32))) 0 1 5) 1 5 (vp_nar .byte ((p2 >>> (16 &&& 31)).toInt8.toInt32))) 0 1 6) 1 6 (vp_nar .byte ((p2 >>> (8 &&& 31)).toInt8.toInt32))) 0 1 7) 1 7 (vp_nar .byte ((p2 >>> (0 &&& 31)).toInt8.toInt32))) 0 1 8) R J hZ hK0 rfl hR0_0 hK1 hN1 p3) s_X11_98 ⟨rfl, rfl, ⟨Nat.le_of_ble_eq_true rfl, Nat.le_of_ble_eq_true rfl⟩, ⟨Nat.le_of_ble_eq_true rfl, Nat.le_of_ble_eq_true rfl⟩⟩ (Nat.lt_of_lt_of_le (by decide) hZ) hK0 (by decide) rfl rfl hl.1 rfl (Nat.le_of_ble_eq_true rfl) dX11_feed_27) (fun u H locs hp hG => ?_)
  subst hp
  have hG : md_G D cy base Z K N (u2 (u2 (u2 (u2 (u2 (u2 (u2 (u2 (u2 (u2 (u2 (u2 (u2 (u2 (u2 (u2 (u2 (u2 (u2 (u2 (u2 (u2 (u2 (u2 M 1 0 (vp_nar .byte ((p1 >>> (24 &&& 31)).toInt8.toInt32))) 0 1 1) 1 1 (vp_nar .byte ((p1 >>> (16 &&& 31)).toInt8.toInt32))) 0 1 2) 1 2 (vp_nar .byte ((p1 >>> (8 &&& 31)).toInt8.toInt32))) 0 1 3) 1 3 (vp_nar .byte ((p1 >>> (0 &&& 31)).toInt8.toInt32))) 0 1 4) 1 4 (vp_nar .byte ((p2 >>> (24 &&& 31)).toInt8.toInt32))) 0 1 5) 1 5 (vp_nar .byte ((p2 >>> (16 &&& 31)).toInt8.toInt32))) 0 1 6) 1 6 (vp_nar .byte ((p2 >>> (8 &&& 31)).toInt8.toInt32))) 0 1 7) 1 7 (vp_nar .byte ((p2 >>> (0 &&& 31)).toInt8.toInt32))) 0 1 8) 1 8 (vp_nar .byte ((p3 >>> (24 &&& 31)).toInt8.toInt32))) 0 1 9) 1 9 (vp_nar .byte ((p3 >>> (16 &&& 31)).toInt8.toInt32))) 0 1 10) 1 10 (vp_nar .byte ((p3 >>> (8 &&& 31)).toInt8.toInt32))) 0 1 11) 1 11 (vp_nar .byte ((p3 >>> (0 &&& 31)).toInt8.toInt32))) 0 1 12) R J s H locs := hG
  refine lv_aload_n hx hb dX11_feed_30 rfl (lv_at hl 0 rfl) ?_
  refine lv_iload hx hb dX11_feed_31 (lv_at hl 4 rfl) ?_
  refine md_gov hG (md_runV (As := [.int p4]) (rest := []) hx hb hml hown hW hK hT hG (c_X11_lay_4 l D cy tx base  Z  K N (u2 (u2 (u2 (u2 (u2 (u2 (u2 (u2 (u2 (u2 (u2 (u2 (u2 (u2 (u2 (u2 (u2 (u2 (u2 (u2 (u2 (u2 (u2 (u2 M 1 0 (vp_nar .byte ((p1 >>> (24 &&& 31)).toInt8.toInt32))) 0 1 1) 1 1 (vp_nar .byte ((p1 >>> (16 &&& 31)).toInt8.toInt32))) 0 1 2) 1 2 (vp_nar .byte ((p1 >>> (8 &&& 31)).toInt8.toInt32))) 0 1 3) 1 3 (vp_nar .byte ((p1 >>> (0 &&& 31)).toInt8.toInt32))) 0 1 4) 1 4 (vp_nar .byte ((p2 >>> (24 &&& 31)).toInt8.toInt32))) 0 1 5) 1 5 (vp_nar .byte ((p2 >>> (16 &&& 31)).toInt8.toInt32))) 0 1 6) 1 6 (vp_nar .byte ((p2 >>> (8 &&& 31)).toInt8.toInt32))) 0 1 7) 1 7 (vp_nar .byte ((p2 >>> (0 &&& 31)).toInt8.toInt32))) 0 1 8) 1 8 (vp_nar .byte ((p3 >>> (24 &&& 31)).toInt8.toInt32))) 0 1 9) 1 9 (vp_nar .byte ((p3 >>> (16 &&& 31)).toInt8.toInt32))) 0 1 10) 1 10 (vp_nar .byte ((p3 >>> (8 &&& 31)).toInt8.toInt32))) 0 1 11) 1 11 (vp_nar .byte ((p3 >>> (0 &&& 31)).toInt8.toInt32))) 0 1 12) R J hZ hK0 rfl hR0_0 hK1 hN1 p4) s_X11_98 ⟨rfl, rfl, ⟨Nat.le_of_ble_eq_true rfl, Nat.le_of_ble_eq_true rfl⟩, ⟨Nat.le_of_ble_eq_true rfl, Nat.le_of_ble_eq_true rfl⟩⟩ (Nat.lt_of_lt_of_le (by decide) hZ) hK0 (by decide) rfl rfl hl.1 rfl (Nat.le_of_ble_eq_true rfl) dX11_feed_33) (fun u H locs hp hG => ?_)
  subst hp
  have hG : md_G D cy base Z K N (u2 (u2 (u2 (u2 (u2 (u2 (u2 (u2 (u2 (u2 (u2 (u2 (u2 (u2 (u2 (u2 (u2 (u2 (u2 (u2 (u2 (u2 (u2 (u2 (u2 (u2 (u2 (u2 (u2 (u2 (u2 (u2 M 1 0 (vp_nar .byte ((p1 >>> (24 &&& 31)).toInt8.toInt32))) 0 1 1) 1 1 (vp_nar .byte ((p1 >>> (16 &&& 31)).toInt8.toInt32))) 0 1 2) 1 2 (vp_nar .byte ((p1 >>> (8 &&& 31)).toInt8.toInt32))) 0 1 3) 1 3 (vp_nar .byte ((p1 >>> (0 &&& 31)).toInt8.toInt32))) 0 1 4) 1 4 (vp_nar .byte ((p2 >>> (24 &&& 31)).toInt8.toInt32))) 0 1 5) 1 5 (vp_nar .byte ((p2 >>> (16 &&& 31)).toInt8.toInt32))) 0 1 6) 1 6 (vp_nar .byte ((p2 >>> (8 &&& 31)).toInt8.toInt32))) 0 1 7) 1 7 (vp_nar .byte ((p2 >>> (0 &&& 31)).toInt8.toInt32))) 0 1 8) 1 8 (vp_nar .byte ((p3 >>> (24 &&& 31)).toInt8.toInt32))) 0 1 9) 1 9 (vp_nar .byte ((p3 >>> (16 &&& 31)).toInt8.toInt32))) 0 1 10) 1 10 (vp_nar .byte ((p3 >>> (8 &&& 31)).toInt8.toInt32))) 0 1 11) 1 11 (vp_nar .byte ((p3 >>> (0 &&& 31)).toInt8.toInt32))) 0 1 12) 1 12 (vp_nar .byte ((p4 >>> (24 &&& 31)).toInt8.toInt32))) 0 1 13) 1 13 (vp_nar .byte ((p4 >>> (16 &&& 31)).toInt8.toInt32))) 0 1 14) 1 14 (vp_nar .byte ((p4 >>> (8 &&& 31)).toInt8.toInt32))) 0 1 15) 1 15 (vp_nar .byte ((p4 >>> (0 &&& 31)).toInt8.toInt32))) 0 1 16) R J s H locs := hG
  refine lv_aload_n hx hb dX11_feed_36 rfl (lv_at hl 0 rfl) ?_
  refine lv_iload hx hb dX11_feed_37 (lv_at hl 5 rfl) ?_
  refine md_gov hG (md_runV (As := [.int p5]) (rest := []) hx hb hml hown hW hK hT hG (c_X11_lay_5 l D cy tx base  Z  K N (u2 (u2 (u2 (u2 (u2 (u2 (u2 (u2 (u2 (u2 (u2 (u2 (u2 (u2 (u2 (u2 (u2 (u2 (u2 (u2 (u2 (u2 (u2 (u2 (u2 (u2 (u2 (u2 (u2 (u2 (u2 (u2 M 1 0 (vp_nar .byte ((p1 >>> (24 &&& 31)).toInt8.toInt32))) 0 1 1) 1 1 (vp_nar .byte ((p1 >>> (16 &&& 31)).toInt8.toInt32))) 0 1 2) 1 2 (vp_nar .byte ((p1 >>> (8 &&& 31)).toInt8.toInt32))) 0 1 3) 1 3 (vp_nar .byte ((p1 >>> (0 &&& 31)).toInt8.toInt32))) 0 1 4) 1 4 (vp_nar .byte ((p2 >>> (24 &&& 31)).toInt8.toInt32))) 0 1 5) 1 5 (vp_nar .byte ((p2 >>> (16 &&& 31)).toInt8.toInt32))) 0 1 6) 1 6 (vp_nar .byte ((p2 >>> (8 &&& 31)).toInt8.toInt32))) 0 1 7) 1 7 (vp_nar .byte ((p2 >>> (0 &&& 31)).toInt8.toInt32))) 0 1 8) 1 8 (vp_nar .byte ((p3 >>> (24 &&& 31)).toInt8.toInt32))) 0 1 9) 1 9 (vp_nar .byte ((p3 >>> (16 &&& 31)).toInt8.toInt32))) 0 1 10) 1 10 (vp_nar .byte ((p3 >>> (8 &&& 31)).toInt8.toInt32))) 0 1 11) 1 11 (vp_nar .byte ((p3 >>> (0 &&& 31)).toInt8.toInt32))) 0 1 12) 1 12 (vp_nar .byte ((p4 >>> (24 &&& 31)).toInt8.toInt32))) 0 1 13) 1 13 (vp_nar .byte ((p4 >>> (16 &&& 31)).toInt8.toInt32))) 0 1 14) 1 14 (vp_nar .byte ((p4 >>> (8 &&& 31)).toInt8.toInt32))) 0 1 15) 1 15 (vp_nar .byte ((p4 >>> (0 &&& 31)).toInt8.toInt32))) 0 1 16) R J hZ hK0 rfl hR0_0 hK1 hN1 p5) s_X11_98 ⟨rfl, rfl, ⟨Nat.le_of_ble_eq_true rfl, Nat.le_of_ble_eq_true rfl⟩, ⟨Nat.le_of_ble_eq_true rfl, Nat.le_of_ble_eq_true rfl⟩⟩ (Nat.lt_of_lt_of_le (by decide) hZ) hK0 (by decide) rfl rfl hl.1 rfl (Nat.le_of_ble_eq_true rfl) dX11_feed_39) (fun u H locs hp hG => ?_)
  subst hp
  have hG : md_G D cy base Z K N (u2 (u2 (u2 (u2 (u2 (u2 (u2 (u2 (u2 (u2 (u2 (u2 (u2 (u2 (u2 (u2 (u2 (u2 (u2 (u2 (u2 (u2 (u2 (u2 (u2 (u2 (u2 (u2 (u2 (u2 (u2 (u2 (u2 (u2 (u2 (u2 (u2 (u2 (u2 (u2 M 1 0 (vp_nar .byte ((p1 >>> (24 &&& 31)).toInt8.toInt32))) 0 1 1) 1 1 (vp_nar .byte ((p1 >>> (16 &&& 31)).toInt8.toInt32))) 0 1 2) 1 2 (vp_nar .byte ((p1 >>> (8 &&& 31)).toInt8.toInt32))) 0 1 3) 1 3 (vp_nar .byte ((p1 >>> (0 &&& 31)).toInt8.toInt32))) 0 1 4) 1 4 (vp_nar .byte ((p2 >>> (24 &&& 31)).toInt8.toInt32))) 0 1 5) 1 5 (vp_nar .byte ((p2 >>> (16 &&& 31)).toInt8.toInt32))) 0 1 6) 1 6 (vp_nar .byte ((p2 >>> (8 &&& 31)).toInt8.toInt32))) 0 1 7) 1 7 (vp_nar .byte ((p2 >>> (0 &&& 31)).toInt8.toInt32))) 0 1 8) 1 8 (vp_nar .byte ((p3 >>> (24 &&& 31)).toInt8.toInt32))) 0 1 9) 1 9 (vp_nar .byte ((p3 >>> (16 &&& 31)).toInt8.toInt32))) 0 1 10) 1 10 (vp_nar .byte ((p3 >>> (8 &&& 31)).toInt8.toInt32))) 0 1 11) 1 11 (vp_nar .byte ((p3 >>> (0 &&& 31)).toInt8.toInt32))) 0 1 12) 1 12 (vp_nar .byte ((p4 >>> (24 &&& 31)).toInt8.toInt32))) 0 1 13) 1 13 (vp_nar .byte ((p4 >>> (16 &&& 31)).toInt8.toInt32))) 0 1 14) 1 14 (vp_nar .byte ((p4 >>> (8 &&& 31)).toInt8.toInt32))) 0 1 15) 1 15 (vp_nar .byte ((p4 >>> (0 &&& 31)).toInt8.toInt32))) 0 1 16) 1 16 (vp_nar .byte ((p5 >>> (24 &&& 31)).toInt8.toInt32))) 0 1 17) 1 17 (vp_nar .byte ((p5 >>> (16 &&& 31)).toInt8.toInt32))) 0 1 18) 1 18 (vp_nar .byte ((p5 >>> (8 &&& 31)).toInt8.toInt32))) 0 1 19) 1 19 (vp_nar .byte ((p5 >>> (0 &&& 31)).toInt8.toInt32))) 0 1 20) R J s H locs := hG
  refine lv_aload_n hx hb dX11_feed_42 rfl (lv_at hl 0 rfl) ?_
  refine md_geti hx hb hW hown hK hG f_X11_94_10 (Nat.lt_of_lt_of_le (by decide) hZ) hK0 (v := 20) rfl dX11_feed_43 ?_
  exact md_endi hx hb hr hlocks hK hT hG (⟨rfl, rfl⟩) dX11_feed_46
set_option maxRecDepth 100000 in
set_option maxHeartbeats 4000000 in
theorem c_X11_end (l : Launch) (D : va_G) (cy : Nat → ClassId) (tx : (Nat → Nat) × (Nat → Nat)) (base Z : Nat) (K N : Nat → Nat) (M : Nat → Nat → Int32) (R : Nat → Nat → Option Nat) (J : Nat → Nat → Int64) (hZ : 104 ≤ Z) (p1 : Int32) (h1 : p1 < 0) : Met l yX11_end [Cond.code yX11_end cX11_end 2 (some .int)] (md_rm 1 0 0) (va_Pc [.ref (base + 0), .int p1] (md_U D cy tx base Z K N M R J)) (mQi D cy tx base (fun r u => r = (-1) ∧ u = (Z, K, N, M, R, J))) 0 0 (fun q => base ≤ q) := by
  refine Met.ofW (cc := cX11_end) (maxL := 2) (ret := (some .int)) (by decide) rfl ?_
  intro p e s m args below meth c s₁ B hml hv
  have hW : ∀ w ∈ lw_tbl, goodWord w = true → w.before args s = true := fun w h g => hv.2.2.2.1.2.1 w h g _
  obtain ⟨rfl, hU⟩ := hv
  have hx := B.exec
  have hb := B.bytes
  have hr := B.returns
  have hlocks := B.notSynchronized
  have hown : s.vm.findClass RX11 = some m.cls := findClass_of_methodNamed B.named
  have hK := hU.2.2.1
  have hT := hU.2.2.2
  have hG := md_G.start hU
  have hl := lv_entry ([.ref (base + 0), .int p1]) (n := 2) (Nat.le_of_ble_eq_true rfl)
  rw [lg_entry_eq]
  generalize (lg_sl ([.ref (base + 0), .int p1]) ++ List.replicate (2 - (lg_sl ([.ref (base + 0), .int p1])).length) Slot.unset).toArray = ls at hl ⊢
  have hl : lv_has ls 2 [(0, .ref (base + 0)), (1, .int p1)] := hl
  refine lv_iload_n hx hb dX11_end_0 rfl (lv_at hl 1 rfl) ?_
  refine lv_if_lt (tgt := 12) hx hb dX11_end_1 (by decide) (fun _ => ?_) (fun h => absurd h1 h)
  refine lv_iconst (v := (-1)) hx hb dX11_end_12 (by decide) ?_
  exact md_endi hx hb hr hlocks hK hT hG (⟨rfl, rfl⟩) dX11_end_13
set_option maxRecDepth 100000 in
set_option maxHeartbeats 4000000 in
theorem c_X11_end_2 (l : Launch) (D : va_G) (cy : Nat → ClassId) (tx : (Nat → Nat) × (Nat → Nat)) (base Z : Nat) (K N : Nat → Nat) (M : Nat → Nat → Int32) (R : Nat → Nat → Option Nat) (J : Nat → Nat → Int64) (hZ : 104 ≤ Z) (hK0 : K 0 = 11) (hM0_1 : M 0 1 = 0) (p1 : Int32) (h1 : ¬ p1 < 0) (h2 : ¬ p1 ≤ 0) : Met l yX11_end [Cond.code yX11_end cX11_end 2 (some .int)] (md_rm 1 0 0) (va_Pc [.ref (base + 0), .int p1] (md_U D cy tx base Z K N M R J)) (mQi D cy tx base (fun r u => r = (-1) ∧ u = (Z, K, N, M, R, J))) 0 0 (fun q => base ≤ q) := by
  refine Met.ofW (cc := cX11_end) (maxL := 2) (ret := (some .int)) (by decide) rfl ?_
  intro p e s m args below meth c s₁ B hml hv
  have hW : ∀ w ∈ lw_tbl, goodWord w = true → w.before args s = true := fun w h g => hv.2.2.2.1.2.1 w h g _
  obtain ⟨rfl, hU⟩ := hv
  have hx := B.exec
  have hb := B.bytes
  have hr := B.returns
  have hlocks := B.notSynchronized
  have hown : s.vm.findClass RX11 = some m.cls := findClass_of_methodNamed B.named
  have hK := hU.2.2.1
  have hT := hU.2.2.2
  have hG := md_G.start hU
  have hl := lv_entry ([.ref (base + 0), .int p1]) (n := 2) (Nat.le_of_ble_eq_true rfl)
  rw [lg_entry_eq]
  generalize (lg_sl ([.ref (base + 0), .int p1]) ++ List.replicate (2 - (lg_sl ([.ref (base + 0), .int p1])).length) Slot.unset).toArray = ls at hl ⊢
  have hl : lv_has ls 2 [(0, .ref (base + 0)), (1, .int p1)] := hl
  refine lv_iload_n hx hb dX11_end_0 rfl (lv_at hl 1 rfl) ?_
  refine lv_if_lt (tgt := 12) hx hb dX11_end_1 (by decide) (fun h => absurd h h1) (fun _ => ?_)
  refine lv_iload_n hx hb dX11_end_4 rfl (lv_at hl 1 rfl) ?_
  refine lv_aload_n hx hb dX11_end_5 rfl (lv_at hl 0 rfl) ?_
  refine md_geti hx hb hW hown hK hG f_X11_94_10 (Nat.lt_of_lt_of_le (by decide) hZ) hK0 (v := 0) hM0_1 dX11_end_6 ?_
  refine lv_icmp_le (tgt := 14) hx hb dX11_end_9 (by decide) (fun h => absurd h h2) (fun _ => ?_)
  refine lv_iconst (v := (-1)) hx hb dX11_end_12 (by decide) ?_
  exact md_endi hx hb hr hlocks hK hT hG (⟨rfl, rfl⟩) dX11_end_13
set_option maxRecDepth 100000 in
set_option maxHeartbeats 4000000 in
theorem c_X11_end_3 (l : Launch) (D : va_G) (cy : Nat → ClassId) (tx : (Nat → Nat) × (Nat → Nat)) (base Z : Nat) (K N : Nat → Nat) (M : Nat → Nat → Int32) (R : Nat → Nat → Option Nat) (J : Nat → Nat → Int64) (hZ : 104 ≤ Z) (hK0 : K 0 = 11) (hM0_1 : M 0 1 = 0) (p1 : Int32) (h1 : ¬ p1 < 0) (h2 : p1 ≤ 0) : Met l yX11_end [Cond.code yX11_end cX11_end 2 (some .int)] (md_rm 1 0 0) (va_Pc [.ref (base + 0), .int p1] (md_U D cy tx base Z K N M R J)) (mQi D cy tx base (fun r u => r = p1 ∧ u = (Z, K, N, (u2 M 0 1 p1), R, J))) 0 0 (fun q => base ≤ q) := by
  refine Met.ofW (cc := cX11_end) (maxL := 2) (ret := (some .int)) (by decide) rfl ?_
  intro p e s m args below meth c s₁ B hml hv
  have hW : ∀ w ∈ lw_tbl, goodWord w = true → w.before args s = true := fun w h g => hv.2.2.2.1.2.1 w h g _
  obtain ⟨rfl, hU⟩ := hv
  have hx := B.exec
  have hb := B.bytes
  have hr := B.returns
  have hlocks := B.notSynchronized
  have hown : s.vm.findClass RX11 = some m.cls := findClass_of_methodNamed B.named
  have hK := hU.2.2.1
  have hT := hU.2.2.2
  have hG := md_G.start hU
  have hl := lv_entry ([.ref (base + 0), .int p1]) (n := 2) (Nat.le_of_ble_eq_true rfl)
  rw [lg_entry_eq]
  generalize (lg_sl ([.ref (base + 0), .int p1]) ++ List.replicate (2 - (lg_sl ([.ref (base + 0), .int p1])).length) Slot.unset).toArray = ls at hl ⊢
  have hl : lv_has ls 2 [(0, .ref (base + 0)), (1, .int p1)] := hl
  refine lv_iload_n hx hb dX11_end_0 rfl (lv_at hl 1 rfl) ?_
  refine lv_if_lt (tgt := 12) hx hb dX11_end_1 (by decide) (fun h => absurd h h1) (fun _ => ?_)
  refine lv_iload_n hx hb dX11_end_4 rfl (lv_at hl 1 rfl) ?_
  refine lv_aload_n hx hb dX11_end_5 rfl (lv_at hl 0 rfl) ?_
  refine md_geti hx hb hW hown hK hG f_X11_94_10 (Nat.lt_of_lt_of_le (by decide) hZ) hK0 (v := 0) hM0_1 dX11_end_6 ?_
  refine lv_icmp_le (tgt := 14) hx hb dX11_end_9 (by decide) (fun _ => ?_) (fun h => absurd h2 h)
  refine lv_aload_n hx hb dX11_end_14 rfl (lv_at hl 0 rfl) ?_
  refine lv_iload_n hx hb dX11_end_15 rfl (lv_at hl 1 rfl) ?_
  refine md_puti hx hb hW hown hK hG f_X11_94_10 (Nat.lt_of_lt_of_le (by decide) hZ) hK0 rfl rfl dX11_end_16 (fun H locs hG => ?_)
  refine lv_iload_n hx hb dX11_end_19 rfl (lv_at hl 1 rfl) ?_
  exact md_endi hx hb hr hlocks hK hT hG (⟨rfl, rfl⟩) dX11_end_20
set_option maxRecDepth 100000 in
set_option maxHeartbeats 4000000 in
theorem c_X10_begin (l : Launch) (D : va_G) (cy : Nat → ClassId) (tx : (Nat → Nat) × (Nat → Nat)) (base Z : Nat) (K N : Nat → Nat) (M : Nat → Nat → Int32) (R : Nat → Nat → Option Nat) (J : Nat → Nat → Int64) (hZ : 104 ≤ Z) (hK14 : K 14 = 3) (hK1 : K 1 = 13) (hN1 : N 1 = 400) : Met l yX10_begin [Cond.code yX10_begin cX10_begin 3 none] (md_rm 1 0 0) (va_Pc [.ref (base + 14), .ref (base + 1), .int 0] (md_U D cy tx base Z K N M R J)) (mQv D cy tx base (fun u => u = (Z, K, N, (u2 (u2 (u2 M 14 1 0) 14 2 0) 14 3 0), (u2 R 14 0 (some 1)), J))) 0 0 (fun q => base ≤ q) := by
  refine Met.ofW (cc := cX10_begin) (maxL := 3) (ret := none) (by decide) rfl ?_
  intro p e s m args below meth c s₁ B hml hv
  have hW : ∀ w ∈ lw_tbl, goodWord w = true → w.before args s = true := fun w h g => hv.2.2.2.1.2.1 w h g _
  obtain ⟨rfl, hU⟩ := hv
  have hx := B.exec
  have hb := B.bytes
  have hr := B.returns
  have hlocks := B.notSynchronized
  have hown : s.vm.findClass RX10 = some m.cls := findClass_of_methodNamed B.named
  have hK := hU.2.2.1
  have hT := hU.2.2.2
  have hG := md_G.start hU
  have hl := lv_entry ([.ref (base + 14), .ref (base + 1), .int 0]) (n := 3) (Nat.le_of_ble_eq_true rfl)
  rw [lg_entry_eq]
  generalize (lg_sl ([.ref (base + 14), .ref (base + 1), .int 0]) ++ List.replicate (3 - (lg_sl ([.ref (base + 14), .ref (base + 1), .int 0])).length) Slot.unset).toArray = ls at hl ⊢
  have hl : lv_has ls 3 [(0, .ref (base + 14)), (1, .ref (base + 1)), (2, .int 0)] := hl
  refine lv_aload_n hx hb dX10_begin_0 rfl (lv_at hl 0 rfl) ?_
  refine lv_aload_n hx hb dX10_begin_1 rfl (lv_at hl 1 rfl) ?_
  refine md_putr hx hb hW hown hK hG f_X10_9_2 (Nat.lt_of_lt_of_le (by decide) hZ) hK14 rfl rfl dX10_begin_2 (fun H locs hG => ?_)
  refine lv_aload_n hx hb dX10_begin_5 rfl (lv_at hl 0 rfl) ?_
  refine lv_aload_n hx hb dX10_begin_6 rfl (lv_at hl 1 rfl) ?_
  refine lv_ifnonnull (tgt := 14) hx hb dX10_begin_7 (by decide) ?_
  refine lv_iload_n hx hb dX10_begin_14 rfl (lv_at hl 2 rfl) ?_
  refine lv_aload_n hx hb dX10_begin_15 rfl (lv_at hl 1 rfl) ?_
  refine md_alen (t := 13) hx hb hK hG (Nat.lt_of_lt_of_le (by decide) hZ) hK1 ⟨by decide, by decide⟩ hN1 (v := 400) (by decide) dX10_begin_16 ?_
  refine va_mmin hx hb (hml.trans hl.1.symm) hown (hW _ w_3_85 rfl) (hW _ w_3_86 rfl) (hW _ w_1_13 rfl) (hW _ w_3_87 rfl) (Nat.le_of_ble_eq_true rfl) (Nat.le_of_ble_eq_true rfl) (Nat.le_of_ble_eq_true rfl) (Nat.le_of_ble_eq_true rfl) dX10_begin_17 ?_
  refine md_top (y := 0) (by decide) ?_
  refine md_puti hx hb hW hown hK hG f_X10_21_2 (Nat.lt_of_lt_of_le (by decide) hZ) hK14 rfl rfl dX10_begin_20 (fun H locs hG => ?_)
  refine lv_aload_n hx hb dX10_begin_23 rfl (lv_at hl 0 rfl) ?_
  refine lv_iconst (v := 0) hx hb dX10_begin_24 (by decide) ?_
  refine md_puti hx hb hW hown hK hG f_X10_25_2 (Nat.lt_of_lt_of_le (by decide) hZ) hK14 rfl rfl dX10_begin_25 (fun H locs hG => ?_)
  refine lv_aload_n hx hb dX10_begin_28 rfl (lv_at hl 0 rfl) ?_
  refine lv_iconst (v := 0) hx hb dX10_begin_29 (by decide) ?_
  refine md_puti hx hb hW hown hK hG f_X10_28_2 (Nat.lt_of_lt_of_le (by decide) hZ) hK14 rfl rfl dX10_begin_30 (fun H locs hG => ?_)
  exact md_endv hx hb hr hlocks hK hT hG (rfl) dX10_begin_33
set_option maxRecDepth 100000 in
set_option maxHeartbeats 4000000 in
theorem c_X9_makeFresh (l : Launch) (D : va_G) (cy : Nat → ClassId) (tx : (Nat → Nat) × (Nat → Nat)) (base Z : Nat) (K N : Nat → Nat) (M : Nat → Nat → Int32) (R : Nat → Nat → Option Nat) (J : Nat → Nat → Int64) (hZ : 104 ≤ Z) (hK15 : K 15 = 10) (hR15_10 : R 15 10 = some 17) (hK17 : K 17 = 14) (hN17 : N 17 = 10) (hR15_11 : R 15 11 = some 18) (hK18 : K 18 = 14) (hN18 : N 18 = 10) (hR15_12 : R 15 12 = some 19) (hK19 : K 19 = 14) (hN19 : N 19 = 10) (hR15_13 : R 15 13 = some 20) (hK20 : K 20 = 14) (hN20 : N 20 = 10) : Met l yX9_makeFresh [Cond.code yX9_makeFresh cX9_makeFresh 2 none] (md_rm 1 0 0) (va_Pc [.ref (base + 15)] (md_U D cy tx base Z K N M R J)) (mQv D cy tx base (fun u => u = (Z, K, N, (u2 (u2 (u2 (u2 (u2 (u2 (u2 (u2 (u2 (u2 (u2 (u2 (u2 (u2 (u2 (u2 (u2 (u2 (u2 (u2 (u2 (u2 (u2 (u2 (u2 (u2 (u2 (u2 (u2 (u2 (u2 (u2 (u2 (u2 (u2 (u2 (u2 (u2 (u2 (u2 (u2 (u2 (u2 (u2 (u2 (u2 (u2 (u2 M 15 0 0) 15 1 0) 15 2 0) 15 3 0) 15 4 0) 15 5 9999) 15 7 0) 15 8 0) 17 0 1) 18 0 (-1)) 19 0 0) 20 0 0) 17 1 1) 18 1 (-1)) 19 1 0) 20 1 0) 17 2 1) 18 2 (-1)) 19 2 0) 20 2 0) 17 3 1) 18 3 (-1)) 19 3 0) 20 3 0) 17 4 1) 18 4 (-1)) 19 4 0) 20 4 0) 17 5 1) 18 5 (-1)) 19 5 0) 20 5 0) 17 6 1) 18 6 (-1)) 19 6 0) 20 6 0) 17 7 1) 18 7 (-1)) 19 7 0) 20 7 0) 17 8 1) 18 8 (-1)) 19 8 0) 20 8 0) 17 9 1) 18 9 (-1)) 19 9 0) 20 9 0), R, J))) 0 0 (fun q => base ≤ q) := by
  refine Met.ofW (cc := cX9_makeFresh) (maxL := 2) (ret := none) (by decide) rfl ?_
  intro p e s m args below meth c s₁ B hml hv
  have hW : ∀ w ∈ lw_tbl, goodWord w = true → w.before args s = true := fun w h g => hv.2.2.2.1.2.1 w h g _
  obtain ⟨rfl, hU⟩ := hv
  have hx := B.exec
  have hb := B.bytes
  have hr := B.returns
  have hlocks := B.notSynchronized
  have hown : s.vm.findClass RX9 = some m.cls := findClass_of_methodNamed B.named
  have hK := hU.2.2.1
  have hT := hU.2.2.2
  have hG := md_G.start hU
  have hl := lv_entry ([.ref (base + 15)]) (n := 2) (Nat.le_of_ble_eq_true rfl)
  rw [lg_entry_eq]
  generalize (lg_sl ([.ref (base + 15)]) ++ List.replicate (2 - (lg_sl ([.ref (base + 15)])).length) Slot.unset).toArray = ls at hl ⊢
  have hl : lv_has ls 2 [(0, .ref (base + 15))] := hl
  refine lv_aload_n hx hb dX9_makeFresh_0 rfl (lv_at hl 0 rfl) ?_
  refine lv_iconst (v := 0) hx hb dX9_makeFresh_1 (by decide) ?_
  refine md_puti hx hb hW hown hK hG f_X9_33_9 (Nat.lt_of_lt_of_le (by decide) hZ) hK15 rfl rfl dX9_makeFresh_2 (fun H locs hG => ?_)
  refine lv_aload_n hx hb dX9_makeFresh_5 rfl (lv_at hl 0 rfl) ?_
  refine lv_iconst (v := 0) hx hb dX9_makeFresh_6 (by decide) ?_
  refine md_puti hx hb hW hown hK hG f_X9_37_9 (Nat.lt_of_lt_of_le (by decide) hZ) hK15 rfl rfl dX9_makeFresh_7 (fun H locs hG => ?_)
  refine lv_aload_n hx hb dX9_makeFresh_10 rfl (lv_at hl 0 rfl) ?_
  refine lv_iconst (v := 0) hx hb dX9_makeFresh_11 (by decide) ?_
  refine md_puti hx hb hW hown hK hG f_X9_40_9 (Nat.lt_of_lt_of_le (by decide) hZ) hK15 rfl rfl dX9_makeFresh_12 (fun H locs hG => ?_)
  refine lv_aload_n hx hb dX9_makeFresh_15 rfl (lv_at hl 0 rfl) ?_
  refine lv_iconst (v := 0) hx hb dX9_makeFresh_16 (by decide) ?_
  refine md_puti hx hb hW hown hK hG f_X9_43_9 (Nat.lt_of_lt_of_le (by decide) hZ) hK15 rfl rfl dX9_makeFresh_17 (fun H locs hG => ?_)
  refine lv_aload_n hx hb dX9_makeFresh_20 rfl (lv_at hl 0 rfl) ?_
  refine lv_iconst (v := 0) hx hb dX9_makeFresh_21 (by decide) ?_
  refine md_puti hx hb hW hown hK hG f_X9_46_9 (Nat.lt_of_lt_of_le (by decide) hZ) hK15 rfl rfl dX9_makeFresh_22 (fun H locs hG => ?_)
  refine lv_aload_n hx hb dX9_makeFresh_25 rfl (lv_at hl 0 rfl) ?_
  refine lv_sipush (v := 9999) hx hb dX9_makeFresh_26 (by decide) ?_
  refine md_puti hx hb hW hown hK hG f_X9_49_9 (Nat.lt_of_lt_of_le (by decide) hZ) hK15 rfl rfl dX9_makeFresh_29 (fun H locs hG => ?_)
  refine lv_aload_n hx hb dX9_makeFresh_32 rfl (lv_at hl 0 rfl) ?_
  refine lv_iconst (v := 0) hx hb dX9_makeFresh_33 (by decide) ?_
  refine md_puti hx hb hW hown hK hG f_X9_52_9 (Nat.lt_of_lt_of_le (by decide) hZ) hK15 rfl rfl dX9_makeFresh_34 (fun H locs hG => ?_)
  refine lv_aload_n hx hb dX9_makeFresh_37 rfl (lv_at hl 0 rfl) ?_
  refine lv_iconst (v := 0) hx hb dX9_makeFresh_38 (by decide) ?_
  refine md_puti hx hb hW hown hK hG f_X9_55_9 (Nat.lt_of_lt_of_le (by decide) hZ) hK15 rfl rfl dX9_makeFresh_39 (fun H locs hG => ?_)
  refine lv_iconst (v := 0) hx hb dX9_makeFresh_42 (by decide) ?_
  refine lv_istore_n (lv' := [(1, .int 0), (0, .ref (base + 15))]) hx hb dX9_makeFresh_43 rfl hl (by decide) rfl (fun ls hl => ?_)
  refine lv_iload_n hx hb dX9_makeFresh_44 rfl (lv_at hl 0 rfl) ?_
  refine lv_bipush (v := 10) hx hb dX9_makeFresh_45 (by decide) ?_
  refine lv_icmp_ge (tgt := 84) hx hb dX9_makeFresh_47 (by decide) (fun h => absurd h (by decide)) (fun _ => ?_)
  refine lv_aload_n hx hb dX9_makeFresh_50 rfl (lv_at hl 1 rfl) ?_
  refine md_getr hx hb hW hown hK hG f_X9_15_9 (Nat.lt_of_lt_of_le (by decide) hZ) hK15 (b := 17) hR15_10 dX9_makeFresh_51 ?_
  refine lv_iload_n hx hb dX9_makeFresh_54 rfl (lv_at hl 0 rfl) ?_
  refine lv_iconst (v := 1) hx hb dX9_makeFresh_55 (by decide) ?_
  refine md_iast hx hb hK hG (Nat.lt_of_lt_of_le (by decide) hZ) hK17 hN17 (md_inD (by decide)) (k := 0) (by decide) dX9_makeFresh_56 (fun H locs hG => ?_)
  refine lv_aload_n hx hb dX9_makeFresh_57 rfl (lv_at hl 1 rfl) ?_
  refine md_getr hx hb hW hown hK hG f_X9_18_9 (Nat.lt_of_lt_of_le (by decide) hZ) hK15 (b := 18) hR15_11 dX9_makeFresh_58 ?_
  refine lv_iload_n hx hb dX9_makeFresh_61 rfl (lv_at hl 0 rfl) ?_
  refine lv_iconst (v := (-1)) hx hb dX9_makeFresh_62 (by decide) ?_
  refine md_iast hx hb hK hG (Nat.lt_of_lt_of_le (by decide) hZ) hK18 hN18 (md_inD (by decide)) (k := 0) (by decide) dX9_makeFresh_63 (fun H locs hG => ?_)
  refine lv_aload_n hx hb dX9_makeFresh_64 rfl (lv_at hl 1 rfl) ?_
  refine md_getr hx hb hW hown hK hG f_X9_21_9 (Nat.lt_of_lt_of_le (by decide) hZ) hK15 (b := 19) hR15_12 dX9_makeFresh_65 ?_
  refine lv_iload_n hx hb dX9_makeFresh_68 rfl (lv_at hl 0 rfl) ?_
  refine lv_iconst (v := 0) hx hb dX9_makeFresh_69 (by decide) ?_
  refine md_iast hx hb hK hG (Nat.lt_of_lt_of_le (by decide) hZ) hK19 hN19 (md_inD (by decide)) (k := 0) (by decide) dX9_makeFresh_70 (fun H locs hG => ?_)
  refine lv_aload_n hx hb dX9_makeFresh_71 rfl (lv_at hl 1 rfl) ?_
  refine md_getr hx hb hW hown hK hG f_X9_24_9 (Nat.lt_of_lt_of_le (by decide) hZ) hK15 (b := 20) hR15_13 dX9_makeFresh_72 ?_
  refine lv_iload_n hx hb dX9_makeFresh_75 rfl (lv_at hl 0 rfl) ?_
  refine lv_iconst (v := 0) hx hb dX9_makeFresh_76 (by decide) ?_
  refine md_iast hx hb hK hG (Nat.lt_of_lt_of_le (by decide) hZ) hK20 hN20 (md_inD (by decide)) (k := 0) (by decide) dX9_makeFresh_77 (fun H locs hG => ?_)
  refine lv_iinc (v := 1) (lv' := [(1, .int 1), (0, .ref (base + 15))]) hx hb dX9_makeFresh_78 hl (k := 0) rfl (by decide) (by decide) rfl (fun ls hl => ?_)
  refine lv_goto (tgt := 44) hx hb dX9_makeFresh_81 (by decide) ?_
  refine lv_iload_n hx hb dX9_makeFresh_44 rfl (lv_at hl 0 rfl) ?_
  refine lv_bipush (v := 10) hx hb dX9_makeFresh_45 (by decide) ?_
  refine lv_icmp_ge (tgt := 84) hx hb dX9_makeFresh_47 (by decide) (fun h => absurd h (by decide)) (fun _ => ?_)
  refine lv_aload_n hx hb dX9_makeFresh_50 rfl (lv_at hl 1 rfl) ?_
  refine md_getr hx hb hW hown hK hG f_X9_15_9 (Nat.lt_of_lt_of_le (by decide) hZ) hK15 (b := 17) hR15_10 dX9_makeFresh_51 ?_
  refine lv_iload_n hx hb dX9_makeFresh_54 rfl (lv_at hl 0 rfl) ?_
  refine lv_iconst (v := 1) hx hb dX9_makeFresh_55 (by decide) ?_
  refine md_iast hx hb hK hG (Nat.lt_of_lt_of_le (by decide) hZ) hK17 hN17 (md_inD (by decide)) (k := 1) (by decide) dX9_makeFresh_56 (fun H locs hG => ?_)
  refine lv_aload_n hx hb dX9_makeFresh_57 rfl (lv_at hl 1 rfl) ?_
  refine md_getr hx hb hW hown hK hG f_X9_18_9 (Nat.lt_of_lt_of_le (by decide) hZ) hK15 (b := 18) hR15_11 dX9_makeFresh_58 ?_
  refine lv_iload_n hx hb dX9_makeFresh_61 rfl (lv_at hl 0 rfl) ?_
  refine lv_iconst (v := (-1)) hx hb dX9_makeFresh_62 (by decide) ?_
  refine md_iast hx hb hK hG (Nat.lt_of_lt_of_le (by decide) hZ) hK18 hN18 (md_inD (by decide)) (k := 1) (by decide) dX9_makeFresh_63 (fun H locs hG => ?_)
  refine lv_aload_n hx hb dX9_makeFresh_64 rfl (lv_at hl 1 rfl) ?_
  refine md_getr hx hb hW hown hK hG f_X9_21_9 (Nat.lt_of_lt_of_le (by decide) hZ) hK15 (b := 19) hR15_12 dX9_makeFresh_65 ?_
  refine lv_iload_n hx hb dX9_makeFresh_68 rfl (lv_at hl 0 rfl) ?_
  refine lv_iconst (v := 0) hx hb dX9_makeFresh_69 (by decide) ?_
  refine md_iast hx hb hK hG (Nat.lt_of_lt_of_le (by decide) hZ) hK19 hN19 (md_inD (by decide)) (k := 1) (by decide) dX9_makeFresh_70 (fun H locs hG => ?_)
  refine lv_aload_n hx hb dX9_makeFresh_71 rfl (lv_at hl 1 rfl) ?_
  refine md_getr hx hb hW hown hK hG f_X9_24_9 (Nat.lt_of_lt_of_le (by decide) hZ) hK15 (b := 20) hR15_13 dX9_makeFresh_72 ?_
  refine lv_iload_n hx hb dX9_makeFresh_75 rfl (lv_at hl 0 rfl) ?_
  refine lv_iconst (v := 0) hx hb dX9_makeFresh_76 (by decide) ?_
  refine md_iast hx hb hK hG (Nat.lt_of_lt_of_le (by decide) hZ) hK20 hN20 (md_inD (by decide)) (k := 1) (by decide) dX9_makeFresh_77 (fun H locs hG => ?_)
  refine lv_iinc (v := 2) (lv' := [(1, .int 2), (0, .ref (base + 15))]) hx hb dX9_makeFresh_78 hl (k := 0) rfl (by decide) (by decide) rfl (fun ls hl => ?_)
  refine lv_goto (tgt := 44) hx hb dX9_makeFresh_81 (by decide) ?_
  refine lv_iload_n hx hb dX9_makeFresh_44 rfl (lv_at hl 0 rfl) ?_
  refine lv_bipush (v := 10) hx hb dX9_makeFresh_45 (by decide) ?_
  refine lv_icmp_ge (tgt := 84) hx hb dX9_makeFresh_47 (by decide) (fun h => absurd h (by decide)) (fun _ => ?_)
  refine lv_aload_n hx hb dX9_makeFresh_50 rfl (lv_at hl 1 rfl) ?_
  refine md_getr hx hb hW hown hK hG f_X9_15_9 (Nat.lt_of_lt_of_le (by decide) hZ) hK15 (b := 17) hR15_10 dX9_makeFresh_51 ?_
  refine lv_iload_n hx hb dX9_makeFresh_54 rfl (lv_at hl 0 rfl) ?_
  refine lv_iconst (v := 1) hx hb dX9_makeFresh_55 (by decide) ?_
  refine md_iast hx hb hK hG (Nat.lt_of_lt_of_le (by decide) hZ) hK17 hN17 (md_inD (by decide)) (k := 2) (by decide) dX9_makeFresh_56 (fun H locs hG => ?_)
  refine lv_aload_n hx hb dX9_makeFresh_57 rfl (lv_at hl 1 rfl) ?_
  refine md_getr hx hb hW hown hK hG f_X9_18_9 (Nat.lt_of_lt_of_le (by decide) hZ) hK15 (b := 18) hR15_11 dX9_makeFresh_58 ?_
  refine lv_iload_n hx hb dX9_makeFresh_61 rfl (lv_at hl 0 rfl) ?_
  refine lv_iconst (v := (-1)) hx hb dX9_makeFresh_62 (by decide) ?_
  refine md_iast hx hb hK hG (Nat.lt_of_lt_of_le (by decide) hZ) hK18 hN18 (md_inD (by decide)) (k := 2) (by decide) dX9_makeFresh_63 (fun H locs hG => ?_)
  refine lv_aload_n hx hb dX9_makeFresh_64 rfl (lv_at hl 1 rfl) ?_
  refine md_getr hx hb hW hown hK hG f_X9_21_9 (Nat.lt_of_lt_of_le (by decide) hZ) hK15 (b := 19) hR15_12 dX9_makeFresh_65 ?_
  refine lv_iload_n hx hb dX9_makeFresh_68 rfl (lv_at hl 0 rfl) ?_
  refine lv_iconst (v := 0) hx hb dX9_makeFresh_69 (by decide) ?_
  refine md_iast hx hb hK hG (Nat.lt_of_lt_of_le (by decide) hZ) hK19 hN19 (md_inD (by decide)) (k := 2) (by decide) dX9_makeFresh_70 (fun H locs hG => ?_)
  refine lv_aload_n hx hb dX9_makeFresh_71 rfl (lv_at hl 1 rfl) ?_
  refine md_getr hx hb hW hown hK hG f_X9_24_9 (Nat.lt_of_lt_of_le (by decide) hZ) hK15 (b := 20) hR15_13 dX9_makeFresh_72 ?_
  refine lv_iload_n hx hb dX9_makeFresh_75 rfl (lv_at hl 0 rfl) ?_
  refine lv_iconst (v := 0) hx hb dX9_makeFresh_76 (by decide) ?_
  refine md_iast hx hb hK hG (Nat.lt_of_lt_of_le (by decide) hZ) hK20 hN20 (md_inD (by decide)) (k := 2) (by decide) dX9_makeFresh_77 (fun H locs hG => ?_)
  refine lv_iinc (v := 3) (lv' := [(1, .int 3), (0, .ref (base + 15))]) hx hb dX9_makeFresh_78 hl (k := 0) rfl (by decide) (by decide) rfl (fun ls hl => ?_)
  refine lv_goto (tgt := 44) hx hb dX9_makeFresh_81 (by decide) ?_
  refine lv_iload_n hx hb dX9_makeFresh_44 rfl (lv_at hl 0 rfl) ?_
  refine lv_bipush (v := 10) hx hb dX9_makeFresh_45 (by decide) ?_
  refine lv_icmp_ge (tgt := 84) hx hb dX9_makeFresh_47 (by decide) (fun h => absurd h (by decide)) (fun _ => ?_)
  refine lv_aload_n hx hb dX9_makeFresh_50 rfl (lv_at hl 1 rfl) ?_
  refine md_getr hx hb hW hown hK hG f_X9_15_9 (Nat.lt_of_lt_of_le (by decide) hZ) hK15 (b := 17) hR15_10 dX9_makeFresh_51 ?_
  refine lv_iload_n hx hb dX9_makeFresh_54 rfl (lv_at hl 0 rfl) ?_
  refine lv_iconst (v := 1) hx hb dX9_makeFresh_55 (by decide) ?_
  refine md_iast hx hb hK hG (Nat.lt_of_lt_of_le (by decide) hZ) hK17 hN17 (md_inD (by decide)) (k := 3) (by decide) dX9_makeFresh_56 (fun H locs hG => ?_)
  refine lv_aload_n hx hb dX9_makeFresh_57 rfl (lv_at hl 1 rfl) ?_
  refine md_getr hx hb hW hown hK hG f_X9_18_9 (Nat.lt_of_lt_of_le (by decide) hZ) hK15 (b := 18) hR15_11 dX9_makeFresh_58 ?_
  refine lv_iload_n hx hb dX9_makeFresh_61 rfl (lv_at hl 0 rfl) ?_
  refine lv_iconst (v := (-1)) hx hb dX9_makeFresh_62 (by decide) ?_
  refine md_iast hx hb hK hG (Nat.lt_of_lt_of_le (by decide) hZ) hK18 hN18 (md_inD (by decide)) (k := 3) (by decide) dX9_makeFresh_63 (fun H locs hG => ?_)
  refine lv_aload_n hx hb dX9_makeFresh_64 rfl (lv_at hl 1 rfl) ?_
  refine md_getr hx hb hW hown hK hG f_X9_21_9 (Nat.lt_of_lt_of_le (by decide) hZ) hK15 (b := 19) hR15_12 dX9_makeFresh_65 ?_
  refine lv_iload_n hx hb dX9_makeFresh_68 rfl (lv_at hl 0 rfl) ?_
  refine lv_iconst (v := 0) hx hb dX9_makeFresh_69 (by decide) ?_
  refine md_iast hx hb hK hG (Nat.lt_of_lt_of_le (by decide) hZ) hK19 hN19 (md_inD (by decide)) (k := 3) (by decide) dX9_makeFresh_70 (fun H locs hG => ?_)
  refine lv_aload_n hx hb dX9_makeFresh_71 rfl (lv_at hl 1 rfl) ?_
  refine md_getr hx hb hW hown hK hG f_X9_24_9 (Nat.lt_of_lt_of_le (by decide) hZ) hK15 (b := 20) hR15_13 dX9_makeFresh_72 ?_
  refine lv_iload_n hx hb dX9_makeFresh_75 rfl (lv_at hl 0 rfl) ?_
  refine lv_iconst (v := 0) hx hb dX9_makeFresh_76 (by decide) ?_
  refine md_iast hx hb hK hG (Nat.lt_of_lt_of_le (by decide) hZ) hK20 hN20 (md_inD (by decide)) (k := 3) (by decide) dX9_makeFresh_77 (fun H locs hG => ?_)
  refine lv_iinc (v := 4) (lv' := [(1, .int 4), (0, .ref (base + 15))]) hx hb dX9_makeFresh_78 hl (k := 0) rfl (by decide) (by decide) rfl (fun ls hl => ?_)
  refine lv_goto (tgt := 44) hx hb dX9_makeFresh_81 (by decide) ?_
  refine lv_iload_n hx hb dX9_makeFresh_44 rfl (lv_at hl 0 rfl) ?_
  refine lv_bipush (v := 10) hx hb dX9_makeFresh_45 (by decide) ?_
  refine lv_icmp_ge (tgt := 84) hx hb dX9_makeFresh_47 (by decide) (fun h => absurd h (by decide)) (fun _ => ?_)
  refine lv_aload_n hx hb dX9_makeFresh_50 rfl (lv_at hl 1 rfl) ?_
  refine md_getr hx hb hW hown hK hG f_X9_15_9 (Nat.lt_of_lt_of_le (by decide) hZ) hK15 (b := 17) hR15_10 dX9_makeFresh_51 ?_
  refine lv_iload_n hx hb dX9_makeFresh_54 rfl (lv_at hl 0 rfl) ?_
  refine lv_iconst (v := 1) hx hb dX9_makeFresh_55 (by decide) ?_
  refine md_iast hx hb hK hG (Nat.lt_of_lt_of_le (by decide) hZ) hK17 hN17 (md_inD (by decide)) (k := 4) (by decide) dX9_makeFresh_56 (fun H locs hG => ?_)
  refine lv_aload_n hx hb dX9_makeFresh_57 rfl (lv_at hl 1 rfl) ?_
  refine md_getr hx hb hW hown hK hG f_X9_18_9 (Nat.lt_of_lt_of_le (by decide) hZ) hK15 (b := 18) hR15_11 dX9_makeFresh_58 ?_
  refine lv_iload_n hx hb dX9_makeFresh_61 rfl (lv_at hl 0 rfl) ?_
  refine lv_iconst (v := (-1)) hx hb dX9_makeFresh_62 (by decide) ?_
  refine md_iast hx hb hK hG (Nat.lt_of_lt_of_le (by decide) hZ) hK18 hN18 (md_inD (by decide)) (k := 4) (by decide) dX9_makeFresh_63 (fun H locs hG => ?_)
  refine lv_aload_n hx hb dX9_makeFresh_64 rfl (lv_at hl 1 rfl) ?_
  refine md_getr hx hb hW hown hK hG f_X9_21_9 (Nat.lt_of_lt_of_le (by decide) hZ) hK15 (b := 19) hR15_12 dX9_makeFresh_65 ?_
  refine lv_iload_n hx hb dX9_makeFresh_68 rfl (lv_at hl 0 rfl) ?_
  refine lv_iconst (v := 0) hx hb dX9_makeFresh_69 (by decide) ?_
  refine md_iast hx hb hK hG (Nat.lt_of_lt_of_le (by decide) hZ) hK19 hN19 (md_inD (by decide)) (k := 4) (by decide) dX9_makeFresh_70 (fun H locs hG => ?_)
  refine lv_aload_n hx hb dX9_makeFresh_71 rfl (lv_at hl 1 rfl) ?_
  refine md_getr hx hb hW hown hK hG f_X9_24_9 (Nat.lt_of_lt_of_le (by decide) hZ) hK15 (b := 20) hR15_13 dX9_makeFresh_72 ?_
  refine lv_iload_n hx hb dX9_makeFresh_75 rfl (lv_at hl 0 rfl) ?_
  refine lv_iconst (v := 0) hx hb dX9_makeFresh_76 (by decide) ?_
  refine md_iast hx hb hK hG (Nat.lt_of_lt_of_le (by decide) hZ) hK20 hN20 (md_inD (by decide)) (k := 4) (by decide) dX9_makeFresh_77 (fun H locs hG => ?_)
  refine lv_iinc (v := 5) (lv' := [(1, .int 5), (0, .ref (base + 15))]) hx hb dX9_makeFresh_78 hl (k := 0) rfl (by decide) (by decide) rfl (fun ls hl => ?_)
  refine lv_goto (tgt := 44) hx hb dX9_makeFresh_81 (by decide) ?_
  refine lv_iload_n hx hb dX9_makeFresh_44 rfl (lv_at hl 0 rfl) ?_
  refine lv_bipush (v := 10) hx hb dX9_makeFresh_45 (by decide) ?_
  refine lv_icmp_ge (tgt := 84) hx hb dX9_makeFresh_47 (by decide) (fun h => absurd h (by decide)) (fun _ => ?_)
  refine lv_aload_n hx hb dX9_makeFresh_50 rfl (lv_at hl 1 rfl) ?_
  refine md_getr hx hb hW hown hK hG f_X9_15_9 (Nat.lt_of_lt_of_le (by decide) hZ) hK15 (b := 17) hR15_10 dX9_makeFresh_51 ?_
  refine lv_iload_n hx hb dX9_makeFresh_54 rfl (lv_at hl 0 rfl) ?_
  refine lv_iconst (v := 1) hx hb dX9_makeFresh_55 (by decide) ?_
  refine md_iast hx hb hK hG (Nat.lt_of_lt_of_le (by decide) hZ) hK17 hN17 (md_inD (by decide)) (k := 5) (by decide) dX9_makeFresh_56 (fun H locs hG => ?_)
  refine lv_aload_n hx hb dX9_makeFresh_57 rfl (lv_at hl 1 rfl) ?_
  refine md_getr hx hb hW hown hK hG f_X9_18_9 (Nat.lt_of_lt_of_le (by decide) hZ) hK15 (b := 18) hR15_11 dX9_makeFresh_58 ?_
  refine lv_iload_n hx hb dX9_makeFresh_61 rfl (lv_at hl 0 rfl) ?_
  refine lv_iconst (v := (-1)) hx hb dX9_makeFresh_62 (by decide) ?_
  refine md_iast hx hb hK hG (Nat.lt_of_lt_of_le (by decide) hZ) hK18 hN18 (md_inD (by decide)) (k := 5) (by decide) dX9_makeFresh_63 (fun H locs hG => ?_)
  refine lv_aload_n hx hb dX9_makeFresh_64 rfl (lv_at hl 1 rfl) ?_
  refine md_getr hx hb hW hown hK hG f_X9_21_9 (Nat.lt_of_lt_of_le (by decide) hZ) hK15 (b := 19) hR15_12 dX9_makeFresh_65 ?_
  refine lv_iload_n hx hb dX9_makeFresh_68 rfl (lv_at hl 0 rfl) ?_
  refine lv_iconst (v := 0) hx hb dX9_makeFresh_69 (by decide) ?_
  refine md_iast hx hb hK hG (Nat.lt_of_lt_of_le (by decide) hZ) hK19 hN19 (md_inD (by decide)) (k := 5) (by decide) dX9_makeFresh_70 (fun H locs hG => ?_)
  refine lv_aload_n hx hb dX9_makeFresh_71 rfl (lv_at hl 1 rfl) ?_
  refine md_getr hx hb hW hown hK hG f_X9_24_9 (Nat.lt_of_lt_of_le (by decide) hZ) hK15 (b := 20) hR15_13 dX9_makeFresh_72 ?_
  refine lv_iload_n hx hb dX9_makeFresh_75 rfl (lv_at hl 0 rfl) ?_
  refine lv_iconst (v := 0) hx hb dX9_makeFresh_76 (by decide) ?_
  refine md_iast hx hb hK hG (Nat.lt_of_lt_of_le (by decide) hZ) hK20 hN20 (md_inD (by decide)) (k := 5) (by decide) dX9_makeFresh_77 (fun H locs hG => ?_)
  refine lv_iinc (v := 6) (lv' := [(1, .int 6), (0, .ref (base + 15))]) hx hb dX9_makeFresh_78 hl (k := 0) rfl (by decide) (by decide) rfl (fun ls hl => ?_)
  refine lv_goto (tgt := 44) hx hb dX9_makeFresh_81 (by decide) ?_
  refine lv_iload_n hx hb dX9_makeFresh_44 rfl (lv_at hl 0 rfl) ?_
  refine lv_bipush (v := 10) hx hb dX9_makeFresh_45 (by decide) ?_
  refine lv_icmp_ge (tgt := 84) hx hb dX9_makeFresh_47 (by decide) (fun h => absurd h (by decide)) (fun _ => ?_)
  refine lv_aload_n hx hb dX9_makeFresh_50 rfl (lv_at hl 1 rfl) ?_
  refine md_getr hx hb hW hown hK hG f_X9_15_9 (Nat.lt_of_lt_of_le (by decide) hZ) hK15 (b := 17) hR15_10 dX9_makeFresh_51 ?_
  refine lv_iload_n hx hb dX9_makeFresh_54 rfl (lv_at hl 0 rfl) ?_
  refine lv_iconst (v := 1) hx hb dX9_makeFresh_55 (by decide) ?_
  refine md_iast hx hb hK hG (Nat.lt_of_lt_of_le (by decide) hZ) hK17 hN17 (md_inD (by decide)) (k := 6) (by decide) dX9_makeFresh_56 (fun H locs hG => ?_)
  refine lv_aload_n hx hb dX9_makeFresh_57 rfl (lv_at hl 1 rfl) ?_
  refine md_getr hx hb hW hown hK hG f_X9_18_9 (Nat.lt_of_lt_of_le (by decide) hZ) hK15 (b := 18) hR15_11 dX9_makeFresh_58 ?_
  refine lv_iload_n hx hb dX9_makeFresh_61 rfl (lv_at hl 0 rfl) ?_
  refine lv_iconst (v := (-1)) hx hb dX9_makeFresh_62 (by decide) ?_
  refine md_iast hx hb hK hG (Nat.lt_of_lt_of_le (by decide) hZ) hK18 hN18 (md_inD (by decide)) (k := 6) (by decide) dX9_makeFresh_63 (fun H locs hG => ?_)
  refine lv_aload_n hx hb dX9_makeFresh_64 rfl (lv_at hl 1 rfl) ?_
  refine md_getr hx hb hW hown hK hG f_X9_21_9 (Nat.lt_of_lt_of_le (by decide) hZ) hK15 (b := 19) hR15_12 dX9_makeFresh_65 ?_
  refine lv_iload_n hx hb dX9_makeFresh_68 rfl (lv_at hl 0 rfl) ?_
  refine lv_iconst (v := 0) hx hb dX9_makeFresh_69 (by decide) ?_
  refine md_iast hx hb hK hG (Nat.lt_of_lt_of_le (by decide) hZ) hK19 hN19 (md_inD (by decide)) (k := 6) (by decide) dX9_makeFresh_70 (fun H locs hG => ?_)
  refine lv_aload_n hx hb dX9_makeFresh_71 rfl (lv_at hl 1 rfl) ?_
  refine md_getr hx hb hW hown hK hG f_X9_24_9 (Nat.lt_of_lt_of_le (by decide) hZ) hK15 (b := 20) hR15_13 dX9_makeFresh_72 ?_
  refine lv_iload_n hx hb dX9_makeFresh_75 rfl (lv_at hl 0 rfl) ?_
  refine lv_iconst (v := 0) hx hb dX9_makeFresh_76 (by decide) ?_
  refine md_iast hx hb hK hG (Nat.lt_of_lt_of_le (by decide) hZ) hK20 hN20 (md_inD (by decide)) (k := 6) (by decide) dX9_makeFresh_77 (fun H locs hG => ?_)
  refine lv_iinc (v := 7) (lv' := [(1, .int 7), (0, .ref (base + 15))]) hx hb dX9_makeFresh_78 hl (k := 0) rfl (by decide) (by decide) rfl (fun ls hl => ?_)
  refine lv_goto (tgt := 44) hx hb dX9_makeFresh_81 (by decide) ?_
  refine lv_iload_n hx hb dX9_makeFresh_44 rfl (lv_at hl 0 rfl) ?_
  refine lv_bipush (v := 10) hx hb dX9_makeFresh_45 (by decide) ?_
  refine lv_icmp_ge (tgt := 84) hx hb dX9_makeFresh_47 (by decide) (fun h => absurd h (by decide)) (fun _ => ?_)
  refine lv_aload_n hx hb dX9_makeFresh_50 rfl (lv_at hl 1 rfl) ?_
  refine md_getr hx hb hW hown hK hG f_X9_15_9 (Nat.lt_of_lt_of_le (by decide) hZ) hK15 (b := 17) hR15_10 dX9_makeFresh_51 ?_
  refine lv_iload_n hx hb dX9_makeFresh_54 rfl (lv_at hl 0 rfl) ?_
  refine lv_iconst (v := 1) hx hb dX9_makeFresh_55 (by decide) ?_
  refine md_iast hx hb hK hG (Nat.lt_of_lt_of_le (by decide) hZ) hK17 hN17 (md_inD (by decide)) (k := 7) (by decide) dX9_makeFresh_56 (fun H locs hG => ?_)
  refine lv_aload_n hx hb dX9_makeFresh_57 rfl (lv_at hl 1 rfl) ?_
  refine md_getr hx hb hW hown hK hG f_X9_18_9 (Nat.lt_of_lt_of_le (by decide) hZ) hK15 (b := 18) hR15_11 dX9_makeFresh_58 ?_
  refine lv_iload_n hx hb dX9_makeFresh_61 rfl (lv_at hl 0 rfl) ?_
  refine lv_iconst (v := (-1)) hx hb dX9_makeFresh_62 (by decide) ?_
  refine md_iast hx hb hK hG (Nat.lt_of_lt_of_le (by decide) hZ) hK18 hN18 (md_inD (by decide)) (k := 7) (by decide) dX9_makeFresh_63 (fun H locs hG => ?_)
  refine lv_aload_n hx hb dX9_makeFresh_64 rfl (lv_at hl 1 rfl) ?_
  refine md_getr hx hb hW hown hK hG f_X9_21_9 (Nat.lt_of_lt_of_le (by decide) hZ) hK15 (b := 19) hR15_12 dX9_makeFresh_65 ?_
  refine lv_iload_n hx hb dX9_makeFresh_68 rfl (lv_at hl 0 rfl) ?_
  refine lv_iconst (v := 0) hx hb dX9_makeFresh_69 (by decide) ?_
  refine md_iast hx hb hK hG (Nat.lt_of_lt_of_le (by decide) hZ) hK19 hN19 (md_inD (by decide)) (k := 7) (by decide) dX9_makeFresh_70 (fun H locs hG => ?_)
  refine lv_aload_n hx hb dX9_makeFresh_71 rfl (lv_at hl 1 rfl) ?_
  refine md_getr hx hb hW hown hK hG f_X9_24_9 (Nat.lt_of_lt_of_le (by decide) hZ) hK15 (b := 20) hR15_13 dX9_makeFresh_72 ?_
  refine lv_iload_n hx hb dX9_makeFresh_75 rfl (lv_at hl 0 rfl) ?_
  refine lv_iconst (v := 0) hx hb dX9_makeFresh_76 (by decide) ?_
  refine md_iast hx hb hK hG (Nat.lt_of_lt_of_le (by decide) hZ) hK20 hN20 (md_inD (by decide)) (k := 7) (by decide) dX9_makeFresh_77 (fun H locs hG => ?_)
  refine lv_iinc (v := 8) (lv' := [(1, .int 8), (0, .ref (base + 15))]) hx hb dX9_makeFresh_78 hl (k := 0) rfl (by decide) (by decide) rfl (fun ls hl => ?_)
  refine lv_goto (tgt := 44) hx hb dX9_makeFresh_81 (by decide) ?_
  refine lv_iload_n hx hb dX9_makeFresh_44 rfl (lv_at hl 0 rfl) ?_
  refine lv_bipush (v := 10) hx hb dX9_makeFresh_45 (by decide) ?_
  refine lv_icmp_ge (tgt := 84) hx hb dX9_makeFresh_47 (by decide) (fun h => absurd h (by decide)) (fun _ => ?_)
  refine lv_aload_n hx hb dX9_makeFresh_50 rfl (lv_at hl 1 rfl) ?_
  refine md_getr hx hb hW hown hK hG f_X9_15_9 (Nat.lt_of_lt_of_le (by decide) hZ) hK15 (b := 17) hR15_10 dX9_makeFresh_51 ?_
  refine lv_iload_n hx hb dX9_makeFresh_54 rfl (lv_at hl 0 rfl) ?_
  refine lv_iconst (v := 1) hx hb dX9_makeFresh_55 (by decide) ?_
  refine md_iast hx hb hK hG (Nat.lt_of_lt_of_le (by decide) hZ) hK17 hN17 (md_inD (by decide)) (k := 8) (by decide) dX9_makeFresh_56 (fun H locs hG => ?_)
  refine lv_aload_n hx hb dX9_makeFresh_57 rfl (lv_at hl 1 rfl) ?_
  refine md_getr hx hb hW hown hK hG f_X9_18_9 (Nat.lt_of_lt_of_le (by decide) hZ) hK15 (b := 18) hR15_11 dX9_makeFresh_58 ?_
  refine lv_iload_n hx hb dX9_makeFresh_61 rfl (lv_at hl 0 rfl) ?_
  refine lv_iconst (v := (-1)) hx hb dX9_makeFresh_62 (by decide) ?_
  refine md_iast hx hb hK hG (Nat.lt_of_lt_of_le (by decide) hZ) hK18 hN18 (md_inD (by decide)) (k := 8) (by decide) dX9_makeFresh_63 (fun H locs hG => ?_)
  refine lv_aload_n hx hb dX9_makeFresh_64 rfl (lv_at hl 1 rfl) ?_
  refine md_getr hx hb hW hown hK hG f_X9_21_9 (Nat.lt_of_lt_of_le (by decide) hZ) hK15 (b := 19) hR15_12 dX9_makeFresh_65 ?_
  refine lv_iload_n hx hb dX9_makeFresh_68 rfl (lv_at hl 0 rfl) ?_
  refine lv_iconst (v := 0) hx hb dX9_makeFresh_69 (by decide) ?_
  refine md_iast hx hb hK hG (Nat.lt_of_lt_of_le (by decide) hZ) hK19 hN19 (md_inD (by decide)) (k := 8) (by decide) dX9_makeFresh_70 (fun H locs hG => ?_)
  refine lv_aload_n hx hb dX9_makeFresh_71 rfl (lv_at hl 1 rfl) ?_
  refine md_getr hx hb hW hown hK hG f_X9_24_9 (Nat.lt_of_lt_of_le (by decide) hZ) hK15 (b := 20) hR15_13 dX9_makeFresh_72 ?_
  refine lv_iload_n hx hb dX9_makeFresh_75 rfl (lv_at hl 0 rfl) ?_
  refine lv_iconst (v := 0) hx hb dX9_makeFresh_76 (by decide) ?_
  refine md_iast hx hb hK hG (Nat.lt_of_lt_of_le (by decide) hZ) hK20 hN20 (md_inD (by decide)) (k := 8) (by decide) dX9_makeFresh_77 (fun H locs hG => ?_)
  refine lv_iinc (v := 9) (lv' := [(1, .int 9), (0, .ref (base + 15))]) hx hb dX9_makeFresh_78 hl (k := 0) rfl (by decide) (by decide) rfl (fun ls hl => ?_)
  refine lv_goto (tgt := 44) hx hb dX9_makeFresh_81 (by decide) ?_
  refine lv_iload_n hx hb dX9_makeFresh_44 rfl (lv_at hl 0 rfl) ?_
  refine lv_bipush (v := 10) hx hb dX9_makeFresh_45 (by decide) ?_
  refine lv_icmp_ge (tgt := 84) hx hb dX9_makeFresh_47 (by decide) (fun h => absurd h (by decide)) (fun _ => ?_)
  refine lv_aload_n hx hb dX9_makeFresh_50 rfl (lv_at hl 1 rfl) ?_
  refine md_getr hx hb hW hown hK hG f_X9_15_9 (Nat.lt_of_lt_of_le (by decide) hZ) hK15 (b := 17) hR15_10 dX9_makeFresh_51 ?_
  refine lv_iload_n hx hb dX9_makeFresh_54 rfl (lv_at hl 0 rfl) ?_
  refine lv_iconst (v := 1) hx hb dX9_makeFresh_55 (by decide) ?_
  refine md_iast hx hb hK hG (Nat.lt_of_lt_of_le (by decide) hZ) hK17 hN17 (md_inD (by decide)) (k := 9) (by decide) dX9_makeFresh_56 (fun H locs hG => ?_)
  refine lv_aload_n hx hb dX9_makeFresh_57 rfl (lv_at hl 1 rfl) ?_
  refine md_getr hx hb hW hown hK hG f_X9_18_9 (Nat.lt_of_lt_of_le (by decide) hZ) hK15 (b := 18) hR15_11 dX9_makeFresh_58 ?_
  refine lv_iload_n hx hb dX9_makeFresh_61 rfl (lv_at hl 0 rfl) ?_
  refine lv_iconst (v := (-1)) hx hb dX9_makeFresh_62 (by decide) ?_
  refine md_iast hx hb hK hG (Nat.lt_of_lt_of_le (by decide) hZ) hK18 hN18 (md_inD (by decide)) (k := 9) (by decide) dX9_makeFresh_63 (fun H locs hG => ?_)
  refine lv_aload_n hx hb dX9_makeFresh_64 rfl (lv_at hl 1 rfl) ?_
  refine md_getr hx hb hW hown hK hG f_X9_21_9 (Nat.lt_of_lt_of_le (by decide) hZ) hK15 (b := 19) hR15_12 dX9_makeFresh_65 ?_
  refine lv_iload_n hx hb dX9_makeFresh_68 rfl (lv_at hl 0 rfl) ?_
  refine lv_iconst (v := 0) hx hb dX9_makeFresh_69 (by decide) ?_
  refine md_iast hx hb hK hG (Nat.lt_of_lt_of_le (by decide) hZ) hK19 hN19 (md_inD (by decide)) (k := 9) (by decide) dX9_makeFresh_70 (fun H locs hG => ?_)
  refine lv_aload_n hx hb dX9_makeFresh_71 rfl (lv_at hl 1 rfl) ?_
  refine md_getr hx hb hW hown hK hG f_X9_24_9 (Nat.lt_of_lt_of_le (by decide) hZ) hK15 (b := 20) hR15_13 dX9_makeFresh_72 ?_
  refine lv_iload_n hx hb dX9_makeFresh_75 rfl (lv_at hl 0 rfl) ?_
  refine lv_iconst (v := 0) hx hb dX9_makeFresh_76 (by decide) ?_
  refine md_iast hx hb hK hG (Nat.lt_of_lt_of_le (by decide) hZ) hK20 hN20 (md_inD (by decide)) (k := 9) (by decide) dX9_makeFresh_77 (fun H locs hG => ?_)
  refine lv_iinc (v := 10) (lv' := [(1, .int 10), (0, .ref (base + 15))]) hx hb dX9_makeFresh_78 hl (k := 0) rfl (by decide) (by decide) rfl (fun ls hl => ?_)
  refine lv_goto (tgt := 44) hx hb dX9_makeFresh_81 (by decide) ?_
  refine lv_iload_n hx hb dX9_makeFresh_44 rfl (lv_at hl 0 rfl) ?_
  refine lv_bipush (v := 10) hx hb dX9_makeFresh_45 (by decide) ?_
  refine lv_icmp_ge (tgt := 84) hx hb dX9_makeFresh_47 (by decide) (fun _ => ?_) (fun h => absurd h (by decide))
  exact md_endv hx hb hr hlocks hK hT hG (rfl) dX9_makeFresh_84
set_option maxRecDepth 100000 in
set_option maxHeartbeats 4000000 in
theorem c_X10_here (l : Launch) (D : va_G) (cy : Nat → ClassId) (tx : (Nat → Nat) × (Nat → Nat)) (base Z : Nat) (K N : Nat → Nat) (M : Nat → Nat → Int32) (R : Nat → Nat → Option Nat) (J : Nat → Nat → Int64) (hZ : 104 ≤ Z) (hK14 : K 14 = 3) (hM14_2 : M 14 2 = 0) (hM14_1 : M 14 1 = 0) : Met l yX10_here [Cond.code yX10_here cX10_here 1 (some .int)] (md_rm 1 0 0) (va_Pc [.ref (base + 14)] (md_U D cy tx base Z K N M R J)) (mQi D cy tx base (fun r u => r = (-1) ∧ u = (Z, K, N, M, R, J))) 0 0 (fun q => base ≤ q) := by
  refine Met.ofW (cc := cX10_here) (maxL := 1) (ret := (some .int)) (by decide) rfl ?_
  intro p e s m args below meth c s₁ B hml hv
  have hW : ∀ w ∈ lw_tbl, goodWord w = true → w.before args s = true := fun w h g => hv.2.2.2.1.2.1 w h g _
  obtain ⟨rfl, hU⟩ := hv
  have hx := B.exec
  have hb := B.bytes
  have hr := B.returns
  have hlocks := B.notSynchronized
  have hown : s.vm.findClass RX10 = some m.cls := findClass_of_methodNamed B.named
  have hK := hU.2.2.1
  have hT := hU.2.2.2
  have hG := md_G.start hU
  have hl := lv_entry ([.ref (base + 14)]) (n := 1) (Nat.le_of_ble_eq_true rfl)
  rw [lg_entry_eq]
  generalize (lg_sl ([.ref (base + 14)]) ++ List.replicate (1 - (lg_sl ([.ref (base + 14)])).length) Slot.unset).toArray = ls at hl ⊢
  have hl : lv_has ls 1 [(0, .ref (base + 14))] := hl
  refine lv_aload_n hx hb dX10_here_0 rfl (lv_at hl 0 rfl) ?_
  refine md_geti hx hb hW hown hK hG f_X10_25_2 (Nat.lt_of_lt_of_le (by decide) hZ) hK14 (v := 0) hM14_2 dX10_here_1 ?_
  refine lv_if_lt (tgt := 30) hx hb dX10_here_4 (by decide) (fun h => absurd h (by decide)) (fun _ => ?_)
  refine lv_aload_n hx hb dX10_here_7 rfl (lv_at hl 0 rfl) ?_
  refine md_geti hx hb hW hown hK hG f_X10_25_2 (Nat.lt_of_lt_of_le (by decide) hZ) hK14 (v := 0) hM14_2 dX10_here_8 ?_
  refine lv_aload_n hx hb dX10_here_11 rfl (lv_at hl 0 rfl) ?_
  refine md_geti hx hb hW hown hK hG f_X10_21_2 (Nat.lt_of_lt_of_le (by decide) hZ) hK14 (v := 0) hM14_1 dX10_here_12 ?_
  refine lv_icmp_ge (tgt := 30) hx hb dX10_here_15 (by decide) (fun _ => ?_) (fun h => absurd h (by decide))
  refine lv_iconst (v := (-1)) hx hb dX10_here_30 (by decide) ?_
  exact md_endi hx hb hr hlocks hK hT hG (⟨rfl, rfl⟩) dX10_here_31
set_option maxRecDepth 100000 in
set_option maxHeartbeats 4000000 in
theorem c_X10_hereBehindBlanks (l : Launch) (D : va_G) (cy : Nat → ClassId) (tx : (Nat → Nat) × (Nat → Nat)) (base Z : Nat) (K N : Nat → Nat) (M : Nat → Nat → Int32) (R : Nat → Nat → Option Nat) (J : Nat → Nat → Int64) (hZ : 104 ≤ Z) (hK14 : K 14 = 3) (hM14_2 : M 14 2 = 0) (hM14_1 : M 14 1 = 0) : Met l yX10_hereBehindBlanks [Cond.code yX10_hereBehindBlanks cX10_hereBehindBlanks 1 (some .int)] (md_rm 2 0 0) (va_Pc [.ref (base + 14)] (md_U D cy tx base Z K N M R J)) (mQi D cy tx base (fun r u => r = (-1) ∧ u = (Z, K, N, M, R, J))) 0 0 (fun q => base ≤ q) := by
  refine Met.ofW (cc := cX10_hereBehindBlanks) (maxL := 1) (ret := (some .int)) (by decide) rfl ?_
  intro p e s m args below meth c s₁ B hml hv
  have hW : ∀ w ∈ lw_tbl, goodWord w = true → w.before args s = true := fun w h g => hv.2.2.2.1.2.1 w h g _
  obtain ⟨rfl, hU⟩ := hv
  have hx := B.exec
  have hb := B.bytes
  have hr := B.returns
  have hlocks := B.notSynchronized
  have hown : s.vm.findClass RX10 = some m.cls := findClass_of_methodNamed B.named
  have hK := hU.2.2.1
  have hT := hU.2.2.2
  have hG := md_G.start hU
  have hl := lv_entry ([.ref (base + 14)]) (n := 1) (Nat.le_of_ble_eq_true rfl)
  rw [lg_entry_eq]
  generalize (lg_sl ([.ref (base + 14)]) ++ List.replicate (1 - (lg_sl ([.ref (base + 14)])).length) Slot.unset).toArray = ls at hl ⊢
  have hl : lv_has ls 1 [(0, .ref (base + 14))] := hl
  refine lv_aload_n hx hb dX10_hereBehindBlanks_0 rfl (lv_at hl 0 rfl) ?_
  refine md_geti hx hb hW hown hK hG f_X10_25_2 (Nat.lt_of_lt_of_le (by decide) hZ) hK14 (v := 0) hM14_2 dX10_hereBehindBlanks_1 ?_
  refine lv_aload_n hx hb dX10_hereBehindBlanks_4 rfl (lv_at hl 0 rfl) ?_
  refine md_geti hx hb hW hown hK hG f_X10_21_2 (Nat.lt_of_lt_of_le (by decide) hZ) hK14 (v := 0) hM14_1 dX10_hereBehindBlanks_5 ?_
  refine lv_icmp_ge (tgt := 38) hx hb dX10_hereBehindBlanks_8 (by decide) (fun _ => ?_) (fun h => absurd h (by decide))
  refine lv_aload_n hx hb dX10_hereBehindBlanks_38 rfl (lv_at hl 0 rfl) ?_
  refine md_goi hG (md_runU (As := []) (rest := []) hx hb hml hown hW hK hT hG (c_X10_here l D cy tx base  Z  K N M R J hZ hK14 hM14_2 hM14_1 ) s_X10_31_X2 ⟨rfl, rfl, ⟨Nat.le_of_ble_eq_true rfl, Nat.le_of_ble_eq_true rfl⟩, ⟨Nat.le_of_ble_eq_true rfl, Nat.le_of_ble_eq_true rfl⟩⟩ (Nat.lt_of_lt_of_le (by decide) hZ) hK14 (by decide) rfl rfl hl.1 rfl (Nat.le_of_ble_eq_true rfl) dX10_hereBehindBlanks_39) (fun r u H locs hp hG => ?_)
  obtain ⟨rfl, rfl⟩ := hp
  have hG : md_G D cy base Z K N M R J s H locs := hG
  exact md_endi hx hb hr hlocks hK hT hG (⟨rfl, rfl⟩) dX10_hereBehindBlanks_42
