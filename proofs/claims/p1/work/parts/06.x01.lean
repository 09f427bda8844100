set_option maxRecDepth 100000 in
set_option maxHeartbeats 4000000 in
theorem c_X10_whichWord (l : Launch) (D : va_G) (cy : Nat → ClassId) (tx : (Nat → Nat) × (Nat → Nat)) (base Z : Nat) (K N : Nat → Nat) (M : Nat → Nat → Int32) (R : Nat → Nat → Option Nat) (J : Nat → Nat → Int64) (hZ : 104 ≤ Z) (hK14 : K 14 = 3) (hM14_2 : M 14 2 = 0) (hM14_1 : M 14 1 = 0) : Met l yX10_whichWord [Cond.code yX10_whichWord cX10_whichWord 7 (some .int)] (md_rm 5 0 0) (va_Pc [.ref (base + 14), .ref (tx.1 0)] (md_U D cy tx base Z K N M R J)) (mQi D cy tx base (fun r u => r = (-1) ∧ u = (Z, K, N, (u2 M 14 4 0), R, J))) 0 0 (fun q => base ≤ q) := by
  refine Met.ofW (cc := cX10_whichWord) (maxL := 7) (ret := (some .int)) (by decide) rfl ?_
  intro p e s m args below meth c s₁ B hml hv
  have hW : ∀ w ∈ lw_tbl, goodWord w = true → w.before args s = true := fun w h g => hv.2.2.2.1.2.1 w h g _
  obtain ⟨rfl, hU⟩ := hv
  have hx := B.exec
  have hb := B.bytes
  have hr := B.returns
  have hlocks := B.notSynchronized
  have hown : s.vm.findClass RX10 = some m.cls := findClass_of_methodNamed B.named
  have hK := hU.2.2.1
  have hT := hU.2.2.2
  have hG := md_G.start hU
  have hl := lv_entry ([.ref (base + 14), .ref (tx.1 0)]) (n := 7) (Nat.le_of_ble_eq_true rfl)
  rw [lg_entry_eq]
  generalize (lg_sl ([.ref (base + 14), .ref (tx.1 0)]) ++ List.replicate (7 - (lg_sl ([.ref (base + 14), .ref (tx.1 0)])).length) Slot.unset).toArray = ls at hl ⊢
  have hl : lv_has ls 7 [(0, .ref (base + 14)), (1, .ref (tx.1 0))] := hl
  refine lv_aload_n hx hb dX10_whichWord_0 rfl (lv_at hl 0 rfl) ?_
  refine md_geti hx hb hW hown hK hG f_X10_25_2 (Nat.lt_of_lt_of_le (by decide) hZ) hK14 (v := 0) hM14_2 dX10_whichWord_1 ?_
  refine lv_istore_n (lv' := [(2, .int 0), (0, .ref (base + 14)), (1, .ref (tx.1 0))]) hx hb dX10_whichWord_4 rfl hl (by decide) rfl (fun ls hl => ?_)
  refine lv_iload_n hx hb dX10_whichWord_5 rfl (lv_at hl 0 rfl) ?_
  refine lv_aload_n hx hb dX10_whichWord_6 rfl (lv_at hl 1 rfl) ?_
  refine md_geti hx hb hW hown hK hG f_X10_21_2 (Nat.lt_of_lt_of_le (by decide) hZ) hK14 (v := 0) hM14_1 dX10_whichWord_7 ?_
  refine lv_icmp_ge (tgt := 41) hx hb dX10_whichWord_10 (by decide) (fun _ => ?_) (fun h => absurd h (by decide))
  refine lv_aload_n hx hb dX10_whichWord_41 rfl (lv_at hl 1 rfl) ?_
  refine lv_iload_n hx hb dX10_whichWord_42 rfl (lv_at hl 0 rfl) ?_
  refine md_puti hx hb hW hown hK hG f_X10_35_2 (Nat.lt_of_lt_of_le (by decide) hZ) hK14 rfl rfl dX10_whichWord_43 (fun H locs hG => ?_)
  refine lv_iconst (v := 0) hx hb dX10_whichWord_46 (by decide) ?_
  refine lv_istore_n (lv' := [(3, .int 0), (2, .int 0), (0, .ref (base + 14)), (1, .ref (tx.1 0))]) hx hb dX10_whichWord_47 rfl hl (by decide) rfl (fun ls hl => ?_)
  refine lv_aload_n hx hb dX10_whichWord_48 rfl (lv_at hl 2 rfl) ?_
  refine md_geti hx hb hW hown hK hG f_X10_25_2 (Nat.lt_of_lt_of_le (by decide) hZ) hK14 (v := 0) hM14_2 dX10_whichWord_49 ?_
  refine lv_istore (lv' := [(4, .int 0), (3, .int 0), (2, .int 0), (0, .ref (base + 14)), (1, .ref (tx.1 0))]) hx hb dX10_whichWord_52 hl (by decide) rfl (fun ls hl => ?_)
  refine lv_iconst (v := 0) hx hb dX10_whichWord_54 (by decide) ?_
  refine lv_istore (lv' := [(5, .int 0), (4, .int 0), (3, .int 0), (2, .int 0), (0, .ref (base + 14)), (1, .ref (tx.1 0))]) hx hb dX10_whichWord_55 hl (by decide) rfl (fun ls hl => ?_)
  refine lv_iload hx hb dX10_whichWord_57 (lv_at hl 0 rfl) ?_
  refine lv_aload_n hx hb dX10_whichWord_59 rfl (lv_at hl 5 rfl) ?_
  refine md_goi hG (md_runT (As := []) (rest := [.int 0]) hx hb hml hown hW hK hT hG (c_length l D cy tx base Z K N (u2 M 14 4 0) R J 0 (by decide)) s_X10_38 ⟨rfl, rfl, ⟨Nat.le_of_ble_eq_true rfl, Nat.le_of_ble_eq_true rfl⟩, ⟨Nat.le_of_ble_eq_true rfl, Nat.le_of_ble_eq_true rfl⟩⟩ (by decide) rfl hl.1 rfl (Nat.le_of_ble_eq_true rfl) dX10_whichWord_60) (fun r u H locs hp hG => ?_)
  obtain ⟨hr9, rfl⟩ := hp
  have hG : md_G D cy base Z K N (u2 M 14 4 0) R J s H locs := hG
  refine md_top (y := 26) (hr9.trans (by decide)) ?_
  clear hr9
  refine lv_icmp_ge (tgt := 144) hx hb dX10_whichWord_63 (by decide) (fun h => absurd h (by decide)) (fun _ => ?_)
  refine lv_aload_n hx hb dX10_whichWord_66 rfl (lv_at hl 5 rfl) ?_
  refine lv_iload hx hb dX10_whichWord_67 (lv_at hl 0 rfl) ?_
  refine md_goi hG (md_runT (As := [.int 0]) (rest := []) hx hb hml hown hW hK hT hG (c_charAt l D cy tx base Z K N (u2 M 14 4 0) R J 0 (by decide) 0 (md_inD (by decide)) (by decide)) s_X10_42 ⟨rfl, rfl, ⟨Nat.le_of_ble_eq_true rfl, Nat.le_of_ble_eq_true rfl⟩, ⟨Nat.le_of_ble_eq_true rfl, Nat.le_of_ble_eq_true rfl⟩⟩ (by decide) rfl hl.1 rfl (Nat.le_of_ble_eq_true rfl) dX10_whichWord_69) (fun r u H locs hp hG => ?_)
  obtain ⟨hr9, rfl⟩ := hp
  have hG : md_G D cy base Z K N (u2 M 14 4 0) R J s H locs := hG
  refine md_top (y := 109) (hr9.trans (by decide)) ?_
  clear hr9
  refine lv_istore (lv' := [(6, .int 109), (5, .int 0), (4, .int 0), (3, .int 0), (2, .int 0), (0, .ref (base + 14)), (1, .ref (tx.1 0))]) hx hb dX10_whichWord_72 hl (by decide) rfl (fun ls hl => ?_)
  refine lv_iload hx hb dX10_whichWord_74 (lv_at hl 0 rfl) ?_
  refine lv_bipush (v := 32) hx hb dX10_whichWord_76 (by decide) ?_
  refine lv_icmp_ne (tgt := 101) hx hb dX10_whichWord_78 (by decide) (fun _ => ?_) (fun h => absurd h (by decide))
  refine lv_iload hx hb dX10_whichWord_101 (lv_at hl 2 rfl) ?_
  refine lv_aload_n hx hb dX10_whichWord_103 rfl (lv_at hl 5 rfl) ?_
  refine md_geti hx hb hW hown hK hG f_X10_25_2 (Nat.lt_of_lt_of_le (by decide) hZ) hK14 (v := 0) hM14_2 dX10_whichWord_104 ?_
  refine lv_icmp_lt (tgt := 138) hx hb dX10_whichWord_107 (by decide) (fun h => absurd h (by decide)) (fun _ => ?_)
  refine lv_iload hx hb dX10_whichWord_110 (lv_at hl 2 rfl) ?_
  refine lv_iload_n hx hb dX10_whichWord_112 rfl (lv_at hl 4 rfl) ?_
  refine lv_icmp_ge (tgt := 135) hx hb dX10_whichWord_113 (by decide) (fun _ => ?_) (fun h => absurd h (by decide))
  refine lv_iconst (v := (-1)) hx hb dX10_whichWord_135 (by decide) ?_
  refine lv_istore (lv' := [(4, .int (-1)), (6, .int 109), (5, .int 0), (3, .int 0), (2, .int 0), (0, .ref (base + 14)), (1, .ref (tx.1 0))]) hx hb dX10_whichWord_136 hl (by decide) rfl (fun ls hl => ?_)
  refine lv_iinc (v := 1) (lv' := [(5, .int 1), (4, .int (-1)), (6, .int 109), (3, .int 0), (2, .int 0), (0, .ref (base + 14)), (1, .ref (tx.1 0))]) hx hb dX10_whichWord_138 hl (k := 2) rfl (by decide) (by decide) rfl (fun ls hl => ?_)
  refine lv_goto (tgt := 57) hx hb dX10_whichWord_141 (by decide) ?_
  refine lv_iload hx hb dX10_whichWord_57 (lv_at hl 0 rfl) ?_
  refine lv_aload_n hx hb dX10_whichWord_59 rfl (lv_at hl 6 rfl) ?_
  refine md_goi hG (md_runT (As := []) (rest := [.int 1]) hx hb hml hown hW hK hT hG (c_length l D cy tx base Z K N (u2 M 14 4 0) R J 0 (by decide)) s_X10_38 ⟨rfl, rfl, ⟨Nat.le_of_ble_eq_true rfl, Nat.le_of_ble_eq_true rfl⟩, ⟨Nat.le_of_ble_eq_true rfl, Nat.le_of_ble_eq_true rfl⟩⟩ (by decide) rfl hl.1 rfl (Nat.le_of_ble_eq_true rfl) dX10_whichWord_60) (fun r u H locs hp hG => ?_)
  obtain ⟨hr9, rfl⟩ := hp
  have hG : md_G D cy base Z K N (u2 M 14 4 0) R J s H locs := hG
  refine md_top (y := 26) (hr9.trans (by decide)) ?_
  clear hr9
  refine lv_icmp_ge (tgt := 144) hx hb dX10_whichWord_63 (by decide) (fun h => absurd h (by decide)) (fun _ => ?_)
  refine lv_aload_n hx hb dX10_whichWord_66 rfl (lv_at hl 6 rfl) ?_
  refine lv_iload hx hb dX10_whichWord_67 (lv_at hl 0 rfl) ?_
  refine md_goi hG (md_runT (As := [.int 1]) (rest := []) hx hb hml hown hW hK hT hG (c_charAt l D cy tx base Z K N (u2 M 14 4 0) R J 0 (by decide) 1 (md_inD (by decide)) (by decide)) s_X10_42 ⟨rfl, rfl, ⟨Nat.le_of_ble_eq_true rfl, Nat.le_of_ble_eq_true rfl⟩, ⟨Nat.le_of_ble_eq_true rfl, Nat.le_of_ble_eq_true rfl⟩⟩ (by decide) rfl hl.1 rfl (Nat.le_of_ble_eq_true rfl) dX10_whichWord_69) (fun r u H locs hp hG => ?_)
  obtain ⟨hr9, rfl⟩ := hp
  have hG : md_G D cy base Z K N (u2 M 14 4 0) R J s H locs := hG
  refine md_top (y := 101) (hr9.trans (by decide)) ?_
  clear hr9
  refine lv_istore (lv' := [(6, .int 101), (5, .int 1), (4, .int (-1)), (3, .int 0), (2, .int 0), (0, .ref (base + 14)), (1, .ref (tx.1 0))]) hx hb dX10_whichWord_72 hl (by decide) rfl (fun ls hl => ?_)
  refine lv_iload hx hb dX10_whichWord_74 (lv_at hl 0 rfl) ?_
  refine lv_bipush (v := 32) hx hb dX10_whichWord_76 (by decide) ?_
  refine lv_icmp_ne (tgt := 101) hx hb dX10_whichWord_78 (by decide) (fun _ => ?_) (fun h => absurd h (by decide))
  refine lv_iload hx hb dX10_whichWord_101 (lv_at hl 2 rfl) ?_
  refine lv_aload_n hx hb dX10_whichWord_103 rfl (lv_at hl 5 rfl) ?_
  refine md_geti hx hb hW hown hK hG f_X10_25_2 (Nat.lt_of_lt_of_le (by decide) hZ) hK14 (v := 0) hM14_2 dX10_whichWord_104 ?_
  refine lv_icmp_lt (tgt := 138) hx hb dX10_whichWord_107 (by decide) (fun _ => ?_) (fun h => absurd h (by decide))
  refine lv_iinc (v := 2) (lv' := [(5, .int 2), (6, .int 101), (4, .int (-1)), (3, .int 0), (2, .int 0), (0, .ref (base + 14)), (1, .ref (tx.1 0))]) hx hb dX10_whichWord_138 hl (k := 1) rfl (by decide) (by decide) rfl (fun ls hl => ?_)
  refine lv_goto (tgt := 57) hx hb dX10_whichWord_141 (by decide) ?_
  refine lv_iload hx hb dX10_whichWord_57 (lv_at hl 0 rfl) ?_
  refine lv_aload_n hx hb dX10_whichWord_59 rfl (lv_at hl 6 rfl) ?_
  refine md_goi hG (md_runT (As := []) (rest := [.int 2]) hx hb hml hown hW hK hT hG (c_length l D cy tx base Z K N (u2 M 14 4 0) R J 0 (by decide)) s_X10_38 ⟨rfl, rfl, ⟨Nat.le_of_ble_eq_true rfl, Nat.le_of_ble_eq_true rfl⟩, ⟨Nat.le_of_ble_eq_true rfl, Nat.le_of_ble_eq_true rfl⟩⟩ (by decide) rfl hl.1 rfl (Nat.le_of_ble_eq_true rfl) dX10_whichWord_60) (fun r u H locs hp hG => ?_)
  obtain ⟨hr9, rfl⟩ := hp
  have hG : md_G D cy base Z K N (u2 M 14 4 0) R J s H locs := hG
  refine md_top (y := 26) (hr9.trans (by decide)) ?_
  clear hr9
  refine lv_icmp_ge (tgt := 144) hx hb dX10_whichWord_63 (by decide) (fun h => absurd h (by decide)) (fun _ => ?_)
  refine lv_aload_n hx hb dX10_whichWord_66 rfl (lv_at hl 6 rfl) ?_
  refine lv_iload hx hb dX10_whichWord_67 (lv_at hl 0 rfl) ?_
  refine md_goi hG (md_runT (As := [.int 2]) (rest := []) hx hb hml hown hW hK hT hG (c_charAt l D cy tx base Z K N (u2 M 14 4 0) R J 0 (by decide) 2 (md_inD (by decide)) (by decide)) s_X10_42 ⟨rfl, rfl, ⟨Nat.le_of_ble_eq_true rfl, Nat.le_of_ble_eq_true rfl⟩, ⟨Nat.le_of_ble_eq_true rfl, Nat.le_of_ble_eq_true rfl⟩⟩ (by decide) rfl hl.1 rfl (Nat.le_of_ble_eq_true rfl) dX10_whichWord_69) (fun r u H locs hp hG => ?_)
  obtain ⟨hr9, rfl⟩ := hp
  have hG : md_G D cy base Z K N (u2 M 14 4 0) R J s H locs := hG
  refine md_top (y := 109) (hr9.trans (by decide)) ?_
  clear hr9
  refine lv_istore (lv' := [(6, .int 109), (5, .int 2), (4, .int (-1)), (3, .int 0), (2, .int 0), (0, .ref (base + 14)), (1, .ref (tx.1 0))]) hx hb dX10_whichWord_72 hl (by decide) rfl (fun ls hl => ?_)
  refine lv_iload hx hb dX10_whichWord_74 (lv_at hl 0 rfl) ?_
  refine lv_bipush (v := 32) hx hb dX10_whichWord_76 (by decide) ?_
  refine lv_icmp_ne (tgt := 101) hx hb dX10_whichWord_78 (by decide) (fun _ => ?_) (fun h => absurd h (by decide))
  refine lv_iload hx hb dX10_whichWord_101 (lv_at hl 2 rfl) ?_
  refine lv_aload_n hx hb dX10_whichWord_103 rfl (lv_at hl 5 rfl) ?_
  refine md_geti hx hb hW hown hK hG f_X10_25_2 (Nat.lt_of_lt_of_le (by decide) hZ) hK14 (v := 0) hM14_2 dX10_whichWord_104 ?_
  refine lv_icmp_lt (tgt := 138) hx hb dX10_whichWord_107 (by decide) (fun _ => ?_) (fun h => absurd h (by decide))
  refine lv_iinc (v := 3) (lv' := [(5, .int 3), (6, .int 109), (4, .int (-1)), (3, .int 0), (2, .int 0), (0, .ref (base + 14)), (1, .ref (tx.1 0))]) hx hb dX10_whichWord_138 hl (k := 1) rfl (by decide) (by decide) rfl (fun ls hl => ?_)
  refine lv_goto (tgt := 57) hx hb dX10_whichWord_141 (by decide) ?_
  refine lv_iload hx hb dX10_whichWord_57 (lv_at hl 0 rfl) ?_
  refine lv_aload_n hx hb dX10_whichWord_59 rfl (lv_at hl 6 rfl) ?_
  refine md_goi hG (md_runT (As := []) (rest := [.int 3]) hx hb hml hown hW hK hT hG (c_length l D cy tx base Z K N (u2 M 14 4 0) R J 0 (by decide)) s_X10_38 ⟨rfl, rfl, ⟨Nat.le_of_ble_eq_true rfl, Nat.le_of_ble_eq_true rfl⟩, ⟨Nat.le_of_ble_eq_true rfl, Nat.le_of_ble_eq_true rfl⟩⟩ (by decide) rfl hl.1 rfl (Nat.le_of_ble_eq_true rfl) dX10_whichWord_60) (fun r u H locs hp hG => ?_)
  obtain ⟨hr9, rfl⟩ := hp
  have hG : md_G D cy base Z K N (u2 M 14 4 0) R J s H locs := hG
  refine md_top (y := 26) (hr9.trans (by decide)) ?_
  clear hr9
  refine lv_icmp_ge (tgt := 144) hx hb dX10_whichWord_63 (by decide) (fun h => absurd h (by decide)) (fun _ => ?_)
  refine lv_aload_n hx hb dX10_whichWord_66 rfl (lv_at hl 6 rfl) ?_
  refine lv_iload hx hb dX10_whichWord_67 (lv_at hl 0 rfl) ?_
  refine md_goi hG (md_runT (As := [.int 3]) (rest := []) hx hb hml hown hW hK hT hG (c_charAt l D cy tx base Z K N (u2 M 14 4 0) R J 0 (by decide) 3 (md_inD (by decide)) (by decide)) s_X10_42 ⟨rfl, rfl, ⟨Nat.le_of_ble_eq_true rfl, Nat.le_of_ble_eq_true rfl⟩, ⟨Nat.le_of_ble_eq_true rfl, Nat.le_of_ble_eq_true rfl⟩⟩ (by decide) rfl hl.1 rfl (Nat.le_of_ble_eq_true rfl) dX10_whichWord_69) (fun r u H locs hp hG => ?_)
  obtain ⟨hr9, rfl⟩ := hp
  have hG : md_G D cy base Z K N (u2 M 14 4 0) R J s H locs := hG
  refine md_top (y := 98) (hr9.trans (by decide)) ?_
  clear hr9
  refine lv_istore (lv' := [(6, .int 98), (5, .int 3), (4, .int (-1)), (3, .int 0), (2, .int 0), (0, .ref (base + 14)), (1, .ref (tx.1 0))]) hx hb dX10_whichWord_72 hl (by decide) rfl (fun ls hl => ?_)
  refine lv_iload hx hb dX10_whichWord_74 (lv_at hl 0 rfl) ?_
  refine lv_bipush (v := 32) hx hb dX10_whichWord_76 (by decide) ?_
  refine lv_icmp_ne (tgt := 101) hx hb dX10_whichWord_78 (by decide) (fun _ => ?_) (fun h => absurd h (by decide))
  refine lv_iload hx hb dX10_whichWord_101 (lv_at hl 2 rfl) ?_
  refine lv_aload_n hx hb dX10_whichWord_103 rfl (lv_at hl 5 rfl) ?_
  refine md_geti hx hb hW hown hK hG f_X10_25_2 (Nat.lt_of_lt_of_le (by decide) hZ) hK14 (v := 0) hM14_2 dX10_whichWord_104 ?_
  refine lv_icmp_lt (tgt := 138) hx hb dX10_whichWord_107 (by decide) (fun _ => ?_) (fun h => absurd h (by decide))
  refine lv_iinc (v := 4) (lv' := [(5, .int 4), (6, .int 98), (4, .int (-1)), (3, .int 0), (2, .int 0), (0, .ref (base + 14)), (1, .ref (tx.1 0))]) hx hb dX10_whichWord_138 hl (k := 1) rfl (by decide) (by decide) rfl (fun ls hl => ?_)
  refine lv_goto (tgt := 57) hx hb dX10_whichWord_141 (by decide) ?_
  refine lv_iload hx hb dX10_whichWord_57 (lv_at hl 0 rfl) ?_
  refine lv_aload_n hx hb dX10_whichWord_59 rfl (lv_at hl 6 rfl) ?_
  refine md_goi hG (md_runT (As := []) (rest := [.int 4]) hx hb hml hown hW hK hT hG (c_length l D cy tx base Z K N (u2 M 14 4 0) R J 0 (by decide)) s_X10_38 ⟨rfl, rfl, ⟨Nat.le_of_ble_eq_true rfl, Nat.le_of_ble_eq_true rfl⟩, ⟨Nat.le_of_ble_eq_true rfl, Nat.le_of_ble_eq_true rfl⟩⟩ (by decide) rfl hl.1 rfl (Nat.le_of_ble_eq_true rfl) dX10_whichWord_60) (fun r u H locs hp hG => ?_)
  obtain ⟨hr9, rfl⟩ := hp
  have hG : md_G D cy base Z K N (u2 M 14 4 0) R J s H locs := hG
  refine md_top (y := 26) (hr9.trans (by decide)) ?_
  clear hr9
  refine lv_icmp_ge (tgt := 144) hx hb dX10_whichWord_63 (by decide) (fun h => absurd h (by decide)) (fun _ => ?_)
  refine lv_aload_n hx hb dX10_whichWord_66 rfl (lv_at hl 6 rfl) ?_
  refine lv_iload hx hb dX10_whichWord_67 (lv_at hl 0 rfl) ?_
  refine md_goi hG (md_runT (As := [.int 4]) (rest := []) hx hb hml hown hW hK hT hG (c_charAt l D cy tx base Z K N (u2 M 14 4 0) R J 0 (by decide) 4 (md_inD (by decide)) (by decide)) s_X10_42 ⟨rfl, rfl, ⟨Nat.le_of_ble_eq_true rfl, Nat.le_of_ble_eq_true rfl⟩, ⟨Nat.le_of_ble_eq_true rfl, Nat.le_of_ble_eq_true rfl⟩⟩ (by decide) rfl hl.1 rfl (Nat.le_of_ble_eq_true rfl) dX10_whichWord_69) (fun r u H locs hp hG => ?_)
  obtain ⟨hr9, rfl⟩ := hp
  have hG : md_G D cy base Z K N (u2 M 14 4 0) R J s H locs := hG
  refine md_top (y := 101) (hr9.trans (by decide)) ?_
  clear hr9
  refine lv_istore (lv' := [(6, .int 101), (5, .int 4), (4, .int (-1)), (3, .int 0), (2, .int 0), (0, .ref (base + 14)), (1, .ref (tx.1 0))]) hx hb dX10_whichWord_72 hl (by decide) rfl (fun ls hl => ?_)
  refine lv_iload hx hb dX10_whichWord_74 (lv_at hl 0 rfl) ?_
  refine lv_bipush (v := 32) hx hb dX10_whichWord_76 (by decide) ?_
  refine lv_icmp_ne (tgt := 101) hx hb dX10_whichWord_78 (by decide) (fun _ => ?_) (fun h => absurd h (by decide))
  refine lv_iload hx hb dX10_whichWord_101 (lv_at hl 2 rfl) ?_
  refine lv_aload_n hx hb dX10_whichWord_103 rfl (lv_at hl 5 rfl) ?_
  refine md_geti hx hb hW hown hK hG f_X10_25_2 (Nat.lt_of_lt_of_le (by decide) hZ) hK14 (v := 0) hM14_2 dX10_whichWord_104 ?_
  refine lv_icmp_lt (tgt := 138) hx hb dX10_whichWord_107 (by decide) (fun _ => ?_) (fun h => absurd h (by decide))
  refine lv_iinc (v := 5) (lv' := [(5, .int 5), (6, .int 101), (4, .int (-1)), (3, .int 0), (2, .int 0), (0, .ref (base + 14)), (1, .ref (tx.1 0))]) hx hb dX10_whichWord_138 hl (k := 1) rfl (by decide) (by decide) rfl (fun ls hl => ?_)
  refine lv_goto (tgt := 57) hx hb dX10_whichWord_141 (by decide) ?_
  refine lv_iload hx hb dX10_whichWord_57 (lv_at hl 0 rfl) ?_
  refine lv_aload_n hx hb dX10_whichWord_59 rfl (lv_at hl 6 rfl) ?_
  refine md_goi hG (md_runT (As := []) (rest := [.int 5]) hx hb hml hown hW hK hT hG (c_length l D cy tx base Z K N (u2 M 14 4 0) R J 0 (by decide)) s_X10_38 ⟨rfl, rfl, ⟨Nat.le_of_ble_eq_true rfl, Nat.le_of_ble_eq_true rfl⟩, ⟨Nat.le_of_ble_eq_true rfl, Nat.le_of_ble_eq_true rfl⟩⟩ (by decide) rfl hl.1 rfl (Nat.le_of_ble_eq_true rfl) dX10_whichWord_60) (fun r u H locs hp hG => ?_)
  obtain ⟨hr9, rfl⟩ := hp
  have hG : md_G D cy base Z K N (u2 M 14 4 0) R J s H locs := hG
  refine md_top (y := 26) (hr9.trans (by decide)) ?_
  clear hr9
  refine lv_icmp_ge (tgt := 144) hx hb dX10_whichWord_63 (by decide) (fun h => absurd h (by decide)) (fun _ => ?_)
  refine lv_aload_n hx hb dX10_whichWord_66 rfl (lv_at hl 6 rfl) ?_
  refine lv_iload hx hb dX10_whichWord_67 (lv_at hl 0 rfl) ?_
  refine md_goi hG (md_runT (As := [.int 5]) (rest := []) hx hb hml hown hW hK hT hG (c_charAt l D cy tx base Z K N (u2 M 14 4 0) R J 0 (by decide) 5 (md_inD (by decide)) (by decide)) s_X10_42 ⟨rfl, rfl, ⟨Nat.le_of_ble_eq_true rfl, Nat.le_of_ble_eq_true rfl⟩, ⟨Nat.le_of_ble_eq_true rfl, Nat.le_of_ble_eq_true rfl⟩⟩ (by decide) rfl hl.1 rfl (Nat.le_of_ble_eq_true rfl) dX10_whichWord_69) (fun r u H locs hp hG => ?_)
  obtain ⟨hr9, rfl⟩ := hp
  have hG : md_G D cy base Z K N (u2 M 14 4 0) R J s H locs := hG
  refine md_top (y := 114) (hr9.trans (by decide)) ?_
  clear hr9
  refine lv_istore (lv' := [(6, .int 114), (5, .int 5), (4, .int (-1)), (3, .int 0), (2, .int 0), (0, .ref (base + 14)), (1, .ref (tx.1 0))]) hx hb dX10_whichWord_72 hl (by decide) rfl (fun ls hl => ?_)
  refine lv_iload hx hb dX10_whichWord_74 (lv_at hl 0 rfl) ?_
  refine lv_bipush (v := 32) hx hb dX10_whichWord_76 (by decide) ?_
  refine lv_icmp_ne (tgt := 101) hx hb dX10_whichWord_78 (by decide) (fun _ => ?_) (fun h => absurd h (by decide))
  refine lv_iload hx hb dX10_whichWord_101 (lv_at hl 2 rfl) ?_
  refine lv_aload_n hx hb dX10_whichWord_103 rfl (lv_at hl 5 rfl) ?_
  refine md_geti hx hb hW hown hK hG f_X10_25_2 (Nat.lt_of_lt_of_le (by decide) hZ) hK14 (v := 0) hM14_2 dX10_whichWord_104 ?_
  refine lv_icmp_lt (tgt := 138) hx hb dX10_whichWord_107 (by decide) (fun _ => ?_) (fun h => absurd h (by decide))
  refine lv_iinc (v := 6) (lv' := [(5, .int 6), (6, .int 114), (4, .int (-1)), (3, .int 0), (2, .int 0), (0, .ref (base + 14)), (1, .ref (tx.1 0))]) hx hb dX10_whichWord_138 hl (k := 1) rfl (by decide) (by decide) rfl (fun ls hl => ?_)
  refine lv_goto (tgt := 57) hx hb dX10_whichWord_141 (by decide) ?_
  refine lv_iload hx hb dX10_whichWord_57 (lv_at hl 0 rfl) ?_
  refine lv_aload_n hx hb dX10_whichWord_59 rfl (lv_at hl 6 rfl) ?_
  refine md_goi hG (md_runT (As := []) (rest := [.int 6]) hx hb hml hown hW hK hT hG (c_length l D cy tx base Z K N (u2 M 14 4 0) R J 0 (by decide)) s_X10_38 ⟨rfl, rfl, ⟨Nat.le_of_ble_eq_true rfl, Nat.le_of_ble_eq_true rfl⟩, ⟨Nat.le_of_ble_eq_true rfl, Nat.le_of_ble_eq_true rfl⟩⟩ (by decide) rfl hl.1 rfl (Nat.le_of_ble_eq_true rfl) dX10_whichWord_60) (fun r u H locs hp hG => ?_)
  obtain ⟨hr9, rfl⟩ := hp
  have hG : md_G D cy base Z K N (u2 M 14 4 0) R J s H locs := hG
  refine md_top (y := 26) (hr9.trans (by decide)) ?_
  clear hr9
  refine lv_icmp_ge (tgt := 144) hx hb dX10_whichWord_63 (by decide) (fun h => absurd h (by decide)) (fun _ => ?_)
  refine lv_aload_n hx hb dX10_whichWord_66 rfl (lv_at hl 6 rfl) ?_
  refine lv_iload hx hb dX10_whichWord_67 (lv_at hl 0 rfl) ?_
  refine md_goi hG (md_runT (As := [.int 6]) (rest := []) hx hb hml hown hW hK hT hG (c_charAt l D cy tx base Z K N (u2 M 14 4 0) R J 0 (by decide) 6 (md_inD (by decide)) (by decide)) s_X10_42 ⟨rfl, rfl, ⟨Nat.le_of_ble_eq_true rfl, Nat.le_of_ble_eq_true rfl⟩, ⟨Nat.le_of_ble_eq_true rfl, Nat.le_of_ble_eq_true rfl⟩⟩ (by decide) rfl hl.1 rfl (Nat.le_of_ble_eq_true rfl) dX10_whichWord_69) (fun r u H locs hp hG => ?_)
  obtain ⟨hr9, rfl⟩ := hp
  have hG : md_G D cy base Z K N (u2 M 14 4 0) R J s H locs := hG
  refine md_top (y := 115) (hr9.trans (by decide)) ?_
  clear hr9
  refine lv_istore (lv' := [(6, .int 115), (5, .int 6), (4, .int (-1)), (3, .int 0), (2, .int 0), (0, .ref (base + 14)), (1, .ref (tx.1 0))]) hx hb dX10_whichWord_72 hl (by decide) rfl (fun ls hl => ?_)
  refine lv_iload hx hb dX10_whichWord_74 (lv_at hl 0 rfl) ?_
  refine lv_bipush (v := 32) hx hb dX10_whichWord_76 (by decide) ?_
  refine lv_icmp_ne (tgt := 101) hx hb dX10_whichWord_78 (by decide) (fun _ => ?_) (fun h => absurd h (by decide))
  refine lv_iload hx hb dX10_whichWord_101 (lv_at hl 2 rfl) ?_
  refine lv_aload_n hx hb dX10_whichWord_103 rfl (lv_at hl 5 rfl) ?_
  refine md_geti hx hb hW hown hK hG f_X10_25_2 (Nat.lt_of_lt_of_le (by decide) hZ) hK14 (v := 0) hM14_2 dX10_whichWord_104 ?_
  refine lv_icmp_lt (tgt := 138) hx hb dX10_whichWord_107 (by decide) (fun _ => ?_) (fun h => absurd h (by decide))
  refine lv_iinc (v := 7) (lv' := [(5, .int 7), (6, .int 115), (4, .int (-1)), (3, .int 0), (2, .int 0), (0, .ref (base + 14)), (1, .ref (tx.1 0))]) hx hb dX10_whichWord_138 hl (k := 1) rfl (by decide) (by decide) rfl (fun ls hl => ?_)
  refine lv_goto (tgt := 57) hx hb dX10_whichWord_141 (by decide) ?_
  refine lv_iload hx hb dX10_whichWord_57 (lv_at hl 0 rfl) ?_
  refine lv_aload_n hx hb dX10_whichWord_59 rfl (lv_at hl 6 rfl) ?_
  refine md_goi hG (md_runT (As := []) (rest := [.int 7]) hx hb hml hown hW hK hT hG (c_length l D cy tx base Z K N (u2 M 14 4 0) R J 0 (by decide)) s_X10_38 ⟨rfl, rfl, ⟨Nat.le_of_ble_eq_true rfl, Nat.le_of_ble_eq_true rfl⟩, ⟨Nat.le_of_ble_eq_true rfl, Nat.le_of_ble_eq_true rfl⟩⟩ (by decide) rfl hl.1 rfl (Nat.le_of_ble_eq_true rfl) dX10_whichWord_60) (fun r u H locs hp hG => ?_)
  obtain ⟨hr9, rfl⟩ := hp
  have hG : md_G D cy base Z K N (u2 M 14 4 0) R J s H locs := hG
  refine md_top (y := 26) (hr9.trans (by decide)) ?_
  clear hr9
  refine lv_icmp_ge (tgt := 144) hx hb dX10_whichWord_63 (by decide) (fun h => absurd h (by decide)) (fun _ => ?_)
  refine lv_aload_n hx hb dX10_whichWord_66 rfl (lv_at hl 6 rfl) ?_
  refine lv_iload hx hb dX10_whichWord_67 (lv_at hl 0 rfl) ?_
  refine md_goi hG (md_runT (As := [.int 7]) (rest := []) hx hb hml hown hW hK hT hG (c_charAt l D cy tx base Z K N (u2 M 14 4 0) R J 0 (by decide) 7 (md_inD (by decide)) (by decide)) s_X10_42 ⟨rfl, rfl, ⟨Nat.le_of_ble_eq_true rfl, Nat.le_of_ble_eq_true rfl⟩, ⟨Nat.le_of_ble_eq_true rfl, Nat.le_of_ble_eq_true rfl⟩⟩ (by decide) rfl hl.1 rfl (Nat.le_of_ble_eq_true rfl) dX10_whichWord_69) (fun r u H locs hp hG => ?_)
  obtain ⟨hr9, rfl⟩ := hp
  have hG : md_G D cy base Z K N (u2 M 14 4 0) R J s H locs := hG
  refine md_top (y := 32) (hr9.trans (by decide)) ?_
  clear hr9
  refine lv_istore (lv' := [(6, .int 32), (5, .int 7), (4, .int (-1)), (3, .int 0), (2, .int 0), (0, .ref (base + 14)), (1, .ref (tx.1 0))]) hx hb dX10_whichWord_72 hl (by decide) rfl (fun ls hl => ?_)
  refine lv_iload hx hb dX10_whichWord_74 (lv_at hl 0 rfl) ?_
  refine lv_bipush (v := 32) hx hb dX10_whichWord_76 (by decide) ?_
  refine lv_icmp_ne (tgt := 101) hx hb dX10_whichWord_78 (by decide) (fun h => absurd h (by decide)) (fun _ => ?_)
  refine lv_iload hx hb dX10_whichWord_81 (lv_at hl 2 rfl) ?_
  refine lv_iload_n hx hb dX10_whichWord_83 rfl (lv_at hl 4 rfl) ?_
  refine lv_icmp_ne (tgt := 89) hx hb dX10_whichWord_84 (by decide) (fun _ => ?_) (fun h => absurd h (by decide))
  refine lv_iinc (v := 1) (lv' := [(3, .int 1), (6, .int 32), (5, .int 7), (4, .int (-1)), (2, .int 0), (0, .ref (base + 14)), (1, .ref (tx.1 0))]) hx hb dX10_whichWord_89 hl (k := 3) rfl (by decide) (by decide) rfl (fun ls hl => ?_)
  refine lv_aload_n hx hb dX10_whichWord_92 rfl (lv_at hl 5 rfl) ?_
  refine md_geti hx hb hW hown hK hG f_X10_25_2 (Nat.lt_of_lt_of_le (by decide) hZ) hK14 (v := 0) hM14_2 dX10_whichWord_93 ?_
  refine lv_istore (lv' := [(4, .int 0), (3, .int 1), (6, .int 32), (5, .int 7), (2, .int 0), (0, .ref (base + 14)), (1, .ref (tx.1 0))]) hx hb dX10_whichWord_96 hl (by decide) rfl (fun ls hl => ?_)
  refine lv_goto (tgt := 138) hx hb dX10_whichWord_98 (by decide) ?_
  refine lv_iinc (v := 8) (lv' := [(5, .int 8), (4, .int 0), (3, .int 1), (6, .int 32), (2, .int 0), (0, .ref (base + 14)), (1, .ref (tx.1 0))]) hx hb dX10_whichWord_138 hl (k := 3) rfl (by decide) (by decide) rfl (fun ls hl => ?_)
  refine lv_goto (tgt := 57) hx hb dX10_whichWord_141 (by decide) ?_
  refine lv_iload hx hb dX10_whichWord_57 (lv_at hl 0 rfl) ?_
  refine lv_aload_n hx hb dX10_whichWord_59 rfl (lv_at hl 6 rfl) ?_
  refine md_goi hG (md_runT (As := []) (rest := [.int 8]) hx hb hml hown hW hK hT hG (c_length l D cy tx base Z K N (u2 M 14 4 0) R J 0 (by decide)) s_X10_38 ⟨rfl, rfl, ⟨Nat.le_of_ble_eq_true rfl, Nat.le_of_ble_eq_true rfl⟩, ⟨Nat.le_of_ble_eq_true rfl, Nat.le_of_ble_eq_true rfl⟩⟩ (by decide) rfl hl.1 rfl (Nat.le_of_ble_eq_true rfl) dX10_whichWord_60) (fun r u H locs hp hG => ?_)
  obtain ⟨hr9, rfl⟩ := hp
  have hG : md_G D cy base Z K N (u2 M 14 4 0) R J s H locs := hG
  refine md_top (y := 26) (hr9.trans (by decide)) ?_
  clear hr9
  refine lv_icmp_ge (tgt := 144) hx hb dX10_whichWord_63 (by decide) (fun h => absurd h (by decide)) (fun _ => ?_)
  refine lv_aload_n hx hb dX10_whichWord_66 rfl (lv_at hl 6 rfl) ?_
  refine lv_iload hx hb dX10_whichWord_67 (lv_at hl 0 rfl) ?_
  refine md_goi hG (md_runT (As := [.int 8]) (rest := []) hx hb hml hown hW hK hT hG (c_charAt l D cy tx base Z K N (u2 M 14 4 0) R J 0 (by decide) 8 (md_inD (by decide)) (by decide)) s_X10_42 ⟨rfl, rfl, ⟨Nat.le_of_ble_eq_true rfl, Nat.le_of_ble_eq_true rfl⟩, ⟨Nat.le_of_ble_eq_true rfl, Nat.le_of_ble_eq_true rfl⟩⟩ (by decide) rfl hl.1 rfl (Nat.le_of_ble_eq_true rfl) dX10_whichWord_69) (fun r u H locs hp hG => ?_)
  obtain ⟨hr9, rfl⟩ := hp
  have hG : md_G D cy base Z K N (u2 M 14 4 0) R J s H locs := hG
  refine md_top (y := 112) (hr9.trans (by decide)) ?_
  clear hr9
  refine lv_istore (lv' := [(6, .int 112), (5, .int 8), (4, .int 0), (3, .int 1), (2, .int 0), (0, .ref (base + 14)), (1, .ref (tx.1 0))]) hx hb dX10_whichWord_72 hl (by decide) rfl (fun ls hl => ?_)
  refine lv_iload hx hb dX10_whichWord_74 (lv_at hl 0 rfl) ?_
  refine lv_bipush (v := 32) hx hb dX10_whichWord_76 (by decide) ?_
  refine lv_icmp_ne (tgt := 101) hx hb dX10_whichWord_78 (by decide) (fun _ => ?_) (fun h => absurd h (by decide))
  refine lv_iload hx hb dX10_whichWord_101 (lv_at hl 2 rfl) ?_
  refine lv_aload_n hx hb dX10_whichWord_103 rfl (lv_at hl 5 rfl) ?_
  refine md_geti hx hb hW hown hK hG f_X10_25_2 (Nat.lt_of_lt_of_le (by decide) hZ) hK14 (v := 0) hM14_2 dX10_whichWord_104 ?_
  refine lv_icmp_lt (tgt := 138) hx hb dX10_whichWord_107 (by decide) (fun h => absurd h (by decide)) (fun _ => ?_)
  refine lv_iload hx hb dX10_whichWord_110 (lv_at hl 2 rfl) ?_
  refine lv_iload_n hx hb dX10_whichWord_112 rfl (lv_at hl 4 rfl) ?_
  refine lv_icmp_ge (tgt := 135) hx hb dX10_whichWord_113 (by decide) (fun _ => ?_) (fun h => absurd h (by decide))
  refine lv_iconst (v := (-1)) hx hb dX10_whichWord_135 (by decide) ?_
  refine lv_istore (lv' := [(4, .int (-1)), (6, .int 112), (5, .int 8), (3, .int 1), (2, .int 0), (0, .ref (base + 14)), (1, .ref (tx.1 0))]) hx hb dX10_whichWord_136 hl (by decide) rfl (fun ls hl => ?_)
  refine lv_iinc (v := 9) (lv' := [(5, .int 9), (4, .int (-1)), (6, .int 112), (3, .int 1), (2, .int 0), (0, .ref (base + 14)), (1, .ref (tx.1 0))]) hx hb dX10_whichWord_138 hl (k := 2) rfl (by decide) (by decide) rfl (fun ls hl => ?_)
  refine lv_goto (tgt := 57) hx hb dX10_whichWord_141 (by decide) ?_
  refine lv_iload hx hb dX10_whichWord_57 (lv_at hl 0 rfl) ?_
  refine lv_aload_n hx hb dX10_whichWord_59 rfl (lv_at hl 6 rfl) ?_
  refine md_goi hG (md_runT (As := []) (rest := [.int 9]) hx hb hml hown hW hK hT hG (c_length l D cy tx base Z K N (u2 M 14 4 0) R J 0 (by decide)) s_X10_38 ⟨rfl, rfl, ⟨Nat.le_of_ble_eq_true rfl, Nat.le_of_ble_eq_true rfl⟩, ⟨Nat.le_of_ble_eq_true rfl, Nat.le_of_ble_eq_true rfl⟩⟩ (by decide) rfl hl.1 rfl (Nat.le_of_ble_eq_true rfl) dX10_whichWord_60) (fun r u H locs hp hG => ?_)
  obtain ⟨hr9, rfl⟩ := hp
  have hG : md_G D cy base Z K N (u2 M 14 4 0) R J s H locs := hG
  refine md_top (y := 26) (hr9.trans (by decide)) ?_
  clear hr9
  refine lv_icmp_ge (tgt := 144) hx hb dX10_whichWord_63 (by decide) (fun h => absurd h (by decide)) (fun _ => ?_)
  refine lv_aload_n hx hb dX10_whichWord_66 rfl (lv_at hl 6 rfl) ?_
  refine lv_iload hx hb dX10_whichWord_67 (lv_at hl 0 rfl) ?_
  refine md_goi hG (md_runT (As := [.int 9]) (rest := []) hx hb hml hown hW hK hT hG (c_charAt l D cy tx base Z K N (u2 M 14 4 0) R J 0 (by decide) 9 (md_inD (by decide)) (by decide)) s_X10_42 ⟨rfl, rfl, ⟨Nat.le_of_ble_eq_true rfl, Nat.le_of_ble_eq_true rfl⟩, ⟨Nat.le_of_ble_eq_true rfl, Nat.le_of_ble_eq_true rfl⟩⟩ (by decide) rfl hl.1 rfl (Nat.le_of_ble_eq_true rfl) dX10_whichWord_69) (fun r u H locs hp hG => ?_)
  obtain ⟨hr9, rfl⟩ := hp
  have hG : md_G D cy base Z K N (u2 M 14 4 0) R J s H locs := hG
  refine md_top (y := 111) (hr9.trans (by decide)) ?_
  clear hr9
  refine lv_istore (lv' := [(6, .int 111), (5, .int 9), (4, .int (-1)), (3, .int 1), (2, .int 0), (0, .ref (base + 14)), (1, .ref (tx.1 0))]) hx hb dX10_whichWord_72 hl (by decide) rfl (fun ls hl => ?_)
  refine lv_iload hx hb dX10_whichWord_74 (lv_at hl 0 rfl) ?_
  refine lv_bipush (v := 32) hx hb dX10_whichWord_76 (by decide) ?_
  refine lv_icmp_ne (tgt := 101) hx hb dX10_whichWord_78 (by decide) (fun _ => ?_) (fun h => absurd h (by decide))
  refine lv_iload hx hb dX10_whichWord_101 (lv_at hl 2 rfl) ?_
  refine lv_aload_n hx hb dX10_whichWord_103 rfl (lv_at hl 5 rfl) ?_
  refine md_geti hx hb hW hown hK hG f_X10_25_2 (Nat.lt_of_lt_of_le (by decide) hZ) hK14 (v := 0) hM14_2 dX10_whichWord_104 ?_
  refine lv_icmp_lt (tgt := 138) hx hb dX10_whichWord_107 (by decide) (fun _ => ?_) (fun h => absurd h (by decide))
  refine lv_iinc (v := 10) (lv' := [(5, .int 10), (6, .int 111), (4, .int (-1)), (3, .int 1), (2, .int 0), (0, .ref (base + 14)), (1, .ref (tx.1 0))]) hx hb dX10_whichWord_138 hl (k := 1) rfl (by decide) (by decide) rfl (fun ls hl => ?_)
  refine lv_goto (tgt := 57) hx hb dX10_whichWord_141 (by decide) ?_
  refine lv_iload hx hb dX10_whichWord_57 (lv_at hl 0 rfl) ?_
  refine lv_aload_n hx hb dX10_whichWord_59 rfl (lv_at hl 6 rfl) ?_
  refine md_goi hG (md_runT (As := []) (rest := [.int 10]) hx hb hml hown hW hK hT hG (c_length l D cy tx base Z K N (u2 M 14 4 0) R J 0 (by decide)) s_X10_38 ⟨rfl, rfl, ⟨Nat.le_of_ble_eq_true rfl, Nat.le_of_ble_eq_true rfl⟩, ⟨Nat.le_of_ble_eq_true rfl, Nat.le_of_ble_eq_true rfl⟩⟩ (by decide) rfl hl.1 rfl (Nat.le_of_ble_eq_true rfl) dX10_whichWord_60) (fun r u H locs hp hG => ?_)
  obtain ⟨hr9, rfl⟩ := hp
  have hG : md_G D cy base Z K N (u2 M 14 4 0) R J s H locs := hG
  refine md_top (y := 26) (hr9.trans (by decide)) ?_
  clear hr9
  refine lv_icmp_ge (tgt := 144) hx hb dX10_whichWord_63 (by decide) (fun h => absurd h (by decide)) (fun _ => ?_)
  refine lv_aload_n hx hb dX10_whichWord_66 rfl (lv_at hl 6 rfl) ?_
  refine lv_iload hx hb dX10_whichWord_67 (lv_at hl 0 rfl) ?_
  refine md_goi hG (md_runT (As := [.int 10]) (rest := []) hx hb hml hown hW hK hT hG (c_charAt l D cy tx base Z K N (u2 M 14 4 0) R J 0 (by decide) 10 (md_inD (by decide)) (by decide)) s_X10_42 ⟨rfl, rfl, ⟨Nat.le_of_ble_eq_true rfl, Nat.le_of_ble_eq_true rfl⟩, ⟨Nat.le_of_ble_eq_true rfl, Nat.le_of_ble_eq_true rfl⟩⟩ (by decide) rfl hl.1 rfl (Nat.le_of_ble_eq_true rfl) dX10_whichWord_69) (fun r u H locs hp hG => ?_)
  obtain ⟨hr9, rfl⟩ := hp
  have hG : md_G D cy base Z K N (u2 M 14 4 0) R J s H locs := hG
  refine md_top (y := 105) (hr9.trans (by decide)) ?_
  clear hr9
  refine lv_istore (lv' := [(6, .int 105), (5, .int 10), (4, .int (-1)), (3, .int 1), (2, .int 0), (0, .ref (base + 14)), (1, .ref (tx.1 0))]) hx hb dX10_whichWord_72 hl (by decide) rfl (fun ls hl => ?_)
  refine lv_iload hx hb dX10_whichWord_74 (lv_at hl 0 rfl) ?_
  refine lv_bipush (v := 32) hx hb dX10_whichWord_76 (by decide) ?_
  refine lv_icmp_ne (tgt := 101) hx hb dX10_whichWord_78 (by decide) (fun _ => ?_) (fun h => absurd h (by decide))
  refine lv_iload hx hb dX10_whichWord_101 (lv_at hl 2 rfl) ?_
  refine lv_aload_n hx hb dX10_whichWord_103 rfl (lv_at hl 5 rfl) ?_
  refine md_geti hx hb hW hown hK hG f_X10_25_2 (Nat.lt_of_lt_of_le (by decide) hZ) hK14 (v := 0) hM14_2 dX10_whichWord_104 ?_
  refine lv_icmp_lt (tgt := 138) hx hb dX10_whichWord_107 (by decide) (fun _ => ?_) (fun h => absurd h (by decide))
  refine lv_iinc (v := 11) (lv' := [(5, .int 11), (6, .int 105), (4, .int (-1)), (3, .int 1), (2, .int 0), (0, .ref (base + 14)), (1, .ref (tx.1 0))]) hx hb dX10_whichWord_138 hl (k := 1) rfl (by decide) (by decide) rfl (fun ls hl => ?_)
  refine lv_goto (tgt := 57) hx hb dX10_whichWord_141 (by decide) ?_
  refine lv_iload hx hb dX10_whichWord_57 (lv_at hl 0 rfl) ?_
  refine lv_aload_n hx hb dX10_whichWord_59 rfl (lv_at hl 6 rfl) ?_
  refine md_goi hG (md_runT (As := []) (rest := [.int 11]) hx hb hml hown hW hK hT hG (c_length l D cy tx base Z K N (u2 M 14 4 0) R J 0 (by decide)) s_X10_38 ⟨rfl, rfl, ⟨Nat.le_of_ble_eq_true rfl, Nat.le_of_ble_eq_true rfl⟩, ⟨Nat.le_of_ble_eq_true rfl, Nat.le_of_ble_eq_true rfl⟩⟩ (by decide) rfl hl.1 rfl (Nat.le_of_ble_eq_true rfl) dX10_whichWord_60) (fun r u H locs hp hG => ?_)
  obtain ⟨hr9, rfl⟩ := hp
  have hG : md_G D cy base Z K N (u2 M 14 4 0) R J s H locs := hG
  refine md_top (y := 26) (hr9.trans (by decide)) ?_
  clear hr9
  refine lv_icmp_ge (tgt := 144) hx hb dX10_whichWord_63 (by decide) (fun h => absurd h (by decide)) (fun _ => ?_)
  refine lv_aload_n hx hb dX10_whichWord_66 rfl (lv_at hl 6 rfl) ?_
  refine lv_iload hx hb dX10_whichWord_67 (lv_at hl 0 rfl) ?_
  refine md_goi hG (md_runT (As := [.int 11]) (rest := []) hx hb hml hown hW hK hT hG (c_charAt l D cy tx base Z K N (u2 M 14 4 0) R J 0 (by decide) 11 (md_inD (by decide)) (by decide)) s_X10_42 ⟨rfl, rfl, ⟨Nat.le_of_ble_eq_true rfl, Nat.le_of_ble_eq_true rfl⟩, ⟨Nat.le_of_ble_eq_true rfl, Nat.le_of_ble_eq_true rfl⟩⟩ (by decide) rfl hl.1 rfl (Nat.le_of_ble_eq_true rfl) dX10_whichWord_69) (fun r u H locs hp hG => ?_)
  obtain ⟨hr9, rfl⟩ := hp
  have hG : md_G D cy base Z K N (u2 M 14 4 0) R J s H locs := hG
  refine md_top (y := 110) (hr9.trans (by decide)) ?_
  clear hr9
  refine lv_istore (lv' := [(6, .int 110), (5, .int 11), (4, .int (-1)), (3, .int 1), (2, .int 0), (0, .ref (base + 14)), (1, .ref (tx.1 0))]) hx hb dX10_whichWord_72 hl (by decide) rfl (fun ls hl => ?_)
  refine lv_iload hx hb dX10_whichWord_74 (lv_at hl 0 rfl) ?_
  refine lv_bipush (v := 32) hx hb dX10_whichWord_76 (by decide) ?_
  refine lv_icmp_ne (tgt := 101) hx hb dX10_whichWord_78 (by decide) (fun _ => ?_) (fun h => absurd h (by decide))
  refine lv_iload hx hb dX10_whichWord_101 (lv_at hl 2 rfl) ?_
  refine lv_aload_n hx hb dX10_whichWord_103 rfl (lv_at hl 5 rfl) ?_
  refine md_geti hx hb hW hown hK hG f_X10_25_2 (Nat.lt_of_lt_of_le (by decide) hZ) hK14 (v := 0) hM14_2 dX10_whichWord_104 ?_
  refine lv_icmp_lt (tgt := 138) hx hb dX10_whichWord_107 (by decide) (fun _ => ?_) (fun h => absurd h (by decide))
  refine lv_iinc (v := 12) (lv' := [(5, .int 12), (6, .int 110), (4, .int (-1)), (3, .int 1), (2, .int 0), (0, .ref (base + 14)), (1, .ref (tx.1 0))]) hx hb dX10_whichWord_138 hl (k := 1) rfl (by decide) (by decide) rfl (fun ls hl => ?_)
  refine lv_goto (tgt := 57) hx hb dX10_whichWord_141 (by decide) ?_
  refine lv_iload hx hb dX10_whichWord_57 (lv_at hl 0 rfl) ?_
  refine lv_aload_n hx hb dX10_whichWord_59 rfl (lv_at hl 6 rfl) ?_
  refine md_goi hG (md_runT (As := []) (rest := [.int 12]) hx hb hml hown hW hK hT hG (c_length l D cy tx base Z K N (u2 M 14 4 0) R J 0 (by decide)) s_X10_38 ⟨rfl, rfl, ⟨Nat.le_of_ble_eq_true rfl, Nat.le_of_ble_eq_true rfl⟩, ⟨Nat.le_of_ble_eq_true rfl, Nat.le_of_ble_eq_true rfl⟩⟩ (by decide) rfl hl.1 rfl (Nat.le_of_ble_eq_true rfl) dX10_whichWord_60) (fun r u H locs hp hG => ?_)
  obtain ⟨hr9, rfl⟩ := hp
  have hG : md_G D cy base Z K N (u2 M 14 4 0) R J s H locs := hG
  refine md_top (y := 26) (hr9.trans (by decide)) ?_
  clear hr9
  refine lv_icmp_ge (tgt := 144) hx hb dX10_whichWord_63 (by decide) (fun h => absurd h (by decide)) (fun _ => ?_)
  refine lv_aload_n hx hb dX10_whichWord_66 rfl (lv_at hl 6 rfl) ?_
  refine lv_iload hx hb dX10_whichWord_67 (lv_at hl 0 rfl) ?_
  refine md_goi hG (md_runT (As := [.int 12]) (rest := []) hx hb hml hown hW hK hT hG (c_charAt l D cy tx base Z K N (u2 M 14 4 0) R J 0 (by decide) 12 (md_inD (by decide)) (by decide)) s_X10_42 ⟨rfl, rfl, ⟨Nat.le_of_ble_eq_true rfl, Nat.le_of_ble_eq_true rfl⟩, ⟨Nat.le_of_ble_eq_true rfl, Nat.le_of_ble_eq_true rfl⟩⟩ (by decide) rfl hl.1 rfl (Nat.le_of_ble_eq_true rfl) dX10_whichWord_69) (fun r u H locs hp hG => ?_)
  obtain ⟨hr9, rfl⟩ := hp
  have hG : md_G D cy base Z K N (u2 M 14 4 0) R J s H locs := hG
  refine md_top (y := 116) (hr9.trans (by decide)) ?_
  clear hr9
  refine lv_istore (lv' := [(6, .int 116), (5, .int 12), (4, .int (-1)), (3, .int 1), (2, .int 0), (0, .ref (base + 14)), (1, .ref (tx.1 0))]) hx hb dX10_whichWord_72 hl (by decide) rfl (fun ls hl => ?_)
  refine lv_iload hx hb dX10_whichWord_74 (lv_at hl 0 rfl) ?_
  refine lv_bipush (v := 32) hx hb dX10_whichWord_76 (by decide) ?_
  refine lv_icmp_ne (tgt := 101) hx hb dX10_whichWord_78 (by decide) (fun _ => ?_) (fun h => absurd h (by decide))
  refine lv_iload hx hb dX10_whichWord_101 (lv_at hl 2 rfl) ?_
  refine lv_aload_n hx hb dX10_whichWord_103 rfl (lv_at hl 5 rfl) ?_
  refine md_geti hx hb hW hown hK hG f_X10_25_2 (Nat.lt_of_lt_of_le (by decide) hZ) hK14 (v := 0) hM14_2 dX10_whichWord_104 ?_
  refine lv_icmp_lt (tgt := 138) hx hb dX10_whichWord_107 (by decide) (fun _ => ?_) (fun h => absurd h (by decide))
  refine lv_iinc (v := 13) (lv' := [(5, .int 13), (6, .int 116), (4, .int (-1)), (3, .int 1), (2, .int 0), (0, .ref (base + 14)), (1, .ref (tx.1 0))]) hx hb dX10_whichWord_138 hl (k := 1) rfl (by decide) (by decide) rfl (fun ls hl => ?_)
  refine lv_goto (tgt := 57) hx hb dX10_whichWord_141 (by decide) ?_
  refine lv_iload hx hb dX10_whichWord_57 (lv_at hl 0 rfl) ?_
  refine lv_aload_n hx hb dX10_whichWord_59 rfl (lv_at hl 6 rfl) ?_
  refine md_goi hG (md_runT (As := []) (rest := [.int 13]) hx hb hml hown hW hK hT hG (c_length l D cy tx base Z K N (u2 M 14 4 0) R J 0 (by decide)) s_X10_38 ⟨rfl, rfl, ⟨Nat.le_of_ble_eq_true rfl, Nat.le_of_ble_eq_true rfl⟩, ⟨Nat.le_of_ble_eq_true rfl, Nat.le_of_ble_eq_true rfl⟩⟩ (by decide) rfl hl.1 rfl (Nat.le_of_ble_eq_true rfl) dX10_whichWord_60) (fun r u H locs hp hG => ?_)
  obtain ⟨hr9, rfl⟩ := hp
  have hG : md_G D cy base Z K N (u2 M 14 4 0) R J s H locs := hG
  refine md_top (y := 26) (hr9.trans (by decide)) ?_
  clear hr9
  refine lv_icmp_ge (tgt := 144) hx hb dX10_whichWord_63 (by decide) (fun h => absurd h (by decide)) (fun _ => ?_)
  refine lv_aload_n hx hb dX10_whichWord_66 rfl (lv_at hl 6 rfl) ?_
  refine lv_iload hx hb dX10_whichWord_67 (lv_at hl 0 rfl) ?_
  refine md_goi hG (md_runT (As := [.int 13]) (rest := []) hx hb hml hown hW hK hT hG (c_charAt l D cy tx base Z K N (u2 M 14 4 0) R J 0 (by decide) 13 (md_inD (by decide)) (by decide)) s_X10_42 ⟨rfl, rfl, ⟨Nat.le_of_ble_eq_true rfl, Nat.le_of_ble_eq_true rfl⟩, ⟨Nat.le_of_ble_eq_true rfl, Nat.le_of_ble_eq_true rfl⟩⟩ (by decide) rfl hl.1 rfl (Nat.le_of_ble_eq_true rfl) dX10_whichWord_69) (fun r u H locs hp hG => ?_)
  obtain ⟨hr9, rfl⟩ := hp
  have hG : md_G D cy base Z K N (u2 M 14 4 0) R J s H locs := hG
  refine md_top (y := 32) (hr9.trans (by decide)) ?_
  clear hr9
  refine lv_istore (lv' := [(6, .int 32), (5, .int 13), (4, .int (-1)), (3, .int 1), (2, .int 0), (0, .ref (base + 14)), (1, .ref (tx.1 0))]) hx hb dX10_whichWord_72 hl (by decide) rfl (fun ls hl => ?_)
  refine lv_iload hx hb dX10_whichWord_74 (lv_at hl 0 rfl) ?_
  refine lv_bipush (v := 32) hx hb dX10_whichWord_76 (by decide) ?_
  refine lv_icmp_ne (tgt := 101) hx hb dX10_whichWord_78 (by decide) (fun h => absurd h (by decide)) (fun _ => ?_)
  refine lv_iload hx hb dX10_whichWord_81 (lv_at hl 2 rfl) ?_
  refine lv_iload_n hx hb dX10_whichWord_83 rfl (lv_at hl 4 rfl) ?_
  refine lv_icmp_ne (tgt := 89) hx hb dX10_whichWord_84 (by decide) (fun _ => ?_) (fun h => absurd h (by decide))
  refine lv_iinc (v := 2) (lv' := [(3, .int 2), (6, .int 32), (5, .int 13), (4, .int (-1)), (2, .int 0), (0, .ref (base + 14)), (1, .ref (tx.1 0))]) hx hb dX10_whichWord_89 hl (k := 3) rfl (by decide) (by decide) rfl (fun ls hl => ?_)
  refine lv_aload_n hx hb dX10_whichWord_92 rfl (lv_at hl 5 rfl) ?_
  refine md_geti hx hb hW hown hK hG f_X10_25_2 (Nat.lt_of_lt_of_le (by decide) hZ) hK14 (v := 0) hM14_2 dX10_whichWord_93 ?_
  refine lv_istore (lv' := [(4, .int 0), (3, .int 2), (6, .int 32), (5, .int 13), (2, .int 0), (0, .ref (base + 14)), (1, .ref (tx.1 0))]) hx hb dX10_whichWord_96 hl (by decide) rfl (fun ls hl => ?_)
  refine lv_goto (tgt := 138) hx hb dX10_whichWord_98 (by decide) ?_
  refine lv_iinc (v := 14) (lv' := [(5, .int 14), (4, .int 0), (3, .int 2), (6, .int 32), (2, .int 0), (0, .ref (base + 14)), (1, .ref (tx.1 0))]) hx hb dX10_whichWord_138 hl (k := 3) rfl (by decide) (by decide) rfl (fun ls hl => ?_)
  refine lv_goto (tgt := 57) hx hb dX10_whichWord_141 (by decide) ?_
  refine lv_iload hx hb dX10_whichWord_57 (lv_at hl 0 rfl) ?_
  refine lv_aload_n hx hb dX10_whichWord_59 rfl (lv_at hl 6 rfl) ?_
  refine md_goi hG (md_runT (As := []) (rest := [.int 14]) hx hb hml hown hW hK hT hG (c_length l D cy tx base Z K N (u2 M 14 4 0) R J 0 (by decide)) s_X10_38 ⟨rfl, rfl, ⟨Nat.le_of_ble_eq_true rfl, Nat.le_of_ble_eq_true rfl⟩, ⟨Nat.le_of_ble_eq_true rfl, Nat.le_of_ble_eq_true rfl⟩⟩ (by decide) rfl hl.1 rfl (Nat.le_of_ble_eq_true rfl) dX10_whichWord_60) (fun r u H locs hp hG => ?_)
  obtain ⟨hr9, rfl⟩ := hp
  have hG : md_G D cy base Z K N (u2 M 14 4 0) R J s H locs := hG
  refine md_top (y := 26) (hr9.trans (by decide)) ?_
  clear hr9
  refine lv_icmp_ge (tgt := 144) hx hb dX10_whichWord_63 (by decide) (fun h => absurd h (by decide)) (fun _ => ?_)
  refine lv_aload_n hx hb dX10_whichWord_66 rfl (lv_at hl 6 rfl) ?_
  refine lv_iload hx hb dX10_whichWord_67 (lv_at hl 0 rfl) ?_
  refine md_goi hG (md_runT (As := [.int 14]) (rest := []) hx hb hml hown hW hK hT hG (c_charAt l D cy tx base Z K N (u2 M 14 4 0) R J 0 (by decide) 14 (md_inD (by decide)) (by decide)) s_X10_42 ⟨rfl, rfl, ⟨Nat.le_of_ble_eq_true rfl, Nat.le_of_ble_eq_true rfl⟩, ⟨Nat.le_of_ble_eq_true rfl, Nat.le_of_ble_eq_true rfl⟩⟩ (by decide) rfl hl.1 rfl (Nat.le_of_ble_eq_true rfl) dX10_whichWord_69) (fun r u H locs hp hG => ?_)
  obtain ⟨hr9, rfl⟩ := hp
  have hG : md_G D cy base Z K N (u2 M 14 4 0) R J s H locs := hG
  refine md_top (y := 118) (hr9.trans (by decide)) ?_
  clear hr9
  refine lv_istore (lv' := [(6, .int 118), (5, .int 14), (4, .int 0), (3, .int 2), (2, .int 0), (0, .ref (base + 14)), (1, .ref (tx.1 0))]) hx hb dX10_whichWord_72 hl (by decide) rfl (fun ls hl => ?_)
  refine lv_iload hx hb dX10_whichWord_74 (lv_at hl 0 rfl) ?_
  refine lv_bipush (v := 32) hx hb dX10_whichWord_76 (by decide) ?_
  refine lv_icmp_ne (tgt := 101) hx hb dX10_whichWord_78 (by decide) (fun _ => ?_) (fun h => absurd h (by decide))
  refine lv_iload hx hb dX10_whichWord_101 (lv_at hl 2 rfl) ?_
  refine lv_aload_n hx hb dX10_whichWord_103 rfl (lv_at hl 5 rfl) ?_
  refine md_geti hx hb hW hown hK hG f_X10_25_2 (Nat.lt_of_lt_of_le (by decide) hZ) hK14 (v := 0) hM14_2 dX10_whichWord_104 ?_
  refine lv_icmp_lt (tgt := 138) hx hb dX10_whichWord_107 (by decide) (fun h => absurd h (by decide)) (fun _ => ?_)
  refine lv_iload hx hb dX10_whichWord_110 (lv_at hl 2 rfl) ?_
  refine lv_iload_n hx hb dX10_whichWord_112 rfl (lv_at hl 4 rfl) ?_
  refine lv_icmp_ge (tgt := 135) hx hb dX10_whichWord_113 (by decide) (fun _ => ?_) (fun h => absurd h (by decide))
  refine lv_iconst (v := (-1)) hx hb dX10_whichWord_135 (by decide) ?_
  refine lv_istore (lv' := [(4, .int (-1)), (6, .int 118), (5, .int 14), (3, .int 2), (2, .int 0), (0, .ref (base + 14)), (1, .ref (tx.1 0))]) hx hb dX10_whichWord_136 hl (by decide) rfl (fun ls hl => ?_)
  refine lv_iinc (v := 15) (lv' := [(5, .int 15), (4, .int (-1)), (6, .int 118), (3, .int 2), (2, .int 0), (0, .ref (base + 14)), (1, .ref (tx.1 0))]) hx hb dX10_whichWord_138 hl (k := 2) rfl (by decide) (by decide) rfl (fun ls hl => ?_)
  refine lv_goto (tgt := 57) hx hb dX10_whichWord_141 (by decide) ?_
  refine lv_iload hx hb dX10_whichWord_57 (lv_at hl 0 rfl) ?_
  refine lv_aload_n hx hb dX10_whichWord_59 rfl (lv_at hl 6 rfl) ?_
  refine md_goi hG (md_runT (As := []) (rest := [.int 15]) hx hb hml hown hW hK hT hG (c_length l D cy tx base Z K N (u2 M 14 4 0) R J 0 (by decide)) s_X10_38 ⟨rfl, rfl, ⟨Nat.le_of_ble_eq_true rfl, Nat.le_of_ble_eq_true rfl⟩, ⟨Nat.le_of_ble_eq_true rfl, Nat.le_of_ble_eq_true rfl⟩⟩ (by decide) rfl hl.1 rfl (Nat.le_of_ble_eq_true rfl) dX10_whichWord_60) (fun r u H locs hp hG => ?_)
  obtain ⟨hr9, rfl⟩ := hp
  have hG : md_G D cy base Z K N (u2 M 14 4 0) R J s H locs := hG
  refine md_top (y := 26) (hr9.trans (by decide)) ?_
  clear hr9
  refine lv_icmp_ge (tgt := 144) hx hb dX10_whichWord_63 (by decide) (fun h => absurd h (by decide)) (fun _ => ?_)
  refine lv_aload_n hx hb dX10_whichWord_66 rfl (lv_at hl 6 rfl) ?_
  refine lv_iload hx hb dX10_whichWord_67 (lv_at hl 0 rfl) ?_
  refine md_goi hG (md_runT (As := [.int 15]) (rest := []) hx hb hml hown hW hK hT hG (c_charAt l D cy tx base Z K N (u2 M 14 4 0) R J 0 (by decide) 15 (md_inD (by decide)) (by decide)) s_X10_42 ⟨rfl, rfl, ⟨Nat.le_of_ble_eq_true rfl, Nat.le_of_ble_eq_true rfl⟩, ⟨Nat.le_of_ble_eq_true rfl, Nat.le_of_ble_eq_true rfl⟩⟩ (by decide) rfl hl.1 rfl (Nat.le_of_ble_eq_true rfl) dX10_whichWord_69) (fun r u H locs hp hG => ?_)
  obtain ⟨hr9, rfl⟩ := hp
  have hG : md_G D cy base Z K N (u2 M 14 4 0) R J s H locs := hG
  refine md_top (y := 111) (hr9.trans (by decide)) ?_
  clear hr9
  refine lv_istore (lv' := [(6, .int 111), (5, .int 15), (4, .int (-1)), (3, .int 2), (2, .int 0), (0, .ref (base + 14)), (1, .ref (tx.1 0))]) hx hb dX10_whichWord_72 hl (by decide) rfl (fun ls hl => ?_)
  refine lv_iload hx hb dX10_whichWord_74 (lv_at hl 0 rfl) ?_
  refine lv_bipush (v := 32) hx hb dX10_whichWord_76 (by decide) ?_
  refine lv_icmp_ne (tgt := 101) hx hb dX10_whichWord_78 (by decide) (fun _ => ?_) (fun h => absurd h (by decide))
  refine lv_iload hx hb dX10_whichWord_101 (lv_at hl 2 rfl) ?_
  refine lv_aload_n hx hb dX10_whichWord_103 rfl (lv_at hl 5 rfl) ?_
  refine md_geti hx hb hW hown hK hG f_X10_25_2 (Nat.lt_of_lt_of_le (by decide) hZ) hK14 (v := 0) hM14_2 dX10_whichWord_104 ?_
  refine lv_icmp_lt (tgt := 138) hx hb dX10_whichWord_107 (by decide) (fun _ => ?_) (fun h => absurd h (by decide))
  refine lv_iinc (v := 16) (lv' := [(5, .int 16), (6, .int 111), (4, .int (-1)), (3, .int 2), (2, .int 0), (0, .ref (base + 14)), (1, .ref (tx.1 0))]) hx hb dX10_whichWord_138 hl (k := 1) rfl (by decide) (by decide) rfl (fun ls hl => ?_)
  refine lv_goto (tgt := 57) hx hb dX10_whichWord_141 (by decide) ?_
  refine lv_iload hx hb dX10_whichWord_57 (lv_at hl 0 rfl) ?_
  refine lv_aload_n hx hb dX10_whichWord_59 rfl (lv_at hl 6 rfl) ?_
  refine md_goi hG (md_runT (As := []) (rest := [.int 16]) hx hb hml hown hW hK hT hG (c_length l D cy tx base Z K N (u2 M 14 4 0) R J 0 (by decide)) s_X10_38 ⟨rfl, rfl, ⟨Nat.le_of_ble_eq_true rfl, Nat.le_of_ble_eq_true rfl⟩, ⟨Nat.le_of_ble_eq_true rfl, Nat.le_of_ble_eq_true rfl⟩⟩ (by decide) rfl hl.1 rfl (Nat.le_of_ble_eq_true rfl) dX10_whichWord_60) (fun r u H locs hp hG => ?_)
  obtain ⟨hr9, rfl⟩ := hp
  have hG : md_G D cy base Z K N (u2 M 14 4 0) R J s H locs := hG
  refine md_top (y := 26) (hr9.trans (by decide)) ?_
  clear hr9
  refine lv_icmp_ge (tgt := 144) hx hb dX10_whichWord_63 (by decide) (fun h => absurd h (by decide)) (fun _ => ?_)
  refine lv_aload_n hx hb dX10_whichWord_66 rfl (lv_at hl 6 rfl) ?_
  refine lv_iload hx hb dX10_whichWord_67 (lv_at hl 0 rfl) ?_
  refine md_goi hG (md_runT (As := [.int 16]) (rest := []) hx hb hml hown hW hK hT hG (c_charAt l D cy tx base Z K N (u2 M 14 4 0) R J 0 (by decide) 16 (md_inD (by decide)) (by decide)) s_X10_42 ⟨rfl, rfl, ⟨Nat.le_of_ble_eq_true rfl, Nat.le_of_ble_eq_true rfl⟩, ⟨Nat.le_of_ble_eq_true rfl, Nat.le_of_ble_eq_true rfl⟩⟩ (by decide) rfl hl.1 rfl (Nat.le_of_ble_eq_true rfl) dX10_whichWord_69) (fun r u H locs hp hG => ?_)
  obtain ⟨hr9, rfl⟩ := hp
  have hG : md_G D cy base Z K N (u2 M 14 4 0) R J s H locs := hG
  refine md_top (y := 105) (hr9.trans (by decide)) ?_
  clear hr9
  refine lv_istore (lv' := [(6, .int 105), (5, .int 16), (4, .int (-1)), (3, .int 2), (2, .int 0), (0, .ref (base + 14)), (1, .ref (tx.1 0))]) hx hb dX10_whichWord_72 hl (by decide) rfl (fun ls hl => ?_)
  refine lv_iload hx hb dX10_whichWord_74 (lv_at hl 0 rfl) ?_
  refine lv_bipush (v := 32) hx hb dX10_whichWord_76 (by decide) ?_
  refine lv_icmp_ne (tgt := 101) hx hb dX10_whichWord_78 (by decide) (fun _ => ?_) (fun h => absurd h (by decide))
  refine lv_iload hx hb dX10_whichWord_101 (lv_at hl 2 rfl) ?_
  refine lv_aload_n hx hb dX10_whichWord_103 rfl (lv_at hl 5 rfl) ?_
  refine md_geti hx hb hW hown hK hG f_X10_25_2 (Nat.lt_of_lt_of_le (by decide) hZ) hK14 (v := 0) hM14_2 dX10_whichWord_104 ?_
  refine lv_icmp_lt (tgt := 138) hx hb dX10_whichWord_107 (by decide) (fun _ => ?_) (fun h => absurd h (by decide))
  refine lv_iinc (v := 17) (lv' := [(5, .int 17), (6, .int 105), (4, .int (-1)), (3, .int 2), (2, .int 0), (0, .ref (base + 14)), (1, .ref (tx.1 0))]) hx hb dX10_whichWord_138 hl (k := 1) rfl (by decide) (by decide) rfl (fun ls hl => ?_)
  refine lv_goto (tgt := 57) hx hb dX10_whichWord_141 (by decide) ?_
  refine lv_iload hx hb dX10_whichWord_57 (lv_at hl 0 rfl) ?_
  refine lv_aload_n hx hb dX10_whichWord_59 rfl (lv_at hl 6 rfl) ?_
  refine md_goi hG (md_runT (As := []) (rest := [.int 17]) hx hb hml hown hW hK hT hG (c_length l D cy tx base Z K N (u2 M 14 4 0) R J 0 (by decide)) s_X10_38 ⟨rfl, rfl, ⟨Nat.le_of_ble_eq_true rfl, Nat.le_of_ble_eq_true rfl⟩, ⟨Nat.le_of_ble_eq_true rfl, Nat.le_of_ble_eq_true rfl⟩⟩ (by decide) rfl hl.1 rfl (Nat.le_of_ble_eq_true rfl) dX10_whichWord_60) (fun r u H locs hp hG => ?_)
  obtain ⟨hr9, rfl⟩ := hp
  have hG : md_G D cy base Z K N (u2 M 14 4 0) R J s H locs := hG
  refine md_top (y := 26) (hr9.trans (by decide)) ?_
  clear hr9
  refine lv_icmp_ge (tgt := 144) hx hb dX10_whichWord_63 (by decide) (fun h => absurd h (by decide)) (fun _ => ?_)
  refine lv_aload_n hx hb dX10_whichWord_66 rfl (lv_at hl 6 rfl) ?_
  refine lv_iload hx hb dX10_whichWord_67 (lv_at hl 0 rfl) ?_
  refine md_goi hG (md_runT (As := [.int 17]) (rest := []) hx hb hml hown hW hK hT hG (c_charAt l D cy tx base Z K N (u2 M 14 4 0) R J 0 (by decide) 17 (md_inD (by decide)) (by decide)) s_X10_42 ⟨rfl, rfl, ⟨Nat.le_of_ble_eq_true rfl, Nat.le_of_ble_eq_true rfl⟩, ⟨Nat.le_of_ble_eq_true rfl, Nat.le_of_ble_eq_true rfl⟩⟩ (by decide) rfl hl.1 rfl (Nat.le_of_ble_eq_true rfl) dX10_whichWord_69) (fun r u H locs hp hG => ?_)
  obtain ⟨hr9, rfl⟩ := hp
  have hG : md_G D cy base Z K N (u2 M 14 4 0) R J s H locs := hG
  refine md_top (y := 99) (hr9.trans (by decide)) ?_
  clear hr9
  refine lv_istore (lv' := [(6, .int 99), (5, .int 17), (4, .int (-1)), (3, .int 2), (2, .int 0), (0, .ref (base + 14)), (1, .ref (tx.1 0))]) hx hb dX10_whichWord_72 hl (by decide) rfl (fun ls hl => ?_)
  refine lv_iload hx hb dX10_whichWord_74 (lv_at hl 0 rfl) ?_
  refine lv_bipush (v := 32) hx hb dX10_whichWord_76 (by decide) ?_
  refine lv_icmp_ne (tgt := 101) hx hb dX10_whichWord_78 (by decide) (fun _ => ?_) (fun h => absurd h (by decide))
  refine lv_iload hx hb dX10_whichWord_101 (lv_at hl 2 rfl) ?_
  refine lv_aload_n hx hb dX10_whichWord_103 rfl (lv_at hl 5 rfl) ?_
  refine md_geti hx hb hW hown hK hG f_X10_25_2 (Nat.lt_of_lt_of_le (by decide) hZ) hK14 (v := 0) hM14_2 dX10_whichWord_104 ?_
  refine lv_icmp_lt (tgt := 138) hx hb dX10_whichWord_107 (by decide) (fun _ => ?_) (fun h => absurd h (by decide))
  refine lv_iinc (v := 18) (lv' := [(5, .int 18), (6, .int 99), (4, .int (-1)), (3, .int 2), (2, .int 0), (0, .ref (base + 14)), (1, .ref (tx.1 0))]) hx hb dX10_whichWord_138 hl (k := 1) rfl (by decide) (by decide) rfl (fun ls hl => ?_)
  refine lv_goto (tgt := 57) hx hb dX10_whichWord_141 (by decide) ?_
  refine lv_iload hx hb dX10_whichWord_57 (lv_at hl 0 rfl) ?_
  refine lv_aload_n hx hb dX10_whichWord_59 rfl (lv_at hl 6 rfl) ?_
  refine md_goi hG (md_runT (As := []) (rest := [.int 18]) hx hb hml hown hW hK hT hG (c_length l D cy tx base Z K N (u2 M 14 4 0) R J 0 (by decide)) s_X10_38 ⟨rfl, rfl, ⟨Nat.le_of_ble_eq_true rfl, Nat.le_of_ble_eq_true rfl⟩, ⟨Nat.le_of_ble_eq_true rfl, Nat.le_of_ble_eq_true rfl⟩⟩ (by decide) rfl hl.1 rfl (Nat.le_of_ble_eq_true rfl) dX10_whichWord_60) (fun r u H locs hp hG => ?_)
  obtain ⟨hr9, rfl⟩ := hp
  have hG : md_G D cy base Z K N (u2 M 14 4 0) R J s H locs := hG
  refine md_top (y := 26) (hr9.trans (by decide)) ?_
  clear hr9
  refine lv_icmp_ge (tgt := 144) hx hb dX10_whichWord_63 (by decide) (fun h => absurd h (by decide)) (fun _ => ?_)
  refine lv_aload_n hx hb dX10_whichWord_66 rfl (lv_at hl 6 rfl) ?_
  refine lv_iload hx hb dX10_whichWord_67 (lv_at hl 0 rfl) ?_
  refine md_goi hG (md_runT (As := [.int 18]) (rest := []) hx hb hml hown hW hK hT hG (c_charAt l D cy tx base Z K N (u2 M 14 4 0) R J 0 (by decide) 18 (md_inD (by decide)) (by decide)) s_X10_42 ⟨rfl, rfl, ⟨Nat.le_of_ble_eq_true rfl, Nat.le_of_ble_eq_true rfl⟩, ⟨Nat.le_of_ble_eq_true rfl, Nat.le_of_ble_eq_true rfl⟩⟩ (by decide) rfl hl.1 rfl (Nat.le_of_ble_eq_true rfl) dX10_whichWord_69) (fun r u H locs hp hG => ?_)
  obtain ⟨hr9, rfl⟩ := hp
  have hG : md_G D cy base Z K N (u2 M 14 4 0) R J s H locs := hG
  refine md_top (y := 101) (hr9.trans (by decide)) ?_
  clear hr9
  refine lv_istore (lv' := [(6, .int 101), (5, .int 18), (4, .int (-1)), (3, .int 2), (2, .int 0), (0, .ref (base + 14)), (1, .ref (tx.1 0))]) hx hb dX10_whichWord_72 hl (by decide) rfl (fun ls hl => ?_)
  refine lv_iload hx hb dX10_whichWord_74 (lv_at hl 0 rfl) ?_
  refine lv_bipush (v := 32) hx hb dX10_whichWord_76 (by decide) ?_
  refine lv_icmp_ne (tgt := 101) hx hb dX10_whichWord_78 (by decide) (fun _ => ?_) (fun h => absurd h (by decide))
  refine lv_iload hx hb dX10_whichWord_101 (lv_at hl 2 rfl) ?_
  refine lv_aload_n hx hb dX10_whichWord_103 rfl (lv_at hl 5 rfl) ?_
  refine md_geti hx hb hW hown hK hG f_X10_25_2 (Nat.lt_of_lt_of_le (by decide) hZ) hK14 (v := 0) hM14_2 dX10_whichWord_104 ?_
  refine lv_icmp_lt (tgt := 138) hx hb dX10_whichWord_107 (by decide) (fun _ => ?_) (fun h => absurd h (by decide))
  refine lv_iinc (v := 19) (lv' := [(5, .int 19), (6, .int 101), (4, .int (-1)), (3, .int 2), (2, .int 0), (0, .ref (base + 14)), (1, .ref (tx.1 0))]) hx hb dX10_whichWord_138 hl (k := 1) rfl (by decide) (by decide) rfl (fun ls hl => ?_)
  refine lv_goto (tgt := 57) hx hb dX10_whichWord_141 (by decide) ?_
  refine lv_iload hx hb dX10_whichWord_57 (lv_at hl 0 rfl) ?_
  refine lv_aload_n hx hb dX10_whichWord_59 rfl (lv_at hl 6 rfl) ?_
  refine md_goi hG (md_runT (As := []) (rest := [.int 19]) hx hb hml hown hW hK hT hG (c_length l D cy tx base Z K N (u2 M 14 4 0) R J 0 (by decide)) s_X10_38 ⟨rfl, rfl, ⟨Nat.le_of_ble_eq_true rfl, Nat.le_of_ble_eq_true rfl⟩, ⟨Nat.le_of_ble_eq_true rfl, Nat.le_of_ble_eq_true rfl⟩⟩ (by decide) rfl hl.1 rfl (Nat.le_of_ble_eq_true rfl) dX10_whichWord_60) (fun r u H locs hp hG => ?_)
  obtain ⟨hr9, rfl⟩ := hp
  have hG : md_G D cy base Z K N (u2 M 14 4 0) R J s H locs := hG
  refine md_top (y := 26) (hr9.trans (by decide)) ?_
  clear hr9
  refine lv_icmp_ge (tgt := 144) hx hb dX10_whichWord_63 (by decide) (fun h => absurd h (by decide)) (fun _ => ?_)
  refine lv_aload_n hx hb dX10_whichWord_66 rfl (lv_at hl 6 rfl) ?_
  refine lv_iload hx hb dX10_whichWord_67 (lv_at hl 0 rfl) ?_
  refine md_goi hG (md_runT (As := [.int 19]) (rest := []) hx hb hml hown hW hK hT hG (c_charAt l D cy tx base Z K N (u2 M 14 4 0) R J 0 (by decide) 19 (md_inD (by decide)) (by decide)) s_X10_42 ⟨rfl, rfl, ⟨Nat.le_of_ble_eq_true rfl, Nat.le_of_ble_eq_true rfl⟩, ⟨Nat.le_of_ble_eq_true rfl, Nat.le_of_ble_eq_true rfl⟩⟩ (by decide) rfl hl.1 rfl (Nat.le_of_ble_eq_true rfl) dX10_whichWord_69) (fun r u H locs hp hG => ?_)
  obtain ⟨hr9, rfl⟩ := hp
  have hG : md_G D cy base Z K N (u2 M 14 4 0) R J s H locs := hG
  refine md_top (y := 115) (hr9.trans (by decide)) ?_
  clear hr9
  refine lv_istore (lv' := [(6, .int 115), (5, .int 19), (4, .int (-1)), (3, .int 2), (2, .int 0), (0, .ref (base + 14)), (1, .ref (tx.1 0))]) hx hb dX10_whichWord_72 hl (by decide) rfl (fun ls hl => ?_)
  refine lv_iload hx hb dX10_whichWord_74 (lv_at hl 0 rfl) ?_
  refine lv_bipush (v := 32) hx hb dX10_whichWord_76 (by decide) ?_
  refine lv_icmp_ne (tgt := 101) hx hb dX10_whichWord_78 (by decide) (fun _ => ?_) (fun h => absurd h (by decide))
  refine lv_iload hx hb dX10_whichWord_101 (lv_at hl 2 rfl) ?_
  refine lv_aload_n hx hb dX10_whichWord_103 rfl (lv_at hl 5 rfl) ?_
  refine md_geti hx hb hW hown hK hG f_X10_25_2 (Nat.lt_of_lt_of_le (by decide) hZ) hK14 (v := 0) hM14_2 dX10_whichWord_104 ?_
  refine lv_icmp_lt (tgt := 138) hx hb dX10_whichWord_107 (by decide) (fun _ => ?_) (fun h => absurd h (by decide))
  refine lv_iinc (v := 20) (lv' := [(5, .int 20), (6, .int 115), (4, .int (-1)), (3, .int 2), (2, .int 0), (0, .ref (base + 14)), (1, .ref (tx.1 0))]) hx hb dX10_whichWord_138 hl (k := 1) rfl (by decide) (by decide) rfl (fun ls hl => ?_)
  refine lv_goto (tgt := 57) hx hb dX10_whichWord_141 (by decide) ?_
  refine lv_iload hx hb dX10_whichWord_57 (lv_at hl 0 rfl) ?_
  refine lv_aload_n hx hb dX10_whichWord_59 rfl (lv_at hl 6 rfl) ?_
  refine md_goi hG (md_runT (As := []) (rest := [.int 20]) hx hb hml hown hW hK hT hG (c_length l D cy tx base Z K N (u2 M 14 4 0) R J 0 (by decide)) s_X10_38 ⟨rfl, rfl, ⟨Nat.le_of_ble_eq_true rfl, Nat.le_of_ble_eq_true rfl⟩, ⟨Nat.le_of_ble_eq_true rfl, Nat.le_of_ble_eq_true rfl⟩⟩ (by decide) rfl hl.1 rfl (Nat.le_of_ble_eq_true rfl) dX10_whichWord_60) (fun r u H locs hp hG => ?_)
  obtain ⟨hr9, rfl⟩ := hp
  have hG : md_G D cy base Z K N (u2 M 14 4 0) R J s H locs := hG
  refine md_top (y := 26) (hr9.trans (by decide)) ?_
  clear hr9
  refine lv_icmp_ge (tgt := 144) hx hb dX10_whichWord_63 (by decide) (fun h => absurd h (by decide)) (fun _ => ?_)
  refine lv_aload_n hx hb dX10_whichWord_66 rfl (lv_at hl 6 rfl) ?_
  refine lv_iload hx hb dX10_whichWord_67 (lv_at hl 0 rfl) ?_
  refine md_goi hG (md_runT (As := [.int 20]) (rest := []) hx hb hml hown hW hK hT hG (c_charAt l D cy tx base Z K N (u2 M 14 4 0) R J 0 (by decide) 20 (md_inD (by decide)) (by decide)) s_X10_42 ⟨rfl, rfl, ⟨Nat.le_of_ble_eq_true rfl, Nat.le_of_ble_eq_true rfl⟩, ⟨Nat.le_of_ble_eq_true rfl, Nat.le_of_ble_eq_true rfl⟩⟩ (by decide) rfl hl.1 rfl (Nat.le_of_ble_eq_true rfl) dX10_whichWord_69) (fun r u H locs hp hG => ?_)
  obtain ⟨hr9, rfl⟩ := hp
  have hG : md_G D cy base Z K N (u2 M 14 4 0) R J s H locs := hG
  refine md_top (y := 32) (hr9.trans (by decide)) ?_
  clear hr9
  refine lv_istore (lv' := [(6, .int 32), (5, .int 20), (4, .int (-1)), (3, .int 2), (2, .int 0), (0, .ref (base + 14)), (1, .ref (tx.1 0))]) hx hb dX10_whichWord_72 hl (by decide) rfl (fun ls hl => ?_)
  refine lv_iload hx hb dX10_whichWord_74 (lv_at hl 0 rfl) ?_
  refine lv_bipush (v := 32) hx hb dX10_whichWord_76 (by decide) ?_
  refine lv_icmp_ne (tgt := 101) hx hb dX10_whichWord_78 (by decide) (fun h => absurd h (by decide)) (fun _ => ?_)
  refine lv_iload hx hb dX10_whichWord_81 (lv_at hl 2 rfl) ?_
  refine lv_iload_n hx hb dX10_whichWord_83 rfl (lv_at hl 4 rfl) ?_
  refine lv_icmp_ne (tgt := 89) hx hb dX10_whichWord_84 (by decide) (fun _ => ?_) (fun h => absurd h (by decide))
  refine lv_iinc (v := 3) (lv' := [(3, .int 3), (6, .int 32), (5, .int 20), (4, .int (-1)), (2, .int 0), (0, .ref (base + 14)), (1, .ref (tx.1 0))]) hx hb dX10_whichWord_89 hl (k := 3) rfl (by decide) (by decide) rfl (fun ls hl => ?_)
  refine lv_aload_n hx hb dX10_whichWord_92 rfl (lv_at hl 5 rfl) ?_
  refine md_geti hx hb hW hown hK hG f_X10_25_2 (Nat.lt_of_lt_of_le (by decide) hZ) hK14 (v := 0) hM14_2 dX10_whichWord_93 ?_
  refine lv_istore (lv' := [(4, .int 0), (3, .int 3), (6, .int 32), (5, .int 20), (2, .int 0), (0, .ref (base + 14)), (1, .ref (tx.1 0))]) hx hb dX10_whichWord_96 hl (by decide) rfl (fun ls hl => ?_)
  refine lv_goto (tgt := 138) hx hb dX10_whichWord_98 (by decide) ?_
  refine lv_iinc (v := 21) (lv' := [(5, .int 21), (4, .int 0), (3, .int 3), (6, .int 32), (2, .int 0), (0, .ref (base + 14)), (1, .ref (tx.1 0))]) hx hb dX10_whichWord_138 hl (k := 3) rfl (by decide) (by decide) rfl (fun ls hl => ?_)
  refine lv_goto (tgt := 57) hx hb dX10_whichWord_141 (by decide) ?_
  refine lv_iload hx hb dX10_whichWord_57 (lv_at hl 0 rfl) ?_
  refine lv_aload_n hx hb dX10_whichWord_59 rfl (lv_at hl 6 rfl) ?_
  refine md_goi hG (md_runT (As := []) (rest := [.int 21]) hx hb hml hown hW hK hT hG (c_length l D cy tx base Z K N (u2 M 14 4 0) R J 0 (by decide)) s_X10_38 ⟨rfl, rfl, ⟨Nat.le_of_ble_eq_true rfl, Nat.le_of_ble_eq_true rfl⟩, ⟨Nat.le_of_ble_eq_true rfl, Nat.le_of_ble_eq_true rfl⟩⟩ (by decide) rfl hl.1 rfl (Nat.le_of_ble_eq_true rfl) dX10_whichWord_60) (fun r u H locs hp hG => ?_)
  obtain ⟨hr9, rfl⟩ := hp
  have hG : md_G D cy base Z K N (u2 M 14 4 0) R J s H locs := hG
  refine md_top (y := 26) (hr9.trans (by decide)) ?_
  clear hr9
  refine lv_icmp_ge (tgt := 144) hx hb dX10_whichWord_63 (by decide) (fun h => absurd h (by decide)) (fun _ => ?_)
  refine lv_aload_n hx hb dX10_whichWord_66 rfl (lv_at hl 6 rfl) ?_
  refine lv_iload hx hb dX10_whichWord_67 (lv_at hl 0 rfl) ?_
  refine md_goi hG (md_runT (As := [.int 21]) (rest := []) hx hb hml hown hW hK hT hG (c_charAt l D cy tx base Z K N (u2 M 14 4 0) R J 0 (by decide) 21 (md_inD (by decide)) (by decide)) s_X10_42 ⟨rfl, rfl, ⟨Nat.le_of_ble_eq_true rfl, Nat.le_of_ble_eq_true rfl⟩, ⟨Nat.le_of_ble_eq_true rfl, Nat.le_of_ble_eq_true rfl⟩⟩ (by decide) rfl hl.1 rfl (Nat.le_of_ble_eq_true rfl) dX10_whichWord_69) (fun r u H locs hp hG => ?_)
  obtain ⟨hr9, rfl⟩ := hp
  have hG : md_G D cy base Z K N (u2 M 14 4 0) R J s H locs := hG
  refine md_top (y := 98) (hr9.trans (by decide)) ?_
  clear hr9
  refine lv_istore (lv' := [(6, .int 98), (5, .int 21), (4, .int 0), (3, .int 3), (2, .int 0), (0, .ref (base + 14)), (1, .ref (tx.1 0))]) hx hb dX10_whichWord_72 hl (by decide) rfl (fun ls hl => ?_)
  refine lv_iload hx hb dX10_whichWord_74 (lv_at hl 0 rfl) ?_
  refine lv_bipush (v := 32) hx hb dX10_whichWord_76 (by decide) ?_
  refine lv_icmp_ne (tgt := 101) hx hb dX10_whichWord_78 (by decide) (fun _ => ?_) (fun h => absurd h (by decide))
  refine lv_iload hx hb dX10_whichWord_101 (lv_at hl 2 rfl) ?_
  refine lv_aload_n hx hb dX10_whichWord_103 rfl (lv_at hl 5 rfl) ?_
  refine md_geti hx hb hW hown hK hG f_X10_25_2 (Nat.lt_of_lt_of_le (by decide) hZ) hK14 (v := 0) hM14_2 dX10_whichWord_104 ?_
  refine lv_icmp_lt (tgt := 138) hx hb dX10_whichWord_107 (by decide) (fun h => absurd h (by decide)) (fun _ => ?_)
  refine lv_iload hx hb dX10_whichWord_110 (lv_at hl 2 rfl) ?_
  refine lv_iload_n hx hb dX10_whichWord_112 rfl (lv_at hl 4 rfl) ?_
  refine lv_icmp_ge (tgt := 135) hx hb dX10_whichWord_113 (by decide) (fun _ => ?_) (fun h => absurd h (by decide))
  refine lv_iconst (v := (-1)) hx hb dX10_whichWord_135 (by decide) ?_
  refine lv_istore (lv' := [(4, .int (-1)), (6, .int 98), (5, .int 21), (3, .int 3), (2, .int 0), (0, .ref (base + 14)), (1, .ref (tx.1 0))]) hx hb dX10_whichWord_136 hl (by decide) rfl (fun ls hl => ?_)
  refine lv_iinc (v := 22) (lv' := [(5, .int 22), (4, .int (-1)), (6, .int 98), (3, .int 3), (2, .int 0), (0, .ref (base + 14)), (1, .ref (tx.1 0))]) hx hb dX10_whichWord_138 hl (k := 2) rfl (by decide) (by decide) rfl (fun ls hl => ?_)
  refine lv_goto (tgt := 57) hx hb dX10_whichWord_141 (by decide) ?_
  refine lv_iload hx hb dX10_whichWord_57 (lv_at hl 0 rfl) ?_
  refine lv_aload_n hx hb dX10_whichWord_59 rfl (lv_at hl 6 rfl) ?_
  refine md_goi hG (md_runT (As := []) (rest := [.int 22]) hx hb hml hown hW hK hT hG (c_length l D cy tx base Z K N (u2 M 14 4 0) R J 0 (by decide)) s_X10_38 ⟨rfl, rfl, ⟨Nat.le_of_ble_eq_true rfl, Nat.le_of_ble_eq_true rfl⟩, ⟨Nat.le_of_ble_eq_true rfl, Nat.le_of_ble_eq_true rfl⟩⟩ (by decide) rfl hl.1 rfl (Nat.le_of_ble_eq_true rfl) dX10_whichWord_60) (fun r u H locs hp hG => ?_)
  obtain ⟨hr9, rfl⟩ := hp
  have hG : md_G D cy base Z K N (u2 M 14 4 0) R J s H locs := hG
  refine md_top (y := 26) (hr9.trans (by decide)) ?_
  clear hr9
  refine lv_icmp_ge (tgt := 144) hx hb dX10_whichWord_63 (by decide) (fun h => absurd h (by decide)) (fun _ => ?_)
  refine lv_aload_n hx hb dX10_whichWord_66 rfl (lv_at hl 6 rfl) ?_
  refine lv_iload hx hb dX10_whichWord_67 (lv_at hl 0 rfl) ?_
  refine md_goi hG (md_runT (As := [.int 22]) (rest := []) hx hb hml hown hW hK hT hG (c_charAt l D cy tx base Z K N (u2 M 14 4 0) R J 0 (by decide) 22 (md_inD (by decide)) (by decide)) s_X10_42 ⟨rfl, rfl, ⟨Nat.le_of_ble_eq_true rfl, Nat.le_of_ble_eq_true rfl⟩, ⟨Nat.le_of_ble_eq_true rfl, Nat.le_of_ble_eq_true rfl⟩⟩ (by decide) rfl hl.1 rfl (Nat.le_of_ble_eq_true rfl) dX10_whichWord_69) (fun r u H locs hp hG => ?_)
  obtain ⟨hr9, rfl⟩ := hp
  have hG : md_G D cy base Z K N (u2 M 14 4 0) R J s H locs := hG
  refine md_top (y := 101) (hr9.trans (by decide)) ?_
  clear hr9
  refine lv_istore (lv' := [(6, .int 101), (5, .int 22), (4, .int (-1)), (3, .int 3), (2, .int 0), (0, .ref (base + 14)), (1, .ref (tx.1 0))]) hx hb dX10_whichWord_72 hl (by decide) rfl (fun ls hl => ?_)
  refine lv_iload hx hb dX10_whichWord_74 (lv_at hl 0 rfl) ?_
  refine lv_bipush (v := 32) hx hb dX10_whichWord_76 (by decide) ?_
  refine lv_icmp_ne (tgt := 101) hx hb dX10_whichWord_78 (by decide) (fun _ => ?_) (fun h => absurd h (by decide))
  refine lv_iload hx hb dX10_whichWord_101 (lv_at hl 2 rfl) ?_
  refine lv_aload_n hx hb dX10_whichWord_103 rfl (lv_at hl 5 rfl) ?_
  refine md_geti hx hb hW hown hK hG f_X10_25_2 (Nat.lt_of_lt_of_le (by decide) hZ) hK14 (v := 0) hM14_2 dX10_whichWord_104 ?_
  refine lv_icmp_lt (tgt := 138) hx hb dX10_whichWord_107 (by decide) (fun _ => ?_) (fun h => absurd h (by decide))
  refine lv_iinc (v := 23) (lv' := [(5, .int 23), (6, .int 101), (4, .int (-1)), (3, .int 3), (2, .int 0), (0, .ref (base + 14)), (1, .ref (tx.1 0))]) hx hb dX10_whichWord_138 hl (k := 1) rfl (by decide) (by decide) rfl (fun ls hl => ?_)
  refine lv_goto (tgt := 57) hx hb dX10_whichWord_141 (by decide) ?_
  refine lv_iload hx hb dX10_whichWord_57 (lv_at hl 0 rfl) ?_
  refine lv_aload_n hx hb dX10_whichWord_59 rfl (lv_at hl 6 rfl) ?_
  refine md_goi hG (md_runT (As := []) (rest := [.int 23]) hx hb hml hown hW hK hT hG (c_length l D cy tx base Z K N (u2 M 14 4 0) R J 0 (by decide)) s_X10_38 ⟨rfl, rfl, ⟨Nat.le_of_ble_eq_true rfl, Nat.le_of_ble_eq_true rfl⟩, ⟨Nat.le_of_ble_eq_true rfl, Nat.le_of_ble_eq_true rfl⟩⟩ (by decide) rfl hl.1 rfl (Nat.le_of_ble_eq_true rfl) dX10_whichWord_60) (fun r u H locs hp hG => ?_)
  obtain ⟨hr9, rfl⟩ := hp
  have hG : md_G D cy base Z K N (u2 M 14 4 0) R J s H locs := hG
  refine md_top (y := 26) (hr9.trans (by decide)) ?_
  clear hr9
  refine lv_icmp_ge (tgt := 144) hx hb dX10_whichWord_63 (by decide) (fun h => absurd h (by decide)) (fun _ => ?_)
  refine lv_aload_n hx hb dX10_whichWord_66 rfl (lv_at hl 6 rfl) ?_
  refine lv_iload hx hb dX10_whichWord_67 (lv_at hl 0 rfl) ?_
  refine md_goi hG (md_runT (As := [.int 23]) (rest := []) hx hb hml hown hW hK hT hG (c_charAt l D cy tx base Z K N (u2 M 14 4 0) R J 0 (by decide) 23 (md_inD (by decide)) (by decide)) s_X10_42 ⟨rfl, rfl, ⟨Nat.le_of_ble_eq_true rfl, Nat.le_of_ble_eq_true rfl⟩, ⟨Nat.le_of_ble_eq_true rfl, Nat.le_of_ble_eq_true rfl⟩⟩ (by decide) rfl hl.1 rfl (Nat.le_of_ble_eq_true rfl) dX10_whichWord_69) (fun r u H locs hp hG => ?_)
  obtain ⟨hr9, rfl⟩ := hp
  have hG : md_G D cy base Z K N (u2 M 14 4 0) R J s H locs := hG
  refine md_top (y := 110) (hr9.trans (by decide)) ?_
  clear hr9
  refine lv_istore (lv' := [(6, .int 110), (5, .int 23), (4, .int (-1)), (3, .int 3), (2, .int 0), (0, .ref (base + 14)), (1, .ref (tx.1 0))]) hx hb dX10_whichWord_72 hl (by decide) rfl (fun ls hl => ?_)
  refine lv_iload hx hb dX10_whichWord_74 (lv_at hl 0 rfl) ?_
  refine lv_bipush (v := 32) hx hb dX10_whichWord_76 (by decide) ?_
  refine lv_icmp_ne (tgt := 101) hx hb dX10_whichWord_78 (by decide) (fun _ => ?_) (fun h => absurd h (by decide))
  refine lv_iload hx hb dX10_whichWord_101 (lv_at hl 2 rfl) ?_
  refine lv_aload_n hx hb dX10_whichWord_103 rfl (lv_at hl 5 rfl) ?_
  refine md_geti hx hb hW hown hK hG f_X10_25_2 (Nat.lt_of_lt_of_le (by decide) hZ) hK14 (v := 0) hM14_2 dX10_whichWord_104 ?_
  refine lv_icmp_lt (tgt := 138) hx hb dX10_whichWord_107 (by decide) (fun _ => ?_) (fun h => absurd h (by decide))
  refine lv_iinc (v := 24) (lv' := [(5, .int 24), (6, .int 110), (4, .int (-1)), (3, .int 3), (2, .int 0), (0, .ref (base + 14)), (1, .ref (tx.1 0))]) hx hb dX10_whichWord_138 hl (k := 1) rfl (by decide) (by decide) rfl (fun ls hl => ?_)
  refine lv_goto (tgt := 57) hx hb dX10_whichWord_141 (by decide) ?_
  refine lv_iload hx hb dX10_whichWord_57 (lv_at hl 0 rfl) ?_
  refine lv_aload_n hx hb dX10_whichWord_59 rfl (lv_at hl 6 rfl) ?_
  refine md_goi hG (md_runT (As := []) (rest := [.int 24]) hx hb hml hown hW hK hT hG (c_length l D cy tx base Z K N (u2 M 14 4 0) R J 0 (by decide)) s_X10_38 ⟨rfl, rfl, ⟨Nat.le_of_ble_eq_true rfl, Nat.le_of_ble_eq_true rfl⟩, ⟨Nat.le_of_ble_eq_true rfl, Nat.le_of_ble_eq_true rfl⟩⟩ (by decide) rfl hl.1 rfl (Nat.le_of_ble_eq_true rfl) dX10_whichWord_60) (fun r u H locs hp hG => ?_)
  obtain ⟨hr9, rfl⟩ := hp
  have hG : md_G D cy base Z K N (u2 M 14 4 0) R J s H locs := hG
  refine md_top (y := 26) (hr9.trans (by decide)) ?_
  clear hr9
  refine lv_icmp_ge (tgt := 144) hx hb dX10_whichWord_63 (by decide) (fun h => absurd h (by decide)) (fun _ => ?_)
  refine lv_aload_n hx hb dX10_whichWord_66 rfl (lv_at hl 6 rfl) ?_
  refine lv_iload hx hb dX10_whichWord_67 (lv_at hl 0 rfl) ?_
  refine md_goi hG (md_runT (As := [.int 24]) (rest := []) hx hb hml hown hW hK hT hG (c_charAt l D cy tx base Z K N (u2 M 14 4 0) R J 0 (by decide) 24 (md_inD (by decide)) (by decide)) s_X10_42 ⟨rfl, rfl, ⟨Nat.le_of_ble_eq_true rfl, Nat.le_of_ble_eq_true rfl⟩, ⟨Nat.le_of_ble_eq_true rfl, Nat.le_of_ble_eq_true rfl⟩⟩ (by decide) rfl hl.1 rfl (Nat.le_of_ble_eq_true rfl) dX10_whichWord_69) (fun r u H locs hp hG => ?_)
  obtain ⟨hr9, rfl⟩ := hp
  have hG : md_G D cy base Z K N (u2 M 14 4 0) R J s H locs := hG
  refine md_top (y := 116) (hr9.trans (by decide)) ?_
  clear hr9
  refine lv_istore (lv' := [(6, .int 116), (5, .int 24), (4, .int (-1)), (3, .int 3), (2, .int 0), (0, .ref (base + 14)), (1, .ref (tx.1 0))]) hx hb dX10_whichWord_72 hl (by decide) rfl (fun ls hl => ?_)
  refine lv_iload hx hb dX10_whichWord_74 (lv_at hl 0 rfl) ?_
  refine lv_bipush (v := 32) hx hb dX10_whichWord_76 (by decide) ?_
  refine lv_icmp_ne (tgt := 101) hx hb dX10_whichWord_78 (by decide) (fun _ => ?_) (fun h => absurd h (by decide))
  refine lv_iload hx hb dX10_whichWord_101 (lv_at hl 2 rfl) ?_
  refine lv_aload_n hx hb dX10_whichWord_103 rfl (lv_at hl 5 rfl) ?_
  refine md_geti hx hb hW hown hK hG f_X10_25_2 (Nat.lt_of_lt_of_le (by decide) hZ) hK14 (v := 0) hM14_2 dX10_whichWord_104 ?_
  refine lv_icmp_lt (tgt := 138) hx hb dX10_whichWord_107 (by decide) (fun _ => ?_) (fun h => absurd h (by decide))
  refine lv_iinc (v := 25) (lv' := [(5, .int 25), (6, .int 116), (4, .int (-1)), (3, .int 3), (2, .int 0), (0, .ref (base + 14)), (1, .ref (tx.1 0))]) hx hb dX10_whichWord_138 hl (k := 1) rfl (by decide) (by decide) rfl (fun ls hl => ?_)
  refine lv_goto (tgt := 57) hx hb dX10_whichWord_141 (by decide) ?_
  refine lv_iload hx hb dX10_whichWord_57 (lv_at hl 0 rfl) ?_
  refine lv_aload_n hx hb dX10_whichWord_59 rfl (lv_at hl 6 rfl) ?_
  refine md_goi hG (md_runT (As := []) (rest := [.int 25]) hx hb hml hown hW hK hT hG (c_length l D cy tx base Z K N (u2 M 14 4 0) R J 0 (by decide)) s_X10_38 ⟨rfl, rfl, ⟨Nat.le_of_ble_eq_true rfl, Nat.le_of_ble_eq_true rfl⟩, ⟨Nat.le_of_ble_eq_true rfl, Nat.le_of_ble_eq_true rfl⟩⟩ (by decide) rfl hl.1 rfl (Nat.le_of_ble_eq_true rfl) dX10_whichWord_60) (fun r u H locs hp hG => ?_)
  obtain ⟨hr9, rfl⟩ := hp
  have hG : md_G D cy base Z K N (u2 M 14 4 0) R J s H locs := hG
  refine md_top (y := 26) (hr9.trans (by decide)) ?_
  clear hr9
  refine lv_icmp_ge (tgt := 144) hx hb dX10_whichWord_63 (by decide) (fun h => absurd h (by decide)) (fun _ => ?_)
  refine lv_aload_n hx hb dX10_whichWord_66 rfl (lv_at hl 6 rfl) ?_
  refine lv_iload hx hb dX10_whichWord_67 (lv_at hl 0 rfl) ?_
  refine md_goi hG (md_runT (As := [.int 25]) (rest := []) hx hb hml hown hW hK hT hG (c_charAt l D cy tx base Z K N (u2 M 14 4 0) R J 0 (by decide) 25 (md_inD (by decide)) (by decide)) s_X10_42 ⟨rfl, rfl, ⟨Nat.le_of_ble_eq_true rfl, Nat.le_of_ble_eq_true rfl⟩, ⟨Nat.le_of_ble_eq_true rfl, Nat.le_of_ble_eq_true rfl⟩⟩ (by decide) rfl hl.1 rfl (Nat.le_of_ble_eq_true rfl) dX10_whichWord_69) (fun r u H locs hp hG => ?_)
  obtain ⟨hr9, rfl⟩ := hp
  have hG : md_G D cy base Z K N (u2 M 14 4 0) R J s H locs := hG
  refine md_top (y := 32) (hr9.trans (by decide)) ?_
  clear hr9
  refine lv_istore (lv' := [(6, .int 32), (5, .int 25), (4, .int (-1)), (3, .int 3), (2, .int 0), (0, .ref (base + 14)), (1, .ref (tx.1 0))]) hx hb dX10_whichWord_72 hl (by decide) rfl (fun ls hl => ?_)
  refine lv_iload hx hb dX10_whichWord_74 (lv_at hl 0 rfl) ?_
  refine lv_bipush (v := 32) hx hb dX10_whichWord_76 (by decide) ?_
  refine lv_icmp_ne (tgt := 101) hx hb dX10_whichWord_78 (by decide) (fun h => absurd h (by decide)) (fun _ => ?_)
  refine lv_iload hx hb dX10_whichWord_81 (lv_at hl 2 rfl) ?_
  refine lv_iload_n hx hb dX10_whichWord_83 rfl (lv_at hl 4 rfl) ?_
  refine lv_icmp_ne (tgt := 89) hx hb dX10_whichWord_84 (by decide) (fun _ => ?_) (fun h => absurd h (by decide))
  refine lv_iinc (v := 4) (lv' := [(3, .int 4), (6, .int 32), (5, .int 25), (4, .int (-1)), (2, .int 0), (0, .ref (base + 14)), (1, .ref (tx.1 0))]) hx hb dX10_whichWord_89 hl (k := 3) rfl (by decide) (by decide) rfl (fun ls hl => ?_)
  refine lv_aload_n hx hb dX10_whichWord_92 rfl (lv_at hl 5 rfl) ?_
  refine md_geti hx hb hW hown hK hG f_X10_25_2 (Nat.lt_of_lt_of_le (by decide) hZ) hK14 (v := 0) hM14_2 dX10_whichWord_93 ?_
  refine lv_istore (lv' := [(4, .int 0), (3, .int 4), (6, .int 32), (5, .int 25), (2, .int 0), (0, .ref (base + 14)), (1, .ref (tx.1 0))]) hx hb dX10_whichWord_96 hl (by decide) rfl (fun ls hl => ?_)
  refine lv_goto (tgt := 138) hx hb dX10_whichWord_98 (by decide) ?_
  refine lv_iinc (v := 26) (lv' := [(5, .int 26), (4, .int 0), (3, .int 4), (6, .int 32), (2, .int 0), (0, .ref (base + 14)), (1, .ref (tx.1 0))]) hx hb dX10_whichWord_138 hl (k := 3) rfl (by decide) (by decide) rfl (fun ls hl => ?_)
  refine lv_goto (tgt := 57) hx hb dX10_whichWord_141 (by decide) ?_
  refine lv_iload hx hb dX10_whichWord_57 (lv_at hl 0 rfl) ?_
  refine lv_aload_n hx hb dX10_whichWord_59 rfl (lv_at hl 6 rfl) ?_
  refine md_goi hG (md_runT (As := []) (rest := [.int 26]) hx hb hml hown hW hK hT hG (c_length l D cy tx base Z K N (u2 M 14 4 0) R J 0 (by decide)) s_X10_38 ⟨rfl, rfl, ⟨Nat.le_of_ble_eq_true rfl, Nat.le_of_ble_eq_true rfl⟩, ⟨Nat.le_of_ble_eq_true rfl, Nat.le_of_ble_eq_true rfl⟩⟩ (by decide) rfl hl.1 rfl (Nat.le_of_ble_eq_true rfl) dX10_whichWord_60) (fun r u H locs hp hG => ?_)
  obtain ⟨hr9, rfl⟩ := hp
  have hG : md_G D cy base Z K N (u2 M 14 4 0) R J s H locs := hG
  refine md_top (y := 26) (hr9.trans (by decide)) ?_
  clear hr9
  refine lv_icmp_ge (tgt := 144) hx hb dX10_whichWord_63 (by decide) (fun _ => ?_) (fun h => absurd h (by decide))
  refine lv_iconst (v := (-1)) hx hb dX10_whichWord_144 (by decide) ?_
  exact md_endi hx hb hr hlocks hK hT hG (⟨rfl, rfl⟩) dX10_whichWord_145
set_option maxRecDepth 100000 in
set_option maxHeartbeats 4000000 in
theorem c_X10_fail (l : Launch) (D : va_G) (cy : Nat → ClassId) (tx : (Nat → Nat) × (Nat → Nat)) (base Z : Nat) (K N : Nat → Nat) (M : Nat → Nat → Int32) (R : Nat → Nat → Option Nat) (J : Nat → Nat → Int64) (hZ : 104 ≤ Z) (hK14 : K 14 = 3) (hM14_3 : M 14 3 = 0) : Met l yX10_fail [Cond.code yX10_fail cX10_fail 3 none] (md_rm 1 0 0) (va_Pc [.ref (base + 14), .int 0, .int 0] (md_U D cy tx base Z K N M R J)) (mQv D cy tx base (fun u => u = (Z, K, N, (u2 M 14 3 1), R, J))) 0 0 (fun q => base ≤ q) := by
  refine Met.ofW (cc := cX10_fail) (maxL := 3) (ret := none) (by decide) rfl ?_
  intro p e s m args below meth c s₁ B hml hv
  have hW : ∀ w ∈ lw_tbl, goodWord w = true → w.before args s = true := fun w h g => hv.2.2.2.1.2.1 w h g _
  obtain ⟨rfl, hU⟩ := hv
  have hx := B.exec
  have hb := B.bytes
  have hr := B.returns
  have hlocks := B.notSynchronized
  have hown : s.vm.findClass RX10 = some m.cls := findClass_of_methodNamed B.named
  have hK := hU.2.2.1
  have hT := hU.2.2.2
  have hG := md_G.start hU
  have hl := lv_entry ([.ref (base + 14), .int 0, .int 0]) (n := 3) (Nat.le_of_ble_eq_true rfl)
  rw [lg_entry_eq]
  generalize (lg_sl ([.ref (base + 14), .int 0, .int 0]) ++ List.replicate (3 - (lg_sl ([.ref (base + 14), .int 0, .int 0])).length) Slot.unset).toArray = ls at hl ⊢
  have hl : lv_has ls 3 [(0, .ref (base + 14)), (1, .int 0), (2, .int 0)] := hl
  refine lv_aload_n hx hb dX10_fail_0 rfl (lv_at hl 0 rfl) ?_
  refine md_geti hx hb hW hown hK hG f_X10_28_2 (Nat.lt_of_lt_of_le (by decide) hZ) hK14 (v := 0) hM14_3 dX10_fail_1 ?_
  refine lv_if_ne (tgt := 19) hx hb dX10_fail_4 (by decide) (fun h => absurd h (by decide)) (fun _ => ?_)
  refine lv_aload_n hx hb dX10_fail_7 rfl (lv_at hl 0 rfl) ?_
  refine lv_iconst (v := 1) hx hb dX10_fail_8 (by decide) ?_
  refine lv_bipush (v := 8) hx hb dX10_fail_9 (by decide) ?_
  refine lv_iload_n hx hb dX10_fail_11 rfl (lv_at hl 1 rfl) ?_
  refine lv_imul hx hb dX10_fail_12 ?_
  refine md_top (y := 0) (by decide) ?_
  refine lv_iadd hx hb dX10_fail_13 ?_
  refine md_top (y := 1) (by decide) ?_
  refine lv_iload_n hx hb dX10_fail_14 rfl (lv_at hl 2 rfl) ?_
  refine lv_iadd hx hb dX10_fail_15 ?_
  refine md_top (y := 1) (by decide) ?_
  refine md_puti hx hb hW hown hK hG f_X10_28_2 (Nat.lt_of_lt_of_le (by decide) hZ) hK14 rfl rfl dX10_fail_16 (fun H locs hG => ?_)
  exact md_endv hx hb hr hlocks hK hT hG (rfl) dX10_fail_19
set_option maxRecDepth 100000 in
set_option maxHeartbeats 4000000 in
theorem c_X2_readClause (l : Launch) (D : va_G) (cy : Nat → ClassId) (tx : (Nat → Nat) × (Nat → Nat)) (base Z : Nat) (K N : Nat → Nat) (M : Nat → Nat → Int32) (R : Nat → Nat → Option Nat) (J : Nat → Nat → Int64) (hZ : 104 ≤ Z) (hK14 : K 14 = 3) (hM14_2 : M 14 2 = 0) (hM14_1 : M 14 1 = 0) (hM14_3 : M 14 3 = 0) : Met l yX2_readClause [Cond.code yX2_readClause cX2_readClause 3 none] (md_rm 6 0 0) (va_Pc [.ref (base + 14), .int 0] (md_U D cy tx base Z K N M R J)) (mQv D cy tx base (fun u => u = (Z, K, N, (u2 (u2 M 14 4 0) 14 3 1), R, J))) 0 0 (fun q => base ≤ q) := by
  refine Met.ofW (cc := cX2_readClause) (maxL := 3) (ret := none) (by decide) rfl ?_
  intro p e s m args below meth c s₁ B hml hv
  have hW : ∀ w ∈ lw_tbl, goodWord w = true → w.before args s = true := fun w h g => hv.2.2.2.1.2.1 w h g _
  obtain ⟨rfl, hU⟩ := hv
  have hx := B.exec
  have hb := B.bytes
  have hr := B.returns
  have hlocks := B.notSynchronized
  have hown : s.vm.findClass RX2 = some m.cls := findClass_of_methodNamed B.named
  have hK := hU.2.2.1
  have hT := hU.2.2.2
  have hG := md_G.start hU
  have hl := lv_entry ([.ref (base + 14), .int 0]) (n := 3) (Nat.le_of_ble_eq_true rfl)
  rw [lg_entry_eq]
  generalize (lg_sl ([.ref (base + 14), .int 0]) ++ List.replicate (3 - (lg_sl ([.ref (base + 14), .int 0])).length) Slot.unset).toArray = ls at hl ⊢
  have hl : lv_has ls 3 [(0, .ref (base + 14)), (1, .int 0)] := hl
  refine lv_aload_n hx hb dX2_readClause_0 rfl (lv_at hl 0 rfl) ?_
  refine md_goi hG (md_runU (As := []) (rest := []) hx hb hml hown hW hK hT hG (c_X10_hereBehindBlanks l D cy tx base  Z  K N M R J hZ hK14 hM14_2 hM14_1 ) s_X2_47_X2 ⟨rfl, rfl, ⟨Nat.le_of_ble_eq_true rfl, Nat.le_of_ble_eq_true rfl⟩, ⟨Nat.le_of_ble_eq_true rfl, Nat.le_of_ble_eq_true rfl⟩⟩ (Nat.lt_of_lt_of_le (by decide) hZ) hK14 (by decide) rfl rfl hl.1 rfl (Nat.le_of_ble_eq_true rfl) dX2_readClause_1) (fun r u H locs hp hG => ?_)
  obtain ⟨rfl, rfl⟩ := hp
  have hG : md_G D cy base Z K N M R J s H locs := hG
  refine lv_pop hx hb dX2_readClause_4 rfl ?_
  refine lv_aload_n hx hb dX2_readClause_5 rfl (lv_at hl 0 rfl) ?_
  refine va_ldcS hx hb hown hT.2.1.1 dX2_readClause_6 ?_
  refine md_goi hG (md_runU (As := [.ref (tx.1 0)]) (rest := []) hx hb hml hown hW hK hT hG (c_X10_whichWord l D cy tx base  Z  K N M R J hZ hK14 hM14_2 hM14_1 ) s_X2_53_X2 ⟨rfl, rfl, ⟨Nat.le_of_ble_eq_true rfl, Nat.le_of_ble_eq_true rfl⟩, ⟨Nat.le_of_ble_eq_true rfl, Nat.le_of_ble_eq_true rfl⟩⟩ (Nat.lt_of_lt_of_le (by decide) hZ) hK14 (by decide) rfl rfl hl.1 rfl (Nat.le_of_ble_eq_true rfl) dX2_readClause_8) (fun r u H locs hp hG => ?_)
  obtain ⟨rfl, rfl⟩ := hp
  have hG : md_G D cy base Z K N (u2 M 14 4 0) R J s H locs := hG
  refine lv_istore_n (lv' := [(2, .int (-1)), (0, .ref (base + 14)), (1, .int 0)]) hx hb dX2_readClause_11 rfl hl (by decide) rfl (fun ls hl => ?_)
  refine lv_iload_n hx hb dX2_readClause_12 rfl (lv_at hl 0 rfl) ?_
  refine lv_iconst (v := (-1)) hx hb dX2_readClause_13 (by decide) ?_
  refine lv_icmp_ne (tgt := 29) hx hb dX2_readClause_14 (by decide) (fun h => absurd h (by decide)) (fun _ => ?_)
  refine lv_aload_n hx hb dX2_readClause_17 rfl (lv_at hl 1 rfl) ?_
  refine lv_aload_n hx hb dX2_readClause_18 rfl (lv_at hl 1 rfl) ?_
  refine md_geti hx hb hW hown hK hG f_X2_57_2 (Nat.lt_of_lt_of_le (by decide) hZ) hK14 (v := 0) hM14_2 dX2_readClause_19 ?_
  refine lv_iconst (v := 0) hx hb dX2_readClause_22 (by decide) ?_
  refine md_gov hG (md_runU (As := [.int 0, .int 0]) (rest := []) hx hb hml hown hW hK hT hG (c_X10_fail l D cy tx base  Z  K N (u2 M 14 4 0) R J hZ hK14 hM14_3 ) s_X2_60_X2 ⟨rfl, rfl, ⟨Nat.le_of_ble_eq_true rfl, Nat.le_of_ble_eq_true rfl⟩, ⟨Nat.le_of_ble_eq_true rfl, Nat.le_of_ble_eq_true rfl⟩⟩ (Nat.lt_of_lt_of_le (by decide) hZ) hK14 (by decide) rfl rfl hl.1 rfl (Nat.le_of_ble_eq_true rfl) dX2_readClause_23) (fun u H locs hp hG => ?_)
  subst hp
  have hG : md_G D cy base Z K N (u2 (u2 M 14 4 0) 14 3 1) R J s H locs := hG
  refine lv_goto (tgt := 73) hx hb dX2_readClause_26 (by decide) ?_
  exact md_endv hx hb hr hlocks hK hT hG (rfl) dX2_readClause_73
set_option maxRecDepth 100000 in
set_option maxHeartbeats 4000000 in
theorem c_X10_goesOn (l : Launch) (D : va_G) (cy : Nat → ClassId) (tx : (Nat → Nat) × (Nat → Nat)) (base Z : Nat) (K N : Nat → Nat) (M : Nat → Nat → Int32) (R : Nat → Nat → Option Nat) (J : Nat → Nat → Int64) (hZ : 104 ≤ Z) (hK14 : K 14 = 3) (hM14_2 : M 14 2 = 0) (hM14_1 : M 14 1 = 0) (hM14_3 : M 14 3 = 1) : Met l yX10_goesOn [Cond.code yX10_goesOn cX10_goesOn 2 (some .boolean)] (md_rm 3 0 0) (va_Pc [.ref (base + 14)] (md_U D cy tx base Z K N M R J)) (mQi D cy tx base (fun r u => r = 0 ∧ u = (Z, K, N, M, R, J))) 0 0 (fun q => base ≤ q) := by
  refine Met.ofW (cc := cX10_goesOn) (maxL := 2) (ret := (some .boolean)) (by decide) rfl ?_
  intro p e s m args below meth c s₁ B hml hv
  have hW : ∀ w ∈ lw_tbl, goodWord w = true → w.before args s = true := fun w h g => hv.2.2.2.1.2.1 w h g _
  obtain ⟨rfl, hU⟩ := hv
  have hx := B.exec
  have hb := B.bytes
  have hr := B.returns
  have hlocks := B.notSynchronized
  have hown : s.vm.findClass RX10 = some m.cls := findClass_of_methodNamed B.named
  have hK := hU.2.2.1
  have hT := hU.2.2.2
  have hG := md_G.start hU
  have hl := lv_entry ([.ref (base + 14)]) (n := 2) (Nat.le_of_ble_eq_true rfl)
  rw [lg_entry_eq]
  generalize (lg_sl ([.ref (base + 14)]) ++ List.replicate (2 - (lg_sl ([.ref (base + 14)])).length) Slot.unset).toArray = ls at hl ⊢
  have hl : lv_has ls 2 [(0, .ref (base + 14))] := hl
  refine lv_aload_n hx hb dX10_goesOn_0 rfl (lv_at hl 0 rfl) ?_
  refine md_goi hG (md_runU (As := []) (rest := []) hx hb hml hown hW hK hT hG (c_X10_hereBehindBlanks l D cy tx base  Z  K N M R J hZ hK14 hM14_2 hM14_1 ) s_X10_54_X2 ⟨rfl, rfl, ⟨Nat.le_of_ble_eq_true rfl, Nat.le_of_ble_eq_true rfl⟩, ⟨Nat.le_of_ble_eq_true rfl, Nat.le_of_ble_eq_true rfl⟩⟩ (Nat.lt_of_lt_of_le (by decide) hZ) hK14 (by decide) rfl rfl hl.1 rfl (Nat.le_of_ble_eq_true rfl) dX10_goesOn_1) (fun r u H locs hp hG => ?_)
  obtain ⟨rfl, rfl⟩ := hp
  have hG : md_G D cy base Z K N M R J s H locs := hG
  refine lv_istore_n (lv' := [(1, .int (-1)), (0, .ref (base + 14))]) hx hb dX10_goesOn_4 rfl hl (by decide) rfl (fun ls hl => ?_)
  refine lv_aload_n hx hb dX10_goesOn_5 rfl (lv_at hl 1 rfl) ?_
  refine md_geti hx hb hW hown hK hG f_X10_28_2 (Nat.lt_of_lt_of_le (by decide) hZ) hK14 (v := 1) hM14_3 dX10_goesOn_6 ?_
  refine lv_if_ne (tgt := 23) hx hb dX10_goesOn_9 (by decide) (fun _ => ?_) (fun h => absurd h (by decide))
  refine lv_iconst (v := 0) hx hb dX10_goesOn_23 (by decide) ?_
  exact md_endz hx hb hr hlocks hK hT hG rfl (⟨rfl, rfl⟩) dX10_goesOn_24
set_option maxRecDepth 100000 in
set_option maxHeartbeats 4000000 in
theorem c_X2_read (l : Launch) (D : va_G) (cy : Nat → ClassId) (tx : (Nat → Nat) × (Nat → Nat)) (base Z : Nat) (K N : Nat → Nat) (M : Nat → Nat → Int32) (R : Nat → Nat → Option Nat) (J : Nat → Nat → Int64) (hZ : 104 ≤ Z) (hK14 : K 14 = 3) (hK1 : K 1 = 13) (hN1 : N 1 = 400) (hR14_5 : R 14 5 = some 15) (hK15 : K 15 = 10) (hR15_10 : R 15 10 = some 17) (hK17 : K 17 = 14) (hN17 : N 17 = 10) (hR15_11 : R 15 11 = some 18) (hK18 : K 18 = 14) (hN18 : N 18 = 10) (hR15_12 : R 15 12 = some 19) (hK19 : K 19 = 14) (hN19 : N 19 = 10) (hR15_13 : R 15 13 = some 20) (hK20 : K 20 = 14) (hN20 : N 20 = 10) : Met l yX2_read [Cond.code yX2_read cX2_read 5 (some .int)] (md_rm 7 0 0) (va_Pc [.ref (base + 14), .ref (base + 1), .int 0] (md_U D cy tx base Z K N M R J)) (mQi D cy tx base (fun r u => r = 1 ∧ u = (Z, K, N, (u2 (u2 (u2 (u2 (u2 (u2 (u2 (u2 (u2 (u2 (u2 (u2 (u2 (u2 (u2 (u2 (u2 (u2 (u2 (u2 (u2 (u2 (u2 (u2 (u2 (u2 (u2 (u2 (u2 (u2 (u2 (u2 (u2 (u2 (u2 (u2 (u2 (u2 (u2 (u2 (u2 (u2 (u2 (u2 (u2 (u2 (u2 (u2 (u2 (u2 (u2 (u2 (u2 (u2 (u2 M 14 1 0) 14 2 0) 14 3 0) 15 0 0) 15 1 0) 15 2 0) 15 3 0) 15 4 0) 15 5 9999) 15 7 0) 15 8 0) 17 0 1) 18 0 (-1)) 19 0 0) 20 0 0) 17 1 1) 18 1 (-1)) 19 1 0) 20 1 0) 17 2 1) 18 2 (-1)) 19 2 0) 20 2 0) 17 3 1) 18 3 (-1)) 19 3 0) 20 3 0) 17 4 1) 18 4 (-1)) 19 4 0) 20 4 0) 17 5 1) 18 5 (-1)) 19 5 0) 20 5 0) 17 6 1) 18 6 (-1)) 19 6 0) 20 6 0) 17 7 1) 18 7 (-1)) 19 7 0) 20 7 0) 17 8 1) 18 8 (-1)) 19 8 0) 20 8 0) 17 9 1) 18 9 (-1)) 19 9 0) 20 9 0) 14 6 0) 14 4 0) 14 3 1) 15 2 0), (u2 R 14 0 (some 1)), J))) 0 0 (fun q => base ≤ q) := by
  refine Met.ofW (cc := cX2_read) (maxL := 5) (ret := (some .int)) (by decide) rfl ?_
  intro p e s m args below meth c s₁ B hml hv
  have hW : ∀ w ∈ lw_tbl, goodWord w = true → w.before args s = true := fun w h g => hv.2.2.2.1.2.1 w h g _
  obtain ⟨rfl, hU⟩ := hv
  have hx := B.exec
  have hb := B.bytes
  have hr := B.returns
  have hlocks := B.notSynchronized
  have hown : s.vm.findClass RX2 = some m.cls := findClass_of_methodNamed B.named
  have hK := hU.2.2.1
  have hT := hU.2.2.2
  have hG := md_G.start hU
  have hl := lv_entry ([.ref (base + 14), .ref (base + 1), .int 0]) (n := 5) (Nat.le_of_ble_eq_true rfl)
  rw [lg_entry_eq]
  generalize (lg_sl ([.ref (base + 14), .ref (base + 1), .int 0]) ++ List.replicate (5 - (lg_sl ([.ref (base + 14), .ref (base + 1), .int 0])).length) Slot.unset).toArray = ls at hl ⊢
  have hl : lv_has ls 5 [(0, .ref (base + 14)), (1, .ref (base + 1)), (2, .int 0)] := hl
  refine lv_aload_n hx hb dX2_read_0 rfl (lv_at hl 0 rfl) ?_
  refine lv_aload_n hx hb dX2_read_1 rfl (lv_at hl 1 rfl) ?_
  refine lv_iload_n hx hb dX2_read_2 rfl (lv_at hl 2 rfl) ?_
  refine md_gov hG (md_runU (As := [.ref (base + 1), .int 0]) (rest := []) hx hb hml hown hW hK hT hG (c_X10_begin l D cy tx base  Z  K N M R J hZ hK14 hK1 hN1 ) s_X2_18_X2 ⟨rfl, rfl, ⟨Nat.le_of_ble_eq_true rfl, Nat.le_of_ble_eq_true rfl⟩, ⟨Nat.le_of_ble_eq_true rfl, Nat.le_of_ble_eq_true rfl⟩⟩ (Nat.lt_of_lt_of_le (by decide) hZ) hK14 (by decide) rfl rfl hl.1 rfl (Nat.le_of_ble_eq_true rfl) dX2_read_3) (fun u H locs hp hG => ?_)
  subst hp
  have hG : md_G D cy base Z K N (u2 (u2 (u2 M 14 1 0) 14 2 0) 14 3 0) (u2 R 14 0 (some 1)) J s H locs := hG
  refine lv_aload_n hx hb dX2_read_6 rfl (lv_at hl 0 rfl) ?_
  refine md_getr hx hb hW hown hK hG f_X2_12_2 (Nat.lt_of_lt_of_le (by decide) hZ) hK14 (b := 15) hR14_5 dX2_read_7 ?_
  refine md_gov hG (md_runV (As := []) (rest := []) hx hb hml hown hW hK hT hG (c_X9_makeFresh l D cy tx base  Z  K N (u2 (u2 (u2 M 14 1 0) 14 2 0) 14 3 0) (u2 R 14 0 (some 1)) J hZ hK15 hR15_10 hK17 hN17 hR15_11 hK18 hN18 hR15_12 hK19 hN19 hR15_13 hK20 hN20 ) s_X2_22 ⟨rfl, rfl, ⟨Nat.le_of_ble_eq_true rfl, Nat.le_of_ble_eq_true rfl⟩, ⟨Nat.le_of_ble_eq_true rfl, Nat.le_of_ble_eq_true rfl⟩⟩ (Nat.lt_of_lt_of_le (by decide) hZ) hK15 (by decide) rfl rfl hl.1 rfl (Nat.le_of_ble_eq_true rfl) dX2_read_10) (fun u H locs hp hG => ?_)
  subst hp
  have hG : md_G D cy base Z K N (u2 (u2 (u2 (u2 (u2 (u2 (u2 (u2 (u2 (u2 (u2 (u2 (u2 (u2 (u2 (u2 (u2 (u2 (u2 (u2 (u2 (u2 (u2 (u2 (u2 (u2 (u2 (u2 (u2 (u2 (u2 (u2 (u2 (u2 (u2 (u2 (u2 (u2 (u2 (u2 (u2 (u2 (u2 (u2 (u2 (u2 (u2 (u2 (u2 (u2 (u2 M 14 1 0) 14 2 0) 14 3 0) 15 0 0) 15 1 0) 15 2 0) 15 3 0) 15 4 0) 15 5 9999) 15 7 0) 15 8 0) 17 0 1) 18 0 (-1)) 19 0 0) 20 0 0) 17 1 1) 18 1 (-1)) 19 1 0) 20 1 0) 17 2 1) 18 2 (-1)) 19 2 0) 20 2 0) 17 3 1) 18 3 (-1)) 19 3 0) 20 3 0) 17 4 1) 18 4 (-1)) 19 4 0) 20 4 0) 17 5 1) 18 5 (-1)) 19 5 0) 20 5 0) 17 6 1) 18 6 (-1)) 19 6 0) 20 6 0) 17 7 1) 18 7 (-1)) 19 7 0) 20 7 0) 17 8 1) 18 8 (-1)) 19 8 0) 20 8 0) 17 9 1) 18 9 (-1)) 19 9 0) 20 9 0) (u2 R 14 0 (some 1)) J s H locs := hG
  refine lv_aload_n hx hb dX2_read_13 rfl (lv_at hl 0 rfl) ?_
  refine lv_iconst (v := 0) hx hb dX2_read_14 (by decide) ?_
  refine md_puti hx hb hW hown hK hG f_X2_25_2 (Nat.lt_of_lt_of_le (by decide) hZ) hK14 rfl rfl dX2_read_15 (fun H locs hG => ?_)
  refine lv_iconst (v := 1) hx hb dX2_read_18 (by decide) ?_
  refine lv_istore_n (lv' := [(3, .int 1), (0, .ref (base + 14)), (1, .ref (base + 1)), (2, .int 0)]) hx hb dX2_read_19 rfl hl (by decide) rfl (fun ls hl => ?_)
  refine lv_iconst (v := 0) hx hb dX2_read_20 (by decide) ?_
  refine lv_istore (lv' := [(4, .int 0), (3, .int 1), (0, .ref (base + 14)), (1, .ref (base + 1)), (2, .int 0)]) hx hb dX2_read_21 hl (by decide) rfl (fun ls hl => ?_)
  refine lv_iload_n hx hb dX2_read_23 rfl (lv_at hl 1 rfl) ?_
  refine lv_if_eq (tgt := 51) hx hb dX2_read_24 (by decide) (fun h => absurd h (by decide)) (fun _ => ?_)
  refine lv_iload hx hb dX2_read_27 (lv_at hl 0 rfl) ?_
  refine lv_bipush (v := 16) hx hb dX2_read_29 (by decide) ?_
  refine lv_icmp_gt (tgt := 51) hx hb dX2_read_31 (by decide) (fun h => absurd h (by decide)) (fun _ => ?_)
  refine lv_aload_n hx hb dX2_read_34 rfl (lv_at hl 2 rfl) ?_
  refine lv_iload hx hb dX2_read_35 (lv_at hl 0 rfl) ?_
  refine md_gov hG (md_runV (As := [.int 0]) (rest := []) hx hb hml hown hW hK hT hG (c_X2_readClause l D cy tx base  Z  K N (u2 (u2 (u2 (u2 (u2 (u2 (u2 (u2 (u2 (u2 (u2 (u2 (u2 (u2 (u2 (u2 (u2 (u2 (u2 (u2 (u2 (u2 (u2 (u2 (u2 (u2 (u2 (u2 (u2 (u2 (u2 (u2 (u2 (u2 (u2 (u2 (u2 (u2 (u2 (u2 (u2 (u2 (u2 (u2 (u2 (u2 (u2 (u2 (u2 (u2 (u2 (u2 M 14 1 0) 14 2 0) 14 3 0) 15 0 0) 15 1 0) 15 2 0) 15 3 0) 15 4 0) 15 5 9999) 15 7 0) 15 8 0) 17 0 1) 18 0 (-1)) 19 0 0) 20 0 0) 17 1 1) 18 1 (-1)) 19 1 0) 20 1 0) 17 2 1) 18 2 (-1)) 19 2 0) 20 2 0) 17 3 1) 18 3 (-1)) 19 3 0) 20 3 0) 17 4 1) 18 4 (-1)) 19 4 0) 20 4 0) 17 5 1) 18 5 (-1)) 19 5 0) 20 5 0) 17 6 1) 18 6 (-1)) 19 6 0) 20 6 0) 17 7 1) 18 7 (-1)) 19 7 0) 20 7 0) 17 8 1) 18 8 (-1)) 19 8 0) 20 8 0) 17 9 1) 18 9 (-1)) 19 9 0) 20 9 0) 14 6 0) (u2 R 14 0 (some 1)) J hZ hK14 rfl rfl rfl ) s_X2_29 ⟨rfl, rfl, ⟨Nat.le_of_ble_eq_true rfl, Nat.le_of_ble_eq_true rfl⟩, ⟨Nat.le_of_ble_eq_true rfl, Nat.le_of_ble_eq_true rfl⟩⟩ (Nat.lt_of_lt_of_le (by decide) hZ) hK14 (by decide) rfl rfl hl.1 rfl (Nat.le_of_ble_eq_true rfl) dX2_read_37) (fun u H locs hp hG => ?_)
  subst hp
  have hG : md_G D cy base Z K N (u2 (u2 (u2 (u2 (u2 (u2 (u2 (u2 (u2 (u2 (u2 (u2 (u2 (u2 (u2 (u2 (u2 (u2 (u2 (u2 (u2 (u2 (u2 (u2 (u2 (u2 (u2 (u2 (u2 (u2 (u2 (u2 (u2 (u2 (u2 (u2 (u2 (u2 (u2 (u2 (u2 (u2 (u2 (u2 (u2 (u2 (u2 (u2 (u2 (u2 (u2 (u2 (u2 (u2 M 14 1 0) 14 2 0) 14 3 0) 15 0 0) 15 1 0) 15 2 0) 15 3 0) 15 4 0) 15 5 9999) 15 7 0) 15 8 0) 17 0 1) 18 0 (-1)) 19 0 0) 20 0 0) 17 1 1) 18 1 (-1)) 19 1 0) 20 1 0) 17 2 1) 18 2 (-1)) 19 2 0) 20 2 0) 17 3 1) 18 3 (-1)) 19 3 0) 20 3 0) 17 4 1) 18 4 (-1)) 19 4 0) 20 4 0) 17 5 1) 18 5 (-1)) 19 5 0) 20 5 0) 17 6 1) 18 6 (-1)) 19 6 0) 20 6 0) 17 7 1) 18 7 (-1)) 19 7 0) 20 7 0) 17 8 1) 18 8 (-1)) 19 8 0) 20 8 0) 17 9 1) 18 9 (-1)) 19 9 0) 20 9 0) 14 6 0) 14 4 0) 14 3 1) (u2 R 14 0 (some 1)) J s H locs := hG
  refine lv_aload_n hx hb dX2_read_40 rfl (lv_at hl 2 rfl) ?_
  refine md_goi hG (md_runU (As := []) (rest := []) hx hb hml hown hW hK hT hG (c_X10_goesOn l D cy tx base  Z  K N (u2 (u2 (u2 (u2 (u2 (u2 (u2 (u2 (u2 (u2 (u2 (u2 (u2 (u2 (u2 (u2 (u2 (u2 (u2 (u2 (u2 (u2 (u2 (u2 (u2 (u2 (u2 (u2 (u2 (u2 (u2 (u2 (u2 (u2 (u2 (u2 (u2 (u2 (u2 (u2 (u2 (u2 (u2 (u2 (u2 (u2 (u2 (u2 (u2 (u2 (u2 (u2 (u2 (u2 M 14 1 0) 14 2 0) 14 3 0) 15 0 0) 15 1 0) 15 2 0) 15 3 0) 15 4 0) 15 5 9999) 15 7 0) 15 8 0) 17 0 1) 18 0 (-1)) 19 0 0) 20 0 0) 17 1 1) 18 1 (-1)) 19 1 0) 20 1 0) 17 2 1) 18 2 (-1)) 19 2 0) 20 2 0) 17 3 1) 18 3 (-1)) 19 3 0) 20 3 0) 17 4 1) 18 4 (-1)) 19 4 0) 20 4 0) 17 5 1) 18 5 (-1)) 19 5 0) 20 5 0) 17 6 1) 18 6 (-1)) 19 6 0) 20 6 0) 17 7 1) 18 7 (-1)) 19 7 0) 20 7 0) 17 8 1) 18 8 (-1)) 19 8 0) 20 8 0) 17 9 1) 18 9 (-1)) 19 9 0) 20 9 0) 14 6 0) 14 4 0) 14 3 1) (u2 R 14 0 (some 1)) J hZ hK14 rfl rfl rfl ) s_X2_33_X2 ⟨rfl, rfl, ⟨Nat.le_of_ble_eq_true rfl, Nat.le_of_ble_eq_true rfl⟩, ⟨Nat.le_of_ble_eq_true rfl, Nat.le_of_ble_eq_true rfl⟩⟩ (Nat.lt_of_lt_of_le (by decide) hZ) hK14 (by decide) rfl rfl hl.1 rfl (Nat.le_of_ble_eq_true rfl) dX2_read_41) (fun r u H locs hp hG => ?_)
  obtain ⟨rfl, rfl⟩ := hp
  have hG : md_G D cy base Z K N (u2 (u2 (u2 (u2 (u2 (u2 (u2 (u2 (u2 (u2 (u2 (u2 (u2 (u2 (u2 (u2 (u2 (u2 (u2 (u2 (u2 (u2 (u2 (u2 (u2 (u2 (u2 (u2 (u2 (u2 (u2 (u2 (u2 (u2 (u2 (u2 (u2 (u2 (u2 (u2 (u2 (u2 (u2 (u2 (u2 (u2 (u2 (u2 (u2 (u2 (u2 (u2 (u2 (u2 M 14 1 0) 14 2 0) 14 3 0) 15 0 0) 15 1 0) 15 2 0) 15 3 0) 15 4 0) 15 5 9999) 15 7 0) 15 8 0) 17 0 1) 18 0 (-1)) 19 0 0) 20 0 0) 17 1 1) 18 1 (-1)) 19 1 0) 20 1 0) 17 2 1) 18 2 (-1)) 19 2 0) 20 2 0) 17 3 1) 18 3 (-1)) 19 3 0) 20 3 0) 17 4 1) 18 4 (-1)) 19 4 0) 20 4 0) 17 5 1) 18 5 (-1)) 19 5 0) 20 5 0) 17 6 1) 18 6 (-1)) 19 6 0) 20 6 0) 17 7 1) 18 7 (-1)) 19 7 0) 20 7 0) 17 8 1) 18 8 (-1)) 19 8 0) 20 8 0) 17 9 1) 18 9 (-1)) 19 9 0) 20 9 0) 14 6 0) 14 4 0) 14 3 1) (u2 R 14 0 (some 1)) J s H locs := hG
  refine lv_istore_n (lv' := [(3, .int 0), (4, .int 0), (0, .ref (base + 14)), (1, .ref (base + 1)), (2, .int 0)]) hx hb dX2_read_44 rfl hl (by decide) rfl (fun ls hl => ?_)
  refine lv_iinc (v := 1) (lv' := [(4, .int 1), (3, .int 0), (0, .ref (base + 14)), (1, .ref (base + 1)), (2, .int 0)]) hx hb dX2_read_45 hl (k := 1) rfl (by decide) (by decide) rfl (fun ls hl => ?_)
  refine lv_goto (tgt := 23) hx hb dX2_read_48 (by decide) ?_
  refine lv_iload_n hx hb dX2_read_23 rfl (lv_at hl 1 rfl) ?_
  refine lv_if_eq (tgt := 51) hx hb dX2_read_24 (by decide) (fun _ => ?_) (fun h => absurd h (by decide))
  refine lv_aload_n hx hb dX2_read_51 rfl (lv_at hl 2 rfl) ?_
  refine md_getr hx hb hW hown hK hG f_X2_12_2 (Nat.lt_of_lt_of_le (by decide) hZ) hK14 (b := 15) hR14_5 dX2_read_52 ?_
  refine lv_iconst (v := 1) hx hb dX2_read_55 (by decide) ?_
  refine lv_aload_n hx hb dX2_read_56 rfl (lv_at hl 2 rfl) ?_
  refine md_getr hx hb hW hown hK hG f_X2_12_2 (Nat.lt_of_lt_of_le (by decide) hZ) hK14 (b := 15) hR14_5 dX2_read_57 ?_
  refine md_geti hx hb hW hown hK hG f_X2_37_9 (Nat.lt_of_lt_of_le (by decide) hZ) hK15 (v := 0) rfl dX2_read_60 ?_
  refine lv_ishl hx hb dX2_read_63 ?_
  refine md_top (y := 1) (by decide) ?_
  refine lv_iconst (v := 1) hx hb dX2_read_64 (by decide) ?_
  refine lv_isub hx hb dX2_read_65 ?_
  refine md_top (y := 0) (by decide) ?_
  refine md_puti hx hb hW hown hK hG f_X2_41_9 (Nat.lt_of_lt_of_le (by decide) hZ) hK15 rfl rfl dX2_read_66 (fun H locs hG => ?_)
  refine lv_aload_n hx hb dX2_read_69 rfl (lv_at hl 2 rfl) ?_
  refine md_geti hx hb hW hown hK hG f_X2_44_2 (Nat.lt_of_lt_of_le (by decide) hZ) hK14 (v := 1) rfl dX2_read_70 ?_
  exact md_endi hx hb hr hlocks hK hT hG (⟨rfl, rfl⟩) dX2_read_73
set_option maxRecDepth 100000 in
set_option maxHeartbeats 4000000 in
theorem c_X11_council (l : Launch) (D : va_G) (cy : Nat → ClassId) (tx : (Nat → Nat) × (Nat → Nat)) (base Z : Nat) (K N : Nat → Nat) (M : Nat → Nat → Int32) (R : Nat → Nat → Option Nat) (J : Nat → Nat → Int64) (hZ : 104 ≤ Z) (hK0 : K 0 = 11) (hR0_7 : R 0 7 = some 14) (hR0_0 : R 0 0 = some 1) (hM0_1 : M 0 1 = 0) (hK14 : K 14 = 3) (hK1 : K 1 = 13) (hN1 : N 1 = 400) (hR14_5 : R 14 5 = some 15) (hK15 : K 15 = 10) (hR15_10 : R 15 10 = some 17) (hK17 : K 17 = 14) (hN17 : N 17 = 10) (hR15_11 : R 15 11 = some 18) (hK18 : K 18 = 14) (hN18 : N 18 = 10) (hR15_12 : R 15 12 = some 19) (hK19 : K 19 = 14) (hN19 : N 19 = 10) (hR15_13 : R 15 13 = some 20) (hK20 : K 20 = 14) (hN20 : N 20 = 10) : Met l yX11_council [Cond.code yX11_council cX11_council 3 (some .int)] (md_rm 8 0 0) (va_Pc [.ref (base + 0)] (md_U D cy tx base Z K N M R J)) (mQi D cy tx base (fun r u => r = (-3) ∧ u = (Z, K, N, (u2 (u2 (u2 (u2 (u2 (u2 (u2 (u2 (u2 (u2 (u2 (u2 (u2 (u2 (u2 (u2 (u2 (u2 (u2 (u2 (u2 (u2 (u2 (u2 (u2 (u2 (u2 (u2 (u2 (u2 (u2 (u2 (u2 (u2 (u2 (u2 (u2 (u2 (u2 (u2 (u2 (u2 (u2 (u2 (u2 (u2 (u2 (u2 (u2 (u2 (u2 (u2 (u2 (u2 (u2 M 14 1 0) 14 2 0) 14 3 0) 15 0 0) 15 1 0) 15 2 0) 15 3 0) 15 4 0) 15 5 9999) 15 7 0) 15 8 0) 17 0 1) 18 0 (-1)) 19 0 0) 20 0 0) 17 1 1) 18 1 (-1)) 19 1 0) 20 1 0) 17 2 1) 18 2 (-1)) 19 2 0) 20 2 0) 17 3 1) 18 3 (-1)) 19 3 0) 20 3 0) 17 4 1) 18 4 (-1)) 19 4 0) 20 4 0) 17 5 1) 18 5 (-1)) 19 5 0) 20 5 0) 17 6 1) 18 6 (-1)) 19 6 0) 20 6 0) 17 7 1) 18 7 (-1)) 19 7 0) 20 7 0) 17 8 1) 18 8 (-1)) 19 8 0) 20 8 0) 17 9 1) 18 9 (-1)) 19 9 0) 20 9 0) 14 6 0) 14 4 0) 14 3 1) 15 2 0), (u2 R 14 0 (some 1)), J))) 0 0 (fun q => base ≤ q) := by
  refine Met.ofW (cc := cX11_council) (maxL := 3) (ret := (some .int)) (by decide) rfl ?_
  intro p e s m args below meth c s₁ B hml hv
  have hW : ∀ w ∈ lw_tbl, goodWord w = true → w.before args s = true := fun w h g => hv.2.2.2.1.2.1 w h g _
  obtain ⟨rfl, hU⟩ := hv
  have hx := B.exec
  have hb := B.bytes
  have hr := B.returns
  have hlocks := B.notSynchronized
  have hown : s.vm.findClass RX11 = some m.cls := findClass_of_methodNamed B.named
  have hK := hU.2.2.1
  have hT := hU.2.2.2
  have hG := md_G.start hU
  have hl := lv_entry ([.ref (base + 0)]) (n := 3) (Nat.le_of_ble_eq_true rfl)
  rw [lg_entry_eq]
  generalize (lg_sl ([.ref (base + 0)]) ++ List.replicate (3 - (lg_sl ([.ref (base + 0)])).length) Slot.unset).toArray = ls at hl ⊢
  have hl : lv_has ls 3 [(0, .ref (base + 0))] := hl
  refine lv_aload_n hx hb dX11_council_0 rfl (lv_at hl 0 rfl) ?_
  refine md_getr hx hb hW hown hK hG f_X11_46_10 (Nat.lt_of_lt_of_le (by decide) hZ) hK0 (b := 14) hR0_7 dX11_council_1 ?_
  refine lv_aload_n hx hb dX11_council_4 rfl (lv_at hl 0 rfl) ?_
  refine md_getr hx hb hW hown hK hG f_X11_9_10 (Nat.lt_of_lt_of_le (by decide) hZ) hK0 (b := 1) hR0_0 dX11_council_5 ?_
  refine lv_aload_n hx hb dX11_council_8 rfl (lv_at hl 0 rfl) ?_
  refine md_geti hx hb hW hown hK hG f_X11_94_10 (Nat.lt_of_lt_of_le (by decide) hZ) hK0 (v := 0) hM0_1 dX11_council_9 ?_
  refine md_goi hG (md_runV (As := [.ref (base + 1), .int 0]) (rest := []) hx hb hml hown hW hK hT hG (c_X2_read l D cy tx base  Z  K N M R J hZ hK14 hK1 hN1 hR14_5 hK15 hR15_10 hK17 hN17 hR15_11 hK18 hN18 hR15_12 hK19 hN19 hR15_13 hK20 hN20 ) s_X11_102 ⟨rfl, rfl, ⟨Nat.le_of_ble_eq_true rfl, Nat.le_of_ble_eq_true rfl⟩, ⟨Nat.le_of_ble_eq_true rfl, Nat.le_of_ble_eq_true rfl⟩⟩ (Nat.lt_of_lt_of_le (by decide) hZ) hK14 (by decide) rfl rfl hl.1 rfl (Nat.le_of_ble_eq_true rfl) dX11_council_12) (fun r u H locs hp hG => ?_)
  obtain ⟨rfl, rfl⟩ := hp
  have hG : md_G D cy base Z K N (u2 (u2 (u2 (u2 (u2 (u2 (u2 (u2 (u2 (u2 (u2 (u2 (u2 (u2 (u2 (u2 (u2 (u2 (u2 (u2 (u2 (u2 (u2 (u2 (u2 (u2 (u2 (u2 (u2 (u2 (u2 (u2 (u2 (u2 (u2 (u2 (u2 (u2 (u2 (u2 (u2 (u2 (u2 (u2 (u2 (u2 (u2 (u2 (u2 (u2 (u2 (u2 (u2 (u2 (u2 M 14 1 0) 14 2 0) 14 3 0) 15 0 0) 15 1 0) 15 2 0) 15 3 0) 15 4 0) 15 5 9999) 15 7 0) 15 8 0) 17 0 1) 18 0 (-1)) 19 0 0) 20 0 0) 17 1 1) 18 1 (-1)) 19 1 0) 20 1 0) 17 2 1) 18 2 (-1)) 19 2 0) 20 2 0) 17 3 1) 18 3 (-1)) 19 3 0) 20 3 0) 17 4 1) 18 4 (-1)) 19 4 0) 20 4 0) 17 5 1) 18 5 (-1)) 19 5 0) 20 5 0) 17 6 1) 18 6 (-1)) 19 6 0) 20 6 0) 17 7 1) 18 7 (-1)) 19 7 0) 20 7 0) 17 8 1) 18 8 (-1)) 19 8 0) 20 8 0) 17 9 1) 18 9 (-1)) 19 9 0) 20 9 0) 14 6 0) 14 4 0) 14 3 1) 15 2 0) (u2 R 14 0 (some 1)) J s H locs := hG
  refine lv_istore_n (lv' := [(1, .int 1), (0, .ref (base + 0))]) hx hb dX11_council_15 rfl hl (by decide) rfl (fun ls hl => ?_)
  refine lv_iload_n hx hb dX11_council_16 rfl (lv_at hl 0 rfl) ?_
  refine lv_if_eq (tgt := 25) hx hb dX11_council_17 (by decide) (fun h => absurd h (by decide)) (fun _ => ?_)
  refine lv_bipush (v := (-2)) hx hb dX11_council_20 (by decide) ?_
  refine lv_iload_n hx hb dX11_council_22 rfl (lv_at hl 0 rfl) ?_
  refine lv_isub hx hb dX11_council_23 ?_
  refine md_top (y := (-3)) (by decide) ?_
  exact md_endi hx hb hr hlocks hK hT hG (⟨rfl, rfl⟩) dX11_council_24
set_option maxRecDepth 100000 in
set_option maxHeartbeats 4000000 in
theorem c_X10_begin_2 (l : Launch) (D : va_G) (cy : Nat → ClassId) (tx : (Nat → Nat) × (Nat → Nat)) (base Z : Nat) (K N : Nat → Nat) (M : Nat → Nat → Int32) (R : Nat → Nat → Option Nat) (J : Nat → Nat → Int64) (hZ : 104 ≤ Z) (hK23 : K 23 = 9) (hK1 : K 1 = 13) (hN1 : N 1 = 400) : Met l yX10_begin [Cond.code yX10_begin cX10_begin 3 none] (md_rm 1 0 0) (va_Pc [.ref (base + 23), .ref (base + 1), .int 0] (md_U D cy tx base Z K N M R J)) (mQv D cy tx base (fun u => u = (Z, K, N, (u2 (u2 (u2 M 23 1 0) 23 2 0) 23 3 0), (u2 R 23 0 (some 1)), J))) 0 0 (fun q => base ≤ q) := by
  refine Met.ofW (cc := cX10_begin) (maxL := 3) (ret := none) (by decide) rfl ?_
  intro p e s m args below meth c s₁ B hml hv
  have hW : ∀ w ∈ lw_tbl, goodWord w = true → w.before args s = true := fun w h g => hv.2.2.2.1.2.1 w h g _
  obtain ⟨rfl, hU⟩ := hv
  have hx := B.exec
  have hb := B.bytes
  have hr := B.returns
  have hlocks := B.notSynchronized
  have hown : s.vm.findClass RX10 = some m.cls := findClass_of_methodNamed B.named
  have hK := hU.2.2.1
  have hT := hU.2.2.2
  have hG := md_G.start hU
  have hl := lv_entry ([.ref (base + 23), .ref (base + 1), .int 0]) (n := 3) (Nat.le_of_ble_eq_true rfl)
  rw [lg_entry_eq]
  generalize (lg_sl ([.ref (base + 23), .ref (base + 1), .int 0]) ++ List.replicate (3 - (lg_sl ([.ref (base + 23), .ref (base + 1), .int 0])).length) Slot.unset).toArray = ls at hl ⊢
  have hl : lv_has ls 3 [(0, .ref (base + 23)), (1, .ref (base + 1)), (2, .int 0)] := hl
  refine lv_aload_n hx hb dX10_begin_0 rfl (lv_at hl 0 rfl) ?_
  refine lv_aload_n hx hb dX10_begin_1 rfl (lv_at hl 1 rfl) ?_
  refine md_putr hx hb hW hown hK hG f_X10_9_8 (Nat.lt_of_lt_of_le (by decide) hZ) hK23 rfl rfl dX10_begin_2 (fun H locs hG => ?_)
  refine lv_aload_n hx hb dX10_begin_5 rfl (lv_at hl 0 rfl) ?_
  refine lv_aload_n hx hb dX10_begin_6 rfl (lv_at hl 1 rfl) ?_
  refine lv_ifnonnull (tgt := 14) hx hb dX10_begin_7 (by decide) ?_
  refine lv_iload_n hx hb dX10_begin_14 rfl (lv_at hl 2 rfl) ?_
  refine lv_aload_n hx hb dX10_begin_15 rfl (lv_at hl 1 rfl) ?_
  refine md_alen (t := 13) hx hb hK hG (Nat.lt_of_lt_of_le (by decide) hZ) hK1 ⟨by decide, by decide⟩ hN1 (v := 400) (by decide) dX10_begin_16 ?_
  refine va_mmin hx hb (hml.trans hl.1.symm) hown (hW _ w_3_85 rfl) (hW _ w_3_86 rfl) (hW _ w_1_13 rfl) (hW _ w_3_87 rfl) (Nat.le_of_ble_eq_true rfl) (Nat.le_of_ble_eq_true rfl) (Nat.le_of_ble_eq_true rfl) (Nat.le_of_ble_eq_true rfl) dX10_begin_17 ?_
  refine md_top (y := 0) (by decide) ?_
  refine md_puti hx hb hW hown hK hG f_X10_21_8 (Nat.lt_of_lt_of_le (by decide) hZ) hK23 rfl rfl dX10_begin_20 (fun H locs hG => ?_)
  refine lv_aload_n hx hb dX10_begin_23 rfl (lv_at hl 0 rfl) ?_
  refine lv_iconst (v := 0) hx hb dX10_begin_24 (by decide) ?_
  refine md_puti hx hb hW hown hK hG f_X10_25_8 (Nat.lt_of_lt_of_le (by decide) hZ) hK23 rfl rfl dX10_begin_25 (fun H locs hG => ?_)
  refine lv_aload_n hx hb dX10_begin_28 rfl (lv_at hl 0 rfl) ?_
  refine lv_iconst (v := 0) hx hb dX10_begin_29 (by decide) ?_
  refine md_puti hx hb hW hown hK hG f_X10_28_8 (Nat.lt_of_lt_of_le (by decide) hZ) hK23 rfl rfl dX10_begin_30 (fun H locs hG => ?_)
  exact md_endv hx hb hr hlocks hK hT hG (rfl) dX10_begin_33
set_option maxRecDepth 100000 in
set_option maxHeartbeats 4000000 in
theorem c_X10_here_2 (l : Launch) (D : va_G) (cy : Nat → ClassId) (tx : (Nat → Nat) × (Nat → Nat)) (base Z : Nat) (K N : Nat → Nat) (M : Nat → Nat → Int32) (R : Nat → Nat → Option Nat) (J : Nat → Nat → Int64) (hZ : 104 ≤ Z) (hK23 : K 23 = 9) (hM23_2 : M 23 2 = 0) (hM23_1 : M 23 1 = 0) : Met l yX10_here [Cond.code yX10_here cX10_here 1 (some .int)] (md_rm 1 0 0) (va_Pc [.ref (base + 23)] (md_U D cy tx base Z K N M R J)) (mQi D cy tx base (fun r u => r = (-1) ∧ u = (Z, K, N, M, R, J))) 0 0 (fun q => base ≤ q) := by
  refine Met.ofW (cc := cX10_here) (maxL := 1) (ret := (some .int)) (by decide) rfl ?_
  intro p e s m args below meth c s₁ B hml hv
  have hW : ∀ w ∈ lw_tbl, goodWord w = true → w.before args s = true := fun w h g => hv.2.2.2.1.2.1 w h g _
  obtain ⟨rfl, hU⟩ := hv
  have hx := B.exec
  have hb := B.bytes
  have hr := B.returns
  have hlocks := B.notSynchronized
  have hown : s.vm.findClass RX10 = some m.cls := findClass_of_methodNamed B.named
  have hK := hU.2.2.1
  have hT := hU.2.2.2
  have hG := md_G.start hU
  have hl := lv_entry ([.ref (base + 23)]) (n := 1) (Nat.le_of_ble_eq_true rfl)
  rw [lg_entry_eq]
  generalize (lg_sl ([.ref (base + 23)]) ++ List.replicate (1 - (lg_sl ([.ref (base + 23)])).length) Slot.unset).toArray = ls at hl ⊢
  have hl : lv_has ls 1 [(0, .ref (base + 23))] := hl
  refine lv_aload_n hx hb dX10_here_0 rfl (lv_at hl 0 rfl) ?_
  refine md_geti hx hb hW hown hK hG f_X10_25_8 (Nat.lt_of_lt_of_le (by decide) hZ) hK23 (v := 0) hM23_2 dX10_here_1 ?_
  refine lv_if_lt (tgt := 30) hx hb dX10_here_4 (by decide) (fun h => absurd h (by decide)) (fun _ => ?_)
  refine lv_aload_n hx hb dX10_here_7 rfl (lv_at hl 0 rfl) ?_
  refine md_geti hx hb hW hown hK hG f_X10_25_8 (Nat.lt_of_lt_of_le (by decide) hZ) hK23 (v := 0) hM23_2 dX10_here_8 ?_
  refine lv_aload_n hx hb dX10_here_11 rfl (lv_at hl 0 rfl) ?_
  refine md_geti hx hb hW hown hK hG f_X10_21_8 (Nat.lt_of_lt_of_le (by decide) hZ) hK23 (v := 0) hM23_1 dX10_here_12 ?_
  refine lv_icmp_ge (tgt := 30) hx hb dX10_here_15 (by decide) (fun _ => ?_) (fun h => absurd h (by decide))
  refine lv_iconst (v := (-1)) hx hb dX10_here_30 (by decide) ?_
  exact md_endi hx hb hr hlocks hK hT hG (⟨rfl, rfl⟩) dX10_here_31
set_option maxRecDepth 100000 in
set_option maxHeartbeats 4000000 in
theorem c_X10_hereBehindBlanks_2 (l : Launch) (D : va_G) (cy : Nat → ClassId) (tx : (Nat → Nat) × (Nat → Nat)) (base Z : Nat) (K N : Nat → Nat) (M : Nat → Nat → Int32) (R : Nat → Nat → Option Nat) (J : Nat → Nat → Int64) (hZ : 104 ≤ Z) (hK23 : K 23 = 9) (hM23_2 : M 23 2 = 0) (hM23_1 : M 23 1 = 0) : Met l yX10_hereBehindBlanks [Cond.code yX10_hereBehindBlanks cX10_hereBehindBlanks 1 (some .int)] (md_rm 2 0 0) (va_Pc [.ref (base + 23)] (md_U D cy tx base Z K N M R J)) (mQi D cy tx base (fun r u => r = (-1) ∧ u = (Z, K, N, M, R, J))) 0 0 (fun q => base ≤ q) := by
  refine Met.ofW (cc := cX10_hereBehindBlanks) (maxL := 1) (ret := (some .int)) (by decide) rfl ?_
  intro p e s m args below meth c s₁ B hml hv
  have hW : ∀ w ∈ lw_tbl, goodWord w = true → w.before args s = true := fun w h g => hv.2.2.2.1.2.1 w h g _
  obtain ⟨rfl, hU⟩ := hv
  have hx := B.exec
  have hb := B.bytes
  have hr := B.returns
  have hlocks := B.notSynchronized
  have hown : s.vm.findClass RX10 = some m.cls := findClass_of_methodNamed B.named
  have hK := hU.2.2.1
  have hT := hU.2.2.2
  have hG := md_G.start hU
  have hl := lv_entry ([.ref (base + 23)]) (n := 1) (Nat.le_of_ble_eq_true rfl)
  rw [lg_entry_eq]
  generalize (lg_sl ([.ref (base + 23)]) ++ List.replicate (1 - (lg_sl ([.ref (base + 23)])).length) Slot.unset).toArray = ls at hl ⊢
  have hl : lv_has ls 1 [(0, .ref (base + 23))] := hl
  refine lv_aload_n hx hb dX10_hereBehindBlanks_0 rfl (lv_at hl 0 rfl) ?_
  refine md_geti hx hb hW hown hK hG f_X10_25_8 (Nat.lt_of_lt_of_le (by decide) hZ) hK23 (v := 0) hM23_2 dX10_hereBehindBlanks_1 ?_
  refine lv_aload_n hx hb dX10_hereBehindBlanks_4 rfl (lv_at hl 0 rfl) ?_
  refine md_geti hx hb hW hown hK hG f_X10_21_8 (Nat.lt_of_lt_of_le (by decide) hZ) hK23 (v := 0) hM23_1 dX10_hereBehindBlanks_5 ?_
  refine lv_icmp_ge (tgt := 38) hx hb dX10_hereBehindBlanks_8 (by decide) (fun _ => ?_) (fun h => absurd h (by decide))
  refine lv_aload_n hx hb dX10_hereBehindBlanks_38 rfl (lv_at hl 0 rfl) ?_
  refine md_goi hG (md_runU (As := []) (rest := []) hx hb hml hown hW hK hT hG (c_X10_here_2 l D cy tx base  Z  K N M R J hZ hK23 hM23_2 hM23_1 ) s_X10_31_X8 ⟨rfl, rfl, ⟨Nat.le_of_ble_eq_true rfl, Nat.le_of_ble_eq_true rfl⟩, ⟨Nat.le_of_ble_eq_true rfl, Nat.le_of_ble_eq_true rfl⟩⟩ (Nat.lt_of_lt_of_le (by decide) hZ) hK23 (by decide) rfl rfl hl.1 rfl (Nat.le_of_ble_eq_true rfl) dX10_hereBehindBlanks_39) (fun r u H locs hp hG => ?_)
  obtain ⟨rfl, rfl⟩ := hp
  have hG : md_G D cy base Z K N M R J s H locs := hG
  exact md_endi hx hb hr hlocks hK hT hG (⟨rfl, rfl⟩) dX10_hereBehindBlanks_42
