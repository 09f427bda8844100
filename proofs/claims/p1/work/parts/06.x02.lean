set_option maxRecDepth 100000 in
set_option maxHeartbeats 4000000 in
theorem c_X10_whichWord_2 (l : Launch) (D : va_G) (cy : Nat → ClassId) (tx : (Nat → Nat) × (Nat → Nat)) (base Z : Nat) (K N : Nat → Nat) (M : Nat → Nat → Int32) (R : Nat → Nat → Option Nat) (J : Nat → Nat → Int64) (hZ : 104 ≤ Z) (hK23 : K 23 = 9) (hM23_2 : M 23 2 = 0) (hM23_1 : M 23 1 = 0) : Met l yX10_whichWord [Cond.code yX10_whichWord cX10_whichWord 7 (some .int)] (md_rm 5 0 0) (va_Pc [.ref (base + 23), .ref (tx.1 2)] (md_U D cy tx base Z K N M R J)) (mQi D cy tx base (fun r u => r = (-1) ∧ u = (Z, K, N, (u2 M 23 4 0), R, J))) 0 0 (fun q => base ≤ q) := by
  refine Met.ofW (cc := cX10_whichWord) (maxL := 7) (ret := (some .int)) (by decide) rfl ?_
  intro p e s m args below meth c s₁ B hml hv
  have hW : ∀ w ∈ lw_tbl, goodWord w = true → w.before args s = true := fun w h g => hv.2.2.2.1.2.1 w h g _
  obtain ⟨rfl, hU⟩ := hv
  have hx := B.exec
  have hb := B.bytes
  have hr := B.returns
  have hlocks := B.notSynchronized
  have hown : s.vm.findClass RX10 = some m.cls := findClass_of_methodNamed B.named
  have hK := hU.2.2.1
  have hT := hU.2.2.2
  have hG := md_G.start hU
  have hl := lv_entry ([.ref (base + 23), .ref (tx.1 2)]) (n := 7) (Nat.le_of_ble_eq_true rfl)
  rw [lg_entry_eq]
  generalize (lg_sl ([.ref (base + 23), .ref (tx.1 2)]) ++ List.replicate (7 - (lg_sl ([.ref (base + 23), .ref (tx.1 2)])).length) Slot.unset).toArray = ls at hl ⊢
  have hl : lv_has ls 7 [(0, .ref (base + 23)), (1, .ref (tx.1 2))] := hl
  refine lv_aload_n hx hb dX10_whichWord_0 rfl (lv_at hl 0 rfl) ?_
  refine md_geti hx hb hW hown hK hG f_X10_25_8 (Nat.lt_of_lt_of_le (by decide) hZ) hK23 (v := 0) hM23_2 dX10_whichWord_1 ?_
  refine lv_istore_n (lv' := [(2, .int 0), (0, .ref (base + 23)), (1, .ref (tx.1 2))]) hx hb dX10_whichWord_4 rfl hl (by decide) rfl (fun ls hl => ?_)
  refine lv_iload_n hx hb dX10_whichWord_5 rfl (lv_at hl 0 rfl) ?_
  refine lv_aload_n hx hb dX10_whichWord_6 rfl (lv_at hl 1 rfl) ?_
  refine md_geti hx hb hW hown hK hG f_X10_21_8 (Nat.lt_of_lt_of_le (by decide) hZ) hK23 (v := 0) hM23_1 dX10_whichWord_7 ?_
  refine lv_icmp_ge (tgt := 41) hx hb dX10_whichWord_10 (by decide) (fun _ => ?_) (fun h => absurd h (by decide))
  refine lv_aload_n hx hb dX10_whichWord_41 rfl (lv_at hl 1 rfl) ?_
  refine lv_iload_n hx hb dX10_whichWord_42 rfl (lv_at hl 0 rfl) ?_
  refine md_puti hx hb hW hown hK hG f_X10_35_8 (Nat.lt_of_lt_of_le (by decide) hZ) hK23 rfl rfl dX10_whichWord_43 (fun H locs hG => ?_)
  refine lv_iconst (v := 0) hx hb dX10_whichWord_46 (by decide) ?_
  refine lv_istore_n (lv' := [(3, .int 0), (2, .int 0), (0, .ref (base + 23)), (1, .ref (tx.1 2))]) hx hb dX10_whichWord_47 rfl hl (by decide) rfl (fun ls hl => ?_)
  refine lv_aload_n hx hb dX10_whichWord_48 rfl (lv_at hl 2 rfl) ?_
  refine md_geti hx hb hW hown hK hG f_X10_25_8 (Nat.lt_of_lt_of_le (by decide) hZ) hK23 (v := 0) hM23_2 dX10_whichWord_49 ?_
  refine lv_istore (lv' := [(4, .int 0), (3, .int 0), (2, .int 0), (0, .ref (base + 23)), (1, .ref (tx.1 2))]) hx hb dX10_whichWord_52 hl (by decide) rfl (fun ls hl => ?_)
  refine lv_iconst (v := 0) hx hb dX10_whichWord_54 (by decide) ?_
  refine lv_istore (lv' := [(5, .int 0), (4, .int 0), (3, .int 0), (2, .int 0), (0, .ref (base + 23)), (1, .ref (tx.1 2))]) hx hb dX10_whichWord_55 hl (by decide) rfl (fun ls hl => ?_)
  refine lv_iload hx hb dX10_whichWord_57 (lv_at hl 0 rfl) ?_
  refine lv_aload_n hx hb dX10_whichWord_59 rfl (lv_at hl 5 rfl) ?_
  refine md_goi hG (md_runT (As := []) (rest := [.int 0]) hx hb hml hown hW hK hT hG (c_length l D cy tx base Z K N (u2 M 23 4 0) R J 2 (by decide)) s_X10_38 ⟨rfl, rfl, ⟨Nat.le_of_ble_eq_true rfl, Nat.le_of_ble_eq_true rfl⟩, ⟨Nat.le_of_ble_eq_true rfl, Nat.le_of_ble_eq_true rfl⟩⟩ (by decide) rfl hl.1 rfl (Nat.le_of_ble_eq_true rfl) dX10_whichWord_60) (fun r u H locs hp hG => ?_)
  obtain ⟨hr9, rfl⟩ := hp
  have hG : md_G D cy base Z K N (u2 M 23 4 0) R J s H locs := hG
  refine md_top (y := 12) (hr9.trans (by decide)) ?_
  clear hr9
  refine lv_icmp_ge (tgt := 144) hx hb dX10_whichWord_63 (by decide) (fun h => absurd h (by decide)) (fun _ => ?_)
  refine lv_aload_n hx hb dX10_whichWord_66 rfl (lv_at hl 5 rfl) ?_
  refine lv_iload hx hb dX10_whichWord_67 (lv_at hl 0 rfl) ?_
  refine md_goi hG (md_runT (As := [.int 0]) (rest := []) hx hb hml hown hW hK hT hG (c_charAt l D cy tx base Z K N (u2 M 23 4 0) R J 2 (by decide) 0 (md_inD (by decide)) (by decide)) s_X10_42 ⟨rfl, rfl, ⟨Nat.le_of_ble_eq_true rfl, Nat.le_of_ble_eq_true rfl⟩, ⟨Nat.le_of_ble_eq_true rfl, Nat.le_of_ble_eq_true rfl⟩⟩ (by decide) rfl hl.1 rfl (Nat.le_of_ble_eq_true rfl) dX10_whichWord_69) (fun r u H locs hp hG => ?_)
  obtain ⟨hr9, rfl⟩ := hp
  have hG : md_G D cy base Z K N (u2 M 23 4 0) R J s H locs := hG
  refine md_top (y := 110) (hr9.trans (by decide)) ?_
  clear hr9
  refine lv_istore (lv' := [(6, .int 110), (5, .int 0), (4, .int 0), (3, .int 0), (2, .int 0), (0, .ref (base + 23)), (1, .ref (tx.1 2))]) hx hb dX10_whichWord_72 hl (by decide) rfl (fun ls hl => ?_)
  refine lv_iload hx hb dX10_whichWord_74 (lv_at hl 0 rfl) ?_
  refine lv_bipush (v := 32) hx hb dX10_whichWord_76 (by decide) ?_
  refine lv_icmp_ne (tgt := 101) hx hb dX10_whichWord_78 (by decide) (fun _ => ?_) (fun h => absurd h (by decide))
  refine lv_iload hx hb dX10_whichWord_101 (lv_at hl 2 rfl) ?_
  refine lv_aload_n hx hb dX10_whichWord_103 rfl (lv_at hl 5 rfl) ?_
  refine md_geti hx hb hW hown hK hG f_X10_25_8 (Nat.lt_of_lt_of_le (by decide) hZ) hK23 (v := 0) hM23_2 dX10_whichWord_104 ?_
  refine lv_icmp_lt (tgt := 138) hx hb dX10_whichWord_107 (by decide) (fun h => absurd h (by decide)) (fun _ => ?_)
  refine lv_iload hx hb dX10_whichWord_110 (lv_at hl 2 rfl) ?_
  refine lv_iload_n hx hb dX10_whichWord_112 rfl (lv_at hl 4 rfl) ?_
  refine lv_icmp_ge (tgt := 135) hx hb dX10_whichWord_113 (by decide) (fun _ => ?_) (fun h => absurd h (by decide))
  refine lv_iconst (v := (-1)) hx hb dX10_whichWord_135 (by decide) ?_
  refine lv_istore (lv' := [(4, .int (-1)), (6, .int 110), (5, .int 0), (3, .int 0), (2, .int 0), (0, .ref (base + 23)), (1, .ref (tx.1 2))]) hx hb dX10_whichWord_136 hl (by decide) rfl (fun ls hl => ?_)
  refine lv_iinc (v := 1) (lv' := [(5, .int 1), (4, .int (-1)), (6, .int 110), (3, .int 0), (2, .int 0), (0, .ref (base + 23)), (1, .ref (tx.1 2))]) hx hb dX10_whichWord_138 hl (k := 2) rfl (by decide) (by decide) rfl (fun ls hl => ?_)
  refine lv_goto (tgt := 57) hx hb dX10_whichWord_141 (by decide) ?_
  refine lv_iload hx hb dX10_whichWord_57 (lv_at hl 0 rfl) ?_
  refine lv_aload_n hx hb dX10_whichWord_59 rfl (lv_at hl 6 rfl) ?_
  refine md_goi hG (md_runT (As := []) (rest := [.int 1]) hx hb hml hown hW hK hT hG (c_length l D cy tx base Z K N (u2 M 23 4 0) R J 2 (by decide)) s_X10_38 ⟨rfl, rfl, ⟨Nat.le_of_ble_eq_true rfl, Nat.le_of_ble_eq_true rfl⟩, ⟨Nat.le_of_ble_eq_true rfl, Nat.le_of_ble_eq_true rfl⟩⟩ (by decide) rfl hl.1 rfl (Nat.le_of_ble_eq_true rfl) dX10_whichWord_60) (fun r u H locs hp hG => ?_)
  obtain ⟨hr9, rfl⟩ := hp
  have hG : md_G D cy base Z K N (u2 M 23 4 0) R J s H locs := hG
  refine md_top (y := 12) (hr9.trans (by decide)) ?_
  clear hr9
  refine lv_icmp_ge (tgt := 144) hx hb dX10_whichWord_63 (by decide) (fun h => absurd h (by decide)) (fun _ => ?_)
  refine lv_aload_n hx hb dX10_whichWord_66 rfl (lv_at hl 6 rfl) ?_
  refine lv_iload hx hb dX10_whichWord_67 (lv_at hl 0 rfl) ?_
  refine md_goi hG (md_runT (As := [.int 1]) (rest := []) hx hb hml hown hW hK hT hG (c_charAt l D cy tx base Z K N (u2 M 23 4 0) R J 2 (by decide) 1 (md_inD (by decide)) (by decide)) s_X10_42 ⟨rfl, rfl, ⟨Nat.le_of_ble_eq_true rfl, Nat.le_of_ble_eq_true rfl⟩, ⟨Nat.le_of_ble_eq_true rfl, Nat.le_of_ble_eq_true rfl⟩⟩ (by decide) rfl hl.1 rfl (Nat.le_of_ble_eq_true rfl) dX10_whichWord_69) (fun r u H locs hp hG => ?_)
  obtain ⟨hr9, rfl⟩ := hp
  have hG : md_G D cy base Z K N (u2 M 23 4 0) R J s H locs := hG
  refine md_top (y := 111) (hr9.trans (by decide)) ?_
  clear hr9
  refine lv_istore (lv' := [(6, .int 111), (5, .int 1), (4, .int (-1)), (3, .int 0), (2, .int 0), (0, .ref (base + 23)), (1, .ref (tx.1 2))]) hx hb dX10_whichWord_72 hl (by decide) rfl (fun ls hl => ?_)
  refine lv_iload hx hb dX10_whichWord_74 (lv_at hl 0 rfl) ?_
  refine lv_bipush (v := 32) hx hb dX10_whichWord_76 (by decide) ?_
  refine lv_icmp_ne (tgt := 101) hx hb dX10_whichWord_78 (by decide) (fun _ => ?_) (fun h => absurd h (by decide))
  refine lv_iload hx hb dX10_whichWord_101 (lv_at hl 2 rfl) ?_
  refine lv_aload_n hx hb dX10_whichWord_103 rfl (lv_at hl 5 rfl) ?_
  refine md_geti hx hb hW hown hK hG f_X10_25_8 (Nat.lt_of_lt_of_le (by decide) hZ) hK23 (v := 0) hM23_2 dX10_whichWord_104 ?_
  refine lv_icmp_lt (tgt := 138) hx hb dX10_whichWord_107 (by decide) (fun _ => ?_) (fun h => absurd h (by decide))
  refine lv_iinc (v := 2) (lv' := [(5, .int 2), (6, .int 111), (4, .int (-1)), (3, .int 0), (2, .int 0), (0, .ref (base + 23)), (1, .ref (tx.1 2))]) hx hb dX10_whichWord_138 hl (k := 1) rfl (by decide) (by decide) rfl (fun ls hl => ?_)
  refine lv_goto (tgt := 57) hx hb dX10_whichWord_141 (by decide) ?_
  refine lv_iload hx hb dX10_whichWord_57 (lv_at hl 0 rfl) ?_
  refine lv_aload_n hx hb dX10_whichWord_59 rfl (lv_at hl 6 rfl) ?_
  refine md_goi hG (md_runT (As := []) (rest := [.int 2]) hx hb hml hown hW hK hT hG (c_length l D cy tx base Z K N (u2 M 23 4 0) R J 2 (by decide)) s_X10_38 ⟨rfl, rfl, ⟨Nat.le_of_ble_eq_true rfl, Nat.le_of_ble_eq_true rfl⟩, ⟨Nat.le_of_ble_eq_true rfl, Nat.le_of_ble_eq_true rfl⟩⟩ (by decide) rfl hl.1 rfl (Nat.le_of_ble_eq_true rfl) dX10_whichWord_60) (fun r u H locs hp hG => ?_)
  obtain ⟨hr9, rfl⟩ := hp
  have hG : md_G D cy base Z K N (u2 M 23 4 0) R J s H locs := hG
  refine md_top (y := 12) (hr9.trans (by decide)) ?_
  clear hr9
  refine lv_icmp_ge (tgt := 144) hx hb dX10_whichWord_63 (by decide) (fun h => absurd h (by decide)) (fun _ => ?_)
  refine lv_aload_n hx hb dX10_whichWord_66 rfl (lv_at hl 6 rfl) ?_
  refine lv_iload hx hb dX10_whichWord_67 (lv_at hl 0 rfl) ?_
  refine md_goi hG (md_runT (As := [.int 2]) (rest := []) hx hb hml hown hW hK hT hG (c_charAt l D cy tx base Z K N (u2 M 23 4 0) R J 2 (by decide) 2 (md_inD (by decide)) (by decide)) s_X10_42 ⟨rfl, rfl, ⟨Nat.le_of_ble_eq_true rfl, Nat.le_of_ble_eq_true rfl⟩, ⟨Nat.le_of_ble_eq_true rfl, Nat.le_of_ble_eq_true rfl⟩⟩ (by decide) rfl hl.1 rfl (Nat.le_of_ble_eq_true rfl) dX10_whichWord_69) (fun r u H locs hp hG => ?_)
  obtain ⟨hr9, rfl⟩ := hp
  have hG : md_G D cy base Z K N (u2 M 23 4 0) R J s H locs := hG
  refine md_top (y := 32) (hr9.trans (by decide)) ?_
  clear hr9
  refine lv_istore (lv' := [(6, .int 32), (5, .int 2), (4, .int (-1)), (3, .int 0), (2, .int 0), (0, .ref (base + 23)), (1, .ref (tx.1 2))]) hx hb dX10_whichWord_72 hl (by decide) rfl (fun ls hl => ?_)
  refine lv_iload hx hb dX10_whichWord_74 (lv_at hl 0 rfl) ?_
  refine lv_bipush (v := 32) hx hb dX10_whichWord_76 (by decide) ?_
  refine lv_icmp_ne (tgt := 101) hx hb dX10_whichWord_78 (by decide) (fun h => absurd h (by decide)) (fun _ => ?_)
  refine lv_iload hx hb dX10_whichWord_81 (lv_at hl 2 rfl) ?_
  refine lv_iload_n hx hb dX10_whichWord_83 rfl (lv_at hl 4 rfl) ?_
  refine lv_icmp_ne (tgt := 89) hx hb dX10_whichWord_84 (by decide) (fun _ => ?_) (fun h => absurd h (by decide))
  refine lv_iinc (v := 1) (lv' := [(3, .int 1), (6, .int 32), (5, .int 2), (4, .int (-1)), (2, .int 0), (0, .ref (base + 23)), (1, .ref (tx.1 2))]) hx hb dX10_whichWord_89 hl (k := 3) rfl (by decide) (by decide) rfl (fun ls hl => ?_)
  refine lv_aload_n hx hb dX10_whichWord_92 rfl (lv_at hl 5 rfl) ?_
  refine md_geti hx hb hW hown hK hG f_X10_25_8 (Nat.lt_of_lt_of_le (by decide) hZ) hK23 (v := 0) hM23_2 dX10_whichWord_93 ?_
  refine lv_istore (lv' := [(4, .int 0), (3, .int 1), (6, .int 32), (5, .int 2), (2, .int 0), (0, .ref (base + 23)), (1, .ref (tx.1 2))]) hx hb dX10_whichWord_96 hl (by decide) rfl (fun ls hl => ?_)
  refine lv_goto (tgt := 138) hx hb dX10_whichWord_98 (by decide) ?_
  refine lv_iinc (v := 3) (lv' := [(5, .int 3), (4, .int 0), (3, .int 1), (6, .int 32), (2, .int 0), (0, .ref (base + 23)), (1, .ref (tx.1 2))]) hx hb dX10_whichWord_138 hl (k := 3) rfl (by decide) (by decide) rfl (fun ls hl => ?_)
  refine lv_goto (tgt := 57) hx hb dX10_whichWord_141 (by decide) ?_
  refine lv_iload hx hb dX10_whichWord_57 (lv_at hl 0 rfl) ?_
  refine lv_aload_n hx hb dX10_whichWord_59 rfl (lv_at hl 6 rfl) ?_
  refine md_goi hG (md_runT (As := []) (rest := [.int 3]) hx hb hml hown hW hK hT hG (c_length l D cy tx base Z K N (u2 M 23 4 0) R J 2 (by decide)) s_X10_38 ⟨rfl, rfl, ⟨Nat.le_of_ble_eq_true rfl, Nat.le_of_ble_eq_true rfl⟩, ⟨Nat.le_of_ble_eq_true rfl, Nat.le_of_ble_eq_true rfl⟩⟩ (by decide) rfl hl.1 rfl (Nat.le_of_ble_eq_true rfl) dX10_whichWord_60) (fun r u H locs hp hG => ?_)
  obtain ⟨hr9, rfl⟩ := hp
  have hG : md_G D cy base Z K N (u2 M 23 4 0) R J s H locs := hG
  refine md_top (y := 12) (hr9.trans (by decide)) ?_
  clear hr9
  refine lv_icmp_ge (tgt := 144) hx hb dX10_whichWord_63 (by decide) (fun h => absurd h (by decide)) (fun _ => ?_)
  refine lv_aload_n hx hb dX10_whichWord_66 rfl (lv_at hl 6 rfl) ?_
  refine lv_iload hx hb dX10_whichWord_67 (lv_at hl 0 rfl) ?_
  refine md_goi hG (md_runT (As := [.int 3]) (rest := []) hx hb hml hown hW hK hT hG (c_charAt l D cy tx base Z K N (u2 M 23 4 0) R J 2 (by decide) 3 (md_inD (by decide)) (by decide)) s_X10_42 ⟨rfl, rfl, ⟨Nat.le_of_ble_eq_true rfl, Nat.le_of_ble_eq_true rfl⟩, ⟨Nat.le_of_ble_eq_true rfl, Nat.le_of_ble_eq_true rfl⟩⟩ (by decide) rfl hl.1 rfl (Nat.le_of_ble_eq_true rfl) dX10_whichWord_69) (fun r u H locs hp hG => ?_)
  obtain ⟨hr9, rfl⟩ := hp
  have hG : md_G D cy base Z K N (u2 M 23 4 0) R J s H locs := hG
  refine md_top (y := 121) (hr9.trans (by decide)) ?_
  clear hr9
  refine lv_istore (lv' := [(6, .int 121), (5, .int 3), (4, .int 0), (3, .int 1), (2, .int 0), (0, .ref (base + 23)), (1, .ref (tx.1 2))]) hx hb dX10_whichWord_72 hl (by decide) rfl (fun ls hl => ?_)
  refine lv_iload hx hb dX10_whichWord_74 (lv_at hl 0 rfl) ?_
  refine lv_bipush (v := 32) hx hb dX10_whichWord_76 (by decide) ?_
  refine lv_icmp_ne (tgt := 101) hx hb dX10_whichWord_78 (by decide) (fun _ => ?_) (fun h => absurd h (by decide))
  refine lv_iload hx hb dX10_whichWord_101 (lv_at hl 2 rfl) ?_
  refine lv_aload_n hx hb dX10_whichWord_103 rfl (lv_at hl 5 rfl) ?_
  refine md_geti hx hb hW hown hK hG f_X10_25_8 (Nat.lt_of_lt_of_le (by decide) hZ) hK23 (v := 0) hM23_2 dX10_whichWord_104 ?_
  refine lv_icmp_lt (tgt := 138) hx hb dX10_whichWord_107 (by decide) (fun h => absurd h (by decide)) (fun _ => ?_)
  refine lv_iload hx hb dX10_whichWord_110 (lv_at hl 2 rfl) ?_
  refine lv_iload_n hx hb dX10_whichWord_112 rfl (lv_at hl 4 rfl) ?_
  refine lv_icmp_ge (tgt := 135) hx hb dX10_whichWord_113 (by decide) (fun _ => ?_) (fun h => absurd h (by decide))
  refine lv_iconst (v := (-1)) hx hb dX10_whichWord_135 (by decide) ?_
  refine lv_istore (lv' := [(4, .int (-1)), (6, .int 121), (5, .int 3), (3, .int 1), (2, .int 0), (0, .ref (base + 23)), (1, .ref (tx.1 2))]) hx hb dX10_whichWord_136 hl (by decide) rfl (fun ls hl => ?_)
  refine lv_iinc (v := 4) (lv' := [(5, .int 4), (4, .int (-1)), (6, .int 121), (3, .int 1), (2, .int 0), (0, .ref (base + 23)), (1, .ref (tx.1 2))]) hx hb dX10_whichWord_138 hl (k := 2) rfl (by decide) (by decide) rfl (fun ls hl => ?_)
  refine lv_goto (tgt := 57) hx hb dX10_whichWord_141 (by decide) ?_
  refine lv_iload hx hb dX10_whichWord_57 (lv_at hl 0 rfl) ?_
  refine lv_aload_n hx hb dX10_whichWord_59 rfl (lv_at hl 6 rfl) ?_
  refine md_goi hG (md_runT (As := []) (rest := [.int 4]) hx hb hml hown hW hK hT hG (c_length l D cy tx base Z K N (u2 M 23 4 0) R J 2 (by decide)) s_X10_38 ⟨rfl, rfl, ⟨Nat.le_of_ble_eq_true rfl, Nat.le_of_ble_eq_true rfl⟩, ⟨Nat.le_of_ble_eq_true rfl, Nat.le_of_ble_eq_true rfl⟩⟩ (by decide) rfl hl.1 rfl (Nat.le_of_ble_eq_true rfl) dX10_whichWord_60) (fun r u H locs hp hG => ?_)
  obtain ⟨hr9, rfl⟩ := hp
  have hG : md_G D cy base Z K N (u2 M 23 4 0) R J s H locs := hG
  refine md_top (y := 12) (hr9.trans (by decide)) ?_
  clear hr9
  refine lv_icmp_ge (tgt := 144) hx hb dX10_whichWord_63 (by decide) (fun h => absurd h (by decide)) (fun _ => ?_)
  refine lv_aload_n hx hb dX10_whichWord_66 rfl (lv_at hl 6 rfl) ?_
  refine lv_iload hx hb dX10_whichWord_67 (lv_at hl 0 rfl) ?_
  refine md_goi hG (md_runT (As := [.int 4]) (rest := []) hx hb hml hown hW hK hT hG (c_charAt l D cy tx base Z K N (u2 M 23 4 0) R J 2 (by decide) 4 (md_inD (by decide)) (by decide)) s_X10_42 ⟨rfl, rfl, ⟨Nat.le_of_ble_eq_true rfl, Nat.le_of_ble_eq_true rfl⟩, ⟨Nat.le_of_ble_eq_true rfl, Nat.le_of_ble_eq_true rfl⟩⟩ (by decide) rfl hl.1 rfl (Nat.le_of_ble_eq_true rfl) dX10_whichWord_69) (fun r u H locs hp hG => ?_)
  obtain ⟨hr9, rfl⟩ := hp
  have hG : md_G D cy base Z K N (u2 M 23 4 0) R J s H locs := hG
  refine md_top (y := 101) (hr9.trans (by decide)) ?_
  clear hr9
  refine lv_istore (lv' := [(6, .int 101), (5, .int 4), (4, .int (-1)), (3, .int 1), (2, .int 0), (0, .ref (base + 23)), (1, .ref (tx.1 2))]) hx hb dX10_whichWord_72 hl (by decide) rfl (fun ls hl => ?_)
  refine lv_iload hx hb dX10_whichWord_74 (lv_at hl 0 rfl) ?_
  refine lv_bipush (v := 32) hx hb dX10_whichWord_76 (by decide) ?_
  refine lv_icmp_ne (tgt := 101) hx hb dX10_whichWord_78 (by decide) (fun _ => ?_) (fun h => absurd h (by decide))
  refine lv_iload hx hb dX10_whichWord_101 (lv_at hl 2 rfl) ?_
  refine lv_aload_n hx hb dX10_whichWord_103 rfl (lv_at hl 5 rfl) ?_
  refine md_geti hx hb hW hown hK hG f_X10_25_8 (Nat.lt_of_lt_of_le (by decide) hZ) hK23 (v := 0) hM23_2 dX10_whichWord_104 ?_
  refine lv_icmp_lt (tgt := 138) hx hb dX10_whichWord_107 (by decide) (fun _ => ?_) (fun h => absurd h (by decide))
  refine lv_iinc (v := 5) (lv' := [(5, .int 5), (6, .int 101), (4, .int (-1)), (3, .int 1), (2, .int 0), (0, .ref (base + 23)), (1, .ref (tx.1 2))]) hx hb dX10_whichWord_138 hl (k := 1) rfl (by decide) (by decide) rfl (fun ls hl => ?_)
  refine lv_goto (tgt := 57) hx hb dX10_whichWord_141 (by decide) ?_
  refine lv_iload hx hb dX10_whichWord_57 (lv_at hl 0 rfl) ?_
  refine lv_aload_n hx hb dX10_whichWord_59 rfl (lv_at hl 6 rfl) ?_
  refine md_goi hG (md_runT (As := []) (rest := [.int 5]) hx hb hml hown hW hK hT hG (c_length l D cy tx base Z K N (u2 M 23 4 0) R J 2 (by decide)) s_X10_38 ⟨rfl, rfl, ⟨Nat.le_of_ble_eq_true rfl, Nat.le_of_ble_eq_true rfl⟩, ⟨Nat.le_of_ble_eq_true rfl, Nat.le_of_ble_eq_true rfl⟩⟩ (by decide) rfl hl.1 rfl (Nat.le_of_ble_eq_true rfl) dX10_whichWord_60) (fun r u H locs hp hG => ?_)
  obtain ⟨hr9, rfl⟩ := hp
  have hG : md_G D cy base Z K N (u2 M 23 4 0) R J s H locs := hG
  refine md_top (y := 12) (hr9.trans (by decide)) ?_
  clear hr9
  refine lv_icmp_ge (tgt := 144) hx hb dX10_whichWord_63 (by decide) (fun h => absurd h (by decide)) (fun _ => ?_)
  refine lv_aload_n hx hb dX10_whichWord_66 rfl (lv_at hl 6 rfl) ?_
  refine lv_iload hx hb dX10_whichWord_67 (lv_at hl 0 rfl) ?_
  refine md_goi hG (md_runT (As := [.int 5]) (rest := []) hx hb hml hown hW hK hT hG (c_charAt l D cy tx base Z K N (u2 M 23 4 0) R J 2 (by decide) 5 (md_inD (by decide)) (by decide)) s_X10_42 ⟨rfl, rfl, ⟨Nat.le_of_ble_eq_true rfl, Nat.le_of_ble_eq_true rfl⟩, ⟨Nat.le_of_ble_eq_true rfl, Nat.le_of_ble_eq_true rfl⟩⟩ (by decide) rfl hl.1 rfl (Nat.le_of_ble_eq_true rfl) dX10_whichWord_69) (fun r u H locs hp hG => ?_)
  obtain ⟨hr9, rfl⟩ := hp
  have hG : md_G D cy base Z K N (u2 M 23 4 0) R J s H locs := hG
  refine md_top (y := 115) (hr9.trans (by decide)) ?_
  clear hr9
  refine lv_istore (lv' := [(6, .int 115), (5, .int 5), (4, .int (-1)), (3, .int 1), (2, .int 0), (0, .ref (base + 23)), (1, .ref (tx.1 2))]) hx hb dX10_whichWord_72 hl (by decide) rfl (fun ls hl => ?_)
  refine lv_iload hx hb dX10_whichWord_74 (lv_at hl 0 rfl) ?_
  refine lv_bipush (v := 32) hx hb dX10_whichWord_76 (by decide) ?_
  refine lv_icmp_ne (tgt := 101) hx hb dX10_whichWord_78 (by decide) (fun _ => ?_) (fun h => absurd h (by decide))
  refine lv_iload hx hb dX10_whichWord_101 (lv_at hl 2 rfl) ?_
  refine lv_aload_n hx hb dX10_whichWord_103 rfl (lv_at hl 5 rfl) ?_
  refine md_geti hx hb hW hown hK hG f_X10_25_8 (Nat.lt_of_lt_of_le (by decide) hZ) hK23 (v := 0) hM23_2 dX10_whichWord_104 ?_
  refine lv_icmp_lt (tgt := 138) hx hb dX10_whichWord_107 (by decide) (fun _ => ?_) (fun h => absurd h (by decide))
  refine lv_iinc (v := 6) (lv' := [(5, .int 6), (6, .int 115), (4, .int (-1)), (3, .int 1), (2, .int 0), (0, .ref (base + 23)), (1, .ref (tx.1 2))]) hx hb dX10_whichWord_138 hl (k := 1) rfl (by decide) (by decide) rfl (fun ls hl => ?_)
  refine lv_goto (tgt := 57) hx hb dX10_whichWord_141 (by decide) ?_
  refine lv_iload hx hb dX10_whichWord_57 (lv_at hl 0 rfl) ?_
  refine lv_aload_n hx hb dX10_whichWord_59 rfl (lv_at hl 6 rfl) ?_
  refine md_goi hG (md_runT (As := []) (rest := [.int 6]) hx hb hml hown hW hK hT hG (c_length l D cy tx base Z K N (u2 M 23 4 0) R J 2 (by decide)) s_X10_38 ⟨rfl, rfl, ⟨Nat.le_of_ble_eq_true rfl, Nat.le_of_ble_eq_true rfl⟩, ⟨Nat.le_of_ble_eq_true rfl, Nat.le_of_ble_eq_true rfl⟩⟩ (by decide) rfl hl.1 rfl (Nat.le_of_ble_eq_true rfl) dX10_whichWord_60) (fun r u H locs hp hG => ?_)
  obtain ⟨hr9, rfl⟩ := hp
  have hG : md_G D cy base Z K N (u2 M 23 4 0) R J s H locs := hG
  refine md_top (y := 12) (hr9.trans (by decide)) ?_
  clear hr9
  refine lv_icmp_ge (tgt := 144) hx hb dX10_whichWord_63 (by decide) (fun h => absurd h (by decide)) (fun _ => ?_)
  refine lv_aload_n hx hb dX10_whichWord_66 rfl (lv_at hl 6 rfl) ?_
  refine lv_iload hx hb dX10_whichWord_67 (lv_at hl 0 rfl) ?_
  refine md_goi hG (md_runT (As := [.int 6]) (rest := []) hx hb hml hown hW hK hT hG (c_charAt l D cy tx base Z K N (u2 M 23 4 0) R J 2 (by decide) 6 (md_inD (by decide)) (by decide)) s_X10_42 ⟨rfl, rfl, ⟨Nat.le_of_ble_eq_true rfl, Nat.le_of_ble_eq_true rfl⟩, ⟨Nat.le_of_ble_eq_true rfl, Nat.le_of_ble_eq_true rfl⟩⟩ (by decide) rfl hl.1 rfl (Nat.le_of_ble_eq_true rfl) dX10_whichWord_69) (fun r u H locs hp hG => ?_)
  obtain ⟨hr9, rfl⟩ := hp
  have hG : md_G D cy base Z K N (u2 M 23 4 0) R J s H locs := hG
  refine md_top (y := 32) (hr9.trans (by decide)) ?_
  clear hr9
  refine lv_istore (lv' := [(6, .int 32), (5, .int 6), (4, .int (-1)), (3, .int 1), (2, .int 0), (0, .ref (base + 23)), (1, .ref (tx.1 2))]) hx hb dX10_whichWord_72 hl (by decide) rfl (fun ls hl => ?_)
  refine lv_iload hx hb dX10_whichWord_74 (lv_at hl 0 rfl) ?_
  refine lv_bipush (v := 32) hx hb dX10_whichWord_76 (by decide) ?_
  refine lv_icmp_ne (tgt := 101) hx hb dX10_whichWord_78 (by decide) (fun h => absurd h (by decide)) (fun _ => ?_)
  refine lv_iload hx hb dX10_whichWord_81 (lv_at hl 2 rfl) ?_
  refine lv_iload_n hx hb dX10_whichWord_83 rfl (lv_at hl 4 rfl) ?_
  refine lv_icmp_ne (tgt := 89) hx hb dX10_whichWord_84 (by decide) (fun _ => ?_) (fun h => absurd h (by decide))
  refine lv_iinc (v := 2) (lv' := [(3, .int 2), (6, .int 32), (5, .int 6), (4, .int (-1)), (2, .int 0), (0, .ref (base + 23)), (1, .ref (tx.1 2))]) hx hb dX10_whichWord_89 hl (k := 3) rfl (by decide) (by decide) rfl (fun ls hl => ?_)
  refine lv_aload_n hx hb dX10_whichWord_92 rfl (lv_at hl 5 rfl) ?_
  refine md_geti hx hb hW hown hK hG f_X10_25_8 (Nat.lt_of_lt_of_le (by decide) hZ) hK23 (v := 0) hM23_2 dX10_whichWord_93 ?_
  refine lv_istore (lv' := [(4, .int 0), (3, .int 2), (6, .int 32), (5, .int 6), (2, .int 0), (0, .ref (base + 23)), (1, .ref (tx.1 2))]) hx hb dX10_whichWord_96 hl (by decide) rfl (fun ls hl => ?_)
  refine lv_goto (tgt := 138) hx hb dX10_whichWord_98 (by decide) ?_
  refine lv_iinc (v := 7) (lv' := [(5, .int 7), (4, .int 0), (3, .int 2), (6, .int 32), (2, .int 0), (0, .ref (base + 23)), (1, .ref (tx.1 2))]) hx hb dX10_whichWord_138 hl (k := 3) rfl (by decide) (by decide) rfl (fun ls hl => ?_)
  refine lv_goto (tgt := 57) hx hb dX10_whichWord_141 (by decide) ?_
  refine lv_iload hx hb dX10_whichWord_57 (lv_at hl 0 rfl) ?_
  refine lv_aload_n hx hb dX10_whichWord_59 rfl (lv_at hl 6 rfl) ?_
  refine md_goi hG (md_runT (As := []) (rest := [.int 7]) hx hb hml hown hW hK hT hG (c_length l D cy tx base Z K N (u2 M 23 4 0) R J 2 (by decide)) s_X10_38 ⟨rfl, rfl, ⟨Nat.le_of_ble_eq_true rfl, Nat.le_of_ble_eq_true rfl⟩, ⟨Nat.le_of_ble_eq_true rfl, Nat.le_of_ble_eq_true rfl⟩⟩ (by decide) rfl hl.1 rfl (Nat.le_of_ble_eq_true rfl) dX10_whichWord_60) (fun r u H locs hp hG => ?_)
  obtain ⟨hr9, rfl⟩ := hp
  have hG : md_G D cy base Z K N (u2 M 23 4 0) R J s H locs := hG
  refine md_top (y := 12) (hr9.trans (by decide)) ?_
  clear hr9
  refine lv_icmp_ge (tgt := 144) hx hb dX10_whichWord_63 (by decide) (fun h => absurd h (by decide)) (fun _ => ?_)
  refine lv_aload_n hx hb dX10_whichWord_66 rfl (lv_at hl 6 rfl) ?_
  refine lv_iload hx hb dX10_whichWord_67 (lv_at hl 0 rfl) ?_
  refine md_goi hG (md_runT (As := [.int 7]) (rest := []) hx hb hml hown hW hK hT hG (c_charAt l D cy tx base Z K N (u2 M 23 4 0) R J 2 (by decide) 7 (md_inD (by decide)) (by decide)) s_X10_42 ⟨rfl, rfl, ⟨Nat.le_of_ble_eq_true rfl, Nat.le_of_ble_eq_true rfl⟩, ⟨Nat.le_of_ble_eq_true rfl, Nat.le_of_ble_eq_true rfl⟩⟩ (by decide) rfl hl.1 rfl (Nat.le_of_ble_eq_true rfl) dX10_whichWord_69) (fun r u H locs hp hG => ?_)
  obtain ⟨hr9, rfl⟩ := hp
  have hG : md_G D cy base Z K N (u2 M 23 4 0) R J s H locs := hG
  refine md_top (y := 107) (hr9.trans (by decide)) ?_
  clear hr9
  refine lv_istore (lv' := [(6, .int 107), (5, .int 7), (4, .int 0), (3, .int 2), (2, .int 0), (0, .ref (base + 23)), (1, .ref (tx.1 2))]) hx hb dX10_whichWord_72 hl (by decide) rfl (fun ls hl => ?_)
  refine lv_iload hx hb dX10_whichWord_74 (lv_at hl 0 rfl) ?_
  refine lv_bipush (v := 32) hx hb dX10_whichWord_76 (by decide) ?_
  refine lv_icmp_ne (tgt := 101) hx hb dX10_whichWord_78 (by decide) (fun _ => ?_) (fun h => absurd h (by decide))
  refine lv_iload hx hb dX10_whichWord_101 (lv_at hl 2 rfl) ?_
  refine lv_aload_n hx hb dX10_whichWord_103 rfl (lv_at hl 5 rfl) ?_
  refine md_geti hx hb hW hown hK hG f_X10_25_8 (Nat.lt_of_lt_of_le (by decide) hZ) hK23 (v := 0) hM23_2 dX10_whichWord_104 ?_
  refine lv_icmp_lt (tgt := 138) hx hb dX10_whichWord_107 (by decide) (fun h => absurd h (by decide)) (fun _ => ?_)
  refine lv_iload hx hb dX10_whichWord_110 (lv_at hl 2 rfl) ?_
  refine lv_iload_n hx hb dX10_whichWord_112 rfl (lv_at hl 4 rfl) ?_
  refine lv_icmp_ge (tgt := 135) hx hb dX10_whichWord_113 (by decide) (fun _ => ?_) (fun h => absurd h (by decide))
  refine lv_iconst (v := (-1)) hx hb dX10_whichWord_135 (by decide) ?_
  refine lv_istore (lv' := [(4, .int (-1)), (6, .int 107), (5, .int 7), (3, .int 2), (2, .int 0), (0, .ref (base + 23)), (1, .ref (tx.1 2))]) hx hb dX10_whichWord_136 hl (by decide) rfl (fun ls hl => ?_)
  refine lv_iinc (v := 8) (lv' := [(5, .int 8), (4, .int (-1)), (6, .int 107), (3, .int 2), (2, .int 0), (0, .ref (base + 23)), (1, .ref (tx.1 2))]) hx hb dX10_whichWord_138 hl (k := 2) rfl (by decide) (by decide) rfl (fun ls hl => ?_)
  refine lv_goto (tgt := 57) hx hb dX10_whichWord_141 (by decide) ?_
  refine lv_iload hx hb dX10_whichWord_57 (lv_at hl 0 rfl) ?_
  refine lv_aload_n hx hb dX10_whichWord_59 rfl (lv_at hl 6 rfl) ?_
  refine md_goi hG (md_runT (As := []) (rest := [.int 8]) hx hb hml hown hW hK hT hG (c_length l D cy tx base Z K N (u2 M 23 4 0) R J 2 (by decide)) s_X10_38 ⟨rfl, rfl, ⟨Nat.le_of_ble_eq_true rfl, Nat.le_of_ble_eq_true rfl⟩, ⟨Nat.le_of_ble_eq_true rfl, Nat.le_of_ble_eq_true rfl⟩⟩ (by decide) rfl hl.1 rfl (Nat.le_of_ble_eq_true rfl) dX10_whichWord_60) (fun r u H locs hp hG => ?_)
  obtain ⟨hr9, rfl⟩ := hp
  have hG : md_G D cy base Z K N (u2 M 23 4 0) R J s H locs := hG
  refine md_top (y := 12) (hr9.trans (by decide)) ?_
  clear hr9
  refine lv_icmp_ge (tgt := 144) hx hb dX10_whichWord_63 (by decide) (fun h => absurd h (by decide)) (fun _ => ?_)
  refine lv_aload_n hx hb dX10_whichWord_66 rfl (lv_at hl 6 rfl) ?_
  refine lv_iload hx hb dX10_whichWord_67 (lv_at hl 0 rfl) ?_
  refine md_goi hG (md_runT (As := [.int 8]) (rest := []) hx hb hml hown hW hK hT hG (c_charAt l D cy tx base Z K N (u2 M 23 4 0) R J 2 (by decide) 8 (md_inD (by decide)) (by decide)) s_X10_42 ⟨rfl, rfl, ⟨Nat.le_of_ble_eq_true rfl, Nat.le_of_ble_eq_true rfl⟩, ⟨Nat.le_of_ble_eq_true rfl, Nat.le_of_ble_eq_true rfl⟩⟩ (by decide) rfl hl.1 rfl (Nat.le_of_ble_eq_true rfl) dX10_whichWord_69) (fun r u H locs hp hG => ?_)
  obtain ⟨hr9, rfl⟩ := hp
  have hG : md_G D cy base Z K N (u2 M 23 4 0) R J s H locs := hG
  refine md_top (y := 101) (hr9.trans (by decide)) ?_
  clear hr9
  refine lv_istore (lv' := [(6, .int 101), (5, .int 8), (4, .int (-1)), (3, .int 2), (2, .int 0), (0, .ref (base + 23)), (1, .ref (tx.1 2))]) hx hb dX10_whichWord_72 hl (by decide) rfl (fun ls hl => ?_)
  refine lv_iload hx hb dX10_whichWord_74 (lv_at hl 0 rfl) ?_
  refine lv_bipush (v := 32) hx hb dX10_whichWord_76 (by decide) ?_
  refine lv_icmp_ne (tgt := 101) hx hb dX10_whichWord_78 (by decide) (fun _ => ?_) (fun h => absurd h (by decide))
  refine lv_iload hx hb dX10_whichWord_101 (lv_at hl 2 rfl) ?_
  refine lv_aload_n hx hb dX10_whichWord_103 rfl (lv_at hl 5 rfl) ?_
  refine md_geti hx hb hW hown hK hG f_X10_25_8 (Nat.lt_of_lt_of_le (by decide) hZ) hK23 (v := 0) hM23_2 dX10_whichWord_104 ?_
  refine lv_icmp_lt (tgt := 138) hx hb dX10_whichWord_107 (by decide) (fun _ => ?_) (fun h => absurd h (by decide))
  refine lv_iinc (v := 9) (lv' := [(5, .int 9), (6, .int 101), (4, .int (-1)), (3, .int 2), (2, .int 0), (0, .ref (base + 23)), (1, .ref (tx.1 2))]) hx hb dX10_whichWord_138 hl (k := 1) rfl (by decide) (by decide) rfl (fun ls hl => ?_)
  refine lv_goto (tgt := 57) hx hb dX10_whichWord_141 (by decide) ?_
  refine lv_iload hx hb dX10_whichWord_57 (lv_at hl 0 rfl) ?_
  refine lv_aload_n hx hb dX10_whichWord_59 rfl (lv_at hl 6 rfl) ?_
  refine md_goi hG (md_runT (As := []) (rest := [.int 9]) hx hb hml hown hW hK hT hG (c_length l D cy tx base Z K N (u2 M 23 4 0) R J 2 (by decide)) s_X10_38 ⟨rfl, rfl, ⟨Nat.le_of_ble_eq_true rfl, Nat.le_of_ble_eq_true rfl⟩, ⟨Nat.le_of_ble_eq_true rfl, Nat.le_of_ble_eq_true rfl⟩⟩ (by decide) rfl hl.1 rfl (Nat.le_of_ble_eq_true rfl) dX10_whichWord_60) (fun r u H locs hp hG => ?_)
  obtain ⟨hr9, rfl⟩ := hp
  have hG : md_G D cy base Z K N (u2 M 23 4 0) R J s H locs := hG
  refine md_top (y := 12) (hr9.trans (by decide)) ?_
  clear hr9
  refine lv_icmp_ge (tgt := 144) hx hb dX10_whichWord_63 (by decide) (fun h => absurd h (by decide)) (fun _ => ?_)
  refine lv_aload_n hx hb dX10_whichWord_66 rfl (lv_at hl 6 rfl) ?_
  refine lv_iload hx hb dX10_whichWord_67 (lv_at hl 0 rfl) ?_
  refine md_goi hG (md_runT (As := [.int 9]) (rest := []) hx hb hml hown hW hK hT hG (c_charAt l D cy tx base Z K N (u2 M 23 4 0) R J 2 (by decide) 9 (md_inD (by decide)) (by decide)) s_X10_42 ⟨rfl, rfl, ⟨Nat.le_of_ble_eq_true rfl, Nat.le_of_ble_eq_true rfl⟩, ⟨Nat.le_of_ble_eq_true rfl, Nat.le_of_ble_eq_true rfl⟩⟩ (by decide) rfl hl.1 rfl (Nat.le_of_ble_eq_true rfl) dX10_whichWord_69) (fun r u H locs hp hG => ?_)
  obtain ⟨hr9, rfl⟩ := hp
  have hG : md_G D cy base Z K N (u2 M 23 4 0) R J s H locs := hG
  refine md_top (y := 101) (hr9.trans (by decide)) ?_
  clear hr9
  refine lv_istore (lv' := [(6, .int 101), (5, .int 9), (4, .int (-1)), (3, .int 2), (2, .int 0), (0, .ref (base + 23)), (1, .ref (tx.1 2))]) hx hb dX10_whichWord_72 hl (by decide) rfl (fun ls hl => ?_)
  refine lv_iload hx hb dX10_whichWord_74 (lv_at hl 0 rfl) ?_
  refine lv_bipush (v := 32) hx hb dX10_whichWord_76 (by decide) ?_
  refine lv_icmp_ne (tgt := 101) hx hb dX10_whichWord_78 (by decide) (fun _ => ?_) (fun h => absurd h (by decide))
  refine lv_iload hx hb dX10_whichWord_101 (lv_at hl 2 rfl) ?_
  refine lv_aload_n hx hb dX10_whichWord_103 rfl (lv_at hl 5 rfl) ?_
  refine md_geti hx hb hW hown hK hG f_X10_25_8 (Nat.lt_of_lt_of_le (by decide) hZ) hK23 (v := 0) hM23_2 dX10_whichWord_104 ?_
  refine lv_icmp_lt (tgt := 138) hx hb dX10_whichWord_107 (by decide) (fun _ => ?_) (fun h => absurd h (by decide))
  refine lv_iinc (v := 10) (lv' := [(5, .int 10), (6, .int 101), (4, .int (-1)), (3, .int 2), (2, .int 0), (0, .ref (base + 23)), (1, .ref (tx.1 2))]) hx hb dX10_whichWord_138 hl (k := 1) rfl (by decide) (by decide) rfl (fun ls hl => ?_)
  refine lv_goto (tgt := 57) hx hb dX10_whichWord_141 (by decide) ?_
  refine lv_iload hx hb dX10_whichWord_57 (lv_at hl 0 rfl) ?_
  refine lv_aload_n hx hb dX10_whichWord_59 rfl (lv_at hl 6 rfl) ?_
  refine md_goi hG (md_runT (As := []) (rest := [.int 10]) hx hb hml hown hW hK hT hG (c_length l D cy tx base Z K N (u2 M 23 4 0) R J 2 (by decide)) s_X10_38 ⟨rfl, rfl, ⟨Nat.le_of_ble_eq_true rfl, Nat.le_of_ble_eq_true rfl⟩, ⟨Nat.le_of_ble_eq_true rfl, Nat.le_of_ble_eq_true rfl⟩⟩ (by decide) rfl hl.1 rfl (Nat.le_of_ble_eq_true rfl) dX10_whichWord_60) (fun r u H locs hp hG => ?_)
  obtain ⟨hr9, rfl⟩ := hp
  have hG : md_G D cy base Z K N (u2 M 23 4 0) R J s H locs := hG
  refine md_top (y := 12) (hr9.trans (by decide)) ?_
  clear hr9
  refine lv_icmp_ge (tgt := 144) hx hb dX10_whichWord_63 (by decide) (fun h => absurd h (by decide)) (fun _ => ?_)
  refine lv_aload_n hx hb dX10_whichWord_66 rfl (lv_at hl 6 rfl) ?_
  refine lv_iload hx hb dX10_whichWord_67 (lv_at hl 0 rfl) ?_
  refine md_goi hG (md_runT (As := [.int 10]) (rest := []) hx hb hml hown hW hK hT hG (c_charAt l D cy tx base Z K N (u2 M 23 4 0) R J 2 (by decide) 10 (md_inD (by decide)) (by decide)) s_X10_42 ⟨rfl, rfl, ⟨Nat.le_of_ble_eq_true rfl, Nat.le_of_ble_eq_true rfl⟩, ⟨Nat.le_of_ble_eq_true rfl, Nat.le_of_ble_eq_true rfl⟩⟩ (by decide) rfl hl.1 rfl (Nat.le_of_ble_eq_true rfl) dX10_whichWord_69) (fun r u H locs hp hG => ?_)
  obtain ⟨hr9, rfl⟩ := hp
  have hG : md_G D cy base Z K N (u2 M 23 4 0) R J s H locs := hG
  refine md_top (y := 112) (hr9.trans (by decide)) ?_
  clear hr9
  refine lv_istore (lv' := [(6, .int 112), (5, .int 10), (4, .int (-1)), (3, .int 2), (2, .int 0), (0, .ref (base + 23)), (1, .ref (tx.1 2))]) hx hb dX10_whichWord_72 hl (by decide) rfl (fun ls hl => ?_)
  refine lv_iload hx hb dX10_whichWord_74 (lv_at hl 0 rfl) ?_
  refine lv_bipush (v := 32) hx hb dX10_whichWord_76 (by decide) ?_
  refine lv_icmp_ne (tgt := 101) hx hb dX10_whichWord_78 (by decide) (fun _ => ?_) (fun h => absurd h (by decide))
  refine lv_iload hx hb dX10_whichWord_101 (lv_at hl 2 rfl) ?_
  refine lv_aload_n hx hb dX10_whichWord_103 rfl (lv_at hl 5 rfl) ?_
  refine md_geti hx hb hW hown hK hG f_X10_25_8 (Nat.lt_of_lt_of_le (by decide) hZ) hK23 (v := 0) hM23_2 dX10_whichWord_104 ?_
  refine lv_icmp_lt (tgt := 138) hx hb dX10_whichWord_107 (by decide) (fun _ => ?_) (fun h => absurd h (by decide))
  refine lv_iinc (v := 11) (lv' := [(5, .int 11), (6, .int 112), (4, .int (-1)), (3, .int 2), (2, .int 0), (0, .ref (base + 23)), (1, .ref (tx.1 2))]) hx hb dX10_whichWord_138 hl (k := 1) rfl (by decide) (by decide) rfl (fun ls hl => ?_)
  refine lv_goto (tgt := 57) hx hb dX10_whichWord_141 (by decide) ?_
  refine lv_iload hx hb dX10_whichWord_57 (lv_at hl 0 rfl) ?_
  refine lv_aload_n hx hb dX10_whichWord_59 rfl (lv_at hl 6 rfl) ?_
  refine md_goi hG (md_runT (As := []) (rest := [.int 11]) hx hb hml hown hW hK hT hG (c_length l D cy tx base Z K N (u2 M 23 4 0) R J 2 (by decide)) s_X10_38 ⟨rfl, rfl, ⟨Nat.le_of_ble_eq_true rfl, Nat.le_of_ble_eq_true rfl⟩, ⟨Nat.le_of_ble_eq_true rfl, Nat.le_of_ble_eq_true rfl⟩⟩ (by decide) rfl hl.1 rfl (Nat.le_of_ble_eq_true rfl) dX10_whichWord_60) (fun r u H locs hp hG => ?_)
  obtain ⟨hr9, rfl⟩ := hp
  have hG : md_G D cy base Z K N (u2 M 23 4 0) R J s H locs := hG
  refine md_top (y := 12) (hr9.trans (by decide)) ?_
  clear hr9
  refine lv_icmp_ge (tgt := 144) hx hb dX10_whichWord_63 (by decide) (fun h => absurd h (by decide)) (fun _ => ?_)
  refine lv_aload_n hx hb dX10_whichWord_66 rfl (lv_at hl 6 rfl) ?_
  refine lv_iload hx hb dX10_whichWord_67 (lv_at hl 0 rfl) ?_
  refine md_goi hG (md_runT (As := [.int 11]) (rest := []) hx hb hml hown hW hK hT hG (c_charAt l D cy tx base Z K N (u2 M 23 4 0) R J 2 (by decide) 11 (md_inD (by decide)) (by decide)) s_X10_42 ⟨rfl, rfl, ⟨Nat.le_of_ble_eq_true rfl, Nat.le_of_ble_eq_true rfl⟩, ⟨Nat.le_of_ble_eq_true rfl, Nat.le_of_ble_eq_true rfl⟩⟩ (by decide) rfl hl.1 rfl (Nat.le_of_ble_eq_true rfl) dX10_whichWord_69) (fun r u H locs hp hG => ?_)
  obtain ⟨hr9, rfl⟩ := hp
  have hG : md_G D cy base Z K N (u2 M 23 4 0) R J s H locs := hG
  refine md_top (y := 32) (hr9.trans (by decide)) ?_
  clear hr9
  refine lv_istore (lv' := [(6, .int 32), (5, .int 11), (4, .int (-1)), (3, .int 2), (2, .int 0), (0, .ref (base + 23)), (1, .ref (tx.1 2))]) hx hb dX10_whichWord_72 hl (by decide) rfl (fun ls hl => ?_)
  refine lv_iload hx hb dX10_whichWord_74 (lv_at hl 0 rfl) ?_
  refine lv_bipush (v := 32) hx hb dX10_whichWord_76 (by decide) ?_
  refine lv_icmp_ne (tgt := 101) hx hb dX10_whichWord_78 (by decide) (fun h => absurd h (by decide)) (fun _ => ?_)
  refine lv_iload hx hb dX10_whichWord_81 (lv_at hl 2 rfl) ?_
  refine lv_iload_n hx hb dX10_whichWord_83 rfl (lv_at hl 4 rfl) ?_
  refine lv_icmp_ne (tgt := 89) hx hb dX10_whichWord_84 (by decide) (fun _ => ?_) (fun h => absurd h (by decide))
  refine lv_iinc (v := 3) (lv' := [(3, .int 3), (6, .int 32), (5, .int 11), (4, .int (-1)), (2, .int 0), (0, .ref (base + 23)), (1, .ref (tx.1 2))]) hx hb dX10_whichWord_89 hl (k := 3) rfl (by decide) (by decide) rfl (fun ls hl => ?_)
  refine lv_aload_n hx hb dX10_whichWord_92 rfl (lv_at hl 5 rfl) ?_
  refine md_geti hx hb hW hown hK hG f_X10_25_8 (Nat.lt_of_lt_of_le (by decide) hZ) hK23 (v := 0) hM23_2 dX10_whichWord_93 ?_
  refine lv_istore (lv' := [(4, .int 0), (3, .int 3), (6, .int 32), (5, .int 11), (2, .int 0), (0, .ref (base + 23)), (1, .ref (tx.1 2))]) hx hb dX10_whichWord_96 hl (by decide) rfl (fun ls hl => ?_)
  refine lv_goto (tgt := 138) hx hb dX10_whichWord_98 (by decide) ?_
  refine lv_iinc (v := 12) (lv' := [(5, .int 12), (4, .int 0), (3, .int 3), (6, .int 32), (2, .int 0), (0, .ref (base + 23)), (1, .ref (tx.1 2))]) hx hb dX10_whichWord_138 hl (k := 3) rfl (by decide) (by decide) rfl (fun ls hl => ?_)
  refine lv_goto (tgt := 57) hx hb dX10_whichWord_141 (by decide) ?_
  refine lv_iload hx hb dX10_whichWord_57 (lv_at hl 0 rfl) ?_
  refine lv_aload_n hx hb dX10_whichWord_59 rfl (lv_at hl 6 rfl) ?_
  refine md_goi hG (md_runT (As := []) (rest := [.int 12]) hx hb hml hown hW hK hT hG (c_length l D cy tx base Z K N (u2 M 23 4 0) R J 2 (by decide)) s_X10_38 ⟨rfl, rfl, ⟨Nat.le_of_ble_eq_true rfl, Nat.le_of_ble_eq_true rfl⟩, ⟨Nat.le_of_ble_eq_true rfl, Nat.le_of_ble_eq_true rfl⟩⟩ (by decide) rfl hl.1 rfl (Nat.le_of_ble_eq_true rfl) dX10_whichWord_60) (fun r u H locs hp hG => ?_)
  obtain ⟨hr9, rfl⟩ := hp
  have hG : md_G D cy base Z K N (u2 M 23 4 0) R J s H locs := hG
  refine md_top (y := 12) (hr9.trans (by decide)) ?_
  clear hr9
  refine lv_icmp_ge (tgt := 144) hx hb dX10_whichWord_63 (by decide) (fun _ => ?_) (fun h => absurd h (by decide))
  refine lv_iconst (v := (-1)) hx hb dX10_whichWord_144 (by decide) ?_
  exact md_endi hx hb hr hlocks hK hT hG (⟨rfl, rfl⟩) dX10_whichWord_145
set_option maxRecDepth 100000 in
set_option maxHeartbeats 4000000 in
theorem c_X10_fail_2 (l : Launch) (D : va_G) (cy : Nat → ClassId) (tx : (Nat → Nat) × (Nat → Nat)) (base Z : Nat) (K N : Nat → Nat) (M : Nat → Nat → Int32) (R : Nat → Nat → Option Nat) (J : Nat → Nat → Int64) (hZ : 104 ≤ Z) (hK23 : K 23 = 9) (hM23_3 : M 23 3 = 0) : Met l yX10_fail [Cond.code yX10_fail cX10_fail 3 none] (md_rm 1 0 0) (va_Pc [.ref (base + 23), .int 0, .int 0] (md_U D cy tx base Z K N M R J)) (mQv D cy tx base (fun u => u = (Z, K, N, (u2 M 23 3 1), R, J))) 0 0 (fun q => base ≤ q) := by
  refine Met.ofW (cc := cX10_fail) (maxL := 3) (ret := none) (by decide) rfl ?_
  intro p e s m args below meth c s₁ B hml hv
  have hW : ∀ w ∈ lw_tbl, goodWord w = true → w.before args s = true := fun w h g => hv.2.2.2.1.2.1 w h g _
  obtain ⟨rfl, hU⟩ := hv
  have hx := B.exec
  have hb := B.bytes
  have hr := B.returns
  have hlocks := B.notSynchronized
  have hown : s.vm.findClass RX10 = some m.cls := findClass_of_methodNamed B.named
  have hK := hU.2.2.1
  have hT := hU.2.2.2
  have hG := md_G.start hU
  have hl := lv_entry ([.ref (base + 23), .int 0, .int 0]) (n := 3) (Nat.le_of_ble_eq_true rfl)
  rw [lg_entry_eq]
  generalize (lg_sl ([.ref (base + 23), .int 0, .int 0]) ++ List.replicate (3 - (lg_sl ([.ref (base + 23), .int 0, .int 0])).length) Slot.unset).toArray = ls at hl ⊢
  have hl : lv_has ls 3 [(0, .ref (base + 23)), (1, .int 0), (2, .int 0)] := hl
  refine lv_aload_n hx hb dX10_fail_0 rfl (lv_at hl 0 rfl) ?_
  refine md_geti hx hb hW hown hK hG f_X10_28_8 (Nat.lt_of_lt_of_le (by decide) hZ) hK23 (v := 0) hM23_3 dX10_fail_1 ?_
  refine lv_if_ne (tgt := 19) hx hb dX10_fail_4 (by decide) (fun h => absurd h (by decide)) (fun _ => ?_)
  refine lv_aload_n hx hb dX10_fail_7 rfl (lv_at hl 0 rfl) ?_
  refine lv_iconst (v := 1) hx hb dX10_fail_8 (by decide) ?_
  refine lv_bipush (v := 8) hx hb dX10_fail_9 (by decide) ?_
  refine lv_iload_n hx hb dX10_fail_11 rfl (lv_at hl 1 rfl) ?_
  refine lv_imul hx hb dX10_fail_12 ?_
  refine md_top (y := 0) (by decide) ?_
  refine lv_iadd hx hb dX10_fail_13 ?_
  refine md_top (y := 1) (by decide) ?_
  refine lv_iload_n hx hb dX10_fail_14 rfl (lv_at hl 2 rfl) ?_
  refine lv_iadd hx hb dX10_fail_15 ?_
  refine md_top (y := 1) (by decide) ?_
  refine md_puti hx hb hW hown hK hG f_X10_28_8 (Nat.lt_of_lt_of_le (by decide) hZ) hK23 rfl rfl dX10_fail_16 (fun H locs hG => ?_)
  exact md_endv hx hb hr hlocks hK hT hG (rfl) dX10_fail_19
set_option maxRecDepth 100000 in
set_option maxHeartbeats 4000000 in
theorem c_X10_goesOn_2 (l : Launch) (D : va_G) (cy : Nat → ClassId) (tx : (Nat → Nat) × (Nat → Nat)) (base Z : Nat) (K N : Nat → Nat) (M : Nat → Nat → Int32) (R : Nat → Nat → Option Nat) (J : Nat → Nat → Int64) (hZ : 104 ≤ Z) (hK23 : K 23 = 9) (hM23_2 : M 23 2 = 0) (hM23_1 : M 23 1 = 0) (hM23_3 : M 23 3 = 1) : Met l yX10_goesOn [Cond.code yX10_goesOn cX10_goesOn 2 (some .boolean)] (md_rm 3 0 0) (va_Pc [.ref (base + 23)] (md_U D cy tx base Z K N M R J)) (mQi D cy tx base (fun r u => r = 0 ∧ u = (Z, K, N, M, R, J))) 0 0 (fun q => base ≤ q) := by
  refine Met.ofW (cc := cX10_goesOn) (maxL := 2) (ret := (some .boolean)) (by decide) rfl ?_
  intro p e s m args below meth c s₁ B hml hv
  have hW : ∀ w ∈ lw_tbl, goodWord w = true → w.before args s = true := fun w h g => hv.2.2.2.1.2.1 w h g _
  obtain ⟨rfl, hU⟩ := hv
  have hx := B.exec
  have hb := B.bytes
  have hr := B.returns
  have hlocks := B.notSynchronized
  have hown : s.vm.findClass RX10 = some m.cls := findClass_of_methodNamed B.named
  have hK := hU.2.2.1
  have hT := hU.2.2.2
  have hG := md_G.start hU
  have hl := lv_entry ([.ref (base + 23)]) (n := 2) (Nat.le_of_ble_eq_true rfl)
  rw [lg_entry_eq]
  generalize (lg_sl ([.ref (base + 23)]) ++ List.replicate (2 - (lg_sl ([.ref (base + 23)])).length) Slot.unset).toArray = ls at hl ⊢
  have hl : lv_has ls 2 [(0, .ref (base + 23))] := hl
  refine lv_aload_n hx hb dX10_goesOn_0 rfl (lv_at hl 0 rfl) ?_
  refine md_goi hG (md_runU (As := []) (rest := []) hx hb hml hown hW hK hT hG (c_X10_hereBehindBlanks_2 l D cy tx base  Z  K N M R J hZ hK23 hM23_2 hM23_1 ) s_X10_54_X8 ⟨rfl, rfl, ⟨Nat.le_of_ble_eq_true rfl, Nat.le_of_ble_eq_true rfl⟩, ⟨Nat.le_of_ble_eq_true rfl, Nat.le_of_ble_eq_true rfl⟩⟩ (Nat.lt_of_lt_of_le (by decide) hZ) hK23 (by decide) rfl rfl hl.1 rfl (Nat.le_of_ble_eq_true rfl) dX10_goesOn_1) (fun r u H locs hp hG => ?_)
  obtain ⟨rfl, rfl⟩ := hp
  have hG : md_G D cy base Z K N M R J s H locs := hG
  refine lv_istore_n (lv' := [(1, .int (-1)), (0, .ref (base + 23))]) hx hb dX10_goesOn_4 rfl hl (by decide) rfl (fun ls hl => ?_)
  refine lv_aload_n hx hb dX10_goesOn_5 rfl (lv_at hl 1 rfl) ?_
  refine md_geti hx hb hW hown hK hG f_X10_28_8 (Nat.lt_of_lt_of_le (by decide) hZ) hK23 (v := 1) hM23_3 dX10_goesOn_6 ?_
  refine lv_if_ne (tgt := 23) hx hb dX10_goesOn_9 (by decide) (fun _ => ?_) (fun h => absurd h (by decide))
  refine lv_iconst (v := 0) hx hb dX10_goesOn_23 (by decide) ?_
  exact md_endz hx hb hr hlocks hK hT hG rfl (⟨rfl, rfl⟩) dX10_goesOn_24
set_option maxRecDepth 100000 in
set_option maxHeartbeats 4000000 in
theorem c_X8_read (l : Launch) (D : va_G) (cy : Nat → ClassId) (tx : (Nat → Nat) × (Nat → Nat)) (base Z : Nat) (K N : Nat → Nat) (M : Nat → Nat → Int32) (R : Nat → Nat → Option Nat) (J : Nat → Nat → Int64) (hZ : 104 ≤ Z) (hK23 : K 23 = 9) (hK1 : K 1 = 13) (hN1 : N 1 = 400) : Met l yX8_read [Cond.code yX8_read cX8_read 7 (some .int)] (md_rm 6 0 0) (va_Pc [.ref (base + 23), .ref (base + 1), .int 0] (md_U D cy tx base Z K N M R J)) (mQi D cy tx base (fun r u => r = 1 ∧ u = (Z, K, N, (u2 (u2 (u2 (u2 (u2 (u2 (u2 M 23 1 0) 23 2 0) 23 3 0) 23 6 0) 23 7 0) 23 4 0) 23 3 1), (u2 R 23 0 (some 1)), J))) 0 0 (fun q => base ≤ q) := by
  refine Met.ofW (cc := cX8_read) (maxL := 7) (ret := (some .int)) (by decide) rfl ?_
  intro p e s m args below meth c s₁ B hml hv
  have hW : ∀ w ∈ lw_tbl, goodWord w = true → w.before args s = true := fun w h g => hv.2.2.2.1.2.1 w h g _
  obtain ⟨rfl, hU⟩ := hv
  have hx := B.exec
  have hb := B.bytes
  have hr := B.returns
  have hlocks := B.notSynchronized
  have hown : s.vm.findClass RX8 = some m.cls := findClass_of_methodNamed B.named
  have hK := hU.2.2.1
  have hT := hU.2.2.2
  have hG := md_G.start hU
  have hl := lv_entry ([.ref (base + 23), .ref (base + 1), .int 0]) (n := 7) (Nat.le_of_ble_eq_true rfl)
  rw [lg_entry_eq]
  generalize (lg_sl ([.ref (base + 23), .ref (base + 1), .int 0]) ++ List.replicate (7 - (lg_sl ([.ref (base + 23), .ref (base + 1), .int 0])).length) Slot.unset).toArray = ls at hl ⊢
  have hl : lv_has ls 7 [(0, .ref (base + 23)), (1, .ref (base + 1)), (2, .int 0)] := hl
  refine lv_aload_n hx hb dX8_read_0 rfl (lv_at hl 0 rfl) ?_
  refine lv_aload_n hx hb dX8_read_1 rfl (lv_at hl 1 rfl) ?_
  refine lv_iload_n hx hb dX8_read_2 rfl (lv_at hl 2 rfl) ?_
  refine md_gov hG (md_runU (As := [.ref (base + 1), .int 0]) (rest := []) hx hb hml hown hW hK hT hG (c_X10_begin_2 l D cy tx base  Z  K N M R J hZ hK23 hK1 hN1 ) s_X8_15_X8 ⟨rfl, rfl, ⟨Nat.le_of_ble_eq_true rfl, Nat.le_of_ble_eq_true rfl⟩, ⟨Nat.le_of_ble_eq_true rfl, Nat.le_of_ble_eq_true rfl⟩⟩ (Nat.lt_of_lt_of_le (by decide) hZ) hK23 (by decide) rfl rfl hl.1 rfl (Nat.le_of_ble_eq_true rfl) dX8_read_3) (fun u H locs hp hG => ?_)
  subst hp
  have hG : md_G D cy base Z K N (u2 (u2 (u2 M 23 1 0) 23 2 0) 23 3 0) (u2 R 23 0 (some 1)) J s H locs := hG
  refine lv_aload_n hx hb dX8_read_6 rfl (lv_at hl 0 rfl) ?_
  refine lv_iconst (v := 0) hx hb dX8_read_7 (by decide) ?_
  refine md_puti hx hb hW hown hK hG f_X8_19_8 (Nat.lt_of_lt_of_le (by decide) hZ) hK23 rfl rfl dX8_read_8 (fun H locs hG => ?_)
  refine lv_aload_n hx hb dX8_read_11 rfl (lv_at hl 0 rfl) ?_
  refine lv_iconst (v := 0) hx hb dX8_read_12 (by decide) ?_
  refine md_puti hx hb hW hown hK hG f_X8_23_8 (Nat.lt_of_lt_of_le (by decide) hZ) hK23 rfl rfl dX8_read_13 (fun H locs hG => ?_)
  refine lv_iconst (v := 1) hx hb dX8_read_16 (by decide) ?_
  refine lv_istore_n (lv' := [(3, .int 1), (0, .ref (base + 23)), (1, .ref (base + 1)), (2, .int 0)]) hx hb dX8_read_17 rfl hl (by decide) rfl (fun ls hl => ?_)
  refine lv_iconst (v := 0) hx hb dX8_read_18 (by decide) ?_
  refine lv_istore (lv' := [(4, .int 0), (3, .int 1), (0, .ref (base + 23)), (1, .ref (base + 1)), (2, .int 0)]) hx hb dX8_read_19 hl (by decide) rfl (fun ls hl => ?_)
  refine lv_iload_n hx hb dX8_read_21 rfl (lv_at hl 1 rfl) ?_
  refine lv_if_eq (tgt := 151) hx hb dX8_read_22 (by decide) (fun h => absurd h (by decide)) (fun _ => ?_)
  refine lv_iload hx hb dX8_read_25 (lv_at hl 0 rfl) ?_
  refine lv_bipush (v := 12) hx hb dX8_read_27 (by decide) ?_
  refine lv_icmp_gt (tgt := 151) hx hb dX8_read_29 (by decide) (fun h => absurd h (by decide)) (fun _ => ?_)
  refine lv_aload_n hx hb dX8_read_32 rfl (lv_at hl 2 rfl) ?_
  refine md_goi hG (md_runU (As := []) (rest := []) hx hb hml hown hW hK hT hG (c_X10_hereBehindBlanks_2 l D cy tx base  Z  K N (u2 (u2 (u2 (u2 (u2 M 23 1 0) 23 2 0) 23 3 0) 23 6 0) 23 7 0) (u2 R 23 0 (some 1)) J hZ hK23 rfl rfl ) s_X8_26_X8 ⟨rfl, rfl, ⟨Nat.le_of_ble_eq_true rfl, Nat.le_of_ble_eq_true rfl⟩, ⟨Nat.le_of_ble_eq_true rfl, Nat.le_of_ble_eq_true rfl⟩⟩ (Nat.lt_of_lt_of_le (by decide) hZ) hK23 (by decide) rfl rfl hl.1 rfl (Nat.le_of_ble_eq_true rfl) dX8_read_33) (fun r u H locs hp hG => ?_)
  obtain ⟨rfl, rfl⟩ := hp
  have hG : md_G D cy base Z K N (u2 (u2 (u2 (u2 (u2 M 23 1 0) 23 2 0) 23 3 0) 23 6 0) 23 7 0) (u2 R 23 0 (some 1)) J s H locs := hG
  refine lv_pop hx hb dX8_read_36 rfl ?_
  refine lv_aload_n hx hb dX8_read_37 rfl (lv_at hl 2 rfl) ?_
  refine va_ldcS hx hb hown hT.2.1.2.2.1 dX8_read_38 ?_
  refine md_goi hG (md_runU (As := [.ref (tx.1 2)]) (rest := []) hx hb hml hown hW hK hT hG (c_X10_whichWord_2 l D cy tx base  Z  K N (u2 (u2 (u2 (u2 (u2 M 23 1 0) 23 2 0) 23 3 0) 23 6 0) 23 7 0) (u2 R 23 0 (some 1)) J hZ hK23 rfl rfl ) s_X8_32_X8 ⟨rfl, rfl, ⟨Nat.le_of_ble_eq_true rfl, Nat.le_of_ble_eq_true rfl⟩, ⟨Nat.le_of_ble_eq_true rfl, Nat.le_of_ble_eq_true rfl⟩⟩ (Nat.lt_of_lt_of_le (by decide) hZ) hK23 (by decide) rfl rfl hl.1 rfl (Nat.le_of_ble_eq_true rfl) dX8_read_40) (fun r u H locs hp hG => ?_)
  obtain ⟨rfl, rfl⟩ := hp
  have hG : md_G D cy base Z K N (u2 (u2 (u2 (u2 (u2 (u2 M 23 1 0) 23 2 0) 23 3 0) 23 6 0) 23 7 0) 23 4 0) (u2 R 23 0 (some 1)) J s H locs := hG
  refine lv_istore (lv' := [(5, .int (-1)), (4, .int 0), (3, .int 1), (0, .ref (base + 23)), (1, .ref (base + 1)), (2, .int 0)]) hx hb dX8_read_43 hl (by decide) rfl (fun ls hl => ?_)
  refine lv_iload hx hb dX8_read_45 (lv_at hl 0 rfl) ?_
  refine lv_iconst (v := (-1)) hx hb dX8_read_47 (by decide) ?_
  refine lv_icmp_ne (tgt := 63) hx hb dX8_read_48 (by decide) (fun h => absurd h (by decide)) (fun _ => ?_)
  refine lv_aload_n hx hb dX8_read_51 rfl (lv_at hl 3 rfl) ?_
  refine lv_aload_n hx hb dX8_read_52 rfl (lv_at hl 3 rfl) ?_
  refine md_geti hx hb hW hown hK hG f_X8_36_8 (Nat.lt_of_lt_of_le (by decide) hZ) hK23 (v := 0) rfl dX8_read_53 ?_
  refine lv_iconst (v := 0) hx hb dX8_read_56 (by decide) ?_
  refine md_gov hG (md_runU (As := [.int 0, .int 0]) (rest := []) hx hb hml hown hW hK hT hG (c_X10_fail_2 l D cy tx base  Z  K N (u2 (u2 (u2 (u2 (u2 (u2 M 23 1 0) 23 2 0) 23 3 0) 23 6 0) 23 7 0) 23 4 0) (u2 R 23 0 (some 1)) J hZ hK23 rfl ) s_X8_39_X8 ⟨rfl, rfl, ⟨Nat.le_of_ble_eq_true rfl, Nat.le_of_ble_eq_true rfl⟩, ⟨Nat.le_of_ble_eq_true rfl, Nat.le_of_ble_eq_true rfl⟩⟩ (Nat.lt_of_lt_of_le (by decide) hZ) hK23 (by decide) rfl rfl hl.1 rfl (Nat.le_of_ble_eq_true rfl) dX8_read_57) (fun u H locs hp hG => ?_)
  subst hp
  have hG : md_G D cy base Z K N (u2 (u2 (u2 (u2 (u2 (u2 (u2 M 23 1 0) 23 2 0) 23 3 0) 23 6 0) 23 7 0) 23 4 0) 23 3 1) (u2 R 23 0 (some 1)) J s H locs := hG
  refine lv_goto (tgt := 140) hx hb dX8_read_60 (by decide) ?_
  refine lv_aload_n hx hb dX8_read_140 rfl (lv_at hl 3 rfl) ?_
  refine md_goi hG (md_runU (As := []) (rest := []) hx hb hml hown hW hK hT hG (c_X10_goesOn_2 l D cy tx base  Z  K N (u2 (u2 (u2 (u2 (u2 (u2 (u2 M 23 1 0) 23 2 0) 23 3 0) 23 6 0) 23 7 0) 23 4 0) 23 3 1) (u2 R 23 0 (some 1)) J hZ hK23 rfl rfl rfl ) s_X8_61_X8 ⟨rfl, rfl, ⟨Nat.le_of_ble_eq_true rfl, Nat.le_of_ble_eq_true rfl⟩, ⟨Nat.le_of_ble_eq_true rfl, Nat.le_of_ble_eq_true rfl⟩⟩ (Nat.lt_of_lt_of_le (by decide) hZ) hK23 (by decide) rfl rfl hl.1 rfl (Nat.le_of_ble_eq_true rfl) dX8_read_141) (fun r u H locs hp hG => ?_)
  obtain ⟨rfl, rfl⟩ := hp
  have hG : md_G D cy base Z K N (u2 (u2 (u2 (u2 (u2 (u2 (u2 M 23 1 0) 23 2 0) 23 3 0) 23 6 0) 23 7 0) 23 4 0) 23 3 1) (u2 R 23 0 (some 1)) J s H locs := hG
  refine lv_istore_n (lv' := [(3, .int 0), (5, .int (-1)), (4, .int 0), (0, .ref (base + 23)), (1, .ref (base + 1)), (2, .int 0)]) hx hb dX8_read_144 rfl hl (by decide) rfl (fun ls hl => ?_)
  refine lv_iinc (v := 1) (lv' := [(4, .int 1), (3, .int 0), (5, .int (-1)), (0, .ref (base + 23)), (1, .ref (base + 1)), (2, .int 0)]) hx hb dX8_read_145 hl (k := 2) rfl (by decide) (by decide) rfl (fun ls hl => ?_)
  refine lv_goto (tgt := 21) hx hb dX8_read_148 (by decide) ?_
  refine lv_iload_n hx hb dX8_read_21 rfl (lv_at hl 1 rfl) ?_
  refine lv_if_eq (tgt := 151) hx hb dX8_read_22 (by decide) (fun _ => ?_) (fun h => absurd h (by decide))
  refine lv_aload_n hx hb dX8_read_151 rfl (lv_at hl 3 rfl) ?_
  refine md_geti hx hb hW hown hK hG f_X8_65_8 (Nat.lt_of_lt_of_le (by decide) hZ) hK23 (v := 1) rfl dX8_read_152 ?_
  exact md_endi hx hb hr hlocks hK hT hG (⟨rfl, rfl⟩) dX8_read_155
set_option maxRecDepth 100000 in
set_option maxHeartbeats 4000000 in
theorem c_X11_rule (l : Launch) (D : va_G) (cy : Nat → ClassId) (tx : (Nat → Nat) × (Nat → Nat)) (base Z : Nat) (K N : Nat → Nat) (M : Nat → Nat → Int32) (R : Nat → Nat → Option Nat) (J : Nat → Nat → Int64) (hZ : 104 ≤ Z) (hK0 : K 0 = 11) (hM0_6 : M 0 6 = 0) (hR0_8 : R 0 8 = some 23) (hR0_0 : R 0 0 = some 1) (hM0_1 : M 0 1 = 0) (hK23 : K 23 = 9) (hK1 : K 1 = 13) (hN1 : N 1 = 400) : Met l yX11_rule [Cond.code yX11_rule cX11_rule 2 (some .int)] (md_rm 7 0 0) (va_Pc [.ref (base + 0)] (md_U D cy tx base Z K N M R J)) (mQi D cy tx base (fun r u => r = (-3) ∧ u = (Z, K, N, (u2 (u2 (u2 (u2 (u2 (u2 (u2 (u2 M 23 1 0) 23 2 0) 23 3 0) 23 6 0) 23 7 0) 23 4 0) 23 3 1) 0 1 0), (u2 R 23 0 (some 1)), J))) 0 0 (fun q => base ≤ q) := by
  refine Met.ofW (cc := cX11_rule) (maxL := 2) (ret := (some .int)) (by decide) rfl ?_
  intro p e s m args below meth c s₁ B hml hv
  have hW : ∀ w ∈ lw_tbl, goodWord w = true → w.before args s = true := fun w h g => hv.2.2.2.1.2.1 w h g _
  obtain ⟨rfl, hU⟩ := hv
  have hx := B.exec
  have hb := B.bytes
  have hr := B.returns
  have hlocks := B.notSynchronized
  have hown : s.vm.findClass RX11 = some m.cls := findClass_of_methodNamed B.named
  have hK := hU.2.2.1
  have hT := hU.2.2.2
  have hG := md_G.start hU
  have hl := lv_entry ([.ref (base + 0)]) (n := 2) (Nat.le_of_ble_eq_true rfl)
  rw [lg_entry_eq]
  generalize (lg_sl ([.ref (base + 0)]) ++ List.replicate (2 - (lg_sl ([.ref (base + 0)])).length) Slot.unset).toArray = ls at hl ⊢
  have hl : lv_has ls 2 [(0, .ref (base + 0))] := hl
  refine lv_aload_n hx hb dX11_rule_0 rfl (lv_at hl 0 rfl) ?_
  refine md_geti hx hb hW hown hK hG f_X11_119_10 (Nat.lt_of_lt_of_le (by decide) hZ) hK0 (v := 0) hM0_6 dX11_rule_1 ?_
  refine lv_bipush (v := 6) hx hb dX11_rule_4 (by decide) ?_
  refine lv_icmp_lt (tgt := 11) hx hb dX11_rule_6 (by decide) (fun _ => ?_) (fun h => absurd h (by decide))
  refine lv_aload_n hx hb dX11_rule_11 rfl (lv_at hl 0 rfl) ?_
  refine md_getr hx hb hW hown hK hG f_X11_53_10 (Nat.lt_of_lt_of_le (by decide) hZ) hK0 (b := 23) hR0_8 dX11_rule_12 ?_
  refine lv_aload_n hx hb dX11_rule_15 rfl (lv_at hl 0 rfl) ?_
  refine md_getr hx hb hW hown hK hG f_X11_9_10 (Nat.lt_of_lt_of_le (by decide) hZ) hK0 (b := 1) hR0_0 dX11_rule_16 ?_
  refine lv_aload_n hx hb dX11_rule_19 rfl (lv_at hl 0 rfl) ?_
  refine md_geti hx hb hW hown hK hG f_X11_94_10 (Nat.lt_of_lt_of_le (by decide) hZ) hK0 (v := 0) hM0_1 dX11_rule_20 ?_
  refine md_goi hG (md_runV (As := [.ref (base + 1), .int 0]) (rest := []) hx hb hml hown hW hK hT hG (c_X8_read l D cy tx base  Z  K N M R J hZ hK23 hK1 hN1 ) s_X11_122 ⟨rfl, rfl, ⟨Nat.le_of_ble_eq_true rfl, Nat.le_of_ble_eq_true rfl⟩, ⟨Nat.le_of_ble_eq_true rfl, Nat.le_of_ble_eq_true rfl⟩⟩ (Nat.lt_of_lt_of_le (by decide) hZ) hK23 (by decide) rfl rfl hl.1 rfl (Nat.le_of_ble_eq_true rfl) dX11_rule_23) (fun r u H locs hp hG => ?_)
  obtain ⟨rfl, rfl⟩ := hp
  have hG : md_G D cy base Z K N (u2 (u2 (u2 (u2 (u2 (u2 (u2 M 23 1 0) 23 2 0) 23 3 0) 23 6 0) 23 7 0) 23 4 0) 23 3 1) (u2 R 23 0 (some 1)) J s H locs := hG
  refine lv_istore_n (lv' := [(1, .int 1), (0, .ref (base + 0))]) hx hb dX11_rule_26 rfl hl (by decide) rfl (fun ls hl => ?_)
  refine lv_aload_n hx hb dX11_rule_27 rfl (lv_at hl 1 rfl) ?_
  refine lv_iconst (v := 0) hx hb dX11_rule_28 (by decide) ?_
  refine md_puti hx hb hW hown hK hG f_X11_94_10 (Nat.lt_of_lt_of_le (by decide) hZ) hK0 rfl rfl dX11_rule_29 (fun H locs hG => ?_)
  refine lv_iload_n hx hb dX11_rule_32 rfl (lv_at hl 0 rfl) ?_
  refine lv_if_eq (tgt := 41) hx hb dX11_rule_33 (by decide) (fun h => absurd h (by decide)) (fun _ => ?_)
  refine lv_bipush (v := (-2)) hx hb dX11_rule_36 (by decide) ?_
  refine lv_iload_n hx hb dX11_rule_38 rfl (lv_at hl 0 rfl) ?_
  refine lv_isub hx hb dX11_rule_39 ?_
  refine md_top (y := (-3)) (by decide) ?_
  exact md_endi hx hb hr hlocks hK hT hG (⟨rfl, rfl⟩) dX11_rule_40
set_option maxRecDepth 100000 in
set_option maxHeartbeats 4000000 in
theorem c_X9_hasMember (l : Launch) (D : va_G) (cy : Nat → ClassId) (tx : (Nat → Nat) × (Nat → Nat)) (base Z : Nat) (K N : Nat → Nat) (M : Nat → Nat → Int32) (R : Nat → Nat → Option Nat) (J : Nat → Nat → Int64) (hZ : 104 ≤ Z) (hK4 : K 4 = 10) (hM4_0 : M 4 0 = 0) (p1 : Int32) : Met l yX9_hasMember [Cond.code yX9_hasMember cX9_hasMember 2 (some .boolean)] (md_rm 1 0 0) (va_Pc [.ref (base + 4), .int p1] (md_U D cy tx base Z K N M R J)) (mQi D cy tx base (fun r u => r = 0 ∧ u = (Z, K, N, M, R, J))) 0 0 (fun q => base ≤ q) := by
  refine Met.ofW (cc := cX9_hasMember) (maxL := 2) (ret := (some .boolean)) (by decide) rfl ?_
  intro p e s m args below meth c s₁ B hml hv
  have hW : ∀ w ∈ lw_tbl, goodWord w = true → w.before args s = true := fun w h g => hv.2.2.2.1.2.1 w h g _
  obtain ⟨rfl, hU⟩ := hv
  have hx := B.exec
  have hb := B.bytes
  have hr := B.returns
  have hlocks := B.notSynchronized
  have hown : s.vm.findClass RX9 = some m.cls := findClass_of_methodNamed B.named
  have hK := hU.2.2.1
  have hT := hU.2.2.2
  have hG := md_G.start hU
  have hl := lv_entry ([.ref (base + 4), .int p1]) (n := 2) (Nat.le_of_ble_eq_true rfl)
  rw [lg_entry_eq]
  generalize (lg_sl ([.ref (base + 4), .int p1]) ++ List.replicate (2 - (lg_sl ([.ref (base + 4), .int p1])).length) Slot.unset).toArray = ls at hl ⊢
  have hl : lv_has ls 2 [(0, .ref (base + 4)), (1, .int p1)] := hl
  refine lv_iload_n hx hb dX9_hasMember_0 rfl (lv_at hl 1 rfl) ?_
  refine lv_if_lt (tgt := 16) hx hb dX9_hasMember_1 (by decide) (fun c1 => ?_) (fun c1 => ?_)
  · refine lv_iconst (v := 0) hx hb dX9_hasMember_16 (by decide) ?_
    exact md_endz hx hb hr hlocks hK hT hG rfl (⟨rfl, rfl⟩) dX9_hasMember_17
  · refine lv_iload_n hx hb dX9_hasMember_4 rfl (lv_at hl 1 rfl) ?_
    refine lv_aload_n hx hb dX9_hasMember_5 rfl (lv_at hl 0 rfl) ?_
    refine md_geti hx hb hW hown hK hG f_X9_33_9 (Nat.lt_of_lt_of_le (by decide) hZ) hK4 (v := 0) hM4_0 dX9_hasMember_6 ?_
    refine lv_icmp_ge (tgt := 16) hx hb dX9_hasMember_9 (by decide) (fun _ => ?_) (fun h => absurd (Int32.not_lt.mp c1) h)
    refine lv_iconst (v := 0) hx hb dX9_hasMember_16 (by decide) ?_
    exact md_endz hx hb hr hlocks hK hT hG rfl (⟨rfl, rfl⟩) dX9_hasMember_17
set_option maxRecDepth 100000 in
set_option maxHeartbeats 4000000 in
theorem c_X11_voice (l : Launch) (D : va_G) (cy : Nat → ClassId) (tx : (Nat → Nat) × (Nat → Nat)) (base Z : Nat) (K N : Nat → Nat) (M : Nat → Nat → Int32) (R : Nat → Nat → Option Nat) (J : Nat → Nat → Int64) (hZ : 104 ≤ Z) (hK0 : K 0 = 11) (hR0_3 : R 0 3 = some 4) (hK4 : K 4 = 10) (hM4_0 : M 4 0 = 0) (p1 : Int32) (p2 : Int32) : Met l yX11_voice [Cond.code yX11_voice cX11_voice 3 (some .int)] (md_rm 2 0 0) (va_Pc [.ref (base + 0), .int p1, .int p2] (md_U D cy tx base Z K N M R J)) (mQi D cy tx base (fun r u => r = (-1) ∧ u = (Z, K, N, M, R, J))) 0 0 (fun q => base ≤ q) := by
  refine Met.ofW (cc := cX11_voice) (maxL := 3) (ret := (some .int)) (by decide) rfl ?_
  intro p e s m args below meth c s₁ B hml hv
  have hW : ∀ w ∈ lw_tbl, goodWord w = true → w.before args s = true := fun w h g => hv.2.2.2.1.2.1 w h g _
  obtain ⟨rfl, hU⟩ := hv
  have hx := B.exec
  have hb := B.bytes
  have hr := B.returns
  have hlocks := B.notSynchronized
  have hown : s.vm.findClass RX11 = some m.cls := findClass_of_methodNamed B.named
  have hK := hU.2.2.1
  have hT := hU.2.2.2
  have hG := md_G.start hU
  have hl := lv_entry ([.ref (base + 0), .int p1, .int p2]) (n := 3) (Nat.le_of_ble_eq_true rfl)
  rw [lg_entry_eq]
  generalize (lg_sl ([.ref (base + 0), .int p1, .int p2]) ++ List.replicate (3 - (lg_sl ([.ref (base + 0), .int p1, .int p2])).length) Slot.unset).toArray = ls at hl ⊢
  have hl : lv_has ls 3 [(0, .ref (base + 0)), (1, .int p1), (2, .int p2)] := hl
  refine lv_aload_n hx hb dX11_voice_0 rfl (lv_at hl 0 rfl) ?_
  refine md_getr hx hb hW hown hK hG f_X11_31_10 (Nat.lt_of_lt_of_le (by decide) hZ) hK0 (b := 4) hR0_3 dX11_voice_1 ?_
  refine lv_iload_n hx hb dX11_voice_4 rfl (lv_at hl 1 rfl) ?_
  refine md_goi hG (md_runV (As := [.int p1]) (rest := []) hx hb hml hown hW hK hT hG (c_X9_hasMember l D cy tx base  Z  K N M R J hZ hK4 hM4_0 p1) s_X11_132 ⟨rfl, rfl, ⟨Nat.le_of_ble_eq_true rfl, Nat.le_of_ble_eq_true rfl⟩, ⟨Nat.le_of_ble_eq_true rfl, Nat.le_of_ble_eq_true rfl⟩⟩ (Nat.lt_of_lt_of_le (by decide) hZ) hK4 (by decide) rfl rfl hl.1 rfl (Nat.le_of_ble_eq_true rfl) dX11_voice_5) (fun r u H locs hp hG => ?_)
  obtain ⟨rfl, rfl⟩ := hp
  have hG : md_G D cy base Z K N M R J s H locs := hG
  refine lv_if_ne (tgt := 13) hx hb dX11_voice_8 (by decide) (fun h => absurd h (by decide)) (fun _ => ?_)
  refine lv_iconst (v := (-1)) hx hb dX11_voice_11 (by decide) ?_
  exact md_endi hx hb hr hlocks hK hT hG (⟨rfl, rfl⟩) dX11_voice_12
set_option maxRecDepth 100000 in
set_option maxHeartbeats 4000000 in
theorem c_X11_worth (l : Launch) (D : va_G) (cy : Nat → ClassId) (tx : (Nat → Nat) × (Nat → Nat)) (base Z : Nat) (K N : Nat → Nat) (M : Nat → Nat → Int32) (R : Nat → Nat → Option Nat) (J : Nat → Nat → Int64) (hZ : 104 ≤ Z) (hK0 : K 0 = 11) (hR0_3 : R 0 3 = some 4) (hK4 : K 4 = 10) (hM4_0 : M 4 0 = 0) (p1 : Int32) (p2 : Int32) : Met l yX11_worth [Cond.code yX11_worth cX11_worth 3 (some .int)] (md_rm 2 0 0) (va_Pc [.ref (base + 0), .int p1, .int p2] (md_U D cy tx base Z K N M R J)) (mQi D cy tx base (fun r u => r = (-1000) ∧ u = (Z, K, N, M, R, J))) 0 0 (fun q => base ≤ q) := by
  refine Met.ofW (cc := cX11_worth) (maxL := 3) (ret := (some .int)) (by decide) rfl ?_
  intro p e s m args below meth c s₁ B hml hv
  have hW : ∀ w ∈ lw_tbl, goodWord w = true → w.before args s = true := fun w h g => hv.2.2.2.1.2.1 w h g _
  obtain ⟨rfl, hU⟩ := hv
  have hx := B.exec
  have hb := B.bytes
  have hr := B.returns
  have hlocks := B.notSynchronized
  have hown : s.vm.findClass RX11 = some m.cls := findClass_of_methodNamed B.named
  have hK := hU.2.2.1
  have hT := hU.2.2.2
  have hG := md_G.start hU
  have hl := lv_entry ([.ref (base + 0), .int p1, .int p2]) (n := 3) (Nat.le_of_ble_eq_true rfl)
  rw [lg_entry_eq]
  generalize (lg_sl ([.ref (base + 0), .int p1, .int p2]) ++ List.replicate (3 - (lg_sl ([.ref (base + 0), .int p1, .int p2])).length) Slot.unset).toArray = ls at hl ⊢
  have hl : lv_has ls 3 [(0, .ref (base + 0)), (1, .int p1), (2, .int p2)] := hl
  refine lv_aload_n hx hb dX11_worth_0 rfl (lv_at hl 0 rfl) ?_
  refine md_getr hx hb hW hown hK hG f_X11_31_10 (Nat.lt_of_lt_of_le (by decide) hZ) hK0 (b := 4) hR0_3 dX11_worth_1 ?_
  refine lv_iload_n hx hb dX11_worth_4 rfl (lv_at hl 1 rfl) ?_
  refine md_goi hG (md_runV (As := [.int p1]) (rest := []) hx hb hml hown hW hK hT hG (c_X9_hasMember l D cy tx base  Z  K N M R J hZ hK4 hM4_0 p1) s_X11_132 ⟨rfl, rfl, ⟨Nat.le_of_ble_eq_true rfl, Nat.le_of_ble_eq_true rfl⟩, ⟨Nat.le_of_ble_eq_true rfl, Nat.le_of_ble_eq_true rfl⟩⟩ (Nat.lt_of_lt_of_le (by decide) hZ) hK4 (by decide) rfl rfl hl.1 rfl (Nat.le_of_ble_eq_true rfl) dX11_worth_5) (fun r u H locs hp hG => ?_)
  obtain ⟨rfl, rfl⟩ := hp
  have hG : md_G D cy base Z K N M R J s H locs := hG
  refine lv_if_eq (tgt := 34) hx hb dX11_worth_8 (by decide) (fun _ => ?_) (fun h => absurd h (by decide))
  refine lv_sipush (v := (-1000)) hx hb dX11_worth_34 (by decide) ?_
  exact md_endi hx hb hr hlocks hK hT hG (⟨rfl, rfl⟩) dX11_worth_37
set_option maxRecDepth 100000 in
set_option maxHeartbeats 4000000 in
theorem c_X11_refuse (l : Launch) (D : va_G) (cy : Nat → ClassId) (tx : (Nat → Nat) × (Nat → Nat)) (base Z : Nat) (K N : Nat → Nat) (M : Nat → Nat → Int32) (R : Nat → Nat → Option Nat) (J : Nat → Nat → Int64) (hZ : 104 ≤ Z) (hK0 : K 0 = 11) (hR0_2 : R 0 2 = some 2) (hK2 : K 2 = 14) (hN2 : N 2 = 2) (hM2_0 : M 2 0 = 0) : Met l yX11_refuse [Cond.code yX11_refuse cX11_refuse 2 (some .int)] (md_rm 1 0 0) (va_Pc [.ref (base + 0), .int 0] (md_U D cy tx base Z K N M R J)) (mQi D cy tx base (fun r u => r = (-2) ∧ u = (Z, K, N, (u2 M 2 0 1), R, J))) 0 0 (fun q => base ≤ q) := by
  refine Met.ofW (cc := cX11_refuse) (maxL := 2) (ret := (some .int)) (by decide) rfl ?_
  intro p e s m args below meth c s₁ B hml hv
  have hW : ∀ w ∈ lw_tbl, goodWord w = true → w.before args s = true := fun w h g => hv.2.2.2.1.2.1 w h g _
  obtain ⟨rfl, hU⟩ := hv
  have hx := B.exec
  have hb := B.bytes
  have hr := B.returns
  have hlocks := B.notSynchronized
  have hown : s.vm.findClass RX11 = some m.cls := findClass_of_methodNamed B.named
  have hK := hU.2.2.1
  have hT := hU.2.2.2
  have hG := md_G.start hU
  have hl := lv_entry ([.ref (base + 0), .int 0]) (n := 2) (Nat.le_of_ble_eq_true rfl)
  rw [lg_entry_eq]
  generalize (lg_sl ([.ref (base + 0), .int 0]) ++ List.replicate (2 - (lg_sl ([.ref (base + 0), .int 0])).length) Slot.unset).toArray = ls at hl ⊢
  have hl : lv_has ls 2 [(0, .ref (base + 0)), (1, .int 0)] := hl
  refine lv_iload_n hx hb dX11_refuse_0 rfl (lv_at hl 1 rfl) ?_
  refine lv_if_lt (tgt := 23) hx hb dX11_refuse_1 (by decide) (fun h => absurd h (by decide)) (fun _ => ?_)
  refine lv_iload_n hx hb dX11_refuse_4 rfl (lv_at hl 1 rfl) ?_
  refine lv_aload_n hx hb dX11_refuse_5 rfl (lv_at hl 0 rfl) ?_
  refine md_getr hx hb hW hown hK hG f_X11_13_10 (Nat.lt_of_lt_of_le (by decide) hZ) hK0 (b := 2) hR0_2 dX11_refuse_6 ?_
  refine md_alen (t := 14) hx hb hK hG (Nat.lt_of_lt_of_le (by decide) hZ) hK2 ⟨by decide, by decide⟩ hN2 (v := 2) (by decide) dX11_refuse_9 ?_
  refine lv_icmp_ge (tgt := 23) hx hb dX11_refuse_10 (by decide) (fun h => absurd h (by decide)) (fun _ => ?_)
  refine lv_aload_n hx hb dX11_refuse_13 rfl (lv_at hl 0 rfl) ?_
  refine md_getr hx hb hW hown hK hG f_X11_13_10 (Nat.lt_of_lt_of_le (by decide) hZ) hK0 (b := 2) hR0_2 dX11_refuse_14 ?_
  refine lv_iload_n hx hb dX11_refuse_17 rfl (lv_at hl 1 rfl) ?_
  refine lv_dup2_11 hx hb dX11_refuse_18 rfl rfl ?_
  refine md_iald hx hb hK hG (Nat.lt_of_lt_of_le (by decide) hZ) hK2 hN2 (md_inD (by decide)) (v := 0) hM2_0 dX11_refuse_19 ?_
  refine lv_iconst (v := 1) hx hb dX11_refuse_20 (by decide) ?_
  refine lv_iadd hx hb dX11_refuse_21 ?_
  refine md_top (y := 1) (by decide) ?_
  refine md_iast hx hb hK hG (Nat.lt_of_lt_of_le (by decide) hZ) hK2 hN2 (md_inD (by decide)) (k := 0) (by decide) dX11_refuse_22 (fun H locs hG => ?_)
  refine lv_bipush (v := (-2)) hx hb dX11_refuse_23 (by decide) ?_
  exact md_endi hx hb hr hlocks hK hT hG (⟨rfl, rfl⟩) dX11_refuse_25
set_option maxRecDepth 100000 in
set_option maxHeartbeats 4000000 in
theorem c_X11_bend (l : Launch) (D : va_G) (cy : Nat → ClassId) (tx : (Nat → Nat) × (Nat → Nat)) (base Z : Nat) (K N : Nat → Nat) (M : Nat → Nat → Int32) (R : Nat → Nat → Option Nat) (J : Nat → Nat → Int64) (hZ : 104 ≤ Z) (hK0 : K 0 = 11) (hR0_3 : R 0 3 = some 4) (hK4 : K 4 = 10) (hM4_0 : M 4 0 = 0) (hR0_2 : R 0 2 = some 2) (hK2 : K 2 = 14) (hN2 : N 2 = 2) (hM2_0 : M 2 0 = 0) (p1 : Int32) (p2 : Int32) : Met l yX11_bend [Cond.code yX11_bend cX11_bend 4 (some .int)] (md_rm 2 0 0) (va_Pc [.ref (base + 0), .int p1, .int p2] (md_U D cy tx base Z K N M R J)) (mQi D cy tx base (fun r u => r = (-2) ∧ u = (Z, K, N, (u2 M 2 0 1), R, J))) 0 0 (fun q => base ≤ q) := by
  refine Met.ofW (cc := cX11_bend) (maxL := 4) (ret := (some .int)) (by decide) rfl ?_
  intro p e s m args below meth c s₁ B hml hv
  have hW : ∀ w ∈ lw_tbl, goodWord w = true → w.before args s = true := fun w h g => hv.2.2.2.1.2.1 w h g _
  obtain ⟨rfl, hU⟩ := hv
  have hx := B.exec
  have hb := B.bytes
  have hr := B.returns
  have hlocks := B.notSynchronized
  have hown : s.vm.findClass RX11 = some m.cls := findClass_of_methodNamed B.named
  have hK := hU.2.2.1
  have hT := hU.2.2.2
  have hG := md_G.start hU
  have hl := lv_entry ([.ref (base + 0), .int p1, .int p2]) (n := 4) (Nat.le_of_ble_eq_true rfl)
  rw [lg_entry_eq]
  generalize (lg_sl ([.ref (base + 0), .int p1, .int p2]) ++ List.replicate (4 - (lg_sl ([.ref (base + 0), .int p1, .int p2])).length) Slot.unset).toArray = ls at hl ⊢
  have hl : lv_has ls 4 [(0, .ref (base + 0)), (1, .int p1), (2, .int p2)] := hl
  refine lv_aload_n hx hb dX11_bend_0 rfl (lv_at hl 0 rfl) ?_
  refine md_getr hx hb hW hown hK hG f_X11_31_10 (Nat.lt_of_lt_of_le (by decide) hZ) hK0 (b := 4) hR0_3 dX11_bend_1 ?_
  refine lv_iload_n hx hb dX11_bend_4 rfl (lv_at hl 1 rfl) ?_
  refine md_goi hG (md_runV (As := [.int p1]) (rest := []) hx hb hml hown hW hK hT hG (c_X9_hasMember l D cy tx base  Z  K N M R J hZ hK4 hM4_0 p1) s_X11_132 ⟨rfl, rfl, ⟨Nat.le_of_ble_eq_true rfl, Nat.le_of_ble_eq_true rfl⟩, ⟨Nat.le_of_ble_eq_true rfl, Nat.le_of_ble_eq_true rfl⟩⟩ (Nat.lt_of_lt_of_le (by decide) hZ) hK4 (by decide) rfl rfl hl.1 rfl (Nat.le_of_ble_eq_true rfl) dX11_bend_5) (fun r u H locs hp hG => ?_)
  obtain ⟨rfl, rfl⟩ := hp
  have hG : md_G D cy base Z K N M R J s H locs := hG
  refine lv_if_eq (tgt := 22) hx hb dX11_bend_8 (by decide) (fun _ => ?_) (fun h => absurd h (by decide))
  refine lv_aload_n hx hb dX11_bend_22 rfl (lv_at hl 0 rfl) ?_
  refine lv_iconst (v := 0) hx hb dX11_bend_23 (by decide) ?_
  refine md_goi hG (md_runV (As := [.int 0]) (rest := []) hx hb hml hown hW hK hT hG (c_X11_refuse l D cy tx base  Z  K N M R J hZ hK0 hR0_2 hK2 hN2 hM2_0 ) s_X11_158 ⟨rfl, rfl, ⟨Nat.le_of_ble_eq_true rfl, Nat.le_of_ble_eq_true rfl⟩, ⟨Nat.le_of_ble_eq_true rfl, Nat.le_of_ble_eq_true rfl⟩⟩ (Nat.lt_of_lt_of_le (by decide) hZ) hK0 (by decide) rfl rfl hl.1 rfl (Nat.le_of_ble_eq_true rfl) dX11_bend_24) (fun r u H locs hp hG => ?_)
  obtain ⟨rfl, rfl⟩ := hp
  have hG : md_G D cy base Z K N (u2 M 2 0 1) R J s H locs := hG
  exact md_endi hx hb hr hlocks hK hT hG (⟨rfl, rfl⟩) dX11_bend_27
set_option maxRecDepth 100000 in
set_option maxHeartbeats 4000000 in
theorem c_X11_attends (l : Launch) (D : va_G) (cy : Nat → ClassId) (tx : (Nat → Nat) × (Nat → Nat)) (base Z : Nat) (K N : Nat → Nat) (M : Nat → Nat → Int32) (R : Nat → Nat → Option Nat) (J : Nat → Nat → Int64) (hZ : 104 ≤ Z) (hK0 : K 0 = 11) (hR0_3 : R 0 3 = some 4) (hK4 : K 4 = 10) (hM4_0 : M 4 0 = 0) (hR0_2 : R 0 2 = some 2) (hK2 : K 2 = 14) (hN2 : N 2 = 2) (hM2_0 : M 2 0 = 0) (p1 : Int32) (p2 : Int32) : Met l yX11_attends [Cond.code yX11_attends cX11_attends 3 (some .int)] (md_rm 2 0 0) (va_Pc [.ref (base + 0), .int p1, .int p2] (md_U D cy tx base Z K N M R J)) (mQi D cy tx base (fun r u => r = (-2) ∧ u = (Z, K, N, (u2 M 2 0 1), R, J))) 0 0 (fun q => base ≤ q) := by
  refine Met.ofW (cc := cX11_attends) (maxL := 3) (ret := (some .int)) (by decide) rfl ?_
  intro p e s m args below meth c s₁ B hml hv
  have hW : ∀ w ∈ lw_tbl, goodWord w = true → w.before args s = true := fun w h g => hv.2.2.2.1.2.1 w h g _
  obtain ⟨rfl, hU⟩ := hv
  have hx := B.exec
  have hb := B.bytes
  have hr := B.returns
  have hlocks := B.notSynchronized
  have hown : s.vm.findClass RX11 = some m.cls := findClass_of_methodNamed B.named
  have hK := hU.2.2.1
  have hT := hU.2.2.2
  have hG := md_G.start hU
  have hl := lv_entry ([.ref (base + 0), .int p1, .int p2]) (n := 3) (Nat.le_of_ble_eq_true rfl)
  rw [lg_entry_eq]
  generalize (lg_sl ([.ref (base + 0), .int p1, .int p2]) ++ List.replicate (3 - (lg_sl ([.ref (base + 0), .int p1, .int p2])).length) Slot.unset).toArray = ls at hl ⊢
  have hl : lv_has ls 3 [(0, .ref (base + 0)), (1, .int p1), (2, .int p2)] := hl
  refine lv_aload_n hx hb dX11_attends_0 rfl (lv_at hl 0 rfl) ?_
  refine md_getr hx hb hW hown hK hG f_X11_31_10 (Nat.lt_of_lt_of_le (by decide) hZ) hK0 (b := 4) hR0_3 dX11_attends_1 ?_
  refine lv_iload_n hx hb dX11_attends_4 rfl (lv_at hl 1 rfl) ?_
  refine md_goi hG (md_runV (As := [.int p1]) (rest := []) hx hb hml hown hW hK hT hG (c_X9_hasMember l D cy tx base  Z  K N M R J hZ hK4 hM4_0 p1) s_X11_132 ⟨rfl, rfl, ⟨Nat.le_of_ble_eq_true rfl, Nat.le_of_ble_eq_true rfl⟩, ⟨Nat.le_of_ble_eq_true rfl, Nat.le_of_ble_eq_true rfl⟩⟩ (Nat.lt_of_lt_of_le (by decide) hZ) hK4 (by decide) rfl rfl hl.1 rfl (Nat.le_of_ble_eq_true rfl) dX11_attends_5) (fun r u H locs hp hG => ?_)
  obtain ⟨rfl, rfl⟩ := hp
  have hG : md_G D cy base Z K N M R J s H locs := hG
  refine lv_if_eq (tgt := 23) hx hb dX11_attends_8 (by decide) (fun _ => ?_) (fun h => absurd h (by decide))
  refine lv_aload_n hx hb dX11_attends_23 rfl (lv_at hl 0 rfl) ?_
  refine lv_iconst (v := 0) hx hb dX11_attends_24 (by decide) ?_
  refine md_goi hG (md_runV (As := [.int 0]) (rest := []) hx hb hml hown hW hK hT hG (c_X11_refuse l D cy tx base  Z  K N M R J hZ hK0 hR0_2 hK2 hN2 hM2_0 ) s_X11_158 ⟨rfl, rfl, ⟨Nat.le_of_ble_eq_true rfl, Nat.le_of_ble_eq_true rfl⟩, ⟨Nat.le_of_ble_eq_true rfl, Nat.le_of_ble_eq_true rfl⟩⟩ (Nat.lt_of_lt_of_le (by decide) hZ) hK0 (by decide) rfl rfl hl.1 rfl (Nat.le_of_ble_eq_true rfl) dX11_attends_25) (fun r u H locs hp hG => ?_)
  obtain ⟨rfl, rfl⟩ := hp
  have hG : md_G D cy base Z K N (u2 M 2 0 1) R J s H locs := hG
  exact md_endi hx hb hr hlocks hK hT hG (⟨rfl, rfl⟩) dX11_attends_28
set_option maxRecDepth 100000 in
set_option maxHeartbeats 4000000 in
theorem c_X9_hasCouncil (l : Launch) (D : va_G) (cy : Nat → ClassId) (tx : (Nat → Nat) × (Nat → Nat)) (base Z : Nat) (K N : Nat → Nat) (M : Nat → Nat → Int32) (R : Nat → Nat → Option Nat) (J : Nat → Nat → Int64) (hZ : 104 ≤ Z) (hK4 : K 4 = 10) (hM4_0 : M 4 0 = 0) : Met l yX9_hasCouncil [Cond.code yX9_hasCouncil cX9_hasCouncil 1 (some .boolean)] (md_rm 1 0 0) (va_Pc [.ref (base + 4)] (md_U D cy tx base Z K N M R J)) (mQi D cy tx base (fun r u => r = 0 ∧ u = (Z, K, N, M, R, J))) 0 0 (fun q => base ≤ q) := by
  refine Met.ofW (cc := cX9_hasCouncil) (maxL := 1) (ret := (some .boolean)) (by decide) rfl ?_
  intro p e s m args below meth c s₁ B hml hv
  have hW : ∀ w ∈ lw_tbl, goodWord w = true → w.before args s = true := fun w h g => hv.2.2.2.1.2.1 w h g _
  obtain ⟨rfl, hU⟩ := hv
  have hx := B.exec
  have hb := B.bytes
  have hr := B.returns
  have hlocks := B.notSynchronized
  have hown : s.vm.findClass RX9 = some m.cls := findClass_of_methodNamed B.named
  have hK := hU.2.2.1
  have hT := hU.2.2.2
  have hG := md_G.start hU
  have hl := lv_entry ([.ref (base + 4)]) (n := 1) (Nat.le_of_ble_eq_true rfl)
  rw [lg_entry_eq]
  generalize (lg_sl ([.ref (base + 4)]) ++ List.replicate (1 - (lg_sl ([.ref (base + 4)])).length) Slot.unset).toArray = ls at hl ⊢
  have hl : lv_has ls 1 [(0, .ref (base + 4))] := hl
  refine lv_aload_n hx hb dX9_hasCouncil_0 rfl (lv_at hl 0 rfl) ?_
  refine md_geti hx hb hW hown hK hG f_X9_33_9 (Nat.lt_of_lt_of_le (by decide) hZ) hK4 (v := 0) hM4_0 dX9_hasCouncil_1 ?_
  refine lv_if_le (tgt := 11) hx hb dX9_hasCouncil_4 (by decide) (fun _ => ?_) (fun h => absurd h (by decide))
  refine lv_iconst (v := 0) hx hb dX9_hasCouncil_11 (by decide) ?_
  exact md_endz hx hb hr hlocks hK hT hG rfl (⟨rfl, rfl⟩) dX9_hasCouncil_12
set_option maxRecDepth 100000 in
set_option maxHeartbeats 4000000 in
theorem c_X11_beside (l : Launch) (D : va_G) (cy : Nat → ClassId) (tx : (Nat → Nat) × (Nat → Nat)) (base Z : Nat) (K N : Nat → Nat) (M : Nat → Nat → Int32) (R : Nat → Nat → Option Nat) (J : Nat → Nat → Int64) (hZ : 104 ≤ Z) (hK0 : K 0 = 11) (hR0_3 : R 0 3 = some 4) (hK4 : K 4 = 10) (hM4_0 : M 4 0 = 0) (hR0_2 : R 0 2 = some 2) (hK2 : K 2 = 14) (hN2 : N 2 = 2) (hM2_0 : M 2 0 = 0) (p1 : Int32) (p2 : Int32) : Met l yX11_beside [Cond.code yX11_beside cX11_beside 5 (some .int)] (md_rm 2 0 0) (va_Pc [.ref (base + 0), .int p1, .int p2] (md_U D cy tx base Z K N M R J)) (mQi D cy tx base (fun r u => r = (-2) ∧ u = (Z, K, N, (u2 M 2 0 1), R, J))) 0 0 (fun q => base ≤ q) := by
  refine Met.ofW (cc := cX11_beside) (maxL := 5) (ret := (some .int)) (by decide) rfl ?_
  intro p e s m args below meth c s₁ B hml hv
  have hW : ∀ w ∈ lw_tbl, goodWord w = true → w.before args s = true := fun w h g => hv.2.2.2.1.2.1 w h g _
  obtain ⟨rfl, hU⟩ := hv
  have hx := B.exec
  have hb := B.bytes
  have hr := B.returns
  have hlocks := B.notSynchronized
  have hown : s.vm.findClass RX11 = some m.cls := findClass_of_methodNamed B.named
  have hK := hU.2.2.1
  have hT := hU.2.2.2
  have hG := md_G.start hU
  have hl := lv_entry ([.ref (base + 0), .int p1, .int p2]) (n := 5) (Nat.le_of_ble_eq_true rfl)
  rw [lg_entry_eq]
  generalize (lg_sl ([.ref (base + 0), .int p1, .int p2]) ++ List.replicate (5 - (lg_sl ([.ref (base + 0), .int p1, .int p2])).length) Slot.unset).toArray = ls at hl ⊢
  have hl : lv_has ls 5 [(0, .ref (base + 0)), (1, .int p1), (2, .int p2)] := hl
  refine lv_iload_n hx hb dX11_beside_0 rfl (lv_at hl 1 rfl) ?_
  refine lv_if_lt (tgt := 25) hx hb dX11_beside_1 (by decide) (fun c1 => ?_) (fun c1 => ?_)
  · refine lv_iconst (v := 0) hx hb dX11_beside_25 (by decide) ?_
    refine lv_istore_n (lv' := [(3, .int 0), (0, .ref (base + 0)), (1, .int p1), (2, .int p2)]) hx hb dX11_beside_26 rfl hl (by decide) rfl (fun ls hl => ?_)
    refine lv_aload_n hx hb dX11_beside_27 rfl (lv_at hl 1 rfl) ?_
    refine md_getr hx hb hW hown hK hG f_X11_31_10 (Nat.lt_of_lt_of_le (by decide) hZ) hK0 (b := 4) hR0_3 dX11_beside_28 ?_
    refine md_goi hG (md_runV (As := []) (rest := []) hx hb hml hown hW hK hT hG (c_X9_hasCouncil l D cy tx base  Z  K N M R J hZ hK4 hM4_0 ) s_X11_170 ⟨rfl, rfl, ⟨Nat.le_of_ble_eq_true rfl, Nat.le_of_ble_eq_true rfl⟩, ⟨Nat.le_of_ble_eq_true rfl, Nat.le_of_ble_eq_true rfl⟩⟩ (Nat.lt_of_lt_of_le (by decide) hZ) hK4 (by decide) rfl rfl hl.1 rfl (Nat.le_of_ble_eq_true rfl) dX11_beside_31) (fun r u H locs hp hG => ?_)
    obtain ⟨rfl, rfl⟩ := hp
    have hG : md_G D cy base Z K N M R J s H locs := hG
    refine lv_if_eq (tgt := 41) hx hb dX11_beside_34 (by decide) (fun _ => ?_) (fun h => absurd h (by decide))
    refine lv_aload_n hx hb dX11_beside_41 rfl (lv_at hl 1 rfl) ?_
    refine lv_iconst (v := 0) hx hb dX11_beside_42 (by decide) ?_
    refine md_goi hG (md_runV (As := [.int 0]) (rest := []) hx hb hml hown hW hK hT hG (c_X11_refuse l D cy tx base  Z  K N M R J hZ hK0 hR0_2 hK2 hN2 hM2_0 ) s_X11_158 ⟨rfl, rfl, ⟨Nat.le_of_ble_eq_true rfl, Nat.le_of_ble_eq_true rfl⟩, ⟨Nat.le_of_ble_eq_true rfl, Nat.le_of_ble_eq_true rfl⟩⟩ (Nat.lt_of_lt_of_le (by decide) hZ) hK0 (by decide) rfl rfl hl.1 rfl (Nat.le_of_ble_eq_true rfl) dX11_beside_43) (fun r u H locs hp hG => ?_)
    obtain ⟨rfl, rfl⟩ := hp
    have hG : md_G D cy base Z K N (u2 M 2 0 1) R J s H locs := hG
    exact md_endi hx hb hr hlocks hK hT hG (⟨rfl, rfl⟩) dX11_beside_46
  · refine lv_iload_n hx hb dX11_beside_4 rfl (lv_at hl 1 rfl) ?_
    refine lv_iconst (v := 2) hx hb dX11_beside_5 (by decide) ?_
    refine lv_icmp_gt (tgt := 25) hx hb dX11_beside_6 (by decide) (fun c4 => ?_) (fun c4 => ?_)
    · refine lv_iconst (v := 0) hx hb dX11_beside_25 (by decide) ?_
      refine lv_istore_n (lv' := [(3, .int 0), (0, .ref (base + 0)), (1, .int p1), (2, .int p2)]) hx hb dX11_beside_26 rfl hl (by decide) rfl (fun ls hl => ?_)
      refine lv_aload_n hx hb dX11_beside_27 rfl (lv_at hl 1 rfl) ?_
      refine md_getr hx hb hW hown hK hG f_X11_31_10 (Nat.lt_of_lt_of_le (by decide) hZ) hK0 (b := 4) hR0_3 dX11_beside_28 ?_
      refine md_goi hG (md_runV (As := []) (rest := []) hx hb hml hown hW hK hT hG (c_X9_hasCouncil l D cy tx base  Z  K N M R J hZ hK4 hM4_0 ) s_X11_170 ⟨rfl, rfl, ⟨Nat.le_of_ble_eq_true rfl, Nat.le_of_ble_eq_true rfl⟩, ⟨Nat.le_of_ble_eq_true rfl, Nat.le_of_ble_eq_true rfl⟩⟩ (Nat.lt_of_lt_of_le (by decide) hZ) hK4 (by decide) rfl rfl hl.1 rfl (Nat.le_of_ble_eq_true rfl) dX11_beside_31) (fun r u H locs hp hG => ?_)
      obtain ⟨rfl, rfl⟩ := hp
      have hG : md_G D cy base Z K N M R J s H locs := hG
      refine lv_if_eq (tgt := 41) hx hb dX11_beside_34 (by decide) (fun _ => ?_) (fun h => absurd h (by decide))
      refine lv_aload_n hx hb dX11_beside_41 rfl (lv_at hl 1 rfl) ?_
      refine lv_iconst (v := 0) hx hb dX11_beside_42 (by decide) ?_
      refine md_goi hG (md_runV (As := [.int 0]) (rest := []) hx hb hml hown hW hK hT hG (c_X11_refuse l D cy tx base  Z  K N M R J hZ hK0 hR0_2 hK2 hN2 hM2_0 ) s_X11_158 ⟨rfl, rfl, ⟨Nat.le_of_ble_eq_true rfl, Nat.le_of_ble_eq_true rfl⟩, ⟨Nat.le_of_ble_eq_true rfl, Nat.le_of_ble_eq_true rfl⟩⟩ (Nat.lt_of_lt_of_le (by decide) hZ) hK0 (by decide) rfl rfl hl.1 rfl (Nat.le_of_ble_eq_true rfl) dX11_beside_43) (fun r u H locs hp hG => ?_)
      obtain ⟨rfl, rfl⟩ := hp
      have hG : md_G D cy base Z K N (u2 M 2 0 1) R J s H locs := hG
      exact md_endi hx hb hr hlocks hK hT hG (⟨rfl, rfl⟩) dX11_beside_46
    · refine lv_iload_n hx hb dX11_beside_9 rfl (lv_at hl 2 rfl) ?_
      refine lv_iconst (v := 1) hx hb dX11_beside_10 (by decide) ?_
      refine lv_icmp_lt (tgt := 25) hx hb dX11_beside_11 (by decide) (fun c7 => ?_) (fun c7 => ?_)
      · refine lv_iconst (v := 0) hx hb dX11_beside_25 (by decide) ?_
        refine lv_istore_n (lv' := [(3, .int 0), (0, .ref (base + 0)), (1, .int p1), (2, .int p2)]) hx hb dX11_beside_26 rfl hl (by decide) rfl (fun ls hl => ?_)
        refine lv_aload_n hx hb dX11_beside_27 rfl (lv_at hl 1 rfl) ?_
        refine md_getr hx hb hW hown hK hG f_X11_31_10 (Nat.lt_of_lt_of_le (by decide) hZ) hK0 (b := 4) hR0_3 dX11_beside_28 ?_
        refine md_goi hG (md_runV (As := []) (rest := []) hx hb hml hown hW hK hT hG (c_X9_hasCouncil l D cy tx base  Z  K N M R J hZ hK4 hM4_0 ) s_X11_170 ⟨rfl, rfl, ⟨Nat.le_of_ble_eq_true rfl, Nat.le_of_ble_eq_true rfl⟩, ⟨Nat.le_of_ble_eq_true rfl, Nat.le_of_ble_eq_true rfl⟩⟩ (Nat.lt_of_lt_of_le (by decide) hZ) hK4 (by decide) rfl rfl hl.1 rfl (Nat.le_of_ble_eq_true rfl) dX11_beside_31) (fun r u H locs hp hG => ?_)
        obtain ⟨rfl, rfl⟩ := hp
        have hG : md_G D cy base Z K N M R J s H locs := hG
        refine lv_if_eq (tgt := 41) hx hb dX11_beside_34 (by decide) (fun _ => ?_) (fun h => absurd h (by decide))
        refine lv_aload_n hx hb dX11_beside_41 rfl (lv_at hl 1 rfl) ?_
        refine lv_iconst (v := 0) hx hb dX11_beside_42 (by decide) ?_
        refine md_goi hG (md_runV (As := [.int 0]) (rest := []) hx hb hml hown hW hK hT hG (c_X11_refuse l D cy tx base  Z  K N M R J hZ hK0 hR0_2 hK2 hN2 hM2_0 ) s_X11_158 ⟨rfl, rfl, ⟨Nat.le_of_ble_eq_true rfl, Nat.le_of_ble_eq_true rfl⟩, ⟨Nat.le_of_ble_eq_true rfl, Nat.le_of_ble_eq_true rfl⟩⟩ (Nat.lt_of_lt_of_le (by decide) hZ) hK0 (by decide) rfl rfl hl.1 rfl (Nat.le_of_ble_eq_true rfl) dX11_beside_43) (fun r u H locs hp hG => ?_)
        obtain ⟨rfl, rfl⟩ := hp
        have hG : md_G D cy base Z K N (u2 M 2 0 1) R J s H locs := hG
        exact md_endi hx hb hr hlocks hK hT hG (⟨rfl, rfl⟩) dX11_beside_46
      · refine lv_iload_n hx hb dX11_beside_14 rfl (lv_at hl 2 rfl) ?_
        refine lv_sipush (v := 9999) hx hb dX11_beside_15 (by decide) ?_
        refine lv_icmp_gt (tgt := 25) hx hb dX11_beside_18 (by decide) (fun c10 => ?_) (fun c10 => ?_)
        · refine lv_iconst (v := 0) hx hb dX11_beside_25 (by decide) ?_
          refine lv_istore_n (lv' := [(3, .int 0), (0, .ref (base + 0)), (1, .int p1), (2, .int p2)]) hx hb dX11_beside_26 rfl hl (by decide) rfl (fun ls hl => ?_)
          refine lv_aload_n hx hb dX11_beside_27 rfl (lv_at hl 1 rfl) ?_
          refine md_getr hx hb hW hown hK hG f_X11_31_10 (Nat.lt_of_lt_of_le (by decide) hZ) hK0 (b := 4) hR0_3 dX11_beside_28 ?_
          refine md_goi hG (md_runV (As := []) (rest := []) hx hb hml hown hW hK hT hG (c_X9_hasCouncil l D cy tx base  Z  K N M R J hZ hK4 hM4_0 ) s_X11_170 ⟨rfl, rfl, ⟨Nat.le_of_ble_eq_true rfl, Nat.le_of_ble_eq_true rfl⟩, ⟨Nat.le_of_ble_eq_true rfl, Nat.le_of_ble_eq_true rfl⟩⟩ (Nat.lt_of_lt_of_le (by decide) hZ) hK4 (by decide) rfl rfl hl.1 rfl (Nat.le_of_ble_eq_true rfl) dX11_beside_31) (fun r u H locs hp hG => ?_)
          obtain ⟨rfl, rfl⟩ := hp
          have hG : md_G D cy base Z K N M R J s H locs := hG
          refine lv_if_eq (tgt := 41) hx hb dX11_beside_34 (by decide) (fun _ => ?_) (fun h => absurd h (by decide))
          refine lv_aload_n hx hb dX11_beside_41 rfl (lv_at hl 1 rfl) ?_
          refine lv_iconst (v := 0) hx hb dX11_beside_42 (by decide) ?_
          refine md_goi hG (md_runV (As := [.int 0]) (rest := []) hx hb hml hown hW hK hT hG (c_X11_refuse l D cy tx base  Z  K N M R J hZ hK0 hR0_2 hK2 hN2 hM2_0 ) s_X11_158 ⟨rfl, rfl, ⟨Nat.le_of_ble_eq_true rfl, Nat.le_of_ble_eq_true rfl⟩, ⟨Nat.le_of_ble_eq_true rfl, Nat.le_of_ble_eq_true rfl⟩⟩ (Nat.lt_of_lt_of_le (by decide) hZ) hK0 (by decide) rfl rfl hl.1 rfl (Nat.le_of_ble_eq_true rfl) dX11_beside_43) (fun r u H locs hp hG => ?_)
          obtain ⟨rfl, rfl⟩ := hp
          have hG : md_G D cy base Z K N (u2 M 2 0 1) R J s H locs := hG
          exact md_endi hx hb hr hlocks hK hT hG (⟨rfl, rfl⟩) dX11_beside_46
        · refine lv_iconst (v := 1) hx hb dX11_beside_21 (by decide) ?_
          refine lv_goto (tgt := 26) hx hb dX11_beside_22 (by decide) ?_
          refine lv_istore_n (lv' := [(3, .int 1), (0, .ref (base + 0)), (1, .int p1), (2, .int p2)]) hx hb dX11_beside_26 rfl hl (by decide) rfl (fun ls hl => ?_)
          refine lv_aload_n hx hb dX11_beside_27 rfl (lv_at hl 1 rfl) ?_
          refine md_getr hx hb hW hown hK hG f_X11_31_10 (Nat.lt_of_lt_of_le (by decide) hZ) hK0 (b := 4) hR0_3 dX11_beside_28 ?_
          refine md_goi hG (md_runV (As := []) (rest := []) hx hb hml hown hW hK hT hG (c_X9_hasCouncil l D cy tx base  Z  K N M R J hZ hK4 hM4_0 ) s_X11_170 ⟨rfl, rfl, ⟨Nat.le_of_ble_eq_true rfl, Nat.le_of_ble_eq_true rfl⟩, ⟨Nat.le_of_ble_eq_true rfl, Nat.le_of_ble_eq_true rfl⟩⟩ (Nat.lt_of_lt_of_le (by decide) hZ) hK4 (by decide) rfl rfl hl.1 rfl (Nat.le_of_ble_eq_true rfl) dX11_beside_31) (fun r u H locs hp hG => ?_)
          obtain ⟨rfl, rfl⟩ := hp
          have hG : md_G D cy base Z K N M R J s H locs := hG
          refine lv_if_eq (tgt := 41) hx hb dX11_beside_34 (by decide) (fun _ => ?_) (fun h => absurd h (by decide))
          refine lv_aload_n hx hb dX11_beside_41 rfl (lv_at hl 1 rfl) ?_
          refine lv_iconst (v := 0) hx hb dX11_beside_42 (by decide) ?_
          refine md_goi hG (md_runV (As := [.int 0]) (rest := []) hx hb hml hown hW hK hT hG (c_X11_refuse l D cy tx base  Z  K N M R J hZ hK0 hR0_2 hK2 hN2 hM2_0 ) s_X11_158 ⟨rfl, rfl, ⟨Nat.le_of_ble_eq_true rfl, Nat.le_of_ble_eq_true rfl⟩, ⟨Nat.le_of_ble_eq_true rfl, Nat.le_of_ble_eq_true rfl⟩⟩ (Nat.lt_of_lt_of_le (by decide) hZ) hK0 (by decide) rfl rfl hl.1 rfl (Nat.le_of_ble_eq_true rfl) dX11_beside_43) (fun r u H locs hp hG => ?_)
          obtain ⟨rfl, rfl⟩ := hp
          have hG : md_G D cy base Z K N (u2 M 2 0 1) R J s H locs := hG
          exact md_endi hx hb hr hlocks hK hT hG (⟨rfl, rfl⟩) dX11_beside_46
set_option maxRecDepth 100000 in
set_option maxHeartbeats 4000000 in
theorem c_X11_says (l : Launch) (D : va_G) (cy : Nat → ClassId) (tx : (Nat → Nat) × (Nat → Nat)) (base Z : Nat) (K N : Nat → Nat) (M : Nat → Nat → Int32) (R : Nat → Nat → Option Nat) (J : Nat → Nat → Int64) (hZ : 104 ≤ Z) (hK0 : K 0 = 11) (hR0_3 : R 0 3 = some 4) (hK4 : K 4 = 10) (hM4_0 : M 4 0 = 0) (p1 : Int32) (p2 : Int32) : Met l yX11_says [Cond.code yX11_says cX11_says 3 (some .int)] (md_rm 2 0 0) (va_Pc [.ref (base + 0), .int p1, .int p2] (md_U D cy tx base Z K N M R J)) (mQi D cy tx base (fun r u => r = (-1) ∧ u = (Z, K, N, M, R, J))) 0 0 (fun q => base ≤ q) := by
  refine Met.ofW (cc := cX11_says) (maxL := 3) (ret := (some .int)) (by decide) rfl ?_
  intro p e s m args below meth c s₁ B hml hv
  have hW : ∀ w ∈ lw_tbl, goodWord w = true → w.before args s = true := fun w h g => hv.2.2.2.1.2.1 w h g _
  obtain ⟨rfl, hU⟩ := hv
  have hx := B.exec
  have hb := B.bytes
  have hr := B.returns
  have hlocks := B.notSynchronized
  have hown : s.vm.findClass RX11 = some m.cls := findClass_of_methodNamed B.named
  have hK := hU.2.2.1
  have hT := hU.2.2.2
  have hG := md_G.start hU
  have hl := lv_entry ([.ref (base + 0), .int p1, .int p2]) (n := 3) (Nat.le_of_ble_eq_true rfl)
  rw [lg_entry_eq]
  generalize (lg_sl ([.ref (base + 0), .int p1, .int p2]) ++ List.replicate (3 - (lg_sl ([.ref (base + 0), .int p1, .int p2])).length) Slot.unset).toArray = ls at hl ⊢
  have hl : lv_has ls 3 [(0, .ref (base + 0)), (1, .int p1), (2, .int p2)] := hl
  refine lv_aload_n hx hb dX11_says_0 rfl (lv_at hl 0 rfl) ?_
  refine md_getr hx hb hW hown hK hG f_X11_31_10 (Nat.lt_of_lt_of_le (by decide) hZ) hK0 (b := 4) hR0_3 dX11_says_1 ?_
  refine lv_iload_n hx hb dX11_says_4 rfl (lv_at hl 1 rfl) ?_
  refine md_goi hG (md_runV (As := [.int p1]) (rest := []) hx hb hml hown hW hK hT hG (c_X9_hasMember l D cy tx base  Z  K N M R J hZ hK4 hM4_0 p1) s_X11_132 ⟨rfl, rfl, ⟨Nat.le_of_ble_eq_true rfl, Nat.le_of_ble_eq_true rfl⟩, ⟨Nat.le_of_ble_eq_true rfl, Nat.le_of_ble_eq_true rfl⟩⟩ (Nat.lt_of_lt_of_le (by decide) hZ) hK4 (by decide) rfl rfl hl.1 rfl (Nat.le_of_ble_eq_true rfl) dX11_says_5) (fun r u H locs hp hG => ?_)
  obtain ⟨rfl, rfl⟩ := hp
  have hG : md_G D cy base Z K N M R J s H locs := hG
  refine lv_if_eq (tgt := 33) hx hb dX11_says_8 (by decide) (fun _ => ?_) (fun h => absurd h (by decide))
  refine lv_iconst (v := (-1)) hx hb dX11_says_33 (by decide) ?_
  exact md_endi hx hb hr hlocks hK hT hG (⟨rfl, rfl⟩) dX11_says_34
set_option maxRecDepth 100000 in
set_option maxHeartbeats 4000000 in
theorem c_X9_hasPoint (l : Launch) (D : va_G) (cy : Nat → ClassId) (tx : (Nat → Nat) × (Nat → Nat)) (base Z : Nat) (K N : Nat → Nat) (M : Nat → Nat → Int32) (R : Nat → Nat → Option Nat) (J : Nat → Nat → Int64) (hZ : 104 ≤ Z) (hK4 : K 4 = 10) (hM4_1 : M 4 1 = 0) (p1 : Int32) : Met l yX9_hasPoint [Cond.code yX9_hasPoint cX9_hasPoint 2 (some .boolean)] (md_rm 1 0 0) (va_Pc [.ref (base + 4), .int p1] (md_U D cy tx base Z K N M R J)) (mQi D cy tx base (fun r u => r = 0 ∧ u = (Z, K, N, M, R, J))) 0 0 (fun q => base ≤ q) := by
  refine Met.ofW (cc := cX9_hasPoint) (maxL := 2) (ret := (some .boolean)) (by decide) rfl ?_
  intro p e s m args below meth c s₁ B hml hv
  have hW : ∀ w ∈ lw_tbl, goodWord w = true → w.before args s = true := fun w h g => hv.2.2.2.1.2.1 w h g _
  obtain ⟨rfl, hU⟩ := hv
  have hx := B.exec
  have hb := B.bytes
  have hr := B.returns
  have hlocks := B.notSynchronized
  have hown : s.vm.findClass RX9 = some m.cls := findClass_of_methodNamed B.named
  have hK := hU.2.2.1
  have hT := hU.2.2.2
  have hG := md_G.start hU
  have hl := lv_entry ([.ref (base + 4), .int p1]) (n := 2) (Nat.le_of_ble_eq_true rfl)
  rw [lg_entry_eq]
  generalize (lg_sl ([.ref (base + 4), .int p1]) ++ List.replicate (2 - (lg_sl ([.ref (base + 4), .int p1])).length) Slot.unset).toArray = ls at hl ⊢
  have hl : lv_has ls 2 [(0, .ref (base + 4)), (1, .int p1)] := hl
  refine lv_iload_n hx hb dX9_hasPoint_0 rfl (lv_at hl 1 rfl) ?_
  refine lv_if_lt (tgt := 16) hx hb dX9_hasPoint_1 (by decide) (fun c1 => ?_) (fun c1 => ?_)
  · refine lv_iconst (v := 0) hx hb dX9_hasPoint_16 (by decide) ?_
    exact md_endz hx hb hr hlocks hK hT hG rfl (⟨rfl, rfl⟩) dX9_hasPoint_17
  · refine lv_iload_n hx hb dX9_hasPoint_4 rfl (lv_at hl 1 rfl) ?_
    refine lv_aload_n hx hb dX9_hasPoint_5 rfl (lv_at hl 0 rfl) ?_
    refine md_geti hx hb hW hown hK hG f_X9_37_9 (Nat.lt_of_lt_of_le (by decide) hZ) hK4 (v := 0) hM4_1 dX9_hasPoint_6 ?_
    refine lv_icmp_ge (tgt := 16) hx hb dX9_hasPoint_9 (by decide) (fun _ => ?_) (fun h => absurd (Int32.not_lt.mp c1) h)
    refine lv_iconst (v := 0) hx hb dX9_hasPoint_16 (by decide) ?_
    exact md_endz hx hb hr hlocks hK hT hG rfl (⟨rfl, rfl⟩) dX9_hasPoint_17
set_option maxRecDepth 100000 in
set_option maxHeartbeats 4000000 in
theorem c_X11_vote (l : Launch) (D : va_G) (cy : Nat → ClassId) (tx : (Nat → Nat) × (Nat → Nat)) (base Z : Nat) (K N : Nat → Nat) (M : Nat → Nat → Int32) (R : Nat → Nat → Option Nat) (J : Nat → Nat → Int64) (hZ : 104 ≤ Z) (hK0 : K 0 = 11) (hR0_3 : R 0 3 = some 4) (hK4 : K 4 = 10) (hM4_1 : M 4 1 = 0) (hR0_2 : R 0 2 = some 2) (hK2 : K 2 = 14) (hN2 : N 2 = 2) (hM2_0 : M 2 0 = 0) (p1 : Int32) : Met l yX11_vote [Cond.code yX11_vote cX11_vote 2 (some .int)] (md_rm 2 0 0) (va_Pc [.ref (base + 0), .int p1] (md_U D cy tx base Z K N M R J)) (mQi D cy tx base (fun r u => r = (-2) ∧ u = (Z, K, N, (u2 M 2 0 1), R, J))) 0 0 (fun q => base ≤ q) := by
  refine Met.ofW (cc := cX11_vote) (maxL := 2) (ret := (some .int)) (by decide) rfl ?_
  intro p e s m args below meth c s₁ B hml hv
  have hW : ∀ w ∈ lw_tbl, goodWord w = true → w.before args s = true := fun w h g => hv.2.2.2.1.2.1 w h g _
  obtain ⟨rfl, hU⟩ := hv
  have hx := B.exec
  have hb := B.bytes
  have hr := B.returns
  have hlocks := B.notSynchronized
  have hown : s.vm.findClass RX11 = some m.cls := findClass_of_methodNamed B.named
  have hK := hU.2.2.1
  have hT := hU.2.2.2
  have hG := md_G.start hU
  have hl := lv_entry ([.ref (base + 0), .int p1]) (n := 2) (Nat.le_of_ble_eq_true rfl)
  rw [lg_entry_eq]
  generalize (lg_sl ([.ref (base + 0), .int p1]) ++ List.replicate (2 - (lg_sl ([.ref (base + 0), .int p1])).length) Slot.unset).toArray = ls at hl ⊢
  have hl : lv_has ls 2 [(0, .ref (base + 0)), (1, .int p1)] := hl
  refine lv_aload_n hx hb dX11_vote_0 rfl (lv_at hl 0 rfl) ?_
  refine md_getr hx hb hW hown hK hG f_X11_31_10 (Nat.lt_of_lt_of_le (by decide) hZ) hK0 (b := 4) hR0_3 dX11_vote_1 ?_
  refine lv_iload_n hx hb dX11_vote_4 rfl (lv_at hl 1 rfl) ?_
  refine md_goi hG (md_runV (As := [.int p1]) (rest := []) hx hb hml hown hW hK hT hG (c_X9_hasPoint l D cy tx base  Z  K N M R J hZ hK4 hM4_1 p1) s_X11_151 ⟨rfl, rfl, ⟨Nat.le_of_ble_eq_true rfl, Nat.le_of_ble_eq_true rfl⟩, ⟨Nat.le_of_ble_eq_true rfl, Nat.le_of_ble_eq_true rfl⟩⟩ (Nat.lt_of_lt_of_le (by decide) hZ) hK4 (by decide) rfl rfl hl.1 rfl (Nat.le_of_ble_eq_true rfl) dX11_vote_5) (fun r u H locs hp hG => ?_)
  obtain ⟨rfl, rfl⟩ := hp
  have hG : md_G D cy base Z K N M R J s H locs := hG
  refine lv_if_ne (tgt := 17) hx hb dX11_vote_8 (by decide) (fun h => absurd h (by decide)) (fun _ => ?_)
  refine lv_aload_n hx hb dX11_vote_11 rfl (lv_at hl 0 rfl) ?_
  refine lv_iconst (v := 0) hx hb dX11_vote_12 (by decide) ?_
  refine md_goi hG (md_runV (As := [.int 0]) (rest := []) hx hb hml hown hW hK hT hG (c_X11_refuse l D cy tx base  Z  K N M R J hZ hK0 hR0_2 hK2 hN2 hM2_0 ) s_X11_158 ⟨rfl, rfl, ⟨Nat.le_of_ble_eq_true rfl, Nat.le_of_ble_eq_true rfl⟩, ⟨Nat.le_of_ble_eq_true rfl, Nat.le_of_ble_eq_true rfl⟩⟩ (Nat.lt_of_lt_of_le (by decide) hZ) hK0 (by decide) rfl rfl hl.1 rfl (Nat.le_of_ble_eq_true rfl) dX11_vote_13) (fun r u H locs hp hG => ?_)
  obtain ⟨rfl, rfl⟩ := hp
  have hG : md_G D cy base Z K N (u2 M 2 0 1) R J s H locs := hG
  exact md_endi hx hb hr hlocks hK hT hG (⟨rfl, rfl⟩) dX11_vote_16
set_option maxRecDepth 100000 in
set_option maxHeartbeats 4000000 in
theorem c_X9_hasSet (l : Launch) (D : va_G) (cy : Nat → ClassId) (tx : (Nat → Nat) × (Nat → Nat)) (base Z : Nat) (K N : Nat → Nat) (M : Nat → Nat → Int32) (R : Nat → Nat → Option Nat) (J : Nat → Nat → Int64) (hZ : 104 ≤ Z) (hK4 : K 4 = 10) (hM4_0 : M 4 0 = 0) (p1 : Int32) : Met l yX9_hasSet [Cond.code yX9_hasSet cX9_hasSet 2 (some .boolean)] (md_rm 1 0 0) (va_Pc [.ref (base + 4), .int p1] (md_U D cy tx base Z K N M R J)) (mQi D cy tx base (fun r u => r = 0 ∧ u = (Z, K, N, M, R, J))) 0 0 (fun q => base ≤ q) := by
  refine Met.ofW (cc := cX9_hasSet) (maxL := 2) (ret := (some .boolean)) (by decide) rfl ?_
  intro p e s m args below meth c s₁ B hml hv
  have hW : ∀ w ∈ lw_tbl, goodWord w = true → w.before args s = true := fun w h g => hv.2.2.2.1.2.1 w h g _
  obtain ⟨rfl, hU⟩ := hv
  have hx := B.exec
  have hb := B.bytes
  have hr := B.returns
  have hlocks := B.notSynchronized
  have hown : s.vm.findClass RX9 = some m.cls := findClass_of_methodNamed B.named
  have hK := hU.2.2.1
  have hT := hU.2.2.2
  have hG := md_G.start hU
  have hl := lv_entry ([.ref (base + 4), .int p1]) (n := 2) (Nat.le_of_ble_eq_true rfl)
  rw [lg_entry_eq]
  generalize (lg_sl ([.ref (base + 4), .int p1]) ++ List.replicate (2 - (lg_sl ([.ref (base + 4), .int p1])).length) Slot.unset).toArray = ls at hl ⊢
  have hl : lv_has ls 2 [(0, .ref (base + 4)), (1, .int p1)] := hl
  refine lv_aload_n hx hb dX9_hasSet_0 rfl (lv_at hl 0 rfl) ?_
  refine md_geti hx hb hW hown hK hG f_X9_33_9 (Nat.lt_of_lt_of_le (by decide) hZ) hK4 (v := 0) hM4_0 dX9_hasSet_1 ?_
  refine lv_if_le (tgt := 25) hx hb dX9_hasSet_4 (by decide) (fun _ => ?_) (fun h => absurd h (by decide))
  refine lv_iconst (v := 0) hx hb dX9_hasSet_25 (by decide) ?_
  exact md_endz hx hb hr hlocks hK hT hG rfl (⟨rfl, rfl⟩) dX9_hasSet_26
set_option maxRecDepth 100000 in
set_option maxHeartbeats 4000000 in
theorem c_X11_bench (l : Launch) (D : va_G) (cy : Nat → ClassId) (tx : (Nat → Nat) × (Nat → Nat)) (base Z : Nat) (K N : Nat → Nat) (M : Nat → Nat → Int32) (R : Nat → Nat → Option Nat) (J : Nat → Nat → Int64) (hZ : 104 ≤ Z) (hK0 : K 0 = 11) (hR0_3 : R 0 3 = some 4) (hK4 : K 4 = 10) (hM4_0 : M 4 0 = 0) (hR0_2 : R 0 2 = some 2) (hK2 : K 2 = 14) (hN2 : N 2 = 2) (hM2_0 : M 2 0 = 0) (p1 : Int32) (p2 : Int32) : Met l yX11_bench [Cond.code yX11_bench cX11_bench 3 (some .int)] (md_rm 2 0 0) (va_Pc [.ref (base + 0), .int p1, .int p2] (md_U D cy tx base Z K N M R J)) (mQi D cy tx base (fun r u => r = (-2) ∧ u = (Z, K, N, (u2 M 2 0 1), R, J))) 0 0 (fun q => base ≤ q) := by
  refine Met.ofW (cc := cX11_bench) (maxL := 3) (ret := (some .int)) (by decide) rfl ?_
  intro p e s m args below meth c s₁ B hml hv
  have hW : ∀ w ∈ lw_tbl, goodWord w = true → w.before args s = true := fun w h g => hv.2.2.2.1.2.1 w h g _
  obtain ⟨rfl, hU⟩ := hv
  have hx := B.exec
  have hb := B.bytes
  have hr := B.returns
  have hlocks := B.notSynchronized
  have hown : s.vm.findClass RX11 = some m.cls := findClass_of_methodNamed B.named
  have hK := hU.2.2.1
  have hT := hU.2.2.2
  have hG := md_G.start hU
  have hl := lv_entry ([.ref (base + 0), .int p1, .int p2]) (n := 3) (Nat.le_of_ble_eq_true rfl)
  rw [lg_entry_eq]
  generalize (lg_sl ([.ref (base + 0), .int p1, .int p2]) ++ List.replicate (3 - (lg_sl ([.ref (base + 0), .int p1, .int p2])).length) Slot.unset).toArray = ls at hl ⊢
  have hl : lv_has ls 3 [(0, .ref (base + 0)), (1, .int p1), (2, .int p2)] := hl
  refine lv_aload_n hx hb dX11_bench_0 rfl (lv_at hl 0 rfl) ?_
  refine md_getr hx hb hW hown hK hG f_X11_31_10 (Nat.lt_of_lt_of_le (by decide) hZ) hK0 (b := 4) hR0_3 dX11_bench_1 ?_
  refine lv_iload_n hx hb dX11_bench_4 rfl (lv_at hl 1 rfl) ?_
  refine md_goi hG (md_runV (As := [.int p1]) (rest := []) hx hb hml hown hW hK hT hG (c_X9_hasSet l D cy tx base  Z  K N M R J hZ hK4 hM4_0 p1) s_X11_199 ⟨rfl, rfl, ⟨Nat.le_of_ble_eq_true rfl, Nat.le_of_ble_eq_true rfl⟩, ⟨Nat.le_of_ble_eq_true rfl, Nat.le_of_ble_eq_true rfl⟩⟩ (Nat.lt_of_lt_of_le (by decide) hZ) hK4 (by decide) rfl rfl hl.1 rfl (Nat.le_of_ble_eq_true rfl) dX11_bench_5) (fun r u H locs hp hG => ?_)
  obtain ⟨rfl, rfl⟩ := hp
  have hG : md_G D cy base Z K N M R J s H locs := hG
  refine lv_if_eq (tgt := 28) hx hb dX11_bench_8 (by decide) (fun _ => ?_) (fun h => absurd h (by decide))
  refine lv_aload_n hx hb dX11_bench_28 rfl (lv_at hl 0 rfl) ?_
  refine lv_iconst (v := 0) hx hb dX11_bench_29 (by decide) ?_
  refine md_goi hG (md_runV (As := [.int 0]) (rest := []) hx hb hml hown hW hK hT hG (c_X11_refuse l D cy tx base  Z  K N M R J hZ hK0 hR0_2 hK2 hN2 hM2_0 ) s_X11_158 ⟨rfl, rfl, ⟨Nat.le_of_ble_eq_true rfl, Nat.le_of_ble_eq_true rfl⟩, ⟨Nat.le_of_ble_eq_true rfl, Nat.le_of_ble_eq_true rfl⟩⟩ (Nat.lt_of_lt_of_le (by decide) hZ) hK0 (by decide) rfl rfl hl.1 rfl (Nat.le_of_ble_eq_true rfl) dX11_bench_30) (fun r u H locs hp hG => ?_)
  obtain ⟨rfl, rfl⟩ := hp
  have hG : md_G D cy base Z K N (u2 M 2 0 1) R J s H locs := hG
  exact md_endi hx hb hr hlocks hK hT hG (⟨rfl, rfl⟩) dX11_bench_33
set_option maxRecDepth 100000 in
set_option maxHeartbeats 4000000 in
theorem c_X11_order (l : Launch) (D : va_G) (cy : Nat → ClassId) (tx : (Nat → Nat) × (Nat → Nat)) (base Z : Nat) (K N : Nat → Nat) (M : Nat → Nat → Int32) (R : Nat → Nat → Option Nat) (J : Nat → Nat → Int64) (hZ : 104 ≤ Z) (hK0 : K 0 = 11) (hR0_3 : R 0 3 = some 4) (hK4 : K 4 = 10) : Met l yX11_order [Cond.code yX11_order cX11_order 2 (some .int)] (md_rm 1 0 0) (va_Pc [.ref (base + 0), .int (-1)] (md_U D cy tx base Z K N M R J)) (mQi D cy tx base (fun r u => r = 0 ∧ u = (Z, K, N, (u2 M 4 7 0), R, J))) 0 0 (fun q => base ≤ q) := by
  refine Met.ofW (cc := cX11_order) (maxL := 2) (ret := (some .int)) (by decide) rfl ?_
  intro p e s m args below meth c s₁ B hml hv
  have hW : ∀ w ∈ lw_tbl, goodWord w = true → w.before args s = true := fun w h g => hv.2.2.2.1.2.1 w h g _
  obtain ⟨rfl, hU⟩ := hv
  have hx := B.exec
  have hb := B.bytes
  have hr := B.returns
  have hlocks := B.notSynchronized
  have hown : s.vm.findClass RX11 = some m.cls := findClass_of_methodNamed B.named
  have hK := hU.2.2.1
  have hT := hU.2.2.2
  have hG := md_G.start hU
  have hl := lv_entry ([.ref (base + 0), .int (-1)]) (n := 2) (Nat.le_of_ble_eq_true rfl)
  rw [lg_entry_eq]
  generalize (lg_sl ([.ref (base + 0), .int (-1)]) ++ List.replicate (2 - (lg_sl ([.ref (base + 0), .int (-1)])).length) Slot.unset).toArray = ls at hl ⊢
  have hl : lv_has ls 2 [(0, .ref (base + 0)), (1, .int (-1))] := hl
  refine lv_iload_n hx hb dX11_order_0 rfl (lv_at hl 1 rfl) ?_
  refine lv_iconst (v := (-1)) hx hb dX11_order_1 (by decide) ?_
  refine lv_icmp_ne (tgt := 15) hx hb dX11_order_2 (by decide) (fun h => absurd h (by decide)) (fun _ => ?_)
  refine lv_aload_n hx hb dX11_order_5 rfl (lv_at hl 0 rfl) ?_
  refine md_getr hx hb hW hown hK hG f_X11_31_10 (Nat.lt_of_lt_of_le (by decide) hZ) hK0 (b := 4) hR0_3 dX11_order_6 ?_
  refine lv_iconst (v := 0) hx hb dX11_order_9 (by decide) ?_
  refine md_puti hx hb hW hown hK hG f_X11_202_9 (Nat.lt_of_lt_of_le (by decide) hZ) hK4 rfl rfl dX11_order_10 (fun H locs hG => ?_)
  refine lv_iconst (v := 0) hx hb dX11_order_13 (by decide) ?_
  exact md_endi hx hb hr hlocks hK hT hG (⟨rfl, rfl⟩) dX11_order_14
set_option maxRecDepth 100000 in
set_option maxHeartbeats 4000000 in
theorem c_X11_order_2 (l : Launch) (D : va_G) (cy : Nat → ClassId) (tx : (Nat → Nat) × (Nat → Nat)) (base Z : Nat) (K N : Nat → Nat) (M : Nat → Nat → Int32) (R : Nat → Nat → Option Nat) (J : Nat → Nat → Int64) (hZ : 104 ≤ Z) (hK0 : K 0 = 11) (hR0_3 : R 0 3 = some 4) (hK4 : K 4 = 10) (hM4_1 : M 4 1 = 0) (hR0_2 : R 0 2 = some 2) (hK2 : K 2 = 14) (hN2 : N 2 = 2) (hM2_0 : M 2 0 = 0) (p1 : Int32) (h1 : ¬ p1 = (-1)) : Met l yX11_order [Cond.code yX11_order cX11_order 2 (some .int)] (md_rm 2 0 0) (va_Pc [.ref (base + 0), .int p1] (md_U D cy tx base Z K N M R J)) (mQi D cy tx base (fun r u => r = (-2) ∧ u = (Z, K, N, (u2 M 2 0 1), R, J))) 0 0 (fun q => base ≤ q) := by
  refine Met.ofW (cc := cX11_order) (maxL := 2) (ret := (some .int)) (by decide) rfl ?_
  intro p e s m args below meth c s₁ B hml hv
  have hW : ∀ w ∈ lw_tbl, goodWord w = true → w.before args s = true := fun w h g => hv.2.2.2.1.2.1 w h g _
  obtain ⟨rfl, hU⟩ := hv
  have hx := B.exec
  have hb := B.bytes
  have hr := B.returns
  have hlocks := B.notSynchronized
  have hown : s.vm.findClass RX11 = some m.cls := findClass_of_methodNamed B.named
  have hK := hU.2.2.1
  have hT := hU.2.2.2
  have hG := md_G.start hU
  have hl := lv_entry ([.ref (base + 0), .int p1]) (n := 2) (Nat.le_of_ble_eq_true rfl)
  rw [lg_entry_eq]
  generalize (lg_sl ([.ref (base + 0), .int p1]) ++ List.replicate (2 - (lg_sl ([.ref (base + 0), .int p1])).length) Slot.unset).toArray = ls at hl ⊢
  have hl : lv_has ls 2 [(0, .ref (base + 0)), (1, .int p1)] := hl
  refine lv_iload_n hx hb dX11_order_0 rfl (lv_at hl 1 rfl) ?_
  refine lv_iconst (v := (-1)) hx hb dX11_order_1 (by decide) ?_
  refine lv_icmp_ne (tgt := 15) hx hb dX11_order_2 (by decide) (fun _ => ?_) (fun h => absurd h h1)
  refine lv_aload_n hx hb dX11_order_15 rfl (lv_at hl 0 rfl) ?_
  refine md_getr hx hb hW hown hK hG f_X11_31_10 (Nat.lt_of_lt_of_le (by decide) hZ) hK0 (b := 4) hR0_3 dX11_order_16 ?_
  refine lv_iload_n hx hb dX11_order_19 rfl (lv_at hl 1 rfl) ?_
  refine md_goi hG (md_runV (As := [.int p1]) (rest := []) hx hb hml hown hW hK hT hG (c_X9_hasPoint l D cy tx base  Z  K N M R J hZ hK4 hM4_1 p1) s_X11_151 ⟨rfl, rfl, ⟨Nat.le_of_ble_eq_true rfl, Nat.le_of_ble_eq_true rfl⟩, ⟨Nat.le_of_ble_eq_true rfl, Nat.le_of_ble_eq_true rfl⟩⟩ (Nat.lt_of_lt_of_le (by decide) hZ) hK4 (by decide) rfl rfl hl.1 rfl (Nat.le_of_ble_eq_true rfl) dX11_order_20) (fun r u H locs hp hG => ?_)
  obtain ⟨rfl, rfl⟩ := hp
  have hG : md_G D cy base Z K N M R J s H locs := hG
  refine lv_if_ne (tgt := 32) hx hb dX11_order_23 (by decide) (fun h => absurd h (by decide)) (fun _ => ?_)
  refine lv_aload_n hx hb dX11_order_26 rfl (lv_at hl 0 rfl) ?_
  refine lv_iconst (v := 0) hx hb dX11_order_27 (by decide) ?_
  refine md_goi hG (md_runV (As := [.int 0]) (rest := []) hx hb hml hown hW hK hT hG (c_X11_refuse l D cy tx base  Z  K N M R J hZ hK0 hR0_2 hK2 hN2 hM2_0 ) s_X11_158 ⟨rfl, rfl, ⟨Nat.le_of_ble_eq_true rfl, Nat.le_of_ble_eq_true rfl⟩, ⟨Nat.le_of_ble_eq_true rfl, Nat.le_of_ble_eq_true rfl⟩⟩ (Nat.lt_of_lt_of_le (by decide) hZ) hK0 (by decide) rfl rfl hl.1 rfl (Nat.le_of_ble_eq_true rfl) dX11_order_28) (fun r u H locs hp hG => ?_)
  obtain ⟨rfl, rfl⟩ := hp
  have hG : md_G D cy base Z K N (u2 M 2 0 1) R J s H locs := hG
  exact md_endi hx hb hr hlocks hK hT hG (⟨rfl, rfl⟩) dX11_order_31
set_option maxRecDepth 100000 in
set_option maxHeartbeats 4000000 in
theorem c_X9_hasPlace (l : Launch) (D : va_G) (cy : Nat → ClassId) (tx : (Nat → Nat) × (Nat → Nat)) (base Z : Nat) (K N : Nat → Nat) (M : Nat → Nat → Int32) (R : Nat → Nat → Option Nat) (J : Nat → Nat → Int64) (hZ : 104 ≤ Z) (hK4 : K 4 = 10) (hM4_7 : M 4 7 = 0) (p1 : Int32) : Met l yX9_hasPlace [Cond.code yX9_hasPlace cX9_hasPlace 2 (some .boolean)] (md_rm 1 0 0) (va_Pc [.ref (base + 4), .int p1] (md_U D cy tx base Z K N M R J)) (mQi D cy tx base (fun r u => r = 0 ∧ u = (Z, K, N, M, R, J))) 0 0 (fun q => base ≤ q) := by
  refine Met.ofW (cc := cX9_hasPlace) (maxL := 2) (ret := (some .boolean)) (by decide) rfl ?_
  intro p e s m args below meth c s₁ B hml hv
  have hW : ∀ w ∈ lw_tbl, goodWord w = true → w.before args s = true := fun w h g => hv.2.2.2.1.2.1 w h g _
  obtain ⟨rfl, hU⟩ := hv
  have hx := B.exec
  have hb := B.bytes
  have hr := B.returns
  have hlocks := B.notSynchronized
  have hown : s.vm.findClass RX9 = some m.cls := findClass_of_methodNamed B.named
  have hK := hU.2.2.1
  have hT := hU.2.2.2
  have hG := md_G.start hU
  have hl := lv_entry ([.ref (base + 4), .int p1]) (n := 2) (Nat.le_of_ble_eq_true rfl)
  rw [lg_entry_eq]
  generalize (lg_sl ([.ref (base + 4), .int p1]) ++ List.replicate (2 - (lg_sl ([.ref (base + 4), .int p1])).length) Slot.unset).toArray = ls at hl ⊢
  have hl : lv_has ls 2 [(0, .ref (base + 4)), (1, .int p1)] := hl
  refine lv_iload_n hx hb dX9_hasPlace_0 rfl (lv_at hl 1 rfl) ?_
  refine lv_if_lt (tgt := 16) hx hb dX9_hasPlace_1 (by decide) (fun c1 => ?_) (fun c1 => ?_)
  · refine lv_iconst (v := 0) hx hb dX9_hasPlace_16 (by decide) ?_
    exact md_endz hx hb hr hlocks hK hT hG rfl (⟨rfl, rfl⟩) dX9_hasPlace_17
  · refine lv_iload_n hx hb dX9_hasPlace_4 rfl (lv_at hl 1 rfl) ?_
    refine lv_aload_n hx hb dX9_hasPlace_5 rfl (lv_at hl 0 rfl) ?_
    refine md_geti hx hb hW hown hK hG f_X9_52_9 (Nat.lt_of_lt_of_le (by decide) hZ) hK4 (v := 0) hM4_7 dX9_hasPlace_6 ?_
    refine lv_icmp_ge (tgt := 16) hx hb dX9_hasPlace_9 (by decide) (fun _ => ?_) (fun h => absurd (Int32.not_lt.mp c1) h)
    refine lv_iconst (v := 0) hx hb dX9_hasPlace_16 (by decide) ?_
    exact md_endz hx hb hr hlocks hK hT hG rfl (⟨rfl, rfl⟩) dX9_hasPlace_17
set_option maxRecDepth 100000 in
set_option maxHeartbeats 4000000 in
theorem c_X11_ordered (l : Launch) (D : va_G) (cy : Nat → ClassId) (tx : (Nat → Nat) × (Nat → Nat)) (base Z : Nat) (K N : Nat → Nat) (M : Nat → Nat → Int32) (R : Nat → Nat → Option Nat) (J : Nat → Nat → Int64) (hZ : 104 ≤ Z) (hK0 : K 0 = 11) (hR0_3 : R 0 3 = some 4) (hK4 : K 4 = 10) (hM4_7 : M 4 7 = 0) (p1 : Int32) : Met l yX11_ordered [Cond.code yX11_ordered cX11_ordered 2 (some .int)] (md_rm 2 0 0) (va_Pc [.ref (base + 0), .int p1] (md_U D cy tx base Z K N M R J)) (mQi D cy tx base (fun r u => r = (-1) ∧ u = (Z, K, N, M, R, J))) 0 0 (fun q => base ≤ q) := by
  refine Met.ofW (cc := cX11_ordered) (maxL := 2) (ret := (some .int)) (by decide) rfl ?_
  intro p e s m args below meth c s₁ B hml hv
  have hW : ∀ w ∈ lw_tbl, goodWord w = true → w.before args s = true := fun w h g => hv.2.2.2.1.2.1 w h g _
  obtain ⟨rfl, hU⟩ := hv
  have hx := B.exec
  have hb := B.bytes
  have hr := B.returns
  have hlocks := B.notSynchronized
  have hown : s.vm.findClass RX11 = some m.cls := findClass_of_methodNamed B.named
  have hK := hU.2.2.1
  have hT := hU.2.2.2
  have hG := md_G.start hU
  have hl := lv_entry ([.ref (base + 0), .int p1]) (n := 2) (Nat.le_of_ble_eq_true rfl)
  rw [lg_entry_eq]
  generalize (lg_sl ([.ref (base + 0), .int p1]) ++ List.replicate (2 - (lg_sl ([.ref (base + 0), .int p1])).length) Slot.unset).toArray = ls at hl ⊢
  have hl : lv_has ls 2 [(0, .ref (base + 0)), (1, .int p1)] := hl
  refine lv_aload_n hx hb dX11_ordered_0 rfl (lv_at hl 0 rfl) ?_
  refine md_getr hx hb hW hown hK hG f_X11_31_10 (Nat.lt_of_lt_of_le (by decide) hZ) hK0 (b := 4) hR0_3 dX11_ordered_1 ?_
  refine lv_iload_n hx hb dX11_ordered_4 rfl (lv_at hl 1 rfl) ?_
  refine md_goi hG (md_runV (As := [.int p1]) (rest := []) hx hb hml hown hW hK hT hG (c_X9_hasPlace l D cy tx base  Z  K N M R J hZ hK4 hM4_7 p1) s_X11_208 ⟨rfl, rfl, ⟨Nat.le_of_ble_eq_true rfl, Nat.le_of_ble_eq_true rfl⟩, ⟨Nat.le_of_ble_eq_true rfl, Nat.le_of_ble_eq_true rfl⟩⟩ (Nat.lt_of_lt_of_le (by decide) hZ) hK4 (by decide) rfl rfl hl.1 rfl (Nat.le_of_ble_eq_true rfl) dX11_ordered_5) (fun r u H locs hp hG => ?_)
  obtain ⟨rfl, rfl⟩ := hp
  have hG : md_G D cy base Z K N M R J s H locs := hG
  refine lv_if_eq (tgt := 23) hx hb dX11_ordered_8 (by decide) (fun _ => ?_) (fun h => absurd h (by decide))
  refine lv_iconst (v := (-1)) hx hb dX11_ordered_23 (by decide) ?_
  exact md_endi hx hb hr hlocks hK hT hG (⟨rfl, rfl⟩) dX11_ordered_24
set_option maxRecDepth 100000 in
set_option maxHeartbeats 4000000 in
theorem c_X11_day (l : Launch) (D : va_G) (cy : Nat → ClassId) (tx : (Nat → Nat) × (Nat → Nat)) (base Z : Nat) (K N : Nat → Nat) (M : Nat → Nat → Int32) (R : Nat → Nat → Option Nat) (J : Nat → Nat → Int64) (hZ : 104 ≤ Z) (hK0 : K 0 = 11) (hR0_3 : R 0 3 = some 4) (hK4 : K 4 = 10) (hM4_0 : M 4 0 = 0) (hR0_2 : R 0 2 = some 2) (hK2 : K 2 = 14) (hN2 : N 2 = 2) (hM2_0 : M 2 0 = 0) : Met l yX11_day [Cond.code yX11_day cX11_day 3 (some .int)] (md_rm 2 0 0) (va_Pc [.ref (base + 0)] (md_U D cy tx base Z K N M R J)) (mQi D cy tx base (fun r u => r = (-2) ∧ u = (Z, K, N, (u2 M 2 0 1), R, J))) 0 0 (fun q => base ≤ q) := by
  refine Met.ofW (cc := cX11_day) (maxL := 3) (ret := (some .int)) (by decide) rfl ?_
  intro p e s m args below meth c s₁ B hml hv
  have hW : ∀ w ∈ lw_tbl, goodWord w = true → w.before args s = true := fun w h g => hv.2.2.2.1.2.1 w h g _
  obtain ⟨rfl, hU⟩ := hv
  have hx := B.exec
  have hb := B.bytes
  have hr := B.returns
  have hlocks := B.notSynchronized
  have hown : s.vm.findClass RX11 = some m.cls := findClass_of_methodNamed B.named
  have hK := hU.2.2.1
  have hT := hU.2.2.2
  have hG := md_G.start hU
  have hl := lv_entry ([.ref (base + 0)]) (n := 3) (Nat.le_of_ble_eq_true rfl)
  rw [lg_entry_eq]
  generalize (lg_sl ([.ref (base + 0)]) ++ List.replicate (3 - (lg_sl ([.ref (base + 0)])).length) Slot.unset).toArray = ls at hl ⊢
  have hl : lv_has ls 3 [(0, .ref (base + 0))] := hl
  refine lv_aload_n hx hb dX11_day_0 rfl (lv_at hl 0 rfl) ?_
  refine md_getr hx hb hW hown hK hG f_X11_31_10 (Nat.lt_of_lt_of_le (by decide) hZ) hK0 (b := 4) hR0_3 dX11_day_1 ?_
  refine md_goi hG (md_runV (As := []) (rest := []) hx hb hml hown hW hK hT hG (c_X9_hasCouncil l D cy tx base  Z  K N M R J hZ hK4 hM4_0 ) s_X11_170 ⟨rfl, rfl, ⟨Nat.le_of_ble_eq_true rfl, Nat.le_of_ble_eq_true rfl⟩, ⟨Nat.le_of_ble_eq_true rfl, Nat.le_of_ble_eq_true rfl⟩⟩ (Nat.lt_of_lt_of_le (by decide) hZ) hK4 (by decide) rfl rfl hl.1 rfl (Nat.le_of_ble_eq_true rfl) dX11_day_4) (fun r u H locs hp hG => ?_)
  obtain ⟨rfl, rfl⟩ := hp
  have hG : md_G D cy base Z K N M R J s H locs := hG
  refine lv_if_ne (tgt := 16) hx hb dX11_day_7 (by decide) (fun h => absurd h (by decide)) (fun _ => ?_)
  refine lv_aload_n hx hb dX11_day_10 rfl (lv_at hl 0 rfl) ?_
  refine lv_iconst (v := 0) hx hb dX11_day_11 (by decide) ?_
  refine md_goi hG (md_runV (As := [.int 0]) (rest := []) hx hb hml hown hW hK hT hG (c_X11_refuse l D cy tx base  Z  K N M R J hZ hK0 hR0_2 hK2 hN2 hM2_0 ) s_X11_158 ⟨rfl, rfl, ⟨Nat.le_of_ble_eq_true rfl, Nat.le_of_ble_eq_true rfl⟩, ⟨Nat.le_of_ble_eq_true rfl, Nat.le_of_ble_eq_true rfl⟩⟩ (Nat.lt_of_lt_of_le (by decide) hZ) hK0 (by decide) rfl rfl hl.1 rfl (Nat.le_of_ble_eq_true rfl) dX11_day_12) (fun r u H locs hp hG => ?_)
  obtain ⟨rfl, rfl⟩ := hp
  have hG : md_G D cy base Z K N (u2 M 2 0 1) R J s H locs := hG
  exact md_endi hx hb hr hlocks hK hT hG (⟨rfl, rfl⟩) dX11_day_15
set_option maxRecDepth 100000 in
set_option maxHeartbeats 4000000 in
theorem c_X11_open (l : Launch) (D : va_G) (cy : Nat → ClassId) (tx : (Nat → Nat) × (Nat → Nat)) (base Z : Nat) (K N : Nat → Nat) (M : Nat → Nat → Int32) (R : Nat → Nat → Option Nat) (J : Nat → Nat → Int64) (hZ : 104 ≤ Z) (hK0 : K 0 = 11) (hR0_3 : R 0 3 = some 4) (hK4 : K 4 = 10) (hM4_0 : M 4 0 = 0) (p1 : Int32) (p2 : Int32) (p3 : Int32) : Met l yX11_open [Cond.code yX11_open cX11_open 5 (some .int)] (md_rm 2 0 0) (va_Pc [.ref (base + 0), .int p1, .int p2, .int p3] (md_U D cy tx base Z K N M R J)) (mQi D cy tx base (fun r u => r = (-1000000) ∧ u = (Z, K, N, M, R, J))) 0 0 (fun q => base ≤ q) := by
  refine Met.ofW (cc := cX11_open) (maxL := 5) (ret := (some .int)) (by decide) rfl ?_
  intro p e s m args below meth c s₁ B hml hv
  have hW : ∀ w ∈ lw_tbl, goodWord w = true → w.before args s = true := fun w h g => hv.2.2.2.1.2.1 w h g _
  obtain ⟨rfl, hU⟩ := hv
  have hx := B.exec
  have hb := B.bytes
  have hr := B.returns
  have hlocks := B.notSynchronized
  have hown : s.vm.findClass RX11 = some m.cls := findClass_of_methodNamed B.named
  have hK := hU.2.2.1
  have hT := hU.2.2.2
  have hG := md_G.start hU
  have hl := lv_entry ([.ref (base + 0), .int p1, .int p2, .int p3]) (n := 5) (Nat.le_of_ble_eq_true rfl)
  rw [lg_entry_eq]
  generalize (lg_sl ([.ref (base + 0), .int p1, .int p2, .int p3]) ++ List.replicate (5 - (lg_sl ([.ref (base + 0), .int p1, .int p2, .int p3])).length) Slot.unset).toArray = ls at hl ⊢
  have hl : lv_has ls 5 [(0, .ref (base + 0)), (1, .int p1), (2, .int p2), (3, .int p3)] := hl
  refine lv_iload_n hx hb dX11_open_0 rfl (lv_at hl 1 rfl) ?_
  refine lv_if_lt (tgt := 30) hx hb dX11_open_1 (by decide) (fun c1 => ?_) (fun c1 => ?_)
  · refine lv_ldc hx hb hown (hW _ w_4_221 rfl) dX11_open_30 ?_
    exact md_endi hx hb hr hlocks hK hT hG (⟨rfl, rfl⟩) dX11_open_32
  · refine lv_iload_n hx hb dX11_open_4 rfl (lv_at hl 1 rfl) ?_
    refine lv_bipush (v := 60) hx hb dX11_open_5 (by decide) ?_
    refine lv_icmp_gt (tgt := 30) hx hb dX11_open_7 (by decide) (fun c2 => ?_) (fun c2 => ?_)
    · refine lv_ldc hx hb hown (hW _ w_4_221 rfl) dX11_open_30 ?_
      exact md_endi hx hb hr hlocks hK hT hG (⟨rfl, rfl⟩) dX11_open_32
    · refine lv_aload_n hx hb dX11_open_10 rfl (lv_at hl 0 rfl) ?_
      refine md_getr hx hb hW hown hK hG f_X11_31_10 (Nat.lt_of_lt_of_le (by decide) hZ) hK0 (b := 4) hR0_3 dX11_open_11 ?_
      refine lv_iload_n hx hb dX11_open_14 rfl (lv_at hl 2 rfl) ?_
      refine md_goi hG (md_runV (As := [.int p2]) (rest := []) hx hb hml hown hW hK hT hG (c_X9_hasMember l D cy tx base  Z  K N M R J hZ hK4 hM4_0 p2) s_X11_132 ⟨rfl, rfl, ⟨Nat.le_of_ble_eq_true rfl, Nat.le_of_ble_eq_true rfl⟩, ⟨Nat.le_of_ble_eq_true rfl, Nat.le_of_ble_eq_true rfl⟩⟩ (Nat.lt_of_lt_of_le (by decide) hZ) hK4 (by decide) rfl rfl hl.1 rfl (Nat.le_of_ble_eq_true rfl) dX11_open_15) (fun r u H locs hp hG => ?_)
      obtain ⟨rfl, rfl⟩ := hp
      have hG : md_G D cy base Z K N M R J s H locs := hG
      refine lv_if_eq (tgt := 30) hx hb dX11_open_18 (by decide) (fun _ => ?_) (fun h => absurd h (by decide))
      refine lv_ldc hx hb hown (hW _ w_4_221 rfl) dX11_open_30 ?_
      exact md_endi hx hb hr hlocks hK hT hG (⟨rfl, rfl⟩) dX11_open_32
set_option maxRecDepth 100000 in
set_option maxHeartbeats 4000000 in
theorem c_X9_isSide (l : Launch) (D : va_G) (cy : Nat → ClassId) (tx : (Nat → Nat) × (Nat → Nat)) (base Z : Nat) (K N : Nat → Nat) (M : Nat → Nat → Int32) (R : Nat → Nat → Option Nat) (J : Nat → Nat → Int64) (hZ : 104 ≤ Z) (hK4 : K 4 = 10) (hM4_0 : M 4 0 = 0) (p1 : Int32) : Met l yX9_isSide [Cond.code yX9_isSide cX9_isSide 2 (some .boolean)] (md_rm 2 0 0) (va_Pc [.ref (base + 4), .int p1] (md_U D cy tx base Z K N M R J)) (mQi D cy tx base (fun r u => r = 0 ∧ u = (Z, K, N, M, R, J))) 0 0 (fun q => base ≤ q) := by
  refine Met.ofW (cc := cX9_isSide) (maxL := 2) (ret := (some .boolean)) (by decide) rfl ?_
  intro p e s m args below meth c s₁ B hml hv
  have hW : ∀ w ∈ lw_tbl, goodWord w = true → w.before args s = true := fun w h g => hv.2.2.2.1.2.1 w h g _
  obtain ⟨rfl, hU⟩ := hv
  have hx := B.exec
  have hb := B.bytes
  have hr := B.returns
  have hlocks := B.notSynchronized
  have hown : s.vm.findClass RX9 = some m.cls := findClass_of_methodNamed B.named
  have hK := hU.2.2.1
  have hT := hU.2.2.2
  have hG := md_G.start hU
  have hl := lv_entry ([.ref (base + 4), .int p1]) (n := 2) (Nat.le_of_ble_eq_true rfl)
  rw [lg_entry_eq]
  generalize (lg_sl ([.ref (base + 4), .int p1]) ++ List.replicate (2 - (lg_sl ([.ref (base + 4), .int p1])).length) Slot.unset).toArray = ls at hl ⊢
  have hl : lv_has ls 2 [(0, .ref (base + 4)), (1, .int p1)] := hl
  refine lv_iload_n hx hb dX9_isSide_0 rfl (lv_at hl 1 rfl) ?_
  refine lv_if_le (tgt := 27) hx hb dX9_isSide_1 (by decide) (fun c1 => ?_) (fun c1 => ?_)
  · refine lv_iconst (v := 0) hx hb dX9_isSide_27 (by decide) ?_
    exact md_endz hx hb hr hlocks hK hT hG rfl (⟨rfl, rfl⟩) dX9_isSide_28
  · refine lv_aload_n hx hb dX9_isSide_4 rfl (lv_at hl 0 rfl) ?_
    refine lv_iload_n hx hb dX9_isSide_5 rfl (lv_at hl 1 rfl) ?_
    refine md_goi hG (md_runV (As := [.int p1]) (rest := []) hx hb hml hown hW hK hT hG (c_X9_hasSet l D cy tx base  Z  K N M R J hZ hK4 hM4_0 p1) s_X9_67 ⟨rfl, rfl, ⟨Nat.le_of_ble_eq_true rfl, Nat.le_of_ble_eq_true rfl⟩, ⟨Nat.le_of_ble_eq_true rfl, Nat.le_of_ble_eq_true rfl⟩⟩ (Nat.lt_of_lt_of_le (by decide) hZ) hK4 (by decide) rfl rfl hl.1 rfl (Nat.le_of_ble_eq_true rfl) dX9_isSide_6) (fun r u H locs hp hG => ?_)
    obtain ⟨rfl, rfl⟩ := hp
    have hG : md_G D cy base Z K N M R J s H locs := hG
    refine lv_if_eq (tgt := 27) hx hb dX9_isSide_9 (by decide) (fun _ => ?_) (fun h => absurd h (by decide))
    refine lv_iconst (v := 0) hx hb dX9_isSide_27 (by decide) ?_
    exact md_endz hx hb hr hlocks hK hT hG rfl (⟨rfl, rfl⟩) dX9_isSide_28
