section IMG0
variable {p : Program} {l : Launch} {e : Env} {Rm : Room} {s : State} {m : MethodId} {args : Array Value} {below : List Frame} {meth : Method} {c : Code} {cells slots : Nat} {Q : State → Prop}
variable {D : va_G} {cy : Nat → ClassId} {base Z : Nat} {K N : Nat → Nat} {R : Nat → Nat → Option Nat} {J : Nat → Nat → Int64}
set_option maxRecDepth 100000 in
set_option maxHeartbeats 4000000 in
theorem img_loop0 (hx : p.tables.exec = Jvm.exec) (hb : c.code = cX12_image) (hW : ∀ w ∈ lw_tbl, goodWord w = true → w.before args s = true) (hown : s.vm.findClass RX12 = some m.cls) (hK : md_K D cy s) (hZ : 104 ≤ Z) (hK69 : K 69 = 12) (hKs : K 81 = 14) (hKi : K 102 = 14) (hKm : K 103 = 16) (hNs : N 81 = 226) (hNi : N 102 = 904) (hNm : N 103 = 4) (hRs : R 69 25 = some 81) (hRi : R 69 53 = some 102) (hRm : R 69 54 = some 103)
    (kx : ∀ (M1 : Nat → Nat → Int32) (H : Heap) (locs : List Loc) (ls : Array Slot), (∀ j, M1 81 j = 0) → md_G D cy base Z K N M1 R J s H locs → lv_has ls 3 [(0, .ref (base + 69))] → W p l e Rm s m args below meth c H locs cells slots Q (F0 m 58 ls [])) :
    ∀ (n i : Nat) (M1 : Nat → Nat → Int32) (H : Heap) (locs : List Loc) (ls : Array Slot), i ≤ 226 → 227 ≤ i + n → (∀ j, M1 81 j = 0) → md_G D cy base Z K N M1 R J s H locs → lv_has ls 3 [(2, .int (nI i)), (0, .ref (base + 69)), (1, .int 0)] → W p l e Rm s m args below meth c H locs cells slots Q (F0 m 27 ls []) := by
  intro n
  induction n with
  | zero =>
    intro i M1 H locs ls h1 h2
    exact absurd h2 (by omega)
  | succ n ih =>
    intro i M1 H locs ls hi hn hs hG hl
    refine lv_iload_n hx hb dX12_image_27 rfl (lv_at hl 0 rfl) ?_
    refine lv_sipush (v := 226) hx hb dX12_image_28 (by decide) ?_
    refine lv_icmp_ge (tgt := 58) hx hb dX12_image_31 (by decide) (fun c9 => ?_) (fun c9 => ?_)
    · exact kx M1 H locs ls hs hG (lv_sub hl [1] rfl)
    · have hlt : i < 226 := by
        rcases Nat.lt_or_ge i 226 with q | q
        · exact q
        · exact absurd (show (226 : Int32) ≤ nI i from nI_le (a := 226) q (by omega)) c9
      refine lv_aload_n hx hb dX12_image_34 rfl (lv_at hl 1 rfl) ?_
      refine md_getr hx hb hW hown hK hG f_X12_109_11 (Nat.lt_of_lt_of_le (by decide) hZ) hK69 (b := 102) hRi dX12_image_35 ?_
      refine lv_sipush (v := 226) hx hb dX12_image_38 (by decide) ?_
      refine lv_iload_n hx hb dX12_image_41 rfl (lv_at hl 2 rfl) ?_
      refine lv_imul hx hb dX12_image_42 ?_
      refine md_top (y := nI 0) (by decide) ?_
      refine lv_iload_n hx hb dX12_image_43 rfl (lv_at hl 0 rfl) ?_
      refine lv_iadd hx hb dX12_image_44 ?_
      refine md_top (nI_add 0 i) ?_
      refine lv_aload_n hx hb dX12_image_45 rfl (lv_at hl 1 rfl) ?_
      refine md_getr hx hb hW hown hK hG f_X12_45_11 (Nat.lt_of_lt_of_le (by decide) hZ) hK69 (b := 81) hRs dX12_image_46 ?_
      refine lv_iload_n hx hb dX12_image_49 rfl (lv_at hl 0 rfl) ?_
      refine md_iald hx hb hK hG (Nat.lt_of_lt_of_le (by decide) hZ) hKs hNs (vp_in_nI hlt (by omega)) (v := 0) (hs _) dX12_image_50 ?_
      refine md_iast hx hb hK hG (Nat.lt_of_lt_of_le (by decide) hZ) hKi hNi (vp_in_nI (show 0 + i < 904 by omega) (by omega)) (k := 0 + i) (nI_clamp (by omega)) dX12_image_51 (fun H locs hG => ?_)
      refine lv_iinc (v := nI (i + 1)) (lv' := [(2, .int (nI (i + 1))), (0, .ref (base + 69)), (1, .int 0)]) hx hb dX12_image_52 hl (k := 0) rfl (nI_1 i) (by decide) rfl (fun ls hl => ?_)
      refine lv_goto (tgt := 27) hx hb dX12_image_55 (by decide) ?_
      exact ih (i + 1) _ H locs ls hlt (by omega) (fun j => by rw [u2_ne (by decide)]; exact hs j) hG hl
end IMG0
set_option maxRecDepth 100000 in
set_option maxHeartbeats 4000000 in
theorem c_image_m0 (l : Launch) (D : va_G) (cy : Nat → ClassId) (tx : (Nat → Nat) × (Nat → Nat)) (base Z : Nat) (K N : Nat → Nat) (M : Nat → Nat → Int32) (R : Nat → Nat → Option Nat) (J : Nat → Nat → Int64) (hZ : 104 ≤ Z) (hK69 : K 69 = 12) (hKs : K 81 = 14) (hKi : K 102 = 14) (hKm : K 103 = 16) (hNs : N 81 = 226) (hNi : N 102 = 904) (hNm : N 103 = 4) (hRs : R 69 25 = some 81) (hRi : R 69 53 = some 102) (hRm : R 69 54 = some 103) (hs : ∀ j, M 81 j = 0) : Met l yX12_image [Cond.code yX12_image cX12_image 3 (some .int)] (md_rm 2 0 0) (va_Pc [.ref (base + 69), .int 0] (md_U D cy tx base Z K N M R J)) (mQi D cy tx base (fun r u => r = 0 ∧ ∃ M1 : Nat → Nat → Int32, u = (Z, K, N, M1, R, J))) 0 0 (fun q => base ≤ q) := by
  refine Met.ofW (cc := cX12_image) (maxL := 3) (ret := (some .int)) (by decide) rfl ?_
  intro p e s m args below meth c s₁ B hml hv
  have hW : ∀ w ∈ lw_tbl, goodWord w = true → w.before args s = true := fun w h g => hv.2.2.2.1.2.1 w h g _
  obtain ⟨rfl, hU⟩ := hv
  have hx := B.exec
  have hb := B.bytes
  have hr := B.returns
  have hlocks := B.notSynchronized
  have hown : s.vm.findClass RX12 = some m.cls := findClass_of_methodNamed B.named
  have hK := hU.2.2.1
  have hT := hU.2.2.2
  have hG := md_G.start hU
  have hl := lv_entry ([.ref (base + 69), .int 0]) (n := 3) (Nat.le_of_ble_eq_true rfl)
  rw [lg_entry_eq]
  generalize (lg_sl ([.ref (base + 69), .int 0]) ++ List.replicate (3 - (lg_sl ([.ref (base + 69), .int 0])).length) Slot.unset).toArray = ls at hl ⊢
  have hl : lv_has ls 3 [(0, .ref (base + 69)), (1, .int 0)] := hl
  refine lv_iload_n hx hb dX12_image_0 rfl (lv_at hl 1 rfl) ?_
  refine lv_i2l (v := 0) hx hb dX12_image_1 (by decide) ?_
  refine lv_lconst (v := 0) hx hb dX12_image_2 (by decide) ?_
  refine lv_ldc2 hx hb hown (hW _ w_8_59 rfl) dX12_image_3 ?_
  refine md_goi hG (md_runS (As := [.long 0, .long 0, .long 3]) (rest := []) hx hb hml hown hW hK hT hG (c_X12_in_8 l D cy tx base Z K N M R J hZ) s_X12_155 ⟨rfl, rfl, ⟨Nat.le_of_ble_eq_true rfl, Nat.le_of_ble_eq_true rfl⟩, Nat.le_of_ble_eq_true rfl, Nat.le_of_ble_eq_true rfl⟩ rfl hl.1 rfl (Nat.le_of_ble_eq_true rfl) dX12_image_6) (fun r u H locs hp hG => ?_)
  obtain ⟨rfl, rfl⟩ := hp
  have hG : md_G D cy base Z K N M R J s H locs := hG
  refine lv_if_ne (tgt := 18) hx hb dX12_image_9 (by decide) (fun _ => ?_) (fun h => absurd h (by decide))
  refine lv_aload_n hx hb dX12_image_18 rfl (lv_at hl 0 rfl) ?_
  refine md_getr hx hb hW hown hK hG f_X12_112_11 (Nat.lt_of_lt_of_le (by decide) hZ) hK69 (b := 103) hRm dX12_image_19 ?_
  refine lv_iload_n hx hb dX12_image_22 rfl (lv_at hl 1 rfl) ?_
  refine lv_iconst (v := 1) hx hb dX12_image_23 (by decide) ?_
  refine md_zast hx hb hK hG (Nat.lt_of_lt_of_le (by decide) hZ) hKm hNm (md_inD (by decide)) (k := 0) (by decide) dX12_image_24 (fun H locs hG => ?_)
  refine lv_iconst (v := 0) hx hb dX12_image_25 (by decide) ?_
  refine lv_istore_n (lv' := [(2, .int 0), (0, .ref (base + 69)), (1, .int 0)]) hx hb dX12_image_26 rfl hl (by decide) rfl (fun ls hl => ?_)
  refine img_loop0 hx hb hW hown hK hZ hK69 hKs hKi hKm hNs hNi hNm hRs hRi hRm (fun M1 H locs ls hs hG hl => ?_) 227 0 _ H locs ls (by omega) (by omega) (fun j => by rw [u2_ne (by decide)]; exact hs j) hG hl
  refine lv_aload_n hx hb dX12_image_58 rfl (lv_at hl 0 rfl) ?_
  refine md_getr hx hb hW hown hK hG f_X12_45_11 (Nat.lt_of_lt_of_le (by decide) hZ) hK69 (b := 81) hRs dX12_image_59 ?_
  refine lv_iconst (v := 3) hx hb dX12_image_62 (by decide) ?_
  refine md_iald hx hb hK hG (Nat.lt_of_lt_of_le (by decide) hZ) hKs hNs (md_inD (by decide)) (v := 0) (hs _) dX12_image_63 ?_
  exact md_endi hx hb hr hlocks hK hT hG ⟨rfl, M1, rfl⟩ dX12_image_64
section IMG1
variable {p : Program} {l : Launch} {e : Env} {Rm : Room} {s : State} {m : MethodId} {args : Array Value} {below : List Frame} {meth : Method} {c : Code} {cells slots : Nat} {Q : State → Prop}
variable {D : va_G} {cy : Nat → ClassId} {base Z : Nat} {K N : Nat → Nat} {R : Nat → Nat → Option Nat} {J : Nat → Nat → Int64}
set_option maxRecDepth 100000 in
set_option maxHeartbeats 4000000 in
theorem img_loop1 (hx : p.tables.exec = Jvm.exec) (hb : c.code = cX12_image) (hW : ∀ w ∈ lw_tbl, goodWord w = true → w.before args s = true) (hown : s.vm.findClass RX12 = some m.cls) (hK : md_K D cy s) (hZ : 104 ≤ Z) (hK69 : K 69 = 12) (hKs : K 81 = 14) (hKi : K 102 = 14) (hKm : K 103 = 16) (hNs : N 81 = 226) (hNi : N 102 = 904) (hNm : N 103 = 4) (hRs : R 69 25 = some 81) (hRi : R 69 53 = some 102) (hRm : R 69 54 = some 103)
    (kx : ∀ (M1 : Nat → Nat → Int32) (H : Heap) (locs : List Loc) (ls : Array Slot), (∀ j, M1 81 j = 0) → md_G D cy base Z K N M1 R J s H locs → lv_has ls 3 [(0, .ref (base + 69))] → W p l e Rm s m args below meth c H locs cells slots Q (F0 m 58 ls [])) :
    ∀ (n i : Nat) (M1 : Nat → Nat → Int32) (H : Heap) (locs : List Loc) (ls : Array Slot), i ≤ 226 → 227 ≤ i + n → (∀ j, M1 81 j = 0) → md_G D cy base Z K N M1 R J s H locs → lv_has ls 3 [(2, .int (nI i)), (0, .ref (base + 69)), (1, .int 1)] → W p l e Rm s m args below meth c H locs cells slots Q (F0 m 27 ls []) := by
  intro n
  induction n with
  | zero =>
    intro i M1 H locs ls h1 h2
    exact absurd h2 (by omega)
  | succ n ih =>
    intro i M1 H locs ls hi hn hs hG hl
    refine lv_iload_n hx hb dX12_image_27 rfl (lv_at hl 0 rfl) ?_
    refine lv_sipush (v := 226) hx hb dX12_image_28 (by decide) ?_
    refine lv_icmp_ge (tgt := 58) hx hb dX12_image_31 (by decide) (fun c9 => ?_) (fun c9 => ?_)
    · exact kx M1 H locs ls hs hG (lv_sub hl [1] rfl)
    · have hlt : i < 226 := by
        rcases Nat.lt_or_ge i 226 with q | q
        · exact q
        · exact absurd (show (226 : Int32) ≤ nI i from nI_le (a := 226) q (by omega)) c9
      refine lv_aload_n hx hb dX12_image_34 rfl (lv_at hl 1 rfl) ?_
      refine md_getr hx hb hW hown hK hG f_X12_109_11 (Nat.lt_of_lt_of_le (by decide) hZ) hK69 (b := 102) hRi dX12_image_35 ?_
      refine lv_sipush (v := 226) hx hb dX12_image_38 (by decide) ?_
      refine lv_iload_n hx hb dX12_image_41 rfl (lv_at hl 2 rfl) ?_
      refine lv_imul hx hb dX12_image_42 ?_
      refine md_top (y := nI 226) (by decide) ?_
      refine lv_iload_n hx hb dX12_image_43 rfl (lv_at hl 0 rfl) ?_
      refine lv_iadd hx hb dX12_image_44 ?_
      refine md_top (nI_add 226 i) ?_
      refine lv_aload_n hx hb dX12_image_45 rfl (lv_at hl 1 rfl) ?_
      refine md_getr hx hb hW hown hK hG f_X12_45_11 (Nat.lt_of_lt_of_le (by decide) hZ) hK69 (b := 81) hRs dX12_image_46 ?_
      refine lv_iload_n hx hb dX12_image_49 rfl (lv_at hl 0 rfl) ?_
      refine md_iald hx hb hK hG (Nat.lt_of_lt_of_le (by decide) hZ) hKs hNs (vp_in_nI hlt (by omega)) (v := 0) (hs _) dX12_image_50 ?_
      refine md_iast hx hb hK hG (Nat.lt_of_lt_of_le (by decide) hZ) hKi hNi (vp_in_nI (show 226 + i < 904 by omega) (by omega)) (k := 226 + i) (nI_clamp (by omega)) dX12_image_51 (fun H locs hG => ?_)
      refine lv_iinc (v := nI (i + 1)) (lv' := [(2, .int (nI (i + 1))), (0, .ref (base + 69)), (1, .int 1)]) hx hb dX12_image_52 hl (k := 0) rfl (nI_1 i) (by decide) rfl (fun ls hl => ?_)
      refine lv_goto (tgt := 27) hx hb dX12_image_55 (by decide) ?_
      exact ih (i + 1) _ H locs ls hlt (by omega) (fun j => by rw [u2_ne (by decide)]; exact hs j) hG hl
end IMG1
set_option maxRecDepth 100000 in
set_option maxHeartbeats 4000000 in
theorem c_image_m1 (l : Launch) (D : va_G) (cy : Nat → ClassId) (tx : (Nat → Nat) × (Nat → Nat)) (base Z : Nat) (K N : Nat → Nat) (M : Nat → Nat → Int32) (R : Nat → Nat → Option Nat) (J : Nat → Nat → Int64) (hZ : 104 ≤ Z) (hK69 : K 69 = 12) (hKs : K 81 = 14) (hKi : K 102 = 14) (hKm : K 103 = 16) (hNs : N 81 = 226) (hNi : N 102 = 904) (hNm : N 103 = 4) (hRs : R 69 25 = some 81) (hRi : R 69 53 = some 102) (hRm : R 69 54 = some 103) (hs : ∀ j, M 81 j = 0) : Met l yX12_image [Cond.code yX12_image cX12_image 3 (some .int)] (md_rm 2 0 0) (va_Pc [.ref (base + 69), .int 1] (md_U D cy tx base Z K N M R J)) (mQi D cy tx base (fun r u => r = 0 ∧ ∃ M1 : Nat → Nat → Int32, u = (Z, K, N, M1, R, J))) 0 0 (fun q => base ≤ q) := by
  refine Met.ofW (cc := cX12_image) (maxL := 3) (ret := (some .int)) (by decide) rfl ?_
  intro p e s m args below meth c s₁ B hml hv
  have hW : ∀ w ∈ lw_tbl, goodWord w = true → w.before args s = true := fun w h g => hv.2.2.2.1.2.1 w h g _
  obtain ⟨rfl, hU⟩ := hv
  have hx := B.exec
  have hb := B.bytes
  have hr := B.returns
  have hlocks := B.notSynchronized
  have hown : s.vm.findClass RX12 = some m.cls := findClass_of_methodNamed B.named
  have hK := hU.2.2.1
  have hT := hU.2.2.2
  have hG := md_G.start hU
  have hl := lv_entry ([.ref (base + 69), .int 1]) (n := 3) (Nat.le_of_ble_eq_true rfl)
  rw [lg_entry_eq]
  generalize (lg_sl ([.ref (base + 69), .int 1]) ++ List.replicate (3 - (lg_sl ([.ref (base + 69), .int 1])).length) Slot.unset).toArray = ls at hl ⊢
  have hl : lv_has ls 3 [(0, .ref (base + 69)), (1, .int 1)] := hl
  refine lv_iload_n hx hb dX12_image_0 rfl (lv_at hl 1 rfl) ?_
  refine lv_i2l (v := 1) hx hb dX12_image_1 (by decide) ?_
  refine lv_lconst (v := 0) hx hb dX12_image_2 (by decide) ?_
  refine lv_ldc2 hx hb hown (hW _ w_8_59 rfl) dX12_image_3 ?_
  refine md_goi hG (md_runS (As := [.long 1, .long 0, .long 3]) (rest := []) hx hb hml hown hW hK hT hG (c_X12_in_9 l D cy tx base Z K N M R J hZ) s_X12_155 ⟨rfl, rfl, ⟨Nat.le_of_ble_eq_true rfl, Nat.le_of_ble_eq_true rfl⟩, Nat.le_of_ble_eq_true rfl, Nat.le_of_ble_eq_true rfl⟩ rfl hl.1 rfl (Nat.le_of_ble_eq_true rfl) dX12_image_6) (fun r u H locs hp hG => ?_)
  obtain ⟨rfl, rfl⟩ := hp
  have hG : md_G D cy base Z K N M R J s H locs := hG
  refine lv_if_ne (tgt := 18) hx hb dX12_image_9 (by decide) (fun _ => ?_) (fun h => absurd h (by decide))
  refine lv_aload_n hx hb dX12_image_18 rfl (lv_at hl 0 rfl) ?_
  refine md_getr hx hb hW hown hK hG f_X12_112_11 (Nat.lt_of_lt_of_le (by decide) hZ) hK69 (b := 103) hRm dX12_image_19 ?_
  refine lv_iload_n hx hb dX12_image_22 rfl (lv_at hl 1 rfl) ?_
  refine lv_iconst (v := 1) hx hb dX12_image_23 (by decide) ?_
  refine md_zast hx hb hK hG (Nat.lt_of_lt_of_le (by decide) hZ) hKm hNm (md_inD (by decide)) (k := 1) (by decide) dX12_image_24 (fun H locs hG => ?_)
  refine lv_iconst (v := 0) hx hb dX12_image_25 (by decide) ?_
  refine lv_istore_n (lv' := [(2, .int 0), (0, .ref (base + 69)), (1, .int 1)]) hx hb dX12_image_26 rfl hl (by decide) rfl (fun ls hl => ?_)
  refine img_loop1 hx hb hW hown hK hZ hK69 hKs hKi hKm hNs hNi hNm hRs hRi hRm (fun M1 H locs ls hs hG hl => ?_) 227 0 _ H locs ls (by omega) (by omega) (fun j => by rw [u2_ne (by decide)]; exact hs j) hG hl
  refine lv_aload_n hx hb dX12_image_58 rfl (lv_at hl 0 rfl) ?_
  refine md_getr hx hb hW hown hK hG f_X12_45_11 (Nat.lt_of_lt_of_le (by decide) hZ) hK69 (b := 81) hRs dX12_image_59 ?_
  refine lv_iconst (v := 3) hx hb dX12_image_62 (by decide) ?_
  refine md_iald hx hb hK hG (Nat.lt_of_lt_of_le (by decide) hZ) hKs hNs (md_inD (by decide)) (v := 0) (hs _) dX12_image_63 ?_
  exact md_endi hx hb hr hlocks hK hT hG ⟨rfl, M1, rfl⟩ dX12_image_64
section IMG2
variable {p : Program} {l : Launch} {e : Env} {Rm : Room} {s : State} {m : MethodId} {args : Array Value} {below : List Frame} {meth : Method} {c : Code} {cells slots : Nat} {Q : State → Prop}
variable {D : va_G} {cy : Nat → ClassId} {base Z : Nat} {K N : Nat → Nat} {R : Nat → Nat → Option Nat} {J : Nat → Nat → Int64}
set_option maxRecDepth 100000 in
set_option maxHeartbeats 4000000 in
theorem img_loop2 (hx : p.tables.exec = Jvm.exec) (hb : c.code = cX12_image) (hW : ∀ w ∈ lw_tbl, goodWord w = true → w.before args s = true) (hown : s.vm.findClass RX12 = some m.cls) (hK : md_K D cy s) (hZ : 104 ≤ Z) (hK69 : K 69 = 12) (hKs : K 81 = 14) (hKi : K 102 = 14) (hKm : K 103 = 16) (hNs : N 81 = 226) (hNi : N 102 = 904) (hNm : N 103 = 4) (hRs : R 69 25 = some 81) (hRi : R 69 53 = some 102) (hRm : R 69 54 = some 103)
    (kx : ∀ (M1 : Nat → Nat → Int32) (H : Heap) (locs : List Loc) (ls : Array Slot), (∀ j, M1 81 j = 0) → md_G D cy base Z K N M1 R J s H locs → lv_has ls 3 [(0, .ref (base + 69))] → W p l e Rm s m args below meth c H locs cells slots Q (F0 m 58 ls [])) :
    ∀ (n i : Nat) (M1 : Nat → Nat → Int32) (H : Heap) (locs : List Loc) (ls : Array Slot), i ≤ 226 → 227 ≤ i + n → (∀ j, M1 81 j = 0) → md_G D cy base Z K N M1 R J s H locs → lv_has ls 3 [(2, .int (nI i)), (0, .ref (base + 69)), (1, .int 2)] → W p l e Rm s m args below meth c H locs cells slots Q (F0 m 27 ls []) := by
  intro n
  induction n with
  | zero =>
    intro i M1 H locs ls h1 h2
    exact absurd h2 (by omega)
  | succ n ih =>
    intro i M1 H locs ls hi hn hs hG hl
    refine lv_iload_n hx hb dX12_image_27 rfl (lv_at hl 0 rfl) ?_
    refine lv_sipush (v := 226) hx hb dX12_image_28 (by decide) ?_
    refine lv_icmp_ge (tgt := 58) hx hb dX12_image_31 (by decide) (fun c9 => ?_) (fun c9 => ?_)
    · exact kx M1 H locs ls hs hG (lv_sub hl [1] rfl)
    · have hlt : i < 226 := by
        rcases Nat.lt_or_ge i 226 with q | q
        · exact q
        · exact absurd (show (226 : Int32) ≤ nI i from nI_le (a := 226) q (by omega)) c9
      refine lv_aload_n hx hb dX12_image_34 rfl (lv_at hl 1 rfl) ?_
      refine md_getr hx hb hW hown hK hG f_X12_109_11 (Nat.lt_of_lt_of_le (by decide) hZ) hK69 (b := 102) hRi dX12_image_35 ?_
      refine lv_sipush (v := 226) hx hb dX12_image_38 (by decide) ?_
      refine lv_iload_n hx hb dX12_image_41 rfl (lv_at hl 2 rfl) ?_
      refine lv_imul hx hb dX12_image_42 ?_
      refine md_top (y := nI 452) (by decide) ?_
      refine lv_iload_n hx hb dX12_image_43 rfl (lv_at hl 0 rfl) ?_
      refine lv_iadd hx hb dX12_image_44 ?_
      refine md_top (nI_add 452 i) ?_
      refine lv_aload_n hx hb dX12_image_45 rfl (lv_at hl 1 rfl) ?_
      refine md_getr hx hb hW hown hK hG f_X12_45_11 (Nat.lt_of_lt_of_le (by decide) hZ) hK69 (b := 81) hRs dX12_image_46 ?_
      refine lv_iload_n hx hb dX12_image_49 rfl (lv_at hl 0 rfl) ?_
      refine md_iald hx hb hK hG (Nat.lt_of_lt_of_le (by decide) hZ) hKs hNs (vp_in_nI hlt (by omega)) (v := 0) (hs _) dX12_image_50 ?_
      refine md_iast hx hb hK hG (Nat.lt_of_lt_of_le (by decide) hZ) hKi hNi (vp_in_nI (show 452 + i < 904 by omega) (by omega)) (k := 452 + i) (nI_clamp (by omega)) dX12_image_51 (fun H locs hG => ?_)
      refine lv_iinc (v := nI (i + 1)) (lv' := [(2, .int (nI (i + 1))), (0, .ref (base + 69)), (1, .int 2)]) hx hb dX12_image_52 hl (k := 0) rfl (nI_1 i) (by decide) rfl (fun ls hl => ?_)
      refine lv_goto (tgt := 27) hx hb dX12_image_55 (by decide) ?_
      exact ih (i + 1) _ H locs ls hlt (by omega) (fun j => by rw [u2_ne (by decide)]; exact hs j) hG hl
end IMG2
set_option maxRecDepth 100000 in
set_option maxHeartbeats 4000000 in
theorem c_image_m2 (l : Launch) (D : va_G) (cy : Nat → ClassId) (tx : (Nat → Nat) × (Nat → Nat)) (base Z : Nat) (K N : Nat → Nat) (M : Nat → Nat → Int32) (R : Nat → Nat → Option Nat) (J : Nat → Nat → Int64) (hZ : 104 ≤ Z) (hK69 : K 69 = 12) (hKs : K 81 = 14) (hKi : K 102 = 14) (hKm : K 103 = 16) (hNs : N 81 = 226) (hNi : N 102 = 904) (hNm : N 103 = 4) (hRs : R 69 25 = some 81) (hRi : R 69 53 = some 102) (hRm : R 69 54 = some 103) (hs : ∀ j, M 81 j = 0) : Met l yX12_image [Cond.code yX12_image cX12_image 3 (some .int)] (md_rm 2 0 0) (va_Pc [.ref (base + 69), .int 2] (md_U D cy tx base Z K N M R J)) (mQi D cy tx base (fun r u => r = 0 ∧ ∃ M1 : Nat → Nat → Int32, u = (Z, K, N, M1, R, J))) 0 0 (fun q => base ≤ q) := by
  refine Met.ofW (cc := cX12_image) (maxL := 3) (ret := (some .int)) (by decide) rfl ?_
  intro p e s m args below meth c s₁ B hml hv
  have hW : ∀ w ∈ lw_tbl, goodWord w = true → w.before args s = true := fun w h g => hv.2.2.2.1.2.1 w h g _
  obtain ⟨rfl, hU⟩ := hv
  have hx := B.exec
  have hb := B.bytes
  have hr := B.returns
  have hlocks := B.notSynchronized
  have hown : s.vm.findClass RX12 = some m.cls := findClass_of_methodNamed B.named
  have hK := hU.2.2.1
  have hT := hU.2.2.2
  have hG := md_G.start hU
  have hl := lv_entry ([.ref (base + 69), .int 2]) (n := 3) (Nat.le_of_ble_eq_true rfl)
  rw [lg_entry_eq]
  generalize (lg_sl ([.ref (base + 69), .int 2]) ++ List.replicate (3 - (lg_sl ([.ref (base + 69), .int 2])).length) Slot.unset).toArray = ls at hl ⊢
  have hl : lv_has ls 3 [(0, .ref (base + 69)), (1, .int 2)] := hl
  refine lv_iload_n hx hb dX12_image_0 rfl (lv_at hl 1 rfl) ?_
  refine lv_i2l (v := 2) hx hb dX12_image_1 (by decide) ?_
  refine lv_lconst (v := 0) hx hb dX12_image_2 (by decide) ?_
  refine lv_ldc2 hx hb hown (hW _ w_8_59 rfl) dX12_image_3 ?_
  refine md_goi hG (md_runS (As := [.long 2, .long 0, .long 3]) (rest := []) hx hb hml hown hW hK hT hG (c_X12_in_10 l D cy tx base Z K N M R J hZ) s_X12_155 ⟨rfl, rfl, ⟨Nat.le_of_ble_eq_true rfl, Nat.le_of_ble_eq_true rfl⟩, Nat.le_of_ble_eq_true rfl, Nat.le_of_ble_eq_true rfl⟩ rfl hl.1 rfl (Nat.le_of_ble_eq_true rfl) dX12_image_6) (fun r u H locs hp hG => ?_)
  obtain ⟨rfl, rfl⟩ := hp
  have hG : md_G D cy base Z K N M R J s H locs := hG
  refine lv_if_ne (tgt := 18) hx hb dX12_image_9 (by decide) (fun _ => ?_) (fun h => absurd h (by decide))
  refine lv_aload_n hx hb dX12_image_18 rfl (lv_at hl 0 rfl) ?_
  refine md_getr hx hb hW hown hK hG f_X12_112_11 (Nat.lt_of_lt_of_le (by decide) hZ) hK69 (b := 103) hRm dX12_image_19 ?_
  refine lv_iload_n hx hb dX12_image_22 rfl (lv_at hl 1 rfl) ?_
  refine lv_iconst (v := 1) hx hb dX12_image_23 (by decide) ?_
  refine md_zast hx hb hK hG (Nat.lt_of_lt_of_le (by decide) hZ) hKm hNm (md_inD (by decide)) (k := 2) (by decide) dX12_image_24 (fun H locs hG => ?_)
  refine lv_iconst (v := 0) hx hb dX12_image_25 (by decide) ?_
  refine lv_istore_n (lv' := [(2, .int 0), (0, .ref (base + 69)), (1, .int 2)]) hx hb dX12_image_26 rfl hl (by decide) rfl (fun ls hl => ?_)
  refine img_loop2 hx hb hW hown hK hZ hK69 hKs hKi hKm hNs hNi hNm hRs hRi hRm (fun M1 H locs ls hs hG hl => ?_) 227 0 _ H locs ls (by omega) (by omega) (fun j => by rw [u2_ne (by decide)]; exact hs j) hG hl
  refine lv_aload_n hx hb dX12_image_58 rfl (lv_at hl 0 rfl) ?_
  refine md_getr hx hb hW hown hK hG f_X12_45_11 (Nat.lt_of_lt_of_le (by decide) hZ) hK69 (b := 81) hRs dX12_image_59 ?_
  refine lv_iconst (v := 3) hx hb dX12_image_62 (by decide) ?_
  refine md_iald hx hb hK hG (Nat.lt_of_lt_of_le (by decide) hZ) hKs hNs (md_inD (by decide)) (v := 0) (hs _) dX12_image_63 ?_
  exact md_endi hx hb hr hlocks hK hT hG ⟨rfl, M1, rfl⟩ dX12_image_64
section IMG3
variable {p : Program} {l : Launch} {e : Env} {Rm : Room} {s : State} {m : MethodId} {args : Array Value} {below : List Frame} {meth : Method} {c : Code} {cells slots : Nat} {Q : State → Prop}
variable {D : va_G} {cy : Nat → ClassId} {base Z : Nat} {K N : Nat → Nat} {R : Nat → Nat → Option Nat} {J : Nat → Nat → Int64}
set_option maxRecDepth 100000 in
set_option maxHeartbeats 4000000 in
theorem img_loop3 (hx : p.tables.exec = Jvm.exec) (hb : c.code = cX12_image) (hW : ∀ w ∈ lw_tbl, goodWord w = true → w.before args s = true) (hown : s.vm.findClass RX12 = some m.cls) (hK : md_K D cy s) (hZ : 104 ≤ Z) (hK69 : K 69 = 12) (hKs : K 81 = 14) (hKi : K 102 = 14) (hKm : K 103 = 16) (hNs : N 81 = 226) (hNi : N 102 = 904) (hNm : N 103 = 4) (hRs : R 69 25 = some 81) (hRi : R 69 53 = some 102) (hRm : R 69 54 = some 103)
    (kx : ∀ (M1 : Nat → Nat → Int32) (H : Heap) (locs : List Loc) (ls : Array Slot), (∀ j, M1 81 j = 0) → md_G D cy base Z K N M1 R J s H locs → lv_has ls 3 [(0, .ref (base + 69))] → W p l e Rm s m args below meth c H locs cells slots Q (F0 m 58 ls [])) :
    ∀ (n i : Nat) (M1 : Nat → Nat → Int32) (H : Heap) (locs : List Loc) (ls : Array Slot), i ≤ 226 → 227 ≤ i + n → (∀ j, M1 81 j = 0) → md_G D cy base Z K N M1 R J s H locs → lv_has ls 3 [(2, .int (nI i)), (0, .ref (base + 69)), (1, .int 3)] → W p l e Rm s m args below meth c H locs cells slots Q (F0 m 27 ls []) := by
  intro n
  induction n with
  | zero =>
    intro i M1 H locs ls h1 h2
    exact absurd h2 (by omega)
  | succ n ih =>
    intro i M1 H locs ls hi hn hs hG hl
    refine lv_iload_n hx hb dX12_image_27 rfl (lv_at hl 0 rfl) ?_
    refine lv_sipush (v := 226) hx hb dX12_image_28 (by decide) ?_
    refine lv_icmp_ge (tgt := 58) hx hb dX12_image_31 (by decide) (fun c9 => ?_) (fun c9 => ?_)
    · exact kx M1 H locs ls hs hG (lv_sub hl [1] rfl)
    · have hlt : i < 226 := by
        rcases Nat.lt_or_ge i 226 with q | q
        · exact q
        · exact absurd (show (226 : Int32) ≤ nI i from nI_le (a := 226) q (by omega)) c9
      refine lv_aload_n hx hb dX12_image_34 rfl (lv_at hl 1 rfl) ?_
      refine md_getr hx hb hW hown hK hG f_X12_109_11 (Nat.lt_of_lt_of_le (by decide) hZ) hK69 (b := 102) hRi dX12_image_35 ?_
      refine lv_sipush (v := 226) hx hb dX12_image_38 (by decide) ?_
      refine lv_iload_n hx hb dX12_image_41 rfl (lv_at hl 2 rfl) ?_
      refine lv_imul hx hb dX12_image_42 ?_
      refine md_top (y := nI 678) (by decide) ?_
      refine lv_iload_n hx hb dX12_image_43 rfl (lv_at hl 0 rfl) ?_
      refine lv_iadd hx hb dX12_image_44 ?_
      refine md_top (nI_add 678 i) ?_
      refine lv_aload_n hx hb dX12_image_45 rfl (lv_at hl 1 rfl) ?_
      refine md_getr hx hb hW hown hK hG f_X12_45_11 (Nat.lt_of_lt_of_le (by decide) hZ) hK69 (b := 81) hRs dX12_image_46 ?_
      refine lv_iload_n hx hb dX12_image_49 rfl (lv_at hl 0 rfl) ?_
      refine md_iald hx hb hK hG (Nat.lt_of_lt_of_le (by decide) hZ) hKs hNs (vp_in_nI hlt (by omega)) (v := 0) (hs _) dX12_image_50 ?_
      refine md_iast hx hb hK hG (Nat.lt_of_lt_of_le (by decide) hZ) hKi hNi (vp_in_nI (show 678 + i < 904 by omega) (by omega)) (k := 678 + i) (nI_clamp (by omega)) dX12_image_51 (fun H locs hG => ?_)
      refine lv_iinc (v := nI (i + 1)) (lv' := [(2, .int (nI (i + 1))), (0, .ref (base + 69)), (1, .int 3)]) hx hb dX12_image_52 hl (k := 0) rfl (nI_1 i) (by decide) rfl (fun ls hl => ?_)
      refine lv_goto (tgt := 27) hx hb dX12_image_55 (by decide) ?_
      exact ih (i + 1) _ H locs ls hlt (by omega) (fun j => by rw [u2_ne (by decide)]; exact hs j) hG hl
end IMG3
set_option maxRecDepth 100000 in
set_option maxHeartbeats 4000000 in
theorem c_image_m3 (l : Launch) (D : va_G) (cy : Nat → ClassId) (tx : (Nat → Nat) × (Nat → Nat)) (base Z : Nat) (K N : Nat → Nat) (M : Nat → Nat → Int32) (R : Nat → Nat → Option Nat) (J : Nat → Nat → Int64) (hZ : 104 ≤ Z) (hK69 : K 69 = 12) (hKs : K 81 = 14) (hKi : K 102 = 14) (hKm : K 103 = 16) (hNs : N 81 = 226) (hNi : N 102 = 904) (hNm : N 103 = 4) (hRs : R 69 25 = some 81) (hRi : R 69 53 = some 102) (hRm : R 69 54 = some 103) (hs : ∀ j, M 81 j = 0) : Met l yX12_image [Cond.code yX12_image cX12_image 3 (some .int)] (md_rm 2 0 0) (va_Pc [.ref (base + 69), .int 3] (md_U D cy tx base Z K N M R J)) (mQi D cy tx base (fun r u => r = 0 ∧ ∃ M1 : Nat → Nat → Int32, u = (Z, K, N, M1, R, J))) 0 0 (fun q => base ≤ q) := by
  refine Met.ofW (cc := cX12_image) (maxL := 3) (ret := (some .int)) (by decide) rfl ?_
  intro p e s m args below meth c s₁ B hml hv
  have hW : ∀ w ∈ lw_tbl, goodWord w = true → w.before args s = true := fun w h g => hv.2.2.2.1.2.1 w h g _
  obtain ⟨rfl, hU⟩ := hv
  have hx := B.exec
  have hb := B.bytes
  have hr := B.returns
  have hlocks := B.notSynchronized
  have hown : s.vm.findClass RX12 = some m.cls := findClass_of_methodNamed B.named
  have hK := hU.2.2.1
  have hT := hU.2.2.2
  have hG := md_G.start hU
  have hl := lv_entry ([.ref (base + 69), .int 3]) (n := 3) (Nat.le_of_ble_eq_true rfl)
  rw [lg_entry_eq]
  generalize (lg_sl ([.ref (base + 69), .int 3]) ++ List.replicate (3 - (lg_sl ([.ref (base + 69), .int 3])).length) Slot.unset).toArray = ls at hl ⊢
  have hl : lv_has ls 3 [(0, .ref (base + 69)), (1, .int 3)] := hl
  refine lv_iload_n hx hb dX12_image_0 rfl (lv_at hl 1 rfl) ?_
  refine lv_i2l (v := 3) hx hb dX12_image_1 (by decide) ?_
  refine lv_lconst (v := 0) hx hb dX12_image_2 (by decide) ?_
  refine lv_ldc2 hx hb hown (hW _ w_8_59 rfl) dX12_image_3 ?_
  refine md_goi hG (md_runS (As := [.long 3, .long 0, .long 3]) (rest := []) hx hb hml hown hW hK hT hG (c_X12_in_11 l D cy tx base Z K N M R J hZ) s_X12_155 ⟨rfl, rfl, ⟨Nat.le_of_ble_eq_true rfl, Nat.le_of_ble_eq_true rfl⟩, Nat.le_of_ble_eq_true rfl, Nat.le_of_ble_eq_true rfl⟩ rfl hl.1 rfl (Nat.le_of_ble_eq_true rfl) dX12_image_6) (fun r u H locs hp hG => ?_)
  obtain ⟨rfl, rfl⟩ := hp
  have hG : md_G D cy base Z K N M R J s H locs := hG
  refine lv_if_ne (tgt := 18) hx hb dX12_image_9 (by decide) (fun _ => ?_) (fun h => absurd h (by decide))
  refine lv_aload_n hx hb dX12_image_18 rfl (lv_at hl 0 rfl) ?_
  refine md_getr hx hb hW hown hK hG f_X12_112_11 (Nat.lt_of_lt_of_le (by decide) hZ) hK69 (b := 103) hRm dX12_image_19 ?_
  refine lv_iload_n hx hb dX12_image_22 rfl (lv_at hl 1 rfl) ?_
  refine lv_iconst (v := 1) hx hb dX12_image_23 (by decide) ?_
  refine md_zast hx hb hK hG (Nat.lt_of_lt_of_le (by decide) hZ) hKm hNm (md_inD (by decide)) (k := 3) (by decide) dX12_image_24 (fun H locs hG => ?_)
  refine lv_iconst (v := 0) hx hb dX12_image_25 (by decide) ?_
  refine lv_istore_n (lv' := [(2, .int 0), (0, .ref (base + 69)), (1, .int 3)]) hx hb dX12_image_26 rfl hl (by decide) rfl (fun ls hl => ?_)
  refine img_loop3 hx hb hW hown hK hZ hK69 hKs hKi hKm hNs hNi hNm hRs hRi hRm (fun M1 H locs ls hs hG hl => ?_) 227 0 _ H locs ls (by omega) (by omega) (fun j => by rw [u2_ne (by decide)]; exact hs j) hG hl
  refine lv_aload_n hx hb dX12_image_58 rfl (lv_at hl 0 rfl) ?_
  refine md_getr hx hb hW hown hK hG f_X12_45_11 (Nat.lt_of_lt_of_le (by decide) hZ) hK69 (b := 81) hRs dX12_image_59 ?_
  refine lv_iconst (v := 3) hx hb dX12_image_62 (by decide) ?_
  refine md_iald hx hb hK hG (Nat.lt_of_lt_of_le (by decide) hZ) hKs hNs (md_inD (by decide)) (v := 0) (hs _) dX12_image_63 ?_
  exact md_endi hx hb hr hlocks hK hT hG ⟨rfl, M1, rfl⟩ dX12_image_64
