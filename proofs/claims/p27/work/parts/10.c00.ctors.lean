set_option maxRecDepth 100000 in
set_option maxHeartbeats 4000000 in
theorem c_X9_init (l : Launch) (D : va_G) (cy : Nat → ClassId) (tx : (Nat → Nat) × (Nat → Nat)) (base : Nat) (K N : Nat → Nat) (M : Nat → Nat → Int32) (R : Nat → Nat → Option Nat) (J : Nat → Nat → Int64) (hF : ∀ a, 5 ≤ a → ∀ k, M a k = 0 ∧ R a k = none ∧ J a k = 0) (hK5 : K 5 = 14) (hN5 : N 5 = 120) (hK4 : K 4 = 10) (hK6 : K 6 = 20) (hN6 : N 6 = 10) (hK7 : K 7 = 14) (hN7 : N 7 = 10) (hK8 : K 8 = 14) (hN8 : N 8 = 10) (hK9 : K 9 = 14) (hN9 : N 9 = 10) (hK10 : K 10 = 21) (hN10 : N 10 = 8) (hK11 : K 11 = 14) (hN11 : N 11 = 48) : Met l yX9_init [Cond.code yX9_init cX9_init 1 none] (md_rm 1 7 216) (va_Pc [.ref (base + 4)] (md_U D cy tx base 5 K N M R J)) (mQv D cy tx base (fun u => u = (12, K, N, M, (u2 (u2 (u2 (u2 (u2 (u2 (u2 R 4 9 (some 5)) 4 10 (some 6)) 4 11 (some 7)) 4 12 (some 8)) 4 13 (some 9)) 4 14 (some 10)) 4 15 (some 11)), J))) 7 216 (fun q => base ≤ q) := by
  refine Met.ofW (cc := cX9_init) (maxL := 1) (ret := none) (by decide) rfl ?_
  intro p e s m args below meth c s₁ B hml hv
  have hW : ∀ w ∈ lw_tbl, goodWord w = true → w.before args s = true := fun w h g => hv.2.2.2.1.2.1 w h g _
  obtain ⟨rfl, hU⟩ := hv
  have hx := B.exec
  have hb := B.bytes
  have hr := B.returns
  have hlocks := B.notSynchronized
  have hown : s.vm.findClass RX9 = some m.cls := findClass_of_methodNamed B.named
  have hK := hU.2.2.1
  have hT := hU.2.2.2
  have hG := md_G.start hU
  have hin : meth.name = "<init>" := (name_of_methodNamed B.named B.method).1
  have hl := lv_entry ([.ref (base + 4)]) (n := 1) (Nat.le_of_ble_eq_true rfl)
  rw [lg_entry_eq]
  generalize (lg_sl ([.ref (base + 4)]) ++ List.replicate (1 - (lg_sl ([.ref (base + 4)])).length) Slot.unset).toArray = ls at hl ⊢
  have hl : lv_has ls 1 [(0, .ref (base + 4))] := hl
  refine lv_aload_n hx hb dX9_init_0 rfl (lv_at hl 0 rfl) ?_
  refine W.objInit hx hb hown (hW _ w_1_35 rfl) (hW _ w_1_27 rfl) (hW _ w_1_28 rfl) rfl (by rw [hml]; exact hl.1) rfl dX9_init_1 (Nat.le_of_ble_eq_true rfl) (Nat.le_of_ble_eq_true rfl) ?_
  refine W.eq (g2 := F0 m 4 ls []) rfl ?_
  refine lv_aload_n hx hb dX9_init_4 rfl (lv_at hl 0 rfl) ?_
  refine lv_bipush (v := 120) hx hb dX9_init_5 (by decide) ?_
  refine md_newa hx hb hW hK hG (t := 14) (Or.inr (Or.inl ⟨rfl, Or.inl rfl⟩)) w_1_144 (na := 120) (by decide) (by decide) (by decide) (Or.inl ⟨hK5, hN5⟩) (fun k => (hF 5 (by decide) k).1) (fun k => (hF 5 (by decide) k).2.2) (Nat.le_of_ble_eq_true rfl) (Nat.le_of_ble_eq_true rfl) dX9_init_7 (fun H hG => ?_)
  have hG : md_G D cy base 6 K N M R J s H _ := hG
  refine md_putF hx hb hW hown hK hG f_X9_9_9 hin rfl (by decide) hK4 rfl rfl dX9_init_9 (fun H locs hG => ?_)
  refine lv_aload_n hx hb dX9_init_12 rfl (lv_at hl 0 rfl) ?_
  refine lv_bipush (v := 10) hx hb dX9_init_13 (by decide) ?_
  refine md_newa hx hb hW hK hG (t := 20) (Or.inr (Or.inl ⟨rfl, Or.inr (by decide)⟩)) w_1_144 (na := 10) (by decide) (by decide) (by decide) (Or.inl ⟨hK6, hN6⟩) (fun k => (hF 6 (by decide) k).1) (fun k => (hF 6 (by decide) k).2.2) (Nat.le_of_ble_eq_true rfl) (Nat.le_of_ble_eq_true rfl) dX9_init_15 (fun H hG => ?_)
  have hG : md_G D cy base 7 K N M (u2 R 4 9 (some 5)) J s H _ := hG
  refine md_putF hx hb hW hown hK hG f_X9_15_9 hin rfl (by decide) hK4 rfl rfl dX9_init_17 (fun H locs hG => ?_)
  refine lv_aload_n hx hb dX9_init_20 rfl (lv_at hl 0 rfl) ?_
  refine lv_bipush (v := 10) hx hb dX9_init_21 (by decide) ?_
  refine md_newa hx hb hW hK hG (t := 14) (Or.inr (Or.inl ⟨rfl, Or.inl rfl⟩)) w_1_144 (na := 10) (by decide) (by decide) (by decide) (Or.inl ⟨hK7, hN7⟩) (fun k => (hF 7 (by decide) k).1) (fun k => (hF 7 (by decide) k).2.2) (Nat.le_of_ble_eq_true rfl) (Nat.le_of_ble_eq_true rfl) dX9_init_23 (fun H hG => ?_)
  have hG : md_G D cy base 8 K N M (u2 (u2 R 4 9 (some 5)) 4 10 (some 6)) J s H _ := hG
  refine md_putF hx hb hW hown hK hG f_X9_18_9 hin rfl (by decide) hK4 rfl rfl dX9_init_25 (fun H locs hG => ?_)
  refine lv_aload_n hx hb dX9_init_28 rfl (lv_at hl 0 rfl) ?_
  refine lv_bipush (v := 10) hx hb dX9_init_29 (by decide) ?_
  refine md_newa hx hb hW hK hG (t := 14) (Or.inr (Or.inl ⟨rfl, Or.inl rfl⟩)) w_1_144 (na := 10) (by decide) (by decide) (by decide) (Or.inl ⟨hK8, hN8⟩) (fun k => (hF 8 (by decide) k).1) (fun k => (hF 8 (by decide) k).2.2) (Nat.le_of_ble_eq_true rfl) (Nat.le_of_ble_eq_true rfl) dX9_init_31 (fun H hG => ?_)
  have hG : md_G D cy base 9 K N M (u2 (u2 (u2 R 4 9 (some 5)) 4 10 (some 6)) 4 11 (some 7)) J s H _ := hG
  refine md_putF hx hb hW hown hK hG f_X9_21_9 hin rfl (by decide) hK4 rfl rfl dX9_init_33 (fun H locs hG => ?_)
  refine lv_aload_n hx hb dX9_init_36 rfl (lv_at hl 0 rfl) ?_
  refine lv_bipush (v := 10) hx hb dX9_init_37 (by decide) ?_
  refine md_newa hx hb hW hK hG (t := 14) (Or.inr (Or.inl ⟨rfl, Or.inl rfl⟩)) w_1_144 (na := 10) (by decide) (by decide) (by decide) (Or.inl ⟨hK9, hN9⟩) (fun k => (hF 9 (by decide) k).1) (fun k => (hF 9 (by decide) k).2.2) (Nat.le_of_ble_eq_true rfl) (Nat.le_of_ble_eq_true rfl) dX9_init_39 (fun H hG => ?_)
  have hG : md_G D cy base 10 K N M (u2 (u2 (u2 (u2 R 4 9 (some 5)) 4 10 (some 6)) 4 11 (some 7)) 4 12 (some 8)) J s H _ := hG
  refine md_putF hx hb hW hown hK hG f_X9_24_9 hin rfl (by decide) hK4 rfl rfl dX9_init_41 (fun H locs hG => ?_)
  refine lv_aload_n hx hb dX9_init_44 rfl (lv_at hl 0 rfl) ?_
  refine lv_bipush (v := 8) hx hb dX9_init_45 (by decide) ?_
  refine md_newa hx hb hW hK hG (t := 21) (Or.inr (Or.inl ⟨rfl, Or.inr (by decide)⟩)) w_1_144 (na := 8) (by decide) (by decide) (by decide) (Or.inl ⟨hK10, hN10⟩) (fun k => (hF 10 (by decide) k).1) (fun k => (hF 10 (by decide) k).2.2) (Nat.le_of_ble_eq_true rfl) (Nat.le_of_ble_eq_true rfl) dX9_init_47 (fun H hG => ?_)
  have hG : md_G D cy base 11 K N M (u2 (u2 (u2 (u2 (u2 R 4 9 (some 5)) 4 10 (some 6)) 4 11 (some 7)) 4 12 (some 8)) 4 13 (some 9)) J s H _ := hG
  refine md_putF hx hb hW hown hK hG f_X9_27_9 hin rfl (by decide) hK4 rfl rfl dX9_init_49 (fun H locs hG => ?_)
  refine lv_aload_n hx hb dX9_init_52 rfl (lv_at hl 0 rfl) ?_
  refine lv_bipush (v := 48) hx hb dX9_init_53 (by decide) ?_
  refine md_newa hx hb hW hK hG (t := 14) (Or.inr (Or.inl ⟨rfl, Or.inl rfl⟩)) w_1_144 (na := 48) (by decide) (by decide) (by decide) (Or.inl ⟨hK11, hN11⟩) (fun k => (hF 11 (by decide) k).1) (fun k => (hF 11 (by decide) k).2.2) (Nat.le_of_ble_eq_true rfl) (Nat.le_of_ble_eq_true rfl) dX9_init_55 (fun H hG => ?_)
  have hG : md_G D cy base 12 K N M (u2 (u2 (u2 (u2 (u2 (u2 R 4 9 (some 5)) 4 10 (some 6)) 4 11 (some 7)) 4 12 (some 8)) 4 13 (some 9)) 4 14 (some 10)) J s H _ := hG
  refine md_putF hx hb hW hown hK hG f_X9_30_9 hin rfl (by decide) hK4 rfl rfl dX9_init_57 (fun H locs hG => ?_)
  exact md_endv hx hb hr hlocks hK hT hG (rfl) dX9_init_60
set_option maxRecDepth 100000 in
set_option maxHeartbeats 4000000 in
theorem c_X5_init (l : Launch) (D : va_G) (cy : Nat → ClassId) (tx : (Nat → Nat) × (Nat → Nat)) (base : Nat) (K N : Nat → Nat) (M : Nat → Nat → Int32) (R : Nat → Nat → Option Nat) (J : Nat → Nat → Int64) (hK13 : K 13 = 6) (hK4 : K 4 = 10) (hR4_10 : R 4 10 = some 6) (hR4_14 : R 4 14 = some 10) : Met l yX5_init [Cond.code yX5_init cX5_init 3 none] (md_rm 1 0 0) (va_Pc [.ref (base + 13), .ref (base + 4), .ref (base + 12)] (md_U D cy tx base 14 K N M R J)) (mQv D cy tx base (fun u => u = (14, K, N, M, (u2 (u2 (u2 (u2 R 13 0 (some 4)) 13 1 (some 12)) 13 4 (some 6)) 13 5 (some 10)), J))) 0 0 (fun q => base ≤ q) := by
  refine Met.ofW (cc := cX5_init) (maxL := 3) (ret := none) (by decide) rfl ?_
  intro p e s m args below meth c s₁ B hml hv
  have hW : ∀ w ∈ lw_tbl, goodWord w = true → w.before args s = true := fun w h g => hv.2.2.2.1.2.1 w h g _
  obtain ⟨rfl, hU⟩ := hv
  have hx := B.exec
  have hb := B.bytes
  have hr := B.returns
  have hlocks := B.notSynchronized
  have hown : s.vm.findClass RX5 = some m.cls := findClass_of_methodNamed B.named
  have hK := hU.2.2.1
  have hT := hU.2.2.2
  have hG := md_G.start hU
  have hin : meth.name = "<init>" := (name_of_methodNamed B.named B.method).1
  have hl := lv_entry ([.ref (base + 13), .ref (base + 4), .ref (base + 12)]) (n := 3) (Nat.le_of_ble_eq_true rfl)
  rw [lg_entry_eq]
  generalize (lg_sl ([.ref (base + 13), .ref (base + 4), .ref (base + 12)]) ++ List.replicate (3 - (lg_sl ([.ref (base + 13), .ref (base + 4), .ref (base + 12)])).length) Slot.unset).toArray = ls at hl ⊢
  have hl : lv_has ls 3 [(0, .ref (base + 13)), (1, .ref (base + 4)), (2, .ref (base + 12))] := hl
  refine lv_aload_n hx hb dX5_init_0 rfl (lv_at hl 0 rfl) ?_
  refine W.objInit hx hb hown (hW _ w_1_152 rfl) (hW _ w_1_27 rfl) (hW _ w_1_28 rfl) rfl (by rw [hml]; exact hl.1) rfl dX5_init_1 (Nat.le_of_ble_eq_true rfl) (Nat.le_of_ble_eq_true rfl) ?_
  refine W.eq (g2 := F0 m 4 ls []) rfl ?_
  refine lv_aload_n hx hb dX5_init_4 rfl (lv_at hl 0 rfl) ?_
  refine lv_aload_n hx hb dX5_init_5 rfl (lv_at hl 1 rfl) ?_
  refine md_putF hx hb hW hown hK hG f_X5_9_5 hin rfl (by decide) hK13 rfl rfl dX5_init_6 (fun H locs hG => ?_)
  refine lv_aload_n hx hb dX5_init_9 rfl (lv_at hl 0 rfl) ?_
  refine lv_aload_n hx hb dX5_init_10 rfl (lv_at hl 2 rfl) ?_
  refine md_putF hx hb hW hown hK hG f_X5_15_5 hin rfl (by decide) hK13 rfl rfl dX5_init_11 (fun H locs hG => ?_)
  refine lv_aload_n hx hb dX5_init_14 rfl (lv_at hl 0 rfl) ?_
  refine lv_aload_n hx hb dX5_init_15 rfl (lv_at hl 1 rfl) ?_
  refine md_getr hx hb hW hown hK hG f_X5_19_9 (by decide) hK4 (b := 6) hR4_10 dX5_init_16 ?_
  refine md_putr hx hb hW hown hK hG f_X5_25_5 (by decide) hK13 rfl rfl dX5_init_19 (fun H locs hG => ?_)
  refine lv_aload_n hx hb dX5_init_22 rfl (lv_at hl 0 rfl) ?_
  refine lv_aload_n hx hb dX5_init_23 rfl (lv_at hl 1 rfl) ?_
  refine md_getr hx hb hW hown hK hG f_X5_26_9 (by decide) hK4 (b := 10) hR4_14 dX5_init_24 ?_
  refine md_putr hx hb hW hown hK hG f_X5_29_5 (by decide) hK13 rfl rfl dX5_init_27 (fun H locs hG => ?_)
  exact md_endv hx hb hr hlocks hK hT hG (rfl) dX5_init_30
set_option maxRecDepth 100000 in
set_option maxHeartbeats 4000000 in
theorem c_X10_init (l : Launch) (D : va_G) (cy : Nat → ClassId) (tx : (Nat → Nat) × (Nat → Nat)) (base Z : Nat) (K N : Nat → Nat) (M : Nat → Nat → Int32) (R : Nat → Nat → Option Nat) (J : Nat → Nat → Int64) (hZ : 15 ≤ Z) : Met l yX10_init [Cond.code yX10_init cX10_init 1 none] (md_rm 1 0 0) (va_Pc [.ref (base + 14)] (md_U D cy tx base Z K N M R J)) (mQv D cy tx base (fun u => u = (Z, K, N, M, R, J))) 0 0 (fun q => base ≤ q) := by
  refine Met.ofW (cc := cX10_init) (maxL := 1) (ret := none) (by decide) rfl ?_
  intro p e s m args below meth c s₁ B hml hv
  have hW : ∀ w ∈ lw_tbl, goodWord w = true → w.before args s = true := fun w h g => hv.2.2.2.1.2.1 w h g _
  obtain ⟨rfl, hU⟩ := hv
  have hx := B.exec
  have hb := B.bytes
  have hr := B.returns
  have hlocks := B.notSynchronized
  have hown : s.vm.findClass RX10 = some m.cls := findClass_of_methodNamed B.named
  have hK := hU.2.2.1
  have hT := hU.2.2.2
  have hG := md_G.start hU
  have hin : meth.name = "<init>" := (name_of_methodNamed B.named B.method).1
  have hl := lv_entry ([.ref (base + 14)]) (n := 1) (Nat.le_of_ble_eq_true rfl)
  rw [lg_entry_eq]
  generalize (lg_sl ([.ref (base + 14)]) ++ List.replicate (1 - (lg_sl ([.ref (base + 14)])).length) Slot.unset).toArray = ls at hl ⊢
  have hl : lv_has ls 1 [(0, .ref (base + 14))] := hl
  refine lv_aload_n hx hb dX10_init_0 rfl (lv_at hl 0 rfl) ?_
  refine W.objInit hx hb hown (hW _ w_1_218 rfl) (hW _ w_1_27 rfl) (hW _ w_1_28 rfl) rfl (by rw [hml]; exact hl.1) rfl dX10_init_1 (Nat.le_of_ble_eq_true rfl) (Nat.le_of_ble_eq_true rfl) ?_
  refine W.eq (g2 := F0 m 4 ls []) rfl ?_
  exact md_endv hx hb hr hlocks hK hT hG (rfl) dX10_init_4
set_option maxRecDepth 100000 in
set_option maxHeartbeats 4000000 in
theorem c_X9_init_2 (l : Launch) (D : va_G) (cy : Nat → ClassId) (tx : (Nat → Nat) × (Nat → Nat)) (base : Nat) (K N : Nat → Nat) (M : Nat → Nat → Int32) (R : Nat → Nat → Option Nat) (J : Nat → Nat → Int64) (hF : ∀ a, 16 ≤ a → ∀ k, M a k = 0 ∧ R a k = none ∧ J a k = 0) (hK16 : K 16 = 14) (hN16 : N 16 = 120) (hK15 : K 15 = 10) (hK17 : K 17 = 20) (hN17 : N 17 = 10) (hK18 : K 18 = 14) (hN18 : N 18 = 10) (hK19 : K 19 = 14) (hN19 : N 19 = 10) (hK20 : K 20 = 14) (hN20 : N 20 = 10) (hK21 : K 21 = 21) (hN21 : N 21 = 8) (hK22 : K 22 = 14) (hN22 : N 22 = 48) : Met l yX9_init [Cond.code yX9_init cX9_init 1 none] (md_rm 1 7 216) (va_Pc [.ref (base + 15)] (md_U D cy tx base 16 K N M R J)) (mQv D cy tx base (fun u => u = (23, K, N, M, (u2 (u2 (u2 (u2 (u2 (u2 (u2 R 15 9 (some 16)) 15 10 (some 17)) 15 11 (some 18)) 15 12 (some 19)) 15 13 (some 20)) 15 14 (some 21)) 15 15 (some 22)), J))) 7 216 (fun q => base ≤ q) := by
  refine Met.ofW (cc := cX9_init) (maxL := 1) (ret := none) (by decide) rfl ?_
  intro p e s m args below meth c s₁ B hml hv
  have hW : ∀ w ∈ lw_tbl, goodWord w = true → w.before args s = true := fun w h g => hv.2.2.2.1.2.1 w h g _
  obtain ⟨rfl, hU⟩ := hv
  have hx := B.exec
  have hb := B.bytes
  have hr := B.returns
  have hlocks := B.notSynchronized
  have hown : s.vm.findClass RX9 = some m.cls := findClass_of_methodNamed B.named
  have hK := hU.2.2.1
  have hT := hU.2.2.2
  have hG := md_G.start hU
  have hin : meth.name = "<init>" := (name_of_methodNamed B.named B.method).1
  have hl := lv_entry ([.ref (base + 15)]) (n := 1) (Nat.le_of_ble_eq_true rfl)
  rw [lg_entry_eq]
  generalize (lg_sl ([.ref (base + 15)]) ++ List.replicate (1 - (lg_sl ([.ref (base + 15)])).length) Slot.unset).toArray = ls at hl ⊢
  have hl : lv_has ls 1 [(0, .ref (base + 15))] := hl
  refine lv_aload_n hx hb dX9_init_0 rfl (lv_at hl 0 rfl) ?_
  refine W.objInit hx hb hown (hW _ w_1_35 rfl) (hW _ w_1_27 rfl) (hW _ w_1_28 rfl) rfl (by rw [hml]; exact hl.1) rfl dX9_init_1 (Nat.le_of_ble_eq_true rfl) (Nat.le_of_ble_eq_true rfl) ?_
  refine W.eq (g2 := F0 m 4 ls []) rfl ?_
  refine lv_aload_n hx hb dX9_init_4 rfl (lv_at hl 0 rfl) ?_
  refine lv_bipush (v := 120) hx hb dX9_init_5 (by decide) ?_
  refine md_newa hx hb hW hK hG (t := 14) (Or.inr (Or.inl ⟨rfl, Or.inl rfl⟩)) w_1_144 (na := 120) (by decide) (by decide) (by decide) (Or.inl ⟨hK16, hN16⟩) (fun k => (hF 16 (by decide) k).1) (fun k => (hF 16 (by decide) k).2.2) (Nat.le_of_ble_eq_true rfl) (Nat.le_of_ble_eq_true rfl) dX9_init_7 (fun H hG => ?_)
  have hG : md_G D cy base 17 K N M R J s H _ := hG
  refine md_putF hx hb hW hown hK hG f_X9_9_9 hin rfl (by decide) hK15 rfl rfl dX9_init_9 (fun H locs hG => ?_)
  refine lv_aload_n hx hb dX9_init_12 rfl (lv_at hl 0 rfl) ?_
  refine lv_bipush (v := 10) hx hb dX9_init_13 (by decide) ?_
  refine md_newa hx hb hW hK hG (t := 20) (Or.inr (Or.inl ⟨rfl, Or.inr (by decide)⟩)) w_1_144 (na := 10) (by decide) (by decide) (by decide) (Or.inl ⟨hK17, hN17⟩) (fun k => (hF 17 (by decide) k).1) (fun k => (hF 17 (by decide) k).2.2) (Nat.le_of_ble_eq_true rfl) (Nat.le_of_ble_eq_true rfl) dX9_init_15 (fun H hG => ?_)
  have hG : md_G D cy base 18 K N M (u2 R 15 9 (some 16)) J s H _ := hG
  refine md_putF hx hb hW hown hK hG f_X9_15_9 hin rfl (by decide) hK15 rfl rfl dX9_init_17 (fun H locs hG => ?_)
  refine lv_aload_n hx hb dX9_init_20 rfl (lv_at hl 0 rfl) ?_
  refine lv_bipush (v := 10) hx hb dX9_init_21 (by decide) ?_
  refine md_newa hx hb hW hK hG (t := 14) (Or.inr (Or.inl ⟨rfl, Or.inl rfl⟩)) w_1_144 (na := 10) (by decide) (by decide) (by decide) (Or.inl ⟨hK18, hN18⟩) (fun k => (hF 18 (by decide) k).1) (fun k => (hF 18 (by decide) k).2.2) (Nat.le_of_ble_eq_true rfl) (Nat.le_of_ble_eq_true rfl) dX9_init_23 (fun H hG => ?_)
  have hG : md_G D cy base 19 K N M (u2 (u2 R 15 9 (some 16)) 15 10 (some 17)) J s H _ := hG
  refine md_putF hx hb hW hown hK hG f_X9_18_9 hin rfl (by decide) hK15 rfl rfl dX9_init_25 (fun H locs hG => ?_)
  refine lv_aload_n hx hb dX9_init_28 rfl (lv_at hl 0 rfl) ?_
  refine lv_bipush (v := 10) hx hb dX9_init_29 (by decide) ?_
  refine md_newa hx hb hW hK hG (t := 14) (Or.inr (Or.inl ⟨rfl, Or.inl rfl⟩)) w_1_144 (na := 10) (by decide) (by decide) (by decide) (Or.inl ⟨hK19, hN19⟩) (fun k => (hF 19 (by decide) k).1) (fun k => (hF 19 (by decide) k).2.2) (Nat.le_of_ble_eq_true rfl) (Nat.le_of_ble_eq_true rfl) dX9_init_31 (fun H hG => ?_)
  have hG : md_G D cy base 20 K N M (u2 (u2 (u2 R 15 9 (some 16)) 15 10 (some 17)) 15 11 (some 18)) J s H _ := hG
  refine md_putF hx hb hW hown hK hG f_X9_21_9 hin rfl (by decide) hK15 rfl rfl dX9_init_33 (fun H locs hG => ?_)
  refine lv_aload_n hx hb dX9_init_36 rfl (lv_at hl 0 rfl) ?_
  refine lv_bipush (v := 10) hx hb dX9_init_37 (by decide) ?_
  refine md_newa hx hb hW hK hG (t := 14) (Or.inr (Or.inl ⟨rfl, Or.inl rfl⟩)) w_1_144 (na := 10) (by decide) (by decide) (by decide) (Or.inl ⟨hK20, hN20⟩) (fun k => (hF 20 (by decide) k).1) (fun k => (hF 20 (by decide) k).2.2) (Nat.le_of_ble_eq_true rfl) (Nat.le_of_ble_eq_true rfl) dX9_init_39 (fun H hG => ?_)
  have hG : md_G D cy base 21 K N M (u2 (u2 (u2 (u2 R 15 9 (some 16)) 15 10 (some 17)) 15 11 (some 18)) 15 12 (some 19)) J s H _ := hG
  refine md_putF hx hb hW hown hK hG f_X9_24_9 hin rfl (by decide) hK15 rfl rfl dX9_init_41 (fun H locs hG => ?_)
  refine lv_aload_n hx hb dX9_init_44 rfl (lv_at hl 0 rfl) ?_
  refine lv_bipush (v := 8) hx hb dX9_init_45 (by decide) ?_
  refine md_newa hx hb hW hK hG (t := 21) (Or.inr (Or.inl ⟨rfl, Or.inr (by decide)⟩)) w_1_144 (na := 8) (by decide) (by decide) (by decide) (Or.inl ⟨hK21, hN21⟩) (fun k => (hF 21 (by decide) k).1) (fun k => (hF 21 (by decide) k).2.2) (Nat.le_of_ble_eq_true rfl) (Nat.le_of_ble_eq_true rfl) dX9_init_47 (fun H hG => ?_)
  have hG : md_G D cy base 22 K N M (u2 (u2 (u2 (u2 (u2 R 15 9 (some 16)) 15 10 (some 17)) 15 11 (some 18)) 15 12 (some 19)) 15 13 (some 20)) J s H _ := hG
  refine md_putF hx hb hW hown hK hG f_X9_27_9 hin rfl (by decide) hK15 rfl rfl dX9_init_49 (fun H locs hG => ?_)
  refine lv_aload_n hx hb dX9_init_52 rfl (lv_at hl 0 rfl) ?_
  refine lv_bipush (v := 48) hx hb dX9_init_53 (by decide) ?_
  refine md_newa hx hb hW hK hG (t := 14) (Or.inr (Or.inl ⟨rfl, Or.inl rfl⟩)) w_1_144 (na := 48) (by decide) (by decide) (by decide) (Or.inl ⟨hK22, hN22⟩) (fun k => (hF 22 (by decide) k).1) (fun k => (hF 22 (by decide) k).2.2) (Nat.le_of_ble_eq_true rfl) (Nat.le_of_ble_eq_true rfl) dX9_init_55 (fun H hG => ?_)
  have hG : md_G D cy base 23 K N M (u2 (u2 (u2 (u2 (u2 (u2 R 15 9 (some 16)) 15 10 (some 17)) 15 11 (some 18)) 15 12 (some 19)) 15 13 (some 20)) 15 14 (some 21)) J s H _ := hG
  refine md_putF hx hb hW hown hK hG f_X9_30_9 hin rfl (by decide) hK15 rfl rfl dX9_init_57 (fun H locs hG => ?_)
  exact md_endv hx hb hr hlocks hK hT hG (rfl) dX9_init_60
set_option maxRecDepth 100000 in
set_option maxHeartbeats 4000000 in
theorem c_X9_init_3 (l : Launch) (D : va_G) (cy : Nat → ClassId) (tx : (Nat → Nat) × (Nat → Nat)) (base : Nat) (K N : Nat → Nat) (M : Nat → Nat → Int32) (R : Nat → Nat → Option Nat) (J : Nat → Nat → Int64) (hF : ∀ a, 16 ≤ a → ∀ k, M a k = 0 ∧ R a k = none ∧ J a k = 0) (hK16 : K 16 = 14) (hN16 : N 16 = 120) (hK15 : K 15 = 10) (hK17 : K 17 = 20) (hN17 : N 17 = 10) (hK18 : K 18 = 14) (hN18 : N 18 = 10) (hK19 : K 19 = 14) (hN19 : N 19 = 10) (hK20 : K 20 = 14) (hN20 : N 20 = 10) (hK21 : K 21 = 21) (hN21 : N 21 = 8) (hK22 : K 22 = 14) (hN22 : N 22 = 48) : Met l yX9_init [Cond.code yX9_init cX9_init 1 none] (md_rm 1 7 216) (va_Pc [.ref (base + 15)] (md_U D cy tx base 16 K N M R J)) (mQv D cy tx base (fun u => u = (23, K, N, M, (u2 (u2 (u2 (u2 (u2 (u2 (u2 R 15 9 (some 16)) 15 10 (some 17)) 15 11 (some 18)) 15 12 (some 19)) 15 13 (some 20)) 15 14 (some 21)) 15 15 (some 22)), J))) 7 216 (fun q => base ≤ q) := by
  refine Met.ofW (cc := cX9_init) (maxL := 1) (ret := none) (by decide) rfl ?_
  intro p e s m args below meth c s₁ B hml hv
  have hW : ∀ w ∈ lw_tbl, goodWord w = true → w.before args s = true := fun w h g => hv.2.2.2.1.2.1 w h g _
  obtain ⟨rfl, hU⟩ := hv
  have hx := B.exec
  have hb := B.bytes
  have hr := B.returns
  have hlocks := B.notSynchronized
  have hown : s.vm.findClass RX9 = some m.cls := findClass_of_methodNamed B.named
  have hK := hU.2.2.1
  have hT := hU.2.2.2
  have hG := md_G.start hU
  have hin : meth.name = "<init>" := (name_of_methodNamed B.named B.method).1
  have hl := lv_entry ([.ref (base + 15)]) (n := 1) (Nat.le_of_ble_eq_true rfl)
  rw [lg_entry_eq]
  generalize (lg_sl ([.ref (base + 15)]) ++ List.replicate (1 - (lg_sl ([.ref (base + 15)])).length) Slot.unset).toArray = ls at hl ⊢
  have hl : lv_has ls 1 [(0, .ref (base + 15))] := hl
  refine lv_aload_n hx hb dX9_init_0 rfl (lv_at hl 0 rfl) ?_
  refine W.objInit hx hb hown (hW _ w_1_35 rfl) (hW _ w_1_27 rfl) (hW _ w_1_28 rfl) rfl (by rw [hml]; exact hl.1) rfl dX9_init_1 (Nat.le_of_ble_eq_true rfl) (Nat.le_of_ble_eq_true rfl) ?_
  refine W.eq (g2 := F0 m 4 ls []) rfl ?_
  refine lv_aload_n hx hb dX9_init_4 rfl (lv_at hl 0 rfl) ?_
  refine lv_bipush (v := 120) hx hb dX9_init_5 (by decide) ?_
  refine md_newa hx hb hW hK hG (t := 14) (Or.inr (Or.inl ⟨rfl, Or.inl rfl⟩)) w_1_144 (na := 120) (by decide) (by decide) (by decide) (Or.inl ⟨hK16, hN16⟩) (fun k => (hF 16 (by decide) k).1) (fun k => (hF 16 (by decide) k).2.2) (Nat.le_of_ble_eq_true rfl) (Nat.le_of_ble_eq_true rfl) dX9_init_7 (fun H hG => ?_)
  have hG : md_G D cy base 17 K N M R J s H _ := hG
  refine md_putF hx hb hW hown hK hG f_X9_9_9 hin rfl (by decide) hK15 rfl rfl dX9_init_9 (fun H locs hG => ?_)
  refine lv_aload_n hx hb dX9_init_12 rfl (lv_at hl 0 rfl) ?_
  refine lv_bipush (v := 10) hx hb dX9_init_13 (by decide) ?_
  refine md_newa hx hb hW hK hG (t := 20) (Or.inr (Or.inl ⟨rfl, Or.inr (by decide)⟩)) w_1_144 (na := 10) (by decide) (by decide) (by decide) (Or.inl ⟨hK17, hN17⟩) (fun k => (hF 17 (by decide) k).1) (fun k => (hF 17 (by decide) k).2.2) (Nat.le_of_ble_eq_true rfl) (Nat.le_of_ble_eq_true rfl) dX9_init_15 (fun H hG => ?_)
  have hG : md_G D cy base 18 K N M (u2 R 15 9 (some 16)) J s H _ := hG
  refine md_putF hx hb hW hown hK hG f_X9_15_9 hin rfl (by decide) hK15 rfl rfl dX9_init_17 (fun H locs hG => ?_)
  refine lv_aload_n hx hb dX9_init_20 rfl (lv_at hl 0 rfl) ?_
  refine lv_bipush (v := 10) hx hb dX9_init_21 (by decide) ?_
  refine md_newa hx hb hW hK hG (t := 14) (Or.inr (Or.inl ⟨rfl, Or.inl rfl⟩)) w_1_144 (na := 10) (by decide) (by decide) (by decide) (Or.inl ⟨hK18, hN18⟩) (fun k => (hF 18 (by decide) k).1) (fun k => (hF 18 (by decide) k).2.2) (Nat.le_of_ble_eq_true rfl) (Nat.le_of_ble_eq_true rfl) dX9_init_23 (fun H hG => ?_)
  have hG : md_G D cy base 19 K N M (u2 (u2 R 15 9 (some 16)) 15 10 (some 17)) J s H _ := hG
  refine md_putF hx hb hW hown hK hG f_X9_18_9 hin rfl (by decide) hK15 rfl rfl dX9_init_25 (fun H locs hG => ?_)
  refine lv_aload_n hx hb dX9_init_28 rfl (lv_at hl 0 rfl) ?_
  refine lv_bipush (v := 10) hx hb dX9_init_29 (by decide) ?_
  refine md_newa hx hb hW hK hG (t := 14) (Or.inr (Or.inl ⟨rfl, Or.inl rfl⟩)) w_1_144 (na := 10) (by decide) (by decide) (by decide) (Or.inl ⟨hK19, hN19⟩) (fun k => (hF 19 (by decide) k).1) (fun k => (hF 19 (by decide) k).2.2) (Nat.le_of_ble_eq_true rfl) (Nat.le_of_ble_eq_true rfl) dX9_init_31 (fun H hG => ?_)
  have hG : md_G D cy base 20 K N M (u2 (u2 (u2 R 15 9 (some 16)) 15 10 (some 17)) 15 11 (some 18)) J s H _ := hG
  refine md_putF hx hb hW hown hK hG f_X9_21_9 hin rfl (by decide) hK15 rfl rfl dX9_init_33 (fun H locs hG => ?_)
  refine lv_aload_n hx hb dX9_init_36 rfl (lv_at hl 0 rfl) ?_
  refine lv_bipush (v := 10) hx hb dX9_init_37 (by decide) ?_
  refine md_newa hx hb hW hK hG (t := 14) (Or.inr (Or.inl ⟨rfl, Or.inl rfl⟩)) w_1_144 (na := 10) (by decide) (by decide) (by decide) (Or.inl ⟨hK20, hN20⟩) (fun k => (hF 20 (by decide) k).1) (fun k => (hF 20 (by decide) k).2.2) (Nat.le_of_ble_eq_true rfl) (Nat.le_of_ble_eq_true rfl) dX9_init_39 (fun H hG => ?_)
  have hG : md_G D cy base 21 K N M (u2 (u2 (u2 (u2 R 15 9 (some 16)) 15 10 (some 17)) 15 11 (some 18)) 15 12 (some 19)) J s H _ := hG
  refine md_putF hx hb hW hown hK hG f_X9_24_9 hin rfl (by decide) hK15 rfl rfl dX9_init_41 (fun H locs hG => ?_)
  refine lv_aload_n hx hb dX9_init_44 rfl (lv_at hl 0 rfl) ?_
  refine lv_bipush (v := 8) hx hb dX9_init_45 (by decide) ?_
  refine md_newa hx hb hW hK hG (t := 21) (Or.inr (Or.inl ⟨rfl, Or.inr (by decide)⟩)) w_1_144 (na := 8) (by decide) (by decide) (by decide) (Or.inl ⟨hK21, hN21⟩) (fun k => (hF 21 (by decide) k).1) (fun k => (hF 21 (by decide) k).2.2) (Nat.le_of_ble_eq_true rfl) (Nat.le_of_ble_eq_true rfl) dX9_init_47 (fun H hG => ?_)
  have hG : md_G D cy base 22 K N M (u2 (u2 (u2 (u2 (u2 R 15 9 (some 16)) 15 10 (some 17)) 15 11 (some 18)) 15 12 (some 19)) 15 13 (some 20)) J s H _ := hG
  refine md_putF hx hb hW hown hK hG f_X9_27_9 hin rfl (by decide) hK15 rfl rfl dX9_init_49 (fun H locs hG => ?_)
  refine lv_aload_n hx hb dX9_init_52 rfl (lv_at hl 0 rfl) ?_
  refine lv_bipush (v := 48) hx hb dX9_init_53 (by decide) ?_
  refine md_newa hx hb hW hK hG (t := 14) (Or.inr (Or.inl ⟨rfl, Or.inl rfl⟩)) w_1_144 (na := 48) (by decide) (by decide) (by decide) (Or.inl ⟨hK22, hN22⟩) (fun k => (hF 22 (by decide) k).1) (fun k => (hF 22 (by decide) k).2.2) (Nat.le_of_ble_eq_true rfl) (Nat.le_of_ble_eq_true rfl) dX9_init_55 (fun H hG => ?_)
  have hG : md_G D cy base 23 K N M (u2 (u2 (u2 (u2 (u2 (u2 R 15 9 (some 16)) 15 10 (some 17)) 15 11 (some 18)) 15 12 (some 19)) 15 13 (some 20)) 15 14 (some 21)) J s H _ := hG
  refine md_putF hx hb hW hown hK hG f_X9_30_9 hin rfl (by decide) hK15 rfl rfl dX9_init_57 (fun H locs hG => ?_)
  exact md_endv hx hb hr hlocks hK hT hG (rfl) dX9_init_60
set_option maxRecDepth 100000 in
set_option maxHeartbeats 4000000 in
theorem c_X2_init (l : Launch) (D : va_G) (cy : Nat → ClassId) (tx : (Nat → Nat) × (Nat → Nat)) (base : Nat) (K N : Nat → Nat) (M : Nat → Nat → Int32) (R : Nat → Nat → Option Nat) (J : Nat → Nat → Int64) (hF : ∀ a, 15 ≤ a → ∀ k, M a k = 0 ∧ R a k = none ∧ J a k = 0) (hK15 : K 15 = 10) (hK16 : K 16 = 14) (hN16 : N 16 = 120) (hK17 : K 17 = 20) (hN17 : N 17 = 10) (hK18 : K 18 = 14) (hN18 : N 18 = 10) (hK19 : K 19 = 14) (hN19 : N 19 = 10) (hK20 : K 20 = 14) (hN20 : N 20 = 10) (hK21 : K 21 = 21) (hN21 : N 21 = 8) (hK22 : K 22 = 14) (hN22 : N 22 = 48) (hK14 : K 14 = 3) : Met l yX2_init [Cond.code yX2_init cX2_init 1 none] (md_rm 2 8 232) (va_Pc [.ref (base + 14)] (md_U D cy tx base 15 K N M R J)) (mQv D cy tx base (fun u => u = (23, K, N, M, (u2 (u2 (u2 (u2 (u2 (u2 (u2 (u2 R 15 9 (some 16)) 15 10 (some 17)) 15 11 (some 18)) 15 12 (some 19)) 15 13 (some 20)) 15 14 (some 21)) 15 15 (some 22)) 14 5 (some 15)), J))) 8 232 (fun q => base ≤ q) := by
  refine Met.ofW (cc := cX2_init) (maxL := 1) (ret := none) (by decide) rfl ?_
  intro p e s m args below meth c s₁ B hml hv
  have hW : ∀ w ∈ lw_tbl, goodWord w = true → w.before args s = true := fun w h g => hv.2.2.2.1.2.1 w h g _
  obtain ⟨rfl, hU⟩ := hv
  have hx := B.exec
  have hb := B.bytes
  have hr := B.returns
  have hlocks := B.notSynchronized
  have hown : s.vm.findClass RX2 = some m.cls := findClass_of_methodNamed B.named
  have hK := hU.2.2.1
  have hT := hU.2.2.2
  have hG := md_G.start hU
  have hin : meth.name = "<init>" := (name_of_methodNamed B.named B.method).1
  have hl := lv_entry ([.ref (base + 14)]) (n := 1) (Nat.le_of_ble_eq_true rfl)
  rw [lg_entry_eq]
  generalize (lg_sl ([.ref (base + 14)]) ++ List.replicate (1 - (lg_sl ([.ref (base + 14)])).length) Slot.unset).toArray = ls at hl ⊢
  have hl : lv_has ls 1 [(0, .ref (base + 14))] := hl
  refine lv_aload_n hx hb dX2_init_0 rfl (lv_at hl 0 rfl) ?_
  refine md_gov hG (md_runN (As := []) (rest := []) hx hb hml hown hW hK hT hG (c_X10_init l D cy tx base  15  K N M R J (by decide)  ) s_X2_3 hK.2.2.1.2.2.2.2.1 ⟨rfl, rfl, ⟨Nat.le_of_ble_eq_true rfl, Nat.le_of_ble_eq_true rfl⟩, ⟨Nat.le_of_ble_eq_true rfl, Nat.le_of_ble_eq_true rfl⟩⟩ rfl hl.1 rfl (Nat.le_of_ble_eq_true rfl) dX2_init_1) (fun u H locs hp hG => ?_)
  subst hp
  have hG : md_G D cy base 15 K N M R J s H locs := hG
  refine lv_aload_n hx hb dX2_init_4 rfl (lv_at hl 0 rfl) ?_
  refine md_new hx hb hW hown hK hG k_X2_9 (Or.inl hK15) (fun k => (hF 15 (by decide) k).1) (fun k => (hF 15 (by decide) k).2.1) (Nat.le_of_ble_eq_true rfl) (Nat.le_of_ble_eq_true rfl) dX2_init_5 (fun H hG => ?_)
  have hG : md_G D cy base 16 K N M R J s H _ := hG
  refine lv_dup hx hb dX2_init_8 rfl ?_
  refine md_gov hG (md_runN (As := []) (rest := [.ref (base + 15), .ref (base + 14)]) hx hb hml hown hW hK hT hG (c_X9_init_3 l D cy tx base  K N M R J (md_fr3 (n := 16) (fun a h k => (hF a (Nat.le_trans (by decide) h) k).1) (fun a h k => (hF a (Nat.le_trans (by decide) h) k).2.1) (fun a h k => (hF a (Nat.le_trans (by decide) h) k).2.2)) hK16 hN16 hK15 hK17 hN17 hK18 hN18 hK19 hN19 hK20 hN20 hK21 hN21 hK22 hN22 ) s_X2_11 hK.2.2.1.2.2.2.1 ⟨rfl, rfl, ⟨Nat.le_of_ble_eq_true rfl, Nat.le_of_ble_eq_true rfl⟩, ⟨Nat.le_of_ble_eq_true rfl, Nat.le_of_ble_eq_true rfl⟩⟩ rfl hl.1 rfl (Nat.le_of_ble_eq_true rfl) dX2_init_9) (fun u H locs hp hG => ?_)
  subst hp
  have hG : md_G D cy base 23 K N M (u2 (u2 (u2 (u2 (u2 (u2 (u2 R 15 9 (some 16)) 15 10 (some 17)) 15 11 (some 18)) 15 12 (some 19)) 15 13 (some 20)) 15 14 (some 21)) 15 15 (some 22)) J s H locs := hG
  refine md_putF hx hb hW hown hK hG f_X2_12_2 hin rfl (by decide) hK14 rfl rfl dX2_init_12 (fun H locs hG => ?_)
  exact md_endv hx hb hr hlocks hK hT hG (rfl) dX2_init_15
set_option maxRecDepth 100000 in
set_option maxHeartbeats 4000000 in
theorem c_X10_init_2 (l : Launch) (D : va_G) (cy : Nat → ClassId) (tx : (Nat → Nat) × (Nat → Nat)) (base Z : Nat) (K N : Nat → Nat) (M : Nat → Nat → Int32) (R : Nat → Nat → Option Nat) (J : Nat → Nat → Int64) (hZ : 24 ≤ Z) : Met l yX10_init [Cond.code yX10_init cX10_init 1 none] (md_rm 1 0 0) (va_Pc [.ref (base + 23)] (md_U D cy tx base Z K N M R J)) (mQv D cy tx base (fun u => u = (Z, K, N, M, R, J))) 0 0 (fun q => base ≤ q) := by
  refine Met.ofW (cc := cX10_init) (maxL := 1) (ret := none) (by decide) rfl ?_
  intro p e s m args below meth c s₁ B hml hv
  have hW : ∀ w ∈ lw_tbl, goodWord w = true → w.before args s = true := fun w h g => hv.2.2.2.1.2.1 w h g _
  obtain ⟨rfl, hU⟩ := hv
  have hx := B.exec
  have hb := B.bytes
  have hr := B.returns
  have hlocks := B.notSynchronized
  have hown : s.vm.findClass RX10 = some m.cls := findClass_of_methodNamed B.named
  have hK := hU.2.2.1
  have hT := hU.2.2.2
  have hG := md_G.start hU
  have hin : meth.name = "<init>" := (name_of_methodNamed B.named B.method).1
  have hl := lv_entry ([.ref (base + 23)]) (n := 1) (Nat.le_of_ble_eq_true rfl)
  rw [lg_entry_eq]
  generalize (lg_sl ([.ref (base + 23)]) ++ List.replicate (1 - (lg_sl ([.ref (base + 23)])).length) Slot.unset).toArray = ls at hl ⊢
  have hl : lv_has ls 1 [(0, .ref (base + 23))] := hl
  refine lv_aload_n hx hb dX10_init_0 rfl (lv_at hl 0 rfl) ?_
  refine W.objInit hx hb hown (hW _ w_1_218 rfl) (hW _ w_1_27 rfl) (hW _ w_1_28 rfl) rfl (by rw [hml]; exact hl.1) rfl dX10_init_1 (Nat.le_of_ble_eq_true rfl) (Nat.le_of_ble_eq_true rfl) ?_
  refine W.eq (g2 := F0 m 4 ls []) rfl ?_
  exact md_endv hx hb hr hlocks hK hT hG (rfl) dX10_init_4
set_option maxRecDepth 100000 in
set_option maxHeartbeats 4000000 in
theorem c_X8_init (l : Launch) (D : va_G) (cy : Nat → ClassId) (tx : (Nat → Nat) × (Nat → Nat)) (base : Nat) (K N : Nat → Nat) (M : Nat → Nat → Int32) (R : Nat → Nat → Option Nat) (J : Nat → Nat → Int64) (hF : ∀ a, 24 ≤ a → ∀ k, M a k = 0 ∧ R a k = none ∧ J a k = 0) (hK24 : K 24 = 14) (hN24 : N 24 = 400) (hK23 : K 23 = 9) : Met l yX8_init [Cond.code yX8_init cX8_init 1 none] (md_rm 2 1 400) (va_Pc [.ref (base + 23)] (md_U D cy tx base 24 K N M R J)) (mQv D cy tx base (fun u => u = (25, K, N, M, (u2 R 23 5 (some 24)), J))) 1 400 (fun q => base ≤ q) := by
  refine Met.ofW (cc := cX8_init) (maxL := 1) (ret := none) (by decide) rfl ?_
  intro p e s m args below meth c s₁ B hml hv
  have hW : ∀ w ∈ lw_tbl, goodWord w = true → w.before args s = true := fun w h g => hv.2.2.2.1.2.1 w h g _
  obtain ⟨rfl, hU⟩ := hv
  have hx := B.exec
  have hb := B.bytes
  have hr := B.returns
  have hlocks := B.notSynchronized
  have hown : s.vm.findClass RX8 = some m.cls := findClass_of_methodNamed B.named
  have hK := hU.2.2.1
  have hT := hU.2.2.2
  have hG := md_G.start hU
  have hin : meth.name = "<init>" := (name_of_methodNamed B.named B.method).1
  have hl := lv_entry ([.ref (base + 23)]) (n := 1) (Nat.le_of_ble_eq_true rfl)
  rw [lg_entry_eq]
  generalize (lg_sl ([.ref (base + 23)]) ++ List.replicate (1 - (lg_sl ([.ref (base + 23)])).length) Slot.unset).toArray = ls at hl ⊢
  have hl : lv_has ls 1 [(0, .ref (base + 23))] := hl
  refine lv_aload_n hx hb dX8_init_0 rfl (lv_at hl 0 rfl) ?_
  refine md_gov hG (md_runN (As := []) (rest := []) hx hb hml hown hW hK hT hG (c_X10_init_2 l D cy tx base  24  K N M R J (by decide)  ) s_X8_3 hK.2.2.1.2.2.2.2.2.1 ⟨rfl, rfl, ⟨Nat.le_of_ble_eq_true rfl, Nat.le_of_ble_eq_true rfl⟩, ⟨Nat.le_of_ble_eq_true rfl, Nat.le_of_ble_eq_true rfl⟩⟩ rfl hl.1 rfl (Nat.le_of_ble_eq_true rfl) dX8_init_1) (fun u H locs hp hG => ?_)
  subst hp
  have hG : md_G D cy base 24 K N M R J s H locs := hG
  refine lv_aload_n hx hb dX8_init_4 rfl (lv_at hl 0 rfl) ?_
  refine lv_sipush (v := 400) hx hb dX8_init_5 (by decide) ?_
  refine md_newa hx hb hW hK hG (t := 14) (Or.inr (Or.inl ⟨rfl, Or.inl rfl⟩)) w_1_144 (na := 400) (by decide) (by decide) (by decide) (Or.inl ⟨hK24, hN24⟩) (fun k => (hF 24 (by decide) k).1) (fun k => (hF 24 (by decide) k).2.2) (Nat.le_of_ble_eq_true rfl) (Nat.le_of_ble_eq_true rfl) dX8_init_8 (fun H hG => ?_)
  have hG : md_G D cy base 25 K N M R J s H _ := hG
  refine md_putF hx hb hW hown hK hG f_X8_9_8 hin rfl (by decide) hK23 rfl rfl dX8_init_10 (fun H locs hG => ?_)
  exact md_endv hx hb hr hlocks hK hT hG (rfl) dX8_init_13
set_option maxRecDepth 100000 in
set_option maxHeartbeats 4000000 in
theorem c_X3_init (l : Launch) (D : va_G) (cy : Nat → ClassId) (tx : (Nat → Nat) × (Nat → Nat)) (base : Nat) (K N : Nat → Nat) (M : Nat → Nat → Int32) (R : Nat → Nat → Option Nat) (J : Nat → Nat → Int64) (hF : ∀ a, 26 ≤ a → ∀ k, M a k = 0 ∧ R a k = none ∧ J a k = 0) (hK26 : K 26 = 20) (hN26 : N 26 = 10) (hK25 : K 25 = 4) (hK27 : K 27 = 14) (hN27 : N 27 = 3010) (hK28 : K 28 = 14) (hN28 : N 28 = 10) : Met l yX3_init [Cond.code yX3_init cX3_init 3 none] (md_rm 1 3 3030) (va_Pc [.ref (base + 25), .ref (base + 4), .ref (base + 13)] (md_U D cy tx base 26 K N M R J)) (mQv D cy tx base (fun u => u = (29, K, N, M, (u2 (u2 (u2 (u2 (u2 R 25 2 (some 26)) 25 3 (some 27)) 25 4 (some 28)) 25 0 (some 4)) 25 1 (some 13)), J))) 3 3030 (fun q => base ≤ q) := by
  refine Met.ofW (cc := cX3_init) (maxL := 3) (ret := none) (by decide) rfl ?_
  intro p e s m args below meth c s₁ B hml hv
  have hW : ∀ w ∈ lw_tbl, goodWord w = true → w.before args s = true := fun w h g => hv.2.2.2.1.2.1 w h g _
  obtain ⟨rfl, hU⟩ := hv
  have hx := B.exec
  have hb := B.bytes
  have hr := B.returns
  have hlocks := B.notSynchronized
  have hown : s.vm.findClass RX3 = some m.cls := findClass_of_methodNamed B.named
  have hK := hU.2.2.1
  have hT := hU.2.2.2
  have hG := md_G.start hU
  have hin : meth.name = "<init>" := (name_of_methodNamed B.named B.method).1
  have hl := lv_entry ([.ref (base + 25), .ref (base + 4), .ref (base + 13)]) (n := 3) (Nat.le_of_ble_eq_true rfl)
  rw [lg_entry_eq]
  generalize (lg_sl ([.ref (base + 25), .ref (base + 4), .ref (base + 13)]) ++ List.replicate (3 - (lg_sl ([.ref (base + 25), .ref (base + 4), .ref (base + 13)])).length) Slot.unset).toArray = ls at hl ⊢
  have hl : lv_has ls 3 [(0, .ref (base + 25)), (1, .ref (base + 4)), (2, .ref (base + 13))] := hl
  refine lv_aload_n hx hb dX3_init_0 rfl (lv_at hl 0 rfl) ?_
  refine W.objInit hx hb hown (hW _ w_2_40 rfl) (hW _ w_1_27 rfl) (hW _ w_1_28 rfl) rfl (by rw [hml]; exact hl.1) rfl dX3_init_1 (Nat.le_of_ble_eq_true rfl) (Nat.le_of_ble_eq_true rfl) ?_
  refine W.eq (g2 := F0 m 4 ls []) rfl ?_
  refine lv_aload_n hx hb dX3_init_4 rfl (lv_at hl 0 rfl) ?_
  refine lv_bipush (v := 10) hx hb dX3_init_5 (by decide) ?_
  refine md_newa hx hb hW hK hG (t := 20) (Or.inr (Or.inl ⟨rfl, Or.inr (by decide)⟩)) w_1_144 (na := 10) (by decide) (by decide) (by decide) (Or.inl ⟨hK26, hN26⟩) (fun k => (hF 26 (by decide) k).1) (fun k => (hF 26 (by decide) k).2.2) (Nat.le_of_ble_eq_true rfl) (Nat.le_of_ble_eq_true rfl) dX3_init_7 (fun H hG => ?_)
  have hG : md_G D cy base 27 K N M R J s H _ := hG
  refine md_putF hx hb hW hown hK hG f_X3_9_3 hin rfl (by decide) hK25 rfl rfl dX3_init_9 (fun H locs hG => ?_)
  refine lv_aload_n hx hb dX3_init_12 rfl (lv_at hl 0 rfl) ?_
  refine lv_sipush (v := 3010) hx hb dX3_init_13 (by decide) ?_
  refine md_newa hx hb hW hK hG (t := 14) (Or.inr (Or.inl ⟨rfl, Or.inl rfl⟩)) w_1_144 (na := 3010) (by decide) (by decide) (by decide) (Or.inl ⟨hK27, hN27⟩) (fun k => (hF 27 (by decide) k).1) (fun k => (hF 27 (by decide) k).2.2) (Nat.le_of_ble_eq_true rfl) (Nat.le_of_ble_eq_true rfl) dX3_init_16 (fun H hG => ?_)
  have hG : md_G D cy base 28 K N M (u2 R 25 2 (some 26)) J s H _ := hG
  refine md_putF hx hb hW hown hK hG f_X3_15_3 hin rfl (by decide) hK25 rfl rfl dX3_init_18 (fun H locs hG => ?_)
  refine lv_aload_n hx hb dX3_init_21 rfl (lv_at hl 0 rfl) ?_
  refine lv_bipush (v := 10) hx hb dX3_init_22 (by decide) ?_
  refine md_newa hx hb hW hK hG (t := 14) (Or.inr (Or.inl ⟨rfl, Or.inl rfl⟩)) w_1_144 (na := 10) (by decide) (by decide) (by decide) (Or.inl ⟨hK28, hN28⟩) (fun k => (hF 28 (by decide) k).1) (fun k => (hF 28 (by decide) k).2.2) (Nat.le_of_ble_eq_true rfl) (Nat.le_of_ble_eq_true rfl) dX3_init_24 (fun H hG => ?_)
  have hG : md_G D cy base 29 K N M (u2 (u2 R 25 2 (some 26)) 25 3 (some 27)) J s H _ := hG
  refine md_putF hx hb hW hown hK hG f_X3_18_3 hin rfl (by decide) hK25 rfl rfl dX3_init_26 (fun H locs hG => ?_)
  refine lv_aload_n hx hb dX3_init_29 rfl (lv_at hl 0 rfl) ?_
  refine lv_aload_n hx hb dX3_init_30 rfl (lv_at hl 1 rfl) ?_
  refine md_putF hx hb hW hown hK hG f_X3_21_3 hin rfl (by decide) hK25 rfl rfl dX3_init_31 (fun H locs hG => ?_)
  refine lv_aload_n hx hb dX3_init_34 rfl (lv_at hl 0 rfl) ?_
  refine lv_aload_n hx hb dX3_init_35 rfl (lv_at hl 2 rfl) ?_
  refine md_putF hx hb hW hown hK hG f_X3_25_3 hin rfl (by decide) hK25 rfl rfl dX3_init_36 (fun H locs hG => ?_)
  exact md_endv hx hb hr hlocks hK hT hG (rfl) dX3_init_39
set_option maxRecDepth 100000 in
set_option maxHeartbeats 4000000 in
theorem c_X6_init (l : Launch) (D : va_G) (cy : Nat → ClassId) (tx : (Nat → Nat) × (Nat → Nat)) (base : Nat) (K N : Nat → Nat) (M : Nat → Nat → Int32) (R : Nat → Nat → Option Nat) (J : Nat → Nat → Int64) (hF : ∀ a, 30 ≤ a → ∀ k, M a k = 0 ∧ R a k = none ∧ J a k = 0) (hK30 : K 30 = 19) (hN30 : N 30 = 4) (hK31 : K 31 = 20) (hN31 : N 31 = 10) (hK32 : K 32 = 20) (hN32 : N 32 = 10) (hK33 : K 33 = 20) (hN33 : N 33 = 10) (hK34 : K 34 = 20) (hN34 : N 34 = 10) (hK29 : K 29 = 7) (hK35 : K 35 = 14) (hN35 : N 35 = 27) (hK36 : K 36 = 14) (hN36 : N 36 = 27) (hK37 : K 37 = 14) (hN37 : N 37 = 108) (hK38 : K 38 = 22) (hN38 : N 38 = 4) (hK39 : K 39 = 22) (hN39 : N 39 = 4) (hK40 : K 40 = 15) (hN40 : N 40 = 6144) (hK41 : K 41 = 14) (hN41 : N 41 = 2048) : Met l yX6_init [Cond.code yX6_init cX6_init 3 none] (md_rm 1 12 8406) (va_Pc [.ref (base + 29), .ref (base + 4), .ref (base + 13)] (md_U D cy tx base 30 K N M R J)) (mQv D cy tx base (fun u => u = (42, K, N, M, (u2 (u2 (u2 (u2 (u2 (u2 (u2 (u2 (u2 (u2 (ur R 30 (fun j => if j < 4 then some (30 + 1 + j) else none)) 29 2 (some 30)) 29 3 (some 35)) 29 4 (some 36)) 29 5 (some 37)) 29 6 (some 38)) 29 7 (some 39)) 29 8 (some 40)) 29 9 (some 41)) 29 0 (some 4)) 29 1 (some 13)), J))) 12 8406 (fun q => base ≤ q) := by
  refine Met.ofW (cc := cX6_init) (maxL := 3) (ret := none) (by decide) rfl ?_
  intro p e s m args below meth c s₁ B hml hv
  have hW : ∀ w ∈ lw_tbl, goodWord w = true → w.before args s = true := fun w h g => hv.2.2.2.1.2.1 w h g _
  obtain ⟨rfl, hU⟩ := hv
  have hx := B.exec
  have hb := B.bytes
  have hr := B.returns
  have hlocks := B.notSynchronized
  have hown : s.vm.findClass RX6 = some m.cls := findClass_of_methodNamed B.named
  have hK := hU.2.2.1
  have hT := hU.2.2.2
  have hG := md_G.start hU
  have hin : meth.name = "<init>" := (name_of_methodNamed B.named B.method).1
  have hl := lv_entry ([.ref (base + 29), .ref (base + 4), .ref (base + 13)]) (n := 3) (Nat.le_of_ble_eq_true rfl)
  rw [lg_entry_eq]
  generalize (lg_sl ([.ref (base + 29), .ref (base + 4), .ref (base + 13)]) ++ List.replicate (3 - (lg_sl ([.ref (base + 29), .ref (base + 4), .ref (base + 13)])).length) Slot.unset).toArray = ls at hl ⊢
  have hl : lv_has ls 3 [(0, .ref (base + 29)), (1, .ref (base + 4)), (2, .ref (base + 13))] := hl
  refine lv_aload_n hx hb dX6_init_0 rfl (lv_at hl 0 rfl) ?_
  refine W.objInit hx hb hown (hW _ w_2_83 rfl) (hW _ w_1_27 rfl) (hW _ w_1_28 rfl) rfl (by rw [hml]; exact hl.1) rfl dX6_init_1 (Nat.le_of_ble_eq_true rfl) (Nat.le_of_ble_eq_true rfl) ?_
  refine W.eq (g2 := F0 m 4 ls []) rfl ?_
  refine lv_aload_n hx hb dX6_init_4 rfl (lv_at hl 0 rfl) ?_
  refine lv_iconst (v := 4) hx hb dX6_init_5 (by decide) ?_
  refine lv_bipush (v := 10) hx hb dX6_init_6 (by decide) ?_
  refine md_mna hx hb hW hown hK hG (t := 20) (Or.inr (by decide)) w_2_84 w_1_144 (n' := 4) (k' := 10) (by decide) (by decide) (by decide) (by decide) (by decide) (by decide) ⟨hK30, hN30⟩ (fun i hi => match i, hi with | 0, _ => ⟨hK31, hN31⟩ | 1, _ => ⟨hK32, hN32⟩ | 2, _ => ⟨hK33, hN33⟩ | 3, _ => ⟨hK34, hN34⟩ | i + 4, h => absurd h (by omega)) (fun a h j => (hF a (Nat.le_trans (by decide) h) j).1) (Nat.le_of_ble_eq_true rfl) (Nat.le_of_ble_eq_true rfl) dX6_init_8 (fun H hG => ?_) (by rw [hU.2.1]; exact Nat.le_add_right _ _) (by rw [hU.2.1]; omega)
  have hG : md_G D cy base 35 K N M (ur R 30 (fun j => if j < 4 then some (30 + 1 + j) else none)) J s H _ := hG
  refine md_putF hx hb hW hown hK hG f_X6_13_6 hin rfl (by decide) hK29 rfl rfl dX6_init_12 (fun H locs hG => ?_)
  refine lv_aload_n hx hb dX6_init_15 rfl (lv_at hl 0 rfl) ?_
  refine lv_bipush (v := 27) hx hb dX6_init_16 (by decide) ?_
  refine md_newa hx hb hW hK hG (t := 14) (Or.inr (Or.inl ⟨rfl, Or.inl rfl⟩)) w_1_144 (na := 27) (by decide) (by decide) (by decide) (Or.inl ⟨hK35, hN35⟩) (fun k => (hF 35 (by decide) k).1) (fun k => (hF 35 (by decide) k).2.2) (Nat.le_of_ble_eq_true rfl) (Nat.le_of_ble_eq_true rfl) dX6_init_18 (fun H hG => ?_)
  have hG : md_G D cy base 36 K N M (u2 (ur R 30 (fun j => if j < 4 then some (30 + 1 + j) else none)) 29 2 (some 30)) J s H _ := hG
  refine md_putF hx hb hW hown hK hG f_X6_16_6 hin rfl (by decide) hK29 rfl rfl dX6_init_20 (fun H locs hG => ?_)
  refine lv_aload_n hx hb dX6_init_23 rfl (lv_at hl 0 rfl) ?_
  refine lv_bipush (v := 27) hx hb dX6_init_24 (by decide) ?_
  refine md_newa hx hb hW hK hG (t := 14) (Or.inr (Or.inl ⟨rfl, Or.inl rfl⟩)) w_1_144 (na := 27) (by decide) (by decide) (by decide) (Or.inl ⟨hK36, hN36⟩) (fun k => (hF 36 (by decide) k).1) (fun k => (hF 36 (by decide) k).2.2) (Nat.le_of_ble_eq_true rfl) (Nat.le_of_ble_eq_true rfl) dX6_init_26 (fun H hG => ?_)
  have hG : md_G D cy base 37 K N M (u2 (u2 (ur R 30 (fun j => if j < 4 then some (30 + 1 + j) else none)) 29 2 (some 30)) 29 3 (some 35)) J s H _ := hG
  refine md_putF hx hb hW hown hK hG f_X6_20_6 hin rfl (by decide) hK29 rfl rfl dX6_init_28 (fun H locs hG => ?_)
  refine lv_aload_n hx hb dX6_init_31 rfl (lv_at hl 0 rfl) ?_
  refine lv_bipush (v := 108) hx hb dX6_init_32 (by decide) ?_
  refine md_newa hx hb hW hK hG (t := 14) (Or.inr (Or.inl ⟨rfl, Or.inl rfl⟩)) w_1_144 (na := 108) (by decide) (by decide) (by decide) (Or.inl ⟨hK37, hN37⟩) (fun k => (hF 37 (by decide) k).1) (fun k => (hF 37 (by decide) k).2.2) (Nat.le_of_ble_eq_true rfl) (Nat.le_of_ble_eq_true rfl) dX6_init_34 (fun H hG => ?_)
  have hG : md_G D cy base 38 K N M (u2 (u2 (u2 (ur R 30 (fun j => if j < 4 then some (30 + 1 + j) else none)) 29 2 (some 30)) 29 3 (some 35)) 29 4 (some 36)) J s H _ := hG
  refine md_putF hx hb hW hown hK hG f_X6_23_6 hin rfl (by decide) hK29 rfl rfl dX6_init_36 (fun H locs hG => ?_)
  refine lv_aload_n hx hb dX6_init_39 rfl (lv_at hl 0 rfl) ?_
  refine lv_iconst (v := 4) hx hb dX6_init_40 (by decide) ?_
  refine md_newa hx hb hW hK hG (t := 22) (Or.inr (Or.inl ⟨rfl, Or.inr (by decide)⟩)) w_1_144 (na := 4) (by decide) (by decide) (by decide) (Or.inl ⟨hK38, hN38⟩) (fun k => (hF 38 (by decide) k).1) (fun k => (hF 38 (by decide) k).2.2) (Nat.le_of_ble_eq_true rfl) (Nat.le_of_ble_eq_true rfl) dX6_init_41 (fun H hG => ?_)
  have hG : md_G D cy base 39 K N M (u2 (u2 (u2 (u2 (ur R 30 (fun j => if j < 4 then some (30 + 1 + j) else none)) 29 2 (some 30)) 29 3 (some 35)) 29 4 (some 36)) 29 5 (some 37)) J s H _ := hG
  refine md_putF hx hb hW hown hK hG f_X6_26_6 hin rfl (by decide) hK29 rfl rfl dX6_init_43 (fun H locs hG => ?_)
  refine lv_aload_n hx hb dX6_init_46 rfl (lv_at hl 0 rfl) ?_
  refine lv_iconst (v := 4) hx hb dX6_init_47 (by decide) ?_
  refine md_newa hx hb hW hK hG (t := 22) (Or.inr (Or.inl ⟨rfl, Or.inr (by decide)⟩)) w_1_144 (na := 4) (by decide) (by decide) (by decide) (Or.inl ⟨hK39, hN39⟩) (fun k => (hF 39 (by decide) k).1) (fun k => (hF 39 (by decide) k).2.2) (Nat.le_of_ble_eq_true rfl) (Nat.le_of_ble_eq_true rfl) dX6_init_48 (fun H hG => ?_)
  have hG : md_G D cy base 40 K N M (u2 (u2 (u2 (u2 (u2 (ur R 30 (fun j => if j < 4 then some (30 + 1 + j) else none)) 29 2 (some 30)) 29 3 (some 35)) 29 4 (some 36)) 29 5 (some 37)) 29 6 (some 38)) J s H _ := hG
  refine md_putF hx hb hW hown hK hG f_X6_29_6 hin rfl (by decide) hK29 rfl rfl dX6_init_50 (fun H locs hG => ?_)
  refine lv_aload_n hx hb dX6_init_53 rfl (lv_at hl 0 rfl) ?_
  refine lv_sipush (v := 6144) hx hb dX6_init_54 (by decide) ?_
  refine md_newa hx hb hW hK hG (t := 15) (Or.inr (Or.inr (Or.inl ⟨rfl, rfl⟩))) w_2_133 (na := 6144) (by decide) (by decide) (by decide) (Or.inl ⟨hK40, hN40⟩) (fun k => (hF 40 (by decide) k).1) (fun k => (hF 40 (by decide) k).2.2) (Nat.le_of_ble_eq_true rfl) (Nat.le_of_ble_eq_true rfl) dX6_init_57 (fun H hG => ?_)
  have hG : md_G D cy base 41 K N M (u2 (u2 (u2 (u2 (u2 (u2 (ur R 30 (fun j => if j < 4 then some (30 + 1 + j) else none)) 29 2 (some 30)) 29 3 (some 35)) 29 4 (some 36)) 29 5 (some 37)) 29 6 (some 38)) 29 7 (some 39)) J s H _ := hG
  refine md_putF hx hb hW hown hK hG f_X6_32_6 hin rfl (by decide) hK29 rfl rfl dX6_init_59 (fun H locs hG => ?_)
  refine lv_aload_n hx hb dX6_init_62 rfl (lv_at hl 0 rfl) ?_
  refine lv_sipush (v := 2048) hx hb dX6_init_63 (by decide) ?_
  refine md_newa hx hb hW hK hG (t := 14) (Or.inr (Or.inl ⟨rfl, Or.inl rfl⟩)) w_1_144 (na := 2048) (by decide) (by decide) (by decide) (Or.inl ⟨hK41, hN41⟩) (fun k => (hF 41 (by decide) k).1) (fun k => (hF 41 (by decide) k).2.2) (Nat.le_of_ble_eq_true rfl) (Nat.le_of_ble_eq_true rfl) dX6_init_66 (fun H hG => ?_)
  have hG : md_G D cy base 42 K N M (u2 (u2 (u2 (u2 (u2 (u2 (u2 (ur R 30 (fun j => if j < 4 then some (30 + 1 + j) else none)) 29 2 (some 30)) 29 3 (some 35)) 29 4 (some 36)) 29 5 (some 37)) 29 6 (some 38)) 29 7 (some 39)) 29 8 (some 40)) J s H _ := hG
  refine md_putF hx hb hW hown hK hG f_X6_36_6 hin rfl (by decide) hK29 rfl rfl dX6_init_68 (fun H locs hG => ?_)
  refine lv_aload_n hx hb dX6_init_71 rfl (lv_at hl 0 rfl) ?_
  refine lv_aload_n hx hb dX6_init_72 rfl (lv_at hl 1 rfl) ?_
  refine md_putF hx hb hW hown hK hG f_X6_39_6 hin rfl (by decide) hK29 rfl rfl dX6_init_73 (fun H locs hG => ?_)
  refine lv_aload_n hx hb dX6_init_76 rfl (lv_at hl 0 rfl) ?_
  refine lv_aload_n hx hb dX6_init_77 rfl (lv_at hl 2 rfl) ?_
  refine md_putF hx hb hW hown hK hG f_X6_43_6 hin rfl (by decide) hK29 rfl rfl dX6_init_78 (fun H locs hG => ?_)
  exact md_endv hx hb hr hlocks hK hT hG (rfl) dX6_init_81
set_option maxRecDepth 100000 in
set_option maxHeartbeats 4000000 in
theorem c_X4_init (l : Launch) (D : va_G) (cy : Nat → ClassId) (tx : (Nat → Nat) × (Nat → Nat)) (base : Nat) (K N : Nat → Nat) (M : Nat → Nat → Int32) (R : Nat → Nat → Option Nat) (J : Nat → Nat → Int64) (hF : ∀ a, 43 ≤ a → ∀ k, M a k = 0 ∧ R a k = none ∧ J a k = 0) (hK43 : K 43 = 19) (hN43 : N 43 = 5) (hK44 : K 44 = 20) (hN44 : N 44 = 10) (hK45 : K 45 = 20) (hN45 : N 45 = 10) (hK46 : K 46 = 20) (hN46 : N 46 = 10) (hK47 : K 47 = 20) (hN47 : N 47 = 10) (hK48 : K 48 = 20) (hN48 : N 48 = 10) (hK42 : K 42 = 5) (hK49 : K 49 = 14) (hN49 : N 49 = 4) : Met l yX4_init [Cond.code yX4_init cX4_init 3 none] (md_rm 1 7 59) (va_Pc [.ref (base + 42), .ref (base + 4), .ref (base + 13)] (md_U D cy tx base 43 K N M R J)) (mQv D cy tx base (fun u => u = (50, K, N, M, (u2 (u2 (u2 (u2 (ur R 43 (fun j => if j < 5 then some (43 + 1 + j) else none)) 42 2 (some 43)) 42 3 (some 49)) 42 0 (some 4)) 42 1 (some 13)), J))) 7 59 (fun q => base ≤ q) := by
  refine Met.ofW (cc := cX4_init) (maxL := 3) (ret := none) (by decide) rfl ?_
  intro p e s m args below meth c s₁ B hml hv
  have hW : ∀ w ∈ lw_tbl, goodWord w = true → w.before args s = true := fun w h g => hv.2.2.2.1.2.1 w h g _
  obtain ⟨rfl, hU⟩ := hv
  have hx := B.exec
  have hb := B.bytes
  have hr := B.returns
  have hlocks := B.notSynchronized
  have hown : s.vm.findClass RX4 = some m.cls := findClass_of_methodNamed B.named
  have hK := hU.2.2.1
  have hT := hU.2.2.2
  have hG := md_G.start hU
  have hin : meth.name = "<init>" := (name_of_methodNamed B.named B.method).1
  have hl := lv_entry ([.ref (base + 42), .ref (base + 4), .ref (base + 13)]) (n := 3) (Nat.le_of_ble_eq_true rfl)
  rw [lg_entry_eq]
  generalize (lg_sl ([.ref (base + 42), .ref (base + 4), .ref (base + 13)]) ++ List.replicate (3 - (lg_sl ([.ref (base + 42), .ref (base + 4), .ref (base + 13)])).length) Slot.unset).toArray = ls at hl ⊢
  have hl : lv_has ls 3 [(0, .ref (base + 42)), (1, .ref (base + 4)), (2, .ref (base + 13))] := hl
  refine lv_aload_n hx hb dX4_init_0 rfl (lv_at hl 0 rfl) ?_
  refine W.objInit hx hb hown (hW _ w_2_139 rfl) (hW _ w_1_27 rfl) (hW _ w_1_28 rfl) rfl (by rw [hml]; exact hl.1) rfl dX4_init_1 (Nat.le_of_ble_eq_true rfl) (Nat.le_of_ble_eq_true rfl) ?_
  refine W.eq (g2 := F0 m 4 ls []) rfl ?_
  refine lv_aload_n hx hb dX4_init_4 rfl (lv_at hl 0 rfl) ?_
  refine lv_iconst (v := 5) hx hb dX4_init_5 (by decide) ?_
  refine lv_bipush (v := 10) hx hb dX4_init_6 (by decide) ?_
  refine md_mna hx hb hW hown hK hG (t := 20) (Or.inr (by decide)) w_2_140 w_1_144 (n' := 5) (k' := 10) (by decide) (by decide) (by decide) (by decide) (by decide) (by decide) ⟨hK43, hN43⟩ (fun i hi => match i, hi with | 0, _ => ⟨hK44, hN44⟩ | 1, _ => ⟨hK45, hN45⟩ | 2, _ => ⟨hK46, hN46⟩ | 3, _ => ⟨hK47, hN47⟩ | 4, _ => ⟨hK48, hN48⟩ | i + 5, h => absurd h (by omega)) (fun a h j => (hF a (Nat.le_trans (by decide) h) j).1) (Nat.le_of_ble_eq_true rfl) (Nat.le_of_ble_eq_true rfl) dX4_init_8 (fun H hG => ?_) (by rw [hU.2.1]; exact Nat.le_add_right _ _) (by rw [hU.2.1]; omega)
  have hG : md_G D cy base 49 K N M (ur R 43 (fun j => if j < 5 then some (43 + 1 + j) else none)) J s H _ := hG
  refine md_putF hx hb hW hown hK hG f_X4_13_4 hin rfl (by decide) hK42 rfl rfl dX4_init_12 (fun H locs hG => ?_)
  refine lv_aload_n hx hb dX4_init_15 rfl (lv_at hl 0 rfl) ?_
  refine lv_iconst (v := 4) hx hb dX4_init_16 (by decide) ?_
  refine md_newa hx hb hW hK hG (t := 14) (Or.inr (Or.inl ⟨rfl, Or.inl rfl⟩)) w_1_144 (na := 4) (by decide) (by decide) (by decide) (Or.inl ⟨hK49, hN49⟩) (fun k => (hF 49 (by decide) k).1) (fun k => (hF 49 (by decide) k).2.2) (Nat.le_of_ble_eq_true rfl) (Nat.le_of_ble_eq_true rfl) dX4_init_17 (fun H hG => ?_)
  have hG : md_G D cy base 50 K N M (u2 (ur R 43 (fun j => if j < 5 then some (43 + 1 + j) else none)) 42 2 (some 43)) J s H _ := hG
  refine md_putF hx hb hW hown hK hG f_X4_16_4 hin rfl (by decide) hK42 rfl rfl dX4_init_19 (fun H locs hG => ?_)
  refine lv_aload_n hx hb dX4_init_22 rfl (lv_at hl 0 rfl) ?_
  refine lv_aload_n hx hb dX4_init_23 rfl (lv_at hl 1 rfl) ?_
  refine md_putF hx hb hW hown hK hG f_X4_20_4 hin rfl (by decide) hK42 rfl rfl dX4_init_24 (fun H locs hG => ?_)
  refine lv_aload_n hx hb dX4_init_27 rfl (lv_at hl 0 rfl) ?_
  refine lv_aload_n hx hb dX4_init_28 rfl (lv_at hl 2 rfl) ?_
  refine md_putF hx hb hW hown hK hG f_X4_24_4 hin rfl (by decide) hK42 rfl rfl dX4_init_29 (fun H locs hG => ?_)
  exact md_endv hx hb hr hlocks hK hT hG (rfl) dX4_init_32
set_option maxRecDepth 100000 in
set_option maxHeartbeats 4000000 in
theorem c_X1_init (l : Launch) (D : va_G) (cy : Nat → ClassId) (tx : (Nat → Nat) × (Nat → Nat)) (base : Nat) (K N : Nat → Nat) (M : Nat → Nat → Int32) (R : Nat → Nat → Option Nat) (J : Nat → Nat → Int64) (hF : ∀ a, 51 ≤ a → ∀ k, M a k = 0 ∧ R a k = none ∧ J a k = 0) (hK51 : K 51 = 19) (hN51 : N 51 = 7) (hK52 : K 52 = 20) (hN52 : N 52 = 10) (hK53 : K 53 = 20) (hN53 : N 53 = 10) (hK54 : K 54 = 20) (hN54 : N 54 = 10) (hK55 : K 55 = 20) (hN55 : N 55 = 10) (hK56 : K 56 = 20) (hN56 : N 56 = 10) (hK57 : K 57 = 20) (hN57 : N 57 = 10) (hK58 : K 58 = 20) (hN58 : N 58 = 10) (hK50 : K 50 = 2) (hK59 : K 59 = 21) (hN59 : N 59 = 6) (hK60 : K 60 = 21) (hN60 : N 60 = 6) : Met l yX1_init [Cond.code yX1_init cX1_init 3 none] (md_rm 1 10 89) (va_Pc [.ref (base + 50), .ref (base + 4), .ref (base + 13)] (md_U D cy tx base 51 K N M R J)) (mQv D cy tx base (fun u => u = (61, K, N, M, (u2 (u2 (u2 (u2 (u2 (ur R 51 (fun j => if j < 7 then some (51 + 1 + j) else none)) 50 2 (some 51)) 50 3 (some 59)) 50 4 (some 60)) 50 0 (some 4)) 50 1 (some 13)), J))) 10 89 (fun q => base ≤ q) := by
  refine Met.ofW (cc := cX1_init) (maxL := 3) (ret := none) (by decide) rfl ?_
  intro p e s m args below meth c s₁ B hml hv
  have hW : ∀ w ∈ lw_tbl, goodWord w = true → w.before args s = true := fun w h g => hv.2.2.2.1.2.1 w h g _
  obtain ⟨rfl, hU⟩ := hv
  have hx := B.exec
  have hb := B.bytes
  have hr := B.returns
  have hlocks := B.notSynchronized
  have hown : s.vm.findClass RX1 = some m.cls := findClass_of_methodNamed B.named
  have hK := hU.2.2.1
  have hT := hU.2.2.2
  have hG := md_G.start hU
  have hin : meth.name = "<init>" := (name_of_methodNamed B.named B.method).1
  have hl := lv_entry ([.ref (base + 50), .ref (base + 4), .ref (base + 13)]) (n := 3) (Nat.le_of_ble_eq_true rfl)
  rw [lg_entry_eq]
  generalize (lg_sl ([.ref (base + 50), .ref (base + 4), .ref (base + 13)]) ++ List.replicate (3 - (lg_sl ([.ref (base + 50), .ref (base + 4), .ref (base + 13)])).length) Slot.unset).toArray = ls at hl ⊢
  have hl : lv_has ls 3 [(0, .ref (base + 50)), (1, .ref (base + 4)), (2, .ref (base + 13))] := hl
  refine lv_aload_n hx hb dX1_init_0 rfl (lv_at hl 0 rfl) ?_
  refine W.objInit hx hb hown (hW _ w_2_172 rfl) (hW _ w_1_27 rfl) (hW _ w_1_28 rfl) rfl (by rw [hml]; exact hl.1) rfl dX1_init_1 (Nat.le_of_ble_eq_true rfl) (Nat.le_of_ble_eq_true rfl) ?_
  refine W.eq (g2 := F0 m 4 ls []) rfl ?_
  refine lv_aload_n hx hb dX1_init_4 rfl (lv_at hl 0 rfl) ?_
  refine lv_bipush (v := 7) hx hb dX1_init_5 (by decide) ?_
  refine lv_bipush (v := 10) hx hb dX1_init_7 (by decide) ?_
  refine md_mna hx hb hW hown hK hG (t := 20) (Or.inr (by decide)) w_2_173 w_1_144 (n' := 7) (k' := 10) (by decide) (by decide) (by decide) (by decide) (by decide) (by decide) ⟨hK51, hN51⟩ (fun i hi => match i, hi with | 0, _ => ⟨hK52, hN52⟩ | 1, _ => ⟨hK53, hN53⟩ | 2, _ => ⟨hK54, hN54⟩ | 3, _ => ⟨hK55, hN55⟩ | 4, _ => ⟨hK56, hN56⟩ | 5, _ => ⟨hK57, hN57⟩ | 6, _ => ⟨hK58, hN58⟩ | i + 7, h => absurd h (by omega)) (fun a h j => (hF a (Nat.le_trans (by decide) h) j).1) (Nat.le_of_ble_eq_true rfl) (Nat.le_of_ble_eq_true rfl) dX1_init_9 (fun H hG => ?_) (by rw [hU.2.1]; exact Nat.le_add_right _ _) (by rw [hU.2.1]; omega)
  have hG : md_G D cy base 59 K N M (ur R 51 (fun j => if j < 7 then some (51 + 1 + j) else none)) J s H _ := hG
  refine md_putF hx hb hW hown hK hG f_X1_13_1 hin rfl (by decide) hK50 rfl rfl dX1_init_13 (fun H locs hG => ?_)
  refine lv_aload_n hx hb dX1_init_16 rfl (lv_at hl 0 rfl) ?_
  refine lv_bipush (v := 6) hx hb dX1_init_17 (by decide) ?_
  refine md_newa hx hb hW hK hG (t := 21) (Or.inr (Or.inl ⟨rfl, Or.inr (by decide)⟩)) w_1_144 (na := 6) (by decide) (by decide) (by decide) (Or.inl ⟨hK59, hN59⟩) (fun k => (hF 59 (by decide) k).1) (fun k => (hF 59 (by decide) k).2.2) (Nat.le_of_ble_eq_true rfl) (Nat.le_of_ble_eq_true rfl) dX1_init_19 (fun H hG => ?_)
  have hG : md_G D cy base 60 K N M (u2 (ur R 51 (fun j => if j < 7 then some (51 + 1 + j) else none)) 50 2 (some 51)) J s H _ := hG
  refine md_putF hx hb hW hown hK hG f_X1_16_1 hin rfl (by decide) hK50 rfl rfl dX1_init_21 (fun H locs hG => ?_)
  refine lv_aload_n hx hb dX1_init_24 rfl (lv_at hl 0 rfl) ?_
  refine lv_bipush (v := 6) hx hb dX1_init_25 (by decide) ?_
  refine md_newa hx hb hW hK hG (t := 21) (Or.inr (Or.inl ⟨rfl, Or.inr (by decide)⟩)) w_1_144 (na := 6) (by decide) (by decide) (by decide) (Or.inl ⟨hK60, hN60⟩) (fun k => (hF 60 (by decide) k).1) (fun k => (hF 60 (by decide) k).2.2) (Nat.le_of_ble_eq_true rfl) (Nat.le_of_ble_eq_true rfl) dX1_init_27 (fun H hG => ?_)
  have hG : md_G D cy base 61 K N M (u2 (u2 (ur R 51 (fun j => if j < 7 then some (51 + 1 + j) else none)) 50 2 (some 51)) 50 3 (some 59)) J s H _ := hG
  refine md_putF hx hb hW hown hK hG f_X1_20_1 hin rfl (by decide) hK50 rfl rfl dX1_init_29 (fun H locs hG => ?_)
  refine lv_aload_n hx hb dX1_init_32 rfl (lv_at hl 0 rfl) ?_
  refine lv_aload_n hx hb dX1_init_33 rfl (lv_at hl 1 rfl) ?_
  refine md_putF hx hb hW hown hK hG f_X1_23_1 hin rfl (by decide) hK50 rfl rfl dX1_init_34 (fun H locs hG => ?_)
  refine lv_aload_n hx hb dX1_init_37 rfl (lv_at hl 0 rfl) ?_
  refine lv_aload_n hx hb dX1_init_38 rfl (lv_at hl 2 rfl) ?_
  refine md_putF hx hb hW hown hK hG f_X1_27_1 hin rfl (by decide) hK50 rfl rfl dX1_init_39 (fun H locs hG => ?_)
  exact md_endv hx hb hr hlocks hK hT hG (rfl) dX1_init_42
set_option maxRecDepth 100000 in
set_option maxHeartbeats 4000000 in
theorem c_X0_init (l : Launch) (D : va_G) (cy : Nat → ClassId) (tx : (Nat → Nat) × (Nat → Nat)) (base : Nat) (K N : Nat → Nat) (M : Nat → Nat → Int32) (R : Nat → Nat → Option Nat) (J : Nat → Nat → Int64) (hF : ∀ a, 62 ≤ a → ∀ k, M a k = 0 ∧ R a k = none ∧ J a k = 0) (hK62 : K 62 = 37) (hN62 : N 62 = 10) (hK61 : K 61 = 1) (hK63 : K 63 = 29) (hN63 : N 63 = 10) (hK64 : K 64 = 14) (hN64 : N 64 = 10) (hK65 : K 65 = 14) (hN65 : N 65 = 10) (hK66 : K 66 = 38) (hN66 : N 66 = 64) (hK67 : K 67 = 39) (hN67 : N 67 = 128) (hK68 : K 68 = 40) (hN68 : N 68 = 64) : Met l yX0_init [Cond.code yX0_init cX0_init 3 none] (md_rm 1 7 296) (va_Pc [.ref (base + 61), .ref (base + 4), .ref (base + 13)] (md_U D cy tx base 62 K N M R J)) (mQv D cy tx base (fun u => u = (69, K, N, M, (u2 (u2 (u2 (u2 (u2 (u2 (u2 (u2 (u2 R 61 2 (some 62)) 61 3 (some 63)) 61 4 (some 64)) 61 5 (some 65)) 61 6 (some 66)) 61 7 (some 67)) 61 8 (some 68)) 61 0 (some 4)) 61 1 (some 13)), J))) 7 296 (fun q => base ≤ q) := by
  refine Met.ofW (cc := cX0_init) (maxL := 3) (ret := none) (by decide) rfl ?_
  intro p e s m args below meth c s₁ B hml hv
  have hW : ∀ w ∈ lw_tbl, goodWord w = true → w.before args s = true := fun w h g => hv.2.2.2.1.2.1 w h g _
  obtain ⟨rfl, hU⟩ := hv
  have hx := B.exec
  have hb := B.bytes
  have hr := B.returns
  have hlocks := B.notSynchronized
  have hown : s.vm.findClass RX0 = some m.cls := findClass_of_methodNamed B.named
  have hK := hU.2.2.1
  have hT := hU.2.2.2
  have hG := md_G.start hU
  have hin : meth.name = "<init>" := (name_of_methodNamed B.named B.method).1
  have hl := lv_entry ([.ref (base + 61), .ref (base + 4), .ref (base + 13)]) (n := 3) (Nat.le_of_ble_eq_true rfl)
  rw [lg_entry_eq]
  generalize (lg_sl ([.ref (base + 61), .ref (base + 4), .ref (base + 13)]) ++ List.replicate (3 - (lg_sl ([.ref (base + 61), .ref (base + 4), .ref (base + 13)])).length) Slot.unset).toArray = ls at hl ⊢
  have hl : lv_has ls 3 [(0, .ref (base + 61)), (1, .ref (base + 4)), (2, .ref (base + 13))] := hl
  refine lv_aload_n hx hb dX0_init_0 rfl (lv_at hl 0 rfl) ?_
  refine W.objInit hx hb hown (hW _ w_2_207 rfl) (hW _ w_1_27 rfl) (hW _ w_1_28 rfl) rfl (by rw [hml]; exact hl.1) rfl dX0_init_1 (Nat.le_of_ble_eq_true rfl) (Nat.le_of_ble_eq_true rfl) ?_
  refine W.eq (g2 := F0 m 4 ls []) rfl ?_
  refine lv_aload_n hx hb dX0_init_4 rfl (lv_at hl 0 rfl) ?_
  refine lv_bipush (v := 10) hx hb dX0_init_5 (by decide) ?_
  refine md_newa hx hb hW hK hG (t := 37) (Or.inr (Or.inl ⟨rfl, Or.inr (by decide)⟩)) w_1_144 (na := 10) (by decide) (by decide) (by decide) (Or.inl ⟨hK62, hN62⟩) (fun k => (hF 62 (by decide) k).1) (fun k => (hF 62 (by decide) k).2.2) (Nat.le_of_ble_eq_true rfl) (Nat.le_of_ble_eq_true rfl) dX0_init_7 (fun H hG => ?_)
  have hG : md_G D cy base 63 K N M R J s H _ := hG
  refine md_putF hx hb hW hown hK hG f_X0_9_0 hin rfl (by decide) hK61 rfl rfl dX0_init_9 (fun H locs hG => ?_)
  refine lv_aload_n hx hb dX0_init_12 rfl (lv_at hl 0 rfl) ?_
  refine lv_bipush (v := 10) hx hb dX0_init_13 (by decide) ?_
  refine md_newa hx hb hW hK hG (t := 29) (Or.inr (Or.inl ⟨rfl, Or.inr (by decide)⟩)) w_1_144 (na := 10) (by decide) (by decide) (by decide) (Or.inl ⟨hK63, hN63⟩) (fun k => (hF 63 (by decide) k).1) (fun k => (hF 63 (by decide) k).2.2) (Nat.le_of_ble_eq_true rfl) (Nat.le_of_ble_eq_true rfl) dX0_init_15 (fun H hG => ?_)
  have hG : md_G D cy base 64 K N M (u2 R 61 2 (some 62)) J s H _ := hG
  refine md_putF hx hb hW hown hK hG f_X0_15_0 hin rfl (by decide) hK61 rfl rfl dX0_init_17 (fun H locs hG => ?_)
  refine lv_aload_n hx hb dX0_init_20 rfl (lv_at hl 0 rfl) ?_
  refine lv_bipush (v := 10) hx hb dX0_init_21 (by decide) ?_
  refine md_newa hx hb hW hK hG (t := 14) (Or.inr (Or.inl ⟨rfl, Or.inl rfl⟩)) w_1_144 (na := 10) (by decide) (by decide) (by decide) (Or.inl ⟨hK64, hN64⟩) (fun k => (hF 64 (by decide) k).1) (fun k => (hF 64 (by decide) k).2.2) (Nat.le_of_ble_eq_true rfl) (Nat.le_of_ble_eq_true rfl) dX0_init_23 (fun H hG => ?_)
  have hG : md_G D cy base 65 K N M (u2 (u2 R 61 2 (some 62)) 61 3 (some 63)) J s H _ := hG
  refine md_putF hx hb hW hown hK hG f_X0_18_0 hin rfl (by decide) hK61 rfl rfl dX0_init_25 (fun H locs hG => ?_)
  refine lv_aload_n hx hb dX0_init_28 rfl (lv_at hl 0 rfl) ?_
  refine lv_bipush (v := 10) hx hb dX0_init_29 (by decide) ?_
  refine md_newa hx hb hW hK hG (t := 14) (Or.inr (Or.inl ⟨rfl, Or.inl rfl⟩)) w_1_144 (na := 10) (by decide) (by decide) (by decide) (Or.inl ⟨hK65, hN65⟩) (fun k => (hF 65 (by decide) k).1) (fun k => (hF 65 (by decide) k).2.2) (Nat.le_of_ble_eq_true rfl) (Nat.le_of_ble_eq_true rfl) dX0_init_31 (fun H hG => ?_)
  have hG : md_G D cy base 66 K N M (u2 (u2 (u2 R 61 2 (some 62)) 61 3 (some 63)) 61 4 (some 64)) J s H _ := hG
  refine md_putF hx hb hW hown hK hG f_X0_21_0 hin rfl (by decide) hK61 rfl rfl dX0_init_33 (fun H locs hG => ?_)
  refine lv_aload_n hx hb dX0_init_36 rfl (lv_at hl 0 rfl) ?_
  refine lv_bipush (v := 64) hx hb dX0_init_37 (by decide) ?_
  refine md_newa hx hb hW hK hG (t := 38) (Or.inr (Or.inl ⟨rfl, Or.inr (by decide)⟩)) w_1_144 (na := 64) (by decide) (by decide) (by decide) (Or.inl ⟨hK66, hN66⟩) (fun k => (hF 66 (by decide) k).1) (fun k => (hF 66 (by decide) k).2.2) (Nat.le_of_ble_eq_true rfl) (Nat.le_of_ble_eq_true rfl) dX0_init_39 (fun H hG => ?_)
  have hG : md_G D cy base 67 K N M (u2 (u2 (u2 (u2 R 61 2 (some 62)) 61 3 (some 63)) 61 4 (some 64)) 61 5 (some 65)) J s H _ := hG
  refine md_putr hx hb hW hown hK hG f_X0_24_0 (by decide) hK61 rfl rfl dX0_init_41 (fun H locs hG => ?_)
  refine lv_aload_n hx hb dX0_init_44 rfl (lv_at hl 0 rfl) ?_
  refine lv_sipush (v := 128) hx hb dX0_init_45 (by decide) ?_
  refine md_newa hx hb hW hK hG (t := 39) (Or.inr (Or.inl ⟨rfl, Or.inr (by decide)⟩)) w_1_144 (na := 128) (by decide) (by decide) (by decide) (Or.inl ⟨hK67, hN67⟩) (fun k => (hF 67 (by decide) k).1) (fun k => (hF 67 (by decide) k).2.2) (Nat.le_of_ble_eq_true rfl) (Nat.le_of_ble_eq_true rfl) dX0_init_48 (fun H hG => ?_)
  have hG : md_G D cy base 68 K N M (u2 (u2 (u2 (u2 (u2 R 61 2 (some 62)) 61 3 (some 63)) 61 4 (some 64)) 61 5 (some 65)) 61 6 (some 66)) J s H _ := hG
  refine md_putr hx hb hW hown hK hG f_X0_27_0 (by decide) hK61 rfl rfl dX0_init_50 (fun H locs hG => ?_)
  refine lv_aload_n hx hb dX0_init_53 rfl (lv_at hl 0 rfl) ?_
  refine lv_bipush (v := 64) hx hb dX0_init_54 (by decide) ?_
  refine md_newa hx hb hW hK hG (t := 40) (Or.inr (Or.inl ⟨rfl, Or.inr (by decide)⟩)) w_1_144 (na := 64) (by decide) (by decide) (by decide) (Or.inl ⟨hK68, hN68⟩) (fun k => (hF 68 (by decide) k).1) (fun k => (hF 68 (by decide) k).2.2) (Nat.le_of_ble_eq_true rfl) (Nat.le_of_ble_eq_true rfl) dX0_init_56 (fun H hG => ?_)
  have hG : md_G D cy base 69 K N M (u2 (u2 (u2 (u2 (u2 (u2 R 61 2 (some 62)) 61 3 (some 63)) 61 4 (some 64)) 61 5 (some 65)) 61 6 (some 66)) 61 7 (some 67)) J s H _ := hG
  refine md_putr hx hb hW hown hK hG f_X0_30_0 (by decide) hK61 rfl rfl dX0_init_58 (fun H locs hG => ?_)
  refine lv_aload_n hx hb dX0_init_61 rfl (lv_at hl 0 rfl) ?_
  refine lv_aload_n hx hb dX0_init_62 rfl (lv_at hl 1 rfl) ?_
  refine md_putF hx hb hW hown hK hG f_X0_33_0 hin rfl (by decide) hK61 rfl rfl dX0_init_63 (fun H locs hG => ?_)
  refine lv_aload_n hx hb dX0_init_66 rfl (lv_at hl 0 rfl) ?_
  refine lv_aload_n hx hb dX0_init_67 rfl (lv_at hl 2 rfl) ?_
  refine md_putF hx hb hW hown hK hG f_X0_37_0 hin rfl (by decide) hK61 rfl rfl dX0_init_68 (fun H locs hG => ?_)
  exact md_endv hx hb hr hlocks hK hT hG (rfl) dX0_init_71
set_option maxRecDepth 100000 in
set_option maxHeartbeats 4000000 in
theorem c_X9_init_4 (l : Launch) (D : va_G) (cy : Nat → ClassId) (tx : (Nat → Nat) × (Nat → Nat)) (base : Nat) (K N : Nat → Nat) (M : Nat → Nat → Int32) (R : Nat → Nat → Option Nat) (J : Nat → Nat → Int64) (hF : ∀ a, 5 ≤ a → ∀ k, M a k = 0 ∧ R a k = none ∧ J a k = 0) (hK5 : K 5 = 14) (hN5 : N 5 = 120) (hK4 : K 4 = 10) (hK6 : K 6 = 20) (hN6 : N 6 = 10) (hK7 : K 7 = 14) (hN7 : N 7 = 10) (hK8 : K 8 = 14) (hN8 : N 8 = 10) (hK9 : K 9 = 14) (hN9 : N 9 = 10) (hK10 : K 10 = 21) (hN10 : N 10 = 8) (hK11 : K 11 = 14) (hN11 : N 11 = 48) : Met l yX9_init [Cond.code yX9_init cX9_init 1 none] (md_rm 1 7 216) (va_Pc [.ref (base + 4)] (md_U D cy tx base 5 K N M R J)) (mQv D cy tx base (fun u => u = (12, K, N, M, (u2 (u2 (u2 (u2 (u2 (u2 (u2 R 4 9 (some 5)) 4 10 (some 6)) 4 11 (some 7)) 4 12 (some 8)) 4 13 (some 9)) 4 14 (some 10)) 4 15 (some 11)), J))) 7 216 (fun q => base ≤ q) := by
  refine Met.ofW (cc := cX9_init) (maxL := 1) (ret := none) (by decide) rfl ?_
  intro p e s m args below meth c s₁ B hml hv
  have hW : ∀ w ∈ lw_tbl, goodWord w = true → w.before args s = true := fun w h g => hv.2.2.2.1.2.1 w h g _
  obtain ⟨rfl, hU⟩ := hv
  have hx := B.exec
  have hb := B.bytes
  have hr := B.returns
  have hlocks := B.notSynchronized
  have hown : s.vm.findClass RX9 = some m.cls := findClass_of_methodNamed B.named
  have hK := hU.2.2.1
  have hT := hU.2.2.2
  have hG := md_G.start hU
  have hin : meth.name = "<init>" := (name_of_methodNamed B.named B.method).1
  have hl := lv_entry ([.ref (base + 4)]) (n := 1) (Nat.le_of_ble_eq_true rfl)
  rw [lg_entry_eq]
  generalize (lg_sl ([.ref (base + 4)]) ++ List.replicate (1 - (lg_sl ([.ref (base + 4)])).length) Slot.unset).toArray = ls at hl ⊢
  have hl : lv_has ls 1 [(0, .ref (base + 4))] := hl
  refine lv_aload_n hx hb dX9_init_0 rfl (lv_at hl 0 rfl) ?_
  refine W.objInit hx hb hown (hW _ w_1_35 rfl) (hW _ w_1_27 rfl) (hW _ w_1_28 rfl) rfl (by rw [hml]; exact hl.1) rfl dX9_init_1 (Nat.le_of_ble_eq_true rfl) (Nat.le_of_ble_eq_true rfl) ?_
  refine W.eq (g2 := F0 m 4 ls []) rfl ?_
  refine lv_aload_n hx hb dX9_init_4 rfl (lv_at hl 0 rfl) ?_
  refine lv_bipush (v := 120) hx hb dX9_init_5 (by decide) ?_
  refine md_newa hx hb hW hK hG (t := 14) (Or.inr (Or.inl ⟨rfl, Or.inl rfl⟩)) w_1_144 (na := 120) (by decide) (by decide) (by decide) (Or.inl ⟨hK5, hN5⟩) (fun k => (hF 5 (by decide) k).1) (fun k => (hF 5 (by decide) k).2.2) (Nat.le_of_ble_eq_true rfl) (Nat.le_of_ble_eq_true rfl) dX9_init_7 (fun H hG => ?_)
  have hG : md_G D cy base 6 K N M R J s H _ := hG
  refine md_putF hx hb hW hown hK hG f_X9_9_9 hin rfl (by decide) hK4 rfl rfl dX9_init_9 (fun H locs hG => ?_)
  refine lv_aload_n hx hb dX9_init_12 rfl (lv_at hl 0 rfl) ?_
  refine lv_bipush (v := 10) hx hb dX9_init_13 (by decide) ?_
  refine md_newa hx hb hW hK hG (t := 20) (Or.inr (Or.inl ⟨rfl, Or.inr (by decide)⟩)) w_1_144 (na := 10) (by decide) (by decide) (by decide) (Or.inl ⟨hK6, hN6⟩) (fun k => (hF 6 (by decide) k).1) (fun k => (hF 6 (by decide) k).2.2) (Nat.le_of_ble_eq_true rfl) (Nat.le_of_ble_eq_true rfl) dX9_init_15 (fun H hG => ?_)
  have hG : md_G D cy base 7 K N M (u2 R 4 9 (some 5)) J s H _ := hG
  refine md_putF hx hb hW hown hK hG f_X9_15_9 hin rfl (by decide) hK4 rfl rfl dX9_init_17 (fun H locs hG => ?_)
  refine lv_aload_n hx hb dX9_init_20 rfl (lv_at hl 0 rfl) ?_
  refine lv_bipush (v := 10) hx hb dX9_init_21 (by decide) ?_
  refine md_newa hx hb hW hK hG (t := 14) (Or.inr (Or.inl ⟨rfl, Or.inl rfl⟩)) w_1_144 (na := 10) (by decide) (by decide) (by decide) (Or.inl ⟨hK7, hN7⟩) (fun k => (hF 7 (by decide) k).1) (fun k => (hF 7 (by decide) k).2.2) (Nat.le_of_ble_eq_true rfl) (Nat.le_of_ble_eq_true rfl) dX9_init_23 (fun H hG => ?_)
  have hG : md_G D cy base 8 K N M (u2 (u2 R 4 9 (some 5)) 4 10 (some 6)) J s H _ := hG
  refine md_putF hx hb hW hown hK hG f_X9_18_9 hin rfl (by decide) hK4 rfl rfl dX9_init_25 (fun H locs hG => ?_)
  refine lv_aload_n hx hb dX9_init_28 rfl (lv_at hl 0 rfl) ?_
  refine lv_bipush (v := 10) hx hb dX9_init_29 (by decide) ?_
  refine md_newa hx hb hW hK hG (t := 14) (Or.inr (Or.inl ⟨rfl, Or.inl rfl⟩)) w_1_144 (na := 10) (by decide) (by decide) (by decide) (Or.inl ⟨hK8, hN8⟩) (fun k => (hF 8 (by decide) k).1) (fun k => (hF 8 (by decide) k).2.2) (Nat.le_of_ble_eq_true rfl) (Nat.le_of_ble_eq_true rfl) dX9_init_31 (fun H hG => ?_)
  have hG : md_G D cy base 9 K N M (u2 (u2 (u2 R 4 9 (some 5)) 4 10 (some 6)) 4 11 (some 7)) J s H _ := hG
  refine md_putF hx hb hW hown hK hG f_X9_21_9 hin rfl (by decide) hK4 rfl rfl dX9_init_33 (fun H locs hG => ?_)
  refine lv_aload_n hx hb dX9_init_36 rfl (lv_at hl 0 rfl) ?_
  refine lv_bipush (v := 10) hx hb dX9_init_37 (by decide) ?_
  refine md_newa hx hb hW hK hG (t := 14) (Or.inr (Or.inl ⟨rfl, Or.inl rfl⟩)) w_1_144 (na := 10) (by decide) (by decide) (by decide) (Or.inl ⟨hK9, hN9⟩) (fun k => (hF 9 (by decide) k).1) (fun k => (hF 9 (by decide) k).2.2) (Nat.le_of_ble_eq_true rfl) (Nat.le_of_ble_eq_true rfl) dX9_init_39 (fun H hG => ?_)
  have hG : md_G D cy base 10 K N M (u2 (u2 (u2 (u2 R 4 9 (some 5)) 4 10 (some 6)) 4 11 (some 7)) 4 12 (some 8)) J s H _ := hG
  refine md_putF hx hb hW hown hK hG f_X9_24_9 hin rfl (by decide) hK4 rfl rfl dX9_init_41 (fun H locs hG => ?_)
  refine lv_aload_n hx hb dX9_init_44 rfl (lv_at hl 0 rfl) ?_
  refine lv_bipush (v := 8) hx hb dX9_init_45 (by decide) ?_
  refine md_newa hx hb hW hK hG (t := 21) (Or.inr (Or.inl ⟨rfl, Or.inr (by decide)⟩)) w_1_144 (na := 8) (by decide) (by decide) (by decide) (Or.inl ⟨hK10, hN10⟩) (fun k => (hF 10 (by decide) k).1) (fun k => (hF 10 (by decide) k).2.2) (Nat.le_of_ble_eq_true rfl) (Nat.le_of_ble_eq_true rfl) dX9_init_47 (fun H hG => ?_)
  have hG : md_G D cy base 11 K N M (u2 (u2 (u2 (u2 (u2 R 4 9 (some 5)) 4 10 (some 6)) 4 11 (some 7)) 4 12 (some 8)) 4 13 (some 9)) J s H _ := hG
  refine md_putF hx hb hW hown hK hG f_X9_27_9 hin rfl (by decide) hK4 rfl rfl dX9_init_49 (fun H locs hG => ?_)
  refine lv_aload_n hx hb dX9_init_52 rfl (lv_at hl 0 rfl) ?_
  refine lv_bipush (v := 48) hx hb dX9_init_53 (by decide) ?_
  refine md_newa hx hb hW hK hG (t := 14) (Or.inr (Or.inl ⟨rfl, Or.inl rfl⟩)) w_1_144 (na := 48) (by decide) (by decide) (by decide) (Or.inl ⟨hK11, hN11⟩) (fun k => (hF 11 (by decide) k).1) (fun k => (hF 11 (by decide) k).2.2) (Nat.le_of_ble_eq_true rfl) (Nat.le_of_ble_eq_true rfl) dX9_init_55 (fun H hG => ?_)
  have hG : md_G D cy base 12 K N M (u2 (u2 (u2 (u2 (u2 (u2 R 4 9 (some 5)) 4 10 (some 6)) 4 11 (some 7)) 4 12 (some 8)) 4 13 (some 9)) 4 14 (some 10)) J s H _ := hG
  refine md_putF hx hb hW hown hK hG f_X9_30_9 hin rfl (by decide) hK4 rfl rfl dX9_init_57 (fun H locs hG => ?_)
  exact md_endv hx hb hr hlocks hK hT hG (rfl) dX9_init_60
set_option maxRecDepth 100000 in
set_option maxHeartbeats 4000000 in
theorem c_X9_init_5 (l : Launch) (D : va_G) (cy : Nat → ClassId) (tx : (Nat → Nat) × (Nat → Nat)) (base : Nat) (K N : Nat → Nat) (M : Nat → Nat → Int32) (R : Nat → Nat → Option Nat) (J : Nat → Nat → Int64) (hF : ∀ a, 16 ≤ a → ∀ k, M a k = 0 ∧ R a k = none ∧ J a k = 0) (hK16 : K 16 = 14) (hN16 : N 16 = 120) (hK15 : K 15 = 10) (hK17 : K 17 = 20) (hN17 : N 17 = 10) (hK18 : K 18 = 14) (hN18 : N 18 = 10) (hK19 : K 19 = 14) (hN19 : N 19 = 10) (hK20 : K 20 = 14) (hN20 : N 20 = 10) (hK21 : K 21 = 21) (hN21 : N 21 = 8) (hK22 : K 22 = 14) (hN22 : N 22 = 48) : Met l yX9_init [Cond.code yX9_init cX9_init 1 none] (md_rm 1 7 216) (va_Pc [.ref (base + 15)] (md_U D cy tx base 16 K N M R J)) (mQv D cy tx base (fun u => u = (23, K, N, M, (u2 (u2 (u2 (u2 (u2 (u2 (u2 R 15 9 (some 16)) 15 10 (some 17)) 15 11 (some 18)) 15 12 (some 19)) 15 13 (some 20)) 15 14 (some 21)) 15 15 (some 22)), J))) 7 216 (fun q => base ≤ q) := by
  refine Met.ofW (cc := cX9_init) (maxL := 1) (ret := none) (by decide) rfl ?_
  intro p e s m args below meth c s₁ B hml hv
  have hW : ∀ w ∈ lw_tbl, goodWord w = true → w.before args s = true := fun w h g => hv.2.2.2.1.2.1 w h g _
  obtain ⟨rfl, hU⟩ := hv
  have hx := B.exec
  have hb := B.bytes
  have hr := B.returns
  have hlocks := B.notSynchronized
  have hown : s.vm.findClass RX9 = some m.cls := findClass_of_methodNamed B.named
  have hK := hU.2.2.1
  have hT := hU.2.2.2
  have hG := md_G.start hU
  have hin : meth.name = "<init>" := (name_of_methodNamed B.named B.method).1
  have hl := lv_entry ([.ref (base + 15)]) (n := 1) (Nat.le_of_ble_eq_true rfl)
  rw [lg_entry_eq]
  generalize (lg_sl ([.ref (base + 15)]) ++ List.replicate (1 - (lg_sl ([.ref (base + 15)])).length) Slot.unset).toArray = ls at hl ⊢
  have hl : lv_has ls 1 [(0, .ref (base + 15))] := hl
  refine lv_aload_n hx hb dX9_init_0 rfl (lv_at hl 0 rfl) ?_
  refine W.objInit hx hb hown (hW _ w_1_35 rfl) (hW _ w_1_27 rfl) (hW _ w_1_28 rfl) rfl (by rw [hml]; exact hl.1) rfl dX9_init_1 (Nat.le_of_ble_eq_true rfl) (Nat.le_of_ble_eq_true rfl) ?_
  refine W.eq (g2 := F0 m 4 ls []) rfl ?_
  refine lv_aload_n hx hb dX9_init_4 rfl (lv_at hl 0 rfl) ?_
  refine lv_bipush (v := 120) hx hb dX9_init_5 (by decide) ?_
  refine md_newa hx hb hW hK hG (t := 14) (Or.inr (Or.inl ⟨rfl, Or.inl rfl⟩)) w_1_144 (na := 120) (by decide) (by decide) (by decide) (Or.inl ⟨hK16, hN16⟩) (fun k => (hF 16 (by decide) k).1) (fun k => (hF 16 (by decide) k).2.2) (Nat.le_of_ble_eq_true rfl) (Nat.le_of_ble_eq_true rfl) dX9_init_7 (fun H hG => ?_)
  have hG : md_G D cy base 17 K N M R J s H _ := hG
  refine md_putF hx hb hW hown hK hG f_X9_9_9 hin rfl (by decide) hK15 rfl rfl dX9_init_9 (fun H locs hG => ?_)
  refine lv_aload_n hx hb dX9_init_12 rfl (lv_at hl 0 rfl) ?_
  refine lv_bipush (v := 10) hx hb dX9_init_13 (by decide) ?_
  refine md_newa hx hb hW hK hG (t := 20) (Or.inr (Or.inl ⟨rfl, Or.inr (by decide)⟩)) w_1_144 (na := 10) (by decide) (by decide) (by decide) (Or.inl ⟨hK17, hN17⟩) (fun k => (hF 17 (by decide) k).1) (fun k => (hF 17 (by decide) k).2.2) (Nat.le_of_ble_eq_true rfl) (Nat.le_of_ble_eq_true rfl) dX9_init_15 (fun H hG => ?_)
  have hG : md_G D cy base 18 K N M (u2 R 15 9 (some 16)) J s H _ := hG
  refine md_putF hx hb hW hown hK hG f_X9_15_9 hin rfl (by decide) hK15 rfl rfl dX9_init_17 (fun H locs hG => ?_)
  refine lv_aload_n hx hb dX9_init_20 rfl (lv_at hl 0 rfl) ?_
  refine lv_bipush (v := 10) hx hb dX9_init_21 (by decide) ?_
  refine md_newa hx hb hW hK hG (t := 14) (Or.inr (Or.inl ⟨rfl, Or.inl rfl⟩)) w_1_144 (na := 10) (by decide) (by decide) (by decide) (Or.inl ⟨hK18, hN18⟩) (fun k => (hF 18 (by decide) k).1) (fun k => (hF 18 (by decide) k).2.2) (Nat.le_of_ble_eq_true rfl) (Nat.le_of_ble_eq_true rfl) dX9_init_23 (fun H hG => ?_)
  have hG : md_G D cy base 19 K N M (u2 (u2 R 15 9 (some 16)) 15 10 (some 17)) J s H _ := hG
  refine md_putF hx hb hW hown hK hG f_X9_18_9 hin rfl (by decide) hK15 rfl rfl dX9_init_25 (fun H locs hG => ?_)
  refine lv_aload_n hx hb dX9_init_28 rfl (lv_at hl 0 rfl) ?_
  refine lv_bipush (v := 10) hx hb dX9_init_29 (by decide) ?_
  refine md_newa hx hb hW hK hG (t := 14) (Or.inr (Or.inl ⟨rfl, Or.inl rfl⟩)) w_1_144 (na := 10) (by decide) (by decide) (by decide) (Or.inl ⟨hK19, hN19⟩) (fun k => (hF 19 (by decide) k).1) (fun k => (hF 19 (by decide) k).2.2) (Nat.le_of_ble_eq_true rfl) (Nat.le_of_ble_eq_true rfl) dX9_init_31 (fun H hG => ?_)
  have hG : md_G D cy base 20 K N M (u2 (u2 (u2 R 15 9 (some 16)) 15 10 (some 17)) 15 11 (some 18)) J s H _ := hG
  refine md_putF hx hb hW hown hK hG f_X9_21_9 hin rfl (by decide) hK15 rfl rfl dX9_init_33 (fun H locs hG => ?_)
  refine lv_aload_n hx hb dX9_init_36 rfl (lv_at hl 0 rfl) ?_
  refine lv_bipush (v := 10) hx hb dX9_init_37 (by decide) ?_
  refine md_newa hx hb hW hK hG (t := 14) (Or.inr (Or.inl ⟨rfl, Or.inl rfl⟩)) w_1_144 (na := 10) (by decide) (by decide) (by decide) (Or.inl ⟨hK20, hN20⟩) (fun k => (hF 20 (by decide) k).1) (fun k => (hF 20 (by decide) k).2.2) (Nat.le_of_ble_eq_true rfl) (Nat.le_of_ble_eq_true rfl) dX9_init_39 (fun H hG => ?_)
  have hG : md_G D cy base 21 K N M (u2 (u2 (u2 (u2 R 15 9 (some 16)) 15 10 (some 17)) 15 11 (some 18)) 15 12 (some 19)) J s H _ := hG
  refine md_putF hx hb hW hown hK hG f_X9_24_9 hin rfl (by decide) hK15 rfl rfl dX9_init_41 (fun H locs hG => ?_)
  refine lv_aload_n hx hb dX9_init_44 rfl (lv_at hl 0 rfl) ?_
  refine lv_bipush (v := 8) hx hb dX9_init_45 (by decide) ?_
  refine md_newa hx hb hW hK hG (t := 21) (Or.inr (Or.inl ⟨rfl, Or.inr (by decide)⟩)) w_1_144 (na := 8) (by decide) (by decide) (by decide) (Or.inl ⟨hK21, hN21⟩) (fun k => (hF 21 (by decide) k).1) (fun k => (hF 21 (by decide) k).2.2) (Nat.le_of_ble_eq_true rfl) (Nat.le_of_ble_eq_true rfl) dX9_init_47 (fun H hG => ?_)
  have hG : md_G D cy base 22 K N M (u2 (u2 (u2 (u2 (u2 R 15 9 (some 16)) 15 10 (some 17)) 15 11 (some 18)) 15 12 (some 19)) 15 13 (some 20)) J s H _ := hG
  refine md_putF hx hb hW hown hK hG f_X9_27_9 hin rfl (by decide) hK15 rfl rfl dX9_init_49 (fun H locs hG => ?_)
  refine lv_aload_n hx hb dX9_init_52 rfl (lv_at hl 0 rfl) ?_
  refine lv_bipush (v := 48) hx hb dX9_init_53 (by decide) ?_
  refine md_newa hx hb hW hK hG (t := 14) (Or.inr (Or.inl ⟨rfl, Or.inl rfl⟩)) w_1_144 (na := 48) (by decide) (by decide) (by decide) (Or.inl ⟨hK22, hN22⟩) (fun k => (hF 22 (by decide) k).1) (fun k => (hF 22 (by decide) k).2.2) (Nat.le_of_ble_eq_true rfl) (Nat.le_of_ble_eq_true rfl) dX9_init_55 (fun H hG => ?_)
  have hG : md_G D cy base 23 K N M (u2 (u2 (u2 (u2 (u2 (u2 R 15 9 (some 16)) 15 10 (some 17)) 15 11 (some 18)) 15 12 (some 19)) 15 13 (some 20)) 15 14 (some 21)) J s H _ := hG
  refine md_putF hx hb hW hown hK hG f_X9_30_9 hin rfl (by decide) hK15 rfl rfl dX9_init_57 (fun H locs hG => ?_)
  exact md_endv hx hb hr hlocks hK hT hG (rfl) dX9_init_60
set_option maxRecDepth 100000 in
set_option maxHeartbeats 4000000 in
theorem c_X9_init_6 (l : Launch) (D : va_G) (cy : Nat → ClassId) (tx : (Nat → Nat) × (Nat → Nat)) (base : Nat) (K N : Nat → Nat) (M : Nat → Nat → Int32) (R : Nat → Nat → Option Nat) (J : Nat → Nat → Int64) (hF : ∀ a, 16 ≤ a → ∀ k, M a k = 0 ∧ R a k = none ∧ J a k = 0) (hK16 : K 16 = 14) (hN16 : N 16 = 120) (hK15 : K 15 = 10) (hK17 : K 17 = 20) (hN17 : N 17 = 10) (hK18 : K 18 = 14) (hN18 : N 18 = 10) (hK19 : K 19 = 14) (hN19 : N 19 = 10) (hK20 : K 20 = 14) (hN20 : N 20 = 10) (hK21 : K 21 = 21) (hN21 : N 21 = 8) (hK22 : K 22 = 14) (hN22 : N 22 = 48) : Met l yX9_init [Cond.code yX9_init cX9_init 1 none] (md_rm 1 7 216) (va_Pc [.ref (base + 15)] (md_U D cy tx base 16 K N M R J)) (mQv D cy tx base (fun u => u = (23, K, N, M, (u2 (u2 (u2 (u2 (u2 (u2 (u2 R 15 9 (some 16)) 15 10 (some 17)) 15 11 (some 18)) 15 12 (some 19)) 15 13 (some 20)) 15 14 (some 21)) 15 15 (some 22)), J))) 7 216 (fun q => base ≤ q) := by
  refine Met.ofW (cc := cX9_init) (maxL := 1) (ret := none) (by decide) rfl ?_
  intro p e s m args below meth c s₁ B hml hv
  have hW : ∀ w ∈ lw_tbl, goodWord w = true → w.before args s = true := fun w h g => hv.2.2.2.1.2.1 w h g _
  obtain ⟨rfl, hU⟩ := hv
  have hx := B.exec
  have hb := B.bytes
  have hr := B.returns
  have hlocks := B.notSynchronized
  have hown : s.vm.findClass RX9 = some m.cls := findClass_of_methodNamed B.named
  have hK := hU.2.2.1
  have hT := hU.2.2.2
  have hG := md_G.start hU
  have hin : meth.name = "<init>" := (name_of_methodNamed B.named B.method).1
  have hl := lv_entry ([.ref (base + 15)]) (n := 1) (Nat.le_of_ble_eq_true rfl)
  rw [lg_entry_eq]
  generalize (lg_sl ([.ref (base + 15)]) ++ List.replicate (1 - (lg_sl ([.ref (base + 15)])).length) Slot.unset).toArray = ls at hl ⊢
  have hl : lv_has ls 1 [(0, .ref (base + 15))] := hl
  refine lv_aload_n hx hb dX9_init_0 rfl (lv_at hl 0 rfl) ?_
  refine W.objInit hx hb hown (hW _ w_1_35 rfl) (hW _ w_1_27 rfl) (hW _ w_1_28 rfl) rfl (by rw [hml]; exact hl.1) rfl dX9_init_1 (Nat.le_of_ble_eq_true rfl) (Nat.le_of_ble_eq_true rfl) ?_
  refine W.eq (g2 := F0 m 4 ls []) rfl ?_
  refine lv_aload_n hx hb dX9_init_4 rfl (lv_at hl 0 rfl) ?_
  refine lv_bipush (v := 120) hx hb dX9_init_5 (by decide) ?_
  refine md_newa hx hb hW hK hG (t := 14) (Or.inr (Or.inl ⟨rfl, Or.inl rfl⟩)) w_1_144 (na := 120) (by decide) (by decide) (by decide) (Or.inl ⟨hK16, hN16⟩) (fun k => (hF 16 (by decide) k).1) (fun k => (hF 16 (by decide) k).2.2) (Nat.le_of_ble_eq_true rfl) (Nat.le_of_ble_eq_true rfl) dX9_init_7 (fun H hG => ?_)
  have hG : md_G D cy base 17 K N M R J s H _ := hG
  refine md_putF hx hb hW hown hK hG f_X9_9_9 hin rfl (by decide) hK15 rfl rfl dX9_init_9 (fun H locs hG => ?_)
  refine lv_aload_n hx hb dX9_init_12 rfl (lv_at hl 0 rfl) ?_
  refine lv_bipush (v := 10) hx hb dX9_init_13 (by decide) ?_
  refine md_newa hx hb hW hK hG (t := 20) (Or.inr (Or.inl ⟨rfl, Or.inr (by decide)⟩)) w_1_144 (na := 10) (by decide) (by decide) (by decide) (Or.inl ⟨hK17, hN17⟩) (fun k => (hF 17 (by decide) k).1) (fun k => (hF 17 (by decide) k).2.2) (Nat.le_of_ble_eq_true rfl) (Nat.le_of_ble_eq_true rfl) dX9_init_15 (fun H hG => ?_)
  have hG : md_G D cy base 18 K N M (u2 R 15 9 (some 16)) J s H _ := hG
  refine md_putF hx hb hW hown hK hG f_X9_15_9 hin rfl (by decide) hK15 rfl rfl dX9_init_17 (fun H locs hG => ?_)
  refine lv_aload_n hx hb dX9_init_20 rfl (lv_at hl 0 rfl) ?_
  refine lv_bipush (v := 10) hx hb dX9_init_21 (by decide) ?_
  refine md_newa hx hb hW hK hG (t := 14) (Or.inr (Or.inl ⟨rfl, Or.inl rfl⟩)) w_1_144 (na := 10) (by decide) (by decide) (by decide) (Or.inl ⟨hK18, hN18⟩) (fun k => (hF 18 (by decide) k).1) (fun k => (hF 18 (by decide) k).2.2) (Nat.le_of_ble_eq_true rfl) (Nat.le_of_ble_eq_true rfl) dX9_init_23 (fun H hG => ?_)
  have hG : md_G D cy base 19 K N M (u2 (u2 R 15 9 (some 16)) 15 10 (some 17)) J s H _ := hG
  refine md_putF hx hb hW hown hK hG f_X9_18_9 hin rfl (by decide) hK15 rfl rfl dX9_init_25 (fun H locs hG => ?_)
  refine lv_aload_n hx hb dX9_init_28 rfl (lv_at hl 0 rfl) ?_
  refine lv_bipush (v := 10) hx hb dX9_init_29 (by decide) ?_
  refine md_newa hx hb hW hK hG (t := 14) (Or.inr (Or.inl ⟨rfl, Or.inl rfl⟩)) w_1_144 (na := 10) (by decide) (by decide) (by decide) (Or.inl ⟨hK19, hN19⟩) (fun k => (hF 19 (by decide) k).1) (fun k => (hF 19 (by decide) k).2.2) (Nat.le_of_ble_eq_true rfl) (Nat.le_of_ble_eq_true rfl) dX9_init_31 (fun H hG => ?_)
  have hG : md_G D cy base 20 K N M (u2 (u2 (u2 R 15 9 (some 16)) 15 10 (some 17)) 15 11 (some 18)) J s H _ := hG
  refine md_putF hx hb hW hown hK hG f_X9_21_9 hin rfl (by decide) hK15 rfl rfl dX9_init_33 (fun H locs hG => ?_)
  refine lv_aload_n hx hb dX9_init_36 rfl (lv_at hl 0 rfl) ?_
  refine lv_bipush (v := 10) hx hb dX9_init_37 (by decide) ?_
  refine md_newa hx hb hW hK hG (t := 14) (Or.inr (Or.inl ⟨rfl, Or.inl rfl⟩)) w_1_144 (na := 10) (by decide) (by decide) (by decide) (Or.inl ⟨hK20, hN20⟩) (fun k => (hF 20 (by decide) k).1) (fun k => (hF 20 (by decide) k).2.2) (Nat.le_of_ble_eq_true rfl) (Nat.le_of_ble_eq_true rfl) dX9_init_39 (fun H hG => ?_)
  have hG : md_G D cy base 21 K N M (u2 (u2 (u2 (u2 R 15 9 (some 16)) 15 10 (some 17)) 15 11 (some 18)) 15 12 (some 19)) J s H _ := hG
  refine md_putF hx hb hW hown hK hG f_X9_24_9 hin rfl (by decide) hK15 rfl rfl dX9_init_41 (fun H locs hG => ?_)
  refine lv_aload_n hx hb dX9_init_44 rfl (lv_at hl 0 rfl) ?_
  refine lv_bipush (v := 8) hx hb dX9_init_45 (by decide) ?_
  refine md_newa hx hb hW hK hG (t := 21) (Or.inr (Or.inl ⟨rfl, Or.inr (by decide)⟩)) w_1_144 (na := 8) (by decide) (by decide) (by decide) (Or.inl ⟨hK21, hN21⟩) (fun k => (hF 21 (by decide) k).1) (fun k => (hF 21 (by decide) k).2.2) (Nat.le_of_ble_eq_true rfl) (Nat.le_of_ble_eq_true rfl) dX9_init_47 (fun H hG => ?_)
  have hG : md_G D cy base 22 K N M (u2 (u2 (u2 (u2 (u2 R 15 9 (some 16)) 15 10 (some 17)) 15 11 (some 18)) 15 12 (some 19)) 15 13 (some 20)) J s H _ := hG
  refine md_putF hx hb hW hown hK hG f_X9_27_9 hin rfl (by decide) hK15 rfl rfl dX9_init_49 (fun H locs hG => ?_)
  refine lv_aload_n hx hb dX9_init_52 rfl (lv_at hl 0 rfl) ?_
  refine lv_bipush (v := 48) hx hb dX9_init_53 (by decide) ?_
  refine md_newa hx hb hW hK hG (t := 14) (Or.inr (Or.inl ⟨rfl, Or.inl rfl⟩)) w_1_144 (na := 48) (by decide) (by decide) (by decide) (Or.inl ⟨hK22, hN22⟩) (fun k => (hF 22 (by decide) k).1) (fun k => (hF 22 (by decide) k).2.2) (Nat.le_of_ble_eq_true rfl) (Nat.le_of_ble_eq_true rfl) dX9_init_55 (fun H hG => ?_)
  have hG : md_G D cy base 23 K N M (u2 (u2 (u2 (u2 (u2 (u2 R 15 9 (some 16)) 15 10 (some 17)) 15 11 (some 18)) 15 12 (some 19)) 15 13 (some 20)) 15 14 (some 21)) J s H _ := hG
  refine md_putF hx hb hW hown hK hG f_X9_30_9 hin rfl (by decide) hK15 rfl rfl dX9_init_57 (fun H locs hG => ?_)
  exact md_endv hx hb hr hlocks hK hT hG (rfl) dX9_init_60
set_option maxRecDepth 100000 in
set_option maxHeartbeats 4000000 in
theorem c_X2_init_2 (l : Launch) (D : va_G) (cy : Nat → ClassId) (tx : (Nat → Nat) × (Nat → Nat)) (base : Nat) (K N : Nat → Nat) (M : Nat → Nat → Int32) (R : Nat → Nat → Option Nat) (J : Nat → Nat → Int64) (hF : ∀ a, 15 ≤ a → ∀ k, M a k = 0 ∧ R a k = none ∧ J a k = 0) (hK15 : K 15 = 10) (hK16 : K 16 = 14) (hN16 : N 16 = 120) (hK17 : K 17 = 20) (hN17 : N 17 = 10) (hK18 : K 18 = 14) (hN18 : N 18 = 10) (hK19 : K 19 = 14) (hN19 : N 19 = 10) (hK20 : K 20 = 14) (hN20 : N 20 = 10) (hK21 : K 21 = 21) (hN21 : N 21 = 8) (hK22 : K 22 = 14) (hN22 : N 22 = 48) (hK14 : K 14 = 3) : Met l yX2_init [Cond.code yX2_init cX2_init 1 none] (md_rm 2 8 232) (va_Pc [.ref (base + 14)] (md_U D cy tx base 15 K N M R J)) (mQv D cy tx base (fun u => u = (23, K, N, M, (u2 (u2 (u2 (u2 (u2 (u2 (u2 (u2 R 15 9 (some 16)) 15 10 (some 17)) 15 11 (some 18)) 15 12 (some 19)) 15 13 (some 20)) 15 14 (some 21)) 15 15 (some 22)) 14 5 (some 15)), J))) 8 232 (fun q => base ≤ q) := by
  refine Met.ofW (cc := cX2_init) (maxL := 1) (ret := none) (by decide) rfl ?_
  intro p e s m args below meth c s₁ B hml hv
  have hW : ∀ w ∈ lw_tbl, goodWord w = true → w.before args s = true := fun w h g => hv.2.2.2.1.2.1 w h g _
  obtain ⟨rfl, hU⟩ := hv
  have hx := B.exec
  have hb := B.bytes
  have hr := B.returns
  have hlocks := B.notSynchronized
  have hown : s.vm.findClass RX2 = some m.cls := findClass_of_methodNamed B.named
  have hK := hU.2.2.1
  have hT := hU.2.2.2
  have hG := md_G.start hU
  have hin : meth.name = "<init>" := (name_of_methodNamed B.named B.method).1
  have hl := lv_entry ([.ref (base + 14)]) (n := 1) (Nat.le_of_ble_eq_true rfl)
  rw [lg_entry_eq]
  generalize (lg_sl ([.ref (base + 14)]) ++ List.replicate (1 - (lg_sl ([.ref (base + 14)])).length) Slot.unset).toArray = ls at hl ⊢
  have hl : lv_has ls 1 [(0, .ref (base + 14))] := hl
  refine lv_aload_n hx hb dX2_init_0 rfl (lv_at hl 0 rfl) ?_
  refine md_gov hG (md_runN (As := []) (rest := []) hx hb hml hown hW hK hT hG (c_X10_init l D cy tx base  15  K N M R J (by decide)  ) s_X2_3 hK.2.2.1.2.2.2.2.1 ⟨rfl, rfl, ⟨Nat.le_of_ble_eq_true rfl, Nat.le_of_ble_eq_true rfl⟩, ⟨Nat.le_of_ble_eq_true rfl, Nat.le_of_ble_eq_true rfl⟩⟩ rfl hl.1 rfl (Nat.le_of_ble_eq_true rfl) dX2_init_1) (fun u H locs hp hG => ?_)
  subst hp
  have hG : md_G D cy base 15 K N M R J s H locs := hG
  refine lv_aload_n hx hb dX2_init_4 rfl (lv_at hl 0 rfl) ?_
  refine md_new hx hb hW hown hK hG k_X2_9 (Or.inl hK15) (fun k => (hF 15 (by decide) k).1) (fun k => (hF 15 (by decide) k).2.1) (Nat.le_of_ble_eq_true rfl) (Nat.le_of_ble_eq_true rfl) dX2_init_5 (fun H hG => ?_)
  have hG : md_G D cy base 16 K N M R J s H _ := hG
  refine lv_dup hx hb dX2_init_8 rfl ?_
  refine md_gov hG (md_runN (As := []) (rest := [.ref (base + 15), .ref (base + 14)]) hx hb hml hown hW hK hT hG (c_X9_init_6 l D cy tx base  K N M R J (md_fr3 (n := 16) (fun a h k => (hF a (Nat.le_trans (by decide) h) k).1) (fun a h k => (hF a (Nat.le_trans (by decide) h) k).2.1) (fun a h k => (hF a (Nat.le_trans (by decide) h) k).2.2)) hK16 hN16 hK15 hK17 hN17 hK18 hN18 hK19 hN19 hK20 hN20 hK21 hN21 hK22 hN22 ) s_X2_11 hK.2.2.1.2.2.2.1 ⟨rfl, rfl, ⟨Nat.le_of_ble_eq_true rfl, Nat.le_of_ble_eq_true rfl⟩, ⟨Nat.le_of_ble_eq_true rfl, Nat.le_of_ble_eq_true rfl⟩⟩ rfl hl.1 rfl (Nat.le_of_ble_eq_true rfl) dX2_init_9) (fun u H locs hp hG => ?_)
  subst hp
  have hG : md_G D cy base 23 K N M (u2 (u2 (u2 (u2 (u2 (u2 (u2 R 15 9 (some 16)) 15 10 (some 17)) 15 11 (some 18)) 15 12 (some 19)) 15 13 (some 20)) 15 14 (some 21)) 15 15 (some 22)) J s H locs := hG
  refine md_putF hx hb hW hown hK hG f_X2_12_2 hin rfl (by decide) hK14 rfl rfl dX2_init_12 (fun H locs hG => ?_)
  exact md_endv hx hb hr hlocks hK hT hG (rfl) dX2_init_15
set_option maxRecDepth 100000 in
set_option maxHeartbeats 4000000 in
theorem c_X8_init_2 (l : Launch) (D : va_G) (cy : Nat → ClassId) (tx : (Nat → Nat) × (Nat → Nat)) (base : Nat) (K N : Nat → Nat) (M : Nat → Nat → Int32) (R : Nat → Nat → Option Nat) (J : Nat → Nat → Int64) (hF : ∀ a, 24 ≤ a → ∀ k, M a k = 0 ∧ R a k = none ∧ J a k = 0) (hK24 : K 24 = 14) (hN24 : N 24 = 400) (hK23 : K 23 = 9) : Met l yX8_init [Cond.code yX8_init cX8_init 1 none] (md_rm 2 1 400) (va_Pc [.ref (base + 23)] (md_U D cy tx base 24 K N M R J)) (mQv D cy tx base (fun u => u = (25, K, N, M, (u2 R 23 5 (some 24)), J))) 1 400 (fun q => base ≤ q) := by
  refine Met.ofW (cc := cX8_init) (maxL := 1) (ret := none) (by decide) rfl ?_
  intro p e s m args below meth c s₁ B hml hv
  have hW : ∀ w ∈ lw_tbl, goodWord w = true → w.before args s = true := fun w h g => hv.2.2.2.1.2.1 w h g _
  obtain ⟨rfl, hU⟩ := hv
  have hx := B.exec
  have hb := B.bytes
  have hr := B.returns
  have hlocks := B.notSynchronized
  have hown : s.vm.findClass RX8 = some m.cls := findClass_of_methodNamed B.named
  have hK := hU.2.2.1
  have hT := hU.2.2.2
  have hG := md_G.start hU
  have hin : meth.name = "<init>" := (name_of_methodNamed B.named B.method).1
  have hl := lv_entry ([.ref (base + 23)]) (n := 1) (Nat.le_of_ble_eq_true rfl)
  rw [lg_entry_eq]
  generalize (lg_sl ([.ref (base + 23)]) ++ List.replicate (1 - (lg_sl ([.ref (base + 23)])).length) Slot.unset).toArray = ls at hl ⊢
  have hl : lv_has ls 1 [(0, .ref (base + 23))] := hl
  refine lv_aload_n hx hb dX8_init_0 rfl (lv_at hl 0 rfl) ?_
  refine md_gov hG (md_runN (As := []) (rest := []) hx hb hml hown hW hK hT hG (c_X10_init_2 l D cy tx base  24  K N M R J (by decide)  ) s_X8_3 hK.2.2.1.2.2.2.2.2.1 ⟨rfl, rfl, ⟨Nat.le_of_ble_eq_true rfl, Nat.le_of_ble_eq_true rfl⟩, ⟨Nat.le_of_ble_eq_true rfl, Nat.le_of_ble_eq_true rfl⟩⟩ rfl hl.1 rfl (Nat.le_of_ble_eq_true rfl) dX8_init_1) (fun u H locs hp hG => ?_)
  subst hp
  have hG : md_G D cy base 24 K N M R J s H locs := hG
  refine lv_aload_n hx hb dX8_init_4 rfl (lv_at hl 0 rfl) ?_
  refine lv_sipush (v := 400) hx hb dX8_init_5 (by decide) ?_
  refine md_newa hx hb hW hK hG (t := 14) (Or.inr (Or.inl ⟨rfl, Or.inl rfl⟩)) w_1_144 (na := 400) (by decide) (by decide) (by decide) (Or.inl ⟨hK24, hN24⟩) (fun k => (hF 24 (by decide) k).1) (fun k => (hF 24 (by decide) k).2.2) (Nat.le_of_ble_eq_true rfl) (Nat.le_of_ble_eq_true rfl) dX8_init_8 (fun H hG => ?_)
  have hG : md_G D cy base 25 K N M R J s H _ := hG
  refine md_putF hx hb hW hown hK hG f_X8_9_8 hin rfl (by decide) hK23 rfl rfl dX8_init_10 (fun H locs hG => ?_)
  exact md_endv hx hb hr hlocks hK hT hG (rfl) dX8_init_13
set_option maxRecDepth 100000 in
set_option maxHeartbeats 4000000 in
theorem c_X3_init_2 (l : Launch) (D : va_G) (cy : Nat → ClassId) (tx : (Nat → Nat) × (Nat → Nat)) (base : Nat) (K N : Nat → Nat) (M : Nat → Nat → Int32) (R : Nat → Nat → Option Nat) (J : Nat → Nat → Int64) (hF : ∀ a, 26 ≤ a → ∀ k, M a k = 0 ∧ R a k = none ∧ J a k = 0) (hK26 : K 26 = 20) (hN26 : N 26 = 10) (hK25 : K 25 = 4) (hK27 : K 27 = 14) (hN27 : N 27 = 3010) (hK28 : K 28 = 14) (hN28 : N 28 = 10) : Met l yX3_init [Cond.code yX3_init cX3_init 3 none] (md_rm 1 3 3030) (va_Pc [.ref (base + 25), .ref (base + 4), .ref (base + 13)] (md_U D cy tx base 26 K N M R J)) (mQv D cy tx base (fun u => u = (29, K, N, M, (u2 (u2 (u2 (u2 (u2 R 25 2 (some 26)) 25 3 (some 27)) 25 4 (some 28)) 25 0 (some 4)) 25 1 (some 13)), J))) 3 3030 (fun q => base ≤ q) := by
  refine Met.ofW (cc := cX3_init) (maxL := 3) (ret := none) (by decide) rfl ?_
  intro p e s m args below meth c s₁ B hml hv
  have hW : ∀ w ∈ lw_tbl, goodWord w = true → w.before args s = true := fun w h g => hv.2.2.2.1.2.1 w h g _
  obtain ⟨rfl, hU⟩ := hv
  have hx := B.exec
  have hb := B.bytes
  have hr := B.returns
  have hlocks := B.notSynchronized
  have hown : s.vm.findClass RX3 = some m.cls := findClass_of_methodNamed B.named
  have hK := hU.2.2.1
  have hT := hU.2.2.2
  have hG := md_G.start hU
  have hin : meth.name = "<init>" := (name_of_methodNamed B.named B.method).1
  have hl := lv_entry ([.ref (base + 25), .ref (base + 4), .ref (base + 13)]) (n := 3) (Nat.le_of_ble_eq_true rfl)
  rw [lg_entry_eq]
  generalize (lg_sl ([.ref (base + 25), .ref (base + 4), .ref (base + 13)]) ++ List.replicate (3 - (lg_sl ([.ref (base + 25), .ref (base + 4), .ref (base + 13)])).length) Slot.unset).toArray = ls at hl ⊢
  have hl : lv_has ls 3 [(0, .ref (base + 25)), (1, .ref (base + 4)), (2, .ref (base + 13))] := hl
  refine lv_aload_n hx hb dX3_init_0 rfl (lv_at hl 0 rfl) ?_
  refine W.objInit hx hb hown (hW _ w_2_40 rfl) (hW _ w_1_27 rfl) (hW _ w_1_28 rfl) rfl (by rw [hml]; exact hl.1) rfl dX3_init_1 (Nat.le_of_ble_eq_true rfl) (Nat.le_of_ble_eq_true rfl) ?_
  refine W.eq (g2 := F0 m 4 ls []) rfl ?_
  refine lv_aload_n hx hb dX3_init_4 rfl (lv_at hl 0 rfl) ?_
  refine lv_bipush (v := 10) hx hb dX3_init_5 (by decide) ?_
  refine md_newa hx hb hW hK hG (t := 20) (Or.inr (Or.inl ⟨rfl, Or.inr (by decide)⟩)) w_1_144 (na := 10) (by decide) (by decide) (by decide) (Or.inl ⟨hK26, hN26⟩) (fun k => (hF 26 (by decide) k).1) (fun k => (hF 26 (by decide) k).2.2) (Nat.le_of_ble_eq_true rfl) (Nat.le_of_ble_eq_true rfl) dX3_init_7 (fun H hG => ?_)
  have hG : md_G D cy base 27 K N M R J s H _ := hG
  refine md_putF hx hb hW hown hK hG f_X3_9_3 hin rfl (by decide) hK25 rfl rfl dX3_init_9 (fun H locs hG => ?_)
  refine lv_aload_n hx hb dX3_init_12 rfl (lv_at hl 0 rfl) ?_
  refine lv_sipush (v := 3010) hx hb dX3_init_13 (by decide) ?_
  refine md_newa hx hb hW hK hG (t := 14) (Or.inr (Or.inl ⟨rfl, Or.inl rfl⟩)) w_1_144 (na := 3010) (by decide) (by decide) (by decide) (Or.inl ⟨hK27, hN27⟩) (fun k => (hF 27 (by decide) k).1) (fun k => (hF 27 (by decide) k).2.2) (Nat.le_of_ble_eq_true rfl) (Nat.le_of_ble_eq_true rfl) dX3_init_16 (fun H hG => ?_)
  have hG : md_G D cy base 28 K N M (u2 R 25 2 (some 26)) J s H _ := hG
  refine md_putF hx hb hW hown hK hG f_X3_15_3 hin rfl (by decide) hK25 rfl rfl dX3_init_18 (fun H locs hG => ?_)
  refine lv_aload_n hx hb dX3_init_21 rfl (lv_at hl 0 rfl) ?_
  refine lv_bipush (v := 10) hx hb dX3_init_22 (by decide) ?_
  refine md_newa hx hb hW hK hG (t := 14) (Or.inr (Or.inl ⟨rfl, Or.inl rfl⟩)) w_1_144 (na := 10) (by decide) (by decide) (by decide) (Or.inl ⟨hK28, hN28⟩) (fun k => (hF 28 (by decide) k).1) (fun k => (hF 28 (by decide) k).2.2) (Nat.le_of_ble_eq_true rfl) (Nat.le_of_ble_eq_true rfl) dX3_init_24 (fun H hG => ?_)
  have hG : md_G D cy base 29 K N M (u2 (u2 R 25 2 (some 26)) 25 3 (some 27)) J s H _ := hG
  refine md_putF hx hb hW hown hK hG f_X3_18_3 hin rfl (by decide) hK25 rfl rfl dX3_init_26 (fun H locs hG => ?_)
  refine lv_aload_n hx hb dX3_init_29 rfl (lv_at hl 0 rfl) ?_
  refine lv_aload_n hx hb dX3_init_30 rfl (lv_at hl 1 rfl) ?_
  refine md_putF hx hb hW hown hK hG f_X3_21_3 hin rfl (by decide) hK25 rfl rfl dX3_init_31 (fun H locs hG => ?_)
  refine lv_aload_n hx hb dX3_init_34 rfl (lv_at hl 0 rfl) ?_
  refine lv_aload_n hx hb dX3_init_35 rfl (lv_at hl 2 rfl) ?_
  refine md_putF hx hb hW hown hK hG f_X3_25_3 hin rfl (by decide) hK25 rfl rfl dX3_init_36 (fun H locs hG => ?_)
  exact md_endv hx hb hr hlocks hK hT hG (rfl) dX3_init_39
set_option maxRecDepth 100000 in
set_option maxHeartbeats 4000000 in
theorem c_X6_init_2 (l : Launch) (D : va_G) (cy : Nat → ClassId) (tx : (Nat → Nat) × (Nat → Nat)) (base : Nat) (K N : Nat → Nat) (M : Nat → Nat → Int32) (R : Nat → Nat → Option Nat) (J : Nat → Nat → Int64) (hF : ∀ a, 30 ≤ a → ∀ k, M a k = 0 ∧ R a k = none ∧ J a k = 0) (hK30 : K 30 = 19) (hN30 : N 30 = 4) (hK31 : K 31 = 20) (hN31 : N 31 = 10) (hK32 : K 32 = 20) (hN32 : N 32 = 10) (hK33 : K 33 = 20) (hN33 : N 33 = 10) (hK34 : K 34 = 20) (hN34 : N 34 = 10) (hK29 : K 29 = 7) (hK35 : K 35 = 14) (hN35 : N 35 = 27) (hK36 : K 36 = 14) (hN36 : N 36 = 27) (hK37 : K 37 = 14) (hN37 : N 37 = 108) (hK38 : K 38 = 22) (hN38 : N 38 = 4) (hK39 : K 39 = 22) (hN39 : N 39 = 4) (hK40 : K 40 = 15) (hN40 : N 40 = 6144) (hK41 : K 41 = 14) (hN41 : N 41 = 2048) : Met l yX6_init [Cond.code yX6_init cX6_init 3 none] (md_rm 1 12 8406) (va_Pc [.ref (base + 29), .ref (base + 4), .ref (base + 13)] (md_U D cy tx base 30 K N M R J)) (mQv D cy tx base (fun u => u = (42, K, N, M, (u2 (u2 (u2 (u2 (u2 (u2 (u2 (u2 (u2 (u2 (ur R 30 (fun j => if j < 4 then some (30 + 1 + j) else none)) 29 2 (some 30)) 29 3 (some 35)) 29 4 (some 36)) 29 5 (some 37)) 29 6 (some 38)) 29 7 (some 39)) 29 8 (some 40)) 29 9 (some 41)) 29 0 (some 4)) 29 1 (some 13)), J))) 12 8406 (fun q => base ≤ q) := by
  refine Met.ofW (cc := cX6_init) (maxL := 3) (ret := none) (by decide) rfl ?_
  intro p e s m args below meth c s₁ B hml hv
  have hW : ∀ w ∈ lw_tbl, goodWord w = true → w.before args s = true := fun w h g => hv.2.2.2.1.2.1 w h g _
  obtain ⟨rfl, hU⟩ := hv
  have hx := B.exec
  have hb := B.bytes
  have hr := B.returns
  have hlocks := B.notSynchronized
  have hown : s.vm.findClass RX6 = some m.cls := findClass_of_methodNamed B.named
  have hK := hU.2.2.1
  have hT := hU.2.2.2
  have hG := md_G.start hU
  have hin : meth.name = "<init>" := (name_of_methodNamed B.named B.method).1
  have hl := lv_entry ([.ref (base + 29), .ref (base + 4), .ref (base + 13)]) (n := 3) (Nat.le_of_ble_eq_true rfl)
  rw [lg_entry_eq]
  generalize (lg_sl ([.ref (base + 29), .ref (base + 4), .ref (base + 13)]) ++ List.replicate (3 - (lg_sl ([.ref (base + 29), .ref (base + 4), .ref (base + 13)])).length) Slot.unset).toArray = ls at hl ⊢
  have hl : lv_has ls 3 [(0, .ref (base + 29)), (1, .ref (base + 4)), (2, .ref (base + 13))] := hl
  refine lv_aload_n hx hb dX6_init_0 rfl (lv_at hl 0 rfl) ?_
  refine W.objInit hx hb hown (hW _ w_2_83 rfl) (hW _ w_1_27 rfl) (hW _ w_1_28 rfl) rfl (by rw [hml]; exact hl.1) rfl dX6_init_1 (Nat.le_of_ble_eq_true rfl) (Nat.le_of_ble_eq_true rfl) ?_
  refine W.eq (g2 := F0 m 4 ls []) rfl ?_
  refine lv_aload_n hx hb dX6_init_4 rfl (lv_at hl 0 rfl) ?_
  refine lv_iconst (v := 4) hx hb dX6_init_5 (by decide) ?_
  refine lv_bipush (v := 10) hx hb dX6_init_6 (by decide) ?_
  refine md_mna hx hb hW hown hK hG (t := 20) (Or.inr (by decide)) w_2_84 w_1_144 (n' := 4) (k' := 10) (by decide) (by decide) (by decide) (by decide) (by decide) (by decide) ⟨hK30, hN30⟩ (fun i hi => match i, hi with | 0, _ => ⟨hK31, hN31⟩ | 1, _ => ⟨hK32, hN32⟩ | 2, _ => ⟨hK33, hN33⟩ | 3, _ => ⟨hK34, hN34⟩ | i + 4, h => absurd h (by omega)) (fun a h j => (hF a (Nat.le_trans (by decide) h) j).1) (Nat.le_of_ble_eq_true rfl) (Nat.le_of_ble_eq_true rfl) dX6_init_8 (fun H hG => ?_) (by rw [hU.2.1]; exact Nat.le_add_right _ _) (by rw [hU.2.1]; omega)
  have hG : md_G D cy base 35 K N M (ur R 30 (fun j => if j < 4 then some (30 + 1 + j) else none)) J s H _ := hG
  refine md_putF hx hb hW hown hK hG f_X6_13_6 hin rfl (by decide) hK29 rfl rfl dX6_init_12 (fun H locs hG => ?_)
  refine lv_aload_n hx hb dX6_init_15 rfl (lv_at hl 0 rfl) ?_
  refine lv_bipush (v := 27) hx hb dX6_init_16 (by decide) ?_
  refine md_newa hx hb hW hK hG (t := 14) (Or.inr (Or.inl ⟨rfl, Or.inl rfl⟩)) w_1_144 (na := 27) (by decide) (by decide) (by decide) (Or.inl ⟨hK35, hN35⟩) (fun k => (hF 35 (by decide) k).1) (fun k => (hF 35 (by decide) k).2.2) (Nat.le_of_ble_eq_true rfl) (Nat.le_of_ble_eq_true rfl) dX6_init_18 (fun H hG => ?_)
  have hG : md_G D cy base 36 K N M (u2 (ur R 30 (fun j => if j < 4 then some (30 + 1 + j) else none)) 29 2 (some 30)) J s H _ := hG
  refine md_putF hx hb hW hown hK hG f_X6_16_6 hin rfl (by decide) hK29 rfl rfl dX6_init_20 (fun H locs hG => ?_)
  refine lv_aload_n hx hb dX6_init_23 rfl (lv_at hl 0 rfl) ?_
  refine lv_bipush (v := 27) hx hb dX6_init_24 (by decide) ?_
  refine md_newa hx hb hW hK hG (t := 14) (Or.inr (Or.inl ⟨rfl, Or.inl rfl⟩)) w_1_144 (na := 27) (by decide) (by decide) (by decide) (Or.inl ⟨hK36, hN36⟩) (fun k => (hF 36 (by decide) k).1) (fun k => (hF 36 (by decide) k).2.2) (Nat.le_of_ble_eq_true rfl) (Nat.le_of_ble_eq_true rfl) dX6_init_26 (fun H hG => ?_)
  have hG : md_G D cy base 37 K N M (u2 (u2 (ur R 30 (fun j => if j < 4 then some (30 + 1 + j) else none)) 29 2 (some 30)) 29 3 (some 35)) J s H _ := hG
  refine md_putF hx hb hW hown hK hG f_X6_20_6 hin rfl (by decide) hK29 rfl rfl dX6_init_28 (fun H locs hG => ?_)
  refine lv_aload_n hx hb dX6_init_31 rfl (lv_at hl 0 rfl) ?_
  refine lv_bipush (v := 108) hx hb dX6_init_32 (by decide) ?_
  refine md_newa hx hb hW hK hG (t := 14) (Or.inr (Or.inl ⟨rfl, Or.inl rfl⟩)) w_1_144 (na := 108) (by decide) (by decide) (by decide) (Or.inl ⟨hK37, hN37⟩) (fun k => (hF 37 (by decide) k).1) (fun k => (hF 37 (by decide) k).2.2) (Nat.le_of_ble_eq_true rfl) (Nat.le_of_ble_eq_true rfl) dX6_init_34 (fun H hG => ?_)
  have hG : md_G D cy base 38 K N M (u2 (u2 (u2 (ur R 30 (fun j => if j < 4 then some (30 + 1 + j) else none)) 29 2 (some 30)) 29 3 (some 35)) 29 4 (some 36)) J s H _ := hG
  refine md_putF hx hb hW hown hK hG f_X6_23_6 hin rfl (by decide) hK29 rfl rfl dX6_init_36 (fun H locs hG => ?_)
  refine lv_aload_n hx hb dX6_init_39 rfl (lv_at hl 0 rfl) ?_
  refine lv_iconst (v := 4) hx hb dX6_init_40 (by decide) ?_
  refine md_newa hx hb hW hK hG (t := 22) (Or.inr (Or.inl ⟨rfl, Or.inr (by decide)⟩)) w_1_144 (na := 4) (by decide) (by decide) (by decide) (Or.inl ⟨hK38, hN38⟩) (fun k => (hF 38 (by decide) k).1) (fun k => (hF 38 (by decide) k).2.2) (Nat.le_of_ble_eq_true rfl) (Nat.le_of_ble_eq_true rfl) dX6_init_41 (fun H hG => ?_)
  have hG : md_G D cy base 39 K N M (u2 (u2 (u2 (u2 (ur R 30 (fun j => if j < 4 then some (30 + 1 + j) else none)) 29 2 (some 30)) 29 3 (some 35)) 29 4 (some 36)) 29 5 (some 37)) J s H _ := hG
  refine md_putF hx hb hW hown hK hG f_X6_26_6 hin rfl (by decide) hK29 rfl rfl dX6_init_43 (fun H locs hG => ?_)
  refine lv_aload_n hx hb dX6_init_46 rfl (lv_at hl 0 rfl) ?_
  refine lv_iconst (v := 4) hx hb dX6_init_47 (by decide) ?_
  refine md_newa hx hb hW hK hG (t := 22) (Or.inr (Or.inl ⟨rfl, Or.inr (by decide)⟩)) w_1_144 (na := 4) (by decide) (by decide) (by decide) (Or.inl ⟨hK39, hN39⟩) (fun k => (hF 39 (by decide) k).1) (fun k => (hF 39 (by decide) k).2.2) (Nat.le_of_ble_eq_true rfl) (Nat.le_of_ble_eq_true rfl) dX6_init_48 (fun H hG => ?_)
  have hG : md_G D cy base 40 K N M (u2 (u2 (u2 (u2 (u2 (ur R 30 (fun j => if j < 4 then some (30 + 1 + j) else none)) 29 2 (some 30)) 29 3 (some 35)) 29 4 (some 36)) 29 5 (some 37)) 29 6 (some 38)) J s H _ := hG
  refine md_putF hx hb hW hown hK hG f_X6_29_6 hin rfl (by decide) hK29 rfl rfl dX6_init_50 (fun H locs hG => ?_)
  refine lv_aload_n hx hb dX6_init_53 rfl (lv_at hl 0 rfl) ?_
  refine lv_sipush (v := 6144) hx hb dX6_init_54 (by decide) ?_
  refine md_newa hx hb hW hK hG (t := 15) (Or.inr (Or.inr (Or.inl ⟨rfl, rfl⟩))) w_2_133 (na := 6144) (by decide) (by decide) (by decide) (Or.inl ⟨hK40, hN40⟩) (fun k => (hF 40 (by decide) k).1) (fun k => (hF 40 (by decide) k).2.2) (Nat.le_of_ble_eq_true rfl) (Nat.le_of_ble_eq_true rfl) dX6_init_57 (fun H hG => ?_)
  have hG : md_G D cy base 41 K N M (u2 (u2 (u2 (u2 (u2 (u2 (ur R 30 (fun j => if j < 4 then some (30 + 1 + j) else none)) 29 2 (some 30)) 29 3 (some 35)) 29 4 (some 36)) 29 5 (some 37)) 29 6 (some 38)) 29 7 (some 39)) J s H _ := hG
  refine md_putF hx hb hW hown hK hG f_X6_32_6 hin rfl (by decide) hK29 rfl rfl dX6_init_59 (fun H locs hG => ?_)
  refine lv_aload_n hx hb dX6_init_62 rfl (lv_at hl 0 rfl) ?_
  refine lv_sipush (v := 2048) hx hb dX6_init_63 (by decide) ?_
  refine md_newa hx hb hW hK hG (t := 14) (Or.inr (Or.inl ⟨rfl, Or.inl rfl⟩)) w_1_144 (na := 2048) (by decide) (by decide) (by decide) (Or.inl ⟨hK41, hN41⟩) (fun k => (hF 41 (by decide) k).1) (fun k => (hF 41 (by decide) k).2.2) (Nat.le_of_ble_eq_true rfl) (Nat.le_of_ble_eq_true rfl) dX6_init_66 (fun H hG => ?_)
  have hG : md_G D cy base 42 K N M (u2 (u2 (u2 (u2 (u2 (u2 (u2 (ur R 30 (fun j => if j < 4 then some (30 + 1 + j) else none)) 29 2 (some 30)) 29 3 (some 35)) 29 4 (some 36)) 29 5 (some 37)) 29 6 (some 38)) 29 7 (some 39)) 29 8 (some 40)) J s H _ := hG
  refine md_putF hx hb hW hown hK hG f_X6_36_6 hin rfl (by decide) hK29 rfl rfl dX6_init_68 (fun H locs hG => ?_)
  refine lv_aload_n hx hb dX6_init_71 rfl (lv_at hl 0 rfl) ?_
  refine lv_aload_n hx hb dX6_init_72 rfl (lv_at hl 1 rfl) ?_
  refine md_putF hx hb hW hown hK hG f_X6_39_6 hin rfl (by decide) hK29 rfl rfl dX6_init_73 (fun H locs hG => ?_)
  refine lv_aload_n hx hb dX6_init_76 rfl (lv_at hl 0 rfl) ?_
  refine lv_aload_n hx hb dX6_init_77 rfl (lv_at hl 2 rfl) ?_
  refine md_putF hx hb hW hown hK hG f_X6_43_6 hin rfl (by decide) hK29 rfl rfl dX6_init_78 (fun H locs hG => ?_)
  exact md_endv hx hb hr hlocks hK hT hG (rfl) dX6_init_81
set_option maxRecDepth 100000 in
set_option maxHeartbeats 4000000 in
theorem c_X4_init_2 (l : Launch) (D : va_G) (cy : Nat → ClassId) (tx : (Nat → Nat) × (Nat → Nat)) (base : Nat) (K N : Nat → Nat) (M : Nat → Nat → Int32) (R : Nat → Nat → Option Nat) (J : Nat → Nat → Int64) (hF : ∀ a, 43 ≤ a → ∀ k, M a k = 0 ∧ R a k = none ∧ J a k = 0) (hK43 : K 43 = 19) (hN43 : N 43 = 5) (hK44 : K 44 = 20) (hN44 : N 44 = 10) (hK45 : K 45 = 20) (hN45 : N 45 = 10) (hK46 : K 46 = 20) (hN46 : N 46 = 10) (hK47 : K 47 = 20) (hN47 : N 47 = 10) (hK48 : K 48 = 20) (hN48 : N 48 = 10) (hK42 : K 42 = 5) (hK49 : K 49 = 14) (hN49 : N 49 = 4) : Met l yX4_init [Cond.code yX4_init cX4_init 3 none] (md_rm 1 7 59) (va_Pc [.ref (base + 42), .ref (base + 4), .ref (base + 13)] (md_U D cy tx base 43 K N M R J)) (mQv D cy tx base (fun u => u = (50, K, N, M, (u2 (u2 (u2 (u2 (ur R 43 (fun j => if j < 5 then some (43 + 1 + j) else none)) 42 2 (some 43)) 42 3 (some 49)) 42 0 (some 4)) 42 1 (some 13)), J))) 7 59 (fun q => base ≤ q) := by
  refine Met.ofW (cc := cX4_init) (maxL := 3) (ret := none) (by decide) rfl ?_
  intro p e s m args below meth c s₁ B hml hv
  have hW : ∀ w ∈ lw_tbl, goodWord w = true → w.before args s = true := fun w h g => hv.2.2.2.1.2.1 w h g _
  obtain ⟨rfl, hU⟩ := hv
  have hx := B.exec
  have hb := B.bytes
  have hr := B.returns
  have hlocks := B.notSynchronized
  have hown : s.vm.findClass RX4 = some m.cls := findClass_of_methodNamed B.named
  have hK := hU.2.2.1
  have hT := hU.2.2.2
  have hG := md_G.start hU
  have hin : meth.name = "<init>" := (name_of_methodNamed B.named B.method).1
  have hl := lv_entry ([.ref (base + 42), .ref (base + 4), .ref (base + 13)]) (n := 3) (Nat.le_of_ble_eq_true rfl)
  rw [lg_entry_eq]
  generalize (lg_sl ([.ref (base + 42), .ref (base + 4), .ref (base + 13)]) ++ List.replicate (3 - (lg_sl ([.ref (base + 42), .ref (base + 4), .ref (base + 13)])).length) Slot.unset).toArray = ls at hl ⊢
  have hl : lv_has ls 3 [(0, .ref (base + 42)), (1, .ref (base + 4)), (2, .ref (base + 13))] := hl
  refine lv_aload_n hx hb dX4_init_0 rfl (lv_at hl 0 rfl) ?_
  refine W.objInit hx hb hown (hW _ w_2_139 rfl) (hW _ w_1_27 rfl) (hW _ w_1_28 rfl) rfl (by rw [hml]; exact hl.1) rfl dX4_init_1 (Nat.le_of_ble_eq_true rfl) (Nat.le_of_ble_eq_true rfl) ?_
  refine W.eq (g2 := F0 m 4 ls []) rfl ?_
  refine lv_aload_n hx hb dX4_init_4 rfl (lv_at hl 0 rfl) ?_
  refine lv_iconst (v := 5) hx hb dX4_init_5 (by decide) ?_
  refine lv_bipush (v := 10) hx hb dX4_init_6 (by decide) ?_
  refine md_mna hx hb hW hown hK hG (t := 20) (Or.inr (by decide)) w_2_140 w_1_144 (n' := 5) (k' := 10) (by decide) (by decide) (by decide) (by decide) (by decide) (by decide) ⟨hK43, hN43⟩ (fun i hi => match i, hi with | 0, _ => ⟨hK44, hN44⟩ | 1, _ => ⟨hK45, hN45⟩ | 2, _ => ⟨hK46, hN46⟩ | 3, _ => ⟨hK47, hN47⟩ | 4, _ => ⟨hK48, hN48⟩ | i + 5, h => absurd h (by omega)) (fun a h j => (hF a (Nat.le_trans (by decide) h) j).1) (Nat.le_of_ble_eq_true rfl) (Nat.le_of_ble_eq_true rfl) dX4_init_8 (fun H hG => ?_) (by rw [hU.2.1]; exact Nat.le_add_right _ _) (by rw [hU.2.1]; omega)
  have hG : md_G D cy base 49 K N M (ur R 43 (fun j => if j < 5 then some (43 + 1 + j) else none)) J s H _ := hG
  refine md_putF hx hb hW hown hK hG f_X4_13_4 hin rfl (by decide) hK42 rfl rfl dX4_init_12 (fun H locs hG => ?_)
  refine lv_aload_n hx hb dX4_init_15 rfl (lv_at hl 0 rfl) ?_
  refine lv_iconst (v := 4) hx hb dX4_init_16 (by decide) ?_
  refine md_newa hx hb hW hK hG (t := 14) (Or.inr (Or.inl ⟨rfl, Or.inl rfl⟩)) w_1_144 (na := 4) (by decide) (by decide) (by decide) (Or.inl ⟨hK49, hN49⟩) (fun k => (hF 49 (by decide) k).1) (fun k => (hF 49 (by decide) k).2.2) (Nat.le_of_ble_eq_true rfl) (Nat.le_of_ble_eq_true rfl) dX4_init_17 (fun H hG => ?_)
  have hG : md_G D cy base 50 K N M (u2 (ur R 43 (fun j => if j < 5 then some (43 + 1 + j) else none)) 42 2 (some 43)) J s H _ := hG
  refine md_putF hx hb hW hown hK hG f_X4_16_4 hin rfl (by decide) hK42 rfl rfl dX4_init_19 (fun H locs hG => ?_)
  refine lv_aload_n hx hb dX4_init_22 rfl (lv_at hl 0 rfl) ?_
  refine lv_aload_n hx hb dX4_init_23 rfl (lv_at hl 1 rfl) ?_
  refine md_putF hx hb hW hown hK hG f_X4_20_4 hin rfl (by decide) hK42 rfl rfl dX4_init_24 (fun H locs hG => ?_)
  refine lv_aload_n hx hb dX4_init_27 rfl (lv_at hl 0 rfl) ?_
  refine lv_aload_n hx hb dX4_init_28 rfl (lv_at hl 2 rfl) ?_
  refine md_putF hx hb hW hown hK hG f_X4_24_4 hin rfl (by decide) hK42 rfl rfl dX4_init_29 (fun H locs hG => ?_)
  exact md_endv hx hb hr hlocks hK hT hG (rfl) dX4_init_32
set_option maxRecDepth 100000 in
set_option maxHeartbeats 4000000 in
theorem c_X1_init_2 (l : Launch) (D : va_G) (cy : Nat → ClassId) (tx : (Nat → Nat) × (Nat → Nat)) (base : Nat) (K N : Nat → Nat) (M : Nat → Nat → Int32) (R : Nat → Nat → Option Nat) (J : Nat → Nat → Int64) (hF : ∀ a, 51 ≤ a → ∀ k, M a k = 0 ∧ R a k = none ∧ J a k = 0) (hK51 : K 51 = 19) (hN51 : N 51 = 7) (hK52 : K 52 = 20) (hN52 : N 52 = 10) (hK53 : K 53 = 20) (hN53 : N 53 = 10) (hK54 : K 54 = 20) (hN54 : N 54 = 10) (hK55 : K 55 = 20) (hN55 : N 55 = 10) (hK56 : K 56 = 20) (hN56 : N 56 = 10) (hK57 : K 57 = 20) (hN57 : N 57 = 10) (hK58 : K 58 = 20) (hN58 : N 58 = 10) (hK50 : K 50 = 2) (hK59 : K 59 = 21) (hN59 : N 59 = 6) (hK60 : K 60 = 21) (hN60 : N 60 = 6) : Met l yX1_init [Cond.code yX1_init cX1_init 3 none] (md_rm 1 10 89) (va_Pc [.ref (base + 50), .ref (base + 4), .ref (base + 13)] (md_U D cy tx base 51 K N M R J)) (mQv D cy tx base (fun u => u = (61, K, N, M, (u2 (u2 (u2 (u2 (u2 (ur R 51 (fun j => if j < 7 then some (51 + 1 + j) else none)) 50 2 (some 51)) 50 3 (some 59)) 50 4 (some 60)) 50 0 (some 4)) 50 1 (some 13)), J))) 10 89 (fun q => base ≤ q) := by
  refine Met.ofW (cc := cX1_init) (maxL := 3) (ret := none) (by decide) rfl ?_
  intro p e s m args below meth c s₁ B hml hv
  have hW : ∀ w ∈ lw_tbl, goodWord w = true → w.before args s = true := fun w h g => hv.2.2.2.1.2.1 w h g _
  obtain ⟨rfl, hU⟩ := hv
  have hx := B.exec
  have hb := B.bytes
  have hr := B.returns
  have hlocks := B.notSynchronized
  have hown : s.vm.findClass RX1 = some m.cls := findClass_of_methodNamed B.named
  have hK := hU.2.2.1
  have hT := hU.2.2.2
  have hG := md_G.start hU
  have hin : meth.name = "<init>" := (name_of_methodNamed B.named B.method).1
  have hl := lv_entry ([.ref (base + 50), .ref (base + 4), .ref (base + 13)]) (n := 3) (Nat.le_of_ble_eq_true rfl)
  rw [lg_entry_eq]
  generalize (lg_sl ([.ref (base + 50), .ref (base + 4), .ref (base + 13)]) ++ List.replicate (3 - (lg_sl ([.ref (base + 50), .ref (base + 4), .ref (base + 13)])).length) Slot.unset).toArray = ls at hl ⊢
  have hl : lv_has ls 3 [(0, .ref (base + 50)), (1, .ref (base + 4)), (2, .ref (base + 13))] := hl
  refine lv_aload_n hx hb dX1_init_0 rfl (lv_at hl 0 rfl) ?_
  refine W.objInit hx hb hown (hW _ w_2_172 rfl) (hW _ w_1_27 rfl) (hW _ w_1_28 rfl) rfl (by rw [hml]; exact hl.1) rfl dX1_init_1 (Nat.le_of_ble_eq_true rfl) (Nat.le_of_ble_eq_true rfl) ?_
  refine W.eq (g2 := F0 m 4 ls []) rfl ?_
  refine lv_aload_n hx hb dX1_init_4 rfl (lv_at hl 0 rfl) ?_
  refine lv_bipush (v := 7) hx hb dX1_init_5 (by decide) ?_
  refine lv_bipush (v := 10) hx hb dX1_init_7 (by decide) ?_
  refine md_mna hx hb hW hown hK hG (t := 20) (Or.inr (by decide)) w_2_173 w_1_144 (n' := 7) (k' := 10) (by decide) (by decide) (by decide) (by decide) (by decide) (by decide) ⟨hK51, hN51⟩ (fun i hi => match i, hi with | 0, _ => ⟨hK52, hN52⟩ | 1, _ => ⟨hK53, hN53⟩ | 2, _ => ⟨hK54, hN54⟩ | 3, _ => ⟨hK55, hN55⟩ | 4, _ => ⟨hK56, hN56⟩ | 5, _ => ⟨hK57, hN57⟩ | 6, _ => ⟨hK58, hN58⟩ | i + 7, h => absurd h (by omega)) (fun a h j => (hF a (Nat.le_trans (by decide) h) j).1) (Nat.le_of_ble_eq_true rfl) (Nat.le_of_ble_eq_true rfl) dX1_init_9 (fun H hG => ?_) (by rw [hU.2.1]; exact Nat.le_add_right _ _) (by rw [hU.2.1]; omega)
  have hG : md_G D cy base 59 K N M (ur R 51 (fun j => if j < 7 then some (51 + 1 + j) else none)) J s H _ := hG
  refine md_putF hx hb hW hown hK hG f_X1_13_1 hin rfl (by decide) hK50 rfl rfl dX1_init_13 (fun H locs hG => ?_)
  refine lv_aload_n hx hb dX1_init_16 rfl (lv_at hl 0 rfl) ?_
  refine lv_bipush (v := 6) hx hb dX1_init_17 (by decide) ?_
  refine md_newa hx hb hW hK hG (t := 21) (Or.inr (Or.inl ⟨rfl, Or.inr (by decide)⟩)) w_1_144 (na := 6) (by decide) (by decide) (by decide) (Or.inl ⟨hK59, hN59⟩) (fun k => (hF 59 (by decide) k).1) (fun k => (hF 59 (by decide) k).2.2) (Nat.le_of_ble_eq_true rfl) (Nat.le_of_ble_eq_true rfl) dX1_init_19 (fun H hG => ?_)
  have hG : md_G D cy base 60 K N M (u2 (ur R 51 (fun j => if j < 7 then some (51 + 1 + j) else none)) 50 2 (some 51)) J s H _ := hG
  refine md_putF hx hb hW hown hK hG f_X1_16_1 hin rfl (by decide) hK50 rfl rfl dX1_init_21 (fun H locs hG => ?_)
  refine lv_aload_n hx hb dX1_init_24 rfl (lv_at hl 0 rfl) ?_
  refine lv_bipush (v := 6) hx hb dX1_init_25 (by decide) ?_
  refine md_newa hx hb hW hK hG (t := 21) (Or.inr (Or.inl ⟨rfl, Or.inr (by decide)⟩)) w_1_144 (na := 6) (by decide) (by decide) (by decide) (Or.inl ⟨hK60, hN60⟩) (fun k => (hF 60 (by decide) k).1) (fun k => (hF 60 (by decide) k).2.2) (Nat.le_of_ble_eq_true rfl) (Nat.le_of_ble_eq_true rfl) dX1_init_27 (fun H hG => ?_)
  have hG : md_G D cy base 61 K N M (u2 (u2 (ur R 51 (fun j => if j < 7 then some (51 + 1 + j) else none)) 50 2 (some 51)) 50 3 (some 59)) J s H _ := hG
  refine md_putF hx hb hW hown hK hG f_X1_20_1 hin rfl (by decide) hK50 rfl rfl dX1_init_29 (fun H locs hG => ?_)
  refine lv_aload_n hx hb dX1_init_32 rfl (lv_at hl 0 rfl) ?_
  refine lv_aload_n hx hb dX1_init_33 rfl (lv_at hl 1 rfl) ?_
  refine md_putF hx hb hW hown hK hG f_X1_23_1 hin rfl (by decide) hK50 rfl rfl dX1_init_34 (fun H locs hG => ?_)
  refine lv_aload_n hx hb dX1_init_37 rfl (lv_at hl 0 rfl) ?_
  refine lv_aload_n hx hb dX1_init_38 rfl (lv_at hl 2 rfl) ?_
  refine md_putF hx hb hW hown hK hG f_X1_27_1 hin rfl (by decide) hK50 rfl rfl dX1_init_39 (fun H locs hG => ?_)
  exact md_endv hx hb hr hlocks hK hT hG (rfl) dX1_init_42
