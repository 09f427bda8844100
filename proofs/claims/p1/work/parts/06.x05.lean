set_option maxRecDepth 100000 in
set_option maxHeartbeats 4000000 in
theorem c_X9_init_8 (l : Launch) (D : va_G) (cy : Nat → ClassId) (tx : (Nat → Nat) × (Nat → Nat)) (base : Nat) (K N : Nat → Nat) (M : Nat → Nat → Int32) (R : Nat → Nat → Option Nat) (J : Nat → Nat → Int64) (hF : ∀ a, 105 ≤ a → ∀ k, M a k = 0 ∧ R a k = none ∧ J a k = 0) (hK105 : K 105 = 14) (hN105 : N 105 = 120) (hK104 : K 104 = 10) (hK106 : K 106 = 14) (hN106 : N 106 = 10) (hK107 : K 107 = 14) (hN107 : N 107 = 10) (hK108 : K 108 = 14) (hN108 : N 108 = 10) (hK109 : K 109 = 14) (hN109 : N 109 = 10) (hK110 : K 110 = 14) (hN110 : N 110 = 8) (hK111 : K 111 = 14) (hN111 : N 111 = 48) : Met l yX9_init [Cond.code yX9_init cX9_init 1 none] (md_rm 1 7 216) (va_Pc [.ref (base + 104)] (md_U D cy tx base 105 K N M R J)) (mQv D cy tx base (fun u => u = (112, K, N, M, (u2 (u2 (u2 (u2 (u2 (u2 (u2 R 104 9 (some 105)) 104 10 (some 106)) 104 11 (some 107)) 104 12 (some 108)) 104 13 (some 109)) 104 14 (some 110)) 104 15 (some 111)), J))) 7 216 (fun q => base ≤ q) := by
  refine Met.ofW (cc := cX9_init) (maxL := 1) (ret := none) (by decide) rfl ?_
  intro p e s m args below meth c s₁ B hml hv
  have hW : ∀ w ∈ lw_tbl, goodWord w = true → w.before args s = true := fun w h g => hv.2.2.2.1.2.1 w h g _
  obtain ⟨rfl, hU⟩ := hv
  have hx := B.exec
  have hb := B.bytes
  have hr := B.returns
  have hlocks := B.notSynchronized
  have hown : s.vm.findClass RX9 = some m.cls := findClass_of_methodNamed B.named
  have hK := hU.2.2.1
  have hT := hU.2.2.2
  have hG := md_G.start hU
  have hin : meth.name = "<init>" := (name_of_methodNamed B.named B.method).1
  have hl := lv_entry ([.ref (base + 104)]) (n := 1) (Nat.le_of_ble_eq_true rfl)
  rw [lg_entry_eq]
  generalize (lg_sl ([.ref (base + 104)]) ++ List.replicate (1 - (lg_sl ([.ref (base + 104)])).length) Slot.unset).toArray = ls at hl ⊢
  have hl : lv_has ls 1 [(0, .ref (base + 104))] := hl
  refine lv_aload_n hx hb dX9_init_0 rfl (lv_at hl 0 rfl) ?_
  refine W.objInit hx hb hown (hW _ w_1_35 rfl) (hW _ w_1_27 rfl) (hW _ w_1_28 rfl) rfl (by rw [hml]; exact hl.1) rfl dX9_init_1 (Nat.le_of_ble_eq_true rfl) (Nat.le_of_ble_eq_true rfl) ?_
  refine W.eq (g2 := F0 m 4 ls []) rfl ?_
  refine lv_aload_n hx hb dX9_init_4 rfl (lv_at hl 0 rfl) ?_
  refine lv_bipush (v := 120) hx hb dX9_init_5 (by decide) ?_
  refine md_newa hx hb hW hK hG (Or.inr (Or.inl ⟨rfl, rfl⟩)) w_1_144 (na := 120) (by decide) (by decide) (by decide) (Or.inl ⟨hK105, hN105⟩) (fun k => (hF 105 (by decide) k).1) (fun k => (hF 105 (by decide) k).2.2) (Nat.le_of_ble_eq_true rfl) (Nat.le_of_ble_eq_true rfl) dX9_init_7 (fun H hG => ?_)
  have hG : md_G D cy base 106 K N M R J s H _ := hG
  refine md_putF hx hb hW hown hK hG f_X9_9_9 hin rfl (by decide) hK104 rfl rfl dX9_init_9 (fun H locs hG => ?_)
  refine lv_aload_n hx hb dX9_init_12 rfl (lv_at hl 0 rfl) ?_
  refine lv_bipush (v := 10) hx hb dX9_init_13 (by decide) ?_
  refine md_newa hx hb hW hK hG (Or.inr (Or.inl ⟨rfl, rfl⟩)) w_1_144 (na := 10) (by decide) (by decide) (by decide) (Or.inl ⟨hK106, hN106⟩) (fun k => (hF 106 (by decide) k).1) (fun k => (hF 106 (by decide) k).2.2) (Nat.le_of_ble_eq_true rfl) (Nat.le_of_ble_eq_true rfl) dX9_init_15 (fun H hG => ?_)
  have hG : md_G D cy base 107 K N M (u2 R 104 9 (some 105)) J s H _ := hG
  refine md_putF hx hb hW hown hK hG f_X9_15_9 hin rfl (by decide) hK104 rfl rfl dX9_init_17 (fun H locs hG => ?_)
  refine lv_aload_n hx hb dX9_init_20 rfl (lv_at hl 0 rfl) ?_
  refine lv_bipush (v := 10) hx hb dX9_init_21 (by decide) ?_
  refine md_newa hx hb hW hK hG (Or.inr (Or.inl ⟨rfl, rfl⟩)) w_1_144 (na := 10) (by decide) (by decide) (by decide) (Or.inl ⟨hK107, hN107⟩) (fun k => (hF 107 (by decide) k).1) (fun k => (hF 107 (by decide) k).2.2) (Nat.le_of_ble_eq_true rfl) (Nat.le_of_ble_eq_true rfl) dX9_init_23 (fun H hG => ?_)
  have hG : md_G D cy base 108 K N M (u2 (u2 R 104 9 (some 105)) 104 10 (some 106)) J s H _ := hG
  refine md_putF hx hb hW hown hK hG f_X9_18_9 hin rfl (by decide) hK104 rfl rfl dX9_init_25 (fun H locs hG => ?_)
  refine lv_aload_n hx hb dX9_init_28 rfl (lv_at hl 0 rfl) ?_
  refine lv_bipush (v := 10) hx hb dX9_init_29 (by decide) ?_
  refine md_newa hx hb hW hK hG (Or.inr (Or.inl ⟨rfl, rfl⟩)) w_1_144 (na := 10) (by decide) (by decide) (by decide) (Or.inl ⟨hK108, hN108⟩) (fun k => (hF 108 (by decide) k).1) (fun k => (hF 108 (by decide) k).2.2) (Nat.le_of_ble_eq_true rfl) (Nat.le_of_ble_eq_true rfl) dX9_init_31 (fun H hG => ?_)
  have hG : md_G D cy base 109 K N M (u2 (u2 (u2 R 104 9 (some 105)) 104 10 (some 106)) 104 11 (some 107)) J s H _ := hG
  refine md_putF hx hb hW hown hK hG f_X9_21_9 hin rfl (by decide) hK104 rfl rfl dX9_init_33 (fun H locs hG => ?_)
  refine lv_aload_n hx hb dX9_init_36 rfl (lv_at hl 0 rfl) ?_
  refine lv_bipush (v := 10) hx hb dX9_init_37 (by decide) ?_
  refine md_newa hx hb hW hK hG (Or.inr (Or.inl ⟨rfl, rfl⟩)) w_1_144 (na := 10) (by decide) (by decide) (by decide) (Or.inl ⟨hK109, hN109⟩) (fun k => (hF 109 (by decide) k).1) (fun k => (hF 109 (by decide) k).2.2) (Nat.le_of_ble_eq_true rfl) (Nat.le_of_ble_eq_true rfl) dX9_init_39 (fun H hG => ?_)
  have hG : md_G D cy base 110 K N M (u2 (u2 (u2 (u2 R 104 9 (some 105)) 104 10 (some 106)) 104 11 (some 107)) 104 12 (some 108)) J s H _ := hG
  refine md_putF hx hb hW hown hK hG f_X9_24_9 hin rfl (by decide) hK104 rfl rfl dX9_init_41 (fun H locs hG => ?_)
  refine lv_aload_n hx hb dX9_init_44 rfl (lv_at hl 0 rfl) ?_
  refine lv_bipush (v := 8) hx hb dX9_init_45 (by decide) ?_
  refine md_newa hx hb hW hK hG (Or.inr (Or.inl ⟨rfl, rfl⟩)) w_1_144 (na := 8) (by decide) (by decide) (by decide) (Or.inl ⟨hK110, hN110⟩) (fun k => (hF 110 (by decide) k).1) (fun k => (hF 110 (by decide) k).2.2) (Nat.le_of_ble_eq_true rfl) (Nat.le_of_ble_eq_true rfl) dX9_init_47 (fun H hG => ?_)
  have hG : md_G D cy base 111 K N M (u2 (u2 (u2 (u2 (u2 R 104 9 (some 105)) 104 10 (some 106)) 104 11 (some 107)) 104 12 (some 108)) 104 13 (some 109)) J s H _ := hG
  refine md_putF hx hb hW hown hK hG f_X9_27_9 hin rfl (by decide) hK104 rfl rfl dX9_init_49 (fun H locs hG => ?_)
  refine lv_aload_n hx hb dX9_init_52 rfl (lv_at hl 0 rfl) ?_
  refine lv_bipush (v := 48) hx hb dX9_init_53 (by decide) ?_
  refine md_newa hx hb hW hK hG (Or.inr (Or.inl ⟨rfl, rfl⟩)) w_1_144 (na := 48) (by decide) (by decide) (by decide) (Or.inl ⟨hK111, hN111⟩) (fun k => (hF 111 (by decide) k).1) (fun k => (hF 111 (by decide) k).2.2) (Nat.le_of_ble_eq_true rfl) (Nat.le_of_ble_eq_true rfl) dX9_init_55 (fun H hG => ?_)
  have hG : md_G D cy base 112 K N M (u2 (u2 (u2 (u2 (u2 (u2 R 104 9 (some 105)) 104 10 (some 106)) 104 11 (some 107)) 104 12 (some 108)) 104 13 (some 109)) 104 14 (some 110)) J s H _ := hG
  refine md_putF hx hb hW hown hK hG f_X9_30_9 hin rfl (by decide) hK104 rfl rfl dX9_init_57 (fun H locs hG => ?_)
  exact md_endv hx hb hr hlocks hK hT hG (rfl) dX9_init_60
