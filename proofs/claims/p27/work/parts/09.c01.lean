def Lt_X0_roomFor : WL := [(40, 0, 2000000)]
def LRt_X0_roomFor : WL := []
set_option maxRecDepth 100000 in
set_option maxHeartbeats 4000000 in
theorem t_X0_roomFor (l : Launch) (D : va_G) (cy : Nat → ClassId) (tx : (Nat → Nat) × (Nat → Nat)) (base Z0 : Nat) (K0 N0 : Nat → Nat) (Ma0 : MT) (Ra0 : RT) (Ja : JT) (hTy : Ty Z0 K0 N0 Ma0 Ra0) (a0 : Nat) (hz_a0 : a0 < Z0) (hk_a0 : K0 a0 = 40) (a1 : Int32) (h_a1 : iv 0 7776 a1) (hB_a0 : 64 ≤ N0 a0 ∧ N0 a0 ≤ 100000) : Met l yX0_roomFor [Cond.code yX0_roomFor cX0_roomFor 4 (some (.array .int))] (md_rm 1 1 100000) (va_Pc [.ref (base + a0), .int a1] (md_U D cy tx base Z0 K0 N0 Ma0 Ra0 Ja)) (mQr D cy tx base (fun r u => TM Z0 K0 N0 Lt_X0_roomFor LRt_X0_roomFor Ma0 Ra0 u ∧ (RF Z0 K0 N0 Ma0 a0 a1.toInt r u))) 1 100000 (fun q => base ≤ q) := by
  refine tw_ofW (L := Lt_X0_roomFor) (LR := LRt_X0_roomFor) (by decide) (Nat.le_of_ble_eq_true rfl) hTy ?_
  intro p e s m args below meth c Q ls hx hb hr hlocks hown hml hW hK hT hS hQ hl
  have hl : lv_has ls 4 [(0, .ref (base + a0)), (1, .int a1)] := hl
  have hs0 : s.heap.size = base + Z0 := hS.1.2.1
  obtain ⟨Z, K, N, Ma, Ra, hE0, hGR, hTy, hS, hz_a0, hk_a0, hB_a0⟩ : ∃ (Z : Nat) (K N : Nat → Nat) (Ma : MT) (Ra : RT), (Z = Z0 ∧ K = K0 ∧ N = N0 ∧ Ma = Ma0 ∧ Ra = Ra0) ∧ GR Z0 K0 N0 Ma0 Ra0 Z K N Ma Ra ∧ Ty Z K N Ma Ra ∧ SB D cy base Z K N Lt_X0_roomFor LRt_X0_roomFor Ma Ra Ma Ra Ja s s.heap [] ∧ (a0 < Z) ∧ (K a0 = 40) ∧ (64 ≤ N a0 ∧ N a0 ≤ 100000) := ⟨Z0, K0, N0, Ma0, Ra0, ⟨rfl, rfl, rfl, rfl, rfl⟩, GR.rf, hTy, hS, hz_a0, hk_a0, hB_a0⟩
  refine lv_aload_n hx hb dX0_roomFor_0 rfl (lv_at hl 0 rfl) ?_
  refine tw_alen hx hb hK hS hz_a0 hk_a0 (by decide) dX0_roomFor_1 (fun x3 e2 h1 => ?_)
  refine lv_istore_n (lv' := [(2, .int x3), (0, .ref (base + a0)), (1, .int a1)]) hx hb dX0_roomFor_2 rfl hl (by decide) rfl (fun ls hl => ?_)
  refine lv_iconst (v := 0) hx hb dX0_roomFor_3 (by decide) ?_
  refine lv_istore_n (lv' := [(3, .int 0), (2, .int x3), (0, .ref (base + a0)), (1, .int a1)]) hx hb dX0_roomFor_4 rfl hl (by decide) rfl (fun ls hl => ?_)
  have W5_6 : ∀ (n_6 : Nat) (x4 : Int32) (x5 : Int32) (M6 : MT) (R7 : RT) (J8 : JT) (H : Heap) (locs : List Loc) (ls : Array Slot) (h_x4 : iv 64 100000 x4) (h_x5 : iv 0 30 x5) (w0_6 : ((N a0 : Nat) : Int) ≤ x4.toInt) (w1_6 : (2 : Int) ^ x5.toInt.toNat ≤ x4.toInt) (w2_6 : (x4.toInt = ((N a0 : Nat) : Int) ∨ (2 * ((N a0 : Nat) : Int) ≤ x4.toInt ∧ x4.toInt ≤ 2 * a1.toInt))) (w3_6 : M6 = Ma) (hm_6 : 30 - x5.toInt < (n_6 : Int)) (hS : SB D cy base Z K N Lt_X0_roomFor LRt_X0_roomFor Ma Ra M6 R7 J8 s H locs) (hl : lv_has ls 4 [(2, .int x4), (3, .int x5), (0, .ref (base + a0)), (1, .int a1)]), W p l e (md_rm 1 1 100000) s m args below meth c H locs 0 0 Q (F0 m 5 ls []) := by
    intro n_6
    induction n_6 with
    | zero =>
      intro x4 x5 M6 R7 J8 H locs ls h_x4 h_x5 w0_6 w1_6 w2_6 w3_6 hm_6 hS hl
      exfalso
      have := (h_a1).1; have := (h_a1).2; have := (h_x4).1; have := (h_x4).2; have := (h_x5).1; have := (h_x5).2; omega
    | succ n_6 ih_6 =>
      intro x4 x5 M6 R7 J8 H locs ls h_x4 h_x5 w0_6 w1_6 w2_6 w3_6 hm_6 hS hl
      have f9 := hS.2.2.1
      have g10 := hS.2.2.2
      refine lv_iload_n hx hb dX0_roomFor_5 rfl (lv_at hl 1 rfl) ?_
      refine lv_bipush (v := 30) hx hb dX0_roomFor_6 (by decide) ?_
      refine lv_icmp_ge (tgt := 26) hx hb dX0_roomFor_8 (by decide) (fun c11 => ?_) (fun c11 => ?_)
      · have q12 : 30 ≤ x5.toInt := ti_le c11
        have h13 : iv 30 30 x5 := iv_geL (y := 30) h_x5 (iv_c (c := 30) (n := 30) (by decide)) q12 (by decide)
        have hsz : a1.toInt ≤ x4.toInt := by
          have := pw30 w1_6 (by have := (h13).1; have := (h13).2; omega); have := (h_x4).2; omega
        refine lv_iload_n hx hb dX0_roomFor_26 rfl (lv_at hl 0 rfl) ?_
        refine lv_aload_n hx hb dX0_roomFor_27 rfl (lv_at hl 2 rfl) ?_
        refine tw_alen hx hb hK hS hz_a0 hk_a0 (by decide) dX0_roomFor_28 (fun x16 e15 h14 => ?_)
        refine lv_icmp_ne (tgt := 34) hx hb dX0_roomFor_29 (by decide) (fun c17 => ?_) (fun c17 => ?_)
        · have q18 : ¬ x4.toInt = x16.toInt := ti_ne c17
          refine lv_iload_n hx hb dX0_roomFor_34 rfl (lv_at hl 0 rfl) ?_
          obtain ⟨b19, eb19⟩ : ∃ q, q = Z := ⟨_, rfl⟩
          refine tw_newz (zq := b19) eb19 hx hb hW hK hS (t := 40) (Or.inr (by decide)) (fun _ => rfl) w_1_144 (na := 100000) h_x4 ⟨by decide, by decide, by decide⟩ (Nat.le_of_ble_eq_true rfl) (Nat.le_of_ble_eq_true rfl) dX0_roomFor_35 (fun H Z K N Ma Ra M20 R21 J22 eZ_b19 hz_b19 hk_b19 e25 o24 hS g23 => ?_)
          have hzo_a0 := hz_a0
          have hko_a0 := hk_a0
          have eN_a0 := GR.n g23 hz_a0 rfl
          have hk_a0 : K a0 = 40 := GR.k g23 hz_a0 hk_a0
          have hB_a0 : 64 ≤ N a0 ∧ N a0 ≤ 100000 := by rw [eN_a0]; exact hB_a0
          have hz_a0 : a0 < Z := GR.z g23 hz_a0
          have hGR := GR.tr hGR g23
          have f26 := hS.2.2.1
          have g27 := hS.2.2.2
          refine lv_astore_n (lv' := [(3, .ref (base + b19)), (2, .int x4), (0, .ref (base + a0)), (1, .int a1)]) hx hb dX0_roomFor_37 rfl hl (by decide) rfl (fun ls hl => ?_)
          refine lv_aload_n hx hb dX0_roomFor_38 rfl (lv_at hl 2 rfl) ?_
          refine lv_iconst (v := 0) hx hb dX0_roomFor_39 (by decide) ?_
          refine lv_aload_n hx hb dX0_roomFor_40 rfl (lv_at hl 0 rfl) ?_
          refine lv_iconst (v := 0) hx hb dX0_roomFor_41 (by decide) ?_
          refine lv_aload_n hx hb dX0_roomFor_42 rfl (lv_at hl 2 rfl) ?_
          refine tw_alen hx hb hK hS hz_a0 hk_a0 (by decide) dX0_roomFor_43 (fun x30 e29 h28 => ?_)
          refine tw_copy hx hb (hml.trans hl.1.symm) hW hown hK hS (md_okc w_5_202 rfl (md_okc w_3_226 rfl (md_okc w_3_225 rfl (md_okc w_1_18 rfl (md_ok0))))) hz_b19 hk_b19 (Or.inr (by decide)) hz_a0 hk_a0 (Or.inr (by decide)) rfl rfl (by have := (h28).1; have := (h28).2; have := ((iv_c (c := 0) (n := 0) (by decide))).1; have := ((iv_c (c := 0) (n := 0) (by decide))).2; have := ((iv_c (c := 0) (n := 0) (by decide))).1; have := ((iv_c (c := 0) (n := 0) (by decide))).2; omega) (by have := (h28).1; have := (h28).2; have := ((iv_c (c := 0) (n := 0) (by decide))).1; have := ((iv_c (c := 0) (n := 0) (by decide))).2; have := ((iv_c (c := 0) (n := 0) (by decide))).1; have := ((iv_c (c := 0) (n := 0) (by decide))).2; omega) (by have := (h28).1; have := (h28).2; have := ((iv_c (c := 0) (n := 0) (by decide))).1; have := ((iv_c (c := 0) (n := 0) (by decide))).2; have := ((iv_c (c := 0) (n := 0) (by decide))).1; have := ((iv_c (c := 0) (n := 0) (by decide))).2; omega) (by have := (h28).1; have := (h28).2; have := ((iv_c (c := 0) (n := 0) (by decide))).1; have := ((iv_c (c := 0) (n := 0) (by decide))).2; have := ((iv_c (c := 0) (n := 0) (by decide))).1; have := ((iv_c (c := 0) (n := 0) (by decide))).2; omega) (by have := (h28).1; have := (h28).2; have := ((iv_c (c := 0) (n := 0) (by decide))).1; have := ((iv_c (c := 0) (n := 0) (by decide))).2; have := ((iv_c (c := 0) (n := 0) (by decide))).1; have := ((iv_c (c := 0) (n := 0) (by decide))).2; omega) (fun _ _ => ⟨by show (-2147483648 : Int) ≤ -2147483648; decide, by show (2147483647 : Int) ≤ 2147483647; decide⟩) (Nat.le_of_ble_eq_true rfl) (Nat.le_of_ble_eq_true rfl) rfl dX0_roomFor_44 (fun H locs M33 hS f31 k32 => ?_)
          refine lv_aload_n hx hb dX0_roomFor_47 rfl (lv_at hl 0 rfl) ?_
          have q34 : 2 * ((N a0 : Nat) : Int) ≤ x4.toInt := by
            have := (h_a1).1; have := (h_a1).2; have := (h_x4).1; have := (h_x4).2; have := (h13).1; have := (h13).2; omega
          have q35 : x4.toInt ≤ 2 * a1.toInt := by
            have := (h_a1).1; have := (h_a1).2; have := (h_x4).1; have := (h_x4).2; have := (h13).1; have := (h13).2; omega
          exact tw_emr hx hb hr hlocks hK hT hS hGR hQ ⟨Nat.le_of_ble_eq_true rfl, Nat.le_of_ble_eq_true rfl⟩ ((RF.new hE0 w3_6 g23 o24 hzo_a0 eb19 eZ_b19 hk_b19 hk_a0 e25 hsz ⟨q34, q35⟩ e29 k32)) dX0_roomFor_48
        · have q36 : x4.toInt = x16.toInt := ti_eq c17
          have h37 : iv 64 100000 x16 := ⟨by have := (h_x4).1; have := (h14).1; omega, by have := (h_x4).2; have := (h14).2; omega⟩
          refine lv_aload_n hx hb dX0_roomFor_32 rfl (lv_at hl 2 rfl) ?_
          have q38 : a1.toInt ≤ ((N a0 : Nat) : Int) := by
            have := (h_a1).1; have := (h_a1).2; have := (h_x4).1; have := (h_x4).2; have := (h13).1; have := (h13).2; omega
          exact tw_emr hx hb hr hlocks hK hT hS hGR hQ ⟨Nat.le_of_ble_eq_true rfl, Nat.le_of_ble_eq_true rfl⟩ ((RF.same hE0 w3_6 hz_a0 q38)) dX0_roomFor_33
      · have q39 : x5.toInt < 30 := ti_nle c11
        have h40 : iv 0 29 x5 := iv_ltL (y := 30) h_x5 (iv_c (c := 30) (n := 30) (by decide)) q39 (by decide)
        refine lv_iload_n hx hb dX0_roomFor_11 rfl (lv_at hl 0 rfl) ?_
        refine lv_iload_n hx hb dX0_roomFor_12 rfl (lv_at hl 3 rfl) ?_
        refine lv_icmp_ge (tgt := 26) hx hb dX0_roomFor_13 (by decide) (fun c41 => ?_) (fun c41 => ?_)
        · have q42 : a1.toInt ≤ x4.toInt := ti_le c41
          have hsz : a1.toInt ≤ x4.toInt := by
            have := (h_a1).1; have := (h_a1).2; have := (h_x4).1; have := (h_x4).2; have := (h40).1; have := (h40).2; omega
          refine lv_iload_n hx hb dX0_roomFor_26 rfl (lv_at hl 0 rfl) ?_
          refine lv_aload_n hx hb dX0_roomFor_27 rfl (lv_at hl 2 rfl) ?_
          refine tw_alen hx hb hK hS hz_a0 hk_a0 (by decide) dX0_roomFor_28 (fun x45 e44 h43 => ?_)
          refine lv_icmp_ne (tgt := 34) hx hb dX0_roomFor_29 (by decide) (fun c46 => ?_) (fun c46 => ?_)
          · have q47 : ¬ x4.toInt = x45.toInt := ti_ne c46
            refine lv_iload_n hx hb dX0_roomFor_34 rfl (lv_at hl 0 rfl) ?_
            obtain ⟨b48, eb48⟩ : ∃ q, q = Z := ⟨_, rfl⟩
            refine tw_newz (zq := b48) eb48 hx hb hW hK hS (t := 40) (Or.inr (by decide)) (fun _ => rfl) w_1_144 (na := 100000) h_x4 ⟨by decide, by decide, by decide⟩ (Nat.le_of_ble_eq_true rfl) (Nat.le_of_ble_eq_true rfl) dX0_roomFor_35 (fun H Z K N Ma Ra M49 R50 J51 eZ_b48 hz_b48 hk_b48 e54 o53 hS g52 => ?_)
            have hzo_a0 := hz_a0
            have hko_a0 := hk_a0
            have eN_a0 := GR.n g52 hz_a0 rfl
            have hk_a0 : K a0 = 40 := GR.k g52 hz_a0 hk_a0
            have hB_a0 : 64 ≤ N a0 ∧ N a0 ≤ 100000 := by rw [eN_a0]; exact hB_a0
            have hz_a0 : a0 < Z := GR.z g52 hz_a0
            have hGR := GR.tr hGR g52
            have f55 := hS.2.2.1
            have g56 := hS.2.2.2
            refine lv_astore_n (lv' := [(3, .ref (base + b48)), (2, .int x4), (0, .ref (base + a0)), (1, .int a1)]) hx hb dX0_roomFor_37 rfl hl (by decide) rfl (fun ls hl => ?_)
            refine lv_aload_n hx hb dX0_roomFor_38 rfl (lv_at hl 2 rfl) ?_
            refine lv_iconst (v := 0) hx hb dX0_roomFor_39 (by decide) ?_
            refine lv_aload_n hx hb dX0_roomFor_40 rfl (lv_at hl 0 rfl) ?_
            refine lv_iconst (v := 0) hx hb dX0_roomFor_41 (by decide) ?_
            refine lv_aload_n hx hb dX0_roomFor_42 rfl (lv_at hl 2 rfl) ?_
            refine tw_alen hx hb hK hS hz_a0 hk_a0 (by decide) dX0_roomFor_43 (fun x59 e58 h57 => ?_)
            refine tw_copy hx hb (hml.trans hl.1.symm) hW hown hK hS (md_okc w_5_202 rfl (md_okc w_3_226 rfl (md_okc w_3_225 rfl (md_okc w_1_18 rfl (md_ok0))))) hz_b48 hk_b48 (Or.inr (by decide)) hz_a0 hk_a0 (Or.inr (by decide)) rfl rfl (by have := (h57).1; have := (h57).2; have := ((iv_c (c := 0) (n := 0) (by decide))).1; have := ((iv_c (c := 0) (n := 0) (by decide))).2; have := ((iv_c (c := 0) (n := 0) (by decide))).1; have := ((iv_c (c := 0) (n := 0) (by decide))).2; omega) (by have := (h57).1; have := (h57).2; have := ((iv_c (c := 0) (n := 0) (by decide))).1; have := ((iv_c (c := 0) (n := 0) (by decide))).2; have := ((iv_c (c := 0) (n := 0) (by decide))).1; have := ((iv_c (c := 0) (n := 0) (by decide))).2; omega) (by have := (h57).1; have := (h57).2; have := ((iv_c (c := 0) (n := 0) (by decide))).1; have := ((iv_c (c := 0) (n := 0) (by decide))).2; have := ((iv_c (c := 0) (n := 0) (by decide))).1; have := ((iv_c (c := 0) (n := 0) (by decide))).2; omega) (by have := (h57).1; have := (h57).2; have := ((iv_c (c := 0) (n := 0) (by decide))).1; have := ((iv_c (c := 0) (n := 0) (by decide))).2; have := ((iv_c (c := 0) (n := 0) (by decide))).1; have := ((iv_c (c := 0) (n := 0) (by decide))).2; omega) (by have := (h57).1; have := (h57).2; have := ((iv_c (c := 0) (n := 0) (by decide))).1; have := ((iv_c (c := 0) (n := 0) (by decide))).2; have := ((iv_c (c := 0) (n := 0) (by decide))).1; have := ((iv_c (c := 0) (n := 0) (by decide))).2; omega) (fun _ _ => ⟨by show (-2147483648 : Int) ≤ -2147483648; decide, by show (2147483647 : Int) ≤ 2147483647; decide⟩) (Nat.le_of_ble_eq_true rfl) (Nat.le_of_ble_eq_true rfl) rfl dX0_roomFor_44 (fun H locs M62 hS f60 k61 => ?_)
            refine lv_aload_n hx hb dX0_roomFor_47 rfl (lv_at hl 0 rfl) ?_
            have q63 : 2 * ((N a0 : Nat) : Int) ≤ x4.toInt := by
              have := (h_a1).1; have := (h_a1).2; have := (h_x4).1; have := (h_x4).2; have := (h40).1; have := (h40).2; omega
            have q64 : x4.toInt ≤ 2 * a1.toInt := by
              have := (h_a1).1; have := (h_a1).2; have := (h_x4).1; have := (h_x4).2; have := (h40).1; have := (h40).2; omega
            exact tw_emr hx hb hr hlocks hK hT hS hGR hQ ⟨Nat.le_of_ble_eq_true rfl, Nat.le_of_ble_eq_true rfl⟩ ((RF.new hE0 w3_6 g52 o53 hzo_a0 eb48 eZ_b48 hk_b48 hk_a0 e54 hsz ⟨q63, q64⟩ e58 k61)) dX0_roomFor_48
          · have q65 : x4.toInt = x45.toInt := ti_eq c46
            have h66 : iv 64 100000 x45 := ⟨by have := (h_x4).1; have := (h43).1; omega, by have := (h_x4).2; have := (h43).2; omega⟩
            refine lv_aload_n hx hb dX0_roomFor_32 rfl (lv_at hl 2 rfl) ?_
            have q67 : a1.toInt ≤ ((N a0 : Nat) : Int) := by
              have := (h_a1).1; have := (h_a1).2; have := (h_x4).1; have := (h_x4).2; have := (h40).1; have := (h40).2; omega
            exact tw_emr hx hb hr hlocks hK hT hS hGR hQ ⟨Nat.le_of_ble_eq_true rfl, Nat.le_of_ble_eq_true rfl⟩ ((RF.same hE0 w3_6 hz_a0 q67)) dX0_roomFor_33
        · have q68 : x4.toInt < a1.toInt := ti_nle c41
          have h69 : iv 64 7775 x4 := iv_ltL (y := a1) h_x4 h_a1 q68 (by decide)
          have h70 : iv 65 7776 a1 := iv_gtL (y := x4) h_a1 h_x4 q68 (by decide)
          refine lv_iload_n hx hb dX0_roomFor_16 rfl (lv_at hl 0 rfl) ?_
          refine lv_iconst (v := 2) hx hb dX0_roomFor_17 (by decide) ?_
          refine tw_imulc (k := 2) (lo := 128) (hi := 15550) hx hb h69 (by decide) (by decide) ⟨by decide, by decide⟩ ⟨by decide, by decide⟩ dX0_roomFor_18 (fun x73 e72 h71 => ?_)
          refine lv_istore_n (lv' := [(2, .int x73), (3, .int x5), (0, .ref (base + a0)), (1, .int a1)]) hx hb dX0_roomFor_19 rfl hl (by decide) rfl (fun ls hl => ?_)
          refine tw_iinc (lv' := fun x76 => [(3, .int x76), (2, .int x73), (0, .ref (base + a0)), (1, .int a1)]) (lo := 1) (hi := 30) hx hb dX0_roomFor_20 hl (k := 1) rfl h40 (by decide) ⟨by decide, by decide⟩ ⟨by decide, by decide⟩ (by decide) (fun _ => rfl) (fun x76 ls e75 h74 hl => ?_)
          refine lv_goto (tgt := 5) hx hb dX0_roomFor_23 (by decide) ?_
          have w77 : ((N a0 : Nat) : Int) ≤ x73.toInt := by
            have := (h70).1; have := (h70).2; have := (h69).1; have := (h69).2; have := (h40).1; have := (h40).2; have := (h71).1; have := (h71).2; have := (h74).1; have := (h74).2; omega
          have q79 : 0 ≤ x5.toInt := by
            have := (h70).1; have := (h70).2; have := (h69).1; have := (h69).2; have := (h40).1; have := (h40).2; have := (h71).1; have := (h71).2; have := (h74).1; have := (h74).2; omega
          have q80 : x76.toInt = x5.toInt + 1 := by
            have := (h70).1; have := (h70).2; have := (h69).1; have := (h69).2; have := (h40).1; have := (h40).2; have := (h71).1; have := (h71).2; have := (h74).1; have := (h74).2; omega
          have q81 : x73.toInt = x4.toInt * 2 := by
            have := (h70).1; have := (h70).2; have := (h69).1; have := (h69).2; have := (h40).1; have := (h40).2; have := (h71).1; have := (h71).2; have := (h74).1; have := (h74).2; omega
          have w78 : (2 : Int) ^ x76.toInt.toNat ≤ x73.toInt := pw1 w1_6 q79 q80 q81
          have w82 : (x73.toInt = ((N a0 : Nat) : Int) ∨ (2 * ((N a0 : Nat) : Int) ≤ x73.toInt ∧ x73.toInt ≤ 2 * a1.toInt)) := by
            have := (h70).1; have := (h70).2; have := (h69).1; have := (h69).2; have := (h40).1; have := (h40).2; have := (h71).1; have := (h71).2; have := (h74).1; have := (h74).2; omega
          have w83 : M6 = Ma := w3_6
          have hm84 : 30 - x76.toInt < (n_6 : Int) := by
            have := (h70).1; have := (h70).2; have := (h69).1; have := (h69).2; have := (h40).1; have := (h40).2; have := (h71).1; have := (h71).2; have := (h74).1; have := (h74).2; omega
          exact ih_6 x73 x76 M6 R7 J8 H locs _ (iv_mono h71 (by decide) (by decide)) (iv_mono h74 (by decide) (by decide)) w77 w78 w82 w83 hm84 hS (lv_sub hl [1, 0, 2, 3] rfl)
  have h85 : iv 64 100000 x3 := by
    have := (h_a1).1; have := (h_a1).2; have := (h1).1; have := (h1).2; exact ⟨by omega, by omega⟩
  have w86 : ((N a0 : Nat) : Int) ≤ x3.toInt := by
    have := (h_a1).1; have := (h_a1).2; have := (h1).1; have := (h1).2; omega
  have q88 : 1 ≤ x3.toInt := by
    have := (h_a1).1; have := (h_a1).2; have := (h1).1; have := (h1).2; omega
  have w87 : (2 : Int) ^ (0 : Int32).toInt.toNat ≤ x3.toInt := pw0 q88
  have w89 : (x3.toInt = ((N a0 : Nat) : Int) ∨ (2 * ((N a0 : Nat) : Int) ≤ x3.toInt ∧ x3.toInt ≤ 2 * a1.toInt)) := by
    have := (h_a1).1; have := (h_a1).2; have := (h1).1; have := (h1).2; omega
  have w90 : Ma = Ma := rfl
  have hm91 : 30 - (0 : Int32).toInt < (((31 : Nat) : Int) : Int) := by
    have := (h_a1).1; have := (h_a1).2; have : (0 : Int32).toInt = 0 := (by decide); omega
  exact W5_6 31 x3 0 Ma Ra Ja s.heap [] _ h85 (iv_mono (iv_c (c := 0) (n := 0) (by decide)) (by decide) (by decide)) w86 w87 w89 w90 hm91 hS (lv_sub hl [1, 0, 2, 3] rfl)
def Lt_X0_roomFor_1 : WL := [(39, 0, 2000000)]
def LRt_X0_roomFor_1 : WL := []
set_option maxRecDepth 100000 in
set_option maxHeartbeats 4000000 in
theorem t_X0_roomFor_1 (l : Launch) (D : va_G) (cy : Nat → ClassId) (tx : (Nat → Nat) × (Nat → Nat)) (base Z0 : Nat) (K0 N0 : Nat → Nat) (Ma0 : MT) (Ra0 : RT) (Ja : JT) (hTy : Ty Z0 K0 N0 Ma0 Ra0) (a0 : Nat) (hz_a0 : a0 < Z0) (hk_a0 : K0 a0 = 39) (a1 : Int32) (h_a1 : iv 1 49996 a1) (hB_a0 : 64 ≤ N0 a0 ∧ N0 a0 ≤ 100000) : Met l yX0_roomFor [Cond.code yX0_roomFor cX0_roomFor 4 (some (.array .int))] (md_rm 1 1 100000) (va_Pc [.ref (base + a0), .int a1] (md_U D cy tx base Z0 K0 N0 Ma0 Ra0 Ja)) (mQr D cy tx base (fun r u => TM Z0 K0 N0 Lt_X0_roomFor_1 LRt_X0_roomFor_1 Ma0 Ra0 u ∧ (RF Z0 K0 N0 Ma0 a0 a1.toInt r u))) 1 100000 (fun q => base ≤ q) := by
  refine tw_ofW (L := Lt_X0_roomFor_1) (LR := LRt_X0_roomFor_1) (by decide) (Nat.le_of_ble_eq_true rfl) hTy ?_
  intro p e s m args below meth c Q ls hx hb hr hlocks hown hml hW hK hT hS hQ hl
  have hl : lv_has ls 4 [(0, .ref (base + a0)), (1, .int a1)] := hl
  have hs0 : s.heap.size = base + Z0 := hS.1.2.1
  obtain ⟨Z, K, N, Ma, Ra, hE0, hGR, hTy, hS, hz_a0, hk_a0, hB_a0⟩ : ∃ (Z : Nat) (K N : Nat → Nat) (Ma : MT) (Ra : RT), (Z = Z0 ∧ K = K0 ∧ N = N0 ∧ Ma = Ma0 ∧ Ra = Ra0) ∧ GR Z0 K0 N0 Ma0 Ra0 Z K N Ma Ra ∧ Ty Z K N Ma Ra ∧ SB D cy base Z K N Lt_X0_roomFor_1 LRt_X0_roomFor_1 Ma Ra Ma Ra Ja s s.heap [] ∧ (a0 < Z) ∧ (K a0 = 39) ∧ (64 ≤ N a0 ∧ N a0 ≤ 100000) := ⟨Z0, K0, N0, Ma0, Ra0, ⟨rfl, rfl, rfl, rfl, rfl⟩, GR.rf, hTy, hS, hz_a0, hk_a0, hB_a0⟩
  refine lv_aload_n hx hb dX0_roomFor_0 rfl (lv_at hl 0 rfl) ?_
  refine tw_alen hx hb hK hS hz_a0 hk_a0 (by decide) dX0_roomFor_1 (fun x3 e2 h1 => ?_)
  refine lv_istore_n (lv' := [(2, .int x3), (0, .ref (base + a0)), (1, .int a1)]) hx hb dX0_roomFor_2 rfl hl (by decide) rfl (fun ls hl => ?_)
  refine lv_iconst (v := 0) hx hb dX0_roomFor_3 (by decide) ?_
  refine lv_istore_n (lv' := [(3, .int 0), (2, .int x3), (0, .ref (base + a0)), (1, .int a1)]) hx hb dX0_roomFor_4 rfl hl (by decide) rfl (fun ls hl => ?_)
  have W5_6 : ∀ (n_6 : Nat) (x4 : Int32) (x5 : Int32) (M6 : MT) (R7 : RT) (J8 : JT) (H : Heap) (locs : List Loc) (ls : Array Slot) (h_x4 : iv 64 100000 x4) (h_x5 : iv 0 30 x5) (w0_6 : ((N a0 : Nat) : Int) ≤ x4.toInt) (w1_6 : (2 : Int) ^ x5.toInt.toNat ≤ x4.toInt) (w2_6 : (x4.toInt = ((N a0 : Nat) : Int) ∨ (2 * ((N a0 : Nat) : Int) ≤ x4.toInt ∧ x4.toInt ≤ 2 * a1.toInt))) (w3_6 : M6 = Ma) (hm_6 : 30 - x5.toInt < (n_6 : Int)) (hS : SB D cy base Z K N Lt_X0_roomFor_1 LRt_X0_roomFor_1 Ma Ra M6 R7 J8 s H locs) (hl : lv_has ls 4 [(2, .int x4), (3, .int x5), (0, .ref (base + a0)), (1, .int a1)]), W p l e (md_rm 1 1 100000) s m args below meth c H locs 0 0 Q (F0 m 5 ls []) := by
    intro n_6
    induction n_6 with
    | zero =>
      intro x4 x5 M6 R7 J8 H locs ls h_x4 h_x5 w0_6 w1_6 w2_6 w3_6 hm_6 hS hl
      exfalso
      have := (h_a1).1; have := (h_a1).2; have := (h_x4).1; have := (h_x4).2; have := (h_x5).1; have := (h_x5).2; omega
    | succ n_6 ih_6 =>
      intro x4 x5 M6 R7 J8 H locs ls h_x4 h_x5 w0_6 w1_6 w2_6 w3_6 hm_6 hS hl
      have f9 := hS.2.2.1
      have g10 := hS.2.2.2
      refine lv_iload_n hx hb dX0_roomFor_5 rfl (lv_at hl 1 rfl) ?_
      refine lv_bipush (v := 30) hx hb dX0_roomFor_6 (by decide) ?_
      refine lv_icmp_ge (tgt := 26) hx hb dX0_roomFor_8 (by decide) (fun c11 => ?_) (fun c11 => ?_)
      · have q12 : 30 ≤ x5.toInt := ti_le c11
        have h13 : iv 30 30 x5 := iv_geL (y := 30) h_x5 (iv_c (c := 30) (n := 30) (by decide)) q12 (by decide)
        have hsz : a1.toInt ≤ x4.toInt := by
          have := pw30 w1_6 (by have := (h13).1; have := (h13).2; omega); have := (h_x4).2; omega
        refine lv_iload_n hx hb dX0_roomFor_26 rfl (lv_at hl 0 rfl) ?_
        refine lv_aload_n hx hb dX0_roomFor_27 rfl (lv_at hl 2 rfl) ?_
        refine tw_alen hx hb hK hS hz_a0 hk_a0 (by decide) dX0_roomFor_28 (fun x16 e15 h14 => ?_)
        refine lv_icmp_ne (tgt := 34) hx hb dX0_roomFor_29 (by decide) (fun c17 => ?_) (fun c17 => ?_)
        · have q18 : ¬ x4.toInt = x16.toInt := ti_ne c17
          refine lv_iload_n hx hb dX0_roomFor_34 rfl (lv_at hl 0 rfl) ?_
          obtain ⟨b19, eb19⟩ : ∃ q, q = Z := ⟨_, rfl⟩
          refine tw_newz (zq := b19) eb19 hx hb hW hK hS (t := 39) (Or.inr (by decide)) (fun _ => rfl) w_1_144 (na := 100000) h_x4 ⟨by decide, by decide, by decide⟩ (Nat.le_of_ble_eq_true rfl) (Nat.le_of_ble_eq_true rfl) dX0_roomFor_35 (fun H Z K N Ma Ra M20 R21 J22 eZ_b19 hz_b19 hk_b19 e25 o24 hS g23 => ?_)
          have hzo_a0 := hz_a0
          have hko_a0 := hk_a0
          have eN_a0 := GR.n g23 hz_a0 rfl
          have hk_a0 : K a0 = 39 := GR.k g23 hz_a0 hk_a0
          have hB_a0 : 64 ≤ N a0 ∧ N a0 ≤ 100000 := by rw [eN_a0]; exact hB_a0
          have hz_a0 : a0 < Z := GR.z g23 hz_a0
          have hGR := GR.tr hGR g23
          have f26 := hS.2.2.1
          have g27 := hS.2.2.2
          refine lv_astore_n (lv' := [(3, .ref (base + b19)), (2, .int x4), (0, .ref (base + a0)), (1, .int a1)]) hx hb dX0_roomFor_37 rfl hl (by decide) rfl (fun ls hl => ?_)
          refine lv_aload_n hx hb dX0_roomFor_38 rfl (lv_at hl 2 rfl) ?_
          refine lv_iconst (v := 0) hx hb dX0_roomFor_39 (by decide) ?_
          refine lv_aload_n hx hb dX0_roomFor_40 rfl (lv_at hl 0 rfl) ?_
          refine lv_iconst (v := 0) hx hb dX0_roomFor_41 (by decide) ?_
          refine lv_aload_n hx hb dX0_roomFor_42 rfl (lv_at hl 2 rfl) ?_
          refine tw_alen hx hb hK hS hz_a0 hk_a0 (by decide) dX0_roomFor_43 (fun x30 e29 h28 => ?_)
          refine tw_copy hx hb (hml.trans hl.1.symm) hW hown hK hS (md_okc w_5_202 rfl (md_okc w_3_226 rfl (md_okc w_3_225 rfl (md_okc w_1_18 rfl (md_ok0))))) hz_b19 hk_b19 (Or.inr (by decide)) hz_a0 hk_a0 (Or.inr (by decide)) rfl rfl (by have := (h28).1; have := (h28).2; have := ((iv_c (c := 0) (n := 0) (by decide))).1; have := ((iv_c (c := 0) (n := 0) (by decide))).2; have := ((iv_c (c := 0) (n := 0) (by decide))).1; have := ((iv_c (c := 0) (n := 0) (by decide))).2; omega) (by have := (h28).1; have := (h28).2; have := ((iv_c (c := 0) (n := 0) (by decide))).1; have := ((iv_c (c := 0) (n := 0) (by decide))).2; have := ((iv_c (c := 0) (n := 0) (by decide))).1; have := ((iv_c (c := 0) (n := 0) (by decide))).2; omega) (by have := (h28).1; have := (h28).2; have := ((iv_c (c := 0) (n := 0) (by decide))).1; have := ((iv_c (c := 0) (n := 0) (by decide))).2; have := ((iv_c (c := 0) (n := 0) (by decide))).1; have := ((iv_c (c := 0) (n := 0) (by decide))).2; omega) (by have := (h28).1; have := (h28).2; have := ((iv_c (c := 0) (n := 0) (by decide))).1; have := ((iv_c (c := 0) (n := 0) (by decide))).2; have := ((iv_c (c := 0) (n := 0) (by decide))).1; have := ((iv_c (c := 0) (n := 0) (by decide))).2; omega) (by have := (h28).1; have := (h28).2; have := ((iv_c (c := 0) (n := 0) (by decide))).1; have := ((iv_c (c := 0) (n := 0) (by decide))).2; have := ((iv_c (c := 0) (n := 0) (by decide))).1; have := ((iv_c (c := 0) (n := 0) (by decide))).2; omega) (fun _ _ => ⟨by show (-2147483648 : Int) ≤ -2147483648; decide, by show (2147483647 : Int) ≤ 2147483647; decide⟩) (Nat.le_of_ble_eq_true rfl) (Nat.le_of_ble_eq_true rfl) rfl dX0_roomFor_44 (fun H locs M33 hS f31 k32 => ?_)
          refine lv_aload_n hx hb dX0_roomFor_47 rfl (lv_at hl 0 rfl) ?_
          have q34 : 2 * ((N a0 : Nat) : Int) ≤ x4.toInt := by
            have := (h_a1).1; have := (h_a1).2; have := (h_x4).1; have := (h_x4).2; have := (h13).1; have := (h13).2; omega
          have q35 : x4.toInt ≤ 2 * a1.toInt := by
            have := (h_a1).1; have := (h_a1).2; have := (h_x4).1; have := (h_x4).2; have := (h13).1; have := (h13).2; omega
          exact tw_emr hx hb hr hlocks hK hT hS hGR hQ ⟨Nat.le_of_ble_eq_true rfl, Nat.le_of_ble_eq_true rfl⟩ ((RF.new hE0 w3_6 g23 o24 hzo_a0 eb19 eZ_b19 hk_b19 hk_a0 e25 hsz ⟨q34, q35⟩ e29 k32)) dX0_roomFor_48
        · have q36 : x4.toInt = x16.toInt := ti_eq c17
          have h37 : iv 64 100000 x16 := ⟨by have := (h_x4).1; have := (h14).1; omega, by have := (h_x4).2; have := (h14).2; omega⟩
          refine lv_aload_n hx hb dX0_roomFor_32 rfl (lv_at hl 2 rfl) ?_
          have q38 : a1.toInt ≤ ((N a0 : Nat) : Int) := by
            have := (h_a1).1; have := (h_a1).2; have := (h_x4).1; have := (h_x4).2; have := (h13).1; have := (h13).2; omega
          exact tw_emr hx hb hr hlocks hK hT hS hGR hQ ⟨Nat.le_of_ble_eq_true rfl, Nat.le_of_ble_eq_true rfl⟩ ((RF.same hE0 w3_6 hz_a0 q38)) dX0_roomFor_33
      · have q39 : x5.toInt < 30 := ti_nle c11
        have h40 : iv 0 29 x5 := iv_ltL (y := 30) h_x5 (iv_c (c := 30) (n := 30) (by decide)) q39 (by decide)
        refine lv_iload_n hx hb dX0_roomFor_11 rfl (lv_at hl 0 rfl) ?_
        refine lv_iload_n hx hb dX0_roomFor_12 rfl (lv_at hl 3 rfl) ?_
        refine lv_icmp_ge (tgt := 26) hx hb dX0_roomFor_13 (by decide) (fun c41 => ?_) (fun c41 => ?_)
        · have q42 : a1.toInt ≤ x4.toInt := ti_le c41
          have hsz : a1.toInt ≤ x4.toInt := by
            have := (h_a1).1; have := (h_a1).2; have := (h_x4).1; have := (h_x4).2; have := (h40).1; have := (h40).2; omega
          refine lv_iload_n hx hb dX0_roomFor_26 rfl (lv_at hl 0 rfl) ?_
          refine lv_aload_n hx hb dX0_roomFor_27 rfl (lv_at hl 2 rfl) ?_
          refine tw_alen hx hb hK hS hz_a0 hk_a0 (by decide) dX0_roomFor_28 (fun x45 e44 h43 => ?_)
          refine lv_icmp_ne (tgt := 34) hx hb dX0_roomFor_29 (by decide) (fun c46 => ?_) (fun c46 => ?_)
          · have q47 : ¬ x4.toInt = x45.toInt := ti_ne c46
            refine lv_iload_n hx hb dX0_roomFor_34 rfl (lv_at hl 0 rfl) ?_
            obtain ⟨b48, eb48⟩ : ∃ q, q = Z := ⟨_, rfl⟩
            refine tw_newz (zq := b48) eb48 hx hb hW hK hS (t := 39) (Or.inr (by decide)) (fun _ => rfl) w_1_144 (na := 100000) h_x4 ⟨by decide, by decide, by decide⟩ (Nat.le_of_ble_eq_true rfl) (Nat.le_of_ble_eq_true rfl) dX0_roomFor_35 (fun H Z K N Ma Ra M49 R50 J51 eZ_b48 hz_b48 hk_b48 e54 o53 hS g52 => ?_)
            have hzo_a0 := hz_a0
            have hko_a0 := hk_a0
            have eN_a0 := GR.n g52 hz_a0 rfl
            have hk_a0 : K a0 = 39 := GR.k g52 hz_a0 hk_a0
            have hB_a0 : 64 ≤ N a0 ∧ N a0 ≤ 100000 := by rw [eN_a0]; exact hB_a0
            have hz_a0 : a0 < Z := GR.z g52 hz_a0
            have hGR := GR.tr hGR g52
            have f55 := hS.2.2.1
            have g56 := hS.2.2.2
            refine lv_astore_n (lv' := [(3, .ref (base + b48)), (2, .int x4), (0, .ref (base + a0)), (1, .int a1)]) hx hb dX0_roomFor_37 rfl hl (by decide) rfl (fun ls hl => ?_)
            refine lv_aload_n hx hb dX0_roomFor_38 rfl (lv_at hl 2 rfl) ?_
            refine lv_iconst (v := 0) hx hb dX0_roomFor_39 (by decide) ?_
            refine lv_aload_n hx hb dX0_roomFor_40 rfl (lv_at hl 0 rfl) ?_
            refine lv_iconst (v := 0) hx hb dX0_roomFor_41 (by decide) ?_
            refine lv_aload_n hx hb dX0_roomFor_42 rfl (lv_at hl 2 rfl) ?_
            refine tw_alen hx hb hK hS hz_a0 hk_a0 (by decide) dX0_roomFor_43 (fun x59 e58 h57 => ?_)
            refine tw_copy hx hb (hml.trans hl.1.symm) hW hown hK hS (md_okc w_5_202 rfl (md_okc w_3_226 rfl (md_okc w_3_225 rfl (md_okc w_1_18 rfl (md_ok0))))) hz_b48 hk_b48 (Or.inr (by decide)) hz_a0 hk_a0 (Or.inr (by decide)) rfl rfl (by have := (h57).1; have := (h57).2; have := ((iv_c (c := 0) (n := 0) (by decide))).1; have := ((iv_c (c := 0) (n := 0) (by decide))).2; have := ((iv_c (c := 0) (n := 0) (by decide))).1; have := ((iv_c (c := 0) (n := 0) (by decide))).2; omega) (by have := (h57).1; have := (h57).2; have := ((iv_c (c := 0) (n := 0) (by decide))).1; have := ((iv_c (c := 0) (n := 0) (by decide))).2; have := ((iv_c (c := 0) (n := 0) (by decide))).1; have := ((iv_c (c := 0) (n := 0) (by decide))).2; omega) (by have := (h57).1; have := (h57).2; have := ((iv_c (c := 0) (n := 0) (by decide))).1; have := ((iv_c (c := 0) (n := 0) (by decide))).2; have := ((iv_c (c := 0) (n := 0) (by decide))).1; have := ((iv_c (c := 0) (n := 0) (by decide))).2; omega) (by have := (h57).1; have := (h57).2; have := ((iv_c (c := 0) (n := 0) (by decide))).1; have := ((iv_c (c := 0) (n := 0) (by decide))).2; have := ((iv_c (c := 0) (n := 0) (by decide))).1; have := ((iv_c (c := 0) (n := 0) (by decide))).2; omega) (by have := (h57).1; have := (h57).2; have := ((iv_c (c := 0) (n := 0) (by decide))).1; have := ((iv_c (c := 0) (n := 0) (by decide))).2; have := ((iv_c (c := 0) (n := 0) (by decide))).1; have := ((iv_c (c := 0) (n := 0) (by decide))).2; omega) (fun _ _ => ⟨by show (-2147483648 : Int) ≤ -2147483648; decide, by show (2147483647 : Int) ≤ 2147483647; decide⟩) (Nat.le_of_ble_eq_true rfl) (Nat.le_of_ble_eq_true rfl) rfl dX0_roomFor_44 (fun H locs M62 hS f60 k61 => ?_)
            refine lv_aload_n hx hb dX0_roomFor_47 rfl (lv_at hl 0 rfl) ?_
            have q63 : 2 * ((N a0 : Nat) : Int) ≤ x4.toInt := by
              have := (h_a1).1; have := (h_a1).2; have := (h_x4).1; have := (h_x4).2; have := (h40).1; have := (h40).2; omega
            have q64 : x4.toInt ≤ 2 * a1.toInt := by
              have := (h_a1).1; have := (h_a1).2; have := (h_x4).1; have := (h_x4).2; have := (h40).1; have := (h40).2; omega
            exact tw_emr hx hb hr hlocks hK hT hS hGR hQ ⟨Nat.le_of_ble_eq_true rfl, Nat.le_of_ble_eq_true rfl⟩ ((RF.new hE0 w3_6 g52 o53 hzo_a0 eb48 eZ_b48 hk_b48 hk_a0 e54 hsz ⟨q63, q64⟩ e58 k61)) dX0_roomFor_48
          · have q65 : x4.toInt = x45.toInt := ti_eq c46
            have h66 : iv 64 100000 x45 := ⟨by have := (h_x4).1; have := (h43).1; omega, by have := (h_x4).2; have := (h43).2; omega⟩
            refine lv_aload_n hx hb dX0_roomFor_32 rfl (lv_at hl 2 rfl) ?_
            have q67 : a1.toInt ≤ ((N a0 : Nat) : Int) := by
              have := (h_a1).1; have := (h_a1).2; have := (h_x4).1; have := (h_x4).2; have := (h40).1; have := (h40).2; omega
            exact tw_emr hx hb hr hlocks hK hT hS hGR hQ ⟨Nat.le_of_ble_eq_true rfl, Nat.le_of_ble_eq_true rfl⟩ ((RF.same hE0 w3_6 hz_a0 q67)) dX0_roomFor_33
        · have q68 : x4.toInt < a1.toInt := ti_nle c41
          have h69 : iv 64 49995 x4 := iv_ltL (y := a1) h_x4 h_a1 q68 (by decide)
          have h70 : iv 65 49996 a1 := iv_gtL (y := x4) h_a1 h_x4 q68 (by decide)
          refine lv_iload_n hx hb dX0_roomFor_16 rfl (lv_at hl 0 rfl) ?_
          refine lv_iconst (v := 2) hx hb dX0_roomFor_17 (by decide) ?_
          refine tw_imulc (k := 2) (lo := 128) (hi := 99990) hx hb h69 (by decide) (by decide) ⟨by decide, by decide⟩ ⟨by decide, by decide⟩ dX0_roomFor_18 (fun x73 e72 h71 => ?_)
          refine lv_istore_n (lv' := [(2, .int x73), (3, .int x5), (0, .ref (base + a0)), (1, .int a1)]) hx hb dX0_roomFor_19 rfl hl (by decide) rfl (fun ls hl => ?_)
          refine tw_iinc (lv' := fun x76 => [(3, .int x76), (2, .int x73), (0, .ref (base + a0)), (1, .int a1)]) (lo := 1) (hi := 30) hx hb dX0_roomFor_20 hl (k := 1) rfl h40 (by decide) ⟨by decide, by decide⟩ ⟨by decide, by decide⟩ (by decide) (fun _ => rfl) (fun x76 ls e75 h74 hl => ?_)
          refine lv_goto (tgt := 5) hx hb dX0_roomFor_23 (by decide) ?_
          have w77 : ((N a0 : Nat) : Int) ≤ x73.toInt := by
            have := (h70).1; have := (h70).2; have := (h69).1; have := (h69).2; have := (h40).1; have := (h40).2; have := (h71).1; have := (h71).2; have := (h74).1; have := (h74).2; omega
          have q79 : 0 ≤ x5.toInt := by
            have := (h70).1; have := (h70).2; have := (h69).1; have := (h69).2; have := (h40).1; have := (h40).2; have := (h71).1; have := (h71).2; have := (h74).1; have := (h74).2; omega
          have q80 : x76.toInt = x5.toInt + 1 := by
            have := (h70).1; have := (h70).2; have := (h69).1; have := (h69).2; have := (h40).1; have := (h40).2; have := (h71).1; have := (h71).2; have := (h74).1; have := (h74).2; omega
          have q81 : x73.toInt = x4.toInt * 2 := by
            have := (h70).1; have := (h70).2; have := (h69).1; have := (h69).2; have := (h40).1; have := (h40).2; have := (h71).1; have := (h71).2; have := (h74).1; have := (h74).2; omega
          have w78 : (2 : Int) ^ x76.toInt.toNat ≤ x73.toInt := pw1 w1_6 q79 q80 q81
          have w82 : (x73.toInt = ((N a0 : Nat) : Int) ∨ (2 * ((N a0 : Nat) : Int) ≤ x73.toInt ∧ x73.toInt ≤ 2 * a1.toInt)) := by
            have := (h70).1; have := (h70).2; have := (h69).1; have := (h69).2; have := (h40).1; have := (h40).2; have := (h71).1; have := (h71).2; have := (h74).1; have := (h74).2; omega
          have w83 : M6 = Ma := w3_6
          have hm84 : 30 - x76.toInt < (n_6 : Int) := by
            have := (h70).1; have := (h70).2; have := (h69).1; have := (h69).2; have := (h40).1; have := (h40).2; have := (h71).1; have := (h71).2; have := (h74).1; have := (h74).2; omega
          exact ih_6 x73 x76 M6 R7 J8 H locs _ (iv_mono h71 (by decide) (by decide)) (iv_mono h74 (by decide) (by decide)) w77 w78 w82 w83 hm84 hS (lv_sub hl [1, 0, 2, 3] rfl)
  have h85 : iv 64 100000 x3 := by
    have := (h_a1).1; have := (h_a1).2; have := (h1).1; have := (h1).2; exact ⟨by omega, by omega⟩
  have w86 : ((N a0 : Nat) : Int) ≤ x3.toInt := by
    have := (h_a1).1; have := (h_a1).2; have := (h1).1; have := (h1).2; omega
  have q88 : 1 ≤ x3.toInt := by
    have := (h_a1).1; have := (h_a1).2; have := (h1).1; have := (h1).2; omega
  have w87 : (2 : Int) ^ (0 : Int32).toInt.toNat ≤ x3.toInt := pw0 q88
  have w89 : (x3.toInt = ((N a0 : Nat) : Int) ∨ (2 * ((N a0 : Nat) : Int) ≤ x3.toInt ∧ x3.toInt ≤ 2 * a1.toInt)) := by
    have := (h_a1).1; have := (h_a1).2; have := (h1).1; have := (h1).2; omega
  have w90 : Ma = Ma := rfl
  have hm91 : 30 - (0 : Int32).toInt < (((31 : Nat) : Int) : Int) := by
    have := (h_a1).1; have := (h_a1).2; have : (0 : Int32).toInt = 0 := (by decide); omega
  exact W5_6 31 x3 0 Ma Ra Ja s.heap [] _ h85 (iv_mono (iv_c (c := 0) (n := 0) (by decide)) (by decide) (by decide)) w86 w87 w89 w90 hm91 hS (lv_sub hl [1, 0, 2, 3] rfl)
def Lt_X0_stepOn : WL := [(37, 0, 2000000)]
def LRt_X0_stepOn : WL := []
set_option maxRecDepth 100000 in
set_option maxHeartbeats 4000000 in
theorem t_X0_stepOn (l : Launch) (D : va_G) (cy : Nat → ClassId) (tx : (Nat → Nat) × (Nat → Nat)) (base Z : Nat) (K N : Nat → Nat) (Ma : MT) (Ra : RT) (Ja : JT) (hTy : Ty Z K N Ma Ra) (a0 : Nat) (hz_a0 : a0 < Z) (hk_a0 : K a0 = 1) (a1 : Int32) (h_a1 : iv 1 6 a1) (be : Nat) (k_be : Ra a0 2 = some be) (b5 : Int32) (k_b5 : Ma be (5 : Int32).toNatClampNeg = b5) (h_b5 : iv 0 9998 b5) : Met l yX0_stepOn [Cond.code yX0_stepOn cX0_stepOn 3 none] (md_rm 1 0 0) (va_Pc [.ref (base + a0), .int a1] (md_U D cy tx base Z K N Ma Ra Ja)) (mQv D cy tx base (fun u => TP Z K N Lt_X0_stepOn LRt_X0_stepOn Ma Ra u ∧ ((∃ x : Int32, u.2.2.2.1 be (5 : Int32).toNatClampNeg = x ∧ iv 0 9999 x ∧ (x.toInt ≤ b5.toInt + 1))))) 0 0 (fun q => base ≤ q) := by
  refine tw_ofW (L := Lt_X0_stepOn) (LR := LRt_X0_stepOn) (by decide) (Nat.le_of_ble_eq_true rfl) hTy ?_
  intro p e s m args below meth c Q ls hx hb hr hlocks hown hml hW hK hT hS hQ hl
  have hl : lv_has ls 3 [(0, .ref (base + a0)), (1, .int a1)] := hl
  obtain ⟨hz_be, hk_be, hn_be⟩ := hTy.refn hz_a0 hk_a0 (show rtR 1 2 = (37, 10, 0) from rfl) k_be
  have hn_be := hn_be (by decide)
  refine lv_iconst (v := 0) hx hb dX0_stepOn_0 (by decide) ?_
  refine lv_istore_n (lv' := [(2, .int 0), (0, .ref (base + a0)), (1, .int a1)]) hx hb dX0_stepOn_1 rfl hl (by decide) rfl (fun ls hl => ?_)
  have W2_2 : ∀ (n_2 : Nat) (x1 : Int32) (x7 : Int32) (M2 : MT) (R3 : RT) (J4 : JT) (H : Heap) (locs : List Loc) (ls : Array Slot) (h_x1 : iv 0 5 x1) (h_x7 : iv 0 9998 x7) (k8 : M2 be (5 : Int32).toNatClampNeg = x7) (w0_2 : x7.toInt = b5.toInt) (hm_2 : 5 - x1.toInt < (n_2 : Int)) (hS : SB D cy base Z K N Lt_X0_stepOn LRt_X0_stepOn Ma Ra M2 R3 J4 s H locs) (hl : lv_has ls 3 [(2, .int x1), (0, .ref (base + a0)), (1, .int a1)]), W p l e (md_rm 1 0 0) s m args below meth c H locs 0 0 Q (F0 m 2 ls []) := by
    intro n_2
    induction n_2 with
    | zero =>
      intro x1 x7 M2 R3 J4 H locs ls h_x1 h_x7 k8 w0_2 hm_2 hS hl
      exfalso
      have := (h_a1).1; have := (h_a1).2; have := (h_b5).1; have := (h_b5).2; have := (h_x1).1; have := (h_x1).2; omega
    | succ n_2 ih_2 =>
      intro x1 x7 M2 R3 J4 H locs ls h_x1 h_x7 k8 w0_2 hm_2 hS hl
      have f5 := hS.2.2.1
      have g6 := hS.2.2.2
      refine lv_iload_n hx hb dX0_stepOn_2 rfl (lv_at hl 0 rfl) ?_
      refine lv_iconst (v := 5) hx hb dX0_stepOn_3 (by decide) ?_
      refine lv_icmp_ge (tgt := 30) hx hb dX0_stepOn_4 (by decide) (fun c9 => ?_) (fun c9 => ?_)
      · have q10 : 5 ≤ x1.toInt := ti_le c9
        have h11 : iv 5 5 x1 := iv_geL (y := 5) h_x1 (iv_c (c := 5) (n := 5) (by decide)) q10 (by decide)
        obtain rfl : x1 = 5 := Int32.toInt_inj.mp (by have := (h11).1; have := (h11).2; show x1.toInt = 5; omega)
        refine lv_aload_n hx hb dX0_stepOn_30 rfl (lv_at hl 1 rfl) ?_
        have k12 : R3 a0 2 = some be := (Fr.kp (k := 2) g6 hk_a0 rfl).trans k_be
        refine tw_getrk hx hb hW hown hK hS f_X0_9_0 hz_a0 hk_a0 (b := be) k12 dX0_stepOn_31 ?_
        refine lv_iload_n hx hb dX0_stepOn_34 rfl (lv_at hl 0 rfl) ?_
        refine lv_dup2_11 hx hb dX0_stepOn_35 rfl rfl ?_
        refine tw_ialk hx hb hK hS hz_be hk_be (Or.inr (by decide)) hn_be (iv_c (c := 5) (n := 5) (by decide)) ⟨by decide, by decide⟩ (v := x7) k8 dX0_stepOn_36 ?_
        refine lv_iconst (v := 1) hx hb dX0_stepOn_37 (by decide) ?_
        refine tw_iadd (lo := 1) (hi := 9999) hx hb h_x7 (iv_c (c := 1) (n := 1) (by decide)) ⟨by decide, by decide⟩ ⟨by decide, by decide⟩ dX0_stepOn_38 (fun x15 e14 h13 => ?_)
        have e14 : x15.toInt = x7.toInt + 1 := e14
        refine tw_iasx hx hb hK hS hz_be hk_be (Or.inr (by decide)) hn_be (iv_c (c := 5) (n := 5) (by decide)) ⟨by decide, by decide⟩ (iv_mono h13 (lo := 0) (hi := 9999) (by decide) (by decide)) (jl := 0) (jh := 1999999) ⟨by decide, by decide⟩ rfl dX0_stepOn_39 (fun H locs M19 hS k16 f17 e18 => ?_)
        have q21 : x15.toInt ≤ b5.toInt + 1 := by
          have := (h_a1).1; have := (h_a1).2; have := (h_b5).1; have := (h_b5).2; have := (h13).1; have := (h13).2; have := (h_x7).1; have := (h_x7).2; omega
        exact tw_endv hx hb hr hlocks hK hT hS hQ (⟨x15, k16, (iv_mono h13 (by decide) (by decide)), q21⟩) dX0_stepOn_40
      · have q22 : x1.toInt < 5 := ti_nle c9
        have h23 : iv 0 4 x1 := iv_ltL (y := 5) h_x1 (iv_c (c := 5) (n := 5) (by decide)) q22 (by decide)
        refine lv_aload_n hx hb dX0_stepOn_7 rfl (lv_at hl 1 rfl) ?_
        have k24 : R3 a0 2 = some be := (Fr.kp (k := 2) g6 hk_a0 rfl).trans k_be
        refine tw_getrk hx hb hW hown hK hS f_X0_9_0 hz_a0 hk_a0 (b := be) k24 dX0_stepOn_8 ?_
        refine lv_iload_n hx hb dX0_stepOn_11 rfl (lv_at hl 0 rfl) ?_
        refine tw_iald hx hb hK hS hz_be hk_be (Or.inr (by decide)) hn_be (lo := 0) (hi := 9999) h23 ⟨by decide, by decide⟩ rg_u37 dX0_stepOn_12 (fun x27 k26 h25 => ?_)
        refine lv_iload_n hx hb dX0_stepOn_13 rfl (lv_at hl 2 rfl) ?_
        refine lv_icmp_lt (tgt := 30) hx hb dX0_stepOn_14 (by decide) (fun c28 => ?_) (fun c28 => ?_)
        · have q29 : x27.toInt < a1.toInt := ti_lt c28
          have h30 : iv 0 5 x27 := iv_ltL (y := a1) h25 h_a1 q29 (by decide)
          refine lv_aload_n hx hb dX0_stepOn_30 rfl (lv_at hl 1 rfl) ?_
          have k31 : R3 a0 2 = some be := (Fr.kp (k := 2) g6 hk_a0 rfl).trans k_be
          refine tw_getrk hx hb hW hown hK hS f_X0_9_0 hz_a0 hk_a0 (b := be) k31 dX0_stepOn_31 ?_
          refine lv_iload_n hx hb dX0_stepOn_34 rfl (lv_at hl 0 rfl) ?_
          refine lv_dup2_11 hx hb dX0_stepOn_35 rfl rfl ?_
          refine tw_ialk hx hb hK hS hz_be hk_be (Or.inr (by decide)) hn_be h23 ⟨by decide, by decide⟩ (v := x27) k26 dX0_stepOn_36 ?_
          refine lv_iconst (v := 1) hx hb dX0_stepOn_37 (by decide) ?_
          refine tw_iadd (lo := 1) (hi := 6) hx hb h30 (iv_c (c := 1) (n := 1) (by decide)) ⟨by decide, by decide⟩ ⟨by decide, by decide⟩ dX0_stepOn_38 (fun x34 e33 h32 => ?_)
          have e33 : x34.toInt = x27.toInt + 1 := e33
          refine tw_iasx hx hb hK hS hz_be hk_be (Or.inr (by decide)) hn_be h23 ⟨by decide, by decide⟩ (iv_mono h32 (lo := 0) (hi := 9999) (by decide) (by decide)) (jl := 0) (jh := 1999999) ⟨by decide, by decide⟩ rfl dX0_stepOn_39 (fun H locs M38 hS k35 f36 e37 => ?_)
          have k39 : M38 be (5 : Int32).toNatClampNeg = x7 := by rw [e37]; refine (u2_nk (fun q => ?_)).trans k8; have := ti_cl (x := x1) (by have := (h23).1; omega); have := (h23).2; have : (5 : Int32).toNatClampNeg = 5 := (by decide); omega
          have q40 : x7.toInt ≤ b5.toInt + 1 := by
            have := (h_a1).1; have := (h_a1).2; have := (h_b5).1; have := (h_b5).2; have := (h_x7).1; have := (h_x7).2; omega
          exact tw_endv hx hb hr hlocks hK hT hS hQ (⟨x7, k39, (iv_mono h_x7 (by decide) (by decide)), q40⟩) dX0_stepOn_40
        · have q41 : a1.toInt ≤ x27.toInt := ti_nlt c28
          have h42 : iv 1 9999 x27 := iv_geL (y := a1) h25 h_a1 q41 (by decide)
          refine lv_aload_n hx hb dX0_stepOn_17 rfl (lv_at hl 1 rfl) ?_
          have k43 : R3 a0 2 = some be := (Fr.kp (k := 2) g6 hk_a0 rfl).trans k_be
          refine tw_getrk hx hb hW hown hK hS f_X0_9_0 hz_a0 hk_a0 (b := be) k43 dX0_stepOn_18 ?_
          refine lv_iload_n hx hb dX0_stepOn_21 rfl (lv_at hl 0 rfl) ?_
          refine lv_iconst (v := 1) hx hb dX0_stepOn_22 (by decide) ?_
          refine tw_iasx hx hb hK hS hz_be hk_be (Or.inr (by decide)) hn_be h23 ⟨by decide, by decide⟩ (iv_mono (iv_c (c := 1) (n := 1) (by decide)) (lo := 0) (hi := 9999) (by decide) (by decide)) (jl := 0) (jh := 1999999) ⟨by decide, by decide⟩ rfl dX0_stepOn_23 (fun H locs M47 hS k44 f45 e46 => ?_)
          have k48 : M47 be (5 : Int32).toNatClampNeg = x7 := by rw [e46]; refine (u2_nk (fun q => ?_)).trans k8; have := ti_cl (x := x1) (by have := (h23).1; omega); have := (h23).2; have : (5 : Int32).toNatClampNeg = 5 := (by decide); omega
          refine tw_iinc (lv' := fun x51 => [(2, .int x51), (0, .ref (base + a0)), (1, .int a1)]) (lo := 1) (hi := 5) hx hb dX0_stepOn_24 hl (k := 0) rfl h23 (by decide) ⟨by decide, by decide⟩ ⟨by decide, by decide⟩ (by decide) (fun _ => rfl) (fun x51 ls e50 h49 hl => ?_)
          refine lv_goto (tgt := 2) hx hb dX0_stepOn_27 (by decide) ?_
          have w52 : x7.toInt = b5.toInt := by
            have := (h_a1).1; have := (h_a1).2; have := (h_b5).1; have := (h_b5).2; have := (h_x7).1; have := (h_x7).2; omega
          have hm53 : 5 - x51.toInt < (n_2 : Int) := by
            have := (h_a1).1; have := (h_a1).2; have := (h_b5).1; have := (h_b5).2; have := (h23).1; have := (h23).2; have := (h49).1; have := (h49).2; omega
          exact ih_2 x51 x7 M47 R3 J4 H locs _ (iv_mono h49 (by decide) (by decide)) h_x7 k48 w52 hm53 hS hl
  have w54 : b5.toInt = b5.toInt := by
    have := (h_a1).1; have := (h_a1).2; have := (h_b5).1; have := (h_b5).2; omega
  have hm55 : 5 - (0 : Int32).toInt < (((6 : Nat) : Int) : Int) := by
    have := (h_a1).1; have := (h_a1).2; have := (h_b5).1; have := (h_b5).2; have : (0 : Int32).toInt = 0 := (by decide); omega
  exact W2_2 6 0 b5 Ma Ra Ja s.heap [] _ (iv_mono (iv_c (c := 0) (n := 0) (by decide)) (by decide) (by decide)) h_b5 k_b5 w54 hm55 hS hl
def Lt_X0_search : WL := [(1, 9, 11), (6, 14, 15), (14, 0, 2000000), (29, 0, 2000000), (37, 0, 2000000), (38, 0, 2000000)]
def LRt_X0_search : WL := [(1, 6, 7)]
set_option maxRecDepth 100000 in
set_option maxHeartbeats 4000000 in
theorem t_X0_search (l : Launch) (D : va_G) (cy : Nat → ClassId) (tx : (Nat → Nat) × (Nat → Nat)) (base Z0 : Nat) (K0 N0 : Nat → Nat) (Ma0 : MT) (Ra0 : RT) (Ja : JT) (hTy : Ty Z0 K0 N0 Ma0 Ra0) (a0 : Nat) (hz_a0 : a0 < Z0) (hk_a0 : K0 a0 = 1) (a1 : Int32) (h_a1 : iv 1 6 a1) (a2 : Int32) (h_a2 : iv 0 1 a2) (st : Nat) (k_st : Ra0 a0 0 = some st) (mem : Int32) (k_mem : Ma0 st 0 = mem) (h_mem : iv 1 5 mem) (be : Nat) (k_be : Ra0 a0 2 = some be) (en : Nat) (k_en : Ra0 a0 6 = some en) (hB_en : 64 ≤ N0 en ∧ N0 en ≤ 80000) : Met l yX0_search [Cond.code yX0_search cX0_search 5 none] (md_rm 4 1251 260000) (va_Pc [.ref (base + a0), .int a1, .int a2] (md_U D cy tx base Z0 K0 N0 Ma0 Ra0 Ja)) (mQv D cy tx base (fun u => TM Z0 K0 N0 Lt_X0_search LRt_X0_search Ma0 Ra0 u ∧ (SKP Z0 K0 N0 Ra0 u.1 u.2.1 u.2.2.1 u.2.2.2.1 u.2.2.2.2.1 a0 mem.toInt.toNat a2 (u.2.2.2.1 a0 10).toInt.toNat))) 1251 260000 (fun q => base ≤ q) := by
  refine tw_ofW (L := Lt_X0_search) (LR := LRt_X0_search) (by decide) (Nat.le_of_ble_eq_true rfl) hTy ?_
  intro p e s m args below meth c Q ls hx hb hr hlocks hown hml hW hK hT hS hQ hl
  have hl : lv_has ls 5 [(0, .ref (base + a0)), (1, .int a1), (2, .int a2)] := hl
  have hs0 : s.heap.size = base + Z0 := hS.1.2.1
  obtain ⟨Z, K, N, Ma, Ra, hE0, hGR, hTy, hS, hz_a0, hk_a0, k_st, k_mem, k_be, k_en, hB_en⟩ : ∃ (Z : Nat) (K N : Nat → Nat) (Ma : MT) (Ra : RT), (Z = Z0 ∧ K = K0 ∧ N = N0 ∧ Ma = Ma0 ∧ Ra = Ra0) ∧ GR Z0 K0 N0 Ma0 Ra0 Z K N Ma Ra ∧ Ty Z K N Ma Ra ∧ SB D cy base Z K N Lt_X0_search LRt_X0_search Ma Ra Ma Ra Ja s s.heap [] ∧ (a0 < Z) ∧ (K a0 = 1) ∧ (Ra a0 0 = some st) ∧ (Ma st 0 = mem) ∧ (Ra a0 2 = some be) ∧ (Ra a0 6 = some en) ∧ (64 ≤ N en ∧ N en ≤ 80000) := ⟨Z0, K0, N0, Ma0, Ra0, ⟨rfl, rfl, rfl, rfl, rfl⟩, GR.rf, hTy, hS, hz_a0, hk_a0, k_st, k_mem, k_be, k_en, hB_en⟩
  obtain ⟨hz_st, hk_st, hn_st⟩ := hTy.refn hz_a0 hk_a0 (show rtR 1 0 = (10, 0, 0) from rfl) k_st
  obtain ⟨hz_be, hk_be, hn_be⟩ := hTy.refn hz_a0 hk_a0 (show rtR 1 2 = (37, 10, 0) from rfl) k_be
  have hn_be := hn_be (by decide)
  obtain ⟨hz_en, hk_en, hn_en⟩ := hTy.refn hz_a0 hk_a0 (show rtR 1 6 = (38, 0, 0) from rfl) k_en
  refine lv_aload_n hx hb dX0_search_0 rfl (lv_at hl 0 rfl) ?_
  refine lv_iconst (v := 0) hx hb dX0_search_1 (by decide) ?_
  refine tw_puti hx hb hW hown hK hS f_X0_41_0 hz_a0 hk_a0 rfl rfl (lo := 0) (hi := 7776) rfl (iv_mono (iv_c (c := 0) (n := 0) (by decide)) (by decide) (by decide)) rfl dX0_search_2 (fun H locs M3 hS k1 f2 => ?_)
  refine lv_aload_n hx hb dX0_search_5 rfl (lv_at hl 0 rfl) ?_
  refine lv_iconst (v := 0) hx hb dX0_search_6 (by decide) ?_
  refine tw_puti hx hb hW hown hK hS f_X0_45_0 hz_a0 hk_a0 rfl rfl (lo := 0) (hi := 49995) rfl (iv_mono (iv_c (c := 0) (n := 0) (by decide)) (by decide) (by decide)) rfl dX0_search_7 (fun H locs M6 hS k4 f5 => ?_)
  refine lv_iconst (v := 0) hx hb dX0_search_10 (by decide) ?_
  refine lv_istore_n (lv' := [(3, .int 0), (0, .ref (base + a0)), (1, .int a1), (2, .int a2)]) hx hb dX0_search_11 rfl hl (by decide) rfl (fun ls hl => ?_)
  have W12_8 : ∀ (n_8 : Nat) (x7 : Int32) (x13 : Int32) (M8 : MT) (R9 : RT) (J10 : JT) (H : Heap) (locs : List Loc) (ls : Array Slot) (h_x7 : iv 0 10 x7) (h_x13 : iv 0 0 x13) (k14 : M8 a0 10 = x13) (k15 : R9 a0 6 = some en) (w0_8 : x13.toInt = 0) (w1_8 : B5 M8 be x7.toInt) (hm_8 : 10 - x7.toInt < (n_8 : Int)) (hS : SB D cy base Z K N Lt_X0_search LRt_X0_search Ma Ra M8 R9 J10 s H locs) (hl : lv_has ls 5 [(3, .int x7), (0, .ref (base + a0)), (1, .int a1), (2, .int a2)]), W p l e (md_rm 4 1251 260000) s m args below meth c H locs 0 0 Q (F0 m 12 ls []) := by
    intro n_8
    induction n_8 with
    | zero =>
      intro x7 x13 M8 R9 J10 H locs ls h_x7 h_x13 k14 k15 w0_8 w1_8 hm_8 hS hl
      exfalso
      have := (h_a1).1; have := (h_a1).2; have := (h_a2).1; have := (h_a2).2; have := (h_mem).1; have := (h_mem).2; have := (h_x7).1; have := (h_x7).2; omega
    | succ n_8 ih_8 =>
      intro x7 x13 M8 R9 J10 H locs ls h_x7 h_x13 k14 k15 w0_8 w1_8 hm_8 hS hl
      have f11 := hS.2.2.1
      have g12 := hS.2.2.2
      refine lv_iload_n hx hb dX0_search_12 rfl (lv_at hl 0 rfl) ?_
      refine lv_bipush (v := 10) hx hb dX0_search_13 (by decide) ?_
      refine lv_icmp_ge (tgt := 45) hx hb dX0_search_15 (by decide) (fun c16 => ?_) (fun c16 => ?_)
      · have q17 : 10 ≤ x7.toInt := ti_le c16
        have h18 : iv 10 10 x7 := iv_geL (y := 10) h_x7 (iv_c (c := 10) (n := 10) (by decide)) q17 (by decide)
        obtain ⟨x21, k19⟩ : ∃ x, M8 be (5 : Int32).toNatClampNeg = x := ⟨_, rfl⟩
        have h20 : iv 0 9999 x21 := by rw [← k19]; exact hS.2.1.int hz_be hk_be (show rgI 37 (5 : Int32).toNatClampNeg = (0, 9999) from rfl)
        have q22 : x21.toInt ≤ 1 := by rw [← k19, show (5 : Int32).toNatClampNeg = 5 from by decide]; exact w1_8 (by have := (h18).1; omega)
        refine lv_iconst (v := 1) hx hb dX0_search_45 (by decide) ?_
        refine lv_istore_n (lv' := [(3, .int 1), (0, .ref (base + a0)), (1, .int a1), (2, .int a2)]) hx hb dX0_search_46 rfl hl (by decide) rfl (fun ls hl => ?_)
        refine lv_iconst (v := 0) hx hb dX0_search_47 (by decide) ?_
        refine lv_istore (lv' := [(4, .int 0), (3, .int 1), (0, .ref (base + a0)), (1, .int a1), (2, .int a2)]) hx hb dX0_search_48 hl (by decide) rfl (fun ls hl => ?_)
        have W50_25 : ∀ (n_25 : Nat) (x23 : Int32) (x24 : Int32) (x30 : Int32) (x32 : Int32) (M25 : MT) (R26 : RT) (J27 : JT) (H : Heap) (locs : List Loc) (ls : Array Slot) (h_x23 : iv 0 7776 x23) (h_x24 : iv 0 5 x24) (h_x30 : iv 0 0 x30) (k31 : M25 a0 10 = x30) (h_x32 : iv 0 9999 x32) (k33 : M25 be (5 : Int32).toNatClampNeg = x32) (k34 : R26 a0 6 = some en) (w0_25 : x30.toInt = 0) (w1_25 : x32.toInt ≤ 1) (w2_25 : ((x24.toInt = 0 ∧ x23.toInt ≤ 1) ∨ (x24.toInt = 1 ∧ x23.toInt ≤ 6) ∨ (x24.toInt = 2 ∧ x23.toInt ≤ 36) ∨ (x24.toInt = 3 ∧ x23.toInt ≤ 216) ∨ (x24.toInt = 4 ∧ x23.toInt ≤ 1296) ∨ (x24.toInt = 5 ∧ x23.toInt ≤ 7776))) (hm_25 : 5 - x24.toInt < (n_25 : Int)) (hS : SB D cy base Z K N Lt_X0_search LRt_X0_search Ma Ra M25 R26 J27 s H locs) (hl : lv_has ls 5 [(3, .int x23), (4, .int x24), (0, .ref (base + a0)), (1, .int a1), (2, .int a2)]), W p l e (md_rm 4 1251 260000) s m args below meth c H locs 0 0 Q (F0 m 50 ls []) := by
          intro n_25
          induction n_25 with
          | zero =>
            intro x23 x24 x30 x32 M25 R26 J27 H locs ls h_x23 h_x24 h_x30 k31 h_x32 k33 k34 w0_25 w1_25 w2_25 hm_25 hS hl
            exfalso
            have := (h_a1).1; have := (h_a1).2; have := (h_a2).1; have := (h_a2).2; have := (h_mem).1; have := (h_mem).2; have := (h_x23).1; have := (h_x23).2; have := (h_x24).1; have := (h_x24).2; omega
          | succ n_25 ih_25 =>
            intro x23 x24 x30 x32 M25 R26 J27 H locs ls h_x23 h_x24 h_x30 k31 h_x32 k33 k34 w0_25 w1_25 w2_25 hm_25 hS hl
            have f28 := hS.2.2.1
            have g29 := hS.2.2.2
            refine lv_iload hx hb dX0_search_50 (lv_at hl 1 rfl) ?_
            refine lv_aload_n hx hb dX0_search_52 rfl (lv_at hl 2 rfl) ?_
            have k35 : R26 a0 0 = some st := (Fr.kp (k := 0) g29 hk_a0 rfl).trans k_st
            refine tw_getrk hx hb hW hown hK hS f_X0_33_0 hz_a0 hk_a0 (b := st) k35 dX0_search_53 ?_
            have k36 : M25 st 0 = mem := (Fr.kp (k := 0) f28 hk_st rfl).trans k_mem
            refine tw_getk hx hb hW hown hK hS f_X0_48_9 hz_st hk_st (v := mem) k36 dX0_search_56 ?_
            refine lv_icmp_ge (tgt := 78) hx hb dX0_search_59 (by decide) (fun c37 => ?_) (fun c37 => ?_)
            · have q38 : mem.toInt ≤ x24.toInt := ti_le c37
              have h39 : iv 1 5 x24 := iv_geL (y := mem) h_x24 h_mem q38 (by decide)
              refine lv_iconst (v := 0) hx hb dX0_search_78 (by decide) ?_
              refine lv_istore (lv' := [(4, .int 0), (3, .int x23), (0, .ref (base + a0)), (1, .int a1), (2, .int a2)]) hx hb dX0_search_79 hl (by decide) rfl (fun ls hl => ?_)
              have W81_41 : ∀ (n_41 : Nat) (Z : Nat) (K N : Nat → Nat) (Ma : MT) (Ra : RT) (hGR : GR Z0 K0 N0 Ma0 Ra0 Z K N Ma Ra) (hz_a0 : a0 < Z) (hk_a0 : K a0 = 1) (hz_st : st < Z) (hk_st : K st = 10) (hz_be : be < Z) (hk_be : K be = 37) (hn_be : N be = 10) (hz_en : en < Z) (hk_en : K en = 38) (k_st : Ra a0 0 = some st) (k_mem : Ma st 0 = mem) (k_be : Ra a0 2 = some be) (k_en : Ra a0 6 = some en) (x40 : Int32) (x46 : Int32) (x48 : Int32) (M41 : MT) (R42 : RT) (J43 : JT) (H : Heap) (locs : List Loc) (ls : Array Slot) (h_x40 : iv 0 7776 x40) (h_x46 : iv 0 7776 x46) (k47 : M41 a0 10 = x46) (h_x48 : iv 0 9999 x48) (k49 : M41 be (5 : Int32).toNatClampNeg = x48) (w0_41 : x46.toInt ≤ x40.toInt) (w1_41 : x48.toInt ≤ x40.toInt + 1) (w2_41 : SKP Z0 K0 N0 Ra0 Z K N M41 R42 a0 mem.toInt.toNat a2 x46.toInt.toNat) (hm_41 : 7776 - x40.toInt < (n_41 : Int)) (hS : SB D cy base Z K N Lt_X0_search LRt_X0_search Ma Ra M41 R42 J43 s H locs) (hl : lv_has ls 5 [(4, .int x40), (3, .int x23), (0, .ref (base + a0)), (1, .int a1), (2, .int a2)]), W p l e (md_rm 4 1251 260000) s m args below meth c H locs 1250 160000 Q (F0 m 81 ls []) := by
                intro n_41
                induction n_41 with
                | zero =>
                  intro Z K N Ma Ra hGR hz_a0 hk_a0 hz_st hk_st hz_be hk_be hn_be hz_en hk_en k_st k_mem k_be k_en x40 x46 x48 M41 R42 J43 H locs ls h_x40 h_x46 k47 h_x48 k49 w0_41 w1_41 w2_41 hm_41 hS hl
                  exfalso
                  have := (h_a1).1; have := (h_a1).2; have := (h_a2).1; have := (h_a2).2; have := (h_mem).1; have := (h_mem).2; have := (h_x40).1; have := (h_x40).2; have := (h_x46).1; have := (h_x46).2; have := (h_x48).1; have := (h_x48).2; omega
                | succ n_41 ih_41 =>
                  intro Z K N Ma Ra hGR hz_a0 hk_a0 hz_st hk_st hz_be hk_be hn_be hz_en hk_en k_st k_mem k_be k_en x40 x46 x48 M41 R42 J43 H locs ls h_x40 h_x46 k47 h_x48 k49 w0_41 w1_41 w2_41 hm_41 hS hl
                  have f44 := hS.2.2.1
                  have g45 := hS.2.2.2
                  refine lv_iload hx hb dX0_search_81 (lv_at hl 0 rfl) ?_
                  refine lv_iload_n hx hb dX0_search_83 rfl (lv_at hl 1 rfl) ?_
                  refine lv_icmp_ge (tgt := 127) hx hb dX0_search_84 (by decide) (fun c50 => ?_) (fun c50 => ?_)
                  · have q51 : x23.toInt ≤ x40.toInt := ti_le c50
                    exact tw_emv hx hb hr hlocks hK hT hS hGR hQ ⟨Nat.le_of_ble_eq_true rfl, Nat.le_of_ble_eq_true rfl⟩ ((by have q := w2_41; rw [← k47] at q; exact q)) dX0_search_127
                  · have q52 : x40.toInt < x23.toInt := ti_nle c50
                    have h53 : iv 0 7775 x40 := iv_ltL (y := x23) h_x40 h_x23 q52 (by decide)
                    have h54 : iv 1 7776 x23 := iv_gtL (y := x40) h_x23 h_x40 q52 (by decide)
                    refine lv_aload_n hx hb dX0_search_87 rfl (lv_at hl 2 rfl) ?_
                    refine tw_goi hS (md_runV (As := []) (rest := []) hx hb hml hown hW hK hT hS.1 (t_X0_holdAll l D cy tx base Z K N M41 R42 J43 hS.2.1 a0 hz_a0 hk_a0) s_X0_53 ⟨rfl, rfl, ⟨Nat.le_of_ble_eq_true rfl, Nat.le_of_ble_eq_true rfl⟩, ⟨Nat.le_of_ble_eq_true rfl, Nat.le_of_ble_eq_true rfl⟩⟩ hz_a0 hk_a0 (by decide) rfl rfl hl.1 rfl (Nat.le_of_ble_eq_true rfl) dX0_search_88) rfl rfl (fun x61 H locs M58 R59 J57 hS f55 g56 E60 => ?_)
                    have eR59 := Fr.nil g56 rfl
                    subst eR59
                    have h_x61 := E60
                    clear E60
                    refine lv_if_eq (tgt := 116) hx hb dX0_search_91 (by decide) (fun c62 => ?_) (fun c62 => ?_)
                    · have q63 : x61.toInt = 0 := ti_eq c62
                      have h64 : iv 0 0 x61 := ⟨by have := (h_x61).1; have := ((iv_c (c := 0) (n := 0) (by decide))).1; omega, by have := (h_x61).2; have := ((iv_c (c := 0) (n := 0) (by decide))).2; omega⟩
                      refine lv_aload_n hx hb dX0_search_116 rfl (lv_at hl 2 rfl) ?_
                      refine lv_iload_n hx hb dX0_search_117 rfl (lv_at hl 3 rfl) ?_
                      have k65 : R42 a0 2 = some be := (Fr.kp (k := 2) g45 hk_a0 rfl).trans k_be
                      have k66 : M58 be (5 : Int32).toNatClampNeg = x48 := (Fr.kp (k := (5 : Int32).toNatClampNeg) f55 hk_be rfl).trans k49
                      have h67 : iv 0 9998 x48 := by
                        have := (h_a1).1; have := (h_a1).2; have := (h_a2).1; have := (h_a2).2; have := (h_mem).1; have := (h_mem).2; have := (h53).1; have := (h53).2; have := (h_x46).1; have := (h_x46).2; have := (h_x48).1; have := (h_x48).2; exact ⟨by omega, by omega⟩
                      refine tw_gov hS (md_runV (As := [.int a1]) (rest := []) hx hb hml hown hW hK hT hS.1 (t_X0_stepOn l D cy tx base Z K N M58 R42 J57 hS.2.1 a0 hz_a0 hk_a0 a1 h_a1 be k65 x48 k66 h67) s_X0_63 ⟨rfl, rfl, ⟨Nat.le_of_ble_eq_true rfl, Nat.le_of_ble_eq_true rfl⟩, ⟨Nat.le_of_ble_eq_true rfl, Nat.le_of_ble_eq_true rfl⟩⟩ hz_a0 hk_a0 (by decide) rfl rfl hl.1 rfl (Nat.le_of_ble_eq_true rfl) dX0_search_118) rfl rfl (fun H locs M71 R72 J70 hS f68 g69 E73 => ?_)
                      have eR72 := Fr.nil g69 rfl
                      subst eR72
                      have p74 := E73
                      clear E73
                      obtain ⟨x77, k75, h76, q78⟩ := p74
                      have k75 : M71 be (5 : Int32).toNatClampNeg = x77 := k75
                      refine tw_iinc (lv' := fun x81 => [(4, .int x81), (3, .int x23), (0, .ref (base + a0)), (1, .int a1), (2, .int a2)]) (lo := 1) (hi := 7776) hx hb dX0_search_121 hl (k := 0) rfl h53 (by decide) ⟨by decide, by decide⟩ ⟨by decide, by decide⟩ (by decide) (fun _ => rfl) (fun x81 ls e80 h79 hl => ?_)
                      refine lv_goto (tgt := 81) hx hb dX0_search_124 (by decide) ?_
                      have k82 : M71 a0 10 = x46 := ((Fr.kp (k := 10) f68 hk_a0 rfl).trans (Fr.kp (k := 10) f55 hk_a0 rfl)).trans k47
                      have w83 : SKP Z0 K0 N0 Ra0 Z K N M71 R42 a0 mem.toInt.toNat a2 x46.toInt.toNat := SKP.to w2_41 (by have := (h_mem).2; omega) (Or.inl rfl) rfl ((Fr.kp (k := 9) f68 hk_a0 rfl).trans (Fr.kp (k := 9) f55 hk_a0 rfl)) (fun e q j => by have hk := (hS.2.1.refn hz_a0 hk_a0 (show rtR 1 6 = (38, 0, 0) from rfl) q).2.1; exact ((Fr.kpa f68 hk rfl j).trans (Fr.kpa f55 hk rfl j)))
                      have h84 := SKP.room w83
                      refine tw_tight (k := 1250) (n := 160000) hS hs0 hGR h84.1 h84.2 ?_
                      have w85 : x46.toInt ≤ x81.toInt := by
                        have := (h_a1).1; have := (h_a1).2; have := (h_a2).1; have := (h_a2).2; have := (h_mem).1; have := (h_mem).2; have := (h53).1; have := (h53).2; have := (h_x46).1; have := (h_x46).2; have := (h_x48).1; have := (h_x48).2; have := (h76).1; have := (h76).2; have := (h79).1; have := (h79).2; omega
                      have w86 : x77.toInt ≤ x81.toInt + 1 := by
                        have := (h_a1).1; have := (h_a1).2; have := (h_a2).1; have := (h_a2).2; have := (h_mem).1; have := (h_mem).2; have := (h53).1; have := (h53).2; have := (h_x46).1; have := (h_x46).2; have := (h_x48).1; have := (h_x48).2; have := (h76).1; have := (h76).2; have := (h79).1; have := (h79).2; omega
                      have w87 : SKP Z0 K0 N0 Ra0 Z K N M71 R42 a0 mem.toInt.toNat a2 x46.toInt.toNat := w83
                      have hm88 : 7776 - x81.toInt < (n_41 : Int) := by
                        have := (h_a1).1; have := (h_a1).2; have := (h_a2).1; have := (h_a2).2; have := (h_mem).1; have := (h_mem).2; have := (h53).1; have := (h53).2; have := (h_x46).1; have := (h_x46).2; have := (h_x48).1; have := (h_x48).2; have := (h76).1; have := (h76).2; have := (h79).1; have := (h79).2; omega
                      exact ih_41 Z K N Ma Ra hGR hz_a0 hk_a0 hz_st hk_st hz_be hk_be hn_be hz_en hk_en k_st k_mem k_be k_en x81 x46 x77 M71 R42 J70 H locs _ (iv_mono h79 (by decide) (by decide)) h_x46 k82 h76 k75 w85 w86 w87 hm88 hS hl
                    · have q89 : ¬ x61.toInt = 0 := ti_ne c62
                      have h90 : iv 1 1 x61 := ⟨by have := (h_x61).1; have := ((iv_c (c := 0) (n := 0) (by decide))).1; have := ((iv_c (c := 0) (n := 0) (by decide))).2; omega, by have := (h_x61).2; have := ((iv_c (c := 0) (n := 0) (by decide))).1; have := ((iv_c (c := 0) (n := 0) (by decide))).2; omega⟩
                      refine lv_aload_n hx hb dX0_search_94 rfl (lv_at hl 2 rfl) ?_
                      refine tw_gov hS (md_runV (As := []) (rest := []) hx hb hml hown hW hK hT hS.1 (t_X0_mark l D cy tx base Z K N M58 R42 J57 hS.2.1 a0 hz_a0 hk_a0) s_X0_57 ⟨rfl, rfl, ⟨Nat.le_of_ble_eq_true rfl, Nat.le_of_ble_eq_true rfl⟩, ⟨Nat.le_of_ble_eq_true rfl, Nat.le_of_ble_eq_true rfl⟩⟩ hz_a0 hk_a0 (by decide) rfl rfl hl.1 rfl (Nat.le_of_ble_eq_true rfl) dX0_search_95) rfl rfl (fun H locs M94 R95 J93 hS f91 g92 E96 => ?_)
                      have eR95 := Fr.nil g92 rfl
                      subst eR95
                      refine lv_iload_n hx hb dX0_search_98 rfl (lv_at hl 4 rfl) ?_
                      refine lv_if_eq (tgt := 106) hx hb dX0_search_99 (by decide) (fun c97 => ?_) (fun c97 => ?_)
                      · have q98 : a2.toInt = 0 := ti_eq c97
                        have h99 : iv 0 0 a2 := ⟨by have := (h_a2).1; have := ((iv_c (c := 0) (n := 0) (by decide))).1; omega, by have := (h_a2).2; have := ((iv_c (c := 0) (n := 0) (by decide))).2; omega⟩
                        refine lv_aload_n hx hb dX0_search_106 rfl (lv_at hl 2 rfl) ?_
                        refine lv_dup hx hb dX0_search_107 rfl ?_
                        have k100 : M94 a0 10 = x46 := ((Fr.kp (k := 10) f91 hk_a0 rfl).trans (Fr.kp (k := 10) f55 hk_a0 rfl)).trans k47
                        refine tw_getk hx hb hW hown hK hS f_X0_41_0 hz_a0 hk_a0 (v := x46) k100 dX0_search_108 ?_
                        refine lv_iconst (v := 1) hx hb dX0_search_111 (by decide) ?_
                        refine tw_iadd (lo := 1) (hi := 7777) hx hb h_x46 (iv_c (c := 1) (n := 1) (by decide)) ⟨by decide, by decide⟩ ⟨by decide, by decide⟩ dX0_search_112 (fun x103 e102 h101 => ?_)
                        have e102 : x103.toInt = x46.toInt + 1 := e102
                        have h106 : iv 0 7776 x103 := by
                          have := (h_a1).1; have := (h_a1).2; have := (h99).1; have := (h99).2; have := (h_mem).1; have := (h_mem).2; have := (h101).1; have := (h101).2; have := (h53).1; have := (h53).2; have := (h_x46).1; have := (h_x46).2; have := (h_x48).1; have := (h_x48).2; exact ⟨by omega, by omega⟩
                        refine tw_puti hx hb hW hown hK hS f_X0_41_0 hz_a0 hk_a0 rfl rfl (lo := 0) (hi := 7776) rfl h106 rfl dX0_search_113 (fun H locs M107 hS k104 f105 => ?_)
                        refine lv_aload_n hx hb dX0_search_116 rfl (lv_at hl 2 rfl) ?_
                        refine lv_iload_n hx hb dX0_search_117 rfl (lv_at hl 3 rfl) ?_
                        have k108 : R42 a0 2 = some be := (Fr.kp (k := 2) g45 hk_a0 rfl).trans k_be
                        have k109 : M107 be (5 : Int32).toNatClampNeg = x48 := ((Fr.kp (k := (5 : Int32).toNatClampNeg) f105 hk_be rfl).trans ((Fr.kp (k := (5 : Int32).toNatClampNeg) f91 hk_be rfl).trans (Fr.kp (k := (5 : Int32).toNatClampNeg) f55 hk_be rfl))).trans k49
                        have h110 : iv 0 9998 x48 := by
                          have := (h_a1).1; have := (h_a1).2; have := (h99).1; have := (h99).2; have := (h_mem).1; have := (h_mem).2; have := (h106).1; have := (h106).2; have := (h53).1; have := (h53).2; have := (h_x46).1; have := (h_x46).2; have := (h_x48).1; have := (h_x48).2; exact ⟨by omega, by omega⟩
                        refine tw_gov hS (md_runV (As := [.int a1]) (rest := []) hx hb hml hown hW hK hT hS.1 (t_X0_stepOn l D cy tx base Z K N M107 R42 J93 hS.2.1 a0 hz_a0 hk_a0 a1 h_a1 be k108 x48 k109 h110) s_X0_63 ⟨rfl, rfl, ⟨Nat.le_of_ble_eq_true rfl, Nat.le_of_ble_eq_true rfl⟩, ⟨Nat.le_of_ble_eq_true rfl, Nat.le_of_ble_eq_true rfl⟩⟩ hz_a0 hk_a0 (by decide) rfl rfl hl.1 rfl (Nat.le_of_ble_eq_true rfl) dX0_search_118) rfl rfl (fun H locs M114 R115 J113 hS f111 g112 E116 => ?_)
                        have eR115 := Fr.nil g112 rfl
                        subst eR115
                        have p117 := E116
                        clear E116
                        obtain ⟨x120, k118, h119, q121⟩ := p117
                        have k118 : M114 be (5 : Int32).toNatClampNeg = x120 := k118
                        refine tw_iinc (lv' := fun x124 => [(4, .int x124), (3, .int x23), (0, .ref (base + a0)), (1, .int a1), (2, .int a2)]) (lo := 1) (hi := 7776) hx hb dX0_search_121 hl (k := 0) rfl h53 (by decide) ⟨by decide, by decide⟩ ⟨by decide, by decide⟩ (by decide) (fun _ => rfl) (fun x124 ls e123 h122 hl => ?_)
                        refine lv_goto (tgt := 81) hx hb dX0_search_124 (by decide) ?_
                        have k125 : M114 a0 10 = x103 := (Fr.kp (k := 10) f111 hk_a0 rfl).trans k104
                        have w126 : SKP Z0 K0 N0 Ra0 Z K N M114 R42 a0 mem.toInt.toNat a2 x103.toInt.toNat := SKP.to w2_41 (by have := (h_mem).2; omega) (Or.inr c97) rfl ((Fr.kp (k := 9) f111 hk_a0 rfl).trans ((Fr.kp (k := 9) f105 hk_a0 rfl).trans ((Fr.kp (k := 9) f91 hk_a0 rfl).trans (Fr.kp (k := 9) f55 hk_a0 rfl)))) (fun e q j => by have hk := (hS.2.1.refn hz_a0 hk_a0 (show rtR 1 6 = (38, 0, 0) from rfl) q).2.1; exact ((Fr.kpa f111 hk rfl j).trans ((Fr.kpa f105 hk rfl j).trans ((Fr.kpa f91 hk rfl j).trans (Fr.kpa f55 hk rfl j)))))
                        have h127 := SKP.room w126
                        refine tw_tight (k := 1250) (n := 160000) hS hs0 hGR h127.1 h127.2 ?_
                        have w128 : x103.toInt ≤ x124.toInt := by
                          have := (h_a1).1; have := (h_a1).2; have := (h99).1; have := (h99).2; have := (h_mem).1; have := (h_mem).2; have := (h106).1; have := (h106).2; have := (h119).1; have := (h119).2; have := (h122).1; have := (h122).2; have := (h53).1; have := (h53).2; have := (h_x46).1; have := (h_x46).2; have := (h_x48).1; have := (h_x48).2; omega
                        have w129 : x120.toInt ≤ x124.toInt + 1 := by
                          have := (h_a1).1; have := (h_a1).2; have := (h99).1; have := (h99).2; have := (h_mem).1; have := (h_mem).2; have := (h106).1; have := (h106).2; have := (h119).1; have := (h119).2; have := (h122).1; have := (h122).2; have := (h53).1; have := (h53).2; have := (h_x46).1; have := (h_x46).2; have := (h_x48).1; have := (h_x48).2; omega
                        have w130 : SKP Z0 K0 N0 Ra0 Z K N M114 R42 a0 mem.toInt.toNat a2 x103.toInt.toNat := w126
                        have hm131 : 7776 - x124.toInt < (n_41 : Int) := by
                          have := (h_a1).1; have := (h_a1).2; have := (h99).1; have := (h99).2; have := (h_mem).1; have := (h_mem).2; have := (h106).1; have := (h106).2; have := (h119).1; have := (h119).2; have := (h122).1; have := (h122).2; have := (h53).1; have := (h53).2; have := (h_x46).1; have := (h_x46).2; have := (h_x48).1; have := (h_x48).2; omega
                        exact ih_41 Z K N Ma Ra hGR hz_a0 hk_a0 hz_st hk_st hz_be hk_be hn_be hz_en hk_en k_st k_mem k_be k_en x124 x103 x120 M114 R42 J113 H locs _ (iv_mono h122 (by decide) (by decide)) h106 k125 h119 k118 w128 w129 w130 hm131 hS hl
                      · have q132 : ¬ a2.toInt = 0 := ti_ne c97
                        have h133 : iv 1 1 a2 := ⟨by have := (h_a2).1; have := ((iv_c (c := 0) (n := 0) (by decide))).1; have := ((iv_c (c := 0) (n := 0) (by decide))).2; omega, by have := (h_a2).2; have := ((iv_c (c := 0) (n := 0) (by decide))).1; have := ((iv_c (c := 0) (n := 0) (by decide))).2; omega⟩
                        refine lv_aload_n hx hb dX0_search_102 rfl (lv_at hl 2 rfl) ?_
                        obtain ⟨b134, k135, hz_b134, hk_b134, hn_b134⟩ := hS.2.1.ref hz_a0 hk_a0 (show rtR 1 6 = (38, 0, 0) from rfl)
                        have hB_b134 : 64 ≤ N b134 ∧ N b134 ≤ 80000 := (SKP.en w2_41 k135).1
                        have q136 : BKI N M94 a0 b134 mem.toInt.toNat _ := ((SKP.en w2_41 k135).2 c97).to (by have := (h_mem).2; omega) rfl ((Fr.kp (k := 9) f91 hk_a0 rfl).trans (Fr.kp (k := 9) f55 hk_a0 rfl)) (fun j => ((Fr.kpa f91 hk_b134 rfl j).trans (Fr.kpa f55 hk_b134 rfl j)))
                        have k137 : R42 a0 0 = some st := (Fr.kp (k := 0) g45 hk_a0 rfl).trans k_st
                        have k138 : M94 st 0 = mem := ((Fr.kp (k := 0) f91 hk_st rfl).trans ((Fr.kp (k := 0) f55 hk_st rfl).trans (Fr.kp (k := 0) f44 hk_st rfl))).trans k_mem
                        have k139 : M94 a0 10 = x46 := ((Fr.kp (k := 10) f91 hk_a0 rfl).trans (Fr.kp (k := 10) f55 hk_a0 rfl)).trans k47
                        have h140 : iv 0 7775 x46 := by
                          have := (h_a1).1; have := (h_a1).2; have := (h133).1; have := (h133).2; have := (h_mem).1; have := (h_mem).2; have := (h53).1; have := (h53).2; have := (h_x46).1; have := (h_x46).2; have := (h_x48).1; have := (h_x48).2; exact ⟨by omega, by omega⟩
                        obtain ⟨x143, k141⟩ : ∃ x, M94 a0 9 = x := ⟨_, rfl⟩
                        have h142 : iv 0 49995 x143 := by rw [← k141]; exact hS.2.1.int hz_a0 hk_a0 (show rgI 1 9 = (0, 49995) from rfl)
                        have k151 : M94 st 0 = mem := ((Fr.kp (k := 0) f91 hk_st rfl).trans ((Fr.kp (k := 0) f55 hk_st rfl).trans (Fr.kp (k := 0) f44 hk_st rfl))).trans k_mem
                        have k152 : M94 be (5 : Int32).toNatClampNeg = x48 := ((Fr.kp (k := (5 : Int32).toNatClampNeg) f91 hk_be rfl).trans (Fr.kp (k := (5 : Int32).toNatClampNeg) f55 hk_be rfl)).trans k49
                        have k153 : R42 a0 0 = some st := (Fr.kp (k := 0) g45 hk_a0 rfl).trans k_st
                        have k154 : R42 a0 2 = some be := (Fr.kp (k := 2) g45 hk_a0 rfl).trans k_be
                        refine tw_gomv hS (md_runV (As := []) (rest := []) hx hb hml hown hW hK hT hS.1 (t_X0_keep l D cy tx base Z K N M94 R42 J93 hS.2.1 a0 hz_a0 hk_a0 st k137 mem k138 (iv_mono h_mem (by decide) (by decide)) x46 k139 h140 x143 k141 (iv_mono h142 (by decide) (by decide)) b134 k135 hB_b134 q136) s_X0_60 ⟨rfl, rfl, ⟨Nat.le_of_ble_eq_true rfl, Nat.le_of_ble_eq_true rfl⟩, ⟨Nat.le_of_ble_eq_true rfl, Nat.le_of_ble_eq_true rfl⟩⟩ hz_a0 hk_a0 (by decide) rfl rfl hl.1 rfl (Nat.le_of_ble_eq_true rfl) dX0_search_103) rfl rfl (fun H locs Z K N Ma Ra M147 R148 J146 hS g150 f144 g145 E149 => ?_)
                        have k155 : M147 st 0 = mem := f144.kp hz_st hk_st rfl k151
                        have k156 : M147 a0 10 = x46 := f144.kp hz_a0 hk_a0 rfl k139
                        have k157 : M147 be (5 : Int32).toNatClampNeg = x48 := f144.kp hz_be hk_be rfl k152
                        have k158 : R148 a0 0 = some st := g145.kp hz_a0 hk_a0 rfl k153
                        have k159 : R148 a0 2 = some be := g145.kp hz_a0 hk_a0 rfl k154
                        have k_st : Ra a0 0 = some st := GR.r g150 hz_a0 k_st
                        have k_mem : Ma st 0 = mem := GR.m g150 hz_st k_mem
                        have k_be : Ra a0 2 = some be := GR.r g150 hz_a0 k_be
                        have k_en : Ra a0 6 = some en := GR.r g150 hz_a0 k_en
                        have hzo_a0 := hz_a0
                        have hko_a0 := hk_a0
                        have hk_a0 : K a0 = 1 := GR.k g150 hz_a0 hk_a0
                        have hzo_st := hz_st
                        have hko_st := hk_st
                        have hk_st : K st = 10 := GR.k g150 hz_st hk_st
                        have hzo_be := hz_be
                        have hko_be := hk_be
                        have hk_be : K be = 37 := GR.k g150 hz_be hk_be
                        have hn_be : N be = 10 := GR.n g150 hz_be hn_be
                        have hzo_en := hz_en
                        have hko_en := hk_en
                        have eN_en := GR.n g150 hz_en rfl
                        have hk_en : K en = 38 := GR.k g150 hz_en hk_en
                        have hzo_b134 := hz_b134
                        have hko_b134 := hk_b134
                        have eN_b134 := GR.n g150 hz_b134 rfl
                        have hk_b134 : K b134 = 38 := GR.k g150 hz_b134 hk_b134
                        have hB_b134 : 64 ≤ N b134 ∧ N b134 ≤ 80000 := by rw [eN_b134]; exact hB_b134
                        have hz_a0 : a0 < Z := GR.z g150 hz_a0
                        have hz_st : st < Z := GR.z g150 hz_st
                        have hz_be : be < Z := GR.z g150 hz_be
                        have hz_en : en < Z := GR.z g150 hz_en
                        have hz_b134 : b134 < Z := GR.z g150 hz_b134
                        have hGR := GR.tr hGR g150
                        have f160 := hS.2.2.1
                        have g161 := hS.2.2.2
                        have p162 := E149
                        clear E149
                        refine lv_aload_n hx hb dX0_search_106 rfl (lv_at hl 2 rfl) ?_
                        refine lv_dup hx hb dX0_search_107 rfl ?_
                        refine tw_getk hx hb hW hown hK hS f_X0_41_0 hz_a0 hk_a0 (v := x46) k156 dX0_search_108 ?_
                        refine lv_iconst (v := 1) hx hb dX0_search_111 (by decide) ?_
                        refine tw_iadd (lo := 1) (hi := 7777) hx hb h_x46 (iv_c (c := 1) (n := 1) (by decide)) ⟨by decide, by decide⟩ ⟨by decide, by decide⟩ dX0_search_112 (fun x165 e164 h163 => ?_)
                        have e164 : x165.toInt = x46.toInt + 1 := e164
                        have h168 : iv 0 7776 x165 := by
                          have := (h_a1).1; have := (h_a1).2; have := (h133).1; have := (h133).2; have := (h_mem).1; have := (h_mem).2; have := (h163).1; have := (h163).2; have := (h53).1; have := (h53).2; have := (h_x46).1; have := (h_x46).2; have := (h_x48).1; have := (h_x48).2; exact ⟨by omega, by omega⟩
                        refine tw_puti hx hb hW hown hK hS f_X0_41_0 hz_a0 hk_a0 rfl rfl (lo := 0) (hi := 7776) rfl h168 rfl dX0_search_113 (fun H locs M169 hS k166 f167 => ?_)
                        refine lv_aload_n hx hb dX0_search_116 rfl (lv_at hl 2 rfl) ?_
                        refine lv_iload_n hx hb dX0_search_117 rfl (lv_at hl 3 rfl) ?_
                        have k170 : M169 be (5 : Int32).toNatClampNeg = x48 := (Fr.kp (k := (5 : Int32).toNatClampNeg) f167 hk_be rfl).trans k157
                        have h171 : iv 0 9998 x48 := by
                          have := (h_a1).1; have := (h_a1).2; have := (h133).1; have := (h133).2; have := (h_mem).1; have := (h_mem).2; have := (h168).1; have := (h168).2; have := (h53).1; have := (h53).2; have := (h_x46).1; have := (h_x46).2; have := (h_x48).1; have := (h_x48).2; exact ⟨by omega, by omega⟩
                        refine tw_gov hS (md_runV (As := [.int a1]) (rest := []) hx hb hml hown hW hK hT hS.1 (t_X0_stepOn l D cy tx base Z K N M169 R148 J146 hS.2.1 a0 hz_a0 hk_a0 a1 h_a1 be k159 x48 k170 h171) s_X0_63 ⟨rfl, rfl, ⟨Nat.le_of_ble_eq_true rfl, Nat.le_of_ble_eq_true rfl⟩, ⟨Nat.le_of_ble_eq_true rfl, Nat.le_of_ble_eq_true rfl⟩⟩ hz_a0 hk_a0 (by decide) rfl rfl hl.1 rfl (Nat.le_of_ble_eq_true rfl) dX0_search_118) rfl rfl (fun H locs M175 R176 J174 hS f172 g173 E177 => ?_)
                        have eR176 := Fr.nil g173 rfl
                        subst eR176
                        have p178 := E177
                        clear E177
                        obtain ⟨x181, k179, h180, q182⟩ := p178
                        have k179 : M175 be (5 : Int32).toNatClampNeg = x181 := k179
                        refine tw_iinc (lv' := fun x185 => [(4, .int x185), (3, .int x23), (0, .ref (base + a0)), (1, .int a1), (2, .int a2)]) (lo := 1) (hi := 7776) hx hb dX0_search_121 hl (k := 0) rfl h53 (by decide) ⟨by decide, by decide⟩ ⟨by decide, by decide⟩ (by decide) (fun _ => rfl) (fun x185 ls e184 h183 hl => ?_)
                        refine lv_goto (tgt := 81) hx hb dX0_search_124 (by decide) ?_
                        have k186 : M175 a0 10 = x165 := (Fr.kp (k := 10) f172 hk_a0 rfl).trans k166
                        have q188 : x165.toInt.toNat = x46.toInt.toNat + 1 := by
                          have := (h_a1).1; have := (h_a1).2; have := (h133).1; have := (h133).2; have := (h_mem).1; have := (h_mem).2; have := (h168).1; have := (h168).2; have := (h180).1; have := (h180).2; have := (h183).1; have := (h183).2; have := (h53).1; have := (h53).2; have := (h_x46).1; have := (h_x46).2; have := (h_x48).1; have := (h_x48).2; omega
                        have w187 : SKP Z0 K0 N0 Ra0 Z K N M175 R148 a0 mem.toInt.toNat a2 x165.toInt.toNat := by rw [q188]; exact SKP.keep w2_41 rfl p162 (by have := (h_mem).2; omega) rfl ((Fr.kp (k := 9) f172 hk_a0 rfl).trans (Fr.kp (k := 9) f167 hk_a0 rfl)) (fun e q j => by have hk := (hS.2.1.refn hz_a0 hk_a0 (show rtR 1 6 = (38, 0, 0) from rfl) q).2.1; exact ((Fr.kpa f172 hk rfl j).trans (Fr.kpa f167 hk rfl j)))
                        have h189 := SKP.room w187
                        refine tw_tight (k := 1250) (n := 160000) hS hs0 hGR h189.1 h189.2 ?_
                        have w190 : x165.toInt ≤ x185.toInt := by
                          have := (h_a1).1; have := (h_a1).2; have := (h133).1; have := (h133).2; have := (h_mem).1; have := (h_mem).2; have := (h168).1; have := (h168).2; have := (h180).1; have := (h180).2; have := (h183).1; have := (h183).2; have := (h53).1; have := (h53).2; have := (h_x46).1; have := (h_x46).2; have := (h_x48).1; have := (h_x48).2; omega
                        have w191 : x181.toInt ≤ x185.toInt + 1 := by
                          have := (h_a1).1; have := (h_a1).2; have := (h133).1; have := (h133).2; have := (h_mem).1; have := (h_mem).2; have := (h168).1; have := (h168).2; have := (h180).1; have := (h180).2; have := (h183).1; have := (h183).2; have := (h53).1; have := (h53).2; have := (h_x46).1; have := (h_x46).2; have := (h_x48).1; have := (h_x48).2; omega
                        have w192 : SKP Z0 K0 N0 Ra0 Z K N M175 R148 a0 mem.toInt.toNat a2 x165.toInt.toNat := w187
                        have hm193 : 7776 - x185.toInt < (n_41 : Int) := by
                          have := (h_a1).1; have := (h_a1).2; have := (h133).1; have := (h133).2; have := (h_mem).1; have := (h_mem).2; have := (h168).1; have := (h168).2; have := (h180).1; have := (h180).2; have := (h183).1; have := (h183).2; have := (h53).1; have := (h53).2; have := (h_x46).1; have := (h_x46).2; have := (h_x48).1; have := (h_x48).2; omega
                        exact ih_41 Z K N Ma Ra hGR hz_a0 hk_a0 hz_st hk_st hz_be hk_be hn_be hz_en hk_en k_st k_mem k_be k_en x185 x165 x181 M175 R148 J174 H locs _ (iv_mono h183 (by decide) (by decide)) h168 k186 h180 k179 w190 w191 w192 hm193 hS hl
              refine W.widen (k := 1250) (n := 160000) (Nat.le_of_ble_eq_true rfl) (Nat.le_of_ble_eq_true rfl) ?_
              have w194 : x30.toInt ≤ (0 : Int32).toInt := by
                have := (h_a1).1; have := (h_a1).2; have := (h_a2).1; have := (h_a2).2; have := (h_mem).1; have := (h_mem).2; have := (h_x30).1; have := (h_x30).2; have : (0 : Int32).toInt = 0 := (by decide); omega
              have w195 : x32.toInt ≤ (0 : Int32).toInt + 1 := by
                have := (h_a1).1; have := (h_a1).2; have := (h_a2).1; have := (h_a2).2; have := (h_mem).1; have := (h_mem).2; have := (h_x32).1; have := (h_x32).2; have : (0 : Int32).toInt = 0 := (by decide); omega
              have q197 : x30.toInt = 0 := by
                have := (h_a1).1; have := (h_a1).2; have := (h_a2).1; have := (h_a2).2; have := (h_mem).1; have := (h_mem).2; have := (h_x30).1; have := (h_x30).2; omega
              have w196 : SKP Z0 K0 N0 Ra0 Z K N M25 R26 a0 mem.toInt.toNat a2 x30.toInt.toNat := SKP.start hE0 k_en k34 hB_en q197
              have hm198 : 7776 - (0 : Int32).toInt < (((7777 : Nat) : Int) : Int) := by
                have := (h_a1).1; have := (h_a1).2; have := (h_a2).1; have := (h_a2).2; have := (h_mem).1; have := (h_mem).2; have : (0 : Int32).toInt = 0 := (by decide); omega
              exact W81_41 7777 Z K N Ma Ra hGR hz_a0 hk_a0 hz_st hk_st hz_be hk_be hn_be hz_en hk_en k_st k_mem k_be k_en 0 x30 x32 M25 R26 J27 H locs _ (iv_mono (iv_c (c := 0) (n := 0) (by decide)) (by decide) (by decide)) (iv_mono h_x30 (by decide) (by decide)) k31 h_x32 k33 w194 w195 w196 hm198 hS hl
            · have q199 : x24.toInt < mem.toInt := ti_nle c37
              have h200 : iv 0 4 x24 := iv_ltL (y := mem) h_x24 h_mem q199 (by decide)
              refine lv_iload hx hb dX0_search_62 (lv_at hl 1 rfl) ?_
              refine lv_iconst (v := 5) hx hb dX0_search_64 (by decide) ?_
              refine lv_icmp_ge (tgt := 78) hx hb dX0_search_65 (by decide) (fun c201 => False.elim (by have q : 5 ≤ x24.toInt := ti_le c201; have := (h200).1; have := (h200).2; omega)) (fun c201 => ?_)
              have q202 : x24.toInt < 5 := ti_nle c201
              refine lv_iload_n hx hb dX0_search_68 rfl (lv_at hl 0 rfl) ?_
              refine lv_iload_n hx hb dX0_search_69 rfl (lv_at hl 3 rfl) ?_
              refine tw_imulp (lo := 0) (hi := 46656) hx hb h_x23 h_a1 ⟨by decide, by decide⟩ (by decide) ⟨by decide, by decide⟩ dX0_search_70 (fun x206 e204 h203 => ?_)
              have q205 : x206.toInt ≤ x23.toInt * 6 := by rw [e204]; exact Int.mul_le_mul_of_nonneg_left (h_a1).2 (h_x23).1
              clear e204
              refine lv_istore_n (lv' := [(3, .int x206), (4, .int x24), (0, .ref (base + a0)), (1, .int a1), (2, .int a2)]) hx hb dX0_search_71 rfl hl (by decide) rfl (fun ls hl => ?_)
              refine tw_iinc (lv' := fun x209 => [(4, .int x209), (3, .int x206), (0, .ref (base + a0)), (1, .int a1), (2, .int a2)]) (lo := 1) (hi := 5) hx hb dX0_search_72 hl (k := 1) rfl h200 (by decide) ⟨by decide, by decide⟩ ⟨by decide, by decide⟩ (by decide) (fun _ => rfl) (fun x209 ls e208 h207 hl => ?_)
              refine lv_goto (tgt := 50) hx hb dX0_search_75 (by decide) ?_
              have h210 : iv 0 7776 x206 := by
                have := (h_a1).1; have := (h_a1).2; have := (h_a2).1; have := (h_a2).2; have := (h_mem).1; have := (h_mem).2; have := (h203).1; have := (h203).2; have := (h207).1; have := (h207).2; have := (h_x23).1; have := (h_x23).2; have := (h200).1; have := (h200).2; exact ⟨by omega, by omega⟩
              have w211 : x30.toInt = 0 := by
                have := (h_a1).1; have := (h_a1).2; have := (h_a2).1; have := (h_a2).2; have := (h_mem).1; have := (h_mem).2; have := (h_x30).1; have := (h_x30).2; omega
              have w212 : x32.toInt ≤ 1 := by
                have := (h_a1).1; have := (h_a1).2; have := (h_a2).1; have := (h_a2).2; have := (h_mem).1; have := (h_mem).2; have := (h_x32).1; have := (h_x32).2; omega
              have w213 : ((x209.toInt = 0 ∧ x206.toInt ≤ 1) ∨ (x209.toInt = 1 ∧ x206.toInt ≤ 6) ∨ (x209.toInt = 2 ∧ x206.toInt ≤ 36) ∨ (x209.toInt = 3 ∧ x206.toInt ≤ 216) ∨ (x209.toInt = 4 ∧ x206.toInt ≤ 1296) ∨ (x209.toInt = 5 ∧ x206.toInt ≤ 7776)) := by
                have := (h_a1).1; have := (h_a1).2; have := (h_a2).1; have := (h_a2).2; have := (h_mem).1; have := (h_mem).2; have := (h203).1; have := (h203).2; have := (h207).1; have := (h207).2; have := (h_x23).1; have := (h_x23).2; have := (h200).1; have := (h200).2; omega
              have hm214 : 5 - x209.toInt < (n_25 : Int) := by
                have := (h_a1).1; have := (h_a1).2; have := (h_a2).1; have := (h_a2).2; have := (h_mem).1; have := (h_mem).2; have := (h203).1; have := (h203).2; have := (h207).1; have := (h207).2; have := (h_x23).1; have := (h_x23).2; have := (h200).1; have := (h200).2; omega
              exact ih_25 x206 x209 x30 x32 M25 R26 J27 H locs _ h210 (iv_mono h207 (by decide) (by decide)) h_x30 k31 h_x32 k33 k34 w211 w212 w213 hm214 hS (lv_sub hl [1, 0, 2, 3, 4] rfl)
        have w215 : x13.toInt = 0 := by
          have := (h_a1).1; have := (h_a1).2; have := (h_a2).1; have := (h_a2).2; have := (h_mem).1; have := (h_mem).2; have := (h_x13).1; have := (h_x13).2; omega
        have w216 : x21.toInt ≤ 1 := by
          have := (h_a1).1; have := (h_a1).2; have := (h_a2).1; have := (h_a2).2; have := (h_mem).1; have := (h_mem).2; have := (h20).1; have := (h20).2; omega
        have w217 : (((0 : Int32).toInt = 0 ∧ (1 : Int32).toInt ≤ 1) ∨ ((0 : Int32).toInt = 1 ∧ (1 : Int32).toInt ≤ 6) ∨ ((0 : Int32).toInt = 2 ∧ (1 : Int32).toInt ≤ 36) ∨ ((0 : Int32).toInt = 3 ∧ (1 : Int32).toInt ≤ 216) ∨ ((0 : Int32).toInt = 4 ∧ (1 : Int32).toInt ≤ 1296) ∨ ((0 : Int32).toInt = 5 ∧ (1 : Int32).toInt ≤ 7776)) := by
          have := (h_a1).1; have := (h_a1).2; have := (h_a2).1; have := (h_a2).2; have := (h_mem).1; have := (h_mem).2; have : (0 : Int32).toInt = 0 := (by decide); have : (1 : Int32).toInt = 1 := (by decide); omega
        have hm218 : 5 - (0 : Int32).toInt < (((6 : Nat) : Int) : Int) := by
          have := (h_a1).1; have := (h_a1).2; have := (h_a2).1; have := (h_a2).2; have := (h_mem).1; have := (h_mem).2; have : (0 : Int32).toInt = 0 := (by decide); omega
        exact W50_25 6 1 0 x13 x21 M8 R9 J10 H locs _ (iv_mono (iv_c (c := 1) (n := 1) (by decide)) (by decide) (by decide)) (iv_mono (iv_c (c := 0) (n := 0) (by decide)) (by decide) (by decide)) h_x13 k14 h20 k19 k15 w215 w216 w217 hm218 hS (lv_sub hl [1, 0, 2, 3, 4] rfl)
      · have q219 : x7.toInt < 10 := ti_nle c16
        have h220 : iv 0 9 x7 := iv_ltL (y := 10) h_x7 (iv_c (c := 10) (n := 10) (by decide)) q219 (by decide)
        refine lv_aload_n hx hb dX0_search_18 rfl (lv_at hl 1 rfl) ?_
        have k221 : R9 a0 2 = some be := (Fr.kp (k := 2) g12 hk_a0 rfl).trans k_be
        refine tw_getrk hx hb hW hown hK hS f_X0_9_0 hz_a0 hk_a0 (b := be) k221 dX0_search_19 ?_
        refine lv_iload_n hx hb dX0_search_22 rfl (lv_at hl 0 rfl) ?_
        refine lv_iconst (v := 1) hx hb dX0_search_23 (by decide) ?_
        refine tw_iasx hx hb hK hS hz_be hk_be (Or.inr (by decide)) hn_be h220 ⟨by decide, by decide⟩ (iv_mono (iv_c (c := 1) (n := 1) (by decide)) (lo := 0) (hi := 9999) (by decide) (by decide)) (jl := 0) (jh := 1999999) ⟨by decide, by decide⟩ rfl dX0_search_24 (fun H locs M225 hS k222 f223 e224 => ?_)
        refine lv_aload_n hx hb dX0_search_25 rfl (lv_at hl 1 rfl) ?_
        refine tw_getr hx hb hW hown hK hS f_X0_18_0 hz_a0 hk_a0 (t := 14) (n := 10) rfl dX0_search_26 (fun b226 k227 hz_b226 hk_b226 hn_b226 => ?_)
        have hn_b226 := hn_b226 (by decide)
        refine lv_iload_n hx hb dX0_search_29 rfl (lv_at hl 0 rfl) ?_
        refine lv_iload_n hx hb dX0_search_30 rfl (lv_at hl 2 rfl) ?_
        refine tw_iast hx hb hK hS hz_b226 hk_b226 (Or.inl rfl) hn_b226 h220 ⟨by decide, by decide⟩ h_a1 (rg_s14 ⟨by decide, by decide⟩) (jl := 0) (jh := 1999999) ⟨by decide, by decide⟩ rfl dX0_search_31 (fun H locs M230 hS k228 f229 => ?_)
        refine lv_aload_n hx hb dX0_search_32 rfl (lv_at hl 1 rfl) ?_
        refine tw_getr hx hb hW hown hK hS f_X0_21_0 hz_a0 hk_a0 (t := 14) (n := 10) rfl dX0_search_33 (fun b231 k232 hz_b231 hk_b231 hn_b231 => ?_)
        have hn_b231 := hn_b231 (by decide)
        refine lv_iload_n hx hb dX0_search_36 rfl (lv_at hl 0 rfl) ?_
        refine lv_iconst (v := 1) hx hb dX0_search_37 (by decide) ?_
        refine tw_iast hx hb hK hS hz_b231 hk_b231 (Or.inl rfl) hn_b231 h220 ⟨by decide, by decide⟩ (iv_c (c := 1) (n := 1) (by decide)) (rg_s14 ⟨by decide, by decide⟩) (jl := 0) (jh := 1999999) ⟨by decide, by decide⟩ rfl dX0_search_38 (fun H locs M235 hS k233 f234 => ?_)
        refine tw_iinc (lv' := fun x238 => [(3, .int x238), (0, .ref (base + a0)), (1, .int a1), (2, .int a2)]) (lo := 1) (hi := 10) hx hb dX0_search_39 hl (k := 0) rfl h220 (by decide) ⟨by decide, by decide⟩ ⟨by decide, by decide⟩ (by decide) (fun _ => rfl) (fun x238 ls e237 h236 hl => ?_)
        refine lv_goto (tgt := 12) hx hb dX0_search_42 (by decide) ?_
        have k239 : M235 a0 10 = x13 := ((Fr.kp (k := 10) f234 hk_a0 rfl).trans ((Fr.kp (k := 10) f229 hk_a0 rfl).trans (Fr.kp (k := 10) f223 hk_a0 rfl))).trans k14
        have w240 : x13.toInt = 0 := by
          have := (h_a1).1; have := (h_a1).2; have := (h_a2).1; have := (h_a2).2; have := (h_mem).1; have := (h_mem).2; have := (h_x13).1; have := (h_x13).2; omega
        have q242 : 0 ≤ x7.toInt := by
          have := (h_a1).1; have := (h_a1).2; have := (h_a2).1; have := (h_a2).2; have := (h_mem).1; have := (h_mem).2; have := (h236).1; have := (h236).2; have := (h220).1; have := (h220).2; omega
        have q243 : x238.toInt = x7.toInt + 1 := by
          have := (h_a1).1; have := (h_a1).2; have := (h_a2).1; have := (h_a2).2; have := (h_mem).1; have := (h_mem).2; have := (h236).1; have := (h236).2; have := (h220).1; have := (h220).2; omega
        have w241 : B5 M235 be x238.toInt := B5.add w1_8 q242 q243 e224 ((Fr.kp (k := 5) f234 hk_be rfl).trans (Fr.kp (k := 5) f229 hk_be rfl))
        have hm244 : 10 - x238.toInt < (n_8 : Int) := by
          have := (h_a1).1; have := (h_a1).2; have := (h_a2).1; have := (h_a2).2; have := (h_mem).1; have := (h_mem).2; have := (h236).1; have := (h236).2; have := (h220).1; have := (h220).2; omega
        exact ih_8 x238 x13 M235 R9 J10 H locs _ (iv_mono h236 (by decide) (by decide)) h_x13 k239 k15 w240 w241 hm244 hS hl
  have k245 : M6 a0 10 = 0 := (Fr.kp (k := 10) f5 hk_a0 rfl).trans k1
  have w246 : (0 : Int32).toInt = 0 := by
    have := (h_a1).1; have := (h_a1).2; have := (h_a2).1; have := (h_a2).2; have := (h_mem).1; have := (h_mem).2; have : (0 : Int32).toInt = 0 := (by decide); omega
  have w247 : B5 M6 be (0 : Int32).toInt := B5.z
  have hm248 : 10 - (0 : Int32).toInt < (((11 : Nat) : Int) : Int) := by
    have := (h_a1).1; have := (h_a1).2; have := (h_a2).1; have := (h_a2).2; have := (h_mem).1; have := (h_mem).2; have : (0 : Int32).toInt = 0 := (by decide); omega
  exact W12_8 11 0 0 M6 Ra Ja H locs _ (iv_mono (iv_c (c := 0) (n := 0) (by decide)) (by decide) (by decide)) (iv_c (c := 0) (n := 0) (by decide)) k245 k_en w246 w247 hm248 hS hl
def Lt_X0_seekTelling : WL := [(1, 11, 13), (39, 0, 2000000), (40, 0, 2000000)]
def LRt_X0_seekTelling : WL := [(1, 7, 9)]
set_option maxRecDepth 100000 in
set_option maxHeartbeats 4000000 in
theorem t_X0_seekTelling (l : Launch) (D : va_G) (cy : Nat → ClassId) (tx : (Nat → Nat) × (Nat → Nat)) (base Z0 : Nat) (K0 N0 : Nat → Nat) (Ma0 : MT) (Ra0 : RT) (Ja : JT) (hTy : Ty Z0 K0 N0 Ma0 Ra0) (a0 : Nat) (hz_a0 : a0 < Z0) (hk_a0 : K0 a0 = 1) (st : Nat) (k_st : Ra0 a0 0 = some st) (mem : Int32) (k_mem : Ma0 st 0 = mem) (h_mem : iv 1 5 mem) (fo : Int32) (k_fo : Ma0 a0 10 = fo) (h_fo : iv 0 7776 fo) (hi : Int32) (k_hi : Ma0 a0 9 = hi) (h_hi : iv 0 49995 hi) (en : Nat) (k_en : Ra0 a0 6 = some en) (ta : Nat) (k_ta : Ra0 a0 7 = some ta) (su : Nat) (k_su : Ra0 a0 8 = some su) (hB_ta : 64 ≤ N0 ta ∧ N0 ta ≤ 100000) (hB_su : 64 ≤ N0 su ∧ N0 su ≤ 16000) (hBK : BKI N0 Ma0 a0 en mem.toInt.toNat fo.toInt.toNat) : Met l yX0_seekTelling [Cond.code yX0_seekTelling cX0_seekTelling 3 none] (md_rm 3 2 200000) (va_Pc [.ref (base + a0)] (md_U D cy tx base Z0 K0 N0 Ma0 Ra0 Ja)) (mQv D cy tx base (fun u => TM Z0 K0 N0 Lt_X0_seekTelling LRt_X0_seekTelling Ma0 Ra0 u ∧ (TQ Z0 K0 N0 Ra0 a0 u))) 2 200000 (fun q => base ≤ q) := by
  refine tw_ofW (L := Lt_X0_seekTelling) (LR := LRt_X0_seekTelling) (by decide) (Nat.le_of_ble_eq_true rfl) hTy ?_
  intro p e s m args below meth c Q ls hx hb hr hlocks hown hml hW hK hT hS hQ hl
  have hl : lv_has ls 3 [(0, .ref (base + a0))] := hl
  have hs0 : s.heap.size = base + Z0 := hS.1.2.1
  obtain ⟨Z, K, N, Ma, Ra, hE0, hGR, hTy, hS, hz_a0, hk_a0, k_st, k_mem, k_fo, k_hi, k_en, k_ta, k_su, hB_ta, hB_su, hBK⟩ : ∃ (Z : Nat) (K N : Nat → Nat) (Ma : MT) (Ra : RT), (Z = Z0 ∧ K = K0 ∧ N = N0 ∧ Ma = Ma0 ∧ Ra = Ra0) ∧ GR Z0 K0 N0 Ma0 Ra0 Z K N Ma Ra ∧ Ty Z K N Ma Ra ∧ SB D cy base Z K N Lt_X0_seekTelling LRt_X0_seekTelling Ma Ra Ma Ra Ja s s.heap [] ∧ (a0 < Z) ∧ (K a0 = 1) ∧ (Ra a0 0 = some st) ∧ (Ma st 0 = mem) ∧ (Ma a0 10 = fo) ∧ (Ma a0 9 = hi) ∧ (Ra a0 6 = some en) ∧ (Ra a0 7 = some ta) ∧ (Ra a0 8 = some su) ∧ (64 ≤ N ta ∧ N ta ≤ 100000) ∧ (64 ≤ N su ∧ N su ≤ 16000) ∧ (BKI N Ma a0 en mem.toInt.toNat fo.toInt.toNat) := ⟨Z0, K0, N0, Ma0, Ra0, ⟨rfl, rfl, rfl, rfl, rfl⟩, GR.rf, hTy, hS, hz_a0, hk_a0, k_st, k_mem, k_fo, k_hi, k_en, k_ta, k_su, hB_ta, hB_su, hBK⟩
  obtain ⟨hz_st, hk_st, hn_st⟩ := hTy.refn hz_a0 hk_a0 (show rtR 1 0 = (10, 0, 0) from rfl) k_st
  obtain ⟨hz_en, hk_en, hn_en⟩ := hTy.refn hz_a0 hk_a0 (show rtR 1 6 = (38, 0, 0) from rfl) k_en
  obtain ⟨hz_ta, hk_ta, hn_ta⟩ := hTy.refn hz_a0 hk_a0 (show rtR 1 7 = (39, 0, 0) from rfl) k_ta
  obtain ⟨hz_su, hk_su, hn_su⟩ := hTy.refn hz_a0 hk_a0 (show rtR 1 8 = (40, 0, 0) from rfl) k_su
  have hto := k_ta
  have hso := k_su
  refine lv_aload_n hx hb dX0_seekTelling_0 rfl (lv_at hl 0 rfl) ?_
  refine lv_iconst (v := 1) hx hb dX0_seekTelling_1 (by decide) ?_
  refine tw_puti hx hb hW hown hK hS f_X0_102_0 hz_a0 hk_a0 rfl rfl (lo := (-2147483648)) (hi := 2147483647) rfl (iv_mono (iv_c (c := 1) (n := 1) (by decide)) (by decide) (by decide)) rfl dX0_seekTelling_2 (fun H locs M3 hS k1 f2 => ?_)
  refine lv_aload_n hx hb dX0_seekTelling_5 rfl (lv_at hl 0 rfl) ?_
  refine lv_aload_n hx hb dX0_seekTelling_6 rfl (lv_at hl 0 rfl) ?_
  have k4 : M3 a0 10 = fo := (Fr.kp (k := 10) f2 hk_a0 rfl).trans k_fo
  refine tw_getk hx hb hW hown hK hS f_X0_41_0 hz_a0 hk_a0 (v := fo) k4 dX0_seekTelling_7 ?_
  refine tw_puti hx hb hW hown hK hS f_X0_105_0 hz_a0 hk_a0 rfl rfl (lo := (-2147483648)) (hi := 2147483647) rfl (iv_mono h_fo (by decide) (by decide)) rfl dX0_seekTelling_10 (fun H locs M7 hS k5 f6 => ?_)
  refine lv_aload_n hx hb dX0_seekTelling_13 rfl (lv_at hl 0 rfl) ?_
  refine lv_aload_n hx hb dX0_seekTelling_14 rfl (lv_at hl 0 rfl) ?_
  refine tw_getrk hx hb hW hown hK hS f_X0_30_0 hz_a0 hk_a0 (b := su) k_su dX0_seekTelling_15 ?_
  refine lv_aload_n hx hb dX0_seekTelling_18 rfl (lv_at hl 0 rfl) ?_
  have k8 : M7 a0 10 = fo := ((Fr.kp (k := 10) f6 hk_a0 rfl).trans (Fr.kp (k := 10) f2 hk_a0 rfl)).trans k_fo
  refine tw_getk hx hb hW hown hK hS f_X0_41_0 hz_a0 hk_a0 (v := fo) k8 dX0_seekTelling_19 ?_
  have q9 : BKI N M7 a0 en mem.toInt.toNat fo.toInt.toNat := hBK.to (by have := (h_mem).2; omega) rfl ((Fr.kp (k := 9) f6 hk_a0 rfl).trans (Fr.kp (k := 9) f2 hk_a0 rfl)) (fun j => ((Fr.kpa f6 hk_en rfl j).trans (Fr.kpa f2 hk_en rfl j)))
  have k18 : M7 st 0 = mem := ((Fr.kp (k := 0) f6 hk_st rfl).trans (Fr.kp (k := 0) f2 hk_st rfl)).trans k_mem
  have k19 : M7 a0 10 = fo := ((Fr.kp (k := 10) f6 hk_a0 rfl).trans (Fr.kp (k := 10) f2 hk_a0 rfl)).trans k_fo
  have k20 : M7 a0 9 = hi := ((Fr.kp (k := 9) f6 hk_a0 rfl).trans (Fr.kp (k := 9) f2 hk_a0 rfl)).trans k_hi
  have k21 : M7 a0 11 = 1 := (Fr.kp (k := 11) f6 hk_a0 rfl).trans k1
  refine tw_gomr hS (md_runS (As := [.ref (base + su), .int fo]) (rest := [.ref (base + a0)]) hx hb hml hown hW hK hT hS.1 (t_X0_roomFor l D cy tx base Z K N M7 Ra Ja hS.2.1 su hz_su hk_su fo h_fo ⟨hB_su.1, Nat.le_trans hB_su.2 (by decide)⟩) s_X0_98 ⟨rfl, rfl, ⟨Nat.le_of_ble_eq_true rfl, Nat.le_of_ble_eq_true rfl⟩, ⟨Nat.le_of_ble_eq_true rfl, Nat.le_of_ble_eq_true rfl⟩⟩ rfl hl.1 rfl (Nat.le_of_ble_eq_true rfl) dX0_seekTelling_22) rfl rfl (fun x16 H locs Z K N Ma Ra M13 R14 J12 hS g17 f10 g11 E15 => ?_)
  have k22 : M13 st 0 = mem := f10.kp hz_st hk_st rfl k18
  have k23 : M13 a0 10 = fo := f10.kp hz_a0 hk_a0 rfl k19
  have k24 : M13 a0 9 = hi := f10.kp hz_a0 hk_a0 rfl k20
  have k25 : M13 a0 11 = 1 := f10.kp hz_a0 hk_a0 rfl k21
  have k26 : M13 a0 12 = fo := f10.kp hz_a0 hk_a0 rfl k5
  have k27 : R14 a0 0 = some st := g11.kp hz_a0 hk_a0 rfl k_st
  have k28 : R14 a0 6 = some en := g11.kp hz_a0 hk_a0 rfl k_en
  have k29 : R14 a0 7 = some ta := g11.kp hz_a0 hk_a0 rfl k_ta
  have k30 : R14 a0 8 = some su := g11.kp hz_a0 hk_a0 rfl k_su
  have k_st : Ra a0 0 = some st := GR.r g17 hz_a0 k_st
  have k_mem : Ma st 0 = mem := GR.m g17 hz_st k_mem
  have k_fo : Ma a0 10 = fo := GR.m g17 hz_a0 k_fo
  have k_hi : Ma a0 9 = hi := GR.m g17 hz_a0 k_hi
  have k_en : Ra a0 6 = some en := GR.r g17 hz_a0 k_en
  have k_ta : Ra a0 7 = some ta := GR.r g17 hz_a0 k_ta
  have k_su : Ra a0 8 = some su := GR.r g17 hz_a0 k_su
  have hzo_a0 := hz_a0
  have hko_a0 := hk_a0
  have hk_a0 : K a0 = 1 := GR.k g17 hz_a0 hk_a0
  have hzo_st := hz_st
  have hko_st := hk_st
  have hk_st : K st = 10 := GR.k g17 hz_st hk_st
  have hzo_en := hz_en
  have hko_en := hk_en
  have eN_en := GR.n g17 hz_en rfl
  have hk_en : K en = 38 := GR.k g17 hz_en hk_en
  have hzo_ta := hz_ta
  have hko_ta := hk_ta
  have eN_ta := GR.n g17 hz_ta rfl
  have hk_ta : K ta = 39 := GR.k g17 hz_ta hk_ta
  have hzo_su := hz_su
  have hko_su := hk_su
  have eN_su := GR.n g17 hz_su rfl
  have hk_su : K su = 40 := GR.k g17 hz_su hk_su
  have hB_ta : 64 ≤ N ta ∧ N ta ≤ 100000 := by rw [eN_ta]; exact hB_ta
  have hB_su : 64 ≤ N su ∧ N su ≤ 16000 := by rw [eN_su]; exact hB_su
  have hz_a0 : a0 < Z := GR.z g17 hz_a0
  have hz_st : st < Z := GR.z g17 hz_st
  have hz_en : en < Z := GR.z g17 hz_en
  have hz_ta : ta < Z := GR.z g17 hz_ta
  have hz_su : su < Z := GR.z g17 hz_su
  have hGR := GR.tr hGR g17
  have f31 := hS.2.2.1
  have g32 := hS.2.2.2
  have p33 := E15
  clear E15
  have hz_x16 : x16 < Z := p33.1
  have hk_x16 : K x16 = 40 := p33.2.1.trans ((g17.2.1 su hzo_su).1.symm.trans hk_su)
  have hsz_x16 : fo.toInt ≤ (N x16 : Int) := p33.2.2.1
  have hpg_x16 := RF.pg p33 g17 (by rw [← eN_su]; exact hB_su.1) (by rw [← (g17.2.1 su hzo_su).1, hk_su]; decide)
  have hB_x16 : 64 ≤ N x16 ∧ N x16 ≤ 16000 := by
    have q1 := hB_su; have q2 := eN_su; have q4 := (h_fo).2; rcases p33.2.2.2.2 with ⟨-, -, q3⟩ | ⟨-, -, q3, q5⟩; (· have q3 : N x16 = _ := q3; omega); (· have q3 : 2 * _ ≤ N x16 := q3; have q5 : (N x16 : Int) ≤ _ := q5; omega)
  have q34 : BKI N M13 a0 en mem.toInt.toNat fo.toInt.toNat := q9.to (by have := (h_mem).2; omega) eN_en (FrB.kp f10 hzo_a0 hko_a0 rfl rfl) (fun j => FrB.kpa f10 hzo_en hko_en rfl j)
  have eNk1 := eN_ta
  refine tw_putr hx hb hW hown hK hS f_X0_30_0 hz_a0 hk_a0 rfl rfl (t := 40) (n := 0) rfl hz_x16 hk_x16 (fun h => absurd rfl h) rfl dX0_seekTelling_25 (fun H locs R37 hS k35 f36 => ?_)
  refine lv_aload_n hx hb dX0_seekTelling_28 rfl (lv_at hl 0 rfl) ?_
  refine lv_aload_n hx hb dX0_seekTelling_29 rfl (lv_at hl 0 rfl) ?_
  have k38 : R37 a0 7 = some ta := (Fr.kp (k := 7) f36 hk_a0 rfl).trans k29
  refine tw_getrk hx hb hW hown hK hS f_X0_27_0 hz_a0 hk_a0 (b := ta) k38 dX0_seekTelling_30 ?_
  refine lv_aload_n hx hb dX0_seekTelling_33 rfl (lv_at hl 0 rfl) ?_
  refine tw_getk hx hb hW hown hK hS f_X0_45_0 hz_a0 hk_a0 (v := hi) k24 dX0_seekTelling_34 ?_
  refine lv_iconst (v := 1) hx hb dX0_seekTelling_37 (by decide) ?_
  refine tw_iadd (lo := 1) (hi := 49996) hx hb h_hi (iv_c (c := 1) (n := 1) (by decide)) ⟨by decide, by decide⟩ ⟨by decide, by decide⟩ dX0_seekTelling_38 (fun x41 e40 h39 => ?_)
  have e40 : x41.toInt = hi.toInt + 1 := e40
  have k50 : R37 a0 0 = some st := (Fr.kp (k := 0) f36 hk_a0 rfl).trans k27
  have k51 : R37 a0 6 = some en := (Fr.kp (k := 6) f36 hk_a0 rfl).trans k28
  refine tw_gomr hS (md_runS (As := [.ref (base + ta), .int x41]) (rest := [.ref (base + a0)]) hx hb hml hown hW hK hT hS.1 (t_X0_roomFor_1 l D cy tx base Z K N M13 R37 J12 hS.2.1 ta hz_ta hk_ta x41 h39 hB_ta) s_X0_98 ⟨rfl, rfl, ⟨Nat.le_of_ble_eq_true rfl, Nat.le_of_ble_eq_true rfl⟩, ⟨Nat.le_of_ble_eq_true rfl, Nat.le_of_ble_eq_true rfl⟩⟩ rfl hl.1 rfl (Nat.le_of_ble_eq_true rfl) dX0_seekTelling_39) rfl rfl (fun x48 H locs Z K N Ma Ra M45 R46 J44 hS g49 f42 g43 E47 => ?_)
  have k52 : M45 st 0 = mem := f42.kp hz_st hk_st rfl k22
  have k53 : M45 a0 10 = fo := f42.kp hz_a0 hk_a0 rfl k23
  have k54 : M45 a0 9 = hi := f42.kp hz_a0 hk_a0 rfl k24
  have k55 : M45 a0 11 = 1 := f42.kp hz_a0 hk_a0 rfl k25
  have k56 : M45 a0 12 = fo := f42.kp hz_a0 hk_a0 rfl k26
  have k57 : R46 a0 0 = some st := g43.kp hz_a0 hk_a0 rfl k50
  have k58 : R46 a0 6 = some en := g43.kp hz_a0 hk_a0 rfl k51
  have k59 : R46 a0 7 = some ta := g43.kp hz_a0 hk_a0 rfl k38
  have k60 : R46 a0 8 = some x16 := g43.kp hz_a0 hk_a0 rfl k35
  have k_st : Ra a0 0 = some st := GR.r g49 hz_a0 k_st
  have k_mem : Ma st 0 = mem := GR.m g49 hz_st k_mem
  have k_fo : Ma a0 10 = fo := GR.m g49 hz_a0 k_fo
  have k_hi : Ma a0 9 = hi := GR.m g49 hz_a0 k_hi
  have k_en : Ra a0 6 = some en := GR.r g49 hz_a0 k_en
  have k_ta : Ra a0 7 = some ta := GR.r g49 hz_a0 k_ta
  have k_su : Ra a0 8 = some su := GR.r g49 hz_a0 k_su
  have hzo_a0 := hz_a0
  have hko_a0 := hk_a0
  have hk_a0 : K a0 = 1 := GR.k g49 hz_a0 hk_a0
  have hzo_st := hz_st
  have hko_st := hk_st
  have hk_st : K st = 10 := GR.k g49 hz_st hk_st
  have hzo_en := hz_en
  have hko_en := hk_en
  have eN_en := GR.n g49 hz_en rfl
  have hk_en : K en = 38 := GR.k g49 hz_en hk_en
  have hzo_ta := hz_ta
  have hko_ta := hk_ta
  have eN_ta := GR.n g49 hz_ta rfl
  have hk_ta : K ta = 39 := GR.k g49 hz_ta hk_ta
  have hzo_su := hz_su
  have hko_su := hk_su
  have eN_su := GR.n g49 hz_su rfl
  have hk_su : K su = 40 := GR.k g49 hz_su hk_su
  have hzo_x16 := hz_x16
  have hko_x16 := hk_x16
  have eN_x16 := GR.n g49 hz_x16 rfl
  have hk_x16 : K x16 = 40 := GR.k g49 hz_x16 hk_x16
  have hB_ta : 64 ≤ N ta ∧ N ta ≤ 100000 := by rw [eN_ta]; exact hB_ta
  have hB_su : 64 ≤ N su ∧ N su ≤ 16000 := by rw [eN_su]; exact hB_su
  have hB_x16 : 64 ≤ N x16 ∧ N x16 ≤ 16000 := by rw [eN_x16]; exact hB_x16
  have hz_a0 : a0 < Z := GR.z g49 hz_a0
  have hz_st : st < Z := GR.z g49 hz_st
  have hz_en : en < Z := GR.z g49 hz_en
  have hz_ta : ta < Z := GR.z g49 hz_ta
  have hz_su : su < Z := GR.z g49 hz_su
  have hz_x16 : x16 < Z := GR.z g49 hz_x16
  have hGR := GR.tr hGR g49
  have f61 := hS.2.2.1
  have g62 := hS.2.2.2
  have p63 := E47
  clear E47
  have hz_x48 : x48 < Z := p63.1
  have hk_x48 : K x48 = 39 := p63.2.1.trans ((g49.2.1 ta hzo_ta).1.symm.trans hk_ta)
  have hsz_x48 : x41.toInt ≤ (N x48 : Int) := p63.2.2.1
  have hpg_x48 := RF.pg p63 g49 (by rw [← eN_ta]; exact hB_ta.1) (by rw [← (g49.2.1 ta hzo_ta).1, hk_ta]; decide)
  have hB_x48 : 64 ≤ N x48 ∧ N x48 ≤ 100000 := by
    have q1 := hB_ta; have q2 := eN_ta; have q4 := (h39).2; rcases p63.2.2.2.2 with ⟨-, -, q3⟩ | ⟨-, -, q3, q5⟩; (· have q3 : N x48 = _ := q3; omega); (· have q3 : 2 * _ ≤ N x48 := q3; have q5 : (N x48 : Int) ≤ _ := q5; omega)
  have q64 : BKI N M45 a0 en mem.toInt.toNat fo.toInt.toNat := q34.to (by have := (h_mem).2; omega) eN_en (FrB.kp f42 hzo_a0 hko_a0 rfl rfl) (fun j => FrB.kpa f42 hzo_en hko_en rfl j)
  have eNk2 := eN_x16
  refine tw_putr hx hb hW hown hK hS f_X0_27_0 hz_a0 hk_a0 rfl rfl (t := 39) (n := 0) rfl hz_x48 hk_x48 (fun h => absurd rfl h) rfl dX0_seekTelling_42 (fun H locs R67 hS k65 f66 => ?_)
  refine lv_iconst (v := 1) hx hb dX0_seekTelling_45 (by decide) ?_
  refine lv_istore_n (lv' := [(1, .int 1), (0, .ref (base + a0))]) hx hb dX0_seekTelling_46 rfl hl (by decide) rfl (fun ls hl => ?_)
  have k68 : R67 a0 8 = some x16 := (Fr.kp (k := 8) f66 hk_a0 rfl).trans k60
  have W47_70 : ∀ (n_70 : Nat) (x69 : Int32) (M70 : MT) (R71 : RT) (J72 : JT) (H : Heap) (locs : List Loc) (ls : Array Slot) (h_x69 : iv 1 32 x69) (k75 : R71 a0 7 = some x48) (k76 : R71 a0 8 = some x16) (w0_70 : BKI N M70 a0 en mem.toInt.toNat fo.toInt.toNat) (hm_70 : 32 - x69.toInt < (n_70 : Int)) (hS : SB D cy base Z K N Lt_X0_seekTelling LRt_X0_seekTelling Ma Ra M70 R71 J72 s H locs) (hl : lv_has ls 3 [(1, .int x69), (0, .ref (base + a0))]), W p l e (md_rm 3 2 200000) s m args below meth c H locs 2 200000 Q (F0 m 47 ls []) := by
    intro n_70
    induction n_70 with
    | zero =>
      intro x69 M70 R71 J72 H locs ls h_x69 k75 k76 w0_70 hm_70 hS hl
      exfalso
      have := (h_fo).1; have := (h_fo).2; have := (h_hi).1; have := (h_hi).2; have := (h_mem).1; have := (h_mem).2; have := (h_x69).1; have := (h_x69).2; omega
    | succ n_70 ih_70 =>
      intro x69 M70 R71 J72 H locs ls h_x69 k75 k76 w0_70 hm_70 hS hl
      have f73 := hS.2.2.1
      have g74 := hS.2.2.2
      refine lv_iload_n hx hb dX0_seekTelling_47 rfl (lv_at hl 0 rfl) ?_
      refine lv_iconst (v := 1) hx hb dX0_seekTelling_48 (by decide) ?_
      refine lv_aload_n hx hb dX0_seekTelling_49 rfl (lv_at hl 1 rfl) ?_
      have k77 : R71 a0 0 = some st := (Fr.kp (k := 0) g74 hk_a0 rfl).trans k_st
      refine tw_getrk hx hb hW hown hK hS f_X0_33_0 hz_a0 hk_a0 (b := st) k77 dX0_seekTelling_50 ?_
      have k78 : M70 st 0 = mem := (Fr.kp (k := 0) f73 hk_st rfl).trans k_mem
      refine tw_getk hx hb hW hown hK hS f_X0_48_9 hz_st hk_st (v := mem) k78 dX0_seekTelling_53 ?_
      refine lv_ishl hx hb dX0_seekTelling_56 ?_
      refine lv_topi (fun x81 e80 => ?_)
      have h79 := iv_any x81
      have h82 := shl_w h_mem e80
      have h83 : iv 2 32 x81 := h82.2
      refine lv_icmp_ge (tgt := 95) hx hb dX0_seekTelling_57 (by decide) (fun c84 => ?_) (fun c84 => ?_)
      · have q85 : x81.toInt ≤ x69.toInt := ti_le c84
        have h86 : iv 2 32 x69 := iv_geL (y := x81) h_x69 h83 q85 (by decide)
        exact tw_emv hx hb hr hlocks hK hT hS hGR hQ ⟨Nat.le_of_ble_eq_true rfl, Nat.le_of_ble_eq_true rfl⟩ ((TQ.mk hE0 hto hso k75 k76 hB_x48 hB_x16 hpg_x16 hpg_x48 eNk1 eNk2)) dX0_seekTelling_95
      · have q87 : x69.toInt < x81.toInt := ti_nle c84
        have h88 : iv 1 31 x69 := iv_ltL (y := x81) h_x69 h83 q87 (by decide)
        refine lv_aload_n hx hb dX0_seekTelling_60 rfl (lv_at hl 1 rfl) ?_
        refine lv_iload_n hx hb dX0_seekTelling_61 rfl (lv_at hl 0 rfl) ?_
        have q89 : mem.toInt.toNat ≤ 5 ∧ 0 ≤ x69.toInt ∧ x69.toInt < (2 : Int) ^ mem.toInt.toNat := ⟨by have := (h_mem).2; omega, by have := (h88).1; omega, by rw [← h82.1]; omega⟩
        have k90 : R71 a0 6 = some en := (Fr.kp (k := 6) g74 hk_a0 rfl).trans k_en
        have k91 : M70 a0 10 = fo := (Fr.kp (k := 10) f73 hk_a0 rfl).trans k_fo
        have k92 : M70 a0 9 = hi := (Fr.kp (k := 9) f73 hk_a0 rfl).trans k_hi
        have q93 : hi.toInt + 1 ≤ ((N x48 : Nat) : Int) := by
          have := (h_fo).1; have := (h_fo).2; have := (h_hi).1; have := (h_hi).2; have := (h_mem).1; have := (h_mem).2; have := (h39).1; have := (h39).2; omega
        have q94 : fo.toInt ≤ ((N x16 : Nat) : Int) := by
          have := (h_fo).1; have := (h_fo).2; have := (h_hi).1; have := (h_hi).2; have := (h_mem).1; have := (h_mem).2; omega
        refine tw_goi hS (md_runV (As := [.int x69]) (rest := []) hx hb hml hown hW hK hT hS.1 (t_X0_mostWithOneSum l D cy tx base Z K N M70 R71 J72 hS.2.1 a0 hz_a0 hk_a0 x69 h88 en k90 x48 k75 x16 k76 fo k91 (iv_mono h_fo (by decide) (by decide)) hi k92 (iv_mono h_hi (by decide) (by decide)) (mem.toInt.toNat) q89 w0_70 q93 q94) s_X0_108 ⟨rfl, rfl, ⟨Nat.le_of_ble_eq_true rfl, Nat.le_of_ble_eq_true rfl⟩, ⟨Nat.le_of_ble_eq_true rfl, Nat.le_of_ble_eq_true rfl⟩⟩ hz_a0 hk_a0 (by decide) rfl rfl hl.1 rfl (Nat.le_of_ble_eq_true rfl) dX0_seekTelling_62) rfl rfl (fun x101 H locs M98 R99 J97 hS f95 g96 E100 => ?_)
        have eR99 := Fr.nil g96 rfl
        subst eR99
        have h_x101 := E100
        clear E100
        refine lv_istore_n (lv' := [(2, .int x101), (1, .int x69), (0, .ref (base + a0))]) hx hb dX0_seekTelling_65 rfl hl (by decide) rfl (fun ls hl => ?_)
        refine lv_iload_n hx hb dX0_seekTelling_66 rfl (lv_at hl 1 rfl) ?_
        refine lv_iconst (v := 1) hx hb dX0_seekTelling_67 (by decide) ?_
        refine lv_icmp_eq (tgt := 79) hx hb dX0_seekTelling_68 (by decide) (fun c102 => ?_) (fun c102 => ?_)
        · have q103 : x69.toInt = 1 := ti_eq c102
          have h104 : iv 1 1 x69 := ⟨by have := (h88).1; have := ((iv_c (c := 1) (n := 1) (by decide))).1; omega, by have := (h88).2; have := ((iv_c (c := 1) (n := 1) (by decide))).2; omega⟩
          refine lv_aload_n hx hb dX0_seekTelling_79 rfl (lv_at hl 2 rfl) ?_
          refine lv_iload_n hx hb dX0_seekTelling_80 rfl (lv_at hl 1 rfl) ?_
          refine tw_puti hx hb hW hown hK hS f_X0_102_0 hz_a0 hk_a0 rfl rfl (lo := (-2147483648)) (hi := 2147483647) rfl (iv_mono h104 (by decide) (by decide)) rfl dX0_seekTelling_81 (fun H locs M107 hS k105 f106 => ?_)
          refine lv_aload_n hx hb dX0_seekTelling_84 rfl (lv_at hl 2 rfl) ?_
          refine lv_iload_n hx hb dX0_seekTelling_85 rfl (lv_at hl 0 rfl) ?_
          refine tw_puti hx hb hW hown hK hS f_X0_105_0 hz_a0 hk_a0 rfl rfl (lo := (-2147483648)) (hi := 2147483647) rfl h_x101 rfl dX0_seekTelling_86 (fun H locs M110 hS k108 f109 => ?_)
          refine tw_iinc (lv' := fun x113 => [(1, .int x113), (2, .int x101), (0, .ref (base + a0))]) (lo := 2) (hi := 2) hx hb dX0_seekTelling_89 hl (k := 1) rfl h104 (by decide) ⟨by decide, by decide⟩ ⟨by decide, by decide⟩ (by decide) (fun _ => rfl) (fun x113 ls e112 h111 hl => ?_)
          refine lv_goto (tgt := 47) hx hb dX0_seekTelling_92 (by decide) ?_
          have q115 : BKI N M110 a0 en mem.toInt.toNat fo.toInt.toNat := w0_70.to (by have := (h_mem).2; omega) rfl ((Fr.kp (k := 9) f109 hk_a0 rfl).trans ((Fr.kp (k := 9) f106 hk_a0 rfl).trans (Fr.kp (k := 9) f95 hk_a0 rfl))) (fun j => ((Fr.kpa f109 hk_en rfl j).trans ((Fr.kpa f106 hk_en rfl j).trans (Fr.kpa f95 hk_en rfl j))))
          have w114 : BKI N M110 a0 en mem.toInt.toNat fo.toInt.toNat := q115
          have hm116 : 32 - x113.toInt < (n_70 : Int) := by
            have := (h_fo).1; have := (h_fo).2; have := (h_hi).1; have := (h_hi).2; have := (h_mem).1; have := (h_mem).2; have := (h111).1; have := (h111).2; have := (h104).1; have := (h104).2; omega
          exact ih_70 x113 M110 R71 J97 H locs _ (iv_mono h111 (by decide) (by decide)) k75 k76 w114 hm116 hS (lv_sub hl [0, 2] rfl)
        · have q117 : ¬ x69.toInt = 1 := ti_ne c102
          have h118 : iv 2 31 x69 := ⟨by have := (h88).1; have := ((iv_c (c := 1) (n := 1) (by decide))).1; have := ((iv_c (c := 1) (n := 1) (by decide))).2; omega, by have := (h88).2; have := ((iv_c (c := 1) (n := 1) (by decide))).1; have := ((iv_c (c := 1) (n := 1) (by decide))).2; omega⟩
          refine lv_iload_n hx hb dX0_seekTelling_71 rfl (lv_at hl 0 rfl) ?_
          refine lv_aload_n hx hb dX0_seekTelling_72 rfl (lv_at hl 2 rfl) ?_
          refine tw_geti hx hb hW hown hK hS f_X0_105_0 hz_a0 hk_a0 (lo := (-2147483648)) (hi := 2147483647) rfl dX0_seekTelling_73 (fun x121 k120 h119 => ?_)
          refine lv_icmp_ge (tgt := 89) hx hb dX0_seekTelling_76 (by decide) (fun c122 => ?_) (fun c122 => ?_)
          · have q123 : x121.toInt ≤ x101.toInt := ti_le c122
            refine tw_iinc (lv' := fun x126 => [(1, .int x126), (2, .int x101), (0, .ref (base + a0))]) (lo := 3) (hi := 32) hx hb dX0_seekTelling_89 hl (k := 1) rfl h118 (by decide) ⟨by decide, by decide⟩ ⟨by decide, by decide⟩ (by decide) (fun _ => rfl) (fun x126 ls e125 h124 hl => ?_)
            refine lv_goto (tgt := 47) hx hb dX0_seekTelling_92 (by decide) ?_
            have q128 : BKI N M98 a0 en mem.toInt.toNat fo.toInt.toNat := w0_70.to (by have := (h_mem).2; omega) rfl (Fr.kp (k := 9) f95 hk_a0 rfl) (fun j => (Fr.kpa f95 hk_en rfl j))
            have w127 : BKI N M98 a0 en mem.toInt.toNat fo.toInt.toNat := q128
            have hm129 : 32 - x126.toInt < (n_70 : Int) := by
              have := (h_fo).1; have := (h_fo).2; have := (h_hi).1; have := (h_hi).2; have := (h_mem).1; have := (h_mem).2; have := (h124).1; have := (h124).2; have := (h118).1; have := (h118).2; omega
            exact ih_70 x126 M98 R71 J97 H locs _ (iv_mono h124 (by decide) (by decide)) k75 k76 w127 hm129 hS (lv_sub hl [0, 2] rfl)
          · have q130 : x101.toInt < x121.toInt := ti_nle c122
            have h131 : iv (-2147483648) 2147483646 x101 := iv_ltL (y := x121) h_x101 h119 q130 (by decide)
            have h132 : iv (-2147483647) 2147483647 x121 := iv_gtL (y := x101) h119 h_x101 q130 (by decide)
            refine lv_aload_n hx hb dX0_seekTelling_79 rfl (lv_at hl 2 rfl) ?_
            refine lv_iload_n hx hb dX0_seekTelling_80 rfl (lv_at hl 1 rfl) ?_
            refine tw_puti hx hb hW hown hK hS f_X0_102_0 hz_a0 hk_a0 rfl rfl (lo := (-2147483648)) (hi := 2147483647) rfl (iv_mono h118 (by decide) (by decide)) rfl dX0_seekTelling_81 (fun H locs M135 hS k133 f134 => ?_)
            refine lv_aload_n hx hb dX0_seekTelling_84 rfl (lv_at hl 2 rfl) ?_
            refine lv_iload_n hx hb dX0_seekTelling_85 rfl (lv_at hl 0 rfl) ?_
            refine tw_puti hx hb hW hown hK hS f_X0_105_0 hz_a0 hk_a0 rfl rfl (lo := (-2147483648)) (hi := 2147483647) rfl (iv_mono h131 (by decide) (by decide)) rfl dX0_seekTelling_86 (fun H locs M138 hS k136 f137 => ?_)
            refine tw_iinc (lv' := fun x141 => [(1, .int x141), (2, .int x101), (0, .ref (base + a0))]) (lo := 3) (hi := 32) hx hb dX0_seekTelling_89 hl (k := 1) rfl h118 (by decide) ⟨by decide, by decide⟩ ⟨by decide, by decide⟩ (by decide) (fun _ => rfl) (fun x141 ls e140 h139 hl => ?_)
            refine lv_goto (tgt := 47) hx hb dX0_seekTelling_92 (by decide) ?_
            have q143 : BKI N M138 a0 en mem.toInt.toNat fo.toInt.toNat := w0_70.to (by have := (h_mem).2; omega) rfl ((Fr.kp (k := 9) f137 hk_a0 rfl).trans ((Fr.kp (k := 9) f134 hk_a0 rfl).trans (Fr.kp (k := 9) f95 hk_a0 rfl))) (fun j => ((Fr.kpa f137 hk_en rfl j).trans ((Fr.kpa f134 hk_en rfl j).trans (Fr.kpa f95 hk_en rfl j))))
            have w142 : BKI N M138 a0 en mem.toInt.toNat fo.toInt.toNat := q143
            have hm144 : 32 - x141.toInt < (n_70 : Int) := by
              have := (h_fo).1; have := (h_fo).2; have := (h_hi).1; have := (h_hi).2; have := (h_mem).1; have := (h_mem).2; have := (h139).1; have := (h139).2; have := (h118).1; have := (h118).2; omega
            exact ih_70 x141 M138 R71 J97 H locs _ (iv_mono h139 (by decide) (by decide)) k75 k76 w142 hm144 hS (lv_sub hl [0, 2] rfl)
  have w145 : BKI N M45 a0 en mem.toInt.toNat fo.toInt.toNat := q64
  have hm146 : 32 - (1 : Int32).toInt < (((32 : Nat) : Int) : Int) := by
    have := (h_fo).1; have := (h_fo).2; have := (h_hi).1; have := (h_hi).2; have := (h_mem).1; have := (h_mem).2; have : (1 : Int32).toInt = 1 := (by decide); omega
  exact W47_70 32 1 M45 R67 J44 H locs _ (iv_mono (iv_c (c := 1) (n := 1) (by decide)) (by decide) (by decide)) k65 k68 w145 hm146 hS hl
def Lt_X9_hasCouncil_vb : WL := []
def LRt_X9_hasCouncil_vb : WL := []
set_option maxRecDepth 100000 in
set_option maxHeartbeats 4000000 in
theorem t_X9_hasCouncil_vb (l : Launch) (D : va_G) (cy : Nat → ClassId) (tx : (Nat → Nat) × (Nat → Nat)) (base Z : Nat) (K N : Nat → Nat) (Ma : MT) (Ra : RT) (Ja : JT) (hTy : Ty Z K N Ma Ra) (a0 : Nat) (hz_a0 : a0 < Z) (hk_a0 : K a0 = 10) (me : Int32) (k_me : Ma a0 0 = me) (h_me : iv (-2147483648) 10 me) : Met l yX9_hasCouncil [Cond.code yX9_hasCouncil cX9_hasCouncil 1 (some .boolean)] (md_rm 1 0 0) (va_Pc [.ref (base + a0)] (md_U D cy tx base Z K N Ma Ra Ja)) (mQi D cy tx base (fun r u => TP Z K N Lt_X9_hasCouncil_vb LRt_X9_hasCouncil_vb Ma Ra u ∧ (iv 0 1 r ∧ (¬ r = 0 → iv 1 10 me)))) 0 0 (fun q => base ≤ q) := by
  refine tw_ofW (L := Lt_X9_hasCouncil_vb) (LR := LRt_X9_hasCouncil_vb) (by decide) (Nat.le_of_ble_eq_true rfl) hTy ?_
  intro p e s m args below meth c Q ls hx hb hr hlocks hown hml hW hK hT hS hQ hl
  have hl : lv_has ls 1 [(0, .ref (base + a0))] := hl
  refine lv_aload_n hx hb dX9_hasCouncil_0 rfl (lv_at hl 0 rfl) ?_
  refine tw_getk hx hb hW hown hK hS f_X9_33_9 hz_a0 hk_a0 (v := me) k_me dX9_hasCouncil_1 ?_
  refine lv_if_le (tgt := 11) hx hb dX9_hasCouncil_4 (by decide) (fun c1 => ?_) (fun c1 => ?_)
  · have q2 : me.toInt ≤ 0 := ti_le c1
    have h3 : iv (-2147483648) 0 me := iv_leL (y := 0) h_me (iv_c (c := 0) (n := 0) (by decide)) q2 (by decide)
    refine lv_iconst (v := 0) hx hb dX9_hasCouncil_11 (by decide) ?_
    exact tw_endz hx hb hr hlocks hK hT hS hQ rfl (⟨(iv_mono (iv_c (c := 0) (n := 0) (by decide)) (by decide) (by decide)), (fun h => absurd rfl h)⟩) dX9_hasCouncil_12
  · have q4 : 0 < me.toInt := ti_nle c1
    have h5 : iv 1 10 me := iv_gtL (y := 0) h_me (iv_c (c := 0) (n := 0) (by decide)) q4 (by decide)
    refine lv_iconst (v := 1) hx hb dX9_hasCouncil_7 (by decide) ?_
    refine lv_goto (tgt := 12) hx hb dX9_hasCouncil_8 (by decide) ?_
    exact tw_endz hx hb hr hlocks hK hT hS hQ rfl (⟨(iv_mono (iv_c (c := 1) (n := 1) (by decide)) (by decide) (by decide)), (fun _ => h5)⟩) dX9_hasCouncil_12
def Lt_X11_isForBooks : WL := []
def LRt_X11_isForBooks : WL := []
set_option maxRecDepth 100000 in
set_option maxHeartbeats 4000000 in
theorem t_X11_isForBooks (l : Launch) (D : va_G) (cy : Nat → ClassId) (tx : (Nat → Nat) × (Nat → Nat)) (base Z : Nat) (K N : Nat → Nat) (Ma : MT) (Ra : RT) (Ja : JT) (hTy : Ty Z K N Ma Ra) (a0 : Nat) (hz_a0 : a0 < Z) (hk_a0 : K a0 = 11) (a1 : Int32) (h_a1 : iv (-2147483648) 2147483647 a1) (nw : Nat) (k_nw : Ra a0 3 = some nw) (me : Int32) (k_me : Ma nw 0 = me) (h_me : iv (-2147483648) 10 me) : Met l yX11_isForBooks [Cond.code yX11_isForBooks cX11_isForBooks 2 (some .boolean)] (md_rm 2 0 0) (va_Pc [.ref (base + a0), .int a1] (md_U D cy tx base Z K N Ma Ra Ja)) (mQi D cy tx base (fun r u => TP Z K N Lt_X11_isForBooks LRt_X11_isForBooks Ma Ra u ∧ (iv 0 1 r ∧ (¬ r = 0 → iv 1 6 a1) ∧ (¬ r = 0 → iv 1 5 me)))) 0 0 (fun q => base ≤ q) := by
  refine tw_ofW (L := Lt_X11_isForBooks) (LR := LRt_X11_isForBooks) (by decide) (Nat.le_of_ble_eq_true rfl) hTy ?_
  intro p e s m args below meth c Q ls hx hb hr hlocks hown hml hW hK hT hS hQ hl
  have hl : lv_has ls 2 [(0, .ref (base + a0)), (1, .int a1)] := hl
  obtain ⟨hz_nw, hk_nw, hn_nw⟩ := hTy.refn hz_a0 hk_a0 (show rtR 11 3 = (10, 0, 0) from rfl) k_nw
  refine lv_aload_n hx hb dX11_isForBooks_0 rfl (lv_at hl 0 rfl) ?_
  refine tw_getrk hx hb hW hown hK hS f_X11_31_10 hz_a0 hk_a0 (b := nw) k_nw dX11_isForBooks_1 ?_
  refine tw_goi hS (md_runV (As := []) (rest := []) hx hb hml hown hW hK hT hS.1 (t_X9_hasCouncil_vb l D cy tx base Z K N Ma Ra Ja hS.2.1 nw hz_nw hk_nw me k_me (iv_mono h_me (by decide) (by decide))) s_X11_170 ⟨rfl, rfl, ⟨Nat.le_of_ble_eq_true rfl, Nat.le_of_ble_eq_true rfl⟩, ⟨Nat.le_of_ble_eq_true rfl, Nat.le_of_ble_eq_true rfl⟩⟩ hz_nw hk_nw (by decide) rfl rfl hl.1 rfl (Nat.le_of_ble_eq_true rfl) dX11_isForBooks_4) rfl rfl (fun x7 H locs M4 R5 J3 hS f1 g2 E6 => ?_)
  have eM4 := Fr.nil f1 rfl
  subst eM4
  have eR5 := Fr.nil g2 rfl
  subst eR5
  obtain ⟨h_x7, p8⟩ := E6
  refine lv_if_eq (tgt := 36) hx hb dX11_isForBooks_7 (by decide) (fun c9 => ?_) (fun c9 => ?_)
  · have q10 : x7.toInt = 0 := ti_eq c9
    have h11 : iv 0 0 x7 := ⟨by have := (h_x7).1; have := ((iv_c (c := 0) (n := 0) (by decide))).1; omega, by have := (h_x7).2; have := ((iv_c (c := 0) (n := 0) (by decide))).2; omega⟩
    refine lv_iconst (v := 0) hx hb dX11_isForBooks_36 (by decide) ?_
    exact tw_endz hx hb hr hlocks hK hT hS hQ rfl (⟨(iv_mono (iv_c (c := 0) (n := 0) (by decide)) (by decide) (by decide)), (fun h => absurd rfl h), (fun h => absurd rfl h)⟩) dX11_isForBooks_37
  · have q12 : ¬ x7.toInt = 0 := ti_ne c9
    have h13 : iv 1 1 x7 := ⟨by have := (h_x7).1; have := ((iv_c (c := 0) (n := 0) (by decide))).1; have := ((iv_c (c := 0) (n := 0) (by decide))).2; omega, by have := (h_x7).2; have := ((iv_c (c := 0) (n := 0) (by decide))).1; have := ((iv_c (c := 0) (n := 0) (by decide))).2; omega⟩
    have h14 : iv 1 10 me := ⟨by have := (p8 c9).1; have := (h_me).1; omega, by have := (p8 c9).2; have := (h_me).2; omega⟩
    refine lv_aload_n hx hb dX11_isForBooks_10 rfl (lv_at hl 0 rfl) ?_
    refine tw_getrk hx hb hW hown hK hS f_X11_31_10 hz_a0 hk_a0 (b := nw) k_nw dX11_isForBooks_11 ?_
    refine tw_getk hx hb hW hown hK hS f_X11_116_9 hz_nw hk_nw (v := me) k_me dX11_isForBooks_14 ?_
    refine lv_iconst (v := 5) hx hb dX11_isForBooks_17 (by decide) ?_
    refine lv_icmp_gt (tgt := 36) hx hb dX11_isForBooks_18 (by decide) (fun c15 => ?_) (fun c15 => ?_)
    · have q16 : 5 < me.toInt := ti_lt c15
      have h17 : iv 6 10 me := iv_gtL (y := 5) h14 (iv_c (c := 5) (n := 5) (by decide)) q16 (by decide)
      refine lv_iconst (v := 0) hx hb dX11_isForBooks_36 (by decide) ?_
      exact tw_endz hx hb hr hlocks hK hT hS hQ rfl (⟨(iv_mono (iv_c (c := 0) (n := 0) (by decide)) (by decide) (by decide)), (fun h => absurd rfl h), (fun h => absurd rfl h)⟩) dX11_isForBooks_37
    · have q18 : me.toInt ≤ 5 := ti_nlt c15
      have h19 : iv 1 5 me := iv_leL (y := 5) h14 (iv_c (c := 5) (n := 5) (by decide)) q18 (by decide)
      refine lv_iload_n hx hb dX11_isForBooks_21 rfl (lv_at hl 1 rfl) ?_
      refine lv_iconst (v := 1) hx hb dX11_isForBooks_22 (by decide) ?_
      refine lv_icmp_lt (tgt := 36) hx hb dX11_isForBooks_23 (by decide) (fun c20 => ?_) (fun c20 => ?_)
      · have q21 : a1.toInt < 1 := ti_lt c20
        have h22 : iv (-2147483648) 0 a1 := iv_ltL (y := 1) h_a1 (iv_c (c := 1) (n := 1) (by decide)) q21 (by decide)
        refine lv_iconst (v := 0) hx hb dX11_isForBooks_36 (by decide) ?_
        exact tw_endz hx hb hr hlocks hK hT hS hQ rfl (⟨(iv_mono (iv_c (c := 0) (n := 0) (by decide)) (by decide) (by decide)), (fun h => absurd rfl h), (fun h => absurd rfl h)⟩) dX11_isForBooks_37
      · have q23 : 1 ≤ a1.toInt := ti_nlt c20
        have h24 : iv 1 2147483647 a1 := iv_geL (y := 1) h_a1 (iv_c (c := 1) (n := 1) (by decide)) q23 (by decide)
        refine lv_iload_n hx hb dX11_isForBooks_26 rfl (lv_at hl 1 rfl) ?_
        refine lv_bipush (v := 6) hx hb dX11_isForBooks_27 (by decide) ?_
        refine lv_icmp_gt (tgt := 36) hx hb dX11_isForBooks_29 (by decide) (fun c25 => ?_) (fun c25 => ?_)
        · have q26 : 6 < a1.toInt := ti_lt c25
          have h27 : iv 7 2147483647 a1 := iv_gtL (y := 6) h24 (iv_c (c := 6) (n := 6) (by decide)) q26 (by decide)
          refine lv_iconst (v := 0) hx hb dX11_isForBooks_36 (by decide) ?_
          exact tw_endz hx hb hr hlocks hK hT hS hQ rfl (⟨(iv_mono (iv_c (c := 0) (n := 0) (by decide)) (by decide) (by decide)), (fun h => absurd rfl h), (fun h => absurd rfl h)⟩) dX11_isForBooks_37
        · have q28 : a1.toInt ≤ 6 := ti_nlt c25
          have h29 : iv 1 6 a1 := iv_leL (y := 6) h24 (iv_c (c := 6) (n := 6) (by decide)) q28 (by decide)
          refine lv_iconst (v := 1) hx hb dX11_isForBooks_32 (by decide) ?_
          refine lv_goto (tgt := 37) hx hb dX11_isForBooks_33 (by decide) ?_
          exact tw_endz hx hb hr hlocks hK hT hS hQ rfl (⟨(iv_mono (iv_c (c := 1) (n := 1) (by decide)) (by decide) (by decide)), (fun _ => h29), (fun _ => h19)⟩) dX11_isForBooks_37
def Lt_X11_fits : WL := [(1, 9, 11), (6, 14, 15), (14, 0, 2000000), (29, 0, 2000000), (37, 0, 2000000), (38, 0, 2000000)]
def LRt_X11_fits : WL := [(1, 6, 7)]
set_option maxRecDepth 100000 in
set_option maxHeartbeats 4000000 in
theorem t_X11_fits (l : Launch) (D : va_G) (cy : Nat → ClassId) (tx : (Nat → Nat) × (Nat → Nat)) (base Z0 : Nat) (K0 N0 : Nat → Nat) (Ma0 : MT) (Ra0 : RT) (Ja : JT) (hTy : Ty Z0 K0 N0 Ma0 Ra0) (a0 : Nat) (hz_a0 : a0 < Z0) (hk_a0 : K0 a0 = 11) (a1 : Int32) (h_a1 : iv (-2147483648) 2147483647 a1) (a2 : Int32) (h_a2 : iv (-2147483648) 2147483647 a2) (a3 : Int32) (h_a3 : iv (-2147483648) 2147483647 a3) (nw : Nat) (k_nw : Ra0 a0 3 = some nw) (bo : Nat) (k_bo : Ra0 a0 14 = some bo) (hbw : Ra0 bo 0 = some nw) (en : Nat) (k_en : Ra0 bo 6 = some en) (ta : Nat) (k_ta : Ra0 bo 7 = some ta) (su : Nat) (k_su : Ra0 bo 8 = some su) (hB_en : 64 ≤ N0 en ∧ N0 en ≤ 80000) (hB_ta : 64 ≤ N0 ta ∧ N0 ta ≤ 100000) (hB_su : 64 ≤ N0 su ∧ N0 su ≤ 16000) : Met l yX11_fits [Cond.code yX11_fits cX11_fits 4 (some .int)] (md_rm 5 1251 260000) (va_Pc [.ref (base + a0), .int a1, .int a2, .int a3] (md_U D cy tx base Z0 K0 N0 Ma0 Ra0 Ja)) (mQi D cy tx base (fun r u => TM Z0 K0 N0 Lt_X11_fits LRt_X11_fits Ma0 Ra0 u ∧ (iv (-2147483648) 2147483647 r ∧ BG Z0 K0 N0 Ra0 bo u))) 1251 260000 (fun q => base ≤ q) := by
  refine tw_ofW (L := Lt_X11_fits) (LR := LRt_X11_fits) (by decide) (Nat.le_of_ble_eq_true rfl) hTy ?_
  intro p e s m args below meth c Q ls hx hb hr hlocks hown hml hW hK hT hS hQ hl
  have hl : lv_has ls 4 [(0, .ref (base + a0)), (1, .int a1), (2, .int a2), (3, .int a3)] := hl
  have hs0 : s.heap.size = base + Z0 := hS.1.2.1
  obtain ⟨Z, K, N, Ma, Ra, hE0, hGR, hTy, hS, hz_a0, hk_a0, k_nw, k_bo, hbw, k_en, k_ta, k_su, hB_en, hB_ta, hB_su⟩ : ∃ (Z : Nat) (K N : Nat → Nat) (Ma : MT) (Ra : RT), (Z = Z0 ∧ K = K0 ∧ N = N0 ∧ Ma = Ma0 ∧ Ra = Ra0) ∧ GR Z0 K0 N0 Ma0 Ra0 Z K N Ma Ra ∧ Ty Z K N Ma Ra ∧ SB D cy base Z K N Lt_X11_fits LRt_X11_fits Ma Ra Ma Ra Ja s s.heap [] ∧ (a0 < Z) ∧ (K a0 = 11) ∧ (Ra a0 3 = some nw) ∧ (Ra a0 14 = some bo) ∧ (Ra bo 0 = some nw) ∧ (Ra bo 6 = some en) ∧ (Ra bo 7 = some ta) ∧ (Ra bo 8 = some su) ∧ (64 ≤ N en ∧ N en ≤ 80000) ∧ (64 ≤ N ta ∧ N ta ≤ 100000) ∧ (64 ≤ N su ∧ N su ≤ 16000) := ⟨Z0, K0, N0, Ma0, Ra0, ⟨rfl, rfl, rfl, rfl, rfl⟩, GR.rf, hTy, hS, hz_a0, hk_a0, k_nw, k_bo, hbw, k_en, k_ta, k_su, hB_en, hB_ta, hB_su⟩
  obtain ⟨hz_nw, hk_nw, hn_nw⟩ := hTy.refn hz_a0 hk_a0 (show rtR 11 3 = (10, 0, 0) from rfl) k_nw
  obtain ⟨hz_bo, hk_bo, hn_bo⟩ := hTy.refn hz_a0 hk_a0 (show rtR 11 14 = (1, 0, 0) from rfl) k_bo
  obtain ⟨hz_en, hk_en, hn_en⟩ := hTy.refn hz_bo hk_bo (show rtR 1 6 = (38, 0, 0) from rfl) k_en
  obtain ⟨hz_ta, hk_ta, hn_ta⟩ := hTy.refn hz_bo hk_bo (show rtR 1 7 = (39, 0, 0) from rfl) k_ta
  obtain ⟨hz_su, hk_su, hn_su⟩ := hTy.refn hz_bo hk_bo (show rtR 1 8 = (40, 0, 0) from rfl) k_su
  have hw_en := k_en
  have hw_ta := k_ta
  have hw_su := k_su
  refine lv_aload_n hx hb dX11_fits_0 rfl (lv_at hl 0 rfl) ?_
  refine lv_iload_n hx hb dX11_fits_1 rfl (lv_at hl 1 rfl) ?_
  obtain ⟨x3, k1⟩ : ∃ x, Ma nw 0 = x := ⟨_, rfl⟩
  have h2 : iv (-2147483648) 10 x3 := by rw [← k1]; exact hS.2.1.int hz_nw hk_nw (show rgI 10 0 = ((-2147483648), 10) from rfl)
  refine tw_goi hS (md_runV (As := [.int a1]) (rest := []) hx hb hml hown hW hK hT hS.1 (t_X11_isForBooks l D cy tx base Z K N Ma Ra Ja hS.2.1 a0 hz_a0 hk_a0 a1 h_a1 nw k_nw x3 k1 (iv_mono h2 (by decide) (by decide))) s_X11_287 ⟨rfl, rfl, ⟨Nat.le_of_ble_eq_true rfl, Nat.le_of_ble_eq_true rfl⟩, ⟨Nat.le_of_ble_eq_true rfl, Nat.le_of_ble_eq_true rfl⟩⟩ hz_a0 hk_a0 (by decide) rfl rfl hl.1 rfl (Nat.le_of_ble_eq_true rfl) dX11_fits_2) rfl rfl (fun x10 H locs M7 R8 J6 hS f4 g5 E9 => ?_)
  have eM7 := Fr.nil f4 rfl
  subst eM7
  have eR8 := Fr.nil g5 rfl
  subst eR8
  obtain ⟨h_x10, p11, p12⟩ := E9
  refine lv_if_eq (tgt := 28) hx hb dX11_fits_5 (by decide) (fun c13 => ?_) (fun c13 => ?_)
  · have q14 : x10.toInt = 0 := ti_eq c13
    have h15 : iv 0 0 x10 := ⟨by have := (h_x10).1; have := ((iv_c (c := 0) (n := 0) (by decide))).1; omega, by have := (h_x10).2; have := ((iv_c (c := 0) (n := 0) (by decide))).2; omega⟩
    refine lv_iconst (v := (-1)) hx hb dX11_fits_28 (by decide) ?_
    exact tw_emi hx hb hr hlocks hK hT hS hGR hQ ⟨Nat.le_of_ble_eq_true rfl, Nat.le_of_ble_eq_true rfl⟩ (⟨(iv_mono (iv_c (c := (-1)) (n := (-1)) (by decide)) (by decide) (by decide)), (BG.same hE0 hw_en hw_ta hw_su (fun _ => rfl) hB_en hB_ta hB_su)⟩) dX11_fits_29
  · have q16 : ¬ x10.toInt = 0 := ti_ne c13
    have h17 : iv 1 1 x10 := ⟨by have := (h_x10).1; have := ((iv_c (c := 0) (n := 0) (by decide))).1; have := ((iv_c (c := 0) (n := 0) (by decide))).2; omega, by have := (h_x10).2; have := ((iv_c (c := 0) (n := 0) (by decide))).1; have := ((iv_c (c := 0) (n := 0) (by decide))).2; omega⟩
    have h18 : iv 1 6 a1 := ⟨by have := (p11 c13).1; have := (h_a1).1; omega, by have := (p11 c13).2; have := (h_a1).2; omega⟩
    have h19 : iv 1 5 x3 := ⟨by have := (p12 c13).1; have := (h2).1; omega, by have := (p12 c13).2; have := (h2).2; omega⟩
    refine lv_aload_n hx hb dX11_fits_8 rfl (lv_at hl 0 rfl) ?_
    refine tw_getrk hx hb hW hown hK hS f_X11_31_10 hz_a0 hk_a0 (b := nw) k_nw dX11_fits_9 ?_
    refine lv_iload_n hx hb dX11_fits_12 rfl (lv_at hl 2 rfl) ?_
    refine tw_goi hS (md_runV (As := [.int a2]) (rest := []) hx hb hml hown hW hK hT hS.1 (t_X9_hasMember l D cy tx base Z K N Ma Ra J6 hS.2.1 nw hz_nw hk_nw a2 h_a2) s_X11_132 ⟨rfl, rfl, ⟨Nat.le_of_ble_eq_true rfl, Nat.le_of_ble_eq_true rfl⟩, ⟨Nat.le_of_ble_eq_true rfl, Nat.le_of_ble_eq_true rfl⟩⟩ hz_nw hk_nw (by decide) rfl rfl hl.1 rfl (Nat.le_of_ble_eq_true rfl) dX11_fits_13) rfl rfl (fun x26 H locs M23 R24 J22 hS f20 g21 E25 => ?_)
    have eM23 := Fr.nil f20 rfl
    subst eM23
    have eR24 := Fr.nil g21 rfl
    subst eR24
    obtain ⟨h_x26, p27⟩ := E25
    refine lv_if_eq (tgt := 28) hx hb dX11_fits_16 (by decide) (fun c28 => ?_) (fun c28 => ?_)
    · have q29 : x26.toInt = 0 := ti_eq c28
      have h30 : iv 0 0 x26 := ⟨by have := (h_x26).1; have := ((iv_c (c := 0) (n := 0) (by decide))).1; omega, by have := (h_x26).2; have := ((iv_c (c := 0) (n := 0) (by decide))).2; omega⟩
      refine lv_iconst (v := (-1)) hx hb dX11_fits_28 (by decide) ?_
      exact tw_emi hx hb hr hlocks hK hT hS hGR hQ ⟨Nat.le_of_ble_eq_true rfl, Nat.le_of_ble_eq_true rfl⟩ (⟨(iv_mono (iv_c (c := (-1)) (n := (-1)) (by decide)) (by decide) (by decide)), (BG.same hE0 hw_en hw_ta hw_su (fun _ => rfl) hB_en hB_ta hB_su)⟩) dX11_fits_29
    · have q31 : ¬ x26.toInt = 0 := ti_ne c28
      have h32 : iv 1 1 x26 := ⟨by have := (h_x26).1; have := ((iv_c (c := 0) (n := 0) (by decide))).1; have := ((iv_c (c := 0) (n := 0) (by decide))).2; omega, by have := (h_x26).2; have := ((iv_c (c := 0) (n := 0) (by decide))).1; have := ((iv_c (c := 0) (n := 0) (by decide))).2; omega⟩
      have h33 : iv 0 9 a2 := ⟨by have := (p27 c28).1; have := (h_a2).1; omega, by have := (p27 c28).2; have := (h_a2).2; omega⟩
      refine lv_iload_n hx hb dX11_fits_19 rfl (lv_at hl 3 rfl) ?_
      refine lv_if_lt (tgt := 28) hx hb dX11_fits_20 (by decide) (fun c34 => ?_) (fun c34 => ?_)
      · have q35 : a3.toInt < 0 := ti_lt c34
        have h36 : iv (-2147483648) (-1) a3 := iv_ltL (y := 0) h_a3 (iv_c (c := 0) (n := 0) (by decide)) q35 (by decide)
        refine lv_iconst (v := (-1)) hx hb dX11_fits_28 (by decide) ?_
        exact tw_emi hx hb hr hlocks hK hT hS hGR hQ ⟨Nat.le_of_ble_eq_true rfl, Nat.le_of_ble_eq_true rfl⟩ (⟨(iv_mono (iv_c (c := (-1)) (n := (-1)) (by decide)) (by decide) (by decide)), (BG.same hE0 hw_en hw_ta hw_su (fun _ => rfl) hB_en hB_ta hB_su)⟩) dX11_fits_29
      · have q37 : 0 ≤ a3.toInt := ti_nlt c34
        have h38 : iv 0 2147483647 a3 := iv_geL (y := 0) h_a3 (iv_c (c := 0) (n := 0) (by decide)) q37 (by decide)
        refine lv_iload_n hx hb dX11_fits_23 rfl (lv_at hl 3 rfl) ?_
        refine lv_iconst (v := 2) hx hb dX11_fits_24 (by decide) ?_
        refine lv_icmp_le (tgt := 30) hx hb dX11_fits_25 (by decide) (fun c39 => ?_) (fun c39 => ?_)
        · have q40 : a3.toInt ≤ 2 := ti_le c39
          have h41 : iv 0 2 a3 := iv_leL (y := 2) h38 (iv_c (c := 2) (n := 2) (by decide)) q40 (by decide)
          refine lv_aload_n hx hb dX11_fits_30 rfl (lv_at hl 0 rfl) ?_
          refine tw_getrk hx hb hW hown hK hS f_X11_90_10 hz_a0 hk_a0 (b := bo) k_bo dX11_fits_31 ?_
          refine lv_iload_n hx hb dX11_fits_34 rfl (lv_at hl 1 rfl) ?_
          refine lv_iconst (v := 0) hx hb dX11_fits_35 (by decide) ?_
          obtain ⟨b42, k43, hz_b42, hk_b42, hn_b42⟩ := hS.2.1.ref hz_bo hk_bo (show rtR 1 2 = (37, 10, 0) from rfl)
          have hn_b42 := hn_b42 (by decide)
          refine tw_gomv hS (md_runV (As := [.int a1, .int 0]) (rest := []) hx hb hml hown hW hK hT hS.1 (t_X0_search l D cy tx base Z K N Ma Ra J22 hS.2.1 bo hz_bo hk_bo a1 h18 0 (iv_mono (iv_c (c := 0) (n := 0) (by decide)) (by decide) (by decide)) nw hbw x3 k1 (iv_mono h19 (by decide) (by decide)) b42 k43 en k_en hB_en) s_X11_290 ⟨rfl, rfl, ⟨Nat.le_of_ble_eq_true rfl, Nat.le_of_ble_eq_true rfl⟩, ⟨Nat.le_of_ble_eq_true rfl, Nat.le_of_ble_eq_true rfl⟩⟩ hz_bo hk_bo (by decide) rfl rfl hl.1 rfl (Nat.le_of_ble_eq_true rfl) dX11_fits_36) rfl rfl (fun H locs Z K N Ma Ra M47 R48 J46 hS g50 f44 g45 E49 => ?_)
          have k51 : M47 nw 0 = x3 := f44.kp hz_nw hk_nw rfl k1
          have k52 : R48 a0 3 = some nw := g45.kp hz_a0 hk_a0 rfl k_nw
          have k53 : R48 a0 14 = some bo := g45.kp hz_a0 hk_a0 rfl k_bo
          have k54 : R48 bo 7 = some ta := g45.kp hz_bo hk_bo rfl k_ta
          have k55 : R48 bo 8 = some su := g45.kp hz_bo hk_bo rfl k_su
          have k56 : R48 bo 0 = some nw := g45.kp hz_bo hk_bo rfl hbw
          have k57 : R48 bo 2 = some b42 := g45.kp hz_bo hk_bo rfl k43
          have k_nw : Ra a0 3 = some nw := GR.r g50 hz_a0 k_nw
          have k_bo : Ra a0 14 = some bo := GR.r g50 hz_a0 k_bo
          have k_en : Ra bo 6 = some en := GR.r g50 hz_bo k_en
          have k_ta : Ra bo 7 = some ta := GR.r g50 hz_bo k_ta
          have k_su : Ra bo 8 = some su := GR.r g50 hz_bo k_su
          have hbw : Ra bo 0 = some nw := GR.r g50 hz_bo hbw
          have hzo_a0 := hz_a0
          have hko_a0 := hk_a0
          have hk_a0 : K a0 = 11 := GR.k g50 hz_a0 hk_a0
          have hzo_nw := hz_nw
          have hko_nw := hk_nw
          have hk_nw : K nw = 10 := GR.k g50 hz_nw hk_nw
          have hzo_bo := hz_bo
          have hko_bo := hk_bo
          have hk_bo : K bo = 1 := GR.k g50 hz_bo hk_bo
          have hzo_en := hz_en
          have hko_en := hk_en
          have eN_en := GR.n g50 hz_en rfl
          have hk_en : K en = 38 := GR.k g50 hz_en hk_en
          have hzo_ta := hz_ta
          have hko_ta := hk_ta
          have eN_ta := GR.n g50 hz_ta rfl
          have hk_ta : K ta = 39 := GR.k g50 hz_ta hk_ta
          have hzo_su := hz_su
          have hko_su := hk_su
          have eN_su := GR.n g50 hz_su rfl
          have hk_su : K su = 40 := GR.k g50 hz_su hk_su
          have hzo_b42 := hz_b42
          have hko_b42 := hk_b42
          have hk_b42 : K b42 = 37 := GR.k g50 hz_b42 hk_b42
          have hn_b42 : N b42 = 10 := GR.n g50 hz_b42 hn_b42
          have hB_en : 64 ≤ N en ∧ N en ≤ 80000 := by rw [eN_en]; exact hB_en
          have hB_ta : 64 ≤ N ta ∧ N ta ≤ 100000 := by rw [eN_ta]; exact hB_ta
          have hB_su : 64 ≤ N su ∧ N su ≤ 16000 := by rw [eN_su]; exact hB_su
          have hz_a0 : a0 < Z := GR.z g50 hz_a0
          have hz_nw : nw < Z := GR.z g50 hz_nw
          have hz_bo : bo < Z := GR.z g50 hz_bo
          have hz_en : en < Z := GR.z g50 hz_en
          have hz_ta : ta < Z := GR.z g50 hz_ta
          have hz_su : su < Z := GR.z g50 hz_su
          have hz_b42 : b42 < Z := GR.z g50 hz_b42
          have hGR := GR.tr hGR g50
          have f58 := hS.2.2.1
          have g59 := hS.2.2.2
          have p60 := E49
          clear E49
          have et_ := eN_ta
          have es_ := eN_su
          refine lv_iload_n hx hb dX11_fits_39 rfl (lv_at hl 3 rfl) ?_
          refine lv_if_ne (tgt := 51) hx hb dX11_fits_40 (by decide) (fun c61 => ?_) (fun c61 => ?_)
          · have q62 : ¬ a3.toInt = 0 := ti_ne c61
            have h63 : iv 1 2 a3 := ⟨by have := (h41).1; have := ((iv_c (c := 0) (n := 0) (by decide))).1; have := ((iv_c (c := 0) (n := 0) (by decide))).2; omega, by have := (h41).2; have := ((iv_c (c := 0) (n := 0) (by decide))).1; have := ((iv_c (c := 0) (n := 0) (by decide))).2; omega⟩
            refine lv_aload_n hx hb dX11_fits_51 rfl (lv_at hl 0 rfl) ?_
            refine tw_getrk hx hb hW hown hK hS f_X11_90_10 hz_a0 hk_a0 (b := bo) k53 dX11_fits_52 ?_
            refine tw_geti hx hb hW hown hK hS f_X11_292_0 hz_bo hk_bo (lo := 0) (hi := 7776) rfl dX11_fits_55 (fun x66 k65 h64 => ?_)
            refine lv_if_ne (tgt := 64) hx hb dX11_fits_58 (by decide) (fun c67 => ?_) (fun c67 => ?_)
            · have q68 : ¬ x66.toInt = 0 := ti_ne c67
              have h69 : iv 1 7776 x66 := ⟨by have := (h64).1; have := ((iv_c (c := 0) (n := 0) (by decide))).1; have := ((iv_c (c := 0) (n := 0) (by decide))).2; omega, by have := (h64).2; have := ((iv_c (c := 0) (n := 0) (by decide))).1; have := ((iv_c (c := 0) (n := 0) (by decide))).2; omega⟩
              refine lv_iload_n hx hb dX11_fits_64 rfl (lv_at hl 3 rfl) ?_
              refine lv_iconst (v := 1) hx hb dX11_fits_65 (by decide) ?_
              refine lv_icmp_ne (tgt := 81) hx hb dX11_fits_66 (by decide) (fun c70 => ?_) (fun c70 => ?_)
              · have q71 : ¬ a3.toInt = 1 := ti_ne c70
                have h72 : iv 2 2 a3 := ⟨by have := (h63).1; have := ((iv_c (c := 1) (n := 1) (by decide))).1; have := ((iv_c (c := 1) (n := 1) (by decide))).2; omega, by have := (h63).2; have := ((iv_c (c := 1) (n := 1) (by decide))).1; have := ((iv_c (c := 1) (n := 1) (by decide))).2; omega⟩
                refine lv_aload_n hx hb dX11_fits_81 rfl (lv_at hl 0 rfl) ?_
                refine tw_getrk hx hb hW hown hK hS f_X11_90_10 hz_a0 hk_a0 (b := bo) k53 dX11_fits_82 ?_
                refine tw_getr hx hb hW hown hK hS f_X11_298_0 hz_bo hk_bo (t := 14) (n := 10) rfl dX11_fits_85 (fun b73 k74 hz_b73 hk_b73 hn_b73 => ?_)
                have hn_b73 := hn_b73 (by decide)
                refine lv_iload_n hx hb dX11_fits_88 rfl (lv_at hl 2 rfl) ?_
                refine tw_iald hx hb hK hS hz_b73 hk_b73 (Or.inl rfl) hn_b73 (lo := (-2147483648)) (hi := 2147483647) h33 ⟨by decide, by decide⟩ rg_u14 dX11_fits_89 (fun x77 k76 h75 => ?_)
                exact tw_emi hx hb hr hlocks hK hT hS hGR hQ ⟨Nat.le_of_ble_eq_true rfl, Nat.le_of_ble_eq_true rfl⟩ (⟨h75, (BG.fits hE0 (fun _ => rfl) hw_en hw_ta hw_su p60 k54 k55 (fun _ => rfl) hB_ta hB_su et_ es_)⟩) dX11_fits_90
              · have q78 : a3.toInt = 1 := ti_eq c70
                have h79 : iv 1 1 a3 := ⟨by have := (h63).1; have := ((iv_c (c := 1) (n := 1) (by decide))).1; omega, by have := (h63).2; have := ((iv_c (c := 1) (n := 1) (by decide))).2; omega⟩
                refine lv_aload_n hx hb dX11_fits_69 rfl (lv_at hl 0 rfl) ?_
                refine tw_getrk hx hb hW hown hK hS f_X11_90_10 hz_a0 hk_a0 (b := bo) k53 dX11_fits_70 ?_
                refine tw_getr hx hb hW hown hK hS f_X11_295_0 hz_bo hk_bo (t := 14) (n := 10) rfl dX11_fits_73 (fun b80 k81 hz_b80 hk_b80 hn_b80 => ?_)
                have hn_b80 := hn_b80 (by decide)
                refine lv_iload_n hx hb dX11_fits_76 rfl (lv_at hl 2 rfl) ?_
                refine tw_iald hx hb hK hS hz_b80 hk_b80 (Or.inl rfl) hn_b80 (lo := (-2147483648)) (hi := 2147483647) h33 ⟨by decide, by decide⟩ rg_u14 dX11_fits_77 (fun x84 k83 h82 => ?_)
                refine lv_goto (tgt := 90) hx hb dX11_fits_78 (by decide) ?_
                exact tw_emi hx hb hr hlocks hK hT hS hGR hQ ⟨Nat.le_of_ble_eq_true rfl, Nat.le_of_ble_eq_true rfl⟩ (⟨h82, (BG.fits hE0 (fun _ => rfl) hw_en hw_ta hw_su p60 k54 k55 (fun _ => rfl) hB_ta hB_su et_ es_)⟩) dX11_fits_90
            · have q85 : x66.toInt = 0 := ti_eq c67
              have h86 : iv 0 0 x66 := ⟨by have := (h64).1; have := ((iv_c (c := 0) (n := 0) (by decide))).1; omega, by have := (h64).2; have := ((iv_c (c := 0) (n := 0) (by decide))).2; omega⟩
              refine lv_bipush (v := (-2)) hx hb dX11_fits_61 (by decide) ?_
              exact tw_emi hx hb hr hlocks hK hT hS hGR hQ ⟨Nat.le_of_ble_eq_true rfl, Nat.le_of_ble_eq_true rfl⟩ (⟨(iv_mono (iv_c (c := (-2)) (n := (-2)) (by decide)) (by decide) (by decide)), (BG.fits hE0 (fun _ => rfl) hw_en hw_ta hw_su p60 k54 k55 (fun _ => rfl) hB_ta hB_su et_ es_)⟩) dX11_fits_63
          · have q87 : a3.toInt = 0 := ti_eq c61
            have h88 : iv 0 0 a3 := ⟨by have := (h41).1; have := ((iv_c (c := 0) (n := 0) (by decide))).1; omega, by have := (h41).2; have := ((iv_c (c := 0) (n := 0) (by decide))).2; omega⟩
            refine lv_aload_n hx hb dX11_fits_43 rfl (lv_at hl 0 rfl) ?_
            refine tw_getrk hx hb hW hown hK hS f_X11_90_10 hz_a0 hk_a0 (b := bo) k53 dX11_fits_44 ?_
            refine tw_geti hx hb hW hown hK hS f_X11_292_0 hz_bo hk_bo (lo := 0) (hi := 7776) rfl dX11_fits_47 (fun x91 k90 h89 => ?_)
            exact tw_emi hx hb hr hlocks hK hT hS hGR hQ ⟨Nat.le_of_ble_eq_true rfl, Nat.le_of_ble_eq_true rfl⟩ (⟨(iv_mono h89 (by decide) (by decide)), (BG.fits hE0 (fun _ => rfl) hw_en hw_ta hw_su p60 k54 k55 (fun _ => rfl) hB_ta hB_su et_ es_)⟩) dX11_fits_50
        · have q92 : 2 < a3.toInt := ti_nle c39
          have h93 : iv 3 2147483647 a3 := iv_gtL (y := 2) h38 (iv_c (c := 2) (n := 2) (by decide)) q92 (by decide)
          refine lv_iconst (v := (-1)) hx hb dX11_fits_28 (by decide) ?_
          exact tw_emi hx hb hr hlocks hK hT hS hGR hQ ⟨Nat.le_of_ble_eq_true rfl, Nat.le_of_ble_eq_true rfl⟩ (⟨(iv_mono (iv_c (c := (-1)) (n := (-1)) (by decide)) (by decide) (by decide)), (BG.same hE0 hw_en hw_ta hw_su (fun _ => rfl) hB_en hB_ta hB_su)⟩) dX11_fits_29
