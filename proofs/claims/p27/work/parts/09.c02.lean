def Lt_X11_tells : WL := [(1, 9, 13), (6, 14, 15), (14, 0, 2000000), (29, 0, 2000000), (37, 0, 2000000), (38, 0, 2000000), (39, 0, 2000000), (40, 0, 2000000)]
def LRt_X11_tells : WL := [(1, 6, 9)]
set_option maxRecDepth 100000 in
set_option maxHeartbeats 4000000 in
theorem t_X11_tells (l : Launch) (D : va_G) (cy : Nat → ClassId) (tx : (Nat → Nat) × (Nat → Nat)) (base Z0 : Nat) (K0 N0 : Nat → Nat) (Ma0 : MT) (Ra0 : RT) (Ja : JT) (hTy : Ty Z0 K0 N0 Ma0 Ra0) (a0 : Nat) (hz_a0 : a0 < Z0) (hk_a0 : K0 a0 = 11) (a1 : Int32) (h_a1 : iv (-2147483648) 2147483647 a1) (a2 : Int32) (h_a2 : iv (-2147483648) 2147483647 a2) (nw : Nat) (k_nw : Ra0 a0 3 = some nw) (bo : Nat) (k_bo : Ra0 a0 14 = some bo) (hbw : Ra0 bo 0 = some nw) (en : Nat) (k_en : Ra0 bo 6 = some en) (ta : Nat) (k_ta : Ra0 bo 7 = some ta) (su : Nat) (k_su : Ra0 bo 8 = some su) (hB_en : 64 ≤ N0 en ∧ N0 en ≤ 80000) (hB_ta : 64 ≤ N0 ta ∧ N0 ta ≤ 100000) (hB_su : 64 ≤ N0 su ∧ N0 su ≤ 16000) : Met l yX11_tells [Cond.code yX11_tells cX11_tells 3 (some .int)] (md_rm 5 1253 460000) (va_Pc [.ref (base + a0), .int a1, .int a2] (md_U D cy tx base Z0 K0 N0 Ma0 Ra0 Ja)) (mQi D cy tx base (fun r u => TM Z0 K0 N0 Lt_X11_tells LRt_X11_tells Ma0 Ra0 u ∧ (iv (-2147483648) 2147483647 r ∧ BG Z0 K0 N0 Ra0 bo u))) 1253 460000 (fun q => base ≤ q) := by
  refine tw_ofW (L := Lt_X11_tells) (LR := LRt_X11_tells) (by decide) (Nat.le_of_ble_eq_true rfl) hTy ?_
  intro p e s m args below meth c Q ls hx hb hr hlocks hown hml hW hK hT hS hQ hl
  have hl : lv_has ls 3 [(0, .ref (base + a0)), (1, .int a1), (2, .int a2)] := hl
  have hs0 : s.heap.size = base + Z0 := hS.1.2.1
  obtain ⟨Z, K, N, Ma, Ra, hE0, hGR, hTy, hS, hz_a0, hk_a0, k_nw, k_bo, hbw, k_en, k_ta, k_su, hB_en, hB_ta, hB_su⟩ : ∃ (Z : Nat) (K N : Nat → Nat) (Ma : MT) (Ra : RT), (Z = Z0 ∧ K = K0 ∧ N = N0 ∧ Ma = Ma0 ∧ Ra = Ra0) ∧ GR Z0 K0 N0 Ma0 Ra0 Z K N Ma Ra ∧ Ty Z K N Ma Ra ∧ SB D cy base Z K N Lt_X11_tells LRt_X11_tells Ma Ra Ma Ra Ja s s.heap [] ∧ (a0 < Z) ∧ (K a0 = 11) ∧ (Ra a0 3 = some nw) ∧ (Ra a0 14 = some bo) ∧ (Ra bo 0 = some nw) ∧ (Ra bo 6 = some en) ∧ (Ra bo 7 = some ta) ∧ (Ra bo 8 = some su) ∧ (64 ≤ N en ∧ N en ≤ 80000) ∧ (64 ≤ N ta ∧ N ta ≤ 100000) ∧ (64 ≤ N su ∧ N su ≤ 16000) := ⟨Z0, K0, N0, Ma0, Ra0, ⟨rfl, rfl, rfl, rfl, rfl⟩, GR.rf, hTy, hS, hz_a0, hk_a0, k_nw, k_bo, hbw, k_en, k_ta, k_su, hB_en, hB_ta, hB_su⟩
  obtain ⟨hz_nw, hk_nw, hn_nw⟩ := hTy.refn hz_a0 hk_a0 (show rtR 11 3 = (10, 0, 0) from rfl) k_nw
  obtain ⟨hz_bo, hk_bo, hn_bo⟩ := hTy.refn hz_a0 hk_a0 (show rtR 11 14 = (1, 0, 0) from rfl) k_bo
  obtain ⟨hz_en, hk_en, hn_en⟩ := hTy.refn hz_bo hk_bo (show rtR 1 6 = (38, 0, 0) from rfl) k_en
  obtain ⟨hz_ta, hk_ta, hn_ta⟩ := hTy.refn hz_bo hk_bo (show rtR 1 7 = (39, 0, 0) from rfl) k_ta
  obtain ⟨hz_su, hk_su, hn_su⟩ := hTy.refn hz_bo hk_bo (show rtR 1 8 = (40, 0, 0) from rfl) k_su
  have hw_en := k_en
  have hw_ta := k_ta
  have hw_su := k_su
  refine lv_aload_n hx hb dX11_tells_0 rfl (lv_at hl 0 rfl) ?_
  refine lv_iload_n hx hb dX11_tells_1 rfl (lv_at hl 1 rfl) ?_
  obtain ⟨x3, k1⟩ : ∃ x, Ma nw 0 = x := ⟨_, rfl⟩
  have h2 : iv (-2147483648) 10 x3 := by rw [← k1]; exact hS.2.1.int hz_nw hk_nw (show rgI 10 0 = ((-2147483648), 10) from rfl)
  refine tw_goi hS (md_runV (As := [.int a1]) (rest := []) hx hb hml hown hW hK hT hS.1 (t_X11_isForBooks l D cy tx base Z K N Ma Ra Ja hS.2.1 a0 hz_a0 hk_a0 a1 h_a1 nw k_nw x3 k1 (iv_mono h2 (by decide) (by decide))) s_X11_287 ⟨rfl, rfl, ⟨Nat.le_of_ble_eq_true rfl, Nat.le_of_ble_eq_true rfl⟩, ⟨Nat.le_of_ble_eq_true rfl, Nat.le_of_ble_eq_true rfl⟩⟩ hz_a0 hk_a0 (by decide) rfl rfl hl.1 rfl (Nat.le_of_ble_eq_true rfl) dX11_tells_2) rfl rfl (fun x10 H locs M7 R8 J6 hS f4 g5 E9 => ?_)
  have eM7 := Fr.nil f4 rfl
  subst eM7
  have eR8 := Fr.nil g5 rfl
  subst eR8
  obtain ⟨h_x10, p11, p12⟩ := E9
  refine lv_if_eq (tgt := 17) hx hb dX11_tells_5 (by decide) (fun c13 => ?_) (fun c13 => ?_)
  · have q14 : x10.toInt = 0 := ti_eq c13
    have h15 : iv 0 0 x10 := ⟨by have := (h_x10).1; have := ((iv_c (c := 0) (n := 0) (by decide))).1; omega, by have := (h_x10).2; have := ((iv_c (c := 0) (n := 0) (by decide))).2; omega⟩
    refine lv_iconst (v := (-1)) hx hb dX11_tells_17 (by decide) ?_
    exact tw_emi hx hb hr hlocks hK hT hS hGR hQ ⟨Nat.le_of_ble_eq_true rfl, Nat.le_of_ble_eq_true rfl⟩ (⟨(iv_mono (iv_c (c := (-1)) (n := (-1)) (by decide)) (by decide) (by decide)), (BG.same hE0 hw_en hw_ta hw_su (fun _ => rfl) hB_en hB_ta hB_su)⟩) dX11_tells_18
  · have q16 : ¬ x10.toInt = 0 := ti_ne c13
    have h17 : iv 1 1 x10 := ⟨by have := (h_x10).1; have := ((iv_c (c := 0) (n := 0) (by decide))).1; have := ((iv_c (c := 0) (n := 0) (by decide))).2; omega, by have := (h_x10).2; have := ((iv_c (c := 0) (n := 0) (by decide))).1; have := ((iv_c (c := 0) (n := 0) (by decide))).2; omega⟩
    have h18 : iv 1 6 a1 := ⟨by have := (p11 c13).1; have := (h_a1).1; omega, by have := (p11 c13).2; have := (h_a1).2; omega⟩
    have h19 : iv 1 5 x3 := ⟨by have := (p12 c13).1; have := (h2).1; omega, by have := (p12 c13).2; have := (h2).2; omega⟩
    refine lv_iload_n hx hb dX11_tells_8 rfl (lv_at hl 2 rfl) ?_
    refine lv_if_lt (tgt := 17) hx hb dX11_tells_9 (by decide) (fun c20 => ?_) (fun c20 => ?_)
    · have q21 : a2.toInt < 0 := ti_lt c20
      have h22 : iv (-2147483648) (-1) a2 := iv_ltL (y := 0) h_a2 (iv_c (c := 0) (n := 0) (by decide)) q21 (by decide)
      refine lv_iconst (v := (-1)) hx hb dX11_tells_17 (by decide) ?_
      exact tw_emi hx hb hr hlocks hK hT hS hGR hQ ⟨Nat.le_of_ble_eq_true rfl, Nat.le_of_ble_eq_true rfl⟩ (⟨(iv_mono (iv_c (c := (-1)) (n := (-1)) (by decide)) (by decide) (by decide)), (BG.same hE0 hw_en hw_ta hw_su (fun _ => rfl) hB_en hB_ta hB_su)⟩) dX11_tells_18
    · have q23 : 0 ≤ a2.toInt := ti_nlt c20
      have h24 : iv 0 2147483647 a2 := iv_geL (y := 0) h_a2 (iv_c (c := 0) (n := 0) (by decide)) q23 (by decide)
      refine lv_iload_n hx hb dX11_tells_12 rfl (lv_at hl 2 rfl) ?_
      refine lv_iconst (v := 1) hx hb dX11_tells_13 (by decide) ?_
      refine lv_icmp_le (tgt := 19) hx hb dX11_tells_14 (by decide) (fun c25 => ?_) (fun c25 => ?_)
      · have q26 : a2.toInt ≤ 1 := ti_le c25
        have h27 : iv 0 1 a2 := iv_leL (y := 1) h24 (iv_c (c := 1) (n := 1) (by decide)) q26 (by decide)
        refine lv_aload_n hx hb dX11_tells_19 rfl (lv_at hl 0 rfl) ?_
        refine tw_getrk hx hb hW hown hK hS f_X11_90_10 hz_a0 hk_a0 (b := bo) k_bo dX11_tells_20 ?_
        refine lv_iload_n hx hb dX11_tells_23 rfl (lv_at hl 1 rfl) ?_
        refine lv_iconst (v := 1) hx hb dX11_tells_24 (by decide) ?_
        obtain ⟨b28, k29, hz_b28, hk_b28, hn_b28⟩ := hS.2.1.ref hz_bo hk_bo (show rtR 1 2 = (37, 10, 0) from rfl)
        have hn_b28 := hn_b28 (by decide)
        refine tw_gomv hS (md_runV (As := [.int a1, .int 1]) (rest := []) hx hb hml hown hW hK hT hS.1 (t_X0_search l D cy tx base Z K N Ma Ra J6 hS.2.1 bo hz_bo hk_bo a1 h18 1 (iv_mono (iv_c (c := 1) (n := 1) (by decide)) (by decide) (by decide)) nw hbw x3 k1 (iv_mono h19 (by decide) (by decide)) b28 k29 en k_en hB_en) s_X11_290 ⟨rfl, rfl, ⟨Nat.le_of_ble_eq_true rfl, Nat.le_of_ble_eq_true rfl⟩, ⟨Nat.le_of_ble_eq_true rfl, Nat.le_of_ble_eq_true rfl⟩⟩ hz_bo hk_bo (by decide) rfl rfl hl.1 rfl (Nat.le_of_ble_eq_true rfl) dX11_tells_25) rfl rfl (fun H locs Z K N Ma Ra M33 R34 J32 hS g36 f30 g31 E35 => ?_)
        have k37 : M33 nw 0 = x3 := f30.kp hz_nw hk_nw rfl k1
        have k38 : R34 a0 3 = some nw := g31.kp hz_a0 hk_a0 rfl k_nw
        have k39 : R34 a0 14 = some bo := g31.kp hz_a0 hk_a0 rfl k_bo
        have k40 : R34 bo 7 = some ta := g31.kp hz_bo hk_bo rfl k_ta
        have k41 : R34 bo 8 = some su := g31.kp hz_bo hk_bo rfl k_su
        have k42 : R34 bo 0 = some nw := g31.kp hz_bo hk_bo rfl hbw
        have k43 : R34 bo 2 = some b28 := g31.kp hz_bo hk_bo rfl k29
        have k_nw : Ra a0 3 = some nw := GR.r g36 hz_a0 k_nw
        have k_bo : Ra a0 14 = some bo := GR.r g36 hz_a0 k_bo
        have k_en : Ra bo 6 = some en := GR.r g36 hz_bo k_en
        have k_ta : Ra bo 7 = some ta := GR.r g36 hz_bo k_ta
        have k_su : Ra bo 8 = some su := GR.r g36 hz_bo k_su
        have hbw : Ra bo 0 = some nw := GR.r g36 hz_bo hbw
        have hzo_a0 := hz_a0
        have hko_a0 := hk_a0
        have hk_a0 : K a0 = 11 := GR.k g36 hz_a0 hk_a0
        have hzo_nw := hz_nw
        have hko_nw := hk_nw
        have hk_nw : K nw = 10 := GR.k g36 hz_nw hk_nw
        have hzo_bo := hz_bo
        have hko_bo := hk_bo
        have hk_bo : K bo = 1 := GR.k g36 hz_bo hk_bo
        have hzo_en := hz_en
        have hko_en := hk_en
        have eN_en := GR.n g36 hz_en rfl
        have hk_en : K en = 38 := GR.k g36 hz_en hk_en
        have hzo_ta := hz_ta
        have hko_ta := hk_ta
        have eN_ta := GR.n g36 hz_ta rfl
        have hk_ta : K ta = 39 := GR.k g36 hz_ta hk_ta
        have hzo_su := hz_su
        have hko_su := hk_su
        have eN_su := GR.n g36 hz_su rfl
        have hk_su : K su = 40 := GR.k g36 hz_su hk_su
        have hzo_b28 := hz_b28
        have hko_b28 := hk_b28
        have hk_b28 : K b28 = 37 := GR.k g36 hz_b28 hk_b28
        have hn_b28 : N b28 = 10 := GR.n g36 hz_b28 hn_b28
        have hB_en : 64 ≤ N en ∧ N en ≤ 80000 := by rw [eN_en]; exact hB_en
        have hB_ta : 64 ≤ N ta ∧ N ta ≤ 100000 := by rw [eN_ta]; exact hB_ta
        have hB_su : 64 ≤ N su ∧ N su ≤ 16000 := by rw [eN_su]; exact hB_su
        have hz_a0 : a0 < Z := GR.z g36 hz_a0
        have hz_nw : nw < Z := GR.z g36 hz_nw
        have hz_bo : bo < Z := GR.z g36 hz_bo
        have hz_en : en < Z := GR.z g36 hz_en
        have hz_ta : ta < Z := GR.z g36 hz_ta
        have hz_su : su < Z := GR.z g36 hz_su
        have hz_b28 : b28 < Z := GR.z g36 hz_b28
        have hGR := GR.tr hGR g36
        have f44 := hS.2.2.1
        have g45 := hS.2.2.2
        have p46 := E35
        clear E35
        have et_ := eN_ta
        have es_ := eN_su
        refine lv_aload_n hx hb dX11_tells_28 rfl (lv_at hl 0 rfl) ?_
        refine tw_getrk hx hb hW hown hK hS f_X11_90_10 hz_a0 hk_a0 (b := bo) k39 dX11_tells_29 ?_
        obtain ⟨b47, k48, hz_b47, hk_b47, hn_b47⟩ := hS.2.1.ref hz_bo hk_bo (show rtR 1 6 = (38, 0, 0) from rfl)
        obtain ⟨x51, k49⟩ : ∃ x, M33 bo 10 = x := ⟨_, rfl⟩
        have h50 : iv 0 7776 x51 := by rw [← k49]; exact hS.2.1.int hz_bo hk_bo (show rgI 1 10 = (0, 7776) from rfl)
        have hzq := fun q (hq : R34 bo 6 = some q) => (hS.2.1.refn hz_bo hk_bo (show rtR 1 6 = (38, 0, 0) from rfl) hq).1
        have q52 : BKI N M33 bo b47 x3.toInt.toNat (M33 bo 10).toInt.toNat := (SKP.en p46 k48).2 (by decide)
        rw [k49] at q52
        obtain ⟨x55, k53⟩ : ∃ x, M33 bo 9 = x := ⟨_, rfl⟩
        have h54 : iv 0 49995 x55 := by rw [← k53]; exact hS.2.1.int hz_bo hk_bo (show rgI 1 9 = (0, 49995) from rfl)
        refine tw_gomv hS (md_runV (As := []) (rest := []) hx hb hml hown hW hK hT hS.1 (t_X0_seekTelling l D cy tx base Z K N M33 R34 J32 hS.2.1 bo hz_bo hk_bo nw k42 x3 k37 (iv_mono h19 (by decide) (by decide)) x51 k49 (iv_mono h50 (by decide) (by decide)) x55 k53 (iv_mono h54 (by decide) (by decide)) b47 k48 ta k40 su k41 hB_ta hB_su q52) s_X11_301 ⟨rfl, rfl, ⟨Nat.le_of_ble_eq_true rfl, Nat.le_of_ble_eq_true rfl⟩, ⟨Nat.le_of_ble_eq_true rfl, Nat.le_of_ble_eq_true rfl⟩⟩ hz_bo hk_bo (by decide) rfl rfl hl.1 rfl (Nat.le_of_ble_eq_true rfl) dX11_tells_32) rfl rfl (fun H locs Z K N Ma Ra M59 R60 J58 hS g62 f56 g57 E61 => ?_)
        have k63 : M59 nw 0 = x3 := f56.kp hz_nw hk_nw rfl k37
        have k64 : M59 bo 10 = x51 := f56.kp hz_bo hk_bo rfl k49
        have k65 : M59 bo 9 = x55 := f56.kp hz_bo hk_bo rfl k53
        have k66 : R60 a0 3 = some nw := g57.kp hz_a0 hk_a0 rfl k38
        have k67 : R60 a0 14 = some bo := g57.kp hz_a0 hk_a0 rfl k39
        have k68 : R60 bo 0 = some nw := g57.kp hz_bo hk_bo rfl k42
        have k69 : R60 bo 2 = some b28 := g57.kp hz_bo hk_bo rfl k43
        have k70 : R60 bo 6 = some b47 := g57.kp hz_bo hk_bo rfl k48
        have k_nw : Ra a0 3 = some nw := GR.r g62 hz_a0 k_nw
        have k_bo : Ra a0 14 = some bo := GR.r g62 hz_a0 k_bo
        have k_en : Ra bo 6 = some en := GR.r g62 hz_bo k_en
        have k_ta : Ra bo 7 = some ta := GR.r g62 hz_bo k_ta
        have k_su : Ra bo 8 = some su := GR.r g62 hz_bo k_su
        have hbw : Ra bo 0 = some nw := GR.r g62 hz_bo hbw
        have hzo_a0 := hz_a0
        have hko_a0 := hk_a0
        have hk_a0 : K a0 = 11 := GR.k g62 hz_a0 hk_a0
        have hzo_nw := hz_nw
        have hko_nw := hk_nw
        have hk_nw : K nw = 10 := GR.k g62 hz_nw hk_nw
        have hzo_bo := hz_bo
        have hko_bo := hk_bo
        have hk_bo : K bo = 1 := GR.k g62 hz_bo hk_bo
        have hzo_en := hz_en
        have hko_en := hk_en
        have eN_en := GR.n g62 hz_en rfl
        have hk_en : K en = 38 := GR.k g62 hz_en hk_en
        have hzo_ta := hz_ta
        have hko_ta := hk_ta
        have eN_ta := GR.n g62 hz_ta rfl
        have hk_ta : K ta = 39 := GR.k g62 hz_ta hk_ta
        have hzo_su := hz_su
        have hko_su := hk_su
        have eN_su := GR.n g62 hz_su rfl
        have hk_su : K su = 40 := GR.k g62 hz_su hk_su
        have hzo_b28 := hz_b28
        have hko_b28 := hk_b28
        have hk_b28 : K b28 = 37 := GR.k g62 hz_b28 hk_b28
        have hn_b28 : N b28 = 10 := GR.n g62 hz_b28 hn_b28
        have hzo_b47 := hz_b47
        have hko_b47 := hk_b47
        have eN_b47 := GR.n g62 hz_b47 rfl
        have hk_b47 : K b47 = 38 := GR.k g62 hz_b47 hk_b47
        have hB_en : 64 ≤ N en ∧ N en ≤ 80000 := by rw [eN_en]; exact hB_en
        have hB_ta : 64 ≤ N ta ∧ N ta ≤ 100000 := by rw [eN_ta]; exact hB_ta
        have hB_su : 64 ≤ N su ∧ N su ≤ 16000 := by rw [eN_su]; exact hB_su
        have hz_a0 : a0 < Z := GR.z g62 hz_a0
        have hz_nw : nw < Z := GR.z g62 hz_nw
        have hz_bo : bo < Z := GR.z g62 hz_bo
        have hz_en : en < Z := GR.z g62 hz_en
        have hz_ta : ta < Z := GR.z g62 hz_ta
        have hz_su : su < Z := GR.z g62 hz_su
        have hz_b28 : b28 < Z := GR.z g62 hz_b28
        have hz_b47 : b47 < Z := GR.z g62 hz_b47
        have hGR := GR.tr hGR g62
        have f71 := hS.2.2.1
        have g72 := hS.2.2.2
        have p73 := E61
        clear E61
        refine lv_iload_n hx hb dX11_tells_35 rfl (lv_at hl 2 rfl) ?_
        refine lv_if_ne (tgt := 49) hx hb dX11_tells_36 (by decide) (fun c74 => ?_) (fun c74 => ?_)
        · have q75 : ¬ a2.toInt = 0 := ti_ne c74
          have h76 : iv 1 1 a2 := ⟨by have := (h27).1; have := ((iv_c (c := 0) (n := 0) (by decide))).1; have := ((iv_c (c := 0) (n := 0) (by decide))).2; omega, by have := (h27).2; have := ((iv_c (c := 0) (n := 0) (by decide))).1; have := ((iv_c (c := 0) (n := 0) (by decide))).2; omega⟩
          refine lv_aload_n hx hb dX11_tells_49 rfl (lv_at hl 0 rfl) ?_
          refine tw_getrk hx hb hW hown hK hS f_X11_90_10 hz_a0 hk_a0 (b := bo) k67 dX11_tells_50 ?_
          refine tw_geti hx hb hW hown hK hS f_X11_307_0 hz_bo hk_bo (lo := (-2147483648)) (hi := 2147483647) rfl dX11_tells_53 (fun x79 k78 h77 => ?_)
          exact tw_emi hx hb hr hlocks hK hT hS hGR hQ ⟨Nat.le_of_ble_eq_true rfl, Nat.le_of_ble_eq_true rfl⟩ (⟨h77, (BG.tells hE0 (fun _ => rfl) hw_en hw_ta hw_su p46 (fun _ => rfl) k40 k41 et_ es_ p73 (FrB.kp g57 hzo_bo hko_bo rfl rfl) (fun q hq => (g62.2.1 q (hzq q hq)).2.1) (fun _ => rfl))⟩) dX11_tells_56
        · have q80 : a2.toInt = 0 := ti_eq c74
          have h81 : iv 0 0 a2 := ⟨by have := (h27).1; have := ((iv_c (c := 0) (n := 0) (by decide))).1; omega, by have := (h27).2; have := ((iv_c (c := 0) (n := 0) (by decide))).2; omega⟩
          refine lv_aload_n hx hb dX11_tells_39 rfl (lv_at hl 0 rfl) ?_
          refine tw_getrk hx hb hW hown hK hS f_X11_90_10 hz_a0 hk_a0 (b := bo) k67 dX11_tells_40 ?_
          refine tw_geti hx hb hW hown hK hS f_X11_304_0 hz_bo hk_bo (lo := (-2147483648)) (hi := 2147483647) rfl dX11_tells_43 (fun x84 k83 h82 => ?_)
          refine lv_goto (tgt := 56) hx hb dX11_tells_46 (by decide) ?_
          exact tw_emi hx hb hr hlocks hK hT hS hGR hQ ⟨Nat.le_of_ble_eq_true rfl, Nat.le_of_ble_eq_true rfl⟩ (⟨h82, (BG.tells hE0 (fun _ => rfl) hw_en hw_ta hw_su p46 (fun _ => rfl) k40 k41 et_ es_ p73 (FrB.kp g57 hzo_bo hko_bo rfl rfl) (fun q hq => (g62.2.1 q (hzq q hq)).2.1) (fun _ => rfl))⟩) dX11_tells_56
      · have q85 : 1 < a2.toInt := ti_nle c25
        have h86 : iv 2 2147483647 a2 := iv_gtL (y := 1) h24 (iv_c (c := 1) (n := 1) (by decide)) q85 (by decide)
        refine lv_iconst (v := (-1)) hx hb dX11_tells_17 (by decide) ?_
        exact tw_emi hx hb hr hlocks hK hT hS hGR hQ ⟨Nat.le_of_ble_eq_true rfl, Nat.le_of_ble_eq_true rfl⟩ (⟨(iv_mono (iv_c (c := (-1)) (n := (-1)) (by decide)) (by decide) (by decide)), (BG.same hE0 hw_en hw_ta hw_su (fun _ => rfl) hB_en hB_ta hB_su)⟩) dX11_tells_18
