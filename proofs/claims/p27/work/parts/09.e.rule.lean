theorem i32_ofNat {n : Nat} (h : n ≤ 1048576) : (Int32.ofNat n).toInt = (n : Int) := by
  rw [Int32.toInt_ofNat']
  show Int.bmod (n : Int) 4294967296 = (n : Int)
  exact Int.bmod_eq_of_le (by omega) (by omega)
theorem mx_z {sz : Int32} (h : 0 ≤ sz.toInt) : (if (0 : Int32) < sz then sz else 0) = sz := by
  by_cases q : (0 : Int32) < sz
  · rw [if_pos q]
  · rw [if_neg q]
    have q2 := ti_nlt q
    have e0 : (0 : Int32).toInt = 0 := by decide
    exact Int32.toInt_inj.mp (by omega)
theorem mn_z {sz : Int32} (h : sz.toInt ≤ 400) : (if (400 : Int32) < sz then 400 else sz) = sz := by
  refine if_neg (fun q => ?_)
  have q2 := ti_lt q
  have e0 : (400 : Int32).toInt = 400 := by decide
  omega
set_option maxRecDepth 100000 in
set_option maxHeartbeats 4000000 in
theorem c_X7_z (l : Launch) (D : va_G) (cy : Nat → ClassId) (tx : (Nat → Nat) × (Nat → Nat)) (base Zr : Nat) (K N : Nat → Nat) (M : MT) (R : RT) (J : JT) (b n : Nat) (sz : Int32) (hF : ∀ a, Zr + 1 ≤ a → ∀ k, M a k = 0 ∧ R a k = none ∧ J a k = 0) (h0 : K Zr = 8) (h1 : K (Zr + 1) = 15 ∧ N (Zr + 1) = 8) (h2 : K (Zr + 2) = 14 ∧ N (Zr + 2) = n) (hn : sz.toNatClampNeg = n) (hsz : iv 0 400 sz) (hbz : b < Zr) (hbk : K b = 14) (hbn : N b = 400) : Met l yX7_init [Cond.code yX7_init cX7_init 4 none] (md_rm 1 2 408) (va_Pc [.ref (base + Zr), .ref (base + b), .int sz] (md_U D cy tx base (Zr + 1) K N M R J)) (mQv D cy tx base (fun u => u = (Zr + 3, K, N, (ur M (Zr + 2) (va_cpy (M b) (M (Zr + 2)) 0 0 n)), (u2 (u2 R Zr 1 (some (Zr + 1))) Zr 0 (some (Zr + 2))), J))) 2 408 (fun q => base ≤ q) := by
  refine Met.ofW (cc := cX7_init) (maxL := 4) (ret := none) (by decide) rfl ?_
  intro p e s m args below meth c s₁ B hml hv
  have hW : ∀ w ∈ lw_tbl, goodWord w = true → w.before args s = true := fun w h g => hv.2.2.2.1.2.1 w h g _
  obtain ⟨rfl, hU⟩ := hv
  have hx := B.exec
  have hb := B.bytes
  have hr := B.returns
  have hlocks := B.notSynchronized
  have hown : s.vm.findClass RX7 = some m.cls := findClass_of_methodNamed B.named
  have hK := hU.2.2.1
  have hT := hU.2.2.2
  have hG := md_G.start hU
  have hin : meth.name = "<init>" := (name_of_methodNamed B.named B.method).1
  have hl := lv_entry ([.ref (base + Zr), .ref (base + b), .int sz]) (n := 4) (Nat.le_of_ble_eq_true rfl)
  rw [lg_entry_eq]
  generalize (lg_sl ([.ref (base + Zr), .ref (base + b), .int sz]) ++ List.replicate (4 - (lg_sl ([.ref (base + Zr), .ref (base + b), .int sz])).length) Slot.unset).toArray = ls at hl ⊢
  have nc := ti_cl hsz.1
  have hn4 : n ≤ 400 := by have := hsz.2; omega
  have hneg : ¬ sz < 0 := fun q => by have q2 : sz.toInt < 0 := Int32.lt_iff_toInt_lt.mp q; have := hsz.1; omega
  have hv : Int32.ofNat n = sz := Int32.toInt_inj.mp (by rw [i32_ofNat (by omega), ← hn]; exact nc)
  have hl : lv_has ls 4 [(0, .ref (base + Zr)), (1, .ref (base + b)), (2, .int sz)] := hl
  refine lv_aload_n hx hb dX7_init_0 rfl (lv_at hl 0 rfl) ?_
  refine W.objInit hx hb hown (hW _ w_4_72 rfl) (hW _ w_1_27 rfl) (hW _ w_1_28 rfl) rfl (by rw [hml]; exact hl.1) rfl dX7_init_1 (Nat.le_of_ble_eq_true rfl) (Nat.le_of_ble_eq_true rfl) ?_
  refine W.eq (g2 := F0 m 4 ls []) rfl ?_
  refine lv_aload_n hx hb dX7_init_4 rfl (lv_at hl 0 rfl) ?_
  refine lv_bipush (v := 8) hx hb dX7_init_5 (by decide) ?_
  refine md_newa hx hb hW hK hG (t := 15) (Or.inr (Or.inr (Or.inl ⟨rfl, rfl⟩))) w_2_133 (na := 8) (by decide) (by decide) (by decide) (Or.inl h1) (fun k => (hF (Zr + 1) (by omega) k).1) (fun k => (hF (Zr + 1) (by omega) k).2.2) (Nat.le_of_ble_eq_true rfl) (Nat.le_of_ble_eq_true rfl) dX7_init_7 (fun H hG => ?_)
  have hG : md_G D cy base (Zr + 2) K N M R J s H _ := hG
  refine md_putF hx hb hW hown hK hG f_X7_11_7 hin rfl (show Zr < Zr + 2 by omega) h0 rfl rfl dX7_init_9 (fun H locs hG => ?_)
  refine lv_iconst (v := 0) hx hb dX7_init_12 (by decide) ?_
  refine lv_iload_n hx hb dX7_init_13 rfl (lv_at hl 2 rfl) ?_
  refine lv_aload_n hx hb dX7_init_14 rfl (lv_at hl 1 rfl) ?_
  refine md_alen hx hb hK hG (show b < Zr + 2 by omega) hbk (by decide) hbn (v := 400) (by decide) dX7_init_15 ?_
  refine va_mmin hx hb (hml.trans hl.1.symm) hown (hW _ w_4_73 rfl) (hW _ w_3_86 rfl) (hW _ w_1_13 rfl) (hW _ w_3_87 rfl) (Nat.le_of_ble_eq_true rfl) (Nat.le_of_ble_eq_true rfl) (Nat.le_of_ble_eq_true rfl) (Nat.le_of_ble_eq_true rfl) dX7_init_16 ?_
  refine md_top (y := sz) (mn_z hsz.2) ?_
  refine va_mmax hx hb (hml.trans hl.1.symm) hown (hW _ w_4_74 rfl) (hW _ w_4_75 rfl) (hW _ w_1_13 rfl) (hW _ w_4_76 rfl) (Nat.le_of_ble_eq_true rfl) (Nat.le_of_ble_eq_true rfl) (Nat.le_of_ble_eq_true rfl) (Nat.le_of_ble_eq_true rfl) dX7_init_19 ?_
  refine md_top (y := sz) (mx_z hsz.1) ?_
  refine md_newa hx hb hW hK hG (t := 14) (Or.inr (Or.inl ⟨rfl, Or.inl rfl⟩)) w_1_144 (na := n) hneg hn (by omega) (Or.inl h2) (fun k => (hF (Zr + 2) (by omega) k).1) (fun k => (hF (Zr + 2) (by omega) k).2.2) (Nat.le_of_ble_eq_true rfl) (by show 0 + 8 + n ≤ 408; omega) dX7_init_22 (fun H hG => ?_)
  refine W.widen (k := 2) (n := 408) (Nat.le_of_ble_eq_true rfl) (by show 0 + 8 + n ≤ 408; omega) ?_
  have hG : md_G D cy base (Zr + 3) K N M (u2 R Zr 1 (some (Zr + 1))) J s H _ := hG
  refine lv_astore_n (lv' := [(3, .ref (base + (Zr + 2))), (0, .ref (base + Zr)), (1, .ref (base + b)), (2, .int sz)]) hx hb dX7_init_24 rfl hl (by decide) rfl (fun ls hl => ?_)
  refine lv_aload_n hx hb dX7_init_25 rfl (lv_at hl 2 rfl) ?_
  refine lv_iconst (v := 0) hx hb dX7_init_26 (by decide) ?_
  refine lv_aload_n hx hb dX7_init_27 rfl (lv_at hl 0 rfl) ?_
  refine lv_iconst (v := 0) hx hb dX7_init_28 (by decide) ?_
  refine lv_aload_n hx hb dX7_init_29 rfl (lv_at hl 0 rfl) ?_
  refine md_alen hx hb hK hG (show Zr + 2 < Zr + 3 by omega) h2.1 (by decide) h2.2 hv dX7_init_30 ?_
  refine md_copy hx hb (hml.trans hl.1.symm) hW hown hK hG (md_okc w_4_77 rfl (md_okc w_3_226 rfl (md_okc w_3_225 rfl (md_okc w_1_18 rfl (md_ok0))))) (a := Zr + 2) (b := b) (by omega) h2.1 (Or.inl rfl) (by omega) hbk (Or.inl rfl) h2.2 hbn (by decide) (by decide) hneg (by rw [hn]; show 0 + n ≤ 400; omega) (by rw [hn]; show 0 + n ≤ n; omega) (sp' := 0) (dp' := 0) (n' := n) (by decide) (by decide) hn (Nat.le_of_ble_eq_true rfl) (Nat.le_of_ble_eq_true rfl) dX7_init_31 (fun H locs hG => ?_)
  refine lv_aload_n hx hb dX7_init_34 rfl (lv_at hl 1 rfl) ?_
  refine lv_aload_n hx hb dX7_init_35 rfl (lv_at hl 0 rfl) ?_
  refine md_putF hx hb hW hown hK hG f_X7_30_7 hin rfl (show Zr < Zr + 3 by omega) h0 rfl rfl dX7_init_36 (fun H locs hG => ?_)
  exact md_endv hx hb hr hlocks hK hT hG (rfl) dX7_init_39
/-- the tables with a Rule more -/
def ruK : Nat → Nat := fun i => ([8, 15, 14] : List Nat).getD i 0
def ruN (n : Nat) : Nat → Nat := fun i => ([0, 8, n] : List Nat).getD i 0
section MKR
variable {p : Program} {l : Launch} {e : Env} {Rm : Room} {s : State} {m : MethodId} {args : Array Value} {below : List Frame} {meth : Method} {c : Code} {H : Heap} {locs : List Loc} {cells slots : Nat} {Q : State → Prop}
variable {cc : ByteArray} {pc : Nat} {ls : Array Slot} {rest st : List Value} {D : va_G} {cy : Nat → ClassId} {tx : (Nat → Nat) × (Nat → Nat)} {base Z : Nat} {K N : Nat → Nat} {L LR : WL} {Ma M : MT} {Ra R : RT} {J : JT}
theorem tw_newR {zq a0 rt cd : Nat} {sz : Int32} (hzq : zq = Z) (hexec : p.tables.exec = Jvm.exec) (hb : c.code = cX11_rule) (hml : c.maxLocals = 2) (hW : ∀ w ∈ lw_tbl, goodWord w = true → w.before args s = true) (hown : s.vm.findClass RX11 = some m.cls) (hK : md_K D cy s) (hT : md_T tx base s) (hS : SB D cy base Z K N L LR Ma Ra M R J s H locs) (hl : lv_has ls 2 [(0, .ref (base + a0))]) (hz0 : a0 < Z) (hk0 : K a0 = 11) (hzt : rt < Z) (hkt : K rt = 9) (hrt : R a0 8 = some rt) (hcd : R rt 5 = some cd) (hzc : cd < Z) (hkc : K cd = 14) (hnc : N cd = 400) (hsz : M rt 6 = sz) (hiv : iv 0 400 sz) (hrm : (rest.map fun v => v.category).sum ≤ 7) (hfr : 2 ≤ Rm.frames ∧ 100 ≤ Rm.locals) (hce : cells + 3 ≤ Rm.cells ∧ slots + 410 ≤ Rm.slots)
    (kk : ∀ (H1 : Heap) (locs1 : List Loc) (Z1 : Nat) (K1 N1 : Nat → Nat) (Ma1 : MT) (Ra1 : RT) (M1 : MT) (R1 : RT) (J1 : JT), Z1 = zq + 3 → zq < Z1 → K1 zq = 8 → tot K1 N1 Z1 ≤ tot K N Z + 410 → (∀ b, b < Z → M1 b = M b ∧ R1 b = R b) → SB D cy base Z1 K1 N1 L LR Ma1 Ra1 M1 R1 J1 s H1 locs1 → GR Z K N Ma Ra Z1 K1 N1 Ma1 Ra1 → W p l e Rm s m args below meth c H1 locs1 (cells + 3) (slots + 410) Q (F0 m 70 ls (.ref (base + zq) :: rest))) : W p l e Rm s m args below meth c H locs cells slots Q (F0 m 49 ls rest) := by
  subst hzq
  obtain ⟨n, en⟩ : ∃ n, sz.toNatClampNeg = n := ⟨_, rfl⟩
  have nc := ti_cl hiv.1
  have hn4 : n ≤ 400 := by have := hiv.2; omega
  have hG1 : md_G D cy base zq (xt K zq ruK) (xt N zq (ruN n)) (xt M zq (fun _ _ => 0)) (xt R zq (fun _ _ => none)) (xt J zq (fun _ _ => 0)) s H locs := hS.1.xt
  have e0 : ∀ a, zq ≤ a → ∀ k, xt M zq (fun _ _ => 0) a k = 0 ∧ xt R zq (fun _ _ => none) a k = none ∧ xt J zq (fun _ _ => 0) a k = 0 := fun a ha k => by
    unfold xt
    rw [if_neg (by omega), if_neg (by omega), if_neg (by omega)]
    exact ⟨rfl, rfl, rfl⟩
  have xk : ∀ {b t : Nat}, b < zq → K b = t → xt K zq ruK b = t := fun hb2 h => (xt_lo hb2).trans h
  have xn : ∀ {b t : Nat}, b < zq → N b = t → xt N zq (ruN n) b = t := fun hb2 h => (xt_lo hb2).trans h
  have xr : ∀ {b k : Nat} {v : Option Nat}, b < zq → R b k = v → xt R zq (fun _ _ => none) b k = v := fun hb2 h => (congrFun (xt_lo hb2) _).trans h
  have xm : ∀ {b k : Nat} {v : Int32}, b < zq → M b k = v → xt M zq (fun _ _ => 0) b k = v := fun hb2 h => (congrFun (xt_lo hb2) _).trans h
  refine md_new hexec hb hW hown hK hG1 k_X11_24 (Or.inl xt_z) (fun k => (e0 zq (Nat.le_refl _) k).1) (fun k => (e0 zq (Nat.le_refl _) k).2.1) (by omega) (by omega) dX11_rule_49 (fun H1 hG2 => ?_)
  refine lv_dup hexec hb dX11_rule_52 rfl ?_
  refine lv_aload_n hexec hb dX11_rule_53 rfl (lv_at hl 0 rfl) ?_
  refine md_getr hexec hb hW hown hK hG2 f_X11_53_10 (show a0 < zq + 1 by omega) (xk hz0 hk0) (xr hz0 hrt) dX11_rule_54 ?_
  refine md_getr hexec hb hW hown hK hG2 f_X11_123_8 (show rt < zq + 1 by omega) (xk hzt hkt) (xr hzt hcd) dX11_rule_57 ?_
  refine lv_aload_n hexec hb dX11_rule_60 rfl (lv_at hl 0 rfl) ?_
  refine md_getr hexec hb hW hown hK hG2 f_X11_53_10 (show a0 < zq + 1 by omega) (xk hz0 hk0) (xr hz0 hrt) dX11_rule_61 ?_
  refine md_geti hexec hb hW hown hK hG2 f_X11_126_8 (show rt < zq + 1 by omega) (xk hzt hkt) (xm hzt hsz) dX11_rule_64 ?_
  refine md_gov hG2 (md_runI (As := [.ref (base + cd), .int sz]) (rest := .ref (base + zq) :: rest) hexec hb hml hown hW hK hT hG2 (c_X7_z l D cy tx base zq _ _ _ _ _ cd n sz (fun a ha => e0 a (by omega)) xt_z ⟨xt_hi 1, xt_hi 1⟩ ⟨xt_hi 2, xt_hi 2⟩ en hiv hzc (xk hzc hkc) (xn hzc hnc)) s_X11_129 ⟨rfl, rfl, ⟨hfr.1, show 8 + (4 + 11) + 40 * 1 ≤ Rm.locals by omega⟩, by show cells + 1 + 2 ≤ Rm.cells; omega, by show slots + 2 + 408 ≤ Rm.slots; omega⟩ rfl hl.1 rfl (by show 1 + (rest.map fun v => v.category).sum ≤ 8; omega) dX11_rule_67) (fun u H2 locs2 hp hG3 => ?_)
  subst hp
  refine W.widen (show cells + 1 + 2 ≤ cells + 3 by omega) (show slots + 2 + 408 ≤ slots + 410 by omega) ?_
  have hG3 : md_G D cy base (zq + 3) (xt K zq ruK) (xt N zq (ruN n)) (ur (xt M zq (fun _ _ => 0)) (zq + 2) (va_cpy ((xt M zq (fun _ _ => 0)) cd) ((xt M zq (fun _ _ => 0)) (zq + 2)) 0 0 n)) (u2 (u2 (xt R zq (fun _ _ => none)) zq 1 (some (zq + 1))) zq 0 (some (zq + 2))) (xt J zq (fun _ _ => 0)) s H2 locs2 := hG3
  have hRz : ∀ b, b < zq → (u2 (u2 (xt R zq (fun _ _ => none)) zq 1 (some (zq + 1))) zq 0 (some (zq + 2))) b = R b := fun b hb2 => by
    have hne : b ≠ zq := by omega
    rw [u2_ne hne, u2_ne hne]
    exact xt_lo hb2
  have hMe : ur (xt M zq (fun _ _ => 0)) (zq + 2) (va_cpy ((xt M zq (fun _ _ => 0)) cd) ((xt M zq (fun _ _ => 0)) (zq + 2)) 0 0 n) = xt M zq (fun i k => if i = 2 then va_cpy (M cd) (fun _ => 0) 0 0 n k else 0) := by
    rw [xt_lo hzc, xt_hi]
    funext b k
    by_cases q : b < zq
    · rw [ur_ne (by omega), xt_lo q, xt_lo q]
    · obtain ⟨i, rfl⟩ : ∃ i, b = zq + i := ⟨b - zq, by omega⟩
      rw [xt_hi]
      by_cases q2 : i = 2
      · subst q2
        rw [ur_at, if_pos rfl]
      · rw [ur_ne (by omega), if_neg q2, xt_hi]
  rw [hMe] at hG3
  refine Exists.elim (hS.ext (gK := ruK) (gN := ruN n) hG3 hRz (fun i hi => ?_) (fun i hi => ?_) (fun i hi k => ?_) (fun i hi k => ?_)) (fun Ma1 q => Exists.elim q (fun Ra1 q2 => ?_))
  · have : ∀ i : Fin 3, ruK i.val ≠ 0 := by decide
    exact this ⟨i, hi⟩
  · rcases (show i = 0 ∨ i = 1 ∨ i = 2 by omega) with rfl | rfl | rfl
    · show (0 : Nat) ≤ _; omega
    · show (8 : Nat) ≤ _; omega
    · show n ≤ _; omega
  · rcases (show i = 0 ∨ i = 1 ∨ i = 2 by omega) with rfl | rfl | rfl
    · exact okI_any rfl
    · exact okI_any rfl
    · exact okI_any rfl
  · by_cases q : i = 0
    · subst q
      rw [show zq + 0 = zq from rfl, u2_one, u2_one, (e0 zq (Nat.le_refl _) k).2.1]
      by_cases q2 : k = 0
      · subst q2
        rw [if_pos rfl]
        exact ⟨by omega, xt_hi 2, fun h => absurd rfl h⟩
      · rw [if_neg q2]
        by_cases q3 : k = 1
        · subst q3
          rw [if_pos rfl]
          exact ⟨by omega, xt_hi 1, fun _ => xt_hi 1⟩
        · rw [if_neg q3]
          refine Or.inl ?_
          show (rtR 8 k).2.2 = 1
          match k, q2, q3 with
          | 0, h, _ => exact absurd rfl h
          | 1, _, h => exact absurd rfl h
          | k + 2, _, _ => rfl
    · have hne : zq + i ≠ zq := by omega
      rw [u2_ne hne, u2_ne hne, xt_hi]
      refine Or.inl ?_
      rcases (show i = 1 ∨ i = 2 by omega) with rfl | rfl
      all_goals rfl
  · obtain ⟨hS1, hg⟩ := q2
    refine kk H2 locs2 _ _ _ Ma1 Ra1 _ _ _ rfl (by omega) xt_z ?_ (fun b hb2 => ⟨xt_lo hb2, hRz b hb2⟩) hS1 hg
    rw [tot_xt]
    have : tot ruK (ruN n) 3 = 2 + 8 + n := by
      rw [tot_s, tot_s, tot_s]
      show 0 + 2 + 8 + n = 2 + 8 + n
      omega
    omega
end MKR
section MKA
variable {p : Program} {l : Launch} {e : Env} {Rm : Room} {s : State} {m : MethodId} {args : Array Value} {below : List Frame} {meth : Method} {c : Code} {H : Heap} {locs : List Loc} {cells slots : Nat} {Q : State → Prop}
variable {cc : ByteArray} {pc : Nat} {ls : Array Slot} {rest st : List Value} {D : va_G} {cy : Nat → ClassId} {tx : (Nat → Nat) × (Nat → Nat)} {base Z : Nat} {K N : Nat → Nat} {L LR : WL} {Ma M : MT} {Ra R : RT} {J : JT}
/-- a reference into an array of such -/
theorem tw_aast (hexec : p.tables.exec = Jvm.exec) (hb : c.code = cc) (hK : md_K D cy s) (hS : SB D cy base Z K N L LR Ma Ra M R J s H locs) {a t : Nat} (hz : a < Z) (ha : K a = t) {b cx : Nat} (hzb : b < Z) (hbk : K b = cx + 1) (ht : (t = 17 ∧ cx = 7) ∨ (t = 18 ∧ cx = 9)) {i : Int32} {n : Nat} (hn : N a = n) {il ih : Int} (hi0 : iv il ih i) (h0 : 0 ≤ il ∧ ih < n) (hl : inLr LR t 0 1999999 = true) (hdg : decode cc pc = .ok (.aastore, 1))
    (kk : ∀ (H1 : Heap) (locs1 : List Loc) (R1 : RT), SB D cy base Z K N L LR Ma Ra M R1 J s H1 locs1 → R1 a i.toNatClampNeg = some b → Fr K [(t, 0, 2000000)] R R1 → R1 = u2 R a i.toNatClampNeg (some b) → W p l e Rm s m args below meth c H1 locs1 cells slots Q (F0 m (pc + 1) ls rest)) : W p l e Rm s m args below meth c H locs cells slots Q (F0 m pc ls (.ref (base + b) :: .int i :: .ref (base + a) :: rest)) := by
  have g := iv_k hi0 h0.1
  have hb1 := hS.2.1.2.2 a hz
  have hok : okR Z K N (N a) t i.toNatClampNeg (some b) := by
    rcases ht with ⟨rfl, rfl⟩ | ⟨rfl, rfl⟩
    · exact ⟨hzb, hbk, fun h => absurd rfl h⟩
    · exact ⟨hzb, hbk, fun h => absurd rfl h⟩
  exact md_aast hexec hb hK hS.1 hz ha hzb hbk ht hn (iv_in hi0 h0) rfl hdg (fun H1 locs1 hG => kk H1 locs1 _ (hS.putr hG ha hok (inL_of hl (Nat.zero_le _) (by omega))) u2_same (fr_oneR ha (Nat.zero_le _) (by omega)) rfl)
/-- an int field, told exactly -/
theorem tw_putix (hexec : p.tables.exec = Jvm.exec) (hb : c.code = cc) (hW : ∀ w ∈ lw_tbl, goodWord w = true → w.before args s = true) {own : String} (hown : s.vm.findClass own = some m.cls) (hK : md_K D cy s) (hS : SB D cy base Z K N L LR Ma Ra M R J s H locs) {index cx k : Nat} {ty : FieldType} (hF : md_F own index cx k ty false false) {a : Nat} (hz : a < Z) (ha : K a = cx + 1) {x : Int32} (hn : narrow ty (.int x) = .int x) (hfit : fits ty (.int x) = true) {lo hi : Int} (hr : rgI (cx + 1) k = (lo, hi)) (hv : iv lo hi x) (hl : inLr L (cx + 1) k k = true) (hdg : decode cc pc = .ok (.putfield index, 3))
    (kk : ∀ (H1 : Heap) (locs1 : List Loc) (M1 : MT), SB D cy base Z K N L LR Ma Ra M1 R J s H1 locs1 → M1 a k = x → Fr K [(cx + 1, k, k + 1)] M M1 → M1 = u2 M a k x → W p l e Rm s m args below meth c H1 locs1 cells slots Q (F0 m (pc + 3) ls rest)) : W p l e Rm s m args below meth c H locs cells slots Q (F0 m pc ls (.int x :: .ref (base + a) :: rest)) :=
  md_puti hexec hb hW hown hK hS.1 hF hz ha hn hfit hdg (fun H1 locs1 hG => kk H1 locs1 _ (hS.puti hG ha (by unfold okI; rw [hr]; exact hv) (inL_of hl (Nat.le_refl _) (Nat.le_refl _))) u2_same (fr_one ha (Nat.le_refl _) (Nat.lt_succ_self _)) rfl)
end MKA
/-- what image is told by: refused; into a State that was there; into a new one -/
def IMQ (Z : Nat) (K N : Nat → Nat) (Ma : MT) (Ra : RT) (nw im : Nat) (k : Int32) (u : mS) : Prop :=
  ((k.toInt < 0 ∨ 3 < k.toInt) ∧ (u.1 = Z ∧ tot u.2.1 u.2.2.1 u.1 ≤ tot K N Z) ∧ (∀ b, b < Z → K b = 10 → u.2.2.2.1 b 6 = Ma b 6) ∧ ∀ j, u.2.2.2.2.1 im j = Ra im j)
  ∨ ((0 ≤ k.toInt ∧ k.toInt ≤ 3) ∧ ∃ st, u.2.2.2.2.1 im k.toNatClampNeg = some st ∧ u.2.2.2.1 st 6 = Ma nw 6 ∧ (∀ b, b < Z → K b = 10 → b ≠ st → u.2.2.2.1 b 6 = Ma b 6) ∧ (∀ j, j ≠ k.toNatClampNeg → u.2.2.2.2.1 im j = Ra im j) ∧ ((Ra im k.toNatClampNeg = some st ∧ u.1 = Z ∧ tot u.2.1 u.2.2.1 u.1 ≤ tot K N Z) ∨ (Ra im k.toNatClampNeg = none ∧ st = Z ∧ u.1 = Z + 8 ∧ tot u.2.1 u.2.2.1 u.1 ≤ tot K N Z + 232)))
/-- all x of States but one are as they were, that one is another's -/
def XT (K : Nat → Nat) (M M1 : MT) (a b : Nat) : Prop := M1 a 6 = M b 6 ∧ ∀ q, K q = 10 → q ≠ a → M1 q 6 = M q 6
def XS (K : Nat → Nat) (M M1 : MT) : Prop := ∀ q, K q = 10 → M1 q 6 = M q 6
/-- what seed, the check's seed, back are told by -/
def SDQ (K : Nat → Nat) (M M1 : MT) (nw : Nat) (x r : Int32) : Prop := (x.toInt < 0 ∧ r.toInt = -2 ∧ XS K M M1) ∨ (0 ≤ x.toInt ∧ r = M nw 6 ∧ M1 nw 6 = x ∧ ∀ q, K q = 10 → q ≠ nw → M1 q 6 = M q 6)
def SMQ (M M1 : MT) (sd : Nat) (x r : Int32) : Prop := (x.toInt < 0 ∧ r.toInt = -2 ∧ M1 sd 6 = M sd 6) ∨ (0 ≤ x.toInt ∧ r = M sd 6 ∧ M1 sd 6 = x)
def BXQ (K : Nat → Nat) (M : MT) (R : RT) (M1 : MT) (nw im : Nat) (k : Int32) : Prop := (((k.toInt < 0 ∨ 3 < k.toInt) ∨ R im k.toNatClampNeg = none) ∧ XS K M M1) ∨ ((0 ≤ k.toInt ∧ k.toInt ≤ 3) ∧ ∃ st, R im k.toNatClampNeg = some st ∧ XT K M M1 nw st)
theorem IMQ.ref {Z0 Z nw im : Nat} {K0 N0 K N : Nat → Nat} {Ma0 Ma M : MT} {Ra0 Ra : RT} {J : JT} {k : Int32} (hE0 : Z = Z0 ∧ K = K0 ∧ N = N0 ∧ Ma = Ma0 ∧ Ra = Ra0) (hk : k.toInt < 0 ∨ 3 < k.toInt) (hm : XS K Ma M) : IMQ Z0 K0 N0 Ma0 Ra0 nw im k (Z, K, N, M, Ra, J) := by
  obtain ⟨rfl, rfl, rfl, rfl, rfl⟩ := hE0
  exact Or.inl ⟨hk, ⟨rfl, Nat.le_refl _⟩, fun b _ hb => hm b hb, fun _ => rfl⟩
theorem IMQ.old {Z0 Z nw im st : Nat} {K0 N0 K N : Nat → Nat} {Ma0 Ma M : MT} {Ra0 Ra : RT} {J : JT} {k : Int32} (hE0 : Z = Z0 ∧ K = K0 ∧ N = N0 ∧ Ma = Ma0 ∧ Ra = Ra0) (hk : 0 ≤ k.toInt ∧ k.toInt ≤ 3) (e : Ra im k.toNatClampNeg = some st) (hm : XT K Ma M st nw) : IMQ Z0 K0 N0 Ma0 Ra0 nw im k (Z, K, N, M, Ra, J) := by
  obtain ⟨rfl, rfl, rfl, rfl, rfl⟩ := hE0
  exact Or.inr ⟨hk, st, e, hm.1, fun b _ hb hne => hm.2 b hb hne, fun _ _ => rfl, Or.inl ⟨e, rfl, Nat.le_refl _⟩⟩
theorem IMQ.made {Z0 Zo Z nw im st : Nat} {K0 N0 Ko No K N : Nat → Nat} {Ma0 Mao Ma M1 M3 : MT} {Ra0 Rao Ra R1 R2 : RT} {J : JT} {k : Int32} (hE0 : Zo = Z0 ∧ Ko = K0 ∧ No = N0 ∧ Mao = Ma0 ∧ Rao = Ra0) (hk : 0 ≤ k.toInt ∧ k.toInt ≤ 3) (ez : st = Zo) (eZ : Z = st + 8) (et : tot K N Z ≤ tot Ko No Zo + 232) (hg : GR Zo Ko No Mao Rao Z K N Ma Ra) (o : ∀ b, b < Zo → M1 b = Mao b ∧ R1 b = Rao b) (e0 : Rao im k.toNatClampNeg = none) (e2 : R2 = u2 R1 im k.toNatClampNeg (some st)) (hm : XT K M1 M3 st nw) (hzn : nw < Zo) (hzi : im < Zo) : IMQ Z0 K0 N0 Ma0 Ra0 nw im k (Z, K, N, M3, R2, J) := by
  obtain ⟨rfl, rfl, rfl, rfl, rfl⟩ := hE0
  subst ez
  subst eZ
  subst e2
  refine Or.inr ⟨hk, st, u2_same, ?_, fun b hb hkb hne => ?_, fun j hj => ?_, Or.inr ⟨e0, rfl, rfl, et⟩⟩
  · show M3 st 6 = Mao nw 6
    rw [hm.1, (o nw hzn).1]
  · show M3 b 6 = Mao b 6
    rw [hm.2 b ((hg.2.1 b hb).1.trans hkb) hne, (o b hb).1]
  · show u2 R1 im k.toNatClampNeg (some st) im j = Rao im j
    rw [u2_nk hj, (o im hzi).2]
/-- what rule is told by -/
def RUQ (Z : Nat) (K N : Nat → Nat) (Ma : MT) (a : Nat) (u : mS) : Prop :=
  ((u.1 = Z ∧ tot u.2.1 u.2.2.1 u.1 ≤ tot K N Z) ∧ u.2.2.2.1 a 6 = Ma a 6) ∨ (u.1 ≤ Z + 3 ∧ tot u.2.1 u.2.2.1 u.1 ≤ tot K N Z + 410 ∧ (u.2.2.2.1 a 6).toInt = (Ma a 6).toInt + 1)
theorem RUQ.same {Z0 Z a : Nat} {K0 N0 K N : Nat → Nat} {Ma0 Ma M : MT} {Ra0 Ra R : RT} {J : JT} (hE0 : Z = Z0 ∧ K = K0 ∧ N = N0 ∧ Ma = Ma0 ∧ Ra = Ra0) (h : M a 6 = Ma a 6) : RUQ Z0 K0 N0 Ma0 a (Z, K, N, M, R, J) := by
  obtain ⟨rfl, rfl, rfl, rfl, rfl⟩ := hE0
  exact Or.inl ⟨⟨rfl, Nat.le_refl _⟩, h⟩
theorem RUQ.made {Z0 Zo Z a st : Nat} {K0 N0 Ko No K N : Nat → Nat} {Ma0 Mao M : MT} {Ra0 Rao R : RT} {J : JT} {x y : Int32} (hE0 : Zo = Z0 ∧ Ko = K0 ∧ No = N0 ∧ Mao = Ma0 ∧ Rao = Ra0) (ez : st = Zo) (eZ : Z = st + 3) (et : tot K N Z ≤ tot Ko No Zo + 410) (h1 : Mao a 6 = x) (h2 : M a 6 = y) (h : y.toInt = x.toInt + 1) : RUQ Z0 K0 N0 Ma0 a (Z, K, N, M, R, J) := by
  obtain ⟨rfl, rfl, rfl, rfl, rfl⟩ := hE0
  refine Or.inr ⟨by show Z ≤ _; omega, et, ?_⟩
  show (M a 6).toInt = (Mao a 6).toInt + 1
  rw [h1, h2, h]
