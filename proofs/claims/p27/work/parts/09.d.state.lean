set_option maxRecDepth 100000 in
set_option maxHeartbeats 4000000 in
theorem c_X9_z (l : Launch) (D : va_G) (cy : Nat → ClassId) (tx : (Nat → Nat) × (Nat → Nat)) (base Zr : Nat) (K N : Nat → Nat) (M : MT) (R : RT) (J : JT) (hF : ∀ a, Zr + 1 ≤ a → ∀ k, M a k = 0 ∧ R a k = none ∧ J a k = 0) (h0 : K Zr = 10) (h1 : K (Zr + 1) = 14 ∧ N (Zr + 1) = 120) (h2 : K (Zr + 2) = 20 ∧ N (Zr + 2) = 10) (h3 : K (Zr + 3) = 14 ∧ N (Zr + 3) = 10) (h4 : K (Zr + 4) = 14 ∧ N (Zr + 4) = 10) (h5 : K (Zr + 5) = 14 ∧ N (Zr + 5) = 10) (h6 : K (Zr + 6) = 21 ∧ N (Zr + 6) = 8) (h7 : K (Zr + 7) = 14 ∧ N (Zr + 7) = 48) : Met l yX9_init [Cond.code yX9_init cX9_init 1 none] (md_rm 1 7 216) (va_Pc [.ref (base + Zr)] (md_U D cy tx base (Zr + 1) K N M R J)) (mQv D cy tx base (fun u => u = (Zr + 8, K, N, M, (u2 (u2 (u2 (u2 (u2 (u2 (u2 R Zr 9 (some (Zr + 1))) Zr 10 (some (Zr + 2))) Zr 11 (some (Zr + 3))) Zr 12 (some (Zr + 4))) Zr 13 (some (Zr + 5))) Zr 14 (some (Zr + 6))) Zr 15 (some (Zr + 7))), J))) 7 216 (fun q => base ≤ q) := by
  refine Met.ofW (cc := cX9_init) (maxL := 1) (ret := none) (by decide) rfl ?_
  intro p e s m args below meth c s₁ B hml hv
  have hW : ∀ w ∈ lw_tbl, goodWord w = true → w.before args s = true := fun w h g => hv.2.2.2.1.2.1 w h g _
  obtain ⟨rfl, hU⟩ := hv
  have hx := B.exec
  have hb := B.bytes
  have hr := B.returns
  have hlocks := B.notSynchronized
  have hown : s.vm.findClass RX9 = some m.cls := findClass_of_methodNamed B.named
  have hK := hU.2.2.1
  have hT := hU.2.2.2
  have hG := md_G.start hU
  have hin : meth.name = "<init>" := (name_of_methodNamed B.named B.method).1
  have hl := lv_entry ([.ref (base + Zr)]) (n := 1) (Nat.le_of_ble_eq_true rfl)
  rw [lg_entry_eq]
  generalize (lg_sl ([.ref (base + Zr)]) ++ List.replicate (1 - (lg_sl ([.ref (base + Zr)])).length) Slot.unset).toArray = ls at hl ⊢
  have hl : lv_has ls 1 [(0, .ref (base + Zr))] := hl
  refine lv_aload_n hx hb dX9_init_0 rfl (lv_at hl 0 rfl) ?_
  refine W.objInit hx hb hown (hW _ w_1_35 rfl) (hW _ w_1_27 rfl) (hW _ w_1_28 rfl) rfl (by rw [hml]; exact hl.1) rfl dX9_init_1 (Nat.le_of_ble_eq_true rfl) (Nat.le_of_ble_eq_true rfl) ?_
  refine W.eq (g2 := F0 m 4 ls []) rfl ?_
  refine lv_aload_n hx hb dX9_init_4 rfl (lv_at hl 0 rfl) ?_
  refine lv_bipush (v := 120) hx hb dX9_init_5 (by decide) ?_
  refine md_newa hx hb hW hK hG (t := 14) (Or.inr (Or.inl ⟨rfl, Or.inl rfl⟩)) w_1_144 (na := 120) (by decide) (by decide) (by decide) (Or.inl h1) (fun k => (hF (Zr + 1) (by omega) k).1) (fun k => (hF (Zr + 1) (by omega) k).2.2) (Nat.le_of_ble_eq_true rfl) (Nat.le_of_ble_eq_true rfl) dX9_init_7 (fun H hG => ?_)
  have hG : md_G D cy base (Zr + 2) K N M R J s H _ := hG
  refine md_putF hx hb hW hown hK hG f_X9_9_9 hin rfl (show Zr < Zr + 2 by omega) h0 rfl rfl dX9_init_9 (fun H locs hG => ?_)
  refine lv_aload_n hx hb dX9_init_12 rfl (lv_at hl 0 rfl) ?_
  refine lv_bipush (v := 10) hx hb dX9_init_13 (by decide) ?_
  refine md_newa hx hb hW hK hG (t := 20) (Or.inr (Or.inl ⟨rfl, Or.inr (by decide)⟩)) w_1_144 (na := 10) (by decide) (by decide) (by decide) (Or.inl h2) (fun k => (hF (Zr + 2) (by omega) k).1) (fun k => (hF (Zr + 2) (by omega) k).2.2) (Nat.le_of_ble_eq_true rfl) (Nat.le_of_ble_eq_true rfl) dX9_init_15 (fun H hG => ?_)
  have hG : md_G D cy base (Zr + 3) K N M (u2 R Zr 9 (some (Zr + 1))) J s H _ := hG
  refine md_putF hx hb hW hown hK hG f_X9_15_9 hin rfl (show Zr < Zr + 3 by omega) h0 rfl rfl dX9_init_17 (fun H locs hG => ?_)
  refine lv_aload_n hx hb dX9_init_20 rfl (lv_at hl 0 rfl) ?_
  refine lv_bipush (v := 10) hx hb dX9_init_21 (by decide) ?_
  refine md_newa hx hb hW hK hG (t := 14) (Or.inr (Or.inl ⟨rfl, Or.inl rfl⟩)) w_1_144 (na := 10) (by decide) (by decide) (by decide) (Or.inl h3) (fun k => (hF (Zr + 3) (by omega) k).1) (fun k => (hF (Zr + 3) (by omega) k).2.2) (Nat.le_of_ble_eq_true rfl) (Nat.le_of_ble_eq_true rfl) dX9_init_23 (fun H hG => ?_)
  have hG : md_G D cy base (Zr + 4) K N M (u2 (u2 R Zr 9 (some (Zr + 1))) Zr 10 (some (Zr + 2))) J s H _ := hG
  refine md_putF hx hb hW hown hK hG f_X9_18_9 hin rfl (show Zr < Zr + 4 by omega) h0 rfl rfl dX9_init_25 (fun H locs hG => ?_)
  refine lv_aload_n hx hb dX9_init_28 rfl (lv_at hl 0 rfl) ?_
  refine lv_bipush (v := 10) hx hb dX9_init_29 (by decide) ?_
  refine md_newa hx hb hW hK hG (t := 14) (Or.inr (Or.inl ⟨rfl, Or.inl rfl⟩)) w_1_144 (na := 10) (by decide) (by decide) (by decide) (Or.inl h4) (fun k => (hF (Zr + 4) (by omega) k).1) (fun k => (hF (Zr + 4) (by omega) k).2.2) (Nat.le_of_ble_eq_true rfl) (Nat.le_of_ble_eq_true rfl) dX9_init_31 (fun H hG => ?_)
  have hG : md_G D cy base (Zr + 5) K N M (u2 (u2 (u2 R Zr 9 (some (Zr + 1))) Zr 10 (some (Zr + 2))) Zr 11 (some (Zr + 3))) J s H _ := hG
  refine md_putF hx hb hW hown hK hG f_X9_21_9 hin rfl (show Zr < Zr + 5 by omega) h0 rfl rfl dX9_init_33 (fun H locs hG => ?_)
  refine lv_aload_n hx hb dX9_init_36 rfl (lv_at hl 0 rfl) ?_
  refine lv_bipush (v := 10) hx hb dX9_init_37 (by decide) ?_
  refine md_newa hx hb hW hK hG (t := 14) (Or.inr (Or.inl ⟨rfl, Or.inl rfl⟩)) w_1_144 (na := 10) (by decide) (by decide) (by decide) (Or.inl h5) (fun k => (hF (Zr + 5) (by omega) k).1) (fun k => (hF (Zr + 5) (by omega) k).2.2) (Nat.le_of_ble_eq_true rfl) (Nat.le_of_ble_eq_true rfl) dX9_init_39 (fun H hG => ?_)
  have hG : md_G D cy base (Zr + 6) K N M (u2 (u2 (u2 (u2 R Zr 9 (some (Zr + 1))) Zr 10 (some (Zr + 2))) Zr 11 (some (Zr + 3))) Zr 12 (some (Zr + 4))) J s H _ := hG
  refine md_putF hx hb hW hown hK hG f_X9_24_9 hin rfl (show Zr < Zr + 6 by omega) h0 rfl rfl dX9_init_41 (fun H locs hG => ?_)
  refine lv_aload_n hx hb dX9_init_44 rfl (lv_at hl 0 rfl) ?_
  refine lv_bipush (v := 8) hx hb dX9_init_45 (by decide) ?_
  refine md_newa hx hb hW hK hG (t := 21) (Or.inr (Or.inl ⟨rfl, Or.inr (by decide)⟩)) w_1_144 (na := 8) (by decide) (by decide) (by decide) (Or.inl h6) (fun k => (hF (Zr + 6) (by omega) k).1) (fun k => (hF (Zr + 6) (by omega) k).2.2) (Nat.le_of_ble_eq_true rfl) (Nat.le_of_ble_eq_true rfl) dX9_init_47 (fun H hG => ?_)
  have hG : md_G D cy base (Zr + 7) K N M (u2 (u2 (u2 (u2 (u2 R Zr 9 (some (Zr + 1))) Zr 10 (some (Zr + 2))) Zr 11 (some (Zr + 3))) Zr 12 (some (Zr + 4))) Zr 13 (some (Zr + 5))) J s H _ := hG
  refine md_putF hx hb hW hown hK hG f_X9_27_9 hin rfl (show Zr < Zr + 7 by omega) h0 rfl rfl dX9_init_49 (fun H locs hG => ?_)
  refine lv_aload_n hx hb dX9_init_52 rfl (lv_at hl 0 rfl) ?_
  refine lv_bipush (v := 48) hx hb dX9_init_53 (by decide) ?_
  refine md_newa hx hb hW hK hG (t := 14) (Or.inr (Or.inl ⟨rfl, Or.inl rfl⟩)) w_1_144 (na := 48) (by decide) (by decide) (by decide) (Or.inl h7) (fun k => (hF (Zr + 7) (by omega) k).1) (fun k => (hF (Zr + 7) (by omega) k).2.2) (Nat.le_of_ble_eq_true rfl) (Nat.le_of_ble_eq_true rfl) dX9_init_55 (fun H hG => ?_)
  have hG : md_G D cy base (Zr + 8) K N M (u2 (u2 (u2 (u2 (u2 (u2 R Zr 9 (some (Zr + 1))) Zr 10 (some (Zr + 2))) Zr 11 (some (Zr + 3))) Zr 12 (some (Zr + 4))) Zr 13 (some (Zr + 5))) Zr 14 (some (Zr + 6))) J s H _ := hG
  refine md_putF hx hb hW hown hK hG f_X9_30_9 hin rfl (show Zr < Zr + 8 by omega) h0 rfl rfl dX9_init_57 (fun H locs hG => ?_)
  exact md_endv hx hb hr hlocks hK hT hG (rfl) dX9_init_60
/-- the tables with a State more -/
def stK : Nat → Nat := fun i => ([10, 14, 20, 14, 14, 14, 21, 14] : List Nat).getD i 0
def stN : Nat → Nat := fun i => ([0, 120, 10, 10, 10, 10, 8, 48] : List Nat).getD i 0
def xt {α : Type} (f : Nat → α) (Z : Nat) (g : Nat → α) : Nat → α := fun b => if b < Z then f b else g (b - Z)
theorem xt_lo {α : Type} {f g : Nat → α} {Z b : Nat} (h : b < Z) : xt f Z g b = f b := if_pos h
theorem xt_hi {α : Type} {f g : Nat → α} {Z : Nat} (i : Nat) : xt f Z g (Z + i) = g i := by
  unfold xt
  rw [if_neg (by omega), show Z + i - Z = i by omega]
theorem xt_z {α : Type} {f g : Nat → α} {Z : Nat} : xt f Z g Z = g 0 := xt_hi (Z := Z) 0
theorem tot_xt {K N gK gN : Nat → Nat} {Z : Nat} : ∀ n : Nat, tot (xt K Z gK) (xt N Z gN) (Z + n) = tot K N Z + tot gK gN n
  | 0 => tot_eq fun b hb => ⟨xt_lo hb, xt_lo hb⟩
  | n + 1 => by
    rw [show Z + (n + 1) = (Z + n) + 1 from rfl, tot_s, tot_xt n, tot_s, xt_hi, xt_hi]
    omega
theorem hi8 {Z a : Nat} {n : Nat} (h : a < Z + n) (h2 : ¬ a < Z) : ∃ i, i < n ∧ a = Z + i := ⟨a - Z, by omega, by omega⟩
theorem u2_one {α : Type} {f : Nat → Nat → α} {a k : Nat} {v : α} (j : Nat) : u2 f a k v a j = if j = k then v else f a j := if_pos rfl
theorem st_R {R : RT} {Zr : Nat} (h0 : ∀ k, R Zr k = none) (k : Nat) : (u2 (u2 (u2 (u2 (u2 (u2 (u2 R Zr 9 (some (Zr + 1))) Zr 10 (some (Zr + 2))) Zr 11 (some (Zr + 3))) Zr 12 (some (Zr + 4))) Zr 13 (some (Zr + 5))) Zr 14 (some (Zr + 6))) Zr 15 (some (Zr + 7))) Zr k = if 9 ≤ k ∧ k ≤ 15 then some (Zr + (k - 8)) else none := by
  rw [u2_one, u2_one, u2_one, u2_one, u2_one, u2_one, u2_one, h0]
  by_cases q : 9 ≤ k ∧ k ≤ 15
  · rw [if_pos q]
    rcases (show k = 9 ∨ k = 10 ∨ k = 11 ∨ k = 12 ∨ k = 13 ∨ k = 14 ∨ k = 15 by omega) with rfl | rfl | rfl | rfl | rfl | rfl | rfl
    all_goals rfl
  · rw [if_neg q, if_neg (by omega), if_neg (by omega), if_neg (by omega), if_neg (by omega), if_neg (by omega), if_neg (by omega), if_neg (by omega)]
theorem rt10 (k : Nat) (h : ¬ (9 ≤ k ∧ k ≤ 15)) : (rtR 10 k).2.2 = 1 := by
  unfold rtR
  match k, h with
  | 0, _ => rfl
  | 1, _ => rfl
  | 2, _ => rfl
  | 3, _ => rfl
  | 4, _ => rfl
  | 5, _ => rfl
  | 6, _ => rfl
  | 7, _ => rfl
  | 8, _ => rfl
  | 9, h => exact absurd ⟨by decide, by decide⟩ h
  | 10, h => exact absurd ⟨by decide, by decide⟩ h
  | 11, h => exact absurd ⟨by decide, by decide⟩ h
  | 12, h => exact absurd ⟨by decide, by decide⟩ h
  | 13, h => exact absurd ⟨by decide, by decide⟩ h
  | 14, h => exact absurd ⟨by decide, by decide⟩ h
  | 15, h => exact absurd ⟨by decide, by decide⟩ h
  | n + 16, _ => rfl
section MKS
variable {p : Program} {l : Launch} {e : Env} {Rm : Room} {s : State} {m : MethodId} {args : Array Value} {below : List Frame} {meth : Method} {c : Code} {H : Heap} {locs : List Loc} {cells slots : Nat} {Q : State → Prop}
variable {cc : ByteArray} {pc : Nat} {ls : Array Slot} {rest st : List Value} {D : va_G} {cy : Nat → ClassId} {tx : (Nat → Nat) × (Nat → Nat)} {base Z : Nat} {K N : Nat → Nat} {L LR : WL} {Ma M : MT} {Ra R : RT} {J : JT}
/-- a typed memory with cells more: what must be shown of the new ones -/
theorem SB.ext {n : Nat} {gK gN : Nat → Nat} {gM : Nat → Nat → Int32} {R1 : RT} {J1 : JT} {H1 : Heap} {locs1 : List Loc} (hS : SB D cy base Z K N L LR Ma Ra M R J s H locs) (hG : md_G D cy base (Z + n) (xt K Z gK) (xt N Z gN) (xt M Z gM) R1 J1 s H1 locs1) (hR : ∀ b, b < Z → R1 b = R b) (hk : ∀ i, i < n → gK i ≠ 0) (hn : ∀ i, i < n → gN i ≤ 1048576) (hM : ∀ i, i < n → ∀ k, okI (gK i) k (gM i k)) (hr : ∀ i, i < n → ∀ k, okR (Z + n) (xt K Z gK) (xt N Z gN) (gN i) (gK i) k (R1 (Z + i) k)) : ∃ (Ma1 : MT) (Ra1 : RT), SB D cy base (Z + n) (xt K Z gK) (xt N Z gN) L LR Ma1 Ra1 (xt M Z gM) R1 J1 s H1 locs1 ∧ GR Z K N Ma Ra (Z + n) (xt K Z gK) (xt N Z gN) Ma1 Ra1 := by
  have hT := hS.2.1
  refine ⟨xt Ma Z gM, fun b => if b < Z then Ra b else R1 b, ⟨hG, ⟨fun a ha k => ?_, fun a ha k => ?_, fun a ha => ?_⟩, fun b k hb => ?_, fun b k hb => ?_⟩, Nat.le_add_right _ _, fun b hb => ⟨xt_lo hb, xt_lo hb, xt_lo hb, if_pos hb⟩, fun b g1 g2 => ?_⟩
  · by_cases q : a < Z
    · rw [xt_lo q, xt_lo q]
      exact hT.1 a q k
    · obtain ⟨i, hi, rfl⟩ := hi8 ha q
      rw [xt_hi, xt_hi]
      exact hM i hi k
  · by_cases q : a < Z
    · rw [xt_lo q, xt_lo q, hR a q]
      exact (hT.2.1 a q k).grow (Nat.le_add_right _ _) (fun b hb => ⟨xt_lo hb, xt_lo hb⟩)
    · obtain ⟨i, hi, rfl⟩ := hi8 ha q
      rw [xt_hi, xt_hi]
      exact hr i hi k
  · by_cases q : a < Z
    · rw [xt_lo q]
      exact hT.2.2 a q
    · obtain ⟨i, hi, rfl⟩ := hi8 ha q
      rw [xt_hi]
      exact hn i hi
  · by_cases q : b < Z
    · rw [xt_lo q] at hb
      rw [xt_lo q, xt_lo q]
      exact hS.2.2.1 b k hb
    · unfold xt
      rw [if_neg q, if_neg q]
  · by_cases q : b < Z
    · rw [xt_lo q] at hb
      show R1 b k = (if b < Z then Ra b else R1 b) k
      rw [if_pos q, hR b q]
      exact hS.2.2.2 b k hb
    · show R1 b k = (if b < Z then Ra b else R1 b) k
      rw [if_neg q]
  · obtain ⟨i, hi, rfl⟩ := hi8 g2 (by omega)
    rw [xt_hi]
    exact hk i hi
/-- the same memory, told with cells more -/
theorem md_G.xt {gK gN : Nat → Nat} {gM : Nat → Nat → Int32} {gR : Nat → Nat → Option Nat} {gJ : Nat → Nat → Int64} (hG : md_G D cy base Z K N M R J s H locs) : md_G D cy base Z (xt K Z gK) (xt N Z gN) (xt M Z gM) (xt R Z gR) (xt J Z gJ) s H locs := ⟨hG.1.to (fun a ha _ => ⟨xt_lo ha, xt_lo ha, xt_lo ha, xt_lo ha, xt_lo ha⟩), hG.2⟩
theorem tw_newS {zq nL : Nat} (hzq : zq = Z) (hexec : p.tables.exec = Jvm.exec) (hb : c.code = cc) (hml : c.maxLocals = nL) (hW : ∀ w ∈ lw_tbl, goodWord w = true → w.before args s = true) (hown : s.vm.findClass RX11 = some m.cls) (hK : md_K D cy s) (hT : md_T tx base s) (hS : SB D cy base Z K N L LR Ma Ra M R J s H locs) (hls : ls.size = nL) (hrm : (rest.map fun v => v.category).sum ≤ 7) (hd1 : decode cc pc = .ok (.new 17, 3)) (hd2 : decode cc (pc + 3) = .ok (.dup, 1)) (hd3 : decode cc (pc + 4) = .ok (.invokespecial 23, 3)) (hfr : 2 ≤ Rm.frames ∧ 100 ≤ Rm.locals) (hce : cells + 8 ≤ Rm.cells ∧ slots + 232 ≤ Rm.slots)
    (kk : ∀ (H1 : Heap) (locs1 : List Loc) (Z1 : Nat) (K1 N1 : Nat → Nat) (Ma1 : MT) (Ra1 : RT) (M1 : MT) (R1 : RT) (J1 : JT), Z1 = zq + 8 → zq < Z1 → K1 zq = 10 → tot K1 N1 Z1 ≤ tot K N Z + 232 → (∀ b, b < Z → M1 b = M b ∧ R1 b = R b) → SB D cy base Z1 K1 N1 L LR Ma1 Ra1 M1 R1 J1 s H1 locs1 → GR Z K N Ma Ra Z1 K1 N1 Ma1 Ra1 → W p l e Rm s m args below meth c H1 locs1 (cells + 8) (slots + 232) Q (F0 m (pc + 7) ls (.ref (base + zq) :: rest))) : W p l e Rm s m args below meth c H locs cells slots Q (F0 m pc ls rest) := by
  subst hzq
  have hG1 : md_G D cy base zq (xt K zq stK) (xt N zq stN) (xt M zq (fun _ _ => 0)) (xt R zq (fun _ _ => none)) (xt J zq (fun _ _ => 0)) s H locs := hS.1.xt
  have e0 : ∀ a, zq ≤ a → ∀ k, xt M zq (fun _ _ => 0) a k = 0 ∧ xt R zq (fun _ _ => none) a k = none ∧ xt J zq (fun _ _ => 0) a k = 0 := fun a ha k => by
    unfold xt
    rw [if_neg (by omega), if_neg (by omega), if_neg (by omega)]
    exact ⟨rfl, rfl, rfl⟩
  refine md_new hexec hb hW hown hK hG1 k_X11_17 (Or.inl xt_z) (fun k => (e0 zq (Nat.le_refl _) k).1) (fun k => (e0 zq (Nat.le_refl _) k).2.1) (by omega) (by omega) hd1 (fun H1 hG2 => ?_)
  refine lv_dup hexec hb hd2 rfl ?_
  refine md_gov hG2 (md_runN (As := []) (rest := .ref (base + zq) :: rest) hexec hb hml hown hW hK hT hG2 (c_X9_z l D cy tx base zq _ _ _ _ _ (fun a ha => e0 a (by omega)) xt_z ⟨xt_hi 1, xt_hi 1⟩ ⟨xt_hi 2, xt_hi 2⟩ ⟨xt_hi 3, xt_hi 3⟩ ⟨xt_hi 4, xt_hi 4⟩ ⟨xt_hi 5, xt_hi 5⟩ ⟨xt_hi 6, xt_hi 6⟩ ⟨xt_hi 7, xt_hi 7⟩) s_X11_23 hK.2.2.1.1 ⟨rfl, rfl, ⟨hfr.1, show 8 + (1 + 11) + 40 * 1 ≤ Rm.locals by omega⟩, by show cells + 1 + 7 ≤ Rm.cells; omega, by show slots + 16 + 216 ≤ Rm.slots; omega⟩ rfl hls rfl (by show 1 + (rest.map fun v => v.category).sum ≤ 8; omega) hd3) (fun u H2 locs2 hp hG3 => ?_)
  subst hp
  refine W.widen (show cells + 1 + 7 ≤ cells + 8 by omega) (show slots + 16 + 216 ≤ slots + 232 by omega) ?_
  have hG3 : md_G D cy base (zq + 8) (xt K zq stK) (xt N zq stN) (xt M zq (fun _ _ => 0)) (u2 (u2 (u2 (u2 (u2 (u2 (u2 (xt R zq (fun _ _ => none)) zq 9 (some (zq + 1))) zq 10 (some (zq + 2))) zq 11 (some (zq + 3))) zq 12 (some (zq + 4))) zq 13 (some (zq + 5))) zq 14 (some (zq + 6))) zq 15 (some (zq + 7))) (xt J zq (fun _ _ => 0)) s H2 locs2 := hG3
  have hRz : ∀ b, b < zq → (u2 (u2 (u2 (u2 (u2 (u2 (u2 (xt R zq (fun _ _ => none)) zq 9 (some (zq + 1))) zq 10 (some (zq + 2))) zq 11 (some (zq + 3))) zq 12 (some (zq + 4))) zq 13 (some (zq + 5))) zq 14 (some (zq + 6))) zq 15 (some (zq + 7))) b = R b := fun b hb2 => by
    have hne : b ≠ zq := by omega
    rw [u2_ne hne, u2_ne hne, u2_ne hne, u2_ne hne, u2_ne hne, u2_ne hne, u2_ne hne]
    exact xt_lo hb2
  refine Exists.elim (hS.ext (gK := stK) (gN := stN) (gM := fun _ _ => 0) hG3 hRz (fun i hi => ?_) (fun i hi => ?_) (fun i _ k => okI_0 _ _) (fun i hi k => ?_)) (fun Ma1 q => Exists.elim q (fun Ra1 q2 => ?_))
  · have : ∀ i : Fin 8, stK i.val ≠ 0 := by decide
    exact this ⟨i, hi⟩
  · have : ∀ i : Fin 8, stN i.val ≤ 1048576 := by decide
    exact this ⟨i, hi⟩
  · by_cases q : i = 0
    · subst q
      rw [show zq + 0 = zq from rfl, st_R (fun k => (e0 zq (Nat.le_refl _) k).2.1)]
      by_cases q2 : 9 ≤ k ∧ k ≤ 15
      · rw [if_pos q2]
        rcases (show k = 9 ∨ k = 10 ∨ k = 11 ∨ k = 12 ∨ k = 13 ∨ k = 14 ∨ k = 15 by omega) with rfl | rfl | rfl | rfl | rfl | rfl | rfl
        all_goals exact ⟨by omega, xt_hi _, fun _ => xt_hi _⟩
      · rw [if_neg q2]
        exact Or.inl (rt10 k q2)
    · have hne : zq + i ≠ zq := by omega
      rw [u2_ne hne, u2_ne hne, u2_ne hne, u2_ne hne, u2_ne hne, u2_ne hne, u2_ne hne, xt_hi]
      refine Or.inl ?_
      rcases (show i = 1 ∨ i = 2 ∨ i = 3 ∨ i = 4 ∨ i = 5 ∨ i = 6 ∨ i = 7 by omega) with rfl | rfl | rfl | rfl | rfl | rfl | rfl
      all_goals rfl
  · obtain ⟨hS1, hg⟩ := q2
    refine kk H2 locs2 _ _ _ Ma1 Ra1 _ _ _ rfl (by omega) xt_z ?_ (fun b hb2 => ⟨xt_lo hb2, hRz b hb2⟩) hS1 hg
    rw [tot_xt, show tot stK stN 8 = 232 from rfl]
    exact Nat.le_refl _
end MKS
