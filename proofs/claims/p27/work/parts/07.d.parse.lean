/-- a byte of the tape between two bounds, ahead of the end -/
def chF (lo hi : Int) (M : MT) (tb : Nat) (x tp : Int32) : Prop := x.toInt < tp.toInt ∧ lo ≤ (M tb x.toNatClampNeg).toInt ∧ (M tb x.toNatClampNeg).toInt ≤ hi
theorem chF.fr {lo hi : Int} {K : Nat → Nat} {L : WL} {M M1 : MT} {tb : Nat} {x tp : Int32} (h : chF lo hi M tb x tp) (f : Fr K L M M1) (hk : K tb = 13) (ho : L.all (fun e => !(13 == e.1)) = true) : chF lo hi M1 tb x tp := ⟨h.1, by rw [f.kpa hk ho]; exact h.2.1, by rw [f.kpa hk ho]; exact h.2.2⟩
theorem chF.rf {lo hi : Int} {K : Nat → Nat} {L : WL} {M M1 : MT} {tb : Nat} {x tp : Int32} (h : chF lo hi M1 tb x tp) (f : Fr K L M M1) (hk : K tb = 13) (ho : L.all (fun e => !(13 == e.1)) = true) : chF lo hi M tb x tp := ⟨h.1, by rw [← f.kpa hk ho]; exact h.2.1, by rw [← f.kpa hk ho]; exact h.2.2⟩
theorem chF.at {lo hi : Int} {M : MT} {tb : Nat} {x y tp : Int32} (h : chF lo hi M tb x tp) (e : y.toInt = x.toInt) : chF lo hi M tb y tp := by
  have q : y = x := Int32.toInt_inj.mp e
  rw [q]
  exact h
section TWP
variable {p : Program} {l : Launch} {e : Env} {Rm : Room} {s : State} {m : MethodId} {args : Array Value} {below : List Frame} {meth : Method} {c : Code} {H : Heap} {locs : List Loc} {cells slots : Nat} {Q : State → Prop}
variable {cc : ByteArray} {pc : Nat} {ls : Array Slot} {rest st : List Value} {D : va_G} {cy : Nat → ClassId} {tx : (Nat → Nat) × (Nat → Nat)} {base Z : Nat} {K N : Nat → Nat} {L LR : WL} {Ma M : MT} {Ra R : RT} {J : JT}
theorem tw_balk (hexec : p.tables.exec = Jvm.exec) (hb : c.code = cc) (hK : md_K D cy s) (hS : SB D cy base Z K N L LR Ma Ra M R J s H locs) {a : Nat} (hz : a < Z) (ha : K a = 13) {i : Int32} {n : Nat} (hn : N a = n) {il ih : Int} (hi0 : iv il ih i) (h0 : 0 ≤ il ∧ ih < n) {v : Int32} (hv : M a i.toNatClampNeg = v) (hdg : decode cc pc = .ok (.baload, 1))
    (kk : W p l e Rm s m args below meth c H locs cells slots Q (F0 m (pc + 1) ls (.int v :: rest))) : W p l e Rm s m args below meth c H locs cells slots Q (F0 m pc ls (.int i :: .ref (base + a) :: rest)) :=
  md_bald hexec hb hK hS.1 hz ha hn (iv_in hi0 h0) hv hdg kk
/-- a store of which the place's own range is told -/
theorem tw_iasx (hexec : p.tables.exec = Jvm.exec) (hb : c.code = cc) (hK : md_K D cy s) (hS : SB D cy base Z K N L LR Ma Ra M R J s H locs) {a t : Nat} (hz : a < Z) (ha : K a = t) (ht : t = 14 ∨ 20 ≤ t) {i x : Int32} {n : Nat} (hn : N a = n) {il ih : Int} (hi0 : iv il ih i) (h0 : 0 ≤ il ∧ ih < n) (hx : okI t i.toNatClampNeg x) {jl jh : Nat} (hj : (jl : Int) ≤ il ∧ ih ≤ jh) (hl : inLr L t jl jh = true) (hdg : decode cc pc = .ok (.iastore, 1))
    (kk : ∀ (H1 : Heap) (locs1 : List Loc) (M1 : MT), SB D cy base Z K N L LR Ma Ra M1 R J s H1 locs1 → M1 a i.toNatClampNeg = x → Fr K [(t, jl, jh + 1)] M M1 → M1 = u2 M a i.toNatClampNeg x → W p l e Rm s m args below meth c H1 locs1 cells slots Q (F0 m (pc + 1) ls rest)) : W p l e Rm s m args below meth c H locs cells slots Q (F0 m pc ls (.int x :: .int i :: .ref (base + a) :: rest)) := by
  have g := iv_k hi0 h0.1
  have j1 : jl ≤ i.toNatClampNeg := by have := hj.1; omega
  have j2 : i.toNatClampNeg ≤ jh := by have := hj.2; omega
  exact md_iast hexec hb hK hS.1 hz ha ht hn (iv_in hi0 h0) rfl hdg (fun H1 locs1 hG => kk H1 locs1 _ (hS.puti hG ha hx (inL_of hl j1 j2)) u2_same (fr_one ha j1 (Nat.lt_succ_of_le j2)) rfl)
end TWP
/-! what a sign of the code does -/
theorem and15 {c : Int32} {s v : Int} (h : c.toInt = s + 16 * v) (h1 : 0 ≤ s ∧ s ≤ 15) (h2 : 0 ≤ v) : (c &&& 15).toInt = s := by
  have e1 : c.toInt = c.toBitVec.toInt := rfl
  have e2 : (c &&& 15).toInt = (c.toBitVec &&& 15#32).toInt := rfl
  have l2 := c.toBitVec.isLt
  have l3 : (c.toBitVec &&& 15#32).toNat = c.toBitVec.toNat % 16 := by
    rw [BitVec.toNat_and]
    exact Nat.and_two_pow_sub_one_eq_mod (n := 4) _
  rw [BitVec.toInt_eq_toNat_cond] at e1 e2
  by_cases q : 2 * c.toBitVec.toNat < 2 ^ 32
  · rw [if_pos q] at e1
    rw [if_pos (by omega)] at e2
    omega
  · rw [if_neg q] at e1
    omega
theorem shr4 {c : Int32} {s v : Int} (h : c.toInt = s + 16 * v) (h1 : 0 ≤ s ∧ s ≤ 15) : (c >>> ((4 : Int32) &&& 31)).toInt = v := by
  have e0 : ((4 : Int32) &&& 31) = 4 := by decide
  rw [e0]
  have e1 : (c >>> (4 : Int32)).toInt = c.toInt >>> 4 := by
    have h : (c >>> (4 : Int32)).toInt = (c.toBitVec.sshiftRight 4).toInt := rfl
    rw [h, BitVec.toInt_sshiftRight]
    rfl
  rw [e1, Int.shiftRight_eq_div_pow]
  omega
theorem i32_of {x : Int32} {n : Int} (h : x.toInt = n) {c : Int32} (hc : c.toInt = n) : x = c := Int32.toInt_inj.mp (h.trans hc.symm)
theorem i32_nof {x : Int32} {n : Int} (h : x.toInt = n) {c : Int32} {k : Int} (hc : c.toInt = k) (hk : ¬ n = k) : ¬ x = c := fun q => hk (by rw [← h, q, hc])
theorem stp_num {c : Int32} {v : Int} {h : Nat} (e : c.toInt = 0 + 16 * v) (h2 : 0 ≤ v) (hh : h < 64) : stp c h = some (h + 1) := by
  unfold stp
  rw [if_pos (i32_of (and15 e ⟨by omega, by omega⟩ h2) (by decide)), if_pos hh]
theorem stp_word {c : Int32} {v : Int} {h : Nat} (e : c.toInt = 1 + 16 * v) (h2 : 0 ≤ v ∧ v ≤ 9) (hh : h < 64) : stp c h = some (h + 1) := by
  have a := and15 e ⟨by omega, by omega⟩ h2.1
  unfold stp
  rw [if_neg (i32_nof a (c := 0) (k := 0) (by decide) (by omega)), if_pos (i32_of a (by decide)), shr4 e ⟨by omega, by omega⟩, if_pos ⟨hh, h2⟩]
theorem stp_not {c : Int32} {h : Nat} (e : c.toInt = 11 + 16 * 0) (hh : 1 ≤ h) : stp c h = some h := by
  have a := and15 e ⟨by omega, by omega⟩ (by omega)
  unfold stp
  rw [if_neg (i32_nof a (c := 0) (k := 0) (by decide) (by omega)), if_neg (i32_nof a (c := 1) (k := 1) (by decide) (by omega)), if_pos (i32_of a (by decide)), if_pos hh]
theorem stp_two {c : Int32} {s : Int} {h : Nat} (e : c.toInt = s + 16 * 0) (hs : 2 ≤ s ∧ s ≤ 13 ∧ ¬ s = 11) (hh : 2 ≤ h) : stp c h = some (h - 1) := by
  have a := and15 e ⟨by omega, by omega⟩ (by omega)
  unfold stp
  rw [if_neg (i32_nof a (c := 0) (k := 0) (by decide) (by omega)), if_neg (i32_nof a (c := 1) (k := 1) (by decide) (by omega)), if_neg (i32_nof a (c := 11) (k := 11) (by decide) (by omega)), if_pos hh]
theorem SEG.ext {M M1 : MT} {sg T b e h h2 : Nat} {c : Int32} (q : SEG M sg T b e h) (hb : b ≤ e) (h1 : M1 sg (400 * T + e) = c) (ho : ∀ j, j ≠ 400 * T + e → M1 sg j = M sg j) (hs : stp c h = some h2) : SEG M1 sg T b (e + 1) h2 :=
  (q.to (fun j _ h4 => ho j (by omega))).put hb (by rw [h1]; exact hs)
/-- and, or among the open ones; all of them of the four kinds -/
def nbo (M : MT) (op : Nat) : Nat → Nat
  | 0 => 0
  | n + 1 => nbo M op n + (if M op n = 12 ∨ M op n = 13 then 1 else 0)
def opK (M : MT) (op n : Nat) : Prop := ∀ j, j < n → M op j = 91 ∨ M op j = 11 ∨ M op j = 12 ∨ M op j = 13
theorem nbo_to {M M1 : MT} {op : Nat} : ∀ n, (∀ j, j < n → M1 op j = M op j) → nbo M1 op n = nbo M op n
  | 0, _ => rfl
  | n + 1, h => by
    unfold nbo
    rw [nbo_to n (fun j hj => h j (by omega)), h n (by omega)]
theorem opK.to {M M1 : MT} {op n : Nat} (q : opK M op n) (h : ∀ j, j < n → M1 op j = M op j) : opK M1 op n := fun j hj => by rw [h j hj]; exact q j hj
theorem opK.less {M : MT} {op n k : Nat} (q : opK M op n) (h : k ≤ n) : opK M op k := fun j hj => q j (by omega)
theorem nbo_s {M : MT} {op x : Nat} : nbo M op (x + 1) = nbo M op x + (if M op x = 12 ∨ M op x = 13 then 1 else 0) := rfl
theorem set_step {M : MT} {op x t : Nat} {v cd : Int32} (ht : t = x + 1) (hv : M op x = v) (h3 : v.toInt = 11 ∨ v.toInt = 12 ∨ v.toInt = 13) (hc : cd.toInt = v.toInt + 16 * 0) : stp cd (nbo M op t + 1) = some (nbo M op x + 1) := by
  subst ht
  rw [nbo_s, hv]
  rcases h3 with h | h | h
  · have n1 : ¬ (v = 12 ∨ v = 13) := fun q => by
      rcases q with q | q
      · rw [q] at h
        exact absurd h (by decide)
      · rw [q] at h
        exact absurd h (by decide)
    rw [if_neg n1, Nat.add_zero]
    exact stp_not (c := cd) (h := nbo M op x + 1) (by omega) (by omega)
  · rw [if_pos (Or.inl (i32_of h (by decide)))]
    exact stp_two (c := cd) (s := v.toInt) (h := nbo M op x + 1 + 1) hc (by omega) (by omega)
  · rw [if_pos (Or.inr (i32_of h (by decide)))]
    exact stp_two (c := cd) (s := v.toInt) (h := nbo M op x + 1 + 1) hc (by omega) (by omega)
theorem nbo_top {M : MT} {op x t : Nat} (ht : t = x + 1) (hv : ¬ (M op x = 12 ∨ M op x = 13)) : nbo M op t = nbo M op x := by
  subst ht
  rw [nbo_s, if_neg hv, Nat.add_zero]
theorem nbo_two {M : MT} {op x t : Nat} (ht : t = x + 1) (hv : M op x = 12 ∨ M op x = 13) : nbo M op t = nbo M op x + 1 := by
  subst ht
  rw [nbo_s, if_pos hv]
theorem iv0 {x : Int32} (h : iv 0 0 x) : x = 0 := i32_of (n := 0) (by have := h.1; have := h.2; omega) (by decide)
theorem rd_what {x y : Int32} (e : y = x - 3) (h : iv 0 9 y) : iv 3 12 x := by
  have q : x = y + 3 := by rw [e, Int32.sub_add_cancel]
  rw [q]
  exact (iv_add (lo := 3) (hi := 12) h (iv_c (c := 3) (n := 3) (by decide)) ⟨by decide, by decide⟩ ⟨by decide, by decide⟩).2
theorem lcm_lt {x y : Int64} {v : Int32} (ev : v = lg_cmp x y) (h : v.toInt < 0) : x.toInt < y.toInt := by
  refine Int.not_le.mp (fun q => ?_)
  have q2 := Int32.le_iff_toInt_le.mp ((lg_cmp_ge x y).mpr (Int64.le_iff_toInt_le.mpr q))
  rw [← ev] at q2
  have q3 : (0 : Int) ≤ v.toInt := q2
  omega
theorem lcm_gt {x y : Int64} {v : Int32} (ev : v = lg_cmp x y) (h : 0 < v.toInt) : y.toInt < x.toInt := by
  refine Int.not_le.mp (fun q => ?_)
  have q2 := Int32.le_iff_toInt_le.mp ((lg_cmp_le x y).mpr (Int64.le_iff_toInt_le.mpr q))
  rw [← ev] at q2
  have q3 : v.toInt ≤ (0 : Int) := q2
  omega
