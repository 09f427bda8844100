/-! longs between bounds, shifts, arrays of unknown length -/
def jv (lo hi : Int) (x : Int64) : Prop := lo ≤ x.toInt ∧ x.toInt ≤ hi
theorem jv_o {a b : Int} {x : Int32} (h : iv a b x) : jv a b x.toInt64 := by
  unfold jv
  rw [Int32.toInt_toInt64]
  exact h
theorem jv_c {x : Int64} {n : Int} (h : x.toInt = n) : jv n n x := ⟨Int.le_of_eq h.symm, Int.le_of_eq h⟩
theorem jv_mono {a b lo hi : Int} {x : Int64} (h : jv a b x) (h1 : lo ≤ a) (h2 : b ≤ hi) : jv lo hi x := ⟨Int.le_trans h1 h.1, Int.le_trans h.2 h2⟩
theorem tj_add {x y : Int64} (h1 : -9223372036854775808 ≤ x.toInt + y.toInt) (h2 : x.toInt + y.toInt ≤ 9223372036854775807) : (x + y).toInt = x.toInt + y.toInt := by
  rw [Int64.toInt_add]
  exact Int.bmod_eq_of_le (by omega) (by omega)
theorem tj_sub {x y : Int64} (h1 : -9223372036854775808 ≤ x.toInt - y.toInt) (h2 : x.toInt - y.toInt ≤ 9223372036854775807) : (x - y).toInt = x.toInt - y.toInt := by
  rw [Int64.toInt_sub]
  exact Int.bmod_eq_of_le (by omega) (by omega)
theorem tj_mul {x y : Int64} (h1 : -9223372036854775808 ≤ x.toInt * y.toInt) (h2 : x.toInt * y.toInt ≤ 9223372036854775807) : (x * y).toInt = x.toInt * y.toInt := by
  rw [Int64.toInt_mul]
  exact Int.bmod_eq_of_le (by omega) (by omega)
theorem i64_hi (x : Int64) : x.toInt ≤ 9223372036854775807 := by
  have := Int64.toInt_le x
  exact this
theorem tj_div {x y : Int64} (h0 : 0 ≤ x.toInt) (h1 : 0 < y.toInt) : (x / y).toInt = x.toInt / y.toInt := by
  rw [Int64.toInt_div]
  rw [Int.tdiv_eq_ediv_of_nonneg h0]
  have := i64_hi x
  have g := Int.ediv_le_self y.toInt h0
  have g0 : 0 ≤ x.toInt / y.toInt := Int.ediv_nonneg h0 (Int.le_of_lt h1)
  exact Int.bmod_eq_of_le (by omega) (by omega)
theorem jv_add {a b c d lo hi : Int} {x y : Int64} (hx : jv a b x) (hy : jv c d y) (h1 : -9223372036854775808 ≤ a + c ∧ b + d ≤ 9223372036854775807) (h2 : lo ≤ a + c ∧ b + d ≤ hi) : jv lo hi (x + y) := by
  have e : (x + y).toInt = x.toInt + y.toInt := tj_add (by have := hx.1; have := hy.1; omega) (by have := hx.2; have := hy.2; omega)
  refine ⟨?_, ?_⟩
  · rw [e]; have := hx.1; have := hy.1; omega
  · rw [e]; have := hx.2; have := hy.2; omega
theorem jv_mul {a b c d lo hi : Int} {x y : Int64} (hx : jv a b x) (hy : jv c d y) (h1 : 0 ≤ a ∧ 0 ≤ c) (h2 : b * d ≤ 9223372036854775807) (h3 : lo ≤ 0 ∧ b * d ≤ hi) : jv lo hi (x * y) := by
  have p0 : 0 ≤ x.toInt := Int.le_trans h1.1 hx.1
  have q0 : 0 ≤ y.toInt := Int.le_trans h1.2 hy.1
  have g0 : 0 ≤ x.toInt * y.toInt := Int.mul_nonneg p0 q0
  have g1 : x.toInt * y.toInt ≤ b * d := Int.mul_le_mul hx.2 hy.2 q0 (Int.le_trans p0 hx.2)
  have e : (x * y).toInt = x.toInt * y.toInt := tj_mul (by omega) (by omega)
  exact ⟨by rw [e]; omega, by rw [e]; omega⟩
theorem jv_div {a b c d lo hi : Int} {x y : Int64} (hx : jv a b x) (hy : jv c d y) (h1 : 0 ≤ a ∧ 0 < c) (h3 : lo ≤ 0 ∧ b / c ≤ hi) : jv lo hi (x / y) := by
  have p0 : 0 ≤ x.toInt := Int.le_trans h1.1 hx.1
  have q0 : 0 < y.toInt := Int.lt_of_lt_of_le h1.2 hy.1
  have e := tj_div p0 q0
  have g0 : 0 ≤ x.toInt / y.toInt := Int.ediv_nonneg p0 (Int.le_of_lt q0)
  refine ⟨by rw [e]; omega, ?_⟩
  rw [e]
  refine Int.le_trans ?_ h3.2
  refine (Int.le_ediv_iff_mul_le h1.2).mpr ?_
  have k1 : x.toInt / y.toInt * c ≤ x.toInt / y.toInt * y.toInt := Int.mul_le_mul_of_nonneg_left hy.1 g0
  have k2 : x.toInt / y.toInt * y.toInt ≤ x.toInt := Int.ediv_mul_le _ (by omega)
  have := hx.2
  omega
theorem jv_rem {a b c d lo hi : Int} {x y : Int64} (hx : jv a b x) (hy : jv c d y) (h1 : 0 ≤ a ∧ 0 < c) (h3 : lo ≤ 0 ∧ d - 1 ≤ hi) : jv lo hi (x - x / y * y) := by
  have p0 : 0 ≤ x.toInt := Int.le_trans h1.1 hx.1
  have q0 : 0 < y.toInt := Int.lt_of_lt_of_le h1.2 hy.1
  have e := tj_div p0 q0
  have g0 : 0 ≤ x.toInt / y.toInt := Int.ediv_nonneg p0 (Int.le_of_lt q0)
  have k2 : x.toInt / y.toInt * y.toInt ≤ x.toInt := Int.ediv_mul_le _ (by omega)
  have k0 : 0 ≤ x.toInt / y.toInt * y.toInt := Int.mul_nonneg g0 (Int.le_of_lt q0)
  have hh := i64_hi x
  have e2 : (x / y * y).toInt = x.toInt / y.toInt * y.toInt := by
    have := tj_mul (x := x / y) (y := y) (by rw [e]; omega) (by rw [e]; omega)
    rw [this, e]
  have e3 : (x - x / y * y).toInt = x.toInt % y.toInt := by
    rw [tj_sub (by rw [e2]; omega) (by rw [e2]; omega), e2]
    have := Int.emod_def x.toInt y.toInt
    rw [Int.mul_comm (x.toInt / y.toInt)]
    omega
  have m0 := Int.emod_nonneg x.toInt (b := y.toInt) (by omega)
  have m1 := Int.emod_lt_of_pos x.toInt q0
  have := hy.2
  exact ⟨by rw [e3]; omega, by rw [e3]; omega⟩
theorem jv_and {x y : Int64} {b hi : Int} (hy : jv 0 b y) (hh : b ≤ hi) : jv 0 hi (x &&& y) := by
  have h0 : 0 ≤ y.toInt := hy.1
  have e1 : y.toInt = y.toBitVec.toInt := rfl
  have e2 : (x &&& y).toInt = (x.toBitVec &&& y.toBitVec).toInt := rfl
  have l1 : (x.toBitVec &&& y.toBitVec).toNat ≤ y.toBitVec.toNat := by
    rw [BitVec.toNat_and]
    exact Nat.and_le_right
  have l2 := y.toBitVec.isLt
  have := hy.2
  unfold jv
  rw [BitVec.toInt_eq_toNat_cond] at e1 e2
  by_cases q : 2 * y.toBitVec.toNat < 2 ^ 64
  · rw [if_pos q] at e1
    rw [if_pos (by omega)] at e2
    omega
  · rw [if_neg q] at e1
    omega
theorem jv_l2i {a b : Int} {x : Int64} (h : jv a b x) (h1 : -2147483648 ≤ a ∧ b ≤ 2147483647) : iv a b x.toInt32 := by
  have e : x.toInt32.toInt = x.toInt := by
    rw [Int64.toInt_toInt32]
    have := h.1
    have := h.2
    exact Int.bmod_eq_of_le (by omega) (by omega)
  unfold iv
  rw [e]
  exact h
theorem jv_ush (x : Int64) : jv 0 2047 ((x.toUInt64 >>> ((53 : Int32).toInt64.toUInt64 &&& Int64.toUInt64 63)).toInt64) := by
  have e0 : ((53 : Int32).toInt64.toUInt64 &&& Int64.toUInt64 63) = (53 : UInt64) := by decide
  rw [e0]
  have e1 : ((x.toUInt64 >>> (53 : UInt64)).toInt64).toInt = (x.toUInt64 >>> (53 : UInt64)).toBitVec.toInt := rfl
  have e2 : (x.toUInt64 >>> (53 : UInt64)).toBitVec.toNat = x.toUInt64.toNat / 2 ^ 53 := by
    show (x.toUInt64 >>> (53 : UInt64)).toNat = _
    rw [UInt64.toNat_shiftRight]
    show x.toUInt64.toNat >>> (53 % 64) = _
    rw [Nat.shiftRight_eq_div_pow]
  have l := x.toUInt64.toNat_lt
  have l2 : x.toUInt64.toNat / 2 ^ 53 < 2048 := by omega
  unfold jv
  rw [e1, BitVec.toInt_eq_toNat_cond, e2, if_pos (by omega)]
  omega
theorem iv_shr4 (x : Int32) : iv (-134217728) 134217727 (x >>> ((4 : Int32) &&& 31)) := by
  have e0 : ((4 : Int32) &&& 31) = 4 := by decide
  rw [e0]
  have e1 : (x >>> (4 : Int32)).toInt = x.toInt >>> 4 := by
    have h : (x >>> (4 : Int32)).toInt = (x.toBitVec.sshiftRight 4).toInt := rfl
    rw [h, BitVec.toInt_sshiftRight]
    rfl
  have := i32_lo x
  have := i32_hi x
  unfold iv
  rw [e1, Int.shiftRight_eq_div_pow]
  exact ⟨by omega, by omega⟩
theorem in2iv {x : Int32} {lo hi : Int64} {a b : Int} (h : lo.toInt ≤ x.toInt64.toInt ∧ x.toInt64.toInt ≤ hi.toInt) (e1 : a ≤ lo.toInt) (e2 : hi.toInt ≤ b) : iv a b x := by
  rw [Int32.toInt_toInt64] at h
  exact ⟨Int.le_trans e1 h.1, Int.le_trans h.2 e2⟩
theorem lnz {a b : Int} {x : Int64} (h : jv a b x) (h0 : 0 < a) : ¬ x = 0 := fun q => by
  subst q
  have h1 : a ≤ 0 := h.1
  omega
theorem lcm_ge {x y : Int64} {v : Int32} (ev : v = lg_cmp x y) (h : 0 ≤ v.toInt) : y.toInt ≤ x.toInt := by
  rw [ev] at h
  exact Int64.le_iff_toInt_le.mp ((lg_cmp_ge x y).mp (Int32.le_iff_toInt_le.mpr h))
theorem lcm_le {x y : Int64} {v : Int32} (ev : v = lg_cmp x y) (h : v.toInt ≤ 0) : x.toInt ≤ y.toInt := by
  rw [ev] at h
  exact Int64.le_iff_toInt_le.mp ((lg_cmp_le x y).mp (Int32.le_iff_toInt_le.mpr h))
theorem bits_lt {x v : Int32} (ev : v = x &&& (x - 1)) (h : ¬ x = 0) : (v.toBitVec.toNat : Int) < (x.toBitVec.toNat : Int) := by
  have e1 : v.toBitVec = x.toBitVec &&& (x.toBitVec - 1) := by rw [ev]; rfl
  have l1 : v.toBitVec.toNat ≤ (x.toBitVec - 1).toNat := by
    rw [e1, BitVec.toNat_and]
    exact Nat.and_le_right
  have h0 : x.toBitVec.toNat ≠ 0 := fun q => h (by
    have q2 : x.toBitVec = 0#32 := BitVec.eq_of_toNat_eq q
    exact Int32.toBitVec_inj.mp q2)
  have l2 : (x.toBitVec - 1).toNat = x.toBitVec.toNat - 1 := by
    have hx := x.toBitVec.isLt
    rw [BitVec.toNat_sub]
    show (2 ^ 32 - 1 + x.toBitVec.toNat) % 2 ^ 32 = _
    omega
  omega
section TWS
variable {p : Program} {l : Launch} {e : Env} {Rm : Room} {s : State} {m : MethodId} {args : Array Value} {below : List Frame} {meth : Method} {c : Code} {H : Heap} {locs : List Loc} {cells slots : Nat} {Q : State → Prop}
variable {cc : ByteArray} {pc : Nat} {ls : Array Slot} {rest st : List Value} {D : va_G} {cy : Nat → ClassId} {tx : (Nat → Nat) × (Nat → Nat)} {base Z : Nat} {K N : Nat → Nat} {L LR : WL} {Ma M : MT} {Ra R : RT} {J : JT}
/-- a number on the stack of which something is known -/
theorem tw_tj {x : Int64} {lo hi : Int} (h : jv lo hi x) (kk : ∀ v : Int64, jv lo hi v → W p l e Rm s m args below meth c H locs cells slots Q (F0 m pc ls (.long v :: rest))) : W p l e Rm s m args below meth c H locs cells slots Q (F0 m pc ls (.long x :: rest)) := kk x h
theorem tw_ti {x : Int32} {lo hi : Int} (h : iv lo hi x) (kk : ∀ v : Int32, iv lo hi v → W p l e Rm s m args below meth c H locs cells slots Q (F0 m pc ls (.int v :: rest))) : W p l e Rm s m args below meth c H locs cells slots Q (F0 m pc ls (.int x :: rest)) := kk x h
theorem tw_ialn (hexec : p.tables.exec = Jvm.exec) (hb : c.code = cc) (hK : md_K D cy s) (hS : SB D cy base Z K N L LR Ma Ra M R J s H locs) {a t : Nat} (hz : a < Z) (ha : K a = t) (ht : t = 14 ∨ 20 ≤ t) {i : Int32} (h1 : 0 ≤ i.toInt) (h2 : i.toInt < N a) {lo hi : Int} (hr : ∀ k : Nat, (0 : Int) ≤ k → (k : Int) ≤ 2147483647 → lo ≤ (rgI t k).1 ∧ (rgI t k).2 ≤ hi) (hdg : decode cc pc = .ok (.iaload, 1))
    (kk : ∀ v : Int32, M a i.toNatClampNeg = v → iv lo hi v → W p l e Rm s m args below meth c H locs cells slots Q (F0 m (pc + 1) ls (.int v :: rest))) : W p l e Rm s m args below meth c H locs cells slots Q (F0 m pc ls (.int i :: .ref (base + a) :: rest)) := by
  refine md_iald hexec hb hK hS.1 hz ha ht rfl (ti_in h1 h2) rfl hdg (kk _ rfl ?_)
  have g : (i.toNatClampNeg : Int) = i.toInt := ti_cl h1
  have g2 := hr i.toNatClampNeg (by omega) (by have := i32_hi i; omega)
  have q := hS.2.1.1 a hz i.toNatClampNeg
  unfold okI at q
  rw [ha] at q
  exact ⟨Int.le_trans g2.1 q.1, Int.le_trans q.2 g2.2⟩
theorem tw_iasn (hexec : p.tables.exec = Jvm.exec) (hb : c.code = cc) (hK : md_K D cy s) (hS : SB D cy base Z K N L LR Ma Ra M R J s H locs) {a t : Nat} (hz : a < Z) (ha : K a = t) (ht : t = 14 ∨ 20 ≤ t) {i x : Int32} (h1 : 0 ≤ i.toInt) (h2 : i.toInt < N a) {lo hi : Int} (hx : iv lo hi x) (hr : ∀ k : Nat, (0 : Int) ≤ k → (k : Int) ≤ 2147483647 → (rgI t k).1 ≤ lo ∧ hi ≤ (rgI t k).2) (hl : inLr L t 0 1999999 = true) (hdg : decode cc pc = .ok (.iastore, 1))
    (kk : ∀ (H1 : Heap) (locs1 : List Loc) (M1 : MT), SB D cy base Z K N L LR Ma Ra M1 R J s H1 locs1 → M1 a i.toNatClampNeg = x → Fr K [(t, 0, 1999999 + 1)] M M1 → M1 = u2 M a i.toNatClampNeg x → W p l e Rm s m args below meth c H1 locs1 cells slots Q (F0 m (pc + 1) ls rest)) : W p l e Rm s m args below meth c H locs cells slots Q (F0 m pc ls (.int x :: .int i :: .ref (base + a) :: rest)) := by
  have g : (i.toNatClampNeg : Int) = i.toInt := ti_cl h1
  have g2 := hr i.toNatClampNeg (by omega) (by have := i32_hi i; omega)
  have hb1 := hS.2.1.2.2 a hz
  exact md_iast hexec hb hK hS.1 hz ha ht rfl (ti_in h1 h2) rfl hdg (fun H1 locs1 hG => kk H1 locs1 _ (hS.puti hG ha ⟨Int.le_trans g2.1 hx.1, Int.le_trans hx.2 g2.2⟩ (inL_of hl (Nat.zero_le _) (by omega))) u2_same (fr_one ha (Nat.zero_le _) (by omega)) rfl)
end TWS
theorem str_n {i : Nat} (hi : i < 6) : (Int32.ofNat (md_sl.getD i 0)).toInt = (md_sl.getD i 0 : Int) := by
  match i, hi with
  | 0, _ => decide
  | 1, _ => decide
  | 2, _ => decide
  | 3, _ => decide
  | 4, _ => decide
  | 5, _ => decide
