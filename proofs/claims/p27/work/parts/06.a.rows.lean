abbrev MT : Type := Nat → Nat → Int32
abbrev RT : Type := Nat → Nat → Option Nat
abbrev JT : Type := Nat → Nat → Int64
/-- an int between two bounds -/
def iv (lo hi : Int) (x : Int32) : Prop := lo ≤ x.toInt ∧ x.toInt ≤ hi
theorem iv_any (x : Int32) : iv (-2147483648) 2147483647 x := ⟨i32_lo x, i32_hi x⟩
theorem iv_c {c : Int32} {n : Int} (h : c.toInt = n) : iv n n c := ⟨Int.le_of_eq h.symm, Int.le_of_eq h⟩
theorem iv_mono {a b lo hi : Int} {x : Int32} (h : iv a b x) (h1 : lo ≤ a) (h2 : b ≤ hi) : iv lo hi x := ⟨Int.le_trans h1 h.1, Int.le_trans h.2 h2⟩
theorem iv_add {a b c d lo hi : Int} {x y : Int32} (hx : iv a b x) (hy : iv c d y) (h1 : -2147483648 ≤ a + c ∧ b + d ≤ 2147483647) (h2 : lo ≤ a + c ∧ b + d ≤ hi) : (x + y).toInt = x.toInt + y.toInt ∧ iv lo hi (x + y) := by
  have e : (x + y).toInt = x.toInt + y.toInt := ti_add (by have := hx.1; have := hy.1; omega) (by have := hx.2; have := hy.2; omega)
  refine ⟨e, ?_, ?_⟩
  · rw [e]; have := hx.1; have := hy.1; omega
  · rw [e]; have := hx.2; have := hy.2; omega
theorem iv_sub {a b c d lo hi : Int} {x y : Int32} (hx : iv a b x) (hy : iv c d y) (h1 : -2147483648 ≤ a - d ∧ b - c ≤ 2147483647) (h2 : lo ≤ a - d ∧ b - c ≤ hi) : (x - y).toInt = x.toInt - y.toInt ∧ iv lo hi (x - y) := by
  have e : (x - y).toInt = x.toInt - y.toInt := ti_sub (by have := hx.1; have := hy.2; omega) (by have := hx.2; have := hy.1; omega)
  refine ⟨e, ?_, ?_⟩
  · rw [e]; have := hx.1; have := hy.2; omega
  · rw [e]; have := hx.2; have := hy.1; omega
/-- a product with a constant -/
theorem iv_mulc {a b lo hi c : Int} {x y : Int32} (hx : iv a b x) (hy : y.toInt = c) (h1 : 0 ≤ c) (h2 : -2147483648 ≤ a * c ∧ b * c ≤ 2147483647) (h3 : lo ≤ a * c ∧ b * c ≤ hi) : (x * y).toInt = x.toInt * c ∧ iv lo hi (x * y) := by
  have g1 : a * c ≤ x.toInt * c := Int.mul_le_mul_of_nonneg_right hx.1 h1
  have g2 : x.toInt * c ≤ b * c := Int.mul_le_mul_of_nonneg_right hx.2 h1
  have e : (x * y).toInt = x.toInt * c := by
    have := ti_mul (x := x) (y := y) (by rw [hy]; omega) (by rw [hy]; omega)
    rw [this, hy]
  exact ⟨e, by rw [e]; omega, by rw [e]; omega⟩
theorem iv_cmul {a b lo hi c : Int} {x y : Int32} (hy : y.toInt = c) (hx : iv a b x) (h1 : 0 ≤ c) (h2 : -2147483648 ≤ a * c ∧ b * c ≤ 2147483647) (h3 : lo ≤ a * c ∧ b * c ≤ hi) : (y * x).toInt = x.toInt * c ∧ iv lo hi (y * x) := by
  rw [Int32.mul_comm]
  exact iv_mulc hx hy h1 h2 h3
/-- a product of two that are not below 0 -/
theorem iv_mulp {b d lo hi : Int} {x y : Int32} {a c : Int} (hx : iv a b x) (hy : iv c d y) (h1 : 0 ≤ a ∧ 0 ≤ c) (h2 : b * d ≤ 2147483647) (h3 : lo ≤ 0 ∧ b * d ≤ hi) : (x * y).toInt = x.toInt * y.toInt ∧ iv lo hi (x * y) := by
  have p0 : 0 ≤ x.toInt := Int.le_trans h1.1 hx.1
  have q0 : 0 ≤ y.toInt := Int.le_trans h1.2 hy.1
  have g0 : 0 ≤ x.toInt * y.toInt := Int.mul_nonneg p0 q0
  have g1 : x.toInt * y.toInt ≤ b * d := Int.mul_le_mul hx.2 hy.2 q0 (Int.le_trans p0 hx.2)
  have e : (x * y).toInt = x.toInt * y.toInt := ti_mul (by omega) (by omega)
  exact ⟨e, by rw [e]; omega, by rw [e]; omega⟩
theorem ti_div {x y : Int32} (h0 : 0 ≤ x.toInt) (h1 : 0 < y.toInt) : (x / y).toInt = x.toInt / y.toInt := by
  rw [Int32.toInt_div]
  rw [Int.tdiv_eq_ediv_of_nonneg h0]
  have := i32_hi x
  have g := Int.ediv_le_self y.toInt h0
  have g0 : 0 ≤ x.toInt / y.toInt := Int.ediv_nonneg h0 (Int.le_of_lt h1)
  exact Int.bmod_eq_of_le (by omega) (by omega)
theorem iv_div {a b c d lo hi : Int} {x y : Int32} (hx : iv a b x) (hy : iv c d y) (h1 : 0 ≤ a ∧ 0 < c) (h3 : lo ≤ 0 ∧ b / c ≤ hi) : (x / y).toInt = x.toInt / y.toInt ∧ iv lo hi (x / y) := by
  have p0 : 0 ≤ x.toInt := Int.le_trans h1.1 hx.1
  have q0 : 0 < y.toInt := Int.lt_of_lt_of_le h1.2 hy.1
  have e := ti_div p0 q0
  have g0 : 0 ≤ x.toInt / y.toInt := Int.ediv_nonneg p0 (Int.le_of_lt q0)
  refine ⟨e, by rw [e]; omega, ?_⟩
  rw [e]
  refine Int.le_trans ?_ h3.2
  refine (Int.le_ediv_iff_mul_le h1.2).mpr ?_
  have k1 : x.toInt / y.toInt * c ≤ x.toInt / y.toInt * y.toInt := Int.mul_le_mul_of_nonneg_left hy.1 g0
  have k2 : x.toInt / y.toInt * y.toInt ≤ x.toInt := Int.ediv_mul_le _ (by omega)
  have := hx.2
  omega
theorem iv_rem {a b c d lo hi : Int} {x y : Int32} (hx : iv a b x) (hy : iv c d y) (h1 : 0 ≤ a ∧ 0 < c) (h3 : lo ≤ 0 ∧ d - 1 ≤ hi) : (x - x / y * y).toInt = x.toInt % y.toInt ∧ iv lo hi (x - x / y * y) := by
  have p0 : 0 ≤ x.toInt := Int.le_trans h1.1 hx.1
  have q0 : 0 < y.toInt := Int.lt_of_lt_of_le h1.2 hy.1
  have e := ti_div p0 q0
  have g0 : 0 ≤ x.toInt / y.toInt := Int.ediv_nonneg p0 (Int.le_of_lt q0)
  have k2 : x.toInt / y.toInt * y.toInt ≤ x.toInt := Int.ediv_mul_le _ (by omega)
  have k0 : 0 ≤ x.toInt / y.toInt * y.toInt := Int.mul_nonneg g0 (Int.le_of_lt q0)
  have hh := i32_hi x
  have e2 : (x / y * y).toInt = x.toInt / y.toInt * y.toInt := by
    have := ti_mul (x := x / y) (y := y) (by rw [e]; omega) (by rw [e]; omega)
    rw [this, e]
  have e3 : (x - x / y * y).toInt = x.toInt % y.toInt := by
    rw [ti_sub (by rw [e2]; omega) (by rw [e2]; omega), e2]
    have := Int.emod_def x.toInt y.toInt
    rw [Int.mul_comm (x.toInt / y.toInt)]
    omega
  have m0 := Int.emod_nonneg x.toInt (b := y.toInt) (by omega)
  have m1 := Int.emod_lt_of_pos x.toInt q0
  have := hy.2
  exact ⟨e3, by rw [e3]; omega, by rw [e3]; omega⟩
theorem iv_ltL {a b c d hi : Int} {x y : Int32} (hx : iv a b x) (hy : iv c d y) (h : x.toInt < y.toInt) (hh : d - 1 ≤ hi) : iv a hi x := ⟨hx.1, by have := hy.2; omega⟩
theorem iv_gtL {a b c d lo : Int} {x y : Int32} (hx : iv a b x) (hy : iv c d y) (h : y.toInt < x.toInt) (hh : lo ≤ c + 1) : iv lo b x := ⟨by have := hy.1; omega, hx.2⟩
theorem iv_leL {a b c d hi : Int} {x y : Int32} (hx : iv a b x) (hy : iv c d y) (h : x.toInt ≤ y.toInt) (hh : d ≤ hi) : iv a hi x := ⟨hx.1, by have := hy.2; omega⟩
theorem iv_geL {a b c d lo : Int} {x y : Int32} (hx : iv a b x) (hy : iv c d y) (h : y.toInt ≤ x.toInt) (hh : lo ≤ c) : iv lo b x := ⟨by have := hy.1; omega, hx.2⟩
theorem iv_eqL {a b c d : Int} {x y : Int32} (hy : iv c d y) (h : x.toInt = y.toInt) : iv c d x := ⟨by have := hy.1; omega, by have := hy.2; omega⟩
theorem iv_neH {a b c : Int} {x y : Int32} (hx : iv a b x) (hy : iv b b y) (h : ¬ x.toInt = y.toInt) (hh : b - 1 ≤ c) : iv a c x := ⟨hx.1, by have := hx.2; have := hy.1; have := hy.2; omega⟩
theorem iv_neL {a b c : Int} {x y : Int32} (hx : iv a b x) (hy : iv a a y) (h : ¬ x.toInt = y.toInt) (hh : c ≤ a + 1) : iv c b x := ⟨by have := hx.1; have := hy.1; have := hy.2; omega, hx.2⟩
theorem iv_in {a b : Int} {n : Nat} {x : Int32} (h : iv a b x) (hh : 0 ≤ a ∧ b < n) : vp_in x n := ti_in (Int.le_trans hh.1 h.1) (Int.lt_of_le_of_lt h.2 hh.2)
theorem iv_k {a b : Int} {x : Int32} (h : iv a b x) (h0 : 0 ≤ a) : a ≤ (x.toNatClampNeg : Int) ∧ (x.toNatClampNeg : Int) ≤ b := by
  rw [ti_cl (Int.le_trans h0 h.1)]
  exact h
theorem vt_and_le {x y : Int32} (h : 0 ≤ y.toInt) : 0 ≤ (x &&& y).toInt ∧ (x &&& y).toInt ≤ y.toInt := by
  have e1 : y.toInt = y.toBitVec.toInt := rfl
  have e2 : (x &&& y).toInt = (x.toBitVec &&& y.toBitVec).toInt := rfl
  have l1 : (x.toBitVec &&& y.toBitVec).toNat ≤ y.toBitVec.toNat := by
    rw [BitVec.toNat_and]
    exact Nat.and_le_right
  have l2 := y.toBitVec.isLt
  rw [BitVec.toInt_eq_toNat_cond] at e1 e2
  by_cases q : 2 * y.toBitVec.toNat < 2 ^ 32
  · rw [if_pos q] at e1
    rw [if_pos (by omega)] at e2
    omega
  · rw [if_neg q] at e1
    omega
theorem iv_and {x y : Int32} {b hi : Int} (hy : iv 0 b y) (hh : b ≤ hi) : iv 0 hi (x &&& y) := by
  have h0 : 0 ≤ y.toInt := hy.1
  have := vt_and_le (x := x) (y := y) h0
  exact ⟨this.1, Int.le_trans this.2 (Int.le_trans hy.2 hh)⟩
/-! frames by lists, by program -/
def inLr (L : WL) (kd : Nat) (lo hi : Nat) : Bool := L.any (fun e => kd == e.1 && (decide (e.2.1 ≤ lo) && decide (hi < e.2.2)))
theorem inL_of {L : WL} {kd lo hi k : Nat} (h : inLr L kd lo hi = true) (h1 : lo ≤ k) (h2 : k ≤ hi) : inL L kd k := by
  obtain ⟨e, he, q⟩ := List.any_eq_true.mp h
  simp only [Bool.and_eq_true, beq_iff_eq, decide_eq_true_eq] at q
  exact ⟨e, he, q.1, Nat.le_trans q.2.1 h1, Nat.lt_of_le_of_lt h2 q.2.2⟩
def outL (L : WL) (kd k : Nat) : Bool := L.all (fun e => !(kd == e.1) || (decide (k < e.2.1) || decide (e.2.2 ≤ k)))
theorem outL_of {L : WL} {kd k : Nat} (h : outL L kd k = true) : ¬ inL L kd k := fun ⟨e, he, q1, q2, q3⟩ => by
  have q := List.all_eq_true.mp h e he
  simp only [Bool.or_eq_true, Bool.not_eq_true', beq_eq_false_iff_ne, decide_eq_true_eq] at q
  rcases q with q | q | q
  · exact q q1
  · omega
  · omega
def subL (L1 L : WL) : Bool := L1.all (fun e => L.any (fun f => e.1 == f.1 && (decide (f.2.1 ≤ e.2.1) && decide (e.2.2 ≤ f.2.2))))
theorem subL_of {L1 L : WL} (h : subL L1 L = true) {kd k : Nat} (q : inL L1 kd k) : inL L kd k := by
  obtain ⟨e, he, q1, q2, q3⟩ := q
  obtain ⟨f, hf, g⟩ := List.any_eq_true.mp (List.all_eq_true.mp h e he)
  simp only [Bool.and_eq_true, beq_iff_eq, decide_eq_true_eq] at g
  exact ⟨f, hf, q1.trans g.1, Nat.le_trans g.2.1 q2, Nat.lt_of_lt_of_le q3 g.2.2⟩
theorem Fr.sub {α : Type} {K : Nat → Nat} {L L2 : WL} {M M1 : Nat → Nat → α} (hl : subL L L2 = true) (h : Fr K L M M1) : Fr K L2 M M1 := fun b k hn => h b k (fun q => hn (subL_of hl q))
theorem Fr.kp {α : Type} {K : Nat → Nat} {L : WL} {M M1 : Nat → Nat → α} (h : Fr K L M M1) {b kd k : Nat} (hk : K b = kd) (ho : outL L kd k = true) : M1 b k = M b k := h b k (by rw [hk]; exact outL_of ho)
/-- all that is held on the way: the memory, its types, what may have been written since the entry -/
def SB (D : va_G) (cy : Nat → ClassId) (base Z : Nat) (K N : Nat → Nat) (L LR : WL) (Ma : MT) (Ra : RT) (M : MT) (R : RT) (J : JT) (s : State) (H : Heap) (locs : List Loc) : Prop :=
  md_G D cy base Z K N M R J s H locs ∧ Ty Z K N M R ∧ Fr K L Ma M ∧ Fr K LR Ra R
def TP (Z : Nat) (K N : Nat → Nat) (L LR : WL) (Ma : MT) (Ra : RT) (u : mS) : Prop := u.1 = Z ∧ u.2.1 = K ∧ u.2.2.1 = N ∧ Ty Z K N u.2.2.2.1 u.2.2.2.2.1 ∧ Fr K L Ma u.2.2.2.1 ∧ Fr K LR Ra u.2.2.2.2.1
section TWR
variable {p : Program} {l : Launch} {e : Env} {Rm : Room} {s : State} {m : MethodId} {args : Array Value} {below : List Frame} {meth : Method} {c : Code} {H : Heap} {locs : List Loc} {cells slots : Nat} {Q : State → Prop}
variable {cc : ByteArray} {pc : Nat} {ls : Array Slot} {rest st : List Value} {D : va_G} {cy : Nat → ClassId} {tx : (Nat → Nat) × (Nat → Nat)} {base Z : Nat} {K N : Nat → Nat} {L LR : WL} {Ma M : MT} {Ra R : RT} {J : JT}
theorem SB.start (h : md_U D cy tx base Z K N M R J s) (hT : Ty Z K N M R) : SB D cy base Z K N L LR M R M R J s s.heap [] := ⟨md_G.start h, hT, Fr.rf, Fr.rf⟩
/-! numbers on the stack -/
theorem tw_iadd (hexec : p.tables.exec = Jvm.exec) (hb : c.code = cc) {x y : Int32} {a b a2 b2 lo hi : Int} (hx : iv a b x) (hy : iv a2 b2 y) (h1 : -2147483648 ≤ a + a2 ∧ b + b2 ≤ 2147483647) (h2 : lo ≤ a + a2 ∧ b + b2 ≤ hi) (hdg : decode cc pc = .ok (.iadd, 1)) (kk : ∀ v : Int32, v.toInt = x.toInt + y.toInt → iv lo hi v → W p l e Rm s m args below meth c H locs cells slots Q (F0 m (pc + 1) ls (.int v :: rest))) : W p l e Rm s m args below meth c H locs cells slots Q (F0 m pc ls (.int y :: .int x :: rest)) :=
  lv_iadd hexec hb hdg (kk _ (iv_add hx hy h1 h2).1 (iv_add hx hy h1 h2).2)
theorem tw_isub (hexec : p.tables.exec = Jvm.exec) (hb : c.code = cc) {x y : Int32} {a b a2 b2 lo hi : Int} (hx : iv a b x) (hy : iv a2 b2 y) (h1 : -2147483648 ≤ a - b2 ∧ b - a2 ≤ 2147483647) (h2 : lo ≤ a - b2 ∧ b - a2 ≤ hi) (hdg : decode cc pc = .ok (.isub, 1)) (kk : ∀ v : Int32, v.toInt = x.toInt - y.toInt → iv lo hi v → W p l e Rm s m args below meth c H locs cells slots Q (F0 m (pc + 1) ls (.int v :: rest))) : W p l e Rm s m args below meth c H locs cells slots Q (F0 m pc ls (.int y :: .int x :: rest)) :=
  lv_isub hexec hb hdg (kk _ (iv_sub hx hy h1 h2).1 (iv_sub hx hy h1 h2).2)
theorem tw_imulc (hexec : p.tables.exec = Jvm.exec) (hb : c.code = cc) {x y : Int32} {a b lo hi k : Int} (hx : iv a b x) (hy : y.toInt = k) (h1 : 0 ≤ k) (h2 : -2147483648 ≤ a * k ∧ b * k ≤ 2147483647) (h3 : lo ≤ a * k ∧ b * k ≤ hi) (hdg : decode cc pc = .ok (.imul, 1)) (kk : ∀ v : Int32, v.toInt = x.toInt * k → iv lo hi v → W p l e Rm s m args below meth c H locs cells slots Q (F0 m (pc + 1) ls (.int v :: rest))) : W p l e Rm s m args below meth c H locs cells slots Q (F0 m pc ls (.int y :: .int x :: rest)) :=
  lv_imul hexec hb hdg (kk _ (iv_mulc hx hy h1 h2 h3).1 (iv_mulc hx hy h1 h2 h3).2)
theorem tw_icmul (hexec : p.tables.exec = Jvm.exec) (hb : c.code = cc) {x y : Int32} {a b lo hi k : Int} (hy : y.toInt = k) (hx : iv a b x) (h1 : 0 ≤ k) (h2 : -2147483648 ≤ a * k ∧ b * k ≤ 2147483647) (h3 : lo ≤ a * k ∧ b * k ≤ hi) (hdg : decode cc pc = .ok (.imul, 1)) (kk : ∀ v : Int32, v.toInt = x.toInt * k → iv lo hi v → W p l e Rm s m args below meth c H locs cells slots Q (F0 m (pc + 1) ls (.int v :: rest))) : W p l e Rm s m args below meth c H locs cells slots Q (F0 m pc ls (.int x :: .int y :: rest)) :=
  lv_imul hexec hb hdg (kk _ (iv_cmul hy hx h1 h2 h3).1 (iv_cmul hy hx h1 h2 h3).2)
theorem tw_imulp (hexec : p.tables.exec = Jvm.exec) (hb : c.code = cc) {x y : Int32} {a b a2 b2 lo hi : Int} (hx : iv a b x) (hy : iv a2 b2 y) (h1 : 0 ≤ a ∧ 0 ≤ a2) (h2 : b * b2 ≤ 2147483647) (h3 : lo ≤ 0 ∧ b * b2 ≤ hi) (hdg : decode cc pc = .ok (.imul, 1)) (kk : ∀ v : Int32, v.toInt = x.toInt * y.toInt → iv lo hi v → W p l e Rm s m args below meth c H locs cells slots Q (F0 m (pc + 1) ls (.int v :: rest))) : W p l e Rm s m args below meth c H locs cells slots Q (F0 m pc ls (.int y :: .int x :: rest)) :=
  lv_imul hexec hb hdg (kk _ (iv_mulp hx hy h1 h2 h3).1 (iv_mulp hx hy h1 h2 h3).2)
theorem tw_nz {x : Int32} {a b : Int} (h : iv a b x) (h0 : 0 < a ∨ b < 0) : ¬ x = 0 := fun q => by
  subst q
  have h1 : a ≤ 0 := h.1
  have h2 : 0 ≤ b := h.2
  omega
theorem tw_idiv (hexec : p.tables.exec = Jvm.exec) (hb : c.code = cc) {x y : Int32} {a b a2 b2 lo hi : Int} (hx : iv a b x) (hy : iv a2 b2 y) (h1 : 0 ≤ a ∧ 0 < a2) (h3 : lo ≤ 0 ∧ b / a2 ≤ hi) (hdg : decode cc pc = .ok (.idiv, 1)) (kk : ∀ v : Int32, v.toInt = x.toInt / y.toInt → iv lo hi v → W p l e Rm s m args below meth c H locs cells slots Q (F0 m (pc + 1) ls (.int v :: rest))) : W p l e Rm s m args below meth c H locs cells slots Q (F0 m pc ls (.int y :: .int x :: rest)) :=
  lv_idiv hexec hb hdg (tw_nz hy (Or.inl h1.2)) (kk _ (iv_div hx hy h1 h3).1 (iv_div hx hy h1 h3).2)
theorem tw_irem (hexec : p.tables.exec = Jvm.exec) (hb : c.code = cc) {x y : Int32} {a b a2 b2 lo hi : Int} (hx : iv a b x) (hy : iv a2 b2 y) (h1 : 0 ≤ a ∧ 0 < a2) (h3 : lo ≤ 0 ∧ b2 - 1 ≤ hi) (hdg : decode cc pc = .ok (.irem, 1)) (kk : ∀ v : Int32, v.toInt = x.toInt % y.toInt → iv lo hi v → W p l e Rm s m args below meth c H locs cells slots Q (F0 m (pc + 1) ls (.int v :: rest))) : W p l e Rm s m args below meth c H locs cells slots Q (F0 m pc ls (.int y :: .int x :: rest)) :=
  lv_irem hexec hb hdg (tw_nz hy (Or.inl h1.2)) (kk _ (iv_rem hx hy h1 h3).1 (iv_rem hx hy h1 h3).2)
theorem tw_idivw (hexec : p.tables.exec = Jvm.exec) (hb : c.code = cc) {x y : Int32} {a2 b2 : Int} (hy : iv a2 b2 y) (h1 : 0 < a2 ∨ b2 < 0) (hdg : decode cc pc = .ok (.idiv, 1)) (kk : ∀ v : Int32, W p l e Rm s m args below meth c H locs cells slots Q (F0 m (pc + 1) ls (.int v :: rest))) : W p l e Rm s m args below meth c H locs cells slots Q (F0 m pc ls (.int y :: .int x :: rest)) :=
  lv_idiv hexec hb hdg (tw_nz hy h1) (kk _)
theorem tw_iremw (hexec : p.tables.exec = Jvm.exec) (hb : c.code = cc) {x y : Int32} {a2 b2 : Int} (hy : iv a2 b2 y) (h1 : 0 < a2 ∨ b2 < 0) (hdg : decode cc pc = .ok (.irem, 1)) (kk : ∀ v : Int32, W p l e Rm s m args below meth c H locs cells slots Q (F0 m (pc + 1) ls (.int v :: rest))) : W p l e Rm s m args below meth c H locs cells slots Q (F0 m pc ls (.int y :: .int x :: rest)) :=
  lv_irem hexec hb hdg (tw_nz hy h1) (kk _)
theorem tw_iand (hexec : p.tables.exec = Jvm.exec) (hb : c.code = cc) {x y : Int32} {b hi : Int} (hy : iv 0 b y) (h1 : b ≤ hi) (hdg : decode cc pc = .ok (.iand, 1)) (kk : ∀ v : Int32, iv 0 hi v → W p l e Rm s m args below meth c H locs cells slots Q (F0 m (pc + 1) ls (.int v :: rest))) : W p l e Rm s m args below meth c H locs cells slots Q (F0 m pc ls (.int y :: .int x :: rest)) :=
  lv_iand hexec hb hdg (kk _ (iv_and hy h1))
/-- a number of which nothing is known -/
theorem tw_top {x : Int32} (kk : ∀ v : Int32, W p l e Rm s m args below meth c H locs cells slots Q (F0 m pc ls (.int v :: rest))) : W p l e Rm s m args below meth c H locs cells slots Q (F0 m pc ls (.int x :: rest)) := kk x
theorem tw_topl {x : Int64} (kk : ∀ v : Int64, W p l e Rm s m args below meth c H locs cells slots Q (F0 m pc ls (.long v :: rest))) : W p l e Rm s m args below meth c H locs cells slots Q (F0 m pc ls (.long x :: rest)) := kk x
theorem tw_iinc (hexec : p.tables.exec = Jvm.exec) (hb : c.code = cc) {i nL k : Nat} {n : Int} {x : Int32} {a b lo hi : Int} {lv : List (Nat × Value)} {lv' : Int32 → List (Nat × Value)} (hdg : decode cc pc = .ok (.iinc i n, 3)) (h : lv_has ls nL lv) (hk : lv[k]? = some (i, .int x)) (hx : iv a b x) (hn0 : (Int32.ofInt n).toInt = n) (h1 : -2147483648 ≤ a + n ∧ b + n ≤ 2147483647) (h2 : lo ≤ a + n ∧ b + n ≤ hi) (hn : i < nL) (hl : ∀ v : Int32, (i, Value.int v) :: lv.filter (fun q => !(q.1 == i) && !(q.1 + 1 == i && q.2.category == 2)) = lv' v)
    (kk : ∀ (v : Int32) (ls' : Array Slot), v.toInt = x.toInt + n → iv lo hi v → lv_has ls' nL (lv' v) → W p l e Rm s m args below meth c H locs cells slots Q (F0 m (pc + 3) ls' rest)) : W p l e Rm s m args below meth c H locs cells slots Q (F0 m pc ls rest) := by
  have q := iv_add (lo := lo) (hi := hi) hx (iv_c hn0) h1 h2
  exact lv_iinc hexec hb hdg h hk rfl hn (hl _) (fun ls' h' => kk _ ls' (by rw [q.1, hn0]) q.2 h')
theorem tw_iincw (hexec : p.tables.exec = Jvm.exec) (hb : c.code = cc) {i nL k : Nat} {n : Int} {x : Int32} {lv : List (Nat × Value)} {lv' : Int32 → List (Nat × Value)} (hdg : decode cc pc = .ok (.iinc i n, 3)) (h : lv_has ls nL lv) (hk : lv[k]? = some (i, .int x)) (hn : i < nL) (hl : ∀ v : Int32, (i, Value.int v) :: lv.filter (fun q => !(q.1 == i) && !(q.1 + 1 == i && q.2.category == 2)) = lv' v)
    (kk : ∀ (v : Int32) (ls' : Array Slot), lv_has ls' nL (lv' v) → W p l e Rm s m args below meth c H locs cells slots Q (F0 m (pc + 3) ls' rest)) : W p l e Rm s m args below meth c H locs cells slots Q (F0 m pc ls rest) :=
  lv_iinc hexec hb hdg h hk rfl hn (hl _) (fun ls' h' => kk _ ls' h')
theorem tw_mmin {x y : Int32} {a b a2 b2 lo hi : Int} (hx : iv a b x) (hy : iv a2 b2 y) (h : (lo ≤ a ∧ lo ≤ a2) ∧ (b ≤ hi ∨ b2 ≤ hi)) (kk : ∀ v : Int32, (v.toInt ≤ x.toInt ∧ v.toInt ≤ y.toInt ∧ (v.toInt = x.toInt ∨ v.toInt = y.toInt)) → iv lo hi v → W p l e Rm s m args below meth c H locs cells slots Q (F0 m pc ls (.int v :: rest))) : W p l e Rm s m args below meth c H locs cells slots Q (F0 m pc ls (.int (if y < x then y else x) :: rest)) := by
  obtain ⟨x1, x2⟩ := hx
  obtain ⟨y1, y2⟩ := hy
  by_cases q : y < x
  · rw [if_pos q]
    have q2 := ti_lt q
    exact kk y ⟨by omega, by omega, Or.inr rfl⟩ ⟨by omega, by omega⟩
  · rw [if_neg q]
    have q2 := ti_nlt q
    exact kk x ⟨by omega, by omega, Or.inl rfl⟩ ⟨by omega, by omega⟩
theorem tw_mmax {x y : Int32} {a b a2 b2 lo hi : Int} (hx : iv a b x) (hy : iv a2 b2 y) (h : (lo ≤ a ∨ lo ≤ a2) ∧ (b ≤ hi ∧ b2 ≤ hi)) (kk : ∀ v : Int32, (x.toInt ≤ v.toInt ∧ y.toInt ≤ v.toInt ∧ (v.toInt = x.toInt ∨ v.toInt = y.toInt)) → iv lo hi v → W p l e Rm s m args below meth c H locs cells slots Q (F0 m pc ls (.int v :: rest))) : W p l e Rm s m args below meth c H locs cells slots Q (F0 m pc ls (.int (if x < y then y else x) :: rest)) := by
  obtain ⟨x1, x2⟩ := hx
  obtain ⟨y1, y2⟩ := hy
  by_cases q : x < y
  · rw [if_pos q]
    have q2 := ti_lt q
    exact kk y ⟨by omega, by omega, Or.inr rfl⟩ ⟨by omega, by omega⟩
  · rw [if_neg q]
    have q2 := ti_nlt q
    exact kk x ⟨by omega, by omega, Or.inl rfl⟩ ⟨by omega, by omega⟩
theorem SB.same {H1 : Heap} {locs1 : List Loc} (hS : SB D cy base Z K N L LR Ma Ra M R J s H locs) (hG : md_G D cy base Z K N M R J s H1 locs1) : SB D cy base Z K N L LR Ma Ra M R J s H1 locs1 := ⟨hG, hS.2⟩
/-! the memory -/
theorem tw_geti (hexec : p.tables.exec = Jvm.exec) (hb : c.code = cc) (hW : ∀ w ∈ lw_tbl, goodWord w = true → w.before args s = true) {own : String} (hown : s.vm.findClass own = some m.cls) (hK : md_K D cy s) (hS : SB D cy base Z K N L LR Ma Ra M R J s H locs) {index cx k : Nat} {ty : FieldType} {fin : Bool} (hF : md_F own index cx k ty false fin) {a : Nat} (hz : a < Z) (ha : K a = cx + 1) {lo hi : Int} (hr : rgI (cx + 1) k = (lo, hi)) (hdg : decode cc pc = .ok (.getfield index, 3))
    (kk : ∀ v : Int32, M a k = v → iv lo hi v → W p l e Rm s m args below meth c H locs cells slots Q (F0 m (pc + 3) ls (.int v :: rest))) : W p l e Rm s m args below meth c H locs cells slots Q (F0 m pc ls (.ref (base + a) :: rest)) :=
  md_geti hexec hb hW hown hK hS.1 hF hz ha rfl hdg (kk _ rfl (hS.2.1.int hz ha hr))
/-- a field that is known already -/
theorem tw_getk (hexec : p.tables.exec = Jvm.exec) (hb : c.code = cc) (hW : ∀ w ∈ lw_tbl, goodWord w = true → w.before args s = true) {own : String} (hown : s.vm.findClass own = some m.cls) (hK : md_K D cy s) (hS : SB D cy base Z K N L LR Ma Ra M R J s H locs) {index cx k : Nat} {ty : FieldType} {fin : Bool} (hF : md_F own index cx k ty false fin) {a : Nat} (hz : a < Z) (ha : K a = cx + 1) {v : Int32} (hv : M a k = v) (hdg : decode cc pc = .ok (.getfield index, 3))
    (kk : W p l e Rm s m args below meth c H locs cells slots Q (F0 m (pc + 3) ls (.int v :: rest))) : W p l e Rm s m args below meth c H locs cells slots Q (F0 m pc ls (.ref (base + a) :: rest)) :=
  md_geti hexec hb hW hown hK hS.1 hF hz ha hv hdg kk
theorem tw_getr (hexec : p.tables.exec = Jvm.exec) (hb : c.code = cc) (hW : ∀ w ∈ lw_tbl, goodWord w = true → w.before args s = true) {own : String} (hown : s.vm.findClass own = some m.cls) (hK : md_K D cy s) (hS : SB D cy base Z K N L LR Ma Ra M R J s H locs) {index cx k : Nat} {ty : FieldType} {fin : Bool} (hF : md_F own index cx k ty true fin) {a : Nat} (hz : a < Z) (ha : K a = cx + 1) {t n : Nat} (hr : rtR (cx + 1) k = (t, n, 0)) (hdg : decode cc pc = .ok (.getfield index, 3))
    (kk : ∀ b : Nat, R a k = some b → b < Z → K b = t → (n ≠ 0 → N b = n) → W p l e Rm s m args below meth c H locs cells slots Q (F0 m (pc + 3) ls (.ref (base + b) :: rest))) : W p l e Rm s m args below meth c H locs cells slots Q (F0 m pc ls (.ref (base + a) :: rest)) := by
  obtain ⟨b, h1, h2, h3, h4⟩ := hS.2.1.ref hz ha hr
  exact md_getr hexec hb hW hown hK hS.1 hF hz ha h1 hdg (kk b h1 h2 h3 h4)
theorem tw_getrk (hexec : p.tables.exec = Jvm.exec) (hb : c.code = cc) (hW : ∀ w ∈ lw_tbl, goodWord w = true → w.before args s = true) {own : String} (hown : s.vm.findClass own = some m.cls) (hK : md_K D cy s) (hS : SB D cy base Z K N L LR Ma Ra M R J s H locs) {index cx k : Nat} {ty : FieldType} {fin : Bool} (hF : md_F own index cx k ty true fin) {a : Nat} (hz : a < Z) (ha : K a = cx + 1) {b : Nat} (hv : R a k = some b) (hdg : decode cc pc = .ok (.getfield index, 3))
    (kk : W p l e Rm s m args below meth c H locs cells slots Q (F0 m (pc + 3) ls (.ref (base + b) :: rest))) : W p l e Rm s m args below meth c H locs cells slots Q (F0 m pc ls (.ref (base + a) :: rest)) :=
  md_getr hexec hb hW hown hK hS.1 hF hz ha hv hdg kk
theorem SB.puti (hS : SB D cy base Z K N L LR Ma Ra M R J s H locs) {a kd k : Nat} {x : Int32} {H1 : Heap} {locs1 : List Loc} (hG : md_G D cy base Z K N (u2 M a k x) R J s H1 locs1) (ha : K a = kd) (hv : okI kd k x) (hl : inL L kd k) : SB D cy base Z K N L LR Ma Ra (u2 M a k x) R J s H1 locs1 :=
  ⟨hG, hS.2.1.puti (by rw [ha]; exact hv), hS.2.2.1.put (by rw [ha]; exact hl), hS.2.2.2⟩
theorem fr_one {K : Nat → Nat} {M : MT} {a kd k lo hi : Nat} {x : Int32} (ha : K a = kd) (h1 : lo ≤ k) (h2 : k < hi) : Fr K [(kd, lo, hi)] M (u2 M a k x) := Fr.rf.put ⟨(kd, lo, hi), List.mem_singleton.mpr rfl, ha, h1, h2⟩
theorem fr_oneR {K : Nat → Nat} {M : RT} {a kd k lo hi : Nat} {x : Option Nat} (ha : K a = kd) (h1 : lo ≤ k) (h2 : k < hi) : Fr K [(kd, lo, hi)] M (u2 M a k x) := Fr.rf.put ⟨(kd, lo, hi), List.mem_singleton.mpr rfl, ha, h1, h2⟩
theorem tw_puti (hexec : p.tables.exec = Jvm.exec) (hb : c.code = cc) (hW : ∀ w ∈ lw_tbl, goodWord w = true → w.before args s = true) {own : String} (hown : s.vm.findClass own = some m.cls) (hK : md_K D cy s) (hS : SB D cy base Z K N L LR Ma Ra M R J s H locs) {index cx k : Nat} {ty : FieldType} (hF : md_F own index cx k ty false false) {a : Nat} (hz : a < Z) (ha : K a = cx + 1) {x : Int32} (hn : narrow ty (.int x) = .int x) (hfit : fits ty (.int x) = true) {lo hi : Int} (hr : rgI (cx + 1) k = (lo, hi)) (hv : iv lo hi x) (hl : inLr L (cx + 1) k k = true) (hdg : decode cc pc = .ok (.putfield index, 3))
    (kk : ∀ (H1 : Heap) (locs1 : List Loc) (M1 : MT), SB D cy base Z K N L LR Ma Ra M1 R J s H1 locs1 → M1 a k = x → Fr K [(cx + 1, k, k + 1)] M M1 → W p l e Rm s m args below meth c H1 locs1 cells slots Q (F0 m (pc + 3) ls rest)) : W p l e Rm s m args below meth c H locs cells slots Q (F0 m pc ls (.int x :: .ref (base + a) :: rest)) :=
  md_puti hexec hb hW hown hK hS.1 hF hz ha hn hfit hdg (fun H1 locs1 hG => kk H1 locs1 _ (hS.puti hG ha (by unfold okI; rw [hr]; exact hv) (inL_of hl (Nat.le_refl _) (Nat.le_refl _))) u2_same (fr_one ha (Nat.le_refl _) (Nat.lt_succ_self _)))
theorem SB.putr (hS : SB D cy base Z K N L LR Ma Ra M R J s H locs) {a kd k : Nat} {x : Option Nat} {H1 : Heap} {locs1 : List Loc} (hG : md_G D cy base Z K N M (u2 R a k x) J s H1 locs1) (ha : K a = kd) (hv : okR Z K N (N a) kd k x) (hl : inL LR kd k) : SB D cy base Z K N L LR Ma Ra M (u2 R a k x) J s H1 locs1 :=
  ⟨hG, hS.2.1.putr (by rw [ha]; exact hv), hS.2.2.1, hS.2.2.2.put (by rw [ha]; exact hl)⟩
theorem tw_putr (hexec : p.tables.exec = Jvm.exec) (hb : c.code = cc) (hW : ∀ w ∈ lw_tbl, goodWord w = true → w.before args s = true) {own : String} (hown : s.vm.findClass own = some m.cls) (hK : md_K D cy s) (hS : SB D cy base Z K N L LR Ma Ra M R J s H locs) {index cx k : Nat} {ty : FieldType} (hF : md_F own index cx k ty true false) {a : Nat} (hz : a < Z) (ha : K a = cx + 1) {b : Nat} (hn : narrow ty (.ref (base + b)) = .ref (base + b)) (hfit : fits ty (.ref (base + b)) = true) {t n o : Nat} (hr : rtR (cx + 1) k = (t, n, o)) (hzb : b < Z) (hbk : K b = t) (hbn : n ≠ 0 → N b = n) (hl : inLr LR (cx + 1) k k = true) (hdg : decode cc pc = .ok (.putfield index, 3))
    (kk : ∀ (H1 : Heap) (locs1 : List Loc) (R1 : RT), SB D cy base Z K N L LR Ma Ra M R1 J s H1 locs1 → R1 a k = some b → Fr K [(cx + 1, k, k + 1)] R R1 → W p l e Rm s m args below meth c H1 locs1 cells slots Q (F0 m (pc + 3) ls rest)) : W p l e Rm s m args below meth c H locs cells slots Q (F0 m pc ls (.ref (base + b) :: .ref (base + a) :: rest)) :=
  md_putr hexec hb hW hown hK hS.1 hF hz ha hn hfit hdg (fun H1 locs1 hG => kk H1 locs1 _ (hS.putr hG ha (by unfold okR; rw [hr]; exact ⟨hzb, hbk, hbn⟩) (inL_of hl (Nat.le_refl _) (Nat.le_refl _))) u2_same (fr_oneR ha (Nat.le_refl _) (Nat.lt_succ_self _)))
theorem tw_iald (hexec : p.tables.exec = Jvm.exec) (hb : c.code = cc) (hK : md_K D cy s) (hS : SB D cy base Z K N L LR Ma Ra M R J s H locs) {a t : Nat} (hz : a < Z) (ha : K a = t) (ht : t = 14 ∨ 20 ≤ t) {i : Int32} {n : Nat} (hn : N a = n) {il ih lo hi : Int} (hi0 : iv il ih i) (h0 : 0 ≤ il ∧ ih < n) (hr : ∀ k : Nat, il ≤ k → (k : Int) ≤ ih → lo ≤ (rgI t k).1 ∧ (rgI t k).2 ≤ hi) (hdg : decode cc pc = .ok (.iaload, 1))
    (kk : ∀ v : Int32, M a i.toNatClampNeg = v → iv lo hi v → W p l e Rm s m args below meth c H locs cells slots Q (F0 m (pc + 1) ls (.int v :: rest))) : W p l e Rm s m args below meth c H locs cells slots Q (F0 m pc ls (.int i :: .ref (base + a) :: rest)) := by
  refine md_iald hexec hb hK hS.1 hz ha ht hn (iv_in hi0 h0) rfl hdg (kk _ rfl ?_)
  have g := iv_k hi0 h0.1
  have g2 := hr _ g.1 g.2
  have q := hS.2.1.1 a hz i.toNatClampNeg
  unfold okI at q
  rw [ha] at q
  exact ⟨Int.le_trans g2.1 q.1, Int.le_trans q.2 g2.2⟩
theorem tw_ialk (hexec : p.tables.exec = Jvm.exec) (hb : c.code = cc) (hK : md_K D cy s) (hS : SB D cy base Z K N L LR Ma Ra M R J s H locs) {a t : Nat} (hz : a < Z) (ha : K a = t) (ht : t = 14 ∨ 20 ≤ t) {i : Int32} {n : Nat} (hn : N a = n) {il ih : Int} (hi0 : iv il ih i) (h0 : 0 ≤ il ∧ ih < n) {v : Int32} (hv : M a i.toNatClampNeg = v) (hdg : decode cc pc = .ok (.iaload, 1))
    (kk : W p l e Rm s m args below meth c H locs cells slots Q (F0 m (pc + 1) ls (.int v :: rest))) : W p l e Rm s m args below meth c H locs cells slots Q (F0 m pc ls (.int i :: .ref (base + a) :: rest)) :=
  md_iald hexec hb hK hS.1 hz ha ht hn (iv_in hi0 h0) hv hdg kk
theorem tw_bald (hexec : p.tables.exec = Jvm.exec) (hb : c.code = cc) (hK : md_K D cy s) (hS : SB D cy base Z K N L LR Ma Ra M R J s H locs) {a : Nat} (hz : a < Z) (ha : K a = 13) {i : Int32} {n : Nat} (hn : N a = n) {il ih : Int} (hi0 : iv il ih i) (h0 : 0 ≤ il ∧ ih < n) (hdg : decode cc pc = .ok (.baload, 1))
    (kk : ∀ v : Int32, M a i.toNatClampNeg = v → W p l e Rm s m args below meth c H locs cells slots Q (F0 m (pc + 1) ls (.int v :: rest))) : W p l e Rm s m args below meth c H locs cells slots Q (F0 m pc ls (.int i :: .ref (base + a) :: rest)) :=
  md_bald hexec hb hK hS.1 hz ha hn (iv_in hi0 h0) rfl hdg (kk _ rfl)
theorem tw_zald (hexec : p.tables.exec = Jvm.exec) (hb : c.code = cc) (hK : md_K D cy s) (hS : SB D cy base Z K N L LR Ma Ra M R J s H locs) {a : Nat} (hz : a < Z) (ha : K a = 16) {i : Int32} {n : Nat} (hn : N a = n) {il ih : Int} (hi0 : iv il ih i) (h0 : 0 ≤ il ∧ ih < n) (hdg : decode cc pc = .ok (.baload, 1))
    (kk : ∀ v : Int32, M a i.toNatClampNeg = v → W p l e Rm s m args below meth c H locs cells slots Q (F0 m (pc + 1) ls (.int v :: rest))) : W p l e Rm s m args below meth c H locs cells slots Q (F0 m pc ls (.int i :: .ref (base + a) :: rest)) :=
  md_zald hexec hb hK hS.1 hz ha hn (iv_in hi0 h0) rfl hdg (kk _ rfl)
theorem tw_lald (hexec : p.tables.exec = Jvm.exec) (hb : c.code = cc) (hK : md_K D cy s) (hS : SB D cy base Z K N L LR Ma Ra M R J s H locs) {a : Nat} (hz : a < Z) (ha : K a = 15) {i : Int32} {n : Nat} (hn : N a = n) {il ih : Int} (hi0 : iv il ih i) (h0 : 0 ≤ il ∧ ih < n) (hdg : decode cc pc = .ok (.laload, 1))
    (kk : ∀ v : Int64, W p l e Rm s m args below meth c H locs cells slots Q (F0 m (pc + 1) ls (.long v :: rest))) : W p l e Rm s m args below meth c H locs cells slots Q (F0 m pc ls (.int i :: .ref (base + a) :: rest)) :=
  md_lald hexec hb hK hS.1 hz ha hn (iv_in hi0 h0) rfl hdg (kk _)
theorem tw_iast (hexec : p.tables.exec = Jvm.exec) (hb : c.code = cc) (hK : md_K D cy s) (hS : SB D cy base Z K N L LR Ma Ra M R J s H locs) {a t : Nat} (hz : a < Z) (ha : K a = t) (ht : t = 14 ∨ 20 ≤ t) {i x : Int32} {n : Nat} (hn : N a = n) {il ih lo hi : Int} (hi0 : iv il ih i) (h0 : 0 ≤ il ∧ ih < n) (hx : iv lo hi x) (hr : ∀ k : Nat, il ≤ k → (k : Int) ≤ ih → (rgI t k).1 ≤ lo ∧ hi ≤ (rgI t k).2) {jl jh : Nat} (hj : (jl : Int) ≤ il ∧ ih ≤ jh) (hl : inLr L t jl jh = true) (hdg : decode cc pc = .ok (.iastore, 1))
    (kk : ∀ (H1 : Heap) (locs1 : List Loc) (M1 : MT), SB D cy base Z K N L LR Ma Ra M1 R J s H1 locs1 → M1 a i.toNatClampNeg = x → Fr K [(t, jl, jh + 1)] M M1 → W p l e Rm s m args below meth c H1 locs1 cells slots Q (F0 m (pc + 1) ls rest)) : W p l e Rm s m args below meth c H locs cells slots Q (F0 m pc ls (.int x :: .int i :: .ref (base + a) :: rest)) := by
  have g := iv_k hi0 h0.1
  have g2 := hr _ g.1 g.2
  have j1 : jl ≤ i.toNatClampNeg := by have := hj.1; omega
  have j2 : i.toNatClampNeg ≤ jh := by have := hj.2; omega
  exact md_iast hexec hb hK hS.1 hz ha ht hn (iv_in hi0 h0) rfl hdg (fun H1 locs1 hG => kk H1 locs1 _ (hS.puti hG ha ⟨Int.le_trans g2.1 hx.1, Int.le_trans hx.2 g2.2⟩ (inL_of hl j1 j2)) u2_same (fr_one ha j1 (Nat.lt_succ_of_le j2)))
theorem tw_bast (hexec : p.tables.exec = Jvm.exec) (hb : c.code = cc) (hK : md_K D cy s) (hS : SB D cy base Z K N L LR Ma Ra M R J s H locs) {a : Nat} (hz : a < Z) (ha : K a = 13) {i x : Int32} {n : Nat} (hn : N a = n) {il ih : Int} (hi0 : iv il ih i) (h0 : 0 ≤ il ∧ ih < n) {jl jh : Nat} (hj : (jl : Int) ≤ il ∧ ih ≤ jh) (hl : inLr L 13 jl jh = true) (hdg : decode cc pc = .ok (.bastore, 1))
    (kk : ∀ (H1 : Heap) (locs1 : List Loc) (M1 : MT), SB D cy base Z K N L LR Ma Ra M1 R J s H1 locs1 → Fr K [(13, jl, jh + 1)] M M1 → W p l e Rm s m args below meth c H1 locs1 cells slots Q (F0 m (pc + 1) ls rest)) : W p l e Rm s m args below meth c H locs cells slots Q (F0 m pc ls (.int x :: .int i :: .ref (base + a) :: rest)) := by
  have g := iv_k hi0 h0.1
  have j1 : jl ≤ i.toNatClampNeg := by have := hj.1; omega
  have j2 : i.toNatClampNeg ≤ jh := by have := hj.2; omega
  exact md_bast hexec hb hK hS.1 hz ha hn (iv_in hi0 h0) rfl hdg (fun H1 locs1 hG => kk H1 locs1 _ (hS.puti hG ha (iv_any _) (inL_of hl j1 j2)) (fr_one ha j1 (Nat.lt_succ_of_le j2)))
theorem tw_zast (hexec : p.tables.exec = Jvm.exec) (hb : c.code = cc) (hK : md_K D cy s) (hS : SB D cy base Z K N L LR Ma Ra M R J s H locs) {a : Nat} (hz : a < Z) (ha : K a = 16) {i : Int32} {n : Nat} (hn : N a = n) {il ih : Int} (hi0 : iv il ih i) (h0 : 0 ≤ il ∧ ih < n) {jl jh : Nat} (hj : (jl : Int) ≤ il ∧ ih ≤ jh) (hl : inLr L 16 jl jh = true) (hdg : decode cc pc = .ok (.bastore, 1))
    (kk : ∀ (H1 : Heap) (locs1 : List Loc) (M1 : MT), SB D cy base Z K N L LR Ma Ra M1 R J s H1 locs1 → M1 a i.toNatClampNeg = 1 → Fr K [(16, jl, jh + 1)] M M1 → M1 = u2 M a i.toNatClampNeg 1 → W p l e Rm s m args below meth c H1 locs1 cells slots Q (F0 m (pc + 1) ls rest)) : W p l e Rm s m args below meth c H locs cells slots Q (F0 m pc ls (.int 1 :: .int i :: .ref (base + a) :: rest)) := by
  have g := iv_k hi0 h0.1
  have j1 : jl ≤ i.toNatClampNeg := by have := hj.1; omega
  have j2 : i.toNatClampNeg ≤ jh := by have := hj.2; omega
  exact md_zast hexec hb hK hS.1 hz ha hn (iv_in hi0 h0) rfl hdg (fun H1 locs1 hG => kk H1 locs1 (u2 M a i.toNatClampNeg 1) (hS.puti hG ha (show okI 16 i.toNatClampNeg 1 from ⟨show (0 : Int) ≤ Int32.toInt 1 by decide, show Int32.toInt 1 ≤ (1 : Int) by decide⟩) (inL_of hl j1 j2)) u2_same (fr_one ha j1 (Nat.lt_succ_of_le j2)) rfl)
theorem tw_last (hexec : p.tables.exec = Jvm.exec) (hb : c.code = cc) (hK : md_K D cy s) (hS : SB D cy base Z K N L LR Ma Ra M R J s H locs) {a : Nat} (hz : a < Z) (ha : K a = 15) {i : Int32} {x : Int64} {n : Nat} (hn : N a = n) {il ih : Int} (hi0 : iv il ih i) (h0 : 0 ≤ il ∧ ih < n) (hdg : decode cc pc = .ok (.lastore, 1))
    (kk : ∀ (H1 : Heap) (locs1 : List Loc) (J1 : JT), SB D cy base Z K N L LR Ma Ra M R J1 s H1 locs1 → W p l e Rm s m args below meth c H1 locs1 cells slots Q (F0 m (pc + 1) ls rest)) : W p l e Rm s m args below meth c H locs cells slots Q (F0 m pc ls (.long x :: .int i :: .ref (base + a) :: rest)) :=
  md_last hexec hb hK hS.1 hz ha hn (iv_in hi0 h0) rfl hdg (fun H1 locs1 hG => kk H1 locs1 _ ⟨hG, hS.2⟩)
theorem tw_alen (hexec : p.tables.exec = Jvm.exec) (hb : c.code = cc) (hK : md_K D cy s) (hS : SB D cy base Z K N L LR Ma Ra M R J s H locs) {a t : Nat} (hz : a < Z) (ha : K a = t) (ht : 12 < t) (hdg : decode cc pc = .ok (.arraylength, 1))
    (kk : ∀ v : Int32, v.toInt = (N a : Int) → iv 0 1048576 v → W p l e Rm s m args below meth c H locs cells slots Q (F0 m (pc + 1) ls (.int v :: rest))) : W p l e Rm s m args below meth c H locs cells slots Q (F0 m pc ls (.ref (base + a) :: rest)) := by
  have hb1 := hS.2.1.2.2 a hz
  have e : (Int32.ofNat (N a)).toInt = (N a : Int) := by
    rw [Int32.toInt_ofNat']
    show Int.bmod (N a : Int) 4294967296 = (N a : Int)
    exact Int.bmod_eq_of_le (by omega) (by omega)
  exact md_alen hexec hb hK hS.1 hz ha ht rfl rfl hdg (kk _ e ⟨by rw [e]; omega, by rw [e]; omega⟩)
theorem tw_alenk (hexec : p.tables.exec = Jvm.exec) (hb : c.code = cc) (hK : md_K D cy s) (hS : SB D cy base Z K N L LR Ma Ra M R J s H locs) {a t : Nat} (hz : a < Z) (ha : K a = t) (ht : 12 < t) {n : Nat} (hn : N a = n) {v : Int32} (hv : Int32.ofNat n = v) (hdg : decode cc pc = .ok (.arraylength, 1))
    (kk : W p l e Rm s m args below meth c H locs cells slots Q (F0 m (pc + 1) ls (.int v :: rest))) : W p l e Rm s m args below meth c H locs cells slots Q (F0 m pc ls (.ref (base + a) :: rest)) :=
  md_alen hexec hb hK hS.1 hz ha ht hn hv hdg kk
/-- a place of an array of references: null or not -/
theorem tw_aald (hexec : p.tables.exec = Jvm.exec) (hb : c.code = cc) (hK : md_K D cy s) (hS : SB D cy base Z K N L LR Ma Ra M R J s H locs) {a t : Nat} (hz : a < Z) (ha : K a = t) (ht : 16 < t ∧ t < 20) {i : Int32} {n : Nat} (hn : N a = n) {il ih : Int} (hi0 : iv il ih i) (h0 : 0 ≤ il ∧ ih < n) {t2 n2 o : Nat} (hr : ∀ k : Nat, rtR t k = (t2, n2, o)) (hdg : decode cc pc = .ok (.aaload, 1))
    (kn : R a i.toNatClampNeg = none → W p l e Rm s m args below meth c H locs cells slots Q (F0 m (pc + 1) ls (.null :: rest)))
    (kk : ∀ b : Nat, R a i.toNatClampNeg = some b → b < Z → K b = t2 → (n2 ≠ 0 → N b = n2) → W p l e Rm s m args below meth c H locs cells slots Q (F0 m (pc + 1) ls (.ref (base + b) :: rest))) : W p l e Rm s m args below meth c H locs cells slots Q (F0 m pc ls (.int i :: .ref (base + a) :: rest)) := by
  cases hv : R a i.toNatClampNeg with
  | none => exact md_aald hexec hb hK hS.1 hz ha ht hn (iv_in hi0 h0) hv hdg (kn hv)
  | some b =>
    obtain ⟨q1, q2, q3⟩ := hS.2.1.refn hz ha (hr _) hv
    exact md_aald hexec hb hK hS.1 hz ha ht hn (iv_in hi0 h0) hv hdg (kk b hv q1 q2 q3)
/-- a row of a table of ints -/
theorem tw_row (hexec : p.tables.exec = Jvm.exec) (hb : c.code = cc) (hK : md_K D cy s) (hS : SB D cy base Z K N L LR Ma Ra M R J s H locs) {a : Nat} (hz : a < Z) (ha : K a = 19) {i : Int32} {n : Nat} (hn : N a = n) {il ih : Int} (hi0 : iv il ih i) (h0 : 0 ≤ il ∧ ih < n) (hdg : decode cc pc = .ok (.aaload, 1))
    (kk : ∀ b : Nat, R a i.toNatClampNeg = some b → b < Z → K b = 20 → N b = 10 → W p l e Rm s m args below meth c H locs cells slots Q (F0 m (pc + 1) ls (.ref (base + b) :: rest))) : W p l e Rm s m args below meth c H locs cells slots Q (F0 m pc ls (.int i :: .ref (base + a) :: rest)) := by
  refine tw_aald hexec hb hK hS hz ha ⟨by decide, by decide⟩ hn hi0 h0 (t2 := 20) (n2 := 10) (o := 2) (fun _ => rfl) hdg (fun q => ?_) (fun b h1 h2 h3 h4 => kk b h1 h2 h3 (h4 (by decide)))
  have g := iv_k hi0 h0.1
  have q2 := hS.2.1.2.1 a hz i.toNatClampNeg
  rw [q, ha] at q2
  rcases q2 with q2 | q2
  · exact absurd (show (2 : Nat) = 1 from q2) (by decide)
  · have := h0.2
    have := q2.2
    omega
/-- a place of an array of references that is known -/
theorem tw_aalk (hexec : p.tables.exec = Jvm.exec) (hb : c.code = cc) (hK : md_K D cy s) (hS : SB D cy base Z K N L LR Ma Ra M R J s H locs) {a t : Nat} (hz : a < Z) (ha : K a = t) (ht : 16 < t ∧ t < 20) {i : Int32} {n : Nat} (hn : N a = n) {il ih : Int} (hi0 : iv il ih i) (h0 : 0 ≤ il ∧ ih < n) {b : Nat} (hv : R a i.toNatClampNeg = some b) (hdg : decode cc pc = .ok (.aaload, 1))
    (kk : W p l e Rm s m args below meth c H locs cells slots Q (F0 m (pc + 1) ls (.ref (base + b) :: rest))) : W p l e Rm s m args below meth c H locs cells slots Q (F0 m pc ls (.int i :: .ref (base + a) :: rest)) :=
  md_aald hexec hb hK hS.1 hz ha ht hn (iv_in hi0 h0) hv hdg kk
theorem tw_copy (hexec : p.tables.exec = Jvm.exec) (hb : c.code = cc) (hml : c.maxLocals = ls.size) (hW : ∀ w ∈ lw_tbl, goodWord w = true → w.before args s = true) {own : String} (hown : s.vm.findClass own = some m.cls) (hK : md_K D cy s) (hS : SB D cy base Z K N L LR Ma Ra M R J s H locs) {index : Nat} (hok : md_ok [Cond.methodLink own index arraycopyName, Cond.native arraycopyName, Cond.static arraycopyName, Cond.initialized "java/lang/System"])
    {a b ta tb : Nat} (hza : a < Z) (ha : K a = ta) (hta : ta = 14 ∨ 20 ≤ ta) (hzb : b < Z) (hbk : K b = tb) (htb : tb = 14 ∨ 20 ≤ tb) {na nb : Nat} (hna : N a = na) (hnb : N b = nb) {sp dp n : Int32} (h1 : 0 ≤ sp.toInt) (h2 : 0 ≤ dp.toInt) (h3 : 0 ≤ n.toInt) (h4 : sp.toInt + n.toInt ≤ nb) (h5 : dp.toInt + n.toInt ≤ na) (hrg : ∀ j : Nat, j < n.toNatClampNeg → (rgI ta (dp.toNatClampNeg + j)).1 ≤ (rgI tb (sp.toNatClampNeg + j)).1 ∧ (rgI tb (sp.toNatClampNeg + j)).2 ≤ (rgI ta (dp.toNatClampNeg + j)).2)
    (hframes : 1 ≤ Rm.frames) (hlocals : (rest.map fun v => v.category).sum + (nativeFrameWords "java/lang/System" "arraycopy" 5 + 11) ≤ Rm.locals) (hl : inLr L ta 0 1999999 = true) (hdg : decode cc pc = .ok (.invokestatic index, 3))
    (kk : ∀ (H1 : Heap) (locs1 : List Loc) (M1 : MT), SB D cy base Z K N L LR Ma Ra M1 R J s H1 locs1 → Fr K [(ta, 0, 2000000)] M M1 → M1 = ur M a (va_cpy (M b) (M a) sp.toNatClampNeg dp.toNatClampNeg n.toNatClampNeg) → W p l e Rm s m args below meth c H1 locs1 cells slots Q (F0 m (pc + 3) ls rest)) : W p l e Rm s m args below meth c H locs cells slots Q (F0 m pc ls (.int n :: .int dp :: .ref (base + a) :: .int sp :: .ref (base + b) :: rest)) := by
  have c1 := ti_cl h1
  have c2 := ti_cl h2
  have c3 := ti_cl h3
  have hb1 := hS.2.1.2.2 a hza
  have neg : ∀ z : Int32, 0 ≤ z.toInt → ¬ z < 0 := fun z hz q => by
    have q2 : z.toInt < 0 := Int32.lt_iff_toInt_lt.mp q
    omega
  have hj : ∀ j, va_cpy (M b) (M a) sp.toNatClampNeg dp.toNatClampNeg n.toNatClampNeg j = M a j ∨ (dp.toNatClampNeg ≤ j ∧ j < dp.toNatClampNeg + n.toNatClampNeg ∧ va_cpy (M b) (M a) sp.toNatClampNeg dp.toNatClampNeg n.toNatClampNeg j = M b (sp.toNatClampNeg + (j - dp.toNatClampNeg))) := fun j => by
    unfold va_cpy
    by_cases q : dp.toNatClampNeg ≤ j ∧ j < dp.toNatClampNeg + n.toNatClampNeg
    · rw [if_pos q]
      exact Or.inr ⟨q.1, q.2, rfl⟩
    · rw [if_neg q]
      exact Or.inl rfl
  refine md_copy hexec hb hml hW hown hK hS.1 hok hza ha hta hzb hbk htb hna hnb (neg _ h1) (neg _ h2) (neg _ h3) (by omega) (by omega) rfl rfl rfl hframes hlocals hdg (fun H1 locs1 hG => kk H1 locs1 _ ⟨hG, hS.2.1.row (fun j => ?_), hS.2.2.1.row (fun j => ?_), hS.2.2.2⟩ (Fr.rf.row (fun j => ?_)) rfl)
  · rw [ha]
    rcases hj j with q | ⟨q1, q2, q⟩
    · rw [q]
      have := hS.2.1.1 a hza j
      rw [ha] at this
      exact this
    · rw [q]
      have g := hS.2.1.1 b hzb (sp.toNatClampNeg + (j - dp.toNatClampNeg))
      rw [hbk] at g
      have g2 := hrg (j - dp.toNatClampNeg) (by omega)
      rw [show dp.toNatClampNeg + (j - dp.toNatClampNeg) = j by omega] at g2
      exact ⟨Int.le_trans g2.1 g.1, Int.le_trans g.2 g2.2⟩
  · rcases hj j with q | ⟨q1, q2, q⟩
    · exact Or.inl q
    · refine Or.inr ?_
      rw [ha]
      exact inL_of hl (Nat.zero_le _) (by omega)
  · rcases hj j with q | ⟨q1, q2, q⟩
    · exact Or.inl q
    · exact Or.inr ⟨(ta, 0, 2000000), List.mem_singleton.mpr rfl, ha, Nat.zero_le _, by show j < 2000000; omega⟩
/-! calls and ends -/
theorem SB.call {L1 LR1 : WL} {M1 : MT} {R1 : RT} {J1 : JT} {H1 : Heap} {locs1 : List Loc} (hS : SB D cy base Z K N L LR Ma Ra M R J s H locs) (hG : md_G D cy base Z K N M1 R1 J1 s H1 locs1) (hT : Ty Z K N M1 R1) (f1 : Fr K L1 M M1) (f2 : Fr K LR1 R R1) (h1 : subL L1 L = true) (h2 : subL LR1 LR = true) : SB D cy base Z K N L LR Ma Ra M1 R1 J1 s H1 locs1 :=
  ⟨hG, hT, hS.2.2.1.tr (f1.sub h1), hS.2.2.2.tr (f2.sub h2)⟩
variable {mc ms : Nat} {av : Array Value} {L1 LR1 : WL}
theorem tw_goi {E : Int32 → mS → Prop} (hS : SB D cy base Z K N L LR Ma Ra M R J s H locs) (hr : va_Run p l e Rm s m args below meth c H locs cells slots mc ms (F0 m pc ls st) rest (mQi D cy tx base (fun r u => TP Z K N L1 LR1 M R u ∧ E r u) av) (fun q => base ≤ q)) (h1 : subL L1 L = true) (h2 : subL LR1 LR = true)
    (kk : ∀ (r : Int32) (H1 : Heap) (locs1 : List Loc) (M1 : MT) (R1 : RT) (J1 : JT), SB D cy base Z K N L LR Ma Ra M1 R1 J1 s H1 locs1 → Fr K L1 M M1 → Fr K LR1 R R1 → E r (Z, K, N, M1, R1, J1) → W p l e Rm s m args below meth c H1 locs1 (cells + mc) (slots + ms) Q (F0 m (pc + 3) ls (.int r :: rest))) : W p l e Rm s m args below meth c H locs cells slots Q (F0 m pc ls st) :=
  md_goi hS.1 hr (fun r u H1 locs1 hp hG => by
    obtain ⟨Z1, K1, N1, M1, R1, J1⟩ := u
    obtain ⟨⟨e1, e2, e3, hT, f1, f2⟩, hE⟩ := hp
    cases e1
    cases e2
    cases e3
    exact kk r H1 locs1 M1 R1 J1 (hS.call hG hT f1 f2 h1 h2) f1 f2 hE)
theorem tw_gol {E : Int64 → mS → Prop} (hS : SB D cy base Z K N L LR Ma Ra M R J s H locs) (hr : va_Run p l e Rm s m args below meth c H locs cells slots mc ms (F0 m pc ls st) rest (mQl D cy tx base (fun r u => TP Z K N L1 LR1 M R u ∧ E r u) av) (fun q => base ≤ q)) (h1 : subL L1 L = true) (h2 : subL LR1 LR = true)
    (kk : ∀ (r : Int64) (H1 : Heap) (locs1 : List Loc) (M1 : MT) (R1 : RT) (J1 : JT), SB D cy base Z K N L LR Ma Ra M1 R1 J1 s H1 locs1 → Fr K L1 M M1 → Fr K LR1 R R1 → E r (Z, K, N, M1, R1, J1) → W p l e Rm s m args below meth c H1 locs1 (cells + mc) (slots + ms) Q (F0 m (pc + 3) ls (.long r :: rest))) : W p l e Rm s m args below meth c H locs cells slots Q (F0 m pc ls st) :=
  md_gol hS.1 hr (fun r u H1 locs1 hp hG => by
    obtain ⟨Z1, K1, N1, M1, R1, J1⟩ := u
    obtain ⟨⟨e1, e2, e3, hT, f1, f2⟩, hE⟩ := hp
    cases e1
    cases e2
    cases e3
    exact kk r H1 locs1 M1 R1 J1 (hS.call hG hT f1 f2 h1 h2) f1 f2 hE)
theorem tw_gov {E : mS → Prop} (hS : SB D cy base Z K N L LR Ma Ra M R J s H locs) (hr : va_Run p l e Rm s m args below meth c H locs cells slots mc ms (F0 m pc ls st) rest (mQv D cy tx base (fun u => TP Z K N L1 LR1 M R u ∧ E u) av) (fun q => base ≤ q)) (h1 : subL L1 L = true) (h2 : subL LR1 LR = true)
    (kk : ∀ (H1 : Heap) (locs1 : List Loc) (M1 : MT) (R1 : RT) (J1 : JT), SB D cy base Z K N L LR Ma Ra M1 R1 J1 s H1 locs1 → Fr K L1 M M1 → Fr K LR1 R R1 → E (Z, K, N, M1, R1, J1) → W p l e Rm s m args below meth c H1 locs1 (cells + mc) (slots + ms) Q (F0 m (pc + 3) ls rest)) : W p l e Rm s m args below meth c H locs cells slots Q (F0 m pc ls st) :=
  md_gov hS.1 hr (fun u H1 locs1 hp hG => by
    obtain ⟨Z1, K1, N1, M1, R1, J1⟩ := u
    obtain ⟨⟨e1, e2, e3, hT, f1, f2⟩, hE⟩ := hp
    cases e1
    cases e2
    cases e3
    exact kk H1 locs1 M1 R1 J1 (hS.call hG hT f1 f2 h1 h2) f1 f2 hE)
theorem SB.TP (hS : SB D cy base Z K N L LR Ma Ra M R J s H locs) : TP Z K N L LR Ma Ra (Z, K, N, M, R, J) := ⟨rfl, rfl, rfl, hS.2.1, hS.2.2.1, hS.2.2.2⟩
theorem tw_endi {E : Int32 → mS → Prop} (hexec : p.tables.exec = Jvm.exec) (hb : c.code = cc) (hr : meth.sig.returnType = some .int) (hlocks : meth.locks = false) (hK : md_K D cy s) (hT : md_T tx base s) (hS : SB D cy base Z K N L LR Ma Ra M R J s H locs) (hQ : Q = MQ below (mQi D cy tx base (fun r u => TP Z K N L LR Ma Ra u ∧ E r u)) args s cells slots (fun q => base ≤ q)) {v : Int32} (hp : E v (Z, K, N, M, R, J)) (hdg : decode cc pc = .ok (.ireturn, 1)) :
    W p l e Rm s m args below meth c H locs cells slots Q (F0 m pc ls [.int v]) := by
  subst hQ
  exact md_endi hexec hb hr hlocks hK hT hS.1 ⟨hS.TP, hp⟩ hdg
theorem tw_endz {E : Int32 → mS → Prop} {ty : FieldType} (hexec : p.tables.exec = Jvm.exec) (hb : c.code = cc) (hr : meth.sig.returnType = some ty) (hlocks : meth.locks = false) (hK : md_K D cy s) (hT : md_T tx base s) (hS : SB D cy base Z K N L LR Ma Ra M R J s H locs) (hQ : Q = MQ below (mQi D cy tx base (fun r u => TP Z K N L LR Ma Ra u ∧ E r u)) args s cells slots (fun q => base ≤ q)) {v : Int32} (hn : narrow ty (.int v) = .int v) (hp : E v (Z, K, N, M, R, J)) (hdg : decode cc pc = .ok (.ireturn, 1)) :
    W p l e Rm s m args below meth c H locs cells slots Q (F0 m pc ls [.int v]) := by
  subst hQ
  exact md_endz hexec hb hr hlocks hK hT hS.1 hn ⟨hS.TP, hp⟩ hdg
theorem tw_endl {E : Int64 → mS → Prop} (hexec : p.tables.exec = Jvm.exec) (hb : c.code = cc) (hr : meth.sig.returnType = some .long) (hlocks : meth.locks = false) (hK : md_K D cy s) (hT : md_T tx base s) (hS : SB D cy base Z K N L LR Ma Ra M R J s H locs) (hQ : Q = MQ below (mQl D cy tx base (fun r u => TP Z K N L LR Ma Ra u ∧ E r u)) args s cells slots (fun q => base ≤ q)) {v : Int64} (hp : E v (Z, K, N, M, R, J)) (hdg : decode cc pc = .ok (.lreturn, 1)) :
    W p l e Rm s m args below meth c H locs cells slots Q (F0 m pc ls [.long v]) := by
  subst hQ
  exact md_endl hexec hb hr hlocks hK hT hS.1 ⟨hS.TP, hp⟩ hdg
theorem tw_endv {E : mS → Prop} (hexec : p.tables.exec = Jvm.exec) (hb : c.code = cc) (hr : meth.sig.returnType = none) (hlocks : meth.locks = false) (hK : md_K D cy s) (hT : md_T tx base s) (hS : SB D cy base Z K N L LR Ma Ra M R J s H locs) (hQ : Q = MQ below (mQv D cy tx base (fun u => TP Z K N L LR Ma Ra u ∧ E u)) args s cells slots (fun q => base ≤ q)) (hp : E (Z, K, N, M, R, J)) (hdg : decode cc pc = .ok (.return_, 1)) :
    W p l e Rm s m args below meth c H locs cells slots Q (F0 m pc ls []) := by
  subst hQ
  exact md_endv hexec hb hr hlocks hK hT hS.1 ⟨hS.TP, hp⟩ hdg
theorem nar_b {x : Int32} (h : iv 0 1 x) : narrow .boolean (.int x) = .int x := by
  have h1 : x.toInt = 0 ∨ x.toInt = 1 := by
    have := h.1
    have := h.2
    omega
  rcases h1 with h1 | h1
  · have e : x = 0 := Int32.toInt_inj.mp h1
    subst e
    rfl
  · have e : x = 1 := Int32.toInt_inj.mp h1
    subst e
    rfl
end TWR
/-- a method's body, from its entry -/
theorem tw_ofW {l : Launch} {y : MethodName} {rm : Room} {D : va_G} {cy : Nat → ClassId} {tx : (Nat → Nat) × (Nat → Nat)} {base Z : Nat} {K N : Nat → Nat} {M : MT} {R : RT} {J : JT} {L LR : WL} {av : List Value} {Qc : Array Value → State → Outcome → State → Prop} {mc ms : Nat} {cc : ByteArray} {maxL : Nat} {ret : Option FieldType} (hy : plainName y.cls = true) (hn : (lg_sl av).length ≤ maxL) (hTy : Ty Z K N M R)
    (body : ∀ (p : Program) (e : Env) (s : State) (m : MethodId) (args : Array Value) (below : List Frame) (meth : Method) (c : Code) (Q : State → Prop) (ls : Array Slot), p.tables.exec = Jvm.exec → c.code = cc → meth.sig.returnType = ret → meth.locks = false → s.vm.findClass y.cls = some m.cls → c.maxLocals = maxL → (∀ w ∈ lw_tbl, goodWord w = true → w.before args s = true) → md_K D cy s → md_T tx base s → SB D cy base Z K N L LR M R M R J s s.heap [] → Q = MQ below Qc args s mc ms (fun q => base ≤ q) → lv_has ls maxL (lv_args 0 av) → W p l e rm s m args below meth c s.heap [] 0 0 Q (F0 m 0 ls [])) :
    Met l y [Cond.code y cc maxL ret] rm (va_Pc av (md_U D cy tx base Z K N M R J)) Qc mc ms (fun q => base ≤ q) := by
  refine Met.ofW (cc := cc) (maxL := maxL) (ret := ret) hy rfl ?_
  intro p e s m args below meth c s₁ B hml hv
  have hW : ∀ w ∈ lw_tbl, goodWord w = true → w.before args s = true := fun w h g => hv.2.2.2.1.2.1 w h g _
  obtain ⟨rfl, hU⟩ := hv
  have hl := lv_entry av (n := maxL) hn
  rw [lg_entry_eq]
  exact body p e s m _ below meth c _ _ B.exec B.bytes B.returns B.notSynchronized (findClass_of_methodNamed B.named) hml hW hU.2.2.1 hU.2.2.2 (SB.start hU hTy) rfl hl
theorem md_lne {x y : Int64} {v : Int32} (ev : v = lg_cmp x y) (h : ¬ v = 0) : ¬ x = y := fun q => h (by
  rw [ev, q]
  unfold lg_cmp
  have h1 : ¬ y > y := fun q => by
    have a1 := Int64.lt_iff_toInt_lt.mp q
    omega
  rw [if_neg h1, if_pos rfl])
/-- ranges of kinds of arrays, all places alike -/
theorem rg_u14 {il ih : Int} : ∀ k : Nat, il ≤ k → (k : Int) ≤ ih → (-2147483648 : Int) ≤ (rgI 14 k).1 ∧ (rgI 14 k).2 ≤ 2147483647 := fun _ _ _ => ⟨Int.le_refl _, Int.le_refl _⟩
theorem rg_s14 {il ih lo hi : Int} (h : -2147483648 ≤ lo ∧ hi ≤ 2147483647) : ∀ k : Nat, il ≤ k → (k : Int) ≤ ih → (rgI 14 k).1 ≤ lo ∧ hi ≤ (rgI 14 k).2 := fun _ _ _ => h
theorem rg_u20 {il ih : Int} : ∀ k : Nat, il ≤ k → (k : Int) ≤ ih → (-2147483648 : Int) ≤ (rgI 20 k).1 ∧ (rgI 20 k).2 ≤ 2147483647 := fun _ _ _ => ⟨Int.le_refl _, Int.le_refl _⟩
theorem rg_s20 {il ih lo hi : Int} (h : -2147483648 ≤ lo ∧ hi ≤ 2147483647) : ∀ k : Nat, il ≤ k → (k : Int) ≤ ih → (rgI 20 k).1 ≤ lo ∧ hi ≤ (rgI 20 k).2 := fun _ _ _ => h
theorem rg_u21 {il ih : Int} : ∀ k : Nat, il ≤ k → (k : Int) ≤ ih → (0 : Int) ≤ (rgI 21 k).1 ∧ (rgI 21 k).2 ≤ 11 := fun _ _ _ => ⟨Int.le_refl _, Int.le_refl _⟩
theorem rg_s21 {il ih lo hi : Int} (h : 0 ≤ lo ∧ hi ≤ 11) : ∀ k : Nat, il ≤ k → (k : Int) ≤ ih → (rgI 21 k).1 ≤ lo ∧ hi ≤ (rgI 21 k).2 := fun _ _ _ => h
theorem rg_u22 {il ih : Int} : ∀ k : Nat, il ≤ k → (k : Int) ≤ ih → (0 : Int) ≤ (rgI 22 k).1 ∧ (rgI 22 k).2 ≤ 26 := fun _ _ _ => ⟨Int.le_refl _, Int.le_refl _⟩
theorem rg_s22 {il ih lo hi : Int} (h : 0 ≤ lo ∧ hi ≤ 26) : ∀ k : Nat, il ≤ k → (k : Int) ≤ ih → (rgI 22 k).1 ≤ lo ∧ hi ≤ (rgI 22 k).2 := fun _ _ _ => h
theorem rg_u25 {il ih : Int} : ∀ k : Nat, il ≤ k → (k : Int) ≤ ih → (-2147483648 : Int) ≤ (rgI 25 k).1 ∧ (rgI 25 k).2 ≤ 2147483647 := fun _ _ _ => ⟨Int.le_refl _, Int.le_refl _⟩
theorem rg_s25 {il ih lo hi : Int} (h : -2147483648 ≤ lo ∧ hi ≤ 2147483647) : ∀ k : Nat, il ≤ k → (k : Int) ≤ ih → (rgI 25 k).1 ≤ lo ∧ hi ≤ (rgI 25 k).2 := fun _ _ _ => h
theorem rg_u26 {il ih : Int} : ∀ k : Nat, il ≤ k → (k : Int) ≤ ih → (0 : Int) ≤ (rgI 26 k).1 ∧ (rgI 26 k).2 ≤ 400 := fun _ _ _ => ⟨Int.le_refl _, Int.le_refl _⟩
theorem rg_s26 {il ih lo hi : Int} (h : 0 ≤ lo ∧ hi ≤ 400) : ∀ k : Nat, il ≤ k → (k : Int) ≤ ih → (rgI 26 k).1 ≤ lo ∧ hi ≤ (rgI 26 k).2 := fun _ _ _ => h
theorem rg_u27 {il ih : Int} : ∀ k : Nat, il ≤ k → (k : Int) ≤ ih → (-2147483648 : Int) ≤ (rgI 27 k).1 ∧ (rgI 27 k).2 ≤ 2147483647 := fun _ _ _ => ⟨Int.le_refl _, Int.le_refl _⟩
theorem rg_s27 {il ih lo hi : Int} (h : -2147483648 ≤ lo ∧ hi ≤ 2147483647) : ∀ k : Nat, il ≤ k → (k : Int) ≤ ih → (rgI 27 k).1 ≤ lo ∧ hi ≤ (rgI 27 k).2 := fun _ _ _ => h
theorem rg_u28 {il ih : Int} : ∀ k : Nat, il ≤ k → (k : Int) ≤ ih → (0 : Int) ≤ (rgI 28 k).1 ∧ (rgI 28 k).2 ≤ 12 := fun _ _ _ => ⟨Int.le_refl _, Int.le_refl _⟩
theorem rg_s28 {il ih lo hi : Int} (h : 0 ≤ lo ∧ hi ≤ 12) : ∀ k : Nat, il ≤ k → (k : Int) ≤ ih → (rgI 28 k).1 ≤ lo ∧ hi ≤ (rgI 28 k).2 := fun _ _ _ => h
theorem rg_u29 {il ih : Int} : ∀ k : Nat, il ≤ k → (k : Int) ≤ ih → (0 : Int) ≤ (rgI 29 k).1 ∧ (rgI 29 k).2 ≤ 9999 := fun _ _ _ => ⟨Int.le_refl _, Int.le_refl _⟩
theorem rg_s29 {il ih lo hi : Int} (h : 0 ≤ lo ∧ hi ≤ 9999) : ∀ k : Nat, il ≤ k → (k : Int) ≤ ih → (rgI 29 k).1 ≤ lo ∧ hi ≤ (rgI 29 k).2 := fun _ _ _ => h
theorem rg_u30 {il ih : Int} : ∀ k : Nat, il ≤ k → (k : Int) ≤ ih → (0 : Int) ≤ (rgI 30 k).1 ∧ (rgI 30 k).2 ≤ 9999 := fun _ _ _ => ⟨Int.le_refl _, Int.le_refl _⟩
theorem rg_s30 {il ih lo hi : Int} (h : 0 ≤ lo ∧ hi ≤ 9999) : ∀ k : Nat, il ≤ k → (k : Int) ≤ ih → (rgI 30 k).1 ≤ lo ∧ hi ≤ (rgI 30 k).2 := fun _ _ _ => h
theorem rg_u31 {il ih : Int} : ∀ k : Nat, il ≤ k → (k : Int) ≤ ih → (0 : Int) ≤ (rgI 31 k).1 ∧ (rgI 31 k).2 ≤ 11 := fun _ _ _ => ⟨Int.le_refl _, Int.le_refl _⟩
theorem rg_s31 {il ih lo hi : Int} (h : 0 ≤ lo ∧ hi ≤ 11) : ∀ k : Nat, il ≤ k → (k : Int) ≤ ih → (rgI 31 k).1 ≤ lo ∧ hi ≤ (rgI 31 k).2 := fun _ _ _ => h
theorem rg_u33 {il ih : Int} : ∀ k : Nat, il ≤ k → (k : Int) ≤ ih → (0 : Int) ≤ (rgI 33 k).1 ∧ (rgI 33 k).2 ≤ 5 := fun _ _ _ => ⟨Int.le_refl _, Int.le_refl _⟩
theorem rg_s33 {il ih lo hi : Int} (h : 0 ≤ lo ∧ hi ≤ 5) : ∀ k : Nat, il ≤ k → (k : Int) ≤ ih → (rgI 33 k).1 ≤ lo ∧ hi ≤ (rgI 33 k).2 := fun _ _ _ => h
theorem rg_u35 {il ih : Int} : ∀ k : Nat, il ≤ k → (k : Int) ≤ ih → (0 : Int) ≤ (rgI 35 k).1 ∧ (rgI 35 k).2 ≤ 999 := fun _ _ _ => ⟨Int.le_refl _, Int.le_refl _⟩
theorem rg_s35 {il ih lo hi : Int} (h : 0 ≤ lo ∧ hi ≤ 999) : ∀ k : Nat, il ≤ k → (k : Int) ≤ ih → (rgI 35 k).1 ≤ lo ∧ hi ≤ (rgI 35 k).2 := fun _ _ _ => h
theorem rg_u36 {il ih : Int} : ∀ k : Nat, il ≤ k → (k : Int) ≤ ih → (0 : Int) ≤ (rgI 36 k).1 ∧ (rgI 36 k).2 ≤ 9999 := fun _ _ _ => ⟨Int.le_refl _, Int.le_refl _⟩
theorem rg_s36 {il ih lo hi : Int} (h : 0 ≤ lo ∧ hi ≤ 9999) : ∀ k : Nat, il ≤ k → (k : Int) ≤ ih → (rgI 36 k).1 ≤ lo ∧ hi ≤ (rgI 36 k).2 := fun _ _ _ => h
theorem rg_u37 {il ih : Int} : ∀ k : Nat, il ≤ k → (k : Int) ≤ ih → (0 : Int) ≤ (rgI 37 k).1 ∧ (rgI 37 k).2 ≤ 9999 := fun _ _ _ => ⟨Int.le_refl _, Int.le_refl _⟩
theorem rg_s37 {il ih lo hi : Int} (h : 0 ≤ lo ∧ hi ≤ 9999) : ∀ k : Nat, il ≤ k → (k : Int) ≤ ih → (rgI 37 k).1 ≤ lo ∧ hi ≤ (rgI 37 k).2 := fun _ _ _ => h
theorem rg_u38 {il ih : Int} : ∀ k : Nat, il ≤ k → (k : Int) ≤ ih → (0 : Int) ≤ (rgI 38 k).1 ∧ (rgI 38 k).2 ≤ 9999 := fun _ _ _ => ⟨Int.le_refl _, Int.le_refl _⟩
theorem rg_s38 {il ih lo hi : Int} (h : 0 ≤ lo ∧ hi ≤ 9999) : ∀ k : Nat, il ≤ k → (k : Int) ≤ ih → (rgI 38 k).1 ≤ lo ∧ hi ≤ (rgI 38 k).2 := fun _ _ _ => h
theorem rg_u39 {il ih : Int} : ∀ k : Nat, il ≤ k → (k : Int) ≤ ih → (-2147483648 : Int) ≤ (rgI 39 k).1 ∧ (rgI 39 k).2 ≤ 2147483647 := fun _ _ _ => ⟨Int.le_refl _, Int.le_refl _⟩
theorem rg_s39 {il ih lo hi : Int} (h : -2147483648 ≤ lo ∧ hi ≤ 2147483647) : ∀ k : Nat, il ≤ k → (k : Int) ≤ ih → (rgI 39 k).1 ≤ lo ∧ hi ≤ (rgI 39 k).2 := fun _ _ _ => h
theorem rg_u40 {il ih : Int} : ∀ k : Nat, il ≤ k → (k : Int) ≤ ih → (-2147483648 : Int) ≤ (rgI 40 k).1 ∧ (rgI 40 k).2 ≤ 2147483647 := fun _ _ _ => ⟨Int.le_refl _, Int.le_refl _⟩
theorem rg_s40 {il ih lo hi : Int} (h : -2147483648 ≤ lo ∧ hi ≤ 2147483647) : ∀ k : Nat, il ≤ k → (k : Int) ≤ ih → (rgI 40 k).1 ≤ lo ∧ hi ≤ (rgI 40 k).2 := fun _ _ _ => h
theorem rg_u41 {il ih : Int} : ∀ k : Nat, il ≤ k → (k : Int) ≤ ih → (-1 : Int) ≤ (rgI 41 k).1 ∧ (rgI 41 k).2 ≤ 27 := fun _ _ _ => ⟨Int.le_refl _, Int.le_refl _⟩
theorem rg_s41 {il ih lo hi : Int} (h : -1 ≤ lo ∧ hi ≤ 27) : ∀ k : Nat, il ≤ k → (k : Int) ≤ ih → (rgI 41 k).1 ≤ lo ∧ hi ≤ (rgI 41 k).2 := fun _ _ _ => h
theorem rg_full {t : Nat} {il ih : Int} : ∀ k : Nat, il ≤ k → (k : Int) ≤ ih → -2147483648 ≤ (rgI t k).1 ∧ (rgI t k).2 ≤ 2147483647 := fun k _ _ => rgI_f t k
theorem rg_c {t k0 : Nat} {il ih lo hi : Int} (h1 : il = (k0 : Int)) (h2 : ih = (k0 : Int)) (h : rgI t k0 = (lo, hi)) : ∀ k : Nat, il ≤ k → (k : Int) ≤ ih → lo ≤ (rgI t k).1 ∧ (rgI t k).2 ≤ hi := fun k g1 g2 => by
  have e : k = k0 := by omega
  rw [e, h]
  exact ⟨Int.le_refl _, Int.le_refl _⟩
theorem rg_cs {t k0 : Nat} {il ih lo hi a b : Int} (h1 : il = (k0 : Int)) (h2 : ih = (k0 : Int)) (h : rgI t k0 = (a, b)) (h3 : a ≤ lo ∧ hi ≤ b) : ∀ k : Nat, il ≤ k → (k : Int) ≤ ih → (rgI t k).1 ≤ lo ∧ hi ≤ (rgI t k).2 := fun k g1 g2 => by
  have e : k = k0 := by omega
  rw [e, h]
  exact h3
theorem rg_0 {t : Nat} {il ih lo hi : Int} (h : lo = 0 ∧ hi = 0) : ∀ k : Nat, il ≤ k → (k : Int) ≤ ih → (rgI t k).1 ≤ lo ∧ hi ≤ (rgI t k).2 := fun k _ _ => by
  rw [h.1, h.2]
  exact rgI_0 t k
theorem rg_sv {il ih : Int} (h : 10 ≤ il ∧ ih ≤ 19) : ∀ k : Nat, il ≤ k → (k : Int) ≤ ih → (0 : Int) ≤ (rgI 23 k).1 ∧ (rgI 23 k).2 ≤ 9999 := fun k g1 g2 => by
  have e : rgI 23 k = (0, 9999) := by
    show sdR k = (0, 9999)
    unfold sdR
    rw [if_neg (by omega), if_neg (by omega), if_neg (by omega), if_neg (by omega), if_neg (by omega), if_neg (by omega), if_pos (by omega)]
  rw [e]
  exact ⟨by decide, by decide⟩
theorem rg_svs {il ih lo hi : Int} (h : 10 ≤ il ∧ ih ≤ 19) (h3 : 0 ≤ lo ∧ hi ≤ 9999) : ∀ k : Nat, il ≤ k → (k : Int) ≤ ih → (rgI 23 k).1 ≤ lo ∧ hi ≤ (rgI 23 k).2 := fun k g1 g2 => by
  have e : rgI 23 k = (0, 9999) := by
    show sdR k = (0, 9999)
    unfold sdR
    rw [if_neg (by omega), if_neg (by omega), if_neg (by omega), if_neg (by omega), if_neg (by omega), if_neg (by omega), if_pos (by omega)]
  rw [e]
  exact h3
theorem rg_so {il ih : Int} (h : 170 ≤ il ∧ ih ≤ 177) : ∀ k : Nat, il ≤ k → (k : Int) ≤ ih → (0 : Int) ≤ (rgI 23 k).1 ∧ (rgI 23 k).2 ≤ 11 := fun k g1 g2 => by
  have e : rgI 23 k = (0, 11) := by
    show sdR k = (0, 11)
    unfold sdR
    rw [if_neg (by omega), if_neg (by omega), if_neg (by omega), if_neg (by omega), if_neg (by omega), if_neg (by omega), if_neg (by omega), if_pos (by omega)]
  rw [e]
  exact ⟨by decide, by decide⟩
theorem rg_sos {il ih lo hi : Int} (h : 170 ≤ il ∧ ih ≤ 177) (h3 : 0 ≤ lo ∧ hi ≤ 11) : ∀ k : Nat, il ≤ k → (k : Int) ≤ ih → (rgI 23 k).1 ≤ lo ∧ hi ≤ (rgI 23 k).2 := fun k g1 g2 => by
  have e : rgI 23 k = (0, 11) := by
    show sdR k = (0, 11)
    unfold sdR
    rw [if_neg (by omega), if_neg (by omega), if_neg (by omega), if_neg (by omega), if_neg (by omega), if_neg (by omega), if_neg (by omega), if_pos (by omega)]
  rw [e]
  exact h3
theorem rg_sas {il ih lo hi : Int} (h : (20 ≤ il ∧ ih ≤ 169) ∨ 178 ≤ il) (h3 : -2147483648 ≤ lo ∧ hi ≤ 2147483647) : ∀ k : Nat, il ≤ k → (k : Int) ≤ ih → (rgI 23 k).1 ≤ lo ∧ hi ≤ (rgI 23 k).2 := fun k g1 g2 => by
  have e : rgI 23 k = (-2147483648, 2147483647) := by
    show sdR k = (-2147483648, 2147483647)
    unfold sdR
    rw [if_neg (by omega), if_neg (by omega), if_neg (by omega), if_neg (by omega), if_neg (by omega), if_neg (by omega), if_neg (by omega), if_neg (by omega)]
  rw [e]
  exact h3
/-- the Hall's row is as long as it says -/
def RowOK (N : Nat → Nat) (M : MT) (R : RT) (h : Nat) : Prop := ∀ b, R h 5 = some b → (M h 7).toInt ≤ N b
theorem RowOK.to {N : Nat → Nat} {M M1 : MT} {R R1 : RT} {h : Nat} (q : RowOK N M R h) (e1 : M1 h 7 = M h 7) (e2 : R1 h 5 = R h 5) : RowOK N M1 R1 h := fun b hb => by
  rw [e1]
  exact q b (by rw [← e2]; exact hb)
theorem str_len {i : Nat} {r : Int32} (hi : i < 6) (h : r = Int32.ofNat (md_sl.getD i 0)) : iv 3 57 r := by
  subst h
  match i, hi with
  | 0, _ => exact ⟨by decide, by decide⟩
  | 1, _ => exact ⟨by decide, by decide⟩
  | 2, _ => exact ⟨by decide, by decide⟩
  | 3, _ => exact ⟨by decide, by decide⟩
  | 4, _ => exact ⟨by decide, by decide⟩
  | 5, _ => exact ⟨by decide, by decide⟩
