/-! rows that grow: helps -/
theorem pw0 {x : Int} (h : 1 ≤ x) : (2 : Int) ^ (0 : Int32).toInt.toNat ≤ x := by
  have e : (0 : Int32).toInt.toNat = 0 := by decide
  rw [e]
  omega
theorem pw1 {i x l y : Int} (h : (2 : Int) ^ i.toNat ≤ l) (h0 : 0 ≤ i) (e1 : x = i + 1) (e2 : y = l * 2) : (2 : Int) ^ x.toNat ≤ y := by
  have e : x.toNat = i.toNat + 1 := by omega
  rw [e, Int.pow_succ, e2]
  omega
theorem pw30 {i l : Int} (h : (2 : Int) ^ i.toNat ≤ l) (e : i = 30) : 1073741824 ≤ l := by
  have e2 : i.toNat = 30 := by omega
  rw [e2] at h
  omega
theorem RF.same {Z0 Z a0 : Nat} {K0 N0 K N : Nat → Nat} {Ma0 Ma M : MT} {Ra0 Ra R : RT} {J : JT} {sz : Int} (hE0 : Z = Z0 ∧ K = K0 ∧ N = N0 ∧ Ma = Ma0 ∧ Ra = Ra0) (hM : M = Ma) (hz : a0 < Z) (hs : sz ≤ (N a0 : Int)) : RF Z0 K0 N0 Ma0 a0 sz a0 (Z, K, N, M, R, J) := by
  obtain ⟨rfl, rfl, rfl, rfl, rfl⟩ := hE0
  subst hM
  exact ⟨hz, rfl, hs, fun _ _ => rfl, Or.inl ⟨rfl, rfl, rfl⟩⟩
theorem RF.new {Z0 Z Z1 a0 b t : Nat} {K0 N0 K N K1 N1 : Nat → Nat} {Ma0 Ma M Ma1 M1 M2 : MT} {Ra0 Ra R Ra1 R1 R2 : RT} {J : JT} {sz li : Int} {n : Int32} (hE0 : Z = Z0 ∧ K = K0 ∧ N = N0 ∧ Ma = Ma0 ∧ Ra = Ra0) (hM : M = Ma) (hg : GR Z K N Ma Ra Z1 K1 N1 Ma1 Ra1) (o : ∀ b, b < Z → M1 b = M b ∧ R1 b = R b) (hz : a0 < Z) (eb : b = Z) (eZ : Z1 = b + 1) (hkb : K1 b = t) (hka : K1 a0 = t) (en : (N1 b : Int) = li) (hsz : sz ≤ li) (h2 : 2 * (N1 a0 : Int) ≤ li ∧ li ≤ 2 * sz) (hn : n.toInt = (N1 a0 : Int)) (hc : M2 = ur M1 b (va_cpy (M1 a0) (M1 b) (0 : Int32).toNatClampNeg (0 : Int32).toNatClampNeg n.toNatClampNeg)) : RF Z0 K0 N0 Ma0 a0 sz b (Z1, K1, N1, M2, R2, J) := by
  obtain ⟨rfl, rfl, rfl, rfl, rfl⟩ := hE0
  subst hM
  subst eb
  have q := hg.2.1 a0 hz
  have q2 := q.2.1
  refine ⟨show b < Z1 by omega, show K1 b = K a0 by rw [hkb, ← hka, q.1], show sz ≤ (N1 b : Int) by omega, fun j hj => ?_, Or.inr ⟨rfl, eZ, show 2 * N a0 ≤ N1 b by omega, show (N1 b : Int) ≤ 2 * sz by omega⟩⟩
  show M2 b j = M a0 j
  rw [hc, ur_at]
  have hc := ti_cl (x := n) (by omega)
  unfold va_cpy
  have e0 : (0 : Int32).toNatClampNeg = 0 := by decide
  rw [e0, if_pos ⟨Nat.zero_le _, by omega⟩, (o a0 hz).1]
  exact congrArg (M a0) (by omega)
/-! bits of small sets -/
theorem shr_k {x : Int32} (k : Nat) (hk : k < 32) {y : Int32} (e : y = Int32.ofNat k) : (x >>> (y &&& 31)).toInt = x.toInt / 2 ^ k := by
  subst e
  have h : (x >>> (Int32.ofNat k &&& 31)).toInt = (x.toBitVec.sshiftRight ((Int32.ofNat k &&& 31).toBitVec.smod 32).toNat).toInt := rfl
  have h2 : ((Int32.ofNat k &&& 31).toBitVec.smod 32).toNat = k := by
    have : ∀ k : Fin 32, ((Int32.ofNat k.val &&& 31).toBitVec.smod 32).toNat = k.val := by decide +kernel
    exact this ⟨k, hk⟩
  rw [h, h2, BitVec.toInt_sshiftRight, Int.shiftRight_eq_div_pow]
  rfl
theorem small5 {m : Int32} (h : iv 0 5 m) : m = Int32.ofNat m.toInt.toNat ∧ m.toInt.toNat ≤ 5 := by
  have h1 := h.1
  have h2 := h.2
  have hk : m.toInt.toNat ≤ 5 := by omega
  refine ⟨Int32.toInt_inj.mp ?_, hk⟩
  have : ∀ k : Fin 6, (Int32.ofNat k.val).toInt = (k.val : Int) := by decide +kernel
  have q := this ⟨m.toInt.toNat, by omega⟩
  rw [q]
  show m.toInt = (m.toInt.toNat : Int)
  omega
/-- a bit that is set lies below the set's width -/
theorem bit_lt {x v w m : Int32} {g : Nat} (e1 : v = x >>> (m &&& 31)) (e2 : w = v &&& 1) (hw : w.toInt = 1) (h0 : 0 ≤ x.toInt) (h1 : x.toInt < (2 : Int) ^ g) (hm : iv 0 5 m) : m.toInt.toNat < g := by
  obtain ⟨q1, q2⟩ := small5 hm
  refine Nat.lt_of_not_le (fun hle => ?_)
  have e3 := shr_k (x := x) m.toInt.toNat (by omega) q1
  have p1 : (2 : Int) ^ g ≤ 2 ^ m.toInt.toNat := by
    have := Nat.pow_le_pow_right (n := 2) (by decide) hle
    exact_mod_cast this
  have e4 : x.toInt / 2 ^ m.toInt.toNat = 0 := Int.ediv_eq_zero_of_lt h0 (by omega)
  have e5 : v = 0 := Int32.toInt_inj.mp (by rw [e1, e3, e4]; rfl)
  have e6 : w = 0 := by
    rw [e2, e5]
    rfl
  rw [e6] at hw
  exact absurd hw (by decide)
theorem small15 {m : Int32} (h : iv 1 5 m) : m = 1 ∨ m = 2 ∨ m = 3 ∨ m = 4 ∨ m = 5 := by
  have h1 := h.1
  have h2 := h.2
  rcases (show m.toInt = 1 ∨ m.toInt = 2 ∨ m.toInt = 3 ∨ m.toInt = 4 ∨ m.toInt = 5 by omega) with q | q | q | q | q
  · exact Or.inl (Int32.toInt_inj.mp q)
  · exact Or.inr (Or.inl (Int32.toInt_inj.mp q))
  · exact Or.inr (Or.inr (Or.inl (Int32.toInt_inj.mp q)))
  · exact Or.inr (Or.inr (Or.inr (Or.inl (Int32.toInt_inj.mp q))))
  · exact Or.inr (Or.inr (Or.inr (Or.inr (Int32.toInt_inj.mp q))))
theorem shl_w {m v : Int32} (h : iv 1 5 m) (e : v = 1 <<< (m &&& 31)) : v.toInt = (2 : Int) ^ m.toInt.toNat ∧ iv 2 32 v := by
  subst e
  rcases small15 h with rfl | rfl | rfl | rfl | rfl
  · exact ⟨by decide +kernel, by decide +kernel, by decide +kernel⟩
  · exact ⟨by decide +kernel, by decide +kernel, by decide +kernel⟩
  · exact ⟨by decide +kernel, by decide +kernel, by decide +kernel⟩
  · exact ⟨by decide +kernel, by decide +kernel, by decide +kernel⟩
  · exact ⟨by decide +kernel, by decide +kernel, by decide +kernel⟩
theorem mask_all {mem v1 v2 : Int32} (h : iv 1 5 mem) (e1 : v1 = 1 <<< (mem &&& 31)) (e2 : v2 = v1 - 1) (m : Int32) (h0 : 0 ≤ m.toInt) (hl : m.toInt < mem.toInt) : (v2 >>> (m &&& 31)) &&& 1 = 1 := by
  subst e2
  subst e1
  have hm : iv 0 5 m := ⟨h0, by have := h.2; omega⟩
  obtain ⟨q1, q2⟩ := small5 hm
  have hn : m.toInt.toNat < mem.toInt.toNat := by omega
  rw [q1]
  generalize m.toInt.toNat = j at hn q2 ⊢
  rcases small15 h with rfl | rfl | rfl | rfl | rfl
  · have : ∀ j : Fin 1, ((((1 : Int32) <<< ((1 : Int32) &&& 31)) - 1) >>> (Int32.ofNat j.val &&& 31)) &&& 1 = 1 := by decide +kernel
    exact this ⟨j, hn⟩
  · have : ∀ j : Fin 2, ((((1 : Int32) <<< ((2 : Int32) &&& 31)) - 1) >>> (Int32.ofNat j.val &&& 31)) &&& 1 = 1 := by decide +kernel
    exact this ⟨j, hn⟩
  · have : ∀ j : Fin 3, ((((1 : Int32) <<< ((3 : Int32) &&& 31)) - 1) >>> (Int32.ofNat j.val &&& 31)) &&& 1 = 1 := by decide +kernel
    exact this ⟨j, hn⟩
  · have : ∀ j : Fin 4, ((((1 : Int32) <<< ((4 : Int32) &&& 31)) - 1) >>> (Int32.ofNat j.val &&& 31)) &&& 1 = 1 := by decide +kernel
    exact this ⟨j, hn⟩
  · have : ∀ j : Fin 5, ((((1 : Int32) <<< ((5 : Int32) &&& 31)) - 1) >>> (Int32.ofNat j.val &&& 31)) &&& 1 = 1 := by decide +kernel
    exact this ⟨j, hn⟩
/-- the sum of a row's first n -/
def vsum (M : MT) (h : Nat) : Nat → Int
  | 0 => 0
  | n + 1 => vsum M h n + (M h n).toInt
theorem vsum_s (M : MT) (h n : Nat) : vsum M h (n + 1) = vsum M h n + (M h n).toInt := rfl
theorem vsum0 {M : MT} {h : Nat} : (0 : Int32).toInt = vsum M h (0 : Int32).toInt.toNat := by
  have e : (0 : Int32).toInt.toNat = 0 := by decide
  rw [e]
  show (0 : Int32).toInt = (0 : Int)
  decide
theorem vsum1 {M : MT} {h : Nat} {x y a b v : Int32} (w : a.toInt = vsum M h x.toInt.toNat) (h0 : 0 ≤ x.toInt) (ey : y.toInt = x.toInt + 1) (ev : M h x.toNatClampNeg = v) (eb : b.toInt = a.toInt + v.toInt) : b.toInt = vsum M h y.toInt.toNat := by
  have e : y.toInt.toNat = x.toInt.toNat + 1 := by omega
  rw [e, vsum_s, eb, w, ← ev]
  rfl
/-- a row of five that was laid down -/
theorem rsum_lay {M1 M : MT} {e h i : Nat} : ∀ {m : Nat}, (∀ j, j < m → M1 e (5 * i + j) = M h j) → rsum M1 e i m = vsum M h m
  | 0, _ => rfl
  | m + 1, q => by
    rw [rsum_s, vsum_s, rsum_lay (m := m) (fun j hj => q j (by omega)), q m (by omega)]
/-- what is ever made of one row, against what is held -/
def PG1 (b k Z : Nat) (K N : Nat → Nat) (R : RT) (Z1 : Nat) (K1 N1 : Nat → Nat) (R1 : RT) : Prop := ∃ e e1 : Nat, R b k = some e ∧ R1 b k = some e1 ∧ tot K1 N1 Z1 + 2 * N e ≤ tot K N Z + 2 * N1 e1 ∧ 64 * Z1 + N e ≤ 64 * Z + N1 e1
theorem PG1.tr {b k Z Z1 Z2 : Nat} {K N K1 N1 K2 N2 : Nat → Nat} {R R1 R2 : RT} (h1 : PG1 b k Z K N R Z1 K1 N1 R1) (h2 : PG1 b k Z1 K1 N1 R1 Z2 K2 N2 R2) : PG1 b k Z K N R Z2 K2 N2 R2 := by
  obtain ⟨e, e1, a1, a2, a3, a4⟩ := h1
  obtain ⟨e', e2, b1, b2, b3, b4⟩ := h2
  rw [a2] at b1
  cases b1
  exact ⟨e, e2, a1, b2, by omega, by omega⟩
theorem PG1.of {b k Z e : Nat} {K N : Nat → Nat} {R R1 : RT} (h : R b k = some e) (h1 : R1 b k = some e) : PG1 b k Z K N R Z K N R1 := ⟨e, e, h, h1, Nat.le_refl _, Nat.le_refl _⟩
theorem RF.pg {Z Z1 a0 r : Nat} {K N K1 N1 : Nat → Nat} {Ma Mb M M1 : MT} {Ra Rb R1 : RT} {J1 : JT} {sz : Int} (h : RF Z K N M a0 sz r (Z1, K1, N1, M1, R1, J1)) (hg : GR Z K N Ma Ra Z1 K1 N1 Mb Rb) (h64 : 64 ≤ N a0) (hk : 12 < K a0) : tot K1 N1 Z1 + 2 * N a0 ≤ tot K N Z + 2 * N1 r ∧ 64 * Z1 + N a0 ≤ 64 * Z + N1 r := by
  obtain ⟨-, h2, -, -, h5⟩ := h
  have h2 : K1 r = K a0 := h2
  have ht := hg.tot
  rcases h5 with ⟨e1, e2, e3⟩ | ⟨e1, e2, e3, -⟩
  · have e2 : Z1 = Z := e2
    have e3 : N1 r = N a0 := e3
    subst e2
    rw [ht, e3]
    exact ⟨Nat.le_refl _, Nat.le_refl _⟩
  · have e2 : Z1 = Z + 1 := e2
    have e3 : 2 * N a0 ≤ N1 r := e3
    subst e2
    subst e1
    have hc : csz (K1 r) (N1 r) = N1 r := if_neg (by omega)
    rw [tot_s, ht, hc]
    exact ⟨by omega, by omega⟩
theorem BKI.to {N N1 : Nat → Nat} {M M1 : MT} {b e m n : Nat} (h : BKI N M b e m n) (hm : m ≤ 5) (hN : N1 e = N e) (h9 : M1 b 9 = M b 9) (he : ∀ j, M1 e j = M e j) : BKI N1 M1 b e m n := ⟨by rw [hN]; exact h.1, fun i hi => by
  rw [h9, rsum_eq (M := M) (e := e) (fun j _ => he _)]
  exact h.2 i hi⟩
/-! sums of a kept row -/
theorem ends_nn {Z : Nat} {K N : Nat → Nat} {M : MT} {R : RT} (h : Ty Z K N M R) {a : Nat} (hz : a < Z) (hk : K a = 38) (j : Nat) : 0 ≤ (M a j).toInt := by
  have q := h.1 a hz j
  rw [hk] at q
  exact q.1
theorem rsum_mono {M : MT} {e i : Nat} (h : ∀ j, 0 ≤ (M e j).toInt) : ∀ {m m1 : Nat}, m ≤ m1 → rsum M e i m ≤ rsum M e i m1
  | m, 0, q => by
    have z : m = 0 := by omega
    rw [z]
    exact Int.le_refl _
  | m, m1 + 1, q => by
    by_cases z : m = m1 + 1
    · rw [z]
      exact Int.le_refl _
    · have ih := rsum_mono (M := M) (e := e) (i := i) h (m := m) (m1 := m1) (by omega)
      rw [rsum_s]
      have := h (5 * i + m1)
      omega
theorem rs0 {M : MT} {e i g : Nat} : (0 : Int32).toInt ≤ rsum M e i (min (0 : Int32).toInt.toNat g) := by
  have z : (0 : Int32).toInt.toNat = 0 := by decide
  rw [z, Nat.zero_min]
  show (0 : Int32).toInt ≤ (0 : Int)
  decide
theorem rs_skip {M : MT} {e i g : Nat} {a : Int} {x y : Int32} (h : ∀ j, 0 ≤ (M e j).toInt) (w : a ≤ rsum M e i (min x.toInt.toNat g)) (ey : y.toInt = x.toInt + 1) : a ≤ rsum M e i (min y.toInt.toNat g) :=
  Int.le_trans w (rsum_mono h (by omega))
theorem rs_add {M : MT} {e g : Nat} {x y z a b v i0 : Int32} (w : a.toInt ≤ rsum M e i0.toInt.toNat (min x.toInt.toNat g)) (hg : x.toInt.toNat < g) (h0 : 0 ≤ x.toInt ∧ 0 ≤ i0.toInt) (ey : y.toInt = x.toInt + 1) (ez : z.toInt = 5 * i0.toInt + x.toInt) (ev : M e z.toNatClampNeg = v) (eb : b.toInt = a.toInt + v.toInt) : b.toInt ≤ rsum M e i0.toInt.toNat (min y.toInt.toNat g) := by
  have e1 : min y.toInt.toNat g = x.toInt.toNat + 1 := by omega
  have e2 : min x.toInt.toNat g = x.toInt.toNat := by omega
  rw [e2] at w
  have e3 : z.toNatClampNeg = 5 * i0.toInt.toNat + x.toInt.toNat := by
    have := ti_cl (x := z) (by omega)
    omega
  rw [e1, rsum_s, ← e3, ev, eb]
  omega
theorem rs_end {M : MT} {e i g : Nat} {a : Int} {x : Int32} (w : a ≤ rsum M e i (min x.toInt.toNat g)) (hx : x.toInt = 5) (hg : g ≤ 5) : a ≤ rsum M e i g := by
  rw [show min x.toInt.toNat g = g by omega] at w
  exact w
/-- the sums that are laid down lie within the table -/
def SUB (M : MT) (u : Nat) (hi : Int) (n : Nat) : Prop := ∀ j, j < n → 0 ≤ (M u j).toInt ∧ (M u j).toInt ≤ hi
theorem SUB.z {M : MT} {u : Nat} {hi : Int} : SUB M u hi (0 : Int32).toInt.toNat := fun j hj => absurd hj (by
  have z : (0 : Int32).toInt.toNat = 0 := by decide
  rw [z]
  omega)
theorem SUB.add {M M1 M2 : MT} {u : Nat} {hi : Int} {x y v : Int32} (h : SUB M u hi x.toInt.toNat) (h0 : 0 ≤ x.toInt) (ey : y.toInt = x.toInt + 1) (e1 : M1 = u2 M u x.toNatClampNeg v) (hv : 0 ≤ v.toInt ∧ v.toInt ≤ hi) (e2 : ∀ j, M2 u j = M1 u j) : SUB M2 u hi y.toInt.toNat := fun j hj => by
  rw [e2 j, e1]
  unfold u2
  rw [if_pos rfl]
  have hc : x.toNatClampNeg = x.toInt.toNat := rfl
  by_cases q : j = x.toNatClampNeg
  · rw [if_pos q]
    exact hv
  · rw [if_neg q]
    exact h j (by omega)
theorem SUB.to {M M1 : MT} {u : Nat} {hi : Int} {n n1 : Nat} (h : SUB M u hi n) (hn : n1 ≤ n) (e : ∀ j, M1 u j = M u j) : SUB M1 u hi n1 := fun j hj => by
  rw [e j]
  exact h j (by omega)
