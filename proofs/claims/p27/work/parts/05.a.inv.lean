/-! the typed heap: what each kind of cell may hold; frames by lists of what may be written -/
def sdR (k : Nat) : Int × Int := if k = 0 then (0, 10) else if k = 1 then (0, 12) else if k = 4 then (0, 8) else if k = 5 then (0, 12) else if k = 6 then (0, 2147483647) else if k = 8 then (0, 9999) else if 10 ≤ k ∧ k < 20 then (0, 9999) else if 170 ≤ k ∧ k < 178 then (0, 11) else (-2147483648, 2147483647)
def rgI (kd k : Nat) : Int × Int := match kd with
  | 1 => (match k with
    | 9 => (0, 49995)
    | 10 => (0, 7776)
    | _ => (-2147483648, 2147483647))
  | 2 => (match k with
    | 5 => (0, 6)
    | 6 => (0, 9)
    | _ => (-2147483648, 2147483647))
  | 3 => (match k with
    | 1 => (0, 400)
    | 2 => (0, 1000)
    | 4 => (0, 1000)
    | _ => (-2147483648, 2147483647))
  | 5 => (match k with
    | 6 => (0, 4)
    | _ => (-2147483648, 2147483647))
  | 6 => (match k with
    | 2 => (0, 11)
    | 6 => (0, 8)
    | 7 => (0, 8)
    | 8 => (0, 1)
    | _ => (-2147483648, 2147483647))
  | 7 => (match k with
    | 12 => (0, 27)
    | 13 => (-1, 3)
    | _ => (-2147483648, 2147483647))
  | 9 => (match k with
    | 1 => (0, 400)
    | 2 => (0, 1000)
    | 4 => (0, 1000)
    | 6 => (0, 400)
    | _ => (-2147483648, 2147483647))
  | 10 => (match k with
    | 0 => (-2147483648, 10)
    | 1 => (0, 12)
    | 5 => (0, 9999)
    | 6 => (0, 2147483647)
    | 7 => (0, 8)
    | 8 => (0, 12)
    | _ => (-2147483648, 2147483647))
  | 11 => (match k with
    | 1 => (0, 400)
    | 6 => (0, 6)
    | _ => (-2147483648, 2147483647))
  | 12 => (match k with
    | 1 => (0, 400)
    | 2 => (0, 6)
    | 7 => (0, 10)
    | 8 => (0, 12)
    | 13 => (0, 400)
    | 16 => (0, 6)
    | 17 => (0, 60)
    | 19 => (0, 16)
    | 21 => (0, 400)
    | 23 => (0, 64)
    | 30 => (0, 8)
    | _ => (-2147483648, 2147483647))
  | 16 => (0, 1)
  | 21 => (0, 11)
  | 22 => (0, 26)
  | 26 => (0, 400)
  | 28 => (0, 12)
  | 29 => (0, 9999)
  | 30 => (0, 9999)
  | 31 => (0, 11)
  | 33 => (0, 5)
  | 35 => (0, 999)
  | 36 => (0, 9999)
  | 37 => (0, 9999)
  | 38 => (0, 9999)
  | 41 => (-1, 27)
  | 23 => sdR k
  | 24 => sdR (k % 226)
  | _ => (-2147483648, 2147483647)
def rtR (kd k : Nat) : Nat × Nat × Nat := match kd with
  | 1 => (match k with
    | 0 => (10, 0, 0)
    | 1 => (6, 0, 0)
    | 2 => (37, 10, 0)
    | 3 => (29, 10, 0)
    | 4 => (14, 10, 0)
    | 5 => (14, 10, 0)
    | 6 => (38, 0, 0)
    | 7 => (39, 0, 0)
    | 8 => (40, 0, 0)
    | _ => (0, 0, 1))
  | 2 => (match k with
    | 0 => (10, 0, 0)
    | 1 => (6, 0, 0)
    | 2 => (19, 7, 0)
    | 3 => (21, 6, 0)
    | 4 => (21, 6, 0)
    | _ => (0, 0, 1))
  | 3 => (match k with
    | 0 => (13, 400, 1)
    | 5 => (10, 0, 0)
    | _ => (0, 0, 1))
  | 4 => (match k with
    | 0 => (10, 0, 0)
    | 1 => (6, 0, 0)
    | 2 => (20, 10, 0)
    | 3 => (14, 3010, 0)
    | 4 => (14, 10, 0)
    | _ => (0, 0, 1))
  | 5 => (match k with
    | 0 => (10, 0, 0)
    | 1 => (6, 0, 0)
    | 2 => (19, 5, 0)
    | 3 => (14, 4, 0)
    | _ => (0, 0, 1))
  | 6 => (match k with
    | 0 => (10, 0, 0)
    | 1 => (17, 6, 0)
    | 4 => (20, 10, 0)
    | 5 => (21, 0, 0)
    | _ => (0, 0, 1))
  | 7 => (match k with
    | 0 => (10, 0, 0)
    | 1 => (6, 0, 0)
    | 2 => (19, 4, 0)
    | 3 => (14, 27, 0)
    | 4 => (14, 27, 0)
    | 5 => (14, 108, 0)
    | 6 => (22, 4, 0)
    | 7 => (22, 4, 0)
    | 8 => (15, 6144, 0)
    | 9 => (14, 2048, 0)
    | _ => (0, 0, 1))
  | 8 => (match k with
    | 0 => (14, 0, 0)
    | 1 => (15, 8, 0)
    | _ => (0, 0, 1))
  | 9 => (match k with
    | 0 => (13, 400, 1)
    | 5 => (14, 400, 0)
    | _ => (0, 0, 1))
  | 10 => (match k with
    | 9 => (14, 120, 0)
    | 10 => (20, 10, 0)
    | 11 => (14, 10, 0)
    | 12 => (14, 10, 0)
    | 13 => (14, 10, 0)
    | 14 => (21, 8, 0)
    | 15 => (14, 48, 0)
    | _ => (0, 0, 1))
  | 11 => (match k with
    | 0 => (13, 400, 0)
    | 2 => (14, 2, 0)
    | 3 => (10, 0, 0)
    | 4 => (18, 4, 0)
    | 5 => (17, 6, 0)
    | 7 => (3, 0, 0)
    | 8 => (9, 0, 0)
    | 9 => (6, 0, 0)
    | 10 => (4, 0, 0)
    | 11 => (7, 0, 0)
    | 12 => (5, 0, 0)
    | 13 => (2, 0, 0)
    | 14 => (1, 0, 0)
    | _ => (0, 0, 1))
  | 12 => (match k with
    | 0 => (13, 400, 0)
    | 3 => (25, 2400, 0)
    | 4 => (26, 7, 0)
    | 5 => (27, 216, 0)
    | 6 => (28, 6, 0)
    | 10 => (14, 120, 0)
    | 11 => (35, 10, 0)
    | 12 => (14, 10, 0)
    | 20 => (14, 400, 0)
    | 22 => (15, 64, 0)
    | 24 => (15, 10, 0)
    | 25 => (23, 226, 0)
    | 26 => (14, 2, 0)
    | 27 => (30, 10, 0)
    | 29 => (31, 8, 0)
    | 33 => (14, 10, 0)
    | 34 => (14, 10, 0)
    | 37 => (36, 60, 0)
    | 38 => (41, 5, 0)
    | 39 => (14, 6, 0)
    | 40 => (14, 5, 0)
    | 41 => (14, 5, 0)
    | 42 => (14, 5, 0)
    | 44 => (14, 6561, 0)
    | 45 => (14, 6561, 0)
    | 46 => (14, 6, 0)
    | 47 => (33, 6, 0)
    | 48 => (14, 3010, 0)
    | 49 => (14, 3010, 0)
    | 50 => (14, 301, 0)
    | 51 => (14, 10, 0)
    | 52 => (14, 50001, 0)
    | 53 => (24, 904, 0)
    | 54 => (16, 4, 0)
    | _ => (0, 0, 1))
  | 17 => (8, 0, 1)
  | 18 => (10, 0, 1)
  | 19 => (20, 10, 2)
  | _ => (0, 0, 1)

def okI (kd k : Nat) (v : Int32) : Prop := (rgI kd k).1 ≤ v.toInt ∧ v.toInt ≤ (rgI kd k).2
def okR (Z : Nat) (K N : Nat → Nat) (na kd k : Nat) (r : Option Nat) : Prop := match r with
  | none => (rtR kd k).2.2 = 1 ∨ ((rtR kd k).2.2 = 2 ∧ na ≤ k)
  | some b => b < Z ∧ K b = (rtR kd k).1 ∧ ((rtR kd k).2.1 ≠ 0 → N b = (rtR kd k).2.1)
theorem i32_lo (v : Int32) : -2147483648 ≤ v.toInt := by
  have := Int32.minValue_le_toInt v
  exact this
theorem i32_hi (v : Int32) : v.toInt ≤ 2147483647 := by
  have := Int32.toInt_le v
  exact this
theorem okI_any {kd k : Nat} {v : Int32} (h : rgI kd k = (-2147483648, 2147483647)) : okI kd k v := by
  unfold okI
  rw [h]
  exact ⟨i32_lo v, i32_hi v⟩
theorem sdR_0 (k : Nat) : (sdR k).1 ≤ 0 ∧ 0 ≤ (sdR k).2 := by
  unfold sdR
  split
  · decide
  split
  · decide
  split
  · decide
  split
  · decide
  split
  · decide
  split
  · decide
  split
  · decide
  split
  · decide
  · decide
theorem rgI_0 (kd k : Nat) : (rgI kd k).1 ≤ 0 ∧ 0 ≤ (rgI kd k).2 := by
  unfold rgI
  split <;> first | decide | exact sdR_0 _ | (split <;> decide)
theorem sdR_f (k : Nat) : -2147483648 ≤ (sdR k).1 ∧ (sdR k).2 ≤ 2147483647 := by
  unfold sdR
  repeat' split
  all_goals decide
theorem rgI_f (kd k : Nat) : -2147483648 ≤ (rgI kd k).1 ∧ (rgI kd k).2 ≤ 2147483647 := by
  unfold rgI
  split <;> first | decide | exact sdR_f _ | (split <;> decide)
theorem okI_0 (kd k : Nat) : okI kd k 0 := rgI_0 kd k
/-- who may be written: (kind, slots lo ..< hi) -/
abbrev WL : Type := List (Nat × Nat × Nat)
def inL (L : WL) (kd k : Nat) : Prop := ∃ e ∈ L, kd = e.1 ∧ e.2.1 ≤ k ∧ k < e.2.2
def Fr {α : Type} (K : Nat → Nat) (L : WL) (M M1 : Nat → Nat → α) : Prop := ∀ b k, ¬ inL L (K b) k → M1 b k = M b k
theorem Fr.rf {α : Type} {K : Nat → Nat} {L : WL} {M : Nat → Nat → α} : Fr K L M M := fun _ _ _ => rfl
theorem Fr.tr {α : Type} {K : Nat → Nat} {L : WL} {M M1 M2 : Nat → Nat → α} (h1 : Fr K L M M1) (h2 : Fr K L M1 M2) : Fr K L M M2 := fun b k h => (h2 b k h).trans (h1 b k h)
theorem inL.mono {L L2 : WL} (h : ∀ e ∈ L, e ∈ L2) {kd k : Nat} (q : inL L kd k) : inL L2 kd k := by
  obtain ⟨e, he, q⟩ := q
  exact ⟨e, h e he, q⟩
theorem Fr.mono {α : Type} {K : Nat → Nat} {L L2 : WL} {M M1 : Nat → Nat → α} (hl : ∀ e ∈ L, e ∈ L2) (h : Fr K L M M1) : Fr K L2 M M1 := fun b k hn => h b k (fun q => hn (q.mono hl))
theorem Fr.put {α : Type} {K : Nat → Nat} {L : WL} {M M1 : Nat → Nat → α} {a k : Nat} {v : α} (h : Fr K L M M1) (hl : inL L (K a) k) : Fr K L M (u2 M1 a k v) := fun b j hn => by
  unfold u2
  by_cases e : b = a
  · rw [if_pos e]
    by_cases e2 : j = k
    · subst e
      subst e2
      exact absurd hl hn
    · rw [if_neg e2]
      exact h b j hn
  · rw [if_neg e]
    exact h b j hn
theorem Fr.row {α : Type} {K : Nat → Nat} {L : WL} {M M1 : Nat → Nat → α} {a : Nat} {g : Nat → α} (h : Fr K L M M1) (hl : ∀ j, g j = M1 a j ∨ inL L (K a) j) : Fr K L M (ur M1 a g) := fun b j hn => by
  unfold ur
  by_cases e : b = a
  · subst e
    rw [if_pos rfl]
    rcases hl j with q | q
    · rw [q]
      exact h b j hn
    · exact absurd q hn
  · rw [if_neg e]
    exact h b j hn
def Ty (Z : Nat) (K N : Nat → Nat) (M : Nat → Nat → Int32) (R : Nat → Nat → Option Nat) : Prop := (∀ a, a < Z → ∀ k, okI (K a) k (M a k)) ∧ (∀ a, a < Z → ∀ k, okR Z K N (N a) (K a) k (R a k)) ∧ (∀ a, a < Z → N a ≤ 1048576)
theorem Ty.puti {Z : Nat} {K N : Nat → Nat} {M : Nat → Nat → Int32} {R : Nat → Nat → Option Nat} (h : Ty Z K N M R) {a k : Nat} {v : Int32} (hv : okI (K a) k v) : Ty Z K N (u2 M a k v) R := ⟨fun b hb j => by
  unfold u2
  by_cases e : b = a
  · rw [if_pos e]
    by_cases e2 : j = k
    · subst e
      subst e2
      rw [if_pos rfl]
      exact hv
    · rw [if_neg e2]
      exact h.1 b hb j
  · rw [if_neg e]
    exact h.1 b hb j, h.2⟩
theorem Ty.putr {Z : Nat} {K N : Nat → Nat} {M : Nat → Nat → Int32} {R : Nat → Nat → Option Nat} (h : Ty Z K N M R) {a k : Nat} {v : Option Nat} (hv : okR Z K N (N a) (K a) k v) : Ty Z K N M (u2 R a k v) := ⟨h.1, fun b hb j => by
  unfold u2
  by_cases e : b = a
  · rw [if_pos e]
    by_cases e2 : j = k
    · subst e
      subst e2
      rw [if_pos rfl]
      exact hv
    · rw [if_neg e2]
      exact h.2.1 b hb j
  · rw [if_neg e]
    exact h.2.1 b hb j, h.2.2⟩
theorem Ty.row {Z : Nat} {K N : Nat → Nat} {M : Nat → Nat → Int32} {R : Nat → Nat → Option Nat} (h : Ty Z K N M R) {a : Nat} {g : Nat → Int32} (hv : ∀ j, okI (K a) j (g j)) : Ty Z K N (ur M a g) R := ⟨fun b hb j => by
  unfold ur
  by_cases e : b = a
  · subst e
    rw [if_pos rfl]
    exact hv j
  · rw [if_neg e]
    exact h.1 b hb j, h.2⟩
theorem Ty.int {Z : Nat} {K N : Nat → Nat} {M : Nat → Nat → Int32} {R : Nat → Nat → Option Nat} (h : Ty Z K N M R) {a kd k : Nat} {lo hi : Int} (hz : a < Z) (hk : K a = kd) (hr : rgI kd k = (lo, hi)) : lo ≤ (M a k).toInt ∧ (M a k).toInt ≤ hi := by
  have q := h.1 a hz k
  unfold okI at q
  rw [hk, hr] at q
  exact q
theorem Ty.ref {Z : Nat} {K N : Nat → Nat} {M : Nat → Nat → Int32} {R : Nat → Nat → Option Nat} (h : Ty Z K N M R) {a kd k t n : Nat} (hz : a < Z) (hk : K a = kd) (hr : rtR kd k = (t, n, 0)) : ∃ b, R a k = some b ∧ b < Z ∧ K b = t ∧ (n ≠ 0 → N b = n) := by
  have q := h.2.1 a hz k
  unfold okR at q
  rw [hk] at q
  cases hb : R a k with
  | none =>
    rw [hb] at q
    rw [hr] at q
    rcases q with q | q
    · exact absurd (show (0 : Nat) = 1 from q) (by decide)
    · exact absurd (show (0 : Nat) = 2 from q.1) (by decide)
  | some b =>
    rw [hb] at q
    simp only [hr] at q
    exact ⟨b, rfl, q⟩
theorem Ty.refn {Z : Nat} {K N : Nat → Nat} {M : Nat → Nat → Int32} {R : Nat → Nat → Option Nat} (h : Ty Z K N M R) {a kd k t n o b : Nat} (hz : a < Z) (hk : K a = kd) (hr : rtR kd k = (t, n, o)) (hb : R a k = some b) : b < Z ∧ K b = t ∧ (n ≠ 0 → N b = n) := by
  have q := h.2.1 a hz k
  unfold okR at q
  rw [hk, hb] at q
  simp only [hr] at q
  exact q
/-! ints by toInt -/
theorem ti_add {x y : Int32} (h1 : -2147483648 ≤ x.toInt + y.toInt) (h2 : x.toInt + y.toInt ≤ 2147483647) : (x + y).toInt = x.toInt + y.toInt := by
  rw [Int32.toInt_add]
  exact Int.bmod_eq_of_le (by omega) (by omega)
theorem ti_sub {x y : Int32} (h1 : -2147483648 ≤ x.toInt - y.toInt) (h2 : x.toInt - y.toInt ≤ 2147483647) : (x - y).toInt = x.toInt - y.toInt := by
  rw [Int32.toInt_sub]
  exact Int.bmod_eq_of_le (by omega) (by omega)
theorem ti_mul {x y : Int32} (h1 : -2147483648 ≤ x.toInt * y.toInt) (h2 : x.toInt * y.toInt ≤ 2147483647) : (x * y).toInt = x.toInt * y.toInt := by
  rw [Int32.toInt_mul]
  exact Int.bmod_eq_of_le (by omega) (by omega)
theorem ti_in {x : Int32} {n : Nat} (h1 : 0 ≤ x.toInt) (h2 : x.toInt < n) : vp_in x n := vp_in_iff.mpr ⟨h1, h2⟩
theorem ti_cl {x : Int32} (h : 0 ≤ x.toInt) : (x.toNatClampNeg : Int) = x.toInt := by
  show ((x.toInt.toNat : Nat) : Int) = x.toInt
  omega
theorem ti_eq {x y : Int32} (h : x = y) : x.toInt = y.toInt := by rw [h]
theorem ti_ne {x y : Int32} (h : ¬ x = y) : ¬ x.toInt = y.toInt := fun q => h (Int32.toInt_inj.mp q)
theorem ti_lt {x y : Int32} (h : x < y) : x.toInt < y.toInt := Int32.lt_iff_toInt_lt.mp h
theorem ti_nlt {x y : Int32} (h : ¬ x < y) : y.toInt ≤ x.toInt := Int.not_lt.mp (fun q => h (Int32.lt_iff_toInt_lt.mpr q))
theorem ti_le {x y : Int32} (h : x ≤ y) : x.toInt ≤ y.toInt := Int32.le_iff_toInt_le.mp h
theorem ti_nle {x y : Int32} (h : ¬ x ≤ y) : y.toInt < x.toInt := Int.not_le.mp (fun q => h (Int32.le_iff_toInt_le.mpr q))
