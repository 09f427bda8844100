theorem nbo_mono {M : MT} {op : Nat} : ∀ n m, m ≤ n → nbo M op m ≤ nbo M op n
  | 0, m, h => by
    have : m = 0 := by omega
    subst this
    exact Nat.le_refl _
  | n + 1, m, h => by
    by_cases q : m = n + 1
    · subst q
      exact Nat.le_refl _
    · have := nbo_mono (M := M) (op := op) n m (by omega)
      rw [nbo_s]
      omega
def CI (M : MT) (sg cl T n : Nat) (len : Int) : Prop := ∀ k, k < n → (M cl (36 * T + 3 * k + 1)).toInt < 0 ∨ ((M cl (36 * T + 3 * k + 1)).toInt ≤ (M cl (36 * T + 3 * k + 2)).toInt ∧ (M cl (36 * T + 3 * k + 2)).toInt ≤ len ∧ SEG M sg T (M cl (36 * T + 3 * k + 1)).toNatClampNeg (M cl (36 * T + 3 * k + 2)).toNatClampNeg 1)
theorem CI.none {M : MT} {sg cl T : Nat} {len : Int} : CI M sg cl T 0 len := fun k h => absurd h (Nat.not_lt_zero k)
theorem CI.to {M M1 : MT} {sg cl T n : Nat} {len len2 : Int} (q : CI M sg cl T n len) (h1 : ∀ j, j < 36 * T + 3 * n → M1 cl j = M cl j) (h2 : ∀ j : Nat, (j : Int) < 400 * T + len → M1 sg j = M sg j) (h3 : len ≤ len2) : CI M1 sg cl T n len2 := fun k hk => by
  rw [h1 _ (by omega), h1 _ (by omega)]
  by_cases z : (M cl (36 * T + 3 * k + 1)).toInt < 0
  · exact Or.inl z
  · obtain ⟨a, b, e⟩ := (q k hk).resolve_left z
    have g : ((M cl (36 * T + 3 * k + 2)).toNatClampNeg : Int) = (M cl (36 * T + 3 * k + 2)).toInt := ti_cl (by omega)
    exact Or.inr ⟨a, Int.le_trans b h3, e.to (fun j _ h5 => h2 j (by omega))⟩
theorem CI.ext {M : MT} {sg cl T n : Nat} {len : Int} (q : CI M sg cl T n len) (h : (M cl (36 * T + 3 * n + 1)).toInt < 0 ∨ ((M cl (36 * T + 3 * n + 1)).toInt ≤ (M cl (36 * T + 3 * n + 2)).toInt ∧ (M cl (36 * T + 3 * n + 2)).toInt ≤ len ∧ SEG M sg T (M cl (36 * T + 3 * n + 1)).toNatClampNeg (M cl (36 * T + 3 * n + 2)).toNatClampNeg 1)) : CI M sg cl T (n + 1) len := fun k hk => by
  by_cases e : k = n
  · subst e
    exact h
  · exact q k (by omega)
theorem Codes.low {M M1 : MT} {R R1 : RT} {a sg cl cs T : Nat} (h : Codes M R a) (r1 : R a 3 = some sg) (r2 : R a 5 = some cl) (r3 : R a 6 = some cs) (e1 : R1 a 3 = some sg) (e2 : R1 a 5 = some cl) (e3 : R1 a 6 = some cs) (hT : (M a 2).toInt ≤ (T : Int)) (h2 : M1 a 2 = M a 2) (hb : ∀ t, (M cs t).toInt ≤ 12) (f1 : ∀ j, j < 400 * T → M1 sg j = M sg j) (f2 : ∀ j, j < 36 * T → M1 cl j = M cl j) (f3 : ∀ j, j ≠ T → M1 cs j = M cs j) : Codes M1 R1 a := by
  intro sg1 cl1 cs1 q1 q2 q3 t k ht hk
  rw [e1] at q1
  rw [e2] at q2
  rw [e3] at q3
  cases q1
  cases q2
  cases q3
  rw [h2] at ht
  have htT : t < T := by omega
  rw [f3 t (by omega)] at hk
  have hk12 := hb t
  rw [f2 _ (by omega), f2 _ (by omega)]
  by_cases z : (M cl (36 * t + 3 * k + 1)).toInt < 0
  · exact Or.inl z
  · obtain ⟨x, y, w⟩ := (h sg cl cs r1 r2 r3 t k ht hk).resolve_left z
    have g : ((M cl (36 * t + 3 * k + 2)).toNatClampNeg : Int) = (M cl (36 * t + 3 * k + 2)).toInt := ti_cl (by omega)
    exact Or.inr ⟨x, y, w.to (fun j _ h5 => f1 j (by omega))⟩
theorem Codes.add {M M1 : MT} {R R1 : RT} {a sg cl cs T : Nat} (h : Codes M R a) (r1 : R a 3 = some sg) (r2 : R a 5 = some cl) (r3 : R a 6 = some cs) (e1 : R1 a 3 = some sg) (e2 : R1 a 5 = some cl) (e3 : R1 a 6 = some cs) (hT : (M a 2).toInt = (T : Int)) (h2 : (M1 a 2).toInt = (T : Int) + 1) (f1 : ∀ j, M1 sg j = M sg j) (f2 : ∀ j, M1 cl j = M cl j) (f3 : ∀ j, M1 cs j = M cs j) {n : Nat} {len : Int} (hn : (M cs T).toInt ≤ (n : Int)) (hl : len ≤ 400) (q : CI M sg cl T n len) : Codes M1 R1 a := by
  intro sg1 cl1 cs1 q1 q2 q3 t k ht hk
  rw [e1] at q1
  rw [e2] at q2
  rw [e3] at q3
  cases q1
  cases q2
  cases q3
  rw [f3] at hk
  rw [f2, f2]
  by_cases z : (M cl (36 * t + 3 * k + 1)).toInt < 0
  · exact Or.inl z
  · by_cases e : t = T
    · subst e
      obtain ⟨x, y, w⟩ := (q k (by omega)).resolve_left z
      exact Or.inr ⟨x, Int.le_trans y hl, w.to (fun j _ _ => f1 j)⟩
    · obtain ⟨x, y, w⟩ := (h sg cl cs r1 r2 r3 t k (by omega) hk).resolve_left z
      exact Or.inr ⟨x, y, w.to (fun j _ _ => f1 j)⟩
theorem Codes.fr2 {K : Nat → Nat} {L : WL} {M M1 : MT} {R : RT} {a sg cl cs : Nat} (h : Codes M R a) (r1 : R a 3 = some sg) (r2 : R a 5 = some cl) (r3 : R a 6 = some cs) (k1 : K sg = 25) (k2 : K cl = 27) (k3 : K cs = 28) (ha : K a = 12) (f : Fr K L M M1) (h1 : (L.all (fun e => !(25 == e.1)) && (L.all (fun e => !(27 == e.1)) && (L.all (fun e => !(28 == e.1)) && outL L 12 2))) = true) : Codes M1 R a := by
  simp only [Bool.and_eq_true] at h1
  obtain ⟨o1, o2, o3, o4⟩ := h1
  intro sg1 cl1 cs1 q1 q2 q3 t k ht hk
  rw [r1] at q1
  rw [r2] at q2
  rw [r3] at q3
  cases q1
  cases q2
  cases q3
  rw [f.kp ha o4] at ht
  rw [f.kpa k3 o3] at hk
  rw [f.kpa k2 o2, f.kpa k2 o2]
  rcases h sg cl cs r1 r2 r3 t k ht hk with q | ⟨q1, q2, q3⟩
  · exact Or.inl q
  · exact Or.inr ⟨q1, q2, q3.to (fun j _ _ => f.kpa k1 o1 j)⟩
theorem okI_img {i j : Nat} {v : Int32} (h : okI 23 i v) (e : j % 226 = i) : okI 24 j v := by
  subst e
  exact h
theorem okI_bck {i j : Nat} {v : Int32} (h : okI 24 j v) (e : j % 226 = i) : okI 23 i v := by
  subst e
  exact h
