/-! Books: keep, search, seekTelling -/
def KP (Z : Nat) (K N : Nat → Nat) (Ra : RT) (b m n : Nat) (u : mS) : Prop := ∃ e1 : Nat, u.2.2.2.2.1 b 6 = some e1 ∧ (64 ≤ u.2.2.1 e1 ∧ u.2.2.1 e1 ≤ 80000) ∧ BKI u.2.2.1 u.2.2.2.1 b e1 m n ∧ PG1 b 6 Z K N Ra u.1 u.2.1 u.2.2.1 u.2.2.2.2.1
theorem bki_keep {N N1 : Nat → Nat} {Mo M1 M2 M3 : MT} {b en rn he m n : Nat} {hi r mx : Int} {dp : Int32} (h : BKI N Mo b en m n) (hm : m ≤ 5) (hN : 5 * (n + 1) ≤ N1 rn) (hc : ∀ j, j < N en → M1 rn j = Mo en j) (h2 : M2 = ur M1 rn (va_cpy (M1 he) (M1 rn) (0 : Int32).toNatClampNeg dp.toNatClampNeg (5 : Int32).toNatClampNeg)) (hdp : dp.toInt = 5 * n) (hne : he ≠ rn) (h3 : ∀ j, M3 rn j = M2 rn j) (h9o : (Mo b 9).toInt = hi) (h9 : (M3 b 9).toInt = mx) (hmx : hi ≤ mx ∧ r ≤ mx) (hr : vsum M2 he m = r) : BKI N1 M3 b rn m (n + 1) := by
  have e0 : (0 : Int32).toNatClampNeg = 0 := by decide
  have e5 : (5 : Int32).toNatClampNeg = 5 := by decide
  have ed : dp.toNatClampNeg = 5 * n := by
    have := ti_cl (x := dp) (by omega)
    omega
  rw [e0, e5, ed] at h2
  have hM2 : ∀ j, M2 rn j = va_cpy (M1 he) (M1 rn) 0 (5 * n) 5 j := fun j => by rw [h2, ur_at]
  refine ⟨hN, fun i hi2 => ?_⟩
  rw [h9]
  by_cases q : i = n
  · subst q
    have e : rsum M3 rn i m = vsum M2 he m := rsum_lay (fun j hj => by
      rw [h3, hM2]
      unfold va_cpy
      rw [if_pos ⟨by omega, by omega⟩, h2, ur_ne hne]
      exact congrArg (M1 he) (by omega))
    rw [e, hr]
    exact hmx.2
  · have e : rsum M3 rn i m = rsum Mo en i m := rsum_eq (fun j hj => by
      rw [h3, hM2]
      unfold va_cpy
      rw [if_neg (by omega)]
      exact hc _ (by have := h.1; omega))
    rw [e]
    have := h.2 i (by omega)
    omega
theorem KP.mk {Z0 Zo Z a0 en rn m n : Nat} {K0 N0 Ko No K N : Nat → Nat} {Ma0 Mao M : MT} {Ra0 Rao R : RT} {J : JT} (hE0 : Zo = Z0 ∧ Ko = K0 ∧ No = N0 ∧ Mao = Ma0 ∧ Rao = Ra0) (hen : Rao a0 6 = some en) (hrn : R a0 6 = some rn) (hB : 64 ≤ N rn ∧ N rn ≤ 80000) (hBK : BKI N M a0 rn m n) (hpg : tot K N Z + 2 * No en ≤ tot Ko No Zo + 2 * N rn ∧ 64 * Z + No en ≤ 64 * Zo + N rn) : KP Z0 K0 N0 Ra0 a0 m n (Z, K, N, M, R, J) := by
  obtain ⟨rfl, rfl, rfl, rfl, rfl⟩ := hE0
  exact ⟨rn, hrn, hB, hBK, en, rn, hen, hrn, hpg.1, hpg.2⟩
/-- what is held at the head of search's loop; k: whether rows are kept -/
def SKP (Z0 : Nat) (K0 N0 : Nat → Nat) (Ra0 : RT) (Z : Nat) (K N : Nat → Nat) (M : MT) (R : RT) (b m : Nat) (k : Int32) (n : Nat) : Prop := ∃ e1 : Nat, R b 6 = some e1 ∧ (64 ≤ N e1 ∧ N e1 ≤ 80000) ∧ (¬ k = 0 → BKI N M b e1 m n) ∧ PG1 b 6 Z0 K0 N0 Ra0 Z K N R
theorem SKP.start {Z0 Z b m en : Nat} {K0 N0 K N : Nat → Nat} {Ma0 Ma M : MT} {Ra0 Ra R : RT} {k x : Int32} (hE0 : Z = Z0 ∧ K = K0 ∧ N = N0 ∧ Ma = Ma0 ∧ Ra = Ra0) (h1 : Ra b 6 = some en) (h2 : R b 6 = some en) (hB : 64 ≤ N en ∧ N en ≤ 80000) (hx : x.toInt = 0) : SKP Z0 K0 N0 Ra0 Z K N M R b m k x.toInt.toNat := by
  obtain ⟨rfl, rfl, rfl, rfl, rfl⟩ := hE0
  have e : x.toInt.toNat = 0 := by omega
  rw [e]
  exact ⟨en, h2, hB, fun _ => ⟨by omega, fun i hi => absurd hi (Nat.not_lt_zero _)⟩, PG1.of h1 h2⟩
theorem SKP.en {Z0 Z b m n e : Nat} {K0 N0 K N : Nat → Nat} {M : MT} {Ra0 R : RT} {k : Int32} (h : SKP Z0 K0 N0 Ra0 Z K N M R b m k n) (hr : R b 6 = some e) : (64 ≤ N e ∧ N e ≤ 80000) ∧ (¬ k = 0 → BKI N M b e m n) := by
  obtain ⟨e1, q1, q2, q3, -⟩ := h
  rw [hr] at q1
  cases q1
  exact ⟨q2, q3⟩
/-- nothing of it was written -/
theorem SKP.to {Z0 Z b m n n1 : Nat} {K0 N0 K N : Nat → Nat} {M M1 : MT} {Ra0 R R1 : RT} {k : Int32} (h : SKP Z0 K0 N0 Ra0 Z K N M R b m k n) (hm : m ≤ 5) (hn : n1 = n ∨ k = 0) (h6 : R1 b 6 = R b 6) (h9 : M1 b 9 = M b 9) (he : ∀ e, R b 6 = some e → ∀ j, M1 e j = M e j) : SKP Z0 K0 N0 Ra0 Z K N M1 R1 b m k n1 := by
  obtain ⟨e1, q1, q2, q3, e, e', g1, g2, g3, g4⟩ := h
  refine ⟨e1, h6.trans q1, q2, fun hk => ?_, e, e', g1, h6.trans g2, g3, g4⟩
  rcases hn with rfl | hn
  · exact (q3 hk).to hm rfl h9 (he e1 q1)
  · exact absurd hn hk
/-- behind keep -/
theorem SKP.keep {Z0 Zo Z b m n n1 : Nat} {K0 N0 Ko No K N : Nat → Nat} {Mo M M1 : MT} {Ra0 Ro Ro1 R R1 : RT} {J : JT} {k : Int32} (h : SKP Z0 K0 N0 Ra0 Zo Ko No Mo Ro b m k n) (h6o : Ro1 b 6 = Ro b 6) (hkp : KP Zo Ko No Ro1 b m n1 (Z, K, N, M, R, J)) (hm : m ≤ 5) (h6 : R1 b 6 = R b 6) (h9 : M1 b 9 = M b 9) (he : ∀ e, R b 6 = some e → ∀ j, M1 e j = M e j) : SKP Z0 K0 N0 Ra0 Z K N M1 R1 b m k n1 := by
  obtain ⟨e0, q1, q2, q3, e, e', g1, g2, g3, g4⟩ := h
  obtain ⟨e1, p1, p2, p3, e2, e3, r1, r2, r3, r4⟩ := hkp
  have p1 : R b 6 = some e1 := p1
  have r1 : Ro1 b 6 = some e2 := r1
  have r2 : R b 6 = some e3 := r2
  have r3 : tot K N Z + 2 * No e2 ≤ tot Ko No Zo + 2 * N e3 := r3
  have r4 : 64 * Z + No e2 ≤ 64 * Zo + N e3 := r4
  rw [h6o, g2] at r1
  cases r1
  exact ⟨e1, h6.trans p1, p2, fun _ => BKI.to p3 hm rfl h9 (he e1 p1), e, e3, g1, h6.trans r2, by omega, by omega⟩
theorem SKP.room {Z0 Z b m n : Nat} {K0 N0 K N : Nat → Nat} {M : MT} {Ra0 R : RT} {k : Int32} (h : SKP Z0 K0 N0 Ra0 Z K N M R b m k n) : Z ≤ Z0 + 1250 ∧ tot K N Z ≤ tot K0 N0 Z0 + 160000 := by
  obtain ⟨e0, q1, q2, q3, e, e', g1, g2, g3, g4⟩ := h
  rw [q1] at g2
  cases g2
  exact ⟨by omega, by omega⟩
/-- the sixth place of begin -/
def B5 (M : MT) (be : Nat) (i : Int) : Prop := 5 < i → (M be 5).toInt ≤ 1
theorem B5.z {M : MT} {be : Nat} : B5 M be (0 : Int32).toInt := fun h => absurd h (by decide)
theorem B5.add {M M1 M2 : MT} {be : Nat} {x y : Int32} (h : B5 M be x.toInt) (h0 : 0 ≤ x.toInt) (ey : y.toInt = x.toInt + 1) (e1 : M1 = u2 M be x.toNatClampNeg 1) (e2 : M2 be 5 = M1 be 5) : B5 M2 be y.toInt := fun hy => by
  rw [e2, e1]
  unfold u2
  rw [if_pos rfl]
  have hc := ti_cl h0
  by_cases q : 5 = x.toNatClampNeg
  · rw [if_pos q]
    decide
  · rw [if_neg q]
    exact h (by omega)
theorem FrB.kpa {α : Type} {Z : Nat} {K : Nat → Nat} {L : WL} {M M1 : Nat → Nat → α} (h : FrB Z K L M M1) {b kd : Nat} (hz : b < Z) (hk : K b = kd) (ho : L.all (fun e => !(kd == e.1)) = true) (k : Nat) : M1 b k = M b k := h b hz k (fun q => by
  obtain ⟨e, he, q1, -, -⟩ := q
  have g := List.all_eq_true.mp ho e he
  rw [hk] at q1
  rw [q1] at g
  simp at g)
/-- what seekTelling leaves -/
def TQ (Z : Nat) (K N : Nat → Nat) (Ra : RT) (b : Nat) (u : mS) : Prop := ∃ t s t1 s1 : Nat, (Ra b 7 = some t ∧ Ra b 8 = some s) ∧ (u.2.2.2.2.1 b 7 = some t1 ∧ u.2.2.2.2.1 b 8 = some s1) ∧ (64 ≤ u.2.2.1 t1 ∧ u.2.2.1 t1 ≤ 100000) ∧ (64 ≤ u.2.2.1 s1 ∧ u.2.2.1 s1 ≤ 16000) ∧ tot u.2.1 u.2.2.1 u.1 + 2 * (N t + N s) ≤ tot K N Z + 2 * (u.2.2.1 t1 + u.2.2.1 s1) ∧ 64 * u.1 + (N t + N s) ≤ 64 * Z + (u.2.2.1 t1 + u.2.2.1 s1)
theorem TQ.mk {Z0 Zo Z1 Z b t s t1 s1 : Nat} {K0 N0 Ko No K1 N1 K N : Nat → Nat} {Ma0 Mao M : MT} {Ra0 Rao R : RT} {J : JT} (hE0 : Zo = Z0 ∧ Ko = K0 ∧ No = N0 ∧ Mao = Ma0 ∧ Rao = Ra0) (ht : Rao b 7 = some t) (hs : Rao b 8 = some s) (ht1 : R b 7 = some t1) (hs1 : R b 8 = some s1) (hB1 : 64 ≤ N t1 ∧ N t1 ≤ 100000) (hB2 : 64 ≤ N s1 ∧ N s1 ≤ 16000) (p1 : tot K1 N1 Z1 + 2 * No s ≤ tot Ko No Zo + 2 * N1 s1 ∧ 64 * Z1 + No s ≤ 64 * Zo + N1 s1) (p2 : tot K N Z + 2 * N1 t ≤ tot K1 N1 Z1 + 2 * N t1 ∧ 64 * Z + N1 t ≤ 64 * Z1 + N t1) (e1 : N1 t = No t) (e2 : N s1 = N1 s1) : TQ Z0 K0 N0 Ra0 b (Z, K, N, M, R, J) := by
  obtain ⟨rfl, rfl, rfl, rfl, rfl⟩ := hE0
  refine ⟨t, s, t1, s1, ⟨ht, hs⟩, ⟨ht1, hs1⟩, hB1, hB2, ?_, ?_⟩
  · show tot K N Z + 2 * (No t + No s) ≤ tot Ko No Zo + 2 * (N t1 + N s1)
    omega
  · show 64 * Z + (No t + No s) ≤ 64 * Zo + (N t1 + N s1)
    omega
/-- the bounds of the rows of Books -/
def BB (b : Nat) (N : Nat → Nat) (R : RT) : Prop := ∃ e t s : Nat, R b 6 = some e ∧ R b 7 = some t ∧ R b 8 = some s ∧ (64 ≤ N e ∧ N e ≤ 80000) ∧ (64 ≤ N t ∧ N t ≤ 100000) ∧ (64 ≤ N s ∧ N s ≤ 16000)
/-- what fits and tells leave of Books -/
def BG (Z : Nat) (K N : Nat → Nat) (Ra : RT) (b : Nat) (u : mS) : Prop := PG b Z K N Ra u.1 u.2.1 u.2.2.1 u.2.2.2.2.1 ∧ BB b u.2.2.1 u.2.2.2.2.1
theorem BG.same {Z0 Z b e t s : Nat} {K0 N0 K N : Nat → Nat} {Ma0 Ma M : MT} {Ra0 Ra R : RT} {J : JT} (hE0 : Z = Z0 ∧ K = K0 ∧ N = N0 ∧ Ma = Ma0 ∧ Ra = Ra0) (h6 : Ra b 6 = some e) (h7 : Ra b 7 = some t) (h8 : Ra b 8 = some s) (hR : ∀ k, R b k = Ra b k) (he : 64 ≤ N e ∧ N e ≤ 80000) (ht : 64 ≤ N t ∧ N t ≤ 100000) (hs : 64 ≤ N s ∧ N s ≤ 16000) : BG Z0 K0 N0 Ra0 b (Z, K, N, M, R, J) := by
  obtain ⟨rfl, rfl, rfl, rfl, rfl⟩ := hE0
  exact ⟨PG.of ⟨h6, h7, h8⟩ ⟨(hR 6).trans h6, (hR 7).trans h7, (hR 8).trans h8⟩, e, t, s, (hR 6).trans h6, (hR 7).trans h7, (hR 8).trans h8, he, ht, hs⟩
/-- behind search alone -/
theorem BG.fits {Z0 Zo Z b e t s m n : Nat} {K0 N0 Ko No K N : Nat → Nat} {Ma0 Mao M M1 : MT} {Ra0 Rao Ro R R1 : RT} {J : JT} {k : Int32} (hE0 : Zo = Z0 ∧ Ko = K0 ∧ No = N0 ∧ Mao = Ma0 ∧ Rao = Ra0) (hRo : ∀ k, Ro b k = Rao b k) (h6 : Rao b 6 = some e) (h7 : Rao b 7 = some t) (h8 : Rao b 8 = some s) (h : SKP Zo Ko No Ro Z K N M R b m k n) (q7 : R b 7 = some t) (q8 : R b 8 = some s) (hR : ∀ k, R1 b k = R b k) (ht : 64 ≤ N t ∧ N t ≤ 100000) (hs : 64 ≤ N s ∧ N s ≤ 16000) (et : N t = No t) (es : N s = No s) : BG Z0 K0 N0 Ra0 b (Z, K, N, M1, R1, J) := by
  obtain ⟨rfl, rfl, rfl, rfl, rfl⟩ := hE0
  obtain ⟨e1, g1, g2, g3, e0, e2, r1, r2, r3, r4⟩ := h
  rw [hRo 6, h6] at r1
  cases r1
  rw [g1] at r2
  cases r2
  refine ⟨⟨e, t, s, e1, t, s, ⟨h6, h7, h8⟩, ⟨(hR 6).trans g1, (hR 7).trans q7, (hR 8).trans q8⟩, ?_, ?_⟩, e1, t, s, (hR 6).trans g1, (hR 7).trans q7, (hR 8).trans q8, g2, ht, hs⟩
  · show tot K N Z + 2 * (No e + No t + No s) ≤ tot Ko No Zo + 2 * (N e1 + N t + N s)
    omega
  · show 64 * Z + (No e + No t + No s) ≤ 64 * Zo + (N e1 + N t + N s)
    omega
/-- behind search and seekTelling -/
theorem BG.tells {Z0 Zo Z1 Z b e t s m n : Nat} {K0 N0 Ko No K1 N1 K N : Nat → Nat} {Ma0 Mao M1 M M2 : MT} {Ra0 Rao Ro R1 R1b R R2 : RT} {J J1 : JT} {k : Int32} (hE0 : Zo = Z0 ∧ Ko = K0 ∧ No = N0 ∧ Mao = Ma0 ∧ Rao = Ra0) (hRo : ∀ k, Ro b k = Rao b k) (h6 : Rao b 6 = some e) (h7 : Rao b 7 = some t) (h8 : Rao b 8 = some s) (h : SKP Zo Ko No Ro Z1 K1 N1 M1 R1 b m k n) (hRb : ∀ k, R1b b k = R1 b k) (q7 : R1 b 7 = some t) (q8 : R1 b 8 = some s) (et : N1 t = No t) (es : N1 s = No s) (hT : TQ Z1 K1 N1 R1b b (Z, K, N, M, R, J1)) (h6R : R b 6 = R1b b 6) (eN : ∀ q, R1 b 6 = some q → N q = N1 q) (hR : ∀ k, R2 b k = R b k) : BG Z0 K0 N0 Ra0 b (Z, K, N, M2, R2, J) := by
  obtain ⟨rfl, rfl, rfl, rfl, rfl⟩ := hE0
  obtain ⟨e1, g1, g2, g3, e0, e2, r1, r2, r3, r4⟩ := h
  rw [hRo 6, h6] at r1
  cases r1
  rw [g1] at r2
  cases r2
  obtain ⟨t0, s0, t1, s1, ⟨a1, a2⟩, ⟨a3, a4⟩, a5, a6, a7, a8⟩ := hT
  rw [hRb 7, q7] at a1
  cases a1
  rw [hRb 8, q8] at a2
  cases a2
  have a3 : R b 7 = some t1 := a3
  have a4 : R b 8 = some s1 := a4
  have a5 : 64 ≤ N t1 ∧ N t1 ≤ 100000 := a5
  have a6 : 64 ≤ N s1 ∧ N s1 ≤ 16000 := a6
  have a7 : tot K N Z + 2 * (N1 t + N1 s) ≤ tot K1 N1 Z1 + 2 * (N t1 + N s1) := a7
  have a8 : 64 * Z + (N1 t + N1 s) ≤ 64 * Z1 + (N t1 + N s1) := a8
  have ee := eN e1 g1
  have x6 : R2 b 6 = some e1 := (hR 6).trans (h6R.trans ((hRb 6).trans g1))
  refine ⟨⟨e, t, s, e1, t1, s1, ⟨h6, h7, h8⟩, ⟨x6, (hR 7).trans a3, (hR 8).trans a4⟩, ?_, ?_⟩, e1, t1, s1, x6, (hR 7).trans a3, (hR 8).trans a4, ?_, a5, a6⟩
  · show tot K N Z + 2 * (No e + No t + No s) ≤ tot Ko No Zo + 2 * (N e1 + N t1 + N s1)
    omega
  · show 64 * Z + (No e + No t + No s) ≤ 64 * Zo + (N e1 + N t1 + N s1)
    omega
  · show 64 ≤ N e1 ∧ N e1 ≤ 80000
    omega
