/-! how many bits: a function of the set -/
def bitsN : Nat → Int32 → Int32 → Int32
  | 0, _, n => n
  | k + 1, s, n => if s = 0 then n else bitsN k (s &&& (s - 1)) (n + 1)
theorem bitsN_eq : ∀ (k k2 : Nat) (s n : Int32), s.toBitVec.toNat < k → s.toBitVec.toNat < k2 → bitsN k s n = bitsN k2 s n
  | 0, _, _, _, h, _ => absurd h (Nat.not_lt_zero _)
  | _, 0, _, _, _, h => absurd h (Nat.not_lt_zero _)
  | k + 1, k2 + 1, s, n, h1, h2 => by
    unfold bitsN
    by_cases e : s = 0
    · rw [if_pos e, if_pos e]
    · rw [if_neg e, if_neg e]
      have q := bits_lt (x := s) rfl e
      exact bitsN_eq k k2 _ _ (by omega) (by omega)
def bitsG (x : Int32) : Int32 := bitsN (x.toBitVec.toNat + 1) x 0
theorem bitsN_in {s v n : Int32} (ev : v = s &&& (s - 1)) (h : ¬ s = 0) : bitsN (v.toBitVec.toNat + 1) v (n + 1) = bitsN (s.toBitVec.toNat + 1) s n := by
  have q := bits_lt ev h
  have e : bitsN (s.toBitVec.toNat + 1) s n = bitsN s.toBitVec.toNat (s &&& (s - 1)) (n + 1) := by
    show (if s = 0 then n else bitsN s.toBitVec.toNat (s &&& (s - 1)) (n + 1)) = _
    rw [if_neg h]
  rw [e, ← ev]
  exact bitsN_eq _ _ _ _ (by omega) (by omega)
theorem bitsN_out {s n : Int32} (h : s = 0) : bitsN (s.toBitVec.toNat + 1) s n = n := by
  show (if s = 0 then n else bitsN s.toBitVec.toNat (s &&& (s - 1)) (n + 1)) = n
  rw [if_pos h]
def figG (x : Int32) : Int := if bitsG x = 1 then 3 else if bitsG x = 2 then 9 else 27
theorem figG_r (x : Int32) : 3 ≤ figG x ∧ figG x ≤ 27 := by
  unfold figG
  split
  · decide
  · split <;> decide
/-- the odometer of throwsVotes: what is left to be tried -/
def muG (M : MT) (fg : Nat) (F l : Int) (k : Nat) : Int := if (k : Int) ≤ l then F - (M fg k).toInt else 0
def muT (M : MT) (fg : Nat) (F l : Int) : Int := muG M fg F l 0 * 24389 + muG M fg F l 1 * 841 + muG M fg F l 2 * 29 + muG M fg F l 3
def figI (M : MT) (fg : Nat) (F l : Int) : Prop := ∀ k : Nat, (k : Int) ≤ l → -1 ≤ (M fg k).toInt ∧ (M fg k).toInt < F
theorem mu_pos {M : MT} {fg : Nat} {F l : Int} (h : figI M fg F l) : 0 ≤ muT M fg F l := by
  have g : ∀ k : Nat, 0 ≤ muG M fg F l k := fun k => by
    unfold muG
    by_cases q : (k : Int) ≤ l
    · rw [if_pos q]
      have := h k q
      omega
    · rw [if_neg q]
      exact Int.le_refl _
  have := g 0
  have := g 1
  have := g 2
  have := g 3
  unfold muT
  omega
theorem mu_lt {M M1 : MT} {fg : Nat} {F p q : Int} (hp : 0 ≤ p ∧ p ≤ 3) (hs : ∀ k : Nat, (k : Int) < p → M1 fg k = M fg k) (h1 : ∀ k : Nat, (k : Int) = p → (M1 fg k).toInt = (M fg k).toInt + 1) (hq : q = p ∨ (q = p - 1 ∧ ∀ k : Nat, (k : Int) = p → (M1 fg k).toInt = F)) : muT M1 fg F q < muT M fg F p := by
  unfold muT muG
  have s0 := hs 0
  have s1 := hs 1
  have s2 := hs 2
  have t0 := h1 0
  have t1 := h1 1
  have t2 := h1 2
  have t3 := h1 3
  rcases (show p = 0 ∨ p = 1 ∨ p = 2 ∨ p = 3 by omega) with e | e | e | e
  all_goals subst e
  all_goals rcases hq with e | ⟨e, f⟩
  all_goals subst e
  all_goals (try have f0 := f 0)
  all_goals (try have f1 := f 1)
  all_goals (try have f2 := f 2)
  all_goals (try have f3 := f 3)
  all_goals simp at *
  all_goals (try rw [s0])
  all_goals (try rw [s1])
  all_goals (try rw [s2])
  all_goals omega
theorem mu_dn {M M1 : MT} {fg : Nat} {F p : Int} (hp : 0 ≤ p ∧ p ≤ 2) (hF : F ≤ 27) (hs : ∀ k : Nat, (k : Int) < p → M1 fg k = M fg k) (h1 : ∀ k : Nat, (k : Int) = p → (M1 fg k).toInt = (M fg k).toInt + 1) (h2 : ∀ k : Nat, (k : Int) = p + 1 → (M1 fg k).toInt = -1) : muT M1 fg F (p + 1) < muT M fg F p := by
  unfold muT muG
  have s0 := hs 0
  have s1 := hs 1
  have t0 := h1 0
  have t1 := h1 1
  have t2 := h1 2
  have u1 := h2 1
  have u2 := h2 2
  have u3 := h2 3
  rcases (show p = 0 ∨ p = 1 ∨ p = 2 by omega) with e | e | e
  all_goals subst e
  all_goals simp at *
  all_goals (try rw [s0])
  all_goals (try rw [s1])
  all_goals omega
