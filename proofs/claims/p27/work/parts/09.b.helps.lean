/-! rows that grow: helps -/
theorem pw0 {x : Int} (h : 1 ≤ x) : (2 : Int) ^ (0 : Int32).toInt.toNat ≤ x := by
  have e : (0 : Int32).toInt.toNat = 0 := by decide
  rw [e]
  omega
theorem pw1 {i x l y : Int} (h : (2 : Int) ^ i.toNat ≤ l) (h0 : 0 ≤ i) (e1 : x = i + 1) (e2 : y = l * 2) : (2 : Int) ^ x.toNat ≤ y := by
  have e : x.toNat = i.toNat + 1 := by omega
  rw [e, Int.pow_succ, e2]
  omega
theorem pw30 {i l : Int} (h : (2 : Int) ^ i.toNat ≤ l) (e : i = 30) : 1073741824 ≤ l := by
  have e2 : i.toNat = 30 := by omega
  rw [e2] at h
  omega
theorem RF.same {Z0 Z a0 : Nat} {K0 N0 K N : Nat → Nat} {Ma0 Ma M : MT} {Ra0 Ra R : RT} {J : JT} {sz : Int} (hE0 : Z = Z0 ∧ K = K0 ∧ N = N0 ∧ Ma = Ma0 ∧ Ra = Ra0) (hM : M = Ma) (hz : a0 < Z) (hs : sz ≤ (N a0 : Int)) : RF Z0 K0 N0 Ma0 a0 sz a0 (Z, K, N, M, R, J) := by
  obtain ⟨rfl, rfl, rfl, rfl, rfl⟩ := hE0
  subst hM
  exact ⟨hz, rfl, hs, fun _ _ => rfl, Or.inl ⟨rfl, rfl, rfl⟩⟩
theorem RF.new {Z0 Z Z1 a0 b t : Nat} {K0 N0 K N K1 N1 : Nat → Nat} {Ma0 Ma M Ma1 M1 M2 : MT} {Ra0 Ra R Ra1 R1 R2 : RT} {J : JT} {sz li : Int} {n : Int32} (hE0 : Z = Z0 ∧ K = K0 ∧ N = N0 ∧ Ma = Ma0 ∧ Ra = Ra0) (hM : M = Ma) (hg : GR Z K N Ma Ra Z1 K1 N1 Ma1 Ra1) (o : ∀ b, b < Z → M1 b = M b ∧ R1 b = R b) (hz : a0 < Z) (eb : b = Z) (eZ : Z1 = b + 1) (hkb : K1 b = t) (hka : K1 a0 = t) (en : (N1 b : Int) = li) (hsz : sz ≤ li) (h2 : 2 * (N a0 : Int) ≤ li ∧ li ≤ 2 * sz) (hn : n.toInt = (N1 a0 : Int)) (hc : M2 = ur M1 b (va_cpy (M1 a0) (M1 b) (0 : Int32).toNatClampNeg (0 : Int32).toNatClampNeg n.toNatClampNeg)) : RF Z0 K0 N0 Ma0 a0 sz b (Z1, K1, N1, M2, R2, J) := by
  obtain ⟨rfl, rfl, rfl, rfl, rfl⟩ := hE0
  subst hM
  subst eb
  have q := hg.2.1 a0 hz
  refine ⟨show b < Z1 by omega, show K1 b = K a0 by rw [hkb, ← hka, q.1], show sz ≤ (N1 b : Int) by omega, fun j hj => ?_, Or.inr ⟨rfl, eZ, show 2 * N a0 ≤ N1 b by omega, show (N1 b : Int) ≤ 2 * sz by omega⟩⟩
  show M2 b j = M a0 j
  rw [hc, ur_at]
  have hc := ti_cl (x := n) (by omega)
  have q2 := q.2.1
  unfold va_cpy
  have e0 : (0 : Int32).toNatClampNeg = 0 := by decide
  rw [e0, if_pos ⟨Nat.zero_le _, by omega⟩, (o a0 hz).1]
  exact congrArg (M a0) (by omega)
