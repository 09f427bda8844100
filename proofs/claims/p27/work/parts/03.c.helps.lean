theorem md_frs {f : Nat → Nat → Option Nat} {n x j : Nat} {v : Option Nat} (h : ∀ a, n ≤ a → ∀ k, f a k = none) (hx : x < n) : ∀ a, n ≤ a → ∀ k, u2 f x j v a k = none := fun a ha k => by
  unfold u2
  rw [if_neg (by omega)]
  exact h a ha k
theorem md_fr3 {M : Nat → Nat → Int32} {R : Nat → Nat → Option Nat} {J : Nat → Nat → Int64} {n : Nat} (hM : ∀ a, n ≤ a → ∀ k, M a k = 0) (hR : ∀ a, n ≤ a → ∀ k, R a k = none) (hJ : ∀ a, n ≤ a → ∀ k, J a k = 0) : ∀ a, n ≤ a → ∀ k, M a k = 0 ∧ R a k = none ∧ J a k = 0 := fun a h k => ⟨hM a h k, hR a h k, hJ a h k⟩
