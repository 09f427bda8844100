def RX : RT := (u2 (u2 (u2 (u2 (u2 (u2 (u2 (u2 (u2 (u2 (u2 (u2 (u2 (u2 (u2 (u2 (u2 (u2 (u2 (u2 (u2 (u2 (u2 (u2 (u2 (u2 (u2 (u2 (u2 (u2 (u2 (u2 (u2 (u2 (u2 (u2 (u2 (u2 (u2 (u2 (u2 (u2 (u2 (u2 (u2 (u2 (u2 (u2 (u2 (u2 (ur (u2 (u2 (u2 (u2 (u2 (ur (u2 (u2 (u2 (u2 (u2 (u2 (u2 (u2 (u2 (u2 (u2 (ur (u2 (u2 (u2 (u2 (u2 (u2 (u2 (u2 (u2 (u2 (u2 (u2 (u2 (u2 (u2 (u2 (u2 (u2 (u2 (u2 (u2 (u2 (u2 (u2 (u2 (u2 (u2 (u2 (u2 (u2 (u2 (u2 (u2 (u2 R0 0 0 (some 1)) 0 2 (some 2)) 0 4 (some 3)) 4 9 (some 5)) 4 10 (some 6)) 4 11 (some 7)) 4 12 (some 8)) 4 13 (some 9)) 4 14 (some 10)) 4 15 (some 11)) 13 0 (some 4)) 13 1 (some 12)) 13 4 (some 6)) 13 5 (some 10)) 0 3 (some 4)) 0 5 (some 12)) 0 9 (some 13)) 15 9 (some 16)) 15 10 (some 17)) 15 11 (some 18)) 15 12 (some 19)) 15 13 (some 20)) 15 14 (some 21)) 15 15 (some 22)) 14 5 (some 15)) 0 7 (some 14)) 23 5 (some 24)) 0 8 (some 23)) 25 2 (some 26)) 25 3 (some 27)) 25 4 (some 28)) 25 0 (some 4)) 25 1 (some 13)) 0 10 (some 25)) 30 (fun j => if j < 4 then some (30 + 1 + j) else none)) 29 2 (some 30)) 29 3 (some 35)) 29 4 (some 36)) 29 5 (some 37)) 29 6 (some 38)) 29 7 (some 39)) 29 8 (some 40)) 29 9 (some 41)) 29 0 (some 4)) 29 1 (some 13)) 0 11 (some 29)) 43 (fun j => if j < 5 then some (43 + 1 + j) else none)) 42 2 (some 43)) 42 3 (some 49)) 42 0 (some 4)) 42 1 (some 13)) 0 12 (some 42)) 51 (fun j => if j < 7 then some (51 + 1 + j) else none)) 50 2 (some 51)) 50 3 (some 59)) 50 4 (some 60)) 50 0 (some 4)) 50 1 (some 13)) 0 13 (some 50)) 61 2 (some 62)) 61 3 (some 63)) 61 4 (some 64)) 61 5 (some 65)) 61 6 (some 66)) 61 7 (some 67)) 61 8 (some 68)) 61 0 (some 4)) 61 1 (some 13)) 0 14 (some 61)) 69 0 (some 70)) 69 3 (some 71)) 69 4 (some 72)) 69 5 (some 73)) 69 6 (some 74)) 69 10 (some 75)) 69 11 (some 76)) 69 12 (some 77)) 69 20 (some 78)) 69 22 (some 79)) 69 24 (some 80)) 69 25 (some 81)) 69 26 (some 82)) 69 27 (some 83)) 69 29 (some 84)) 69 33 (some 85)) 69 34 (some 86)) 69 37 (some 87)) 69 38 (some 88)) 69 39 (some 89)) 69 40 (some 90)) 69 41 (some 91)) 69 42 (some 92)) 69 44 (some 93)) 69 45 (some 94)) 69 46 (some 95)) 69 47 (some 96)) 69 48 (some 97)) 69 49 (some 98)) 69 50 (some 99)) 69 51 (some 100)) 69 52 (some 101)) 69 53 (some 102)) 69 54 (some 103))
theorem md_fks {f : RT} {n x j : Nat} {v : Option Nat} (h : ∀ a k, n ≤ k → f a k = none) (hj : j < n) : ∀ a k, n ≤ k → u2 f x j v a k = none := fun a k hk => by
  rw [u2_nk (by omega)]
  exact h a k hk
theorem md_fkr {f : RT} {n x m : Nat} (h : ∀ a k, n ≤ k → f a k = none) (hj : m ≤ n) : ∀ a k, n ≤ k → ur f x (fun j => if j < m then some (x + 1 + j) else none) a k = none := fun a k hk => by
  by_cases e : a = x
  · rw [e, ur_at]
    exact if_neg (by omega)
  · rw [ur_ne e]
    exact h a k hk
set_option maxRecDepth 100000 in
theorem RX_k : ∀ a k, 56 ≤ k → RX a k = none := (md_fks (md_fks (md_fks (md_fks (md_fks (md_fks (md_fks (md_fks (md_fks (md_fks (md_fks (md_fks (md_fks (md_fks (md_fks (md_fks (md_fks (md_fks (md_fks (md_fks (md_fks (md_fks (md_fks (md_fks (md_fks (md_fks (md_fks (md_fks (md_fks (md_fks (md_fks (md_fks (md_fks (md_fks (md_fks (md_fks (md_fks (md_fks (md_fks (md_fks (md_fks (md_fks (md_fks (md_fks (md_fks (md_fks (md_fks (md_fks (md_fks (md_fks (md_fkr (md_fks (md_fks (md_fks (md_fks (md_fks (md_fkr (md_fks (md_fks (md_fks (md_fks (md_fks (md_fks (md_fks (md_fks (md_fks (md_fks (md_fks (md_fkr (md_fks (md_fks (md_fks (md_fks (md_fks (md_fks (md_fks (md_fks (md_fks (md_fks (md_fks (md_fks (md_fks (md_fks (md_fks (md_fks (md_fks (md_fks (md_fks (md_fks (md_fks (md_fks (md_fks (md_fks (md_fks (md_fks (md_fks (md_fks (md_fks (md_fks (md_fks (md_fks (md_fks (md_fks (fun _ _ _ => rfl) (by decide)) (by decide)) (by decide)) (by decide)) (by decide)) (by decide)) (by decide)) (by decide)) (by decide)) (by decide)) (by decide)) (by decide)) (by decide)) (by decide)) (by decide)) (by decide)) (by decide)) (by decide)) (by decide)) (by decide)) (by decide)) (by decide)) (by decide)) (by decide)) (by decide)) (by decide)) (by decide)) (by decide)) (by decide)) (by decide)) (by decide)) (by decide)) (by decide)) (by decide)) (by decide)) (by decide)) (by decide)) (by decide)) (by decide)) (by decide)) (by decide)) (by decide)) (by decide)) (by decide)) (by decide)) (by decide)) (by decide)) (by decide)) (by decide)) (by decide)) (by decide)) (by decide)) (by decide)) (by decide)) (by decide)) (by decide)) (by decide)) (by decide)) (by decide)) (by decide)) (by decide)) (by decide)) (by decide)) (by decide)) (by decide)) (by decide)) (by decide)) (by decide)) (by decide)) (by decide)) (by decide)) (by decide)) (by decide)) (by decide)) (by decide)) (by decide)) (by decide)) (by decide)) (by decide)) (by decide)) (by decide)) (by decide)) (by decide)) (by decide)) (by decide)) (by decide)) (by decide)) (by decide)) (by decide)) (by decide)) (by decide)) (by decide)) (by decide)) (by decide)) (by decide)) (by decide)) (by decide)) (by decide)) (by decide)) (by decide)) (by decide)) (by decide)) (by decide))
theorem rt_hi (kd n : Nat) (h : kd ≠ 19) : (rtR kd (n + 56)).2.2 = 1 := by
  unfold rtR
  split <;> first | rfl | exact absurd rfl h
def okRb (na kd k : Nat) (r : Option Nat) : Bool := match r with
  | none => (rtR kd k).2.2 == 1 || ((rtR kd k).2.2 == 2 && decide (na ≤ k))
  | some b => decide (b < 104) && ((KX b == (rtR kd k).1) && ((rtR kd k).2.1 == 0 || NX b == (rtR kd k).2.1))
theorem okRb_ok {na kd k : Nat} {r : Option Nat} (h : okRb na kd k r = true) : okR 104 KX NX na kd k r := by
  unfold okRb at h
  unfold okR
  cases r with
  | none =>
    simp only [Bool.or_eq_true, Bool.and_eq_true, beq_iff_eq, decide_eq_true_eq] at h
    exact h
  | some b =>
    simp only [Bool.or_eq_true, Bool.and_eq_true, beq_iff_eq, decide_eq_true_eq] at h
    exact ⟨h.1, h.2.1, fun q => h.2.2.resolve_left q⟩
set_option maxRecDepth 100000 in
theorem tb_ok : ∀ a, a < 104 → ∀ k, k < 56 → okRb (NX a) (KX a) k (RX a k) = true := by decide +kernel
theorem kx_ok : ∀ a, a < 104 → KX a ≠ 0 ∧ NX a ≤ 1048576 ∧ (KX a = 19 → NX a ≤ 56) := by decide +kernel
theorem Ty_0 : Ty 104 KX NX M0 RX := by
  refine ⟨fun a _ k => okI_0 _ _, fun a ha k => ?_, fun a ha => (kx_ok a ha).2.1⟩
  by_cases q : k < 56
  · exact okRb_ok (tb_ok a ha k q)
  · rw [RX_k a k (by omega)]
    obtain ⟨n, rfl⟩ : ∃ n, k = n + 56 := ⟨k - 56, by omega⟩
    by_cases q2 : KX a = 19
    · rw [q2]
      exact Or.inr ⟨rfl, by have := (kx_ok a ha).2.2 q2; omega⟩
    · exact Or.inl (rt_hi _ _ q2)
set_option maxRecDepth 100000 in
theorem WIR_0 : WIR 104 KX RX := ⟨⟨by decide, rfl, rfl⟩, ⟨rfl, rfl, rfl, rfl⟩, ⟨rfl, rfl⟩, ⟨rfl, rfl, rfl⟩, ⟨rfl, rfl, rfl⟩, ⟨rfl, rfl, rfl, rfl⟩, ⟨rfl, rfl, rfl⟩, rfl, rfl, rfl⟩
theorem tot_0 : tot KX NX 104 = 87680 := by decide +kernel
set_option maxRecDepth 100000 in
theorem im_0 (j : Nat) : RX 3 j = none := rfl
theorem cnt_0 : cnt RX = 0 := by
  unfold cnt
  rw [im_0, im_0, im_0, im_0]
  rfl
set_option maxRecDepth 100000 in
theorem LI_0 : LI 104 KX NX M0 RX := by
  have z : (0 : Int32).toInt = 0 := by decide
  refine ⟨⟨Ty_0, fun a ha => (kx_ok a ha).1⟩, WIR_0, ?_, ⟨rfl, fun j _ => Or.inl ⟨im_0 j, rfl⟩, fun i j st _ _ e _ => ?_⟩, 66, 67, 68, ⟨rfl, rfl, rfl⟩, ⟨⟨by decide, by decide⟩, ⟨by decide, by decide⟩, by decide, by decide⟩, ?_, ?_⟩
  · intro sg cl cs _ _ _ t k ht _
    have ht : (t : Int) < (0 : Int32).toInt := ht
    omega
  · rw [im_0] at e
    cases e
  · rw [tot_0, cnt_0]
    show ((87680 : Nat) : Int) ≤ 88000 + 2 * ((64 + 128 + 64 : Nat) : Int) + 232 * ((0 : Nat) : Int) + 410 * (0 : Int32).toInt
    omega
  · rw [cnt_0]
    show 64 * ((104 : Nat) : Int) ≤ 6656 + ((64 + 128 + 64 : Nat) : Int) + 512 * ((0 : Nat) : Int) + 192 * (0 : Int32).toInt
    omega
