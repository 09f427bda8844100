/-! the law: what is held at its loop's head -/
theorem Fr.B {α : Type} {Z : Nat} {K : Nat → Nat} {L : WL} {M M1 : Nat → Nat → α} (h : Fr K L M M1) : FrB Z K L M M1 := fun b _ k hn => h b k hn
theorem FrB.at {α : Type} {Z : Nat} {K : Nat → Nat} {L : WL} {M M1 : Nat → Nat → α} (h : FrB Z K L M M1) {b kd k : Nat} (hz : b < Z) (hk : K b = kd) (ho : outL L kd k = true) : M1 b k = M b k := h b hz k (by rw [hk]; exact outL_of ho)
/-- the memory has grown or not: its places below are of the kinds that they were -/
def KG (Z : Nat) (K N : Nat → Nat) (Z1 : Nat) (K1 N1 : Nat → Nat) : Prop := Z ≤ Z1 ∧ (∀ b, b < Z → K1 b = K b ∧ N1 b = N b) ∧ ∀ b, Z ≤ b → b < Z1 → K1 b ≠ 0
theorem KG.rf {Z : Nat} {K N : Nat → Nat} : KG Z K N Z K N := ⟨Nat.le_refl _, fun _ _ => ⟨rfl, rfl⟩, fun b h1 h2 => absurd h1 (by omega)⟩
def WIR (Z : Nat) (K : Nat → Nat) (R : RT) : Prop := (103 < Z ∧ K 0 = 11 ∧ K 69 = 12) ∧ (R 0 3 = some 4 ∧ R 0 4 = some 3 ∧ R 0 11 = some 29 ∧ R 0 14 = some 61) ∧ (R 29 0 = some 4 ∧ R 61 0 = some 4) ∧ (R 69 3 = some 71 ∧ R 69 5 = some 73 ∧ R 69 6 = some 74) ∧ (R 69 25 = some 81 ∧ R 69 53 = some 102 ∧ R 69 54 = some 103) ∧ (K 4 = 10 ∧ K 3 = 18 ∧ K 29 = 7 ∧ K 61 = 1) ∧ (K 71 = 25 ∧ K 73 = 27 ∧ K 74 = 28) ∧ (K 81 = 23 ∧ K 102 = 24 ∧ K 103 = 16)
def okW (L : WL) : Bool := (outL L 11 3 && (outL L 11 4 && (outL L 11 11 && outL L 11 14))) && ((outL L 7 0 && outL L 1 0) && ((outL L 12 3 && (outL L 12 5 && outL L 12 6)) && (outL L 12 25 && (outL L 12 53 && outL L 12 54))))
theorem WIR.to {Z Z1 : Nat} {K N K1 N1 : Nat → Nat} {LR : WL} {R R1 : RT} (h : WIR Z K R) (g : KG Z K N Z1 K1 N1) (f : FrB Z K LR R R1) (ok : okW LR = true) : WIR Z1 K1 R1 := by
  obtain ⟨⟨z, a1, a2⟩, ⟨b1, b2, b3, b4⟩, ⟨c1, c2⟩, ⟨d1, d2, d3⟩, ⟨e1, e2, e3⟩, ⟨k1, k2, k3, k4⟩, ⟨k5, k6, k7⟩, k8, k9, k10⟩ := h
  obtain ⟨g1, g2, -⟩ := g
  unfold okW at ok
  simp only [Bool.and_eq_true] at ok
  obtain ⟨⟨o1, o2, o3, o4⟩, ⟨o5, o6⟩, ⟨o7, o8, o9⟩, o10, o11, o12⟩ := ok
  exact ⟨⟨by omega, (g2 0 (by omega)).1.trans a1, (g2 69 (by omega)).1.trans a2⟩, ⟨f.kp (by omega) a1 o1 b1, f.kp (by omega) a1 o2 b2, f.kp (by omega) a1 o3 b3, f.kp (by omega) a1 o4 b4⟩, ⟨f.kp (by omega) k3 o5 c1, f.kp (by omega) k4 o6 c2⟩, ⟨f.kp (by omega) a2 o7 d1, f.kp (by omega) a2 o8 d2, f.kp (by omega) a2 o9 d3⟩, ⟨f.kp (by omega) a2 o10 e1, f.kp (by omega) a2 o11 e2, f.kp (by omega) a2 o12 e3⟩, ⟨(g2 4 (by omega)).1.trans k1, (g2 3 (by omega)).1.trans k2, (g2 29 (by omega)).1.trans k3, (g2 61 (by omega)).1.trans k4⟩, ⟨(g2 71 (by omega)).1.trans k5, (g2 73 (by omega)).1.trans k6, (g2 74 (by omega)).1.trans k7⟩, (g2 81 (by omega)).1.trans k8, (g2 102 (by omega)).1.trans k9, (g2 103 (by omega)).1.trans k10⟩
/-- x on both sides: now's, and of each image -/
def RLX (M : MT) (R : RT) : Prop := M 4 6 = M 81 6 ∧ (∀ j, j < 4 → (R 3 j = none ∧ M 103 j = 0) ∨ (∃ st, R 3 j = some st ∧ st ≠ 4 ∧ ¬ M 103 j = 0 ∧ M st 6 = M 102 (226 * j + 6))) ∧ ∀ i j st, i < 4 → j < 4 → R 3 i = some st → R 3 j = some st → i = j
theorem img_st {Z : Nat} {K N : Nat → Nat} {M : MT} {R : RT} (hT : Ty Z K N M R) (hw : WIR Z K R) {j st : Nat} (h : R 3 j = some st) : st < Z ∧ K st = 10 := by
  obtain ⟨⟨z, -, -⟩, -, -, -, -, ⟨-, k2, -, -⟩, -⟩ := hw
  obtain ⟨a, b, -⟩ := hT.refn (show 3 < Z by omega) k2 (show rtR 18 j = (10, 0, 1) from rfl) h
  exact ⟨a, b⟩
theorem RLX.to {Z : Nat} {K N : Nat → Nat} {M M1 : MT} {R R1 : RT} (h : RLX M R) (hT : Ty Z K N M R) (hw : WIR Z K R) (hx : ∀ b, b < Z → K b = 10 → M1 b 6 = M b 6) (hs : M1 81 6 = M 81 6) (hr : ∀ j, R1 3 j = R 3 j) (hm : ∀ j, M1 103 j = M 103 j) (hi : ∀ j, M1 102 j = M 102 j) : RLX M1 R1 := by
  have hw2 := hw
  obtain ⟨⟨z, -, -⟩, -, -, -, -, ⟨k1, -, -, -⟩, -⟩ := hw2
  obtain ⟨h1, h2, h3⟩ := h
  refine ⟨by rw [hx 4 (by omega) k1, hs, h1], fun j hj => ?_, fun i j st hi2 hj e1 e2 => ?_⟩
  · rcases h2 j hj with ⟨q1, q2⟩ | ⟨st, q1, q2, q3, q4⟩
    · exact Or.inl ⟨(hr j).trans q1, (hm j).trans q2⟩
    · obtain ⟨g1, g2⟩ := img_st hT hw q1
      exact Or.inr ⟨st, (hr j).trans q1, q2, by rw [hm j]; exact q3, by rw [hx st g1 g2, hi, q4]⟩
  · rw [hr] at e1 e2
    exact h3 i j st hi2 hj e1 e2
def is1 (r : Option Nat) : Nat := match r with
  | none => 0
  | some _ => 1
theorem is1_le (r : Option Nat) : is1 r ≤ 1 := by
  cases r
  · exact Nat.zero_le _
  · exact Nat.le_refl _
def cnt (R : RT) : Nat := is1 (R 3 0) + is1 (R 3 1) + is1 (R 3 2) + is1 (R 3 3)
theorem cnt_le (R : RT) : cnt R ≤ 4 := by
  have a := is1_le (R 3 0)
  have b := is1_le (R 3 1)
  have c := is1_le (R 3 2)
  have d := is1_le (R 3 3)
  unfold cnt
  omega
theorem cnt_eq {R R1 : RT} (h : ∀ j, R1 3 j = R 3 j) : cnt R1 = cnt R := by
  unfold cnt
  rw [h, h, h, h]
theorem cnt_new {R R1 : RT} {k st : Nat} (hk : k < 4) (h : ∀ j, j ≠ k → R1 3 j = R 3 j) (h0 : R 3 k = none) (h1 : R1 3 k = some st) : cnt R1 = cnt R + 1 := by
  unfold cnt
  rcases (show k = 0 ∨ k = 1 ∨ k = 2 ∨ k = 3 by omega) with rfl | rfl | rfl | rfl
  · rw [h 1 (by decide), h 2 (by decide), h 3 (by decide), h0, h1]
    show 1 + _ + _ + _ = 0 + _ + _ + _ + 1
    omega
  · rw [h 0 (by decide), h 2 (by decide), h 3 (by decide), h0, h1]
    show _ + 1 + _ + _ = _ + 0 + _ + _ + 1
    omega
  · rw [h 0 (by decide), h 1 (by decide), h 3 (by decide), h0, h1]
    show _ + _ + 1 + _ = _ + _ + 0 + _ + 1
    omega
  · rw [h 0 (by decide), h 1 (by decide), h 2 (by decide), h0, h1]
    rfl
theorem cnt_old {R R1 : RT} {k st : Nat} (h : ∀ j, j ≠ k → R1 3 j = R 3 j) (h0 : R 3 k = some st) (h1 : R1 3 k = some st) : cnt R1 = cnt R := cnt_eq fun j => by
  by_cases q : j = k
  · rw [q, h0, h1]
  · exact h j q
/-- what is ever made, against what is held -/
def RMI (Z : Nat) (K N : Nat → Nat) (M : MT) (R : RT) : Prop := ∃ en ta su : Nat, (R 61 6 = some en ∧ R 61 7 = some ta ∧ R 61 8 = some su) ∧ ((64 ≤ N en ∧ N en ≤ 80000) ∧ (64 ≤ N ta ∧ N ta ≤ 100000) ∧ (64 ≤ N su ∧ N su ≤ 16000)) ∧ ((tot K N Z : Nat) : Int) ≤ 88000 + 2 * ((N en + N ta + N su : Nat) : Int) + 232 * (cnt R : Int) + 410 * (M 0 6).toInt ∧ 64 * (Z : Int) ≤ 6656 + ((N en + N ta + N su : Nat) : Int) + 512 * (cnt R : Int) + 192 * (M 0 6).toInt
def LI (Z : Nat) (K N : Nat → Nat) (M : MT) (R : RT) : Prop := (Ty Z K N M R ∧ ∀ a, a < Z → K a ≠ 0) ∧ WIR Z K R ∧ Codes M R 69 ∧ RLX M R ∧ RMI Z K N M R
theorem LI.room {Z : Nat} {K N : Nat → Nat} {M : MT} {R : RT} (h : LI Z K N M R) : Z ≤ 4000 ∧ tot K N Z ≤ 500000 := by
  obtain ⟨⟨hT, -⟩, hw, -, -, en, ta, su, -, ⟨⟨a1, a2⟩, ⟨b1, b2⟩, c1, c2⟩, d1, d2⟩ := h
  have t := hT.int (show 0 < Z by have := hw.1.1; omega) hw.1.2.1 (show rgI 11 6 = (0, 6) from rfl)
  have c := cnt_le R
  exact ⟨by omega, by omega⟩
def noK (L : WL) (kd : Nat) : Bool := L.all (fun e => !(kd == e.1))
/-- Codes, told again -/
theorem Codes.toB {Z : Nat} {K : Nat → Nat} {L LR : WL} {M M1 : MT} {R R1 : RT} (h : Codes M R 69) (hw : WIR Z K R) (f : FrB Z K L M M1) (g : FrB Z K LR R R1) (o1 : okW LR = true) (o2 : (noK L 25 && (noK L 27 && (noK L 28 && outL L 12 2))) = true) : Codes M1 R1 69 := by
  have hw1 := hw.to (KG.rf (N := K)) g o1
  simp only [Bool.and_eq_true] at o2
  obtain ⟨p1, p2, p3, p4⟩ := o2
  obtain ⟨⟨z, -, a2⟩, -, -, ⟨d1, d2, d3⟩, -, -, ⟨k5, k6, k7⟩, -⟩ := hw
  obtain ⟨-, -, -, ⟨d1', d2', d3'⟩, -⟩ := hw1
  intro sg cl cs q1 q2 q3 t k ht hk
  rw [d1'] at q1
  rw [d2'] at q2
  rw [d3'] at q3
  cases q1
  cases q2
  cases q3
  rw [f.at (by omega) a2 p4] at ht
  rw [f.kpa (by omega) k7 p3] at hk
  rw [f.kpa (by omega) k6 p2, f.kpa (by omega) k6 p2]
  rcases h _ _ _ d1 d2 d3 t k ht hk with q | ⟨q1, q2, q3⟩
  · exact Or.inl q
  · exact Or.inr ⟨q1, q2, q3.to (fun j _ _ => f.kpa (by omega) k5 p1 j)⟩
/-- the images, the books, the rules told stay -/
def okR2 (L LR : WL) : Bool := (noK LR 18 && (outL LR 1 6 && (outL LR 1 7 && outL LR 1 8))) && outL L 11 6
def okI2 (L : WL) : Bool := noK L 16 && noK L 24
theorem RMI.to {Z : Nat} {K N : Nat → Nat} {L LR : WL} {M M1 : MT} {R R1 : RT} (h : RMI Z K N M R) (hw : WIR Z K R) (f : FrB Z K L M M1) (g : FrB Z K LR R R1) (o : okR2 L LR = true) : RMI Z K N M1 R1 := by
  unfold okR2 at o
  simp only [Bool.and_eq_true] at o
  obtain ⟨⟨o1, o2, o3, o4⟩, o5⟩ := o
  obtain ⟨⟨z, a1, -⟩, -, -, -, -, ⟨-, k2, -, k4⟩, -⟩ := hw
  obtain ⟨en, ta, su, ⟨r1, r2, r3⟩, hB, d1, d2⟩ := h
  have e1 := f.at (show 0 < Z by omega) a1 o5
  have e2 := cnt_eq (fun j => g.kpa (show 3 < Z by omega) k2 o1 j)
  exact ⟨en, ta, su, ⟨g.kp (by omega) k4 o2 r1, g.kp (by omega) k4 o3 r2, g.kp (by omega) k4 o4 r3⟩, hB, by rw [e1, e2]; exact d1, by rw [e1, e2]; exact d2⟩
/-- a call that makes nothing -/
theorem LI.step {Z : Nat} {K N : Nat → Nat} {L LR : WL} {M M1 : MT} {R R1 : RT} (h : LI Z K N M R) (hT : Ty Z K N M1 R1) (f : FrB Z K L M M1) (g : FrB Z K LR R R1) (o1 : okW LR = true) (o2 : okR2 L LR = true) (o3 : okI2 L = true) (hx : XS K M M1) (hs : M1 81 6 = M 81 6) (hc : Codes M1 R1 69) : LI Z K N M1 R1 := by
  obtain ⟨⟨h1, h2⟩, hw, -, hr, hm⟩ := h
  refine ⟨⟨hT, h2⟩, hw.to (KG.rf (N := N)) g o1, hc, ?_, hm.to hw f g o2⟩
  unfold okR2 at o2
  unfold okI2 at o3
  simp only [Bool.and_eq_true] at o2 o3
  have hw2 := hw
  obtain ⟨⟨z, -, -⟩, -, -, -, -, ⟨-, k2, -, -⟩, -, -, k9, k10⟩ := hw2
  exact hr.to h1 hw (fun b _ hb => hx b hb) hs (fun j => g.kpa (by omega) k2 o2.1.1 j) (fun j => f.kpa (by omega) k10 o3.1 j) (fun j => f.kpa (by omega) k9 o3.2 j)
def okA (L LR : WL) : Bool := (okW LR && (okR2 L LR && okI2 L)) && ((outL L 10 6 && outL L 23 6) && (noK L 25 && (noK L 27 && (noK L 28 && outL L 12 2))))
theorem LI.plain {Z : Nat} {K N : Nat → Nat} {L LR : WL} {M M1 : MT} {R R1 : RT} (h : LI Z K N M R) (hT : Ty Z K N M1 R1) (f : FrB Z K L M M1) (g : FrB Z K LR R R1) (ff : Fr K L M M1) (o : okA L LR = true) : LI Z K N M1 R1 := by
  unfold okA at o
  rw [Bool.and_eq_true, Bool.and_eq_true, Bool.and_eq_true, Bool.and_eq_true, Bool.and_eq_true] at o
  obtain ⟨⟨o1, o2, o3⟩, ⟨o4, o5⟩, o6⟩ := o
  have hw := h.2.1
  exact h.step hT f g o1 o2 o3 (fun q hq => Fr.kp ff hq o4) (f.at (show 81 < Z by have := hw.1.1; omega) hw.2.2.2.2.2.2.2.1 o5) (h.2.2.1.toB hw f g o1 o6)
/-- a call that may have made cells -/
theorem LI.mk {Z Z1 : Nat} {K N K1 N1 : Nat → Nat} {L LR : WL} {M M1 : MT} {R R1 : RT} (h : LI Z K N M R) (hk : KG Z K N Z1 K1 N1) (hT : Ty Z1 K1 N1 M1 R1) (f : FrB Z K L M M1) (g : FrB Z K LR R R1) (o1 : okW LR = true) (o3 : okI2 L = true) (o4 : (noK L 25 && (noK L 27 && (noK L 28 && outL L 12 2))) = true) (hr : RLX M1 R1) (hm : RMI Z1 K1 N1 M1 R1) : LI Z1 K1 N1 M1 R1 := by
  obtain ⟨⟨h1, h2⟩, hw, hc, -, -⟩ := h
  refine ⟨⟨hT, fun a ha => ?_⟩, hw.to hk g o1, hc.toB hw f g o1 o4, hr, hm⟩
  by_cases q : a < Z
  · rw [(hk.2.1 a q).1]
    exact h2 a q
  · exact hk.2.2 a (by omega) ha
/-- rule -/
theorem LI.rule {Z : Nat} {K N : Nat → Nat} {L LR : WL} {M : MT} {R : RT} {u : mS} (h : LI Z K N M R) (ht : TM Z K N L LR M R u) (hq : RUQ Z K N M 0 u) (o1 : okW LR = true) (o3 : okI2 L = true) (o4 : (noK L 25 && (noK L 27 && (noK L 28 && outL L 12 2))) = true) (o5 : ((outL L 10 6 && outL L 23 6) && (noK LR 18 && (outL LR 1 6 && (outL LR 1 7 && outL LR 1 8)))) = true) : LI u.1 u.2.1 u.2.2.1 u.2.2.2.1 u.2.2.2.2.1 := by
  obtain ⟨Z1, K1, N1, M1, R1, J1⟩ := u
  obtain ⟨hk, hT, f, g⟩ := ht
  have hk : KG Z K N Z1 K1 N1 := hk
  have f : FrB Z K L M M1 := f
  have g : FrB Z K LR R R1 := g
  have hT : Ty Z1 K1 N1 M1 R1 := hT
  rw [Bool.and_eq_true, Bool.and_eq_true, Bool.and_eq_true, Bool.and_eq_true, Bool.and_eq_true] at o5
  obtain ⟨⟨p1, p2⟩, p3, p4, p5, p6⟩ := o5
  have hw := h.2.1
  obtain ⟨⟨z, a1, -⟩, -, -, -, -, ⟨-, k2, -, k4⟩, -, k8, k9, k10⟩ := id hw
  have o3' := o3
  unfold okI2 at o3'
  rw [Bool.and_eq_true] at o3'
  have hR : ∀ j, R1 3 j = R 3 j := fun j => g.kpa (by omega) k2 p3 j
  show LI Z1 K1 N1 M1 R1
  refine h.mk hk hT f g o1 o3 o4 (h.2.2.2.1.to h.1.1 hw (fun b hz hb => f.at hz hb p1) (f.at (by omega) k8 p2) hR (fun j => f.kpa (by omega) k10 o3'.1 j) (fun j => f.kpa (by omega) k9 o3'.2 j)) ?_
  obtain ⟨en, ta, su, ⟨r1, r2, r3⟩, ⟨hB1, hB2, hB3⟩, d1, d2⟩ := h.2.2.2.2
  have n1 := (hk.2.1 en (h.1.1.refn (show 61 < Z by omega) k4 (show rtR 1 6 = (38, 0, 0) from rfl) r1).1).2
  have n2 := (hk.2.1 ta (h.1.1.refn (show 61 < Z by omega) k4 (show rtR 1 7 = (39, 0, 0) from rfl) r2).1).2
  have n3 := (hk.2.1 su (h.1.1.refn (show 61 < Z by omega) k4 (show rtR 1 8 = (40, 0, 0) from rfl) r3).1).2
  refine ⟨en, ta, su, ⟨g.kp (by omega) k4 p4 r1, g.kp (by omega) k4 p5 r2, g.kp (by omega) k4 p6 r3⟩, ⟨by rw [n1]; exact hB1, by rw [n2]; exact hB2, by rw [n3]; exact hB3⟩, ?_⟩
  rw [n1, n2, n3, cnt_eq hR]
  rcases hq with ⟨⟨q1, q2⟩, q3⟩ | ⟨q1, q2, q3⟩
  · have q1 : Z1 = Z := q1
    have q2 : tot K1 N1 Z1 ≤ tot K N Z := q2
    have q3 : M1 0 6 = M 0 6 := q3
    rw [q3]
    exact ⟨by omega, by omega⟩
  · have q1 : Z1 ≤ Z + 3 := q1
    have q2 : tot K1 N1 Z1 ≤ tot K N Z + 410 := q2
    have q3 : (M1 0 6).toInt = (M 0 6).toInt + 1 := q3
    exact ⟨by omega, by omega⟩
/-- fits, tells -/
theorem LI.books {Z : Nat} {K N : Nat → Nat} {L LR : WL} {M : MT} {R : RT} {u : mS} (h : LI Z K N M R) (ht : TM Z K N L LR M R u) (hq : BG Z K N R 61 u) (o1 : okW LR = true) (o3 : okI2 L = true) (o4 : (noK L 25 && (noK L 27 && (noK L 28 && outL L 12 2))) = true) (o5 : ((outL L 10 6 && outL L 23 6) && (noK LR 18 && outL L 11 6)) = true) : LI u.1 u.2.1 u.2.2.1 u.2.2.2.1 u.2.2.2.2.1 := by
  obtain ⟨Z1, K1, N1, M1, R1, J1⟩ := u
  obtain ⟨hk, hT, f, g⟩ := ht
  have hk : KG Z K N Z1 K1 N1 := hk
  have f : FrB Z K L M M1 := f
  have g : FrB Z K LR R R1 := g
  have hT : Ty Z1 K1 N1 M1 R1 := hT
  rw [Bool.and_eq_true, Bool.and_eq_true, Bool.and_eq_true] at o5
  obtain ⟨⟨p1, p2⟩, p3, p4⟩ := o5
  have hw := h.2.1
  obtain ⟨⟨z, a1, -⟩, -, -, -, -, ⟨-, k2, -, k4⟩, -, k8, k9, k10⟩ := id hw
  have o3' := o3
  unfold okI2 at o3'
  rw [Bool.and_eq_true] at o3'
  have hR : ∀ j, R1 3 j = R 3 j := fun j => g.kpa (by omega) k2 p3 j
  show LI Z1 K1 N1 M1 R1
  refine h.mk hk hT f g o1 o3 o4 (h.2.2.2.1.to h.1.1 hw (fun b hz hb => f.at hz hb p1) (f.at (by omega) k8 p2) hR (fun j => f.kpa (by omega) k10 o3'.1 j) (fun j => f.kpa (by omega) k9 o3'.2 j)) ?_
  obtain ⟨en, ta, su, ⟨r1, r2, r3⟩, -, d1, d2⟩ := h.2.2.2.2
  obtain ⟨⟨e, t, s, e1, t1, s1, ⟨b1, b2, b3⟩, ⟨c1, c2, c3⟩, g1, g2⟩, e', t', s', x1, x2, x3, y1, y2, y3⟩ := hq
  rw [r1] at b1
  rw [r2] at b2
  rw [r3] at b3
  cases b1
  cases b2
  cases b3
  have c1 : R1 61 6 = some e1 := c1
  have c2 : R1 61 7 = some t1 := c2
  have c3 : R1 61 8 = some s1 := c3
  have x1 : R1 61 6 = some e' := x1
  have x2 : R1 61 7 = some t' := x2
  have x3 : R1 61 8 = some s' := x3
  rw [c1] at x1
  rw [c2] at x2
  rw [c3] at x3
  cases x1
  cases x2
  cases x3
  have g1 : tot K1 N1 Z1 + 2 * (N en + N ta + N su) ≤ tot K N Z + 2 * (N1 e1 + N1 t1 + N1 s1) := g1
  have g2 : 64 * Z1 + (N en + N ta + N su) ≤ 64 * Z + (N1 e1 + N1 t1 + N1 s1) := g2
  have q := f.at (show 0 < Z by omega) a1 p4
  refine ⟨e1, t1, s1, ⟨c1, c2, c3⟩, ⟨y1, y2, y3⟩, ?_⟩
  rw [q, cnt_eq hR]
  exact ⟨by omega, by omega⟩
/-- all but the relation of the x -/
def LJ (Z : Nat) (K N : Nat → Nat) (M : MT) (R : RT) : Prop := (Ty Z K N M R ∧ ∀ a, a < Z → K a ≠ 0) ∧ WIR Z K R ∧ Codes M R 69 ∧ RMI Z K N M R
theorem LI.lj {Z : Nat} {K N : Nat → Nat} {M : MT} {R : RT} (h : LI Z K N M R) : LJ Z K N M R := ⟨h.1, h.2.1, h.2.2.1, h.2.2.2.2⟩
theorem LJ.li {Z : Nat} {K N : Nat → Nat} {M : MT} {R : RT} (h : LJ Z K N M R) (hr : RLX M R) : LI Z K N M R := ⟨h.1, h.2.1, h.2.2.1, hr, h.2.2.2⟩
def okC (L : WL) : Bool := noK L 25 && (noK L 27 && (noK L 28 && outL L 12 2))
def okJ (L LR : WL) : Bool := okW LR && (okR2 L LR && okC L)
theorem LJ.step {Z : Nat} {K N : Nat → Nat} {L LR : WL} {M M1 : MT} {R R1 : RT} (h : LJ Z K N M R) (hT : Ty Z K N M1 R1) (f : FrB Z K L M M1) (g : FrB Z K LR R R1) (o : okJ L LR = true) : LJ Z K N M1 R1 := by
  unfold okJ at o
  rw [Bool.and_eq_true, Bool.and_eq_true] at o
  obtain ⟨o1, o2, o3⟩ := o
  obtain ⟨⟨h1, h2⟩, hw, hc, hm⟩ := h
  exact ⟨⟨hT, h2⟩, hw.to (KG.rf (N := N)) g o1, hc.toB hw f g o1 o3, hm.to hw f g o2⟩
/-- seed on both sides -/
theorem LI.seed {Z : Nat} {K N : Nat → Nat} {L1 LR1 L2 LR2 : WL} {M M1 M2 : MT} {R R1 R2 : RT} {x r1 r2 : Int32} (h : LI Z K N M R) (hT1 : Ty Z K N M1 R1) (f1 : FrB Z K L1 M M1) (g1 : FrB Z K LR1 R R1) (q1 : SDQ K M M1 4 x r1) (hT2 : Ty Z K N M2 R2) (f2 : FrB Z K L2 M1 M2) (g2 : FrB Z K LR2 R1 R2) (q2 : SMQ M1 M2 81 x r2) (o1 : okJ L1 LR1 = true) (o2 : okJ L2 LR2 = true) (o3 : (okI2 L1 && (okI2 L2 && (outL L1 23 6 && (outL L2 10 6 && (noK LR1 18 && noK LR2 18))))) = true) : r1 = r2 ∧ LI Z K N M2 R2 := by
  have j1 := h.lj.step hT1 f1 g1 o1
  have j2 := j1.step hT2 f2 g2 o2
  unfold okI2 at o3
  simp only [Bool.and_eq_true] at o3
  obtain ⟨⟨p1, p2⟩, ⟨p3, p4⟩, p5, p6, p7, p8⟩ := o3
  have hw := h.2.1
  obtain ⟨⟨z, a1, -⟩, -, -, -, -, ⟨k1, k2, -, -⟩, -, k8, k9, k10⟩ := id hw
  have hR : ∀ j, R2 3 j = R 3 j := fun j => (g2.kpa (by omega) k2 p8 j).trans (g1.kpa (by omega) k2 p7 j)
  have hI : ∀ j, M2 102 j = M 102 j := fun j => (f2.kpa (by omega) k9 p4 j).trans (f1.kpa (by omega) k9 p2 j)
  have hA : ∀ j, M2 103 j = M 103 j := fun j => (f2.kpa (by omega) k10 p3 j).trans (f1.kpa (by omega) k10 p1 j)
  have hs1 : M1 81 6 = M 81 6 := f1.at (by omega) k8 p5
  have hx2 : ∀ b, b < Z → K b = 10 → M2 b 6 = M1 b 6 := fun b hz hb => f2.at hz hb p6
  rcases q1 with ⟨x1, y1, z1⟩ | ⟨x1, y1, z1, w1⟩
  · rcases q2 with ⟨x2, y2, z2⟩ | ⟨x2, y2, z2⟩
    · exact ⟨Int32.toInt_inj.mp (y1.trans y2.symm), j2.li (h.2.2.2.1.to h.1.1 hw (fun b hz hb => (hx2 b hz hb).trans (z1 b hb)) (z2.trans hs1) hR hA hI)⟩
    · omega
  · rcases q2 with ⟨x2, y2, z2⟩ | ⟨x2, y2, z2⟩
    · omega
    · obtain ⟨h1, h2, h3⟩ := h.2.2.2.1
      refine ⟨by rw [y1, y2, hs1, h1], j2.li ⟨by rw [hx2 4 (by omega) k1, z1, z2], fun j hj => ?_, fun i j st hi hj e1 e2 => ?_⟩⟩
      · rcases h2 j hj with ⟨t1, t2⟩ | ⟨st, t1, t2, t3, t4⟩
        · exact Or.inl ⟨(hR j).trans t1, (hA j).trans t2⟩
        · obtain ⟨v1, v2⟩ := img_st h.1.1 hw t1
          exact Or.inr ⟨st, (hR j).trans t1, t2, by rw [hA]; exact t3, by rw [hx2 st v1 v2, w1 st v2 t2, hI, t4]⟩
      · rw [hR] at e1 e2
        exact h3 i j st hi hj e1 e2
/-- back on both sides -/
theorem LI.back {Z : Nat} {K N : Nat → Nat} {L1 LR1 L2 LR2 : WL} {M M1 M2 : MT} {R R1 R2 : RT} {k : Int32} (h : LI Z K N M R) (hT1 : Ty Z K N M1 R1) (f1 : FrB Z K L1 M M1) (g1 : FrB Z K LR1 R R1) (q1 : BXQ K M R M1 4 3 k) (hT2 : Ty Z K N M2 R2) (f2 : FrB Z K L2 M1 M2) (g2 : FrB Z K LR2 R1 R2) (q2 : (M2 81 6 = M1 102 (226 * k.toNatClampNeg + 6) ∧ ¬ M1 103 k.toNatClampNeg = 0 ∧ 0 ≤ k.toInt ∧ k.toInt ≤ 3) ∨ ((k.toInt < 0 ∨ 3 < k.toInt ∨ M1 103 k.toNatClampNeg = 0) ∧ (∀ n, M2 81 n = M1 81 n))) (o1 : okJ L1 LR1 = true) (o2 : okJ L2 LR2 = true) (o3 : (okI2 L1 && (okI2 L2 && (outL L1 23 6 && (outL L2 10 6 && (noK LR1 18 && noK LR2 18))))) = true) : LI Z K N M2 R2 := by
  have j1 := h.lj.step hT1 f1 g1 o1
  have j2 := j1.step hT2 f2 g2 o2
  unfold okI2 at o3
  simp only [Bool.and_eq_true] at o3
  obtain ⟨⟨p1, p2⟩, ⟨p3, p4⟩, p5, p6, p7, p8⟩ := o3
  have hw := h.2.1
  obtain ⟨⟨z, a1, -⟩, -, -, -, -, ⟨k1, k2, -, -⟩, -, k8, k9, k10⟩ := id hw
  have hR : ∀ j, R2 3 j = R 3 j := fun j => (g2.kpa (by omega) k2 p8 j).trans (g1.kpa (by omega) k2 p7 j)
  have hI1 : ∀ j, M1 102 j = M 102 j := fun j => f1.kpa (by omega) k9 p2 j
  have hA1 : ∀ j, M1 103 j = M 103 j := fun j => f1.kpa (by omega) k10 p1 j
  have hI : ∀ j, M2 102 j = M 102 j := fun j => (f2.kpa (by omega) k9 p4 j).trans (hI1 j)
  have hA : ∀ j, M2 103 j = M 103 j := fun j => (f2.kpa (by omega) k10 p3 j).trans (hA1 j)
  have hs1 : M1 81 6 = M 81 6 := f1.at (by omega) k8 p5
  have hx2 : ∀ b, b < Z → K b = 10 → M2 b 6 = M1 b 6 := fun b hz hb => f2.at hz hb p6
  obtain ⟨h1, h2, h3⟩ := id h.2.2.2.1
  rcases q1 with ⟨w1, w2⟩ | ⟨w1, st, w2, w3, w4⟩
  · rcases q2 with ⟨y1, y2, y3, y4⟩ | ⟨y1, y2⟩
    · rcases w1 with w1 | w1
      · omega
      · have c := ti_cl y3
        rcases h2 k.toNatClampNeg (by omega) with ⟨-, t⟩ | ⟨st, t, -⟩
        · rw [hA1] at y2
          exact absurd t y2
        · rw [w1] at t
          cases t
    · exact j2.li (h.2.2.2.1.to h.1.1 hw (fun b hz hb => (hx2 b hz hb).trans (w2 b hb)) ((y2 6).trans hs1) hR hA hI)
  · have c := ti_cl w1.1
    obtain ⟨t1, t2, t3⟩ : st ≠ 4 ∧ ¬ M 103 k.toNatClampNeg = 0 ∧ M st 6 = M 102 (226 * k.toNatClampNeg + 6) := by
      rcases h2 k.toNatClampNeg (by omega) with ⟨t, -⟩ | ⟨st', t, t1, t2, t3⟩
      · rw [w2] at t
        cases t
      · rw [w2] at t
        cases t
        exact ⟨t1, t2, t3⟩
    rcases q2 with ⟨y1, y2, y3, y4⟩ | ⟨y1, y2⟩
    · refine j2.li ⟨by rw [hx2 4 (by omega) k1, w3, y1, hI1, t3], fun j hj => ?_, fun i j s' hi hj e1 e2 => ?_⟩
      · rcases h2 j hj with ⟨s1, s2⟩ | ⟨s', s1, s2, s3, s4⟩
        · exact Or.inl ⟨(hR j).trans s1, (hA j).trans s2⟩
        · obtain ⟨v1, v2⟩ := img_st h.1.1 hw s1
          exact Or.inr ⟨s', (hR j).trans s1, s2, by rw [hA]; exact s3, by rw [hx2 s' v1 v2, w4 s' v2 s2, hI, s4]⟩
      · rw [hR] at e1 e2
        exact h3 i j s' hi hj e1 e2
    · rcases y1 with y1 | y1 | y1
      · omega
      · omega
      · rw [hA1] at y1
        exact absurd y1 t2
/-- image on the class's side -/
theorem LI.image {Z : Nat} {K N : Nat → Nat} {L LR : WL} {M : MT} {R : RT} {u : mS} {k : Int32} (h : LI Z K N M R) (ht : TM Z K N L LR M R u) (hq : IMQ Z K N M R 4 3 k u) (o1 : okW LR = true) (o4 : okC L = true) (o5 : (outL L 11 6 && (outL LR 1 6 && (outL LR 1 7 && outL LR 1 8))) = true) : LJ u.1 u.2.1 u.2.2.1 u.2.2.2.1 u.2.2.2.2.1 := by
  obtain ⟨Z1, K1, N1, M1, R1, J1⟩ := u
  obtain ⟨hk, hT, f, g⟩ := ht
  have hk : KG Z K N Z1 K1 N1 := hk
  have f : FrB Z K L M M1 := f
  have g : FrB Z K LR R R1 := g
  have hT : Ty Z1 K1 N1 M1 R1 := hT
  rw [Bool.and_eq_true, Bool.and_eq_true, Bool.and_eq_true] at o5
  obtain ⟨p1, p4, p5, p6⟩ := o5
  obtain ⟨⟨h1, h2⟩, hw, hc, hx, hm⟩ := h
  obtain ⟨⟨z, a1, -⟩, -, -, -, -, ⟨-, k2, -, k4⟩, -⟩ := id hw
  refine ⟨⟨hT, fun a ha => ?_⟩, hw.to hk g o1, hc.toB hw f g o1 o4, ?_⟩
  · show K1 a ≠ 0
    by_cases q : a < Z
    · rw [(hk.2.1 a q).1]
      exact h2 a q
    · exact hk.2.2 a (by omega) ha
  obtain ⟨en, ta, su, ⟨r1, r2, r3⟩, ⟨hB1, hB2, hB3⟩, d1, d2⟩ := hm
  have n1 := (hk.2.1 en (h1.refn (show 61 < Z by omega) k4 (show rtR 1 6 = (38, 0, 0) from rfl) r1).1).2
  have n2 := (hk.2.1 ta (h1.refn (show 61 < Z by omega) k4 (show rtR 1 7 = (39, 0, 0) from rfl) r2).1).2
  have n3 := (hk.2.1 su (h1.refn (show 61 < Z by omega) k4 (show rtR 1 8 = (40, 0, 0) from rfl) r3).1).2
  show RMI Z1 K1 N1 M1 R1
  refine ⟨en, ta, su, ⟨g.kp (by omega) k4 p4 r1, g.kp (by omega) k4 p5 r2, g.kp (by omega) k4 p6 r3⟩, ⟨by rw [n1]; exact hB1, by rw [n2]; exact hB2, by rw [n3]; exact hB3⟩, ?_⟩
  rw [n1, n2, n3, f.at (show 0 < Z by omega) a1 p1]
  rcases hq with ⟨-, ⟨q1, q2⟩, -, q3⟩ | ⟨q0, st, q1, -, -, q4, q5⟩
  · have q1 : Z1 = Z := q1
    have q2 : tot K1 N1 Z1 ≤ tot K N Z := q2
    rw [cnt_eq (R := R) (R1 := R1) q3]
    exact ⟨by omega, by omega⟩
  · have c := ti_cl q0.1
    rcases q5 with ⟨y1, y2, y3⟩ | ⟨y1, y2, y3, y4⟩
    · have y2 : Z1 = Z := y2
      have y3 : tot K1 N1 Z1 ≤ tot K N Z := y3
      rw [cnt_old (R := R) (R1 := R1) q4 y1 q1]
      exact ⟨by omega, by omega⟩
    · have y3 : Z1 = Z + 8 := y3
      have y4 : tot K1 N1 Z1 ≤ tot K N Z + 232 := y4
      rw [cnt_new (R := R) (R1 := R1) (show k.toNatClampNeg < 4 by omega) q4 y1 q1]
      exact ⟨by omega, by omega⟩
/-- image on both sides -/
theorem LI.image2 {Z Z1 : Nat} {K N K1 N1 : Nat → Nat} {L1 LR1 L2 LR2 : WL} {M M1 M2 : MT} {R R1 R2 : RT} {J1 : JT} {k : Int32} (h : LI Z K N M R) (ht : TM Z K N L1 LR1 M R (Z1, K1, N1, M1, R1, J1)) (hq : IMQ Z K N M R 4 3 k (Z1, K1, N1, M1, R1, J1)) (hj : LJ Z1 K1 N1 M1 R1) (hT2 : Ty Z1 K1 N1 M2 R2) (f2 : FrB Z1 K1 L2 M1 M2) (g2 : FrB Z1 K1 LR2 R1 R2) (q2 : (M2 102 (226 * k.toNatClampNeg + 6) = M1 81 6 ∧ (∀ n, n < 4 → n ≠ k.toNatClampNeg → M2 102 (226 * n + 6) = M1 102 (226 * n + 6)) ∧ M2 103 k.toNatClampNeg = 1 ∧ (∀ n, n ≠ k.toNatClampNeg → M2 103 n = M1 103 n) ∧ 0 ≤ k.toInt ∧ k.toInt ≤ 3) ∨ ((k.toInt < 0 ∨ 3 < k.toInt) ∧ (∀ n, M2 102 n = M1 102 n) ∧ (∀ n, M2 103 n = M1 103 n))) (o2 : okJ L2 LR2 = true) (o3 : (okI2 L1 && (outL L1 23 6 && (outL L2 10 6 && (outL L2 23 6 && noK LR2 18)))) = true) : LI Z1 K1 N1 M2 R2 := by
  have j2 := hj.step hT2 f2 g2 o2
  unfold okI2 at o3
  simp only [Bool.and_eq_true] at o3
  obtain ⟨⟨p1, p2⟩, p3, p4, p5, p6⟩ := o3
  obtain ⟨hk, hT1, f1, g1⟩ := ht
  have hk : KG Z K N Z1 K1 N1 := hk
  have f1 : FrB Z K L1 M M1 := f1
  have g1 : FrB Z K LR1 R R1 := g1
  have hT1 : Ty Z1 K1 N1 M1 R1 := hT1
  have hw := h.2.1
  have hw1 := hj.2.1
  obtain ⟨⟨z, a1, -⟩, -, -, -, -, ⟨k1, k2, -, -⟩, -, k8, k9, k10⟩ := id hw
  obtain ⟨⟨z', a1', -⟩, -, -, -, -, ⟨k1', k2', -, -⟩, -, k8', k9', k10'⟩ := id hw1
  have hR2 : ∀ j, R2 3 j = R1 3 j := fun j => g2.kpa (by omega) k2' p6 j
  have hI1 : ∀ j, M1 102 j = M 102 j := fun j => f1.kpa (by omega) k9 p2 j
  have hA1 : ∀ j, M1 103 j = M 103 j := fun j => f1.kpa (by omega) k10 p1 j
  have hs1 : M1 81 6 = M 81 6 := f1.at (by omega) k8 p3
  have hs2 : M2 81 6 = M1 81 6 := f2.at (by omega) k8' p5
  have hx2 : ∀ b, b < Z1 → K1 b = 10 → M2 b 6 = M1 b 6 := fun b hz hb => f2.at hz hb p4
  obtain ⟨h1, h2, h3⟩ := id h.2.2.2.1
  rcases hq with ⟨q0, -, q1, q3⟩ | ⟨q0, st, q1, q3, q4, q5, q6⟩
  · have q1 : ∀ b, b < Z → K b = 10 → M1 b 6 = M b 6 := q1
    have q3 : ∀ j, R1 3 j = R 3 j := q3
    rcases q2 with ⟨-, -, -, -, y1, y2⟩ | ⟨-, y1, y2⟩
    · omega
    · exact j2.li (h.2.2.2.1.to h.1.1 hw (fun b hz hb => (hx2 b (by have := hk.1; omega) ((hk.2.1 b hz).1.trans hb)).trans (q1 b hz hb)) (hs2.trans hs1) (fun j => (hR2 j).trans (q3 j)) (fun j => (y2 j).trans (hA1 j)) (fun j => (y1 j).trans (hI1 j)))
  · have q1 : R1 3 k.toNatClampNeg = some st := q1
    have q3 : M1 st 6 = M 4 6 := q3
    have q4 : ∀ b, b < Z → K b = 10 → b ≠ st → M1 b 6 = M b 6 := q4
    have q5 : ∀ j, j ≠ k.toNatClampNeg → R1 3 j = R 3 j := q5
    have c := ti_cl q0.1
    rcases q2 with ⟨y1, y2, y3, y4, -, -⟩ | ⟨y1, -⟩
    · have s4 : st ≠ 4 := by
        rcases q6 with ⟨q6, -⟩ | ⟨-, q6, -⟩
        · rcases h2 k.toNatClampNeg (by omega) with ⟨t, -⟩ | ⟨s', t, t1, -⟩
          · rw [q6] at t
            cases t
          · rw [q6] at t
            cases t
            exact t1
        · omega
      have sne : ∀ j s', j < 4 → j ≠ k.toNatClampNeg → R 3 j = some s' → s' ≠ st := fun j s' hj4 hj2 e => by
        rcases q6 with ⟨q6, -⟩ | ⟨-, q6, -⟩
        · intro es
          rw [es] at e
          exact hj2 (h3 j k.toNatClampNeg st hj4 (by omega) e q6)
        · have := (img_st h.1.1 hw e).1
          omega
      obtain ⟨v1, v2⟩ := img_st hT1 hw1 q1
      refine j2.li ⟨by rw [hx2 4 (by omega) k1', q4 4 (by omega) k1 (fun e => s4 e.symm), hs2, hs1, h1], fun j hj4 => ?_, fun i j s' hi hj4 e1 e2 => ?_⟩
      · by_cases ej : j = k.toNatClampNeg
        · subst ej
          refine Or.inr ⟨st, (hR2 _).trans q1, s4, by rw [y3]; decide, by rw [hx2 st v1 v2, q3, y1, hs1, h1]⟩
        · rcases h2 j hj4 with ⟨t1, t2⟩ | ⟨s', t1, t2, t3, t4⟩
          · exact Or.inl ⟨(hR2 j).trans ((q5 j ej).trans t1), (y4 j ej).trans ((hA1 j).trans t2)⟩
          · obtain ⟨g3, g4⟩ := img_st h.1.1 hw t1
            refine Or.inr ⟨s', (hR2 j).trans ((q5 j ej).trans t1), t2, by rw [y4 j ej, hA1]; exact t3, ?_⟩
            rw [hx2 s' (by have := hk.1; omega) ((hk.2.1 s' g3).1.trans g4), q4 s' g3 g4 (sne j s' hj4 ej t1), y2 j hj4 ej, hI1, t4]
      · rw [hR2] at e1 e2
        by_cases ei : i = k.toNatClampNeg
        · by_cases ej : j = k.toNatClampNeg
          · rw [ei, ej]
          · rw [ei, q1] at e1
            rw [q5 j ej] at e2
            cases e1
            exact absurd rfl (sne j _ hj4 ej e2)
        · by_cases ej : j = k.toNatClampNeg
          · rw [ej, q1] at e2
            rw [q5 i ei] at e1
            cases e2
            exact absurd rfl (sne i _ hi ei e1)
          · rw [q5 i ei] at e1
            rw [q5 j ej] at e2
            exact h3 i j s' hi hj4 e1 e2
    · omega
