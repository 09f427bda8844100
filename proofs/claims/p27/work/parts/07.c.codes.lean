/-! the check's codes: the height of the stack along a stretch of signs -/
theorem Fr.kpa {α : Type} {K : Nat → Nat} {L : WL} {M M1 : Nat → Nat → α} (h : Fr K L M M1) {b kd : Nat} (hk : K b = kd) (ho : L.all (fun e => !(kd == e.1)) = true) (k : Nat) : M1 b k = M b k := h b k (by
  rw [hk]
  intro ⟨e, he, q1, q2, q3⟩
  have q := List.all_eq_true.mp ho e he
  simp only [Bool.not_eq_true', beq_eq_false_iff_ne] at q
  exact q q1)
theorem Fr.nil {α : Type} {K : Nat → Nat} {L : WL} {M M1 : Nat → Nat → α} (h : Fr K L M M1) (hL : L = []) : M = M1 := funext fun b => funext fun k => (h b k (by
  subst hL
  exact fun ⟨e, he, _⟩ => absurd he List.not_mem_nil)).symm
def stp (c : Int32) (h : Nat) : Option Nat :=
  if (c &&& 15) = 0 then (if h < 64 then some (h + 1) else none)
  else if (c &&& 15) = 1 then (if h < 64 ∧ 0 ≤ (c >>> ((4 : Int32) &&& 31)).toInt ∧ (c >>> ((4 : Int32) &&& 31)).toInt ≤ 9 then some (h + 1) else none)
  else if (c &&& 15) = 11 then (if 1 ≤ h then some h else none)
  else (if 2 ≤ h then some (h - 1) else none)
def hgt (f : Nat → Int32) : Nat → Option Nat
  | 0 => some 0
  | n + 1 => (hgt f n).bind (stp (f n))
theorem hgt_cong {f g : Nat → Int32} : ∀ n, (∀ i, i < n → f i = g i) → hgt f n = hgt g n
  | 0, _ => rfl
  | n + 1, h => by
    unfold hgt
    rw [hgt_cong n (fun i hi => h i (by omega)), h n (by omega)]
theorem hgt_pre {f : Nat → Int32} {h : Nat} : ∀ n, hgt f n = some h → ∀ m, m ≤ n → ∃ h', hgt f m = some h'
  | 0, e, m, hm => by
    have : m = 0 := by omega
    subst this
    exact ⟨h, e⟩
  | n + 1, e, m, hm => by
    by_cases q : m = n + 1
    · subst q
      exact ⟨h, e⟩
    · unfold hgt at e
      obtain ⟨h1, e1, -⟩ := Option.bind_eq_some_iff.mp e
      exact hgt_pre n e1 m (by omega)
def SEG (M : MT) (sg T b e h : Nat) : Prop := hgt (fun i => M sg (400 * T + b + i)) (e - b) = some h
theorem SEG.new {M : MT} {sg T b : Nat} : SEG M sg T b b 0 := by
  unfold SEG
  rw [Nat.sub_self]
  rfl
theorem SEG.cast {M : MT} {sg T b e h e2 h2 : Nat} (q : SEG M sg T b e h) (h1 : e = e2) (h3 : h = h2) : SEG M sg T b e2 h2 := by
  subst h1
  subst h3
  exact q
theorem SEG.to {M M1 : MT} {sg T b e h : Nat} (q : SEG M sg T b e h) (hm : ∀ j, 400 * T ≤ j → j < 400 * T + e → M1 sg j = M sg j) : SEG M1 sg T b e h := by
  unfold SEG at q ⊢
  rw [← q]
  exact hgt_cong _ (fun i hi => hm _ (by omega) (by omega))
theorem SEG.put {M : MT} {sg T b e h h2 : Nat} (q : SEG M sg T b e h) (hb : b ≤ e) (hs : stp (M sg (400 * T + e)) h = some h2) : SEG M sg T b (e + 1) h2 := by
  unfold SEG at q ⊢
  rw [show e + 1 - b = (e - b) + 1 by omega]
  unfold hgt
  rw [q, show 400 * T + b + (e - b) = 400 * T + e by omega]
  exact hs
theorem SEG.un {M : MT} {sg T b e h h2 : Nat} (q : SEG M sg T b e h) (q2 : SEG M sg T b e h2) : h = h2 := by
  unfold SEG at q q2
  rw [q] at q2
  exact Option.some.inj q2
/-- a step of the reckoning -/
theorem seg_step {M : MT} {sg T b e h i k : Nat} (q : SEG M sg T b e h) (hb : b ≤ i) (hi : i < e) (q1 : SEG M sg T b i k) : ∃ h2, stp (M sg (400 * T + i)) k = some h2 ∧ SEG M sg T b (i + 1) h2 := by
  unfold SEG at q
  obtain ⟨h2, e2⟩ := hgt_pre _ q (i + 1 - b) (by omega)
  have e3 : SEG M sg T b (i + 1) h2 := e2
  rw [show i + 1 - b = (i - b) + 1 by omega] at e2
  unfold hgt at e2
  obtain ⟨k1, e4, e5⟩ := Option.bind_eq_some_iff.mp e2
  have ek : k1 = k := by
    have q2 : SEG M sg T b i k1 := e4
    exact q2.un q1
  subst ek
  rw [show 400 * T + b + (i - b) = 400 * T + i by omega] at e5
  exact ⟨h2, e5, e3⟩
theorem stp_0 {c s : Int32} {h h2 : Nat} (es : s = c &&& 15) (q : stp c h = some h2) (hs : s = 0) : h < 64 ∧ h2 = h + 1 := by
  unfold stp at q
  rw [← es, if_pos hs] at q
  split at q
  · rename_i g
    exact ⟨g, (Option.some.inj q).symm⟩
  · cases q
theorem stp_1 {c s v : Int32} {h h2 : Nat} (es : s = c &&& 15) (ev : v = c >>> ((4 : Int32) &&& 31)) (q : stp c h = some h2) (h0 : ¬ s = 0) (hs : s = 1) : h < 64 ∧ h2 = h + 1 ∧ 0 ≤ v.toInt ∧ v.toInt ≤ 9 := by
  unfold stp at q
  rw [← es, if_neg h0, if_pos hs, ← ev] at q
  split at q
  · rename_i g
    exact ⟨g.1, (Option.some.inj q).symm, g.2.1, g.2.2⟩
  · cases q
theorem stp_n {c s : Int32} {h h2 : Nat} (es : s = c &&& 15) (q : stp c h = some h2) (h0 : ¬ s = 0) (h1 : ¬ s = 1) (hs : s = 11) : 1 ≤ h ∧ h2 = h := by
  unfold stp at q
  rw [← es, if_neg h0, if_neg h1, if_pos hs] at q
  split at q
  · rename_i g
    exact ⟨g, (Option.some.inj q).symm⟩
  · cases q
theorem stp_b {c s : Int32} {h h2 : Nat} (es : s = c &&& 15) (q : stp c h = some h2) (h0 : ¬ s = 0) (h1 : ¬ s = 1) (hs : ¬ s = 11) : 2 ≤ h ∧ h2 = h - 1 := by
  unfold stp at q
  rw [← es, if_neg h0, if_neg h1, if_neg hs] at q
  split at q
  · rename_i g
    exact ⟨g, (Option.some.inj q).symm⟩
  · cases q
def Codes (M : MT) (R : RT) (a : Nat) : Prop := ∀ sg cl cs, R a 3 = some sg → R a 5 = some cl → R a 6 = some cs → ∀ t k : Nat, (t : Int) < (M a 2).toInt → (k : Int) < (M cs t).toInt →
  (M cl (36 * t + 3 * k + 1)).toInt < 0 ∨ ((M cl (36 * t + 3 * k + 1)).toInt ≤ (M cl (36 * t + 3 * k + 2)).toInt ∧ (M cl (36 * t + 3 * k + 2)).toInt ≤ 400 ∧ SEG M sg t (M cl (36 * t + 3 * k + 1)).toNatClampNeg (M cl (36 * t + 3 * k + 2)).toNatClampNeg 1)
theorem Codes.fr {Z : Nat} {K N : Nat → Nat} {L LR : WL} {M M1 : MT} {R R1 : RT} {a : Nat} (h : Codes M R a) (hT : Ty Z K N M R) (hz : a < Z) (ha : K a = 12) (f : Fr K L M M1) (g : Fr K LR R R1) (h1 : (L.all (fun e => !(25 == e.1)) && (L.all (fun e => !(27 == e.1)) && (L.all (fun e => !(28 == e.1)) && (outL L 12 2 && (outL LR 12 3 && (outL LR 12 5 && outL LR 12 6)))))) = true) : Codes M1 R1 a := by
  simp only [Bool.and_eq_true] at h1
  obtain ⟨o1, o2, o3, o4, o5, o6, o7⟩ := h1
  intro sg cl cs r1 r2 r3 t k ht hk
  rw [g.kp ha o5] at r1
  rw [g.kp ha o6] at r2
  rw [g.kp ha o7] at r3
  obtain ⟨-, k1, -⟩ := hT.refn hz ha (show rtR 12 3 = (25, 2400, 0) from rfl) r1
  obtain ⟨-, k2, -⟩ := hT.refn hz ha (show rtR 12 5 = (27, 216, 0) from rfl) r2
  obtain ⟨-, k3, -⟩ := hT.refn hz ha (show rtR 12 6 = (28, 6, 0) from rfl) r3
  rw [f.kp ha o4] at ht
  rw [f.kpa k3 o3] at hk
  rw [f.kpa k2 o2, f.kpa k2 o2]
  rcases h sg cl cs r1 r2 r3 t k ht hk with q | ⟨q1, q2, q3⟩
  · exact Or.inl q
  · exact Or.inr ⟨q1, q2, q3.to (fun j _ _ => f.kpa k1 o1 j)⟩
