/-! memory that grows: makers -/
def csz (ka na : Nat) : Nat := if ka ≤ 12 then md_nf (ka - 1) else na
def tot (K N : Nat → Nat) : Nat → Nat
  | 0 => 0
  | z + 1 => tot K N z + csz (K z) (N z)
theorem tot_s (K N : Nat → Nat) (z : Nat) : tot K N (z + 1) = tot K N z + csz (K z) (N z) := rfl
theorem tot_mono {K N : Nat → Nat} {z : Nat} : ∀ {z1 : Nat}, z ≤ z1 → tot K N z ≤ tot K N z1
  | 0, h => by
    have e : z = 0 := by omega
    rw [e]
    exact Nat.le_refl _
  | n + 1, h => by
    by_cases q : z = n + 1
    · rw [q]
      exact Nat.le_refl _
    · exact Nat.le_trans (tot_mono (z1 := n) (by omega)) (Nat.le_add_right _ _)
theorem tot_eq {K N K1 N1 : Nat → Nat} : ∀ {z : Nat}, (∀ b, b < z → K1 b = K b ∧ N1 b = N b) → tot K1 N1 z = tot K N z
  | 0, _ => rfl
  | n + 1, h => by
    rw [tot_s, tot_s, tot_eq (z := n) (fun b hb => h b (by omega)), (h n (by omega)).1, (h n (by omega)).2]
theorem md_csz {D : va_G} {cy : Nat → ClassId} {base a ka na : Nat} {ma : Nat → Int32} {ra : Nat → Option Nat} {ja : Nat → Int64} {H : Heap} (h : md_at D cy base a ka na ma ra ja H) : ∃ cell : Cell, H[base + a]? = some cell ∧ cell.slots.size = csz ka na := by
  unfold md_at at h
  unfold csz
  by_cases q : ka ≤ 12
  · rw [if_pos q] at h ⊢
    exact h.2
  · rw [if_neg q] at h ⊢
    refine ⟨_, h, ?_⟩
    unfold md_cell
    split
    · exact arrV_size _ _ _
    · split
      · exact arrV_size _ _ _
      · exact arrV_size _ _ _
theorem drop_sum {K N : Nat → Nat} {base : Nat} (l : List Cell) : ∀ (n z0 : Nat), l.length = base + (z0 + n) → (∀ a, z0 ≤ a → a < z0 + n → ∃ c : Cell, l[base + a]? = some c ∧ c.slots.size = csz (K a) (N a)) → tot K N z0 + ((l.drop (base + z0)).map (fun c => c.slots.size)).sum = tot K N (z0 + n)
  | 0, z0, hl, _ => by
    have e : l.drop (base + z0) = [] := List.drop_eq_nil_of_le (by omega)
    rw [e]
    rfl
  | n + 1, z0, hl, h => by
    obtain ⟨c, h1, h2⟩ := h z0 (Nat.le_refl _) (by omega)
    have hlt : base + z0 < l.length := by omega
    have e : l.drop (base + z0) = l[base + z0] :: l.drop (base + z0 + 1) := List.drop_eq_getElem_cons hlt
    have e2 : l[base + z0] = c := by
      rw [List.getElem?_eq_getElem hlt] at h1
      exact Option.some.inj h1
    rw [e, e2, List.map_cons, List.sum_cons, h2]
    have ih := drop_sum l n (z0 + 1) (by omega) (fun a g1 g2 => h a (by omega) (by omega))
    rw [tot_s] at ih
    rw [show base + z0 + 1 = base + (z0 + 1) by omega, show z0 + (n + 1) = z0 + 1 + n by omega, ← ih]
    omega
theorem md_sum {D : va_G} {cy : Nat → ClassId} {base Z Z0 : Nat} {K N : Nat → Nat} {M : MT} {R : RT} {J : JT} {H : Heap} (hP : md_P D cy base Z K N M R J H) (hz : H.size = base + Z) (h0 : Z0 ≤ Z) (hk : ∀ a, Z0 ≤ a → a < Z → K a ≠ 0) : tot K N Z0 + ((H.toList.drop (base + Z0)).map (fun c => c.slots.size)).sum = tot K N Z := by
  have e := drop_sum (K := K) (N := N) (base := base) H.toList (Z - Z0) Z0 (by rw [Array.length_toList, hz]; omega) (fun a g1 g2 => by
    obtain ⟨c, q1, q2⟩ := md_csz (hP a (by omega) (hk a g1 (by omega)))
    exact ⟨c, by rw [Array.getElem?_toList]; exact q1, q2⟩)
  rw [show Z0 + (Z - Z0) = Z by omega] at e
  exact e
/-- the memory has grown; below it is as it was; Ma, Ra: the entry's memory told anew -/
def GR (Z0 : Nat) (K0 N0 : Nat → Nat) (Ma0 : MT) (Ra0 : RT) (Z : Nat) (K N : Nat → Nat) (Ma : MT) (Ra : RT) : Prop :=
  Z0 ≤ Z ∧ (∀ b, b < Z0 → K b = K0 b ∧ N b = N0 b ∧ Ma b = Ma0 b ∧ Ra b = Ra0 b) ∧ ∀ b, Z0 ≤ b → b < Z → K b ≠ 0
theorem GR.rf {Z : Nat} {K N : Nat → Nat} {Ma : MT} {Ra : RT} : GR Z K N Ma Ra Z K N Ma Ra := ⟨Nat.le_refl _, fun _ _ => ⟨rfl, rfl, rfl, rfl⟩, fun b h1 h2 => absurd h1 (by omega)⟩
theorem GR.tr {Z0 Z Z2 : Nat} {K0 N0 K N K2 N2 : Nat → Nat} {Ma0 Ma Ma2 : MT} {Ra0 Ra Ra2 : RT} (h1 : GR Z0 K0 N0 Ma0 Ra0 Z K N Ma Ra) (h2 : GR Z K N Ma Ra Z2 K2 N2 Ma2 Ra2) : GR Z0 K0 N0 Ma0 Ra0 Z2 K2 N2 Ma2 Ra2 := by
  refine ⟨Nat.le_trans h1.1 h2.1, fun b hb => ?_, fun b g1 g2 => ?_⟩
  · obtain ⟨a1, a2, a3, a4⟩ := h1.2.1 b hb
    obtain ⟨b1, b2, b3, b4⟩ := h2.2.1 b (Nat.lt_of_lt_of_le hb h1.1)
    exact ⟨b1.trans a1, b2.trans a2, b3.trans a3, b4.trans a4⟩
  · by_cases q : b < Z
    · rw [(h2.2.1 b q).1]
      exact h1.2.2 b g1 q
    · exact h2.2.2 b (by omega) g2
section GRs
variable {Z0 Z : Nat} {K0 N0 K N : Nat → Nat} {Ma0 Ma : MT} {Ra0 Ra : RT}
theorem GR.z (h : GR Z0 K0 N0 Ma0 Ra0 Z K N Ma Ra) {b : Nat} (hb : b < Z0) : b < Z := Nat.lt_of_lt_of_le hb h.1
theorem GR.k (h : GR Z0 K0 N0 Ma0 Ra0 Z K N Ma Ra) {b t : Nat} (hb : b < Z0) (hk : K0 b = t) : K b = t := (h.2.1 b hb).1.trans hk
theorem GR.n (h : GR Z0 K0 N0 Ma0 Ra0 Z K N Ma Ra) {b t : Nat} (hb : b < Z0) (hk : N0 b = t) : N b = t := (h.2.1 b hb).2.1.trans hk
theorem GR.m (h : GR Z0 K0 N0 Ma0 Ra0 Z K N Ma Ra) {b k : Nat} {v : Int32} (hb : b < Z0) (hk : Ma0 b k = v) : Ma b k = v := (congrFun (h.2.1 b hb).2.2.1 k).trans hk
theorem GR.r (h : GR Z0 K0 N0 Ma0 Ra0 Z K N Ma Ra) {b k : Nat} {v : Option Nat} (hb : b < Z0) (hk : Ra0 b k = v) : Ra b k = v := (congrFun (h.2.1 b hb).2.2.2 k).trans hk
theorem GR.tot (h : GR Z0 K0 N0 Ma0 Ra0 Z K N Ma Ra) : tot K N Z0 = tot K0 N0 Z0 := tot_eq fun b hb => ⟨(h.2.1 b hb).1, (h.2.1 b hb).2.1⟩
end GRs
def FrB {α : Type} (Z : Nat) (K : Nat → Nat) (L : WL) (M M1 : Nat → Nat → α) : Prop := ∀ b, b < Z → ∀ k, ¬ inL L (K b) k → M1 b k = M b k
theorem FrB.kp {α : Type} {Z : Nat} {K : Nat → Nat} {L : WL} {M M1 : Nat → Nat → α} (h : FrB Z K L M M1) {b kd k : Nat} (hz : b < Z) (hk : K b = kd) (ho : outL L kd k = true) {v : α} (e : M b k = v) : M1 b k = v := (h b hz k (by rw [hk]; exact outL_of ho)).trans e
def TM (Z : Nat) (K N : Nat → Nat) (L LR : WL) (Ma : MT) (Ra : RT) (u : mS) : Prop :=
  (Z ≤ u.1 ∧ (∀ b, b < Z → u.2.1 b = K b ∧ u.2.2.1 b = N b) ∧ ∀ b, Z ≤ b → b < u.1 → u.2.1 b ≠ 0) ∧ Ty u.1 u.2.1 u.2.2.1 u.2.2.2.1 u.2.2.2.2.1 ∧ FrB Z K L Ma u.2.2.2.1 ∧ FrB Z K LR Ra u.2.2.2.2.1
theorem okR.grow {Z Z1 : Nat} {K N K1 N1 : Nat → Nat} {na kd k : Nat} {r : Option Nat} (hz : Z ≤ Z1) (h : ∀ b, b < Z → K1 b = K b ∧ N1 b = N b) (q : okR Z K N na kd k r) : okR Z1 K1 N1 na kd k r := by
  unfold okR at q ⊢
  cases r with
  | none => exact q
  | some b =>
    obtain ⟨q1, q2, q3⟩ := q
    exact ⟨Nat.lt_of_lt_of_le q1 hz, (h b q1).1.trans q2, fun g => (h b q1).2.trans (q3 g)⟩
/-- references as results -/
abbrev mQr (D : va_G) (cy : Nat → ClassId) (tx : (Nat → Nat) × (Nat → Nat)) (base : Nat) (post : Nat → mS → Prop) : Array Value → State → Outcome → State → Prop := va_Qr (S := Nat × mS) (fun w => post w.1 w.2) (fun w a t => a = base + w.1 ∧ md_B D cy tx base w.2 t) (fun q => base ≤ q)
section MK
variable {p : Program} {l : Launch} {e : Env} {Rm : Room} {s : State} {m : MethodId} {args : Array Value} {below : List Frame} {meth : Method} {c : Code} {H : Heap} {locs : List Loc} {cells slots : Nat} {Q : State → Prop}
variable {cc : ByteArray} {pc : Nat} {ls : Array Slot} {rest st : List Value} {D : va_G} {cy : Nat → ClassId} {tx : (Nat → Nat) × (Nat → Nat)} {base Z : Nat} {K N : Nat → Nat} {L LR : WL} {Ma M : MT} {Ra R : RT} {J : JT}
variable {Z0 : Nat} {K0 N0 : Nat → Nat} {Ma0 : MT} {Ra0 : RT}
theorem W.tight {k n : Nat} {g : JFrame} (h1 : H.size ≤ s.heap.size + k) (h2 : ((H.toList.drop s.heap.size).map (fun c => c.slots.size)).sum ≤ n) (kk : W p l e Rm s m args below meth c H locs k n Q g) : W p l e Rm s m args below meth c H locs cells slots Q g := by
  intro T hT X
  have q : s.sameButNew (T.setVm s.vm) locs k n := by
    obtain ⟨a1, a2, a3, a4, a5, a6⟩ := X.same
    subst hT
    exact ⟨a1, a2, h1, a4, h2, a6⟩
  exact kk T hT { X with same := q }
theorem W.know {g : JFrame} (kk : H.size ≤ s.heap.size + cells → ((H.toList.drop s.heap.size).map (fun c => c.slots.size)).sum ≤ slots → W p l e Rm s m args below meth c H locs cells slots Q g) : W p l e Rm s m args below meth c H locs cells slots Q g := fun T hT X => kk (by rw [← hT]; exact X.same.2.2.1) (by rw [← hT]; exact X.same.2.2.2.2.1) T hT X
theorem tw_tight {k n : Nat} {g : JFrame} (hS : SB D cy base Z K N L LR Ma Ra M R J s H locs) (hs : s.heap.size = base + Z0) (hGR : GR Z0 K0 N0 Ma0 Ra0 Z K N Ma Ra) (h1 : Z ≤ Z0 + k) (h2 : tot K N Z ≤ tot K0 N0 Z0 + n) (kk : W p l e Rm s m args below meth c H locs k n Q g) : W p l e Rm s m args below meth c H locs cells slots Q g := by
  have q := md_sum hS.1.1 hS.1.2.1 hGR.1 hGR.2.2
  rw [hGR.tot] at q
  refine W.tight ?_ ?_ kk
  · rw [hS.1.2.1, hs]
    omega
  · rw [hs]
    omega
theorem tw_know {g : JFrame} (hG : md_G D cy base Z K N M R J s H locs) (hs : s.heap.size = base) (hk : ∀ a, a < Z → K a ≠ 0) (kk : Z ≤ cells → tot K N Z ≤ slots → W p l e Rm s m args below meth c H locs cells slots Q g) : W p l e Rm s m args below meth c H locs cells slots Q g := by
  have q := md_sum hG.1 hG.2.1 (Nat.zero_le _) (fun a _ h => hk a h)
  refine W.know (fun h1 h2 => kk ?_ ?_)
  · rw [hG.2.1, hs] at h1
    omega
  · rw [hs] at h2
    have e0 : tot K N 0 = 0 := rfl
    rw [Nat.add_zero] at q
    omega
theorem SB.grow {L1 LR1 : WL} {u : mS} {H1 : Heap} {locs1 : List Loc} (hS : SB D cy base Z K N L LR Ma Ra M R J s H locs) (hG : md_G D cy base u.1 u.2.1 u.2.2.1 u.2.2.2.1 u.2.2.2.2.1 u.2.2.2.2.2 s H1 locs1) (hT : TM Z K N L1 LR1 M R u) (h1 : subL L1 L = true) (h2 : subL LR1 LR = true) : ∃ (Ma1 : MT) (Ra1 : RT), SB D cy base u.1 u.2.1 u.2.2.1 L LR Ma1 Ra1 u.2.2.2.1 u.2.2.2.2.1 u.2.2.2.2.2 s H1 locs1 ∧ GR Z K N Ma Ra u.1 u.2.1 u.2.2.1 Ma1 Ra1 := by
  obtain ⟨⟨t1, t2, t3⟩, t4, t5, t6⟩ := hT
  refine ⟨fun b k => if b < Z then Ma b k else u.2.2.2.1 b k, fun b k => if b < Z then Ra b k else u.2.2.2.2.1 b k, ⟨hG, t4, fun b k hn => ?_, fun b k hn => ?_⟩, t1, fun b hb => ⟨(t2 b hb).1, (t2 b hb).2, funext fun k => if_pos hb, funext fun k => if_pos hb⟩, t3⟩
  · show u.2.2.2.1 b k = if b < Z then Ma b k else u.2.2.2.1 b k
    by_cases q : b < Z
    · rw [if_pos q]
      rw [(t2 b q).1] at hn
      rw [t5 b q k (fun z => hn (subL_of h1 z))]
      exact hS.2.2.1 b k hn
    · rw [if_neg q]
  · show u.2.2.2.2.1 b k = if b < Z then Ra b k else u.2.2.2.2.1 b k
    by_cases q : b < Z
    · rw [if_pos q]
      rw [(t2 b q).1] at hn
      rw [t6 b q k (fun z => hn (subL_of h2 z))]
      exact hS.2.2.2 b k hn
    · rw [if_neg q]
theorem SB.TM (hS : SB D cy base Z K N L LR Ma Ra M R J s H locs) (g : GR Z0 K0 N0 Ma0 Ra0 Z K N Ma Ra) : TM Z0 K0 N0 L LR Ma0 Ra0 (Z, K, N, M, R, J) := by
  refine ⟨⟨g.1, fun b hb => ⟨(g.2.1 b hb).1, (g.2.1 b hb).2.1⟩, g.2.2⟩, hS.2.1, fun b hb k hn => ?_, fun b hb k hn => ?_⟩
  · rw [← (g.2.1 b hb).1] at hn
    have := hS.2.2.1 b k hn
    rw [(g.2.1 b hb).2.2.1] at this
    exact this
  · rw [← (g.2.1 b hb).1] at hn
    have := hS.2.2.2 b k hn
    rw [(g.2.1 b hb).2.2.2] at this
    exact this
variable {mc ms : Nat} {av : Array Value} {L1 LR1 : WL}
theorem tw_gomi {E : Int32 → mS → Prop} (hS : SB D cy base Z K N L LR Ma Ra M R J s H locs) (hr : va_Run p l e Rm s m args below meth c H locs cells slots mc ms (F0 m pc ls st) rest (mQi D cy tx base (fun r u => TM Z K N L1 LR1 M R u ∧ E r u) av) (fun q => base ≤ q)) (h1 : subL L1 L = true) (h2 : subL LR1 LR = true)
    (kk : ∀ (r : Int32) (H1 : Heap) (locs1 : List Loc) (Z1 : Nat) (K1 N1 : Nat → Nat) (Ma1 : MT) (Ra1 : RT) (M1 : MT) (R1 : RT) (J1 : JT), SB D cy base Z1 K1 N1 L LR Ma1 Ra1 M1 R1 J1 s H1 locs1 → GR Z K N Ma Ra Z1 K1 N1 Ma1 Ra1 → FrB Z K L1 M M1 → FrB Z K LR1 R R1 → E r (Z1, K1, N1, M1, R1, J1) → W p l e Rm s m args below meth c H1 locs1 (cells + mc) (slots + ms) Q (F0 m (pc + 3) ls (.int r :: rest))) : W p l e Rm s m args below meth c H locs cells slots Q (F0 m pc ls st) :=
  md_goi hS.1 hr (fun r u H1 locs1 hp hG => by
    obtain ⟨Ma1, Ra1, hS1, hg⟩ := hS.grow hG hp.1 h1 h2
    exact kk r H1 locs1 u.1 u.2.1 u.2.2.1 Ma1 Ra1 u.2.2.2.1 u.2.2.2.2.1 u.2.2.2.2.2 hS1 hg hp.1.2.2.1 hp.1.2.2.2 hp.2)
theorem tw_gomv {E : mS → Prop} (hS : SB D cy base Z K N L LR Ma Ra M R J s H locs) (hr : va_Run p l e Rm s m args below meth c H locs cells slots mc ms (F0 m pc ls st) rest (mQv D cy tx base (fun u => TM Z K N L1 LR1 M R u ∧ E u) av) (fun q => base ≤ q)) (h1 : subL L1 L = true) (h2 : subL LR1 LR = true)
    (kk : ∀ (H1 : Heap) (locs1 : List Loc) (Z1 : Nat) (K1 N1 : Nat → Nat) (Ma1 : MT) (Ra1 : RT) (M1 : MT) (R1 : RT) (J1 : JT), SB D cy base Z1 K1 N1 L LR Ma1 Ra1 M1 R1 J1 s H1 locs1 → GR Z K N Ma Ra Z1 K1 N1 Ma1 Ra1 → FrB Z K L1 M M1 → FrB Z K LR1 R R1 → E (Z1, K1, N1, M1, R1, J1) → W p l e Rm s m args below meth c H1 locs1 (cells + mc) (slots + ms) Q (F0 m (pc + 3) ls rest)) : W p l e Rm s m args below meth c H locs cells slots Q (F0 m pc ls st) :=
  md_gov hS.1 hr (fun u H1 locs1 hp hG => by
    obtain ⟨Ma1, Ra1, hS1, hg⟩ := hS.grow hG hp.1 h1 h2
    exact kk H1 locs1 u.1 u.2.1 u.2.2.1 Ma1 Ra1 u.2.2.2.1 u.2.2.2.2.1 u.2.2.2.2.2 hS1 hg hp.1.2.2.1 hp.1.2.2.2 hp.2)
theorem md_gor {post : Nat → mS → Prop} (hG : md_G D cy base Z K N M R J s H locs) (hr : va_Run p l e Rm s m args below meth c H locs cells slots mc ms (F0 m pc ls st) rest (mQr D cy tx base post av) (fun q => base ≤ q))
    (kk : ∀ (r : Nat) (u : mS) (H1 : Heap) (locs1 : List Loc), post r u → md_G D cy base u.1 u.2.1 u.2.2.1 u.2.2.2.1 u.2.2.2.2.1 u.2.2.2.2.2 s H1 locs1 → W p l e Rm s m args below meth c H1 locs1 (cells + mc) (slots + ms) Q (F0 m (pc + 3) ls (.ref (base + r) :: rest))) : W p l e Rm s m args below meth c H locs cells slots Q (F0 m pc ls st) :=
  va_callr hr hG.2.2 (fun _ _ h => h) (fun _ h => h) fun w ra t H1 locs1 ht _ hp hB _ _ hS1 => by
    obtain ⟨rfl, hB⟩ := hB
    exact kk w.1 w.2 H1 locs1 hp ⟨by rw [← ht]; exact hB.1, by rw [← ht]; exact hB.2.1, hS1⟩
theorem tw_gomr {E : Nat → mS → Prop} (hS : SB D cy base Z K N L LR Ma Ra M R J s H locs) (hr : va_Run p l e Rm s m args below meth c H locs cells slots mc ms (F0 m pc ls st) rest (mQr D cy tx base (fun r u => TM Z K N L1 LR1 M R u ∧ E r u) av) (fun q => base ≤ q)) (h1 : subL L1 L = true) (h2 : subL LR1 LR = true)
    (kk : ∀ (r : Nat) (H1 : Heap) (locs1 : List Loc) (Z1 : Nat) (K1 N1 : Nat → Nat) (Ma1 : MT) (Ra1 : RT) (M1 : MT) (R1 : RT) (J1 : JT), SB D cy base Z1 K1 N1 L LR Ma1 Ra1 M1 R1 J1 s H1 locs1 → GR Z K N Ma Ra Z1 K1 N1 Ma1 Ra1 → FrB Z K L1 M M1 → FrB Z K LR1 R R1 → E r (Z1, K1, N1, M1, R1, J1) → W p l e Rm s m args below meth c H1 locs1 (cells + mc) (slots + ms) Q (F0 m (pc + 3) ls (.ref (base + r) :: rest))) : W p l e Rm s m args below meth c H locs cells slots Q (F0 m pc ls st) :=
  md_gor hS.1 hr (fun r u H1 locs1 hp hG => by
    obtain ⟨Ma1, Ra1, hS1, hg⟩ := hS.grow hG hp.1 h1 h2
    exact kk r H1 locs1 u.1 u.2.1 u.2.2.1 Ma1 Ra1 u.2.2.2.1 u.2.2.2.2.1 u.2.2.2.2.2 hS1 hg hp.1.2.2.1 hp.1.2.2.2 hp.2)
theorem tw_emi {E : Int32 → mS → Prop} (hexec : p.tables.exec = Jvm.exec) (hb : c.code = cc) (hr : meth.sig.returnType = some .int) (hlocks : meth.locks = false) (hK : md_K D cy s) (hT : md_T tx base s) (hS : SB D cy base Z K N L LR Ma Ra M R J s H locs) (hGR : GR Z0 K0 N0 Ma0 Ra0 Z K N Ma Ra) (hQ : Q = MQ below (mQi D cy tx base (fun r u => TM Z0 K0 N0 L LR Ma0 Ra0 u ∧ E r u)) args s mc ms (fun q => base ≤ q)) (h1 : cells ≤ mc ∧ slots ≤ ms) {v : Int32} (hp : E v (Z, K, N, M, R, J)) (hdg : decode cc pc = .ok (.ireturn, 1)) :
    W p l e Rm s m args below meth c H locs cells slots Q (F0 m pc ls [.int v]) := by
  subst hQ
  exact W.widen h1.1 h1.2 (md_endi hexec hb hr hlocks hK hT hS.1 ⟨hS.TM hGR, hp⟩ hdg)
theorem tw_emv {E : mS → Prop} (hexec : p.tables.exec = Jvm.exec) (hb : c.code = cc) (hr : meth.sig.returnType = none) (hlocks : meth.locks = false) (hK : md_K D cy s) (hT : md_T tx base s) (hS : SB D cy base Z K N L LR Ma Ra M R J s H locs) (hGR : GR Z0 K0 N0 Ma0 Ra0 Z K N Ma Ra) (hQ : Q = MQ below (mQv D cy tx base (fun u => TM Z0 K0 N0 L LR Ma0 Ra0 u ∧ E u)) args s mc ms (fun q => base ≤ q)) (h1 : cells ≤ mc ∧ slots ≤ ms) (hp : E (Z, K, N, M, R, J)) (hdg : decode cc pc = .ok (.return_, 1)) :
    W p l e Rm s m args below meth c H locs cells slots Q (F0 m pc ls []) := by
  subst hQ
  exact W.widen h1.1 h1.2 (md_endv hexec hb hr hlocks hK hT hS.1 ⟨hS.TM hGR, hp⟩ hdg)
theorem md_endr {post : Nat → mS → Prop} {ty : FieldType} (hexec : p.tables.exec = Jvm.exec) (hb : c.code = cc) (hr : meth.sig.returnType = some (.array ty)) (hlocks : meth.locks = false) (hK : md_K D cy s) (hT : md_T tx base s) (hG : md_G D cy base Z K N M R J s H locs) {v : Nat} (hp : post v (Z, K, N, M, R, J)) (hdg : decode cc pc = .ok (.areturn, 1)) :
    W p l e Rm s m args below meth c H locs cells slots (MQ below (mQr D cy tx base post) args s cells slots (fun q => base ≤ q)) (F0 m pc ls [.ref (base + v)]) :=
  W.aret (v := .ref (base + v)) hexec hb hr (Or.inr ⟨_, rfl⟩) (Or.inr ⟨_, rfl⟩) (fun t ht hWm => ⟨⟨(v, (Z, K, N, M, R, J)), base + v, rfl, hp, rfl, md_U.of hK hT hG ht hWm⟩, hG.2.2.F ht⟩) hG.2.2.2.2 hdg
theorem tw_emr {E : Nat → mS → Prop} {ty : FieldType} (hexec : p.tables.exec = Jvm.exec) (hb : c.code = cc) (hr : meth.sig.returnType = some (.array ty)) (hlocks : meth.locks = false) (hK : md_K D cy s) (hT : md_T tx base s) (hS : SB D cy base Z K N L LR Ma Ra M R J s H locs) (hGR : GR Z0 K0 N0 Ma0 Ra0 Z K N Ma Ra) (hQ : Q = MQ below (mQr D cy tx base (fun r u => TM Z0 K0 N0 L LR Ma0 Ra0 u ∧ E r u)) args s mc ms (fun q => base ≤ q)) (h1 : cells ≤ mc ∧ slots ≤ ms) {v : Nat} (hp : E v (Z, K, N, M, R, J)) (hdg : decode cc pc = .ok (.areturn, 1)) :
    W p l e Rm s m args below meth c H locs cells slots Q (F0 m pc ls [.ref (base + v)]) := by
  subst hQ
  exact W.widen h1.1 h1.2 (md_endr hexec hb hr hlocks hK hT hS.1 ⟨hS.TM hGR, hp⟩ hdg)
/-- one place more in a table -/
def uk {α : Type} (f : Nat → α) (a : Nat) (v : α) : Nat → α := fun b => if b = a then v else f b
theorem uk_ne {α : Type} {f : Nat → α} {a b : Nat} {v : α} (h : b ≠ a) : uk f a v b = f b := if_neg h
theorem uk_at {α : Type} {f : Nat → α} {a : Nat} {v : α} : uk f a v a = v := if_pos rfl
/-- new int[n], of a use t -/
theorem tw_newi (hexec : p.tables.exec = Jvm.exec) (hb : c.code = cc) (hW : ∀ w ∈ lw_tbl, goodWord w = true → w.before args s = true) (hK : md_K D cy s) (hS : SB D cy base Z K N L LR Ma Ra M R J s H locs) {t : Nat} (ht : t = 14 ∨ 20 ≤ t) (hrt : ∀ k, (rtR t k).2.2 = 1) (harr : Cond.arrayClass .int ∈ lw_tbl) {n : Int32} {lo hi : Int} {na : Nat} (hn : iv lo hi n) (h0 : 0 ≤ lo ∧ hi ≤ na ∧ na ≤ 1048576) (hcells : cells + 1 ≤ Rm.cells) (hslots : slots + na ≤ Rm.slots) (hdg : decode cc pc = .ok (.newarray .int, 2))
    (kk : ∀ (H1 : Heap) (Z1 : Nat) (K1 N1 : Nat → Nat) (Ma1 : MT) (Ra1 : RT) (M1 : MT) (R1 : RT) (J1 : JT), Z1 = Z + 1 → K1 Z = t → (N1 Z : Int) = n.toInt → (∀ b, b < Z → M1 b = M b ∧ R1 b = R b) → SB D cy base Z1 K1 N1 L LR Ma1 Ra1 M1 R1 J1 s H1 locs → GR Z K N Ma Ra Z1 K1 N1 Ma1 Ra1 → W p l e Rm s m args below meth c H1 locs (cells + 1) (slots + na) Q (F0 m (pc + 2) ls (.ref (base + Z) :: rest))) : W p l e Rm s m args below meth c H locs cells slots Q (F0 m pc ls (.int n :: rest)) := by
  have n0 : 0 ≤ n.toInt := Int.le_trans h0.1 hn.1
  have n1 : n.toInt ≤ na := Int.le_trans hn.2 h0.2.1
  have nc := ti_cl n0
  have hne : ∀ b, b < Z → b ≠ Z := fun b hb => by omega
  have hG1 : md_G D cy base Z (uk K Z t) (uk N Z n.toNatClampNeg) (ur M Z (fun _ => 0)) (ur R Z (fun _ => none)) (ur J Z (fun _ => 0)) s H locs := ⟨hS.1.1.to (fun a ha _ => ⟨uk_ne (hne a ha), uk_ne (hne a ha), ur_ne (hne a ha), ur_ne (hne a ha), ur_ne (hne a ha)⟩), hS.1.2⟩
  refine md_newa hexec hb hW hK hG1 (t := t) (Or.inr (Or.inl ⟨rfl, ht⟩)) harr (na := n.toNatClampNeg) (fun q => ?_) rfl (by omega) (Or.inl ⟨uk_at, uk_at⟩) (fun k => by rw [ur_at]) (fun k => by rw [ur_at]) hcells (by omega) hdg (fun H1 hG2 => ?_)
  · have q2 : n.toInt < 0 := Int32.lt_iff_toInt_lt.mp q
    omega
  refine W.widen (Nat.le_refl _) (show slots + n.toNatClampNeg ≤ slots + na by omega) ?_
  have hT := hS.2.1
  refine kk H1 (Z + 1) (uk K Z t) (uk N Z n.toNatClampNeg) (ur Ma Z (fun _ => 0)) (ur Ra Z (fun _ => none)) (ur M Z (fun _ => 0)) (ur R Z (fun _ => none)) (ur J Z (fun _ => 0)) rfl uk_at (by rw [uk_at]; exact nc) (fun b hb => ⟨ur_ne (hne b hb), ur_ne (hne b hb)⟩) ⟨hG2, ⟨fun a ha k => ?_, fun a ha k => ?_, fun a ha => ?_⟩, fun b k hb2 => ?_, fun b k hb2 => ?_⟩ ⟨Nat.le_succ _, fun b hb => ⟨uk_ne (hne b hb), uk_ne (hne b hb), ur_ne (hne b hb), ur_ne (hne b hb)⟩, fun b g1 g2 => ?_⟩
  · by_cases q : a = Z
    · subst q
      rw [uk_at, ur_at]
      exact okI_0 _ _
    · rw [uk_ne q, ur_ne q]
      exact hT.1 a (by omega) k
  · by_cases q : a = Z
    · subst q
      rw [uk_at, uk_at, ur_at]
      exact Or.inl (hrt k)
    · rw [uk_ne q, uk_ne q, ur_ne q]
      exact (hT.2.1 a (by omega) k).grow (Nat.le_succ _) (fun b hb => ⟨uk_ne (hne b hb), uk_ne (hne b hb)⟩)
  · by_cases q : a = Z
    · subst q
      rw [uk_at]
      omega
    · rw [uk_ne q]
      exact hT.2.2 a (by omega)
  · by_cases q : b = Z
    · subst q
      rw [ur_at, ur_at]
    · rw [ur_ne q, ur_ne q]
      rw [uk_ne q] at hb2
      exact hS.2.2.1 b k hb2
  · by_cases q : b = Z
    · subst q
      rw [ur_at, ur_at]
    · rw [ur_ne q, ur_ne q]
      rw [uk_ne q] at hb2
      exact hS.2.2.2 b k hb2
  · have e : b = Z := by omega
    rw [e, uk_at]
    omega
/-- the same, the new cell by a name -/
theorem tw_newz {zq : Nat} (hzq : zq = Z) (hexec : p.tables.exec = Jvm.exec) (hb : c.code = cc) (hW : ∀ w ∈ lw_tbl, goodWord w = true → w.before args s = true) (hK : md_K D cy s) (hS : SB D cy base Z K N L LR Ma Ra M R J s H locs) {t : Nat} (ht : t = 14 ∨ 20 ≤ t) (hrt : ∀ k, (rtR t k).2.2 = 1) (harr : Cond.arrayClass .int ∈ lw_tbl) {n : Int32} {lo hi : Int} {na : Nat} (hn : iv lo hi n) (h0 : 0 ≤ lo ∧ hi ≤ na ∧ na ≤ 1048576) (hcells : cells + 1 ≤ Rm.cells) (hslots : slots + na ≤ Rm.slots) (hdg : decode cc pc = .ok (.newarray .int, 2))
    (kk : ∀ (H1 : Heap) (Z1 : Nat) (K1 N1 : Nat → Nat) (Ma1 : MT) (Ra1 : RT) (M1 : MT) (R1 : RT) (J1 : JT), Z1 = zq + 1 → zq < Z1 → K1 zq = t → (N1 zq : Int) = n.toInt → (∀ b, b < Z → M1 b = M b ∧ R1 b = R b) → SB D cy base Z1 K1 N1 L LR Ma1 Ra1 M1 R1 J1 s H1 locs → GR Z K N Ma Ra Z1 K1 N1 Ma1 Ra1 → W p l e Rm s m args below meth c H1 locs (cells + 1) (slots + na) Q (F0 m (pc + 2) ls (.ref (base + zq) :: rest))) : W p l e Rm s m args below meth c H locs cells slots Q (F0 m pc ls (.int n :: rest)) := by
  subst hzq
  exact tw_newi hexec hb hW hK hS ht hrt harr hn h0 hcells hslots hdg (fun H1 Z1 K1 N1 Ma1 Ra1 M1 R1 J1 e1 e2 e3 e4 => kk H1 Z1 K1 N1 Ma1 Ra1 M1 R1 J1 e1 (by omega) e2 e3 e4)
end MK
/-! Books: what is held of its rows -/
/-- what a larger row is told by -/
def RF (Z : Nat) (K N : Nat → Nat) (Ma : MT) (a0 : Nat) (sz : Int) (r : Nat) (u : mS) : Prop := r < u.1 ∧ u.2.1 r = K a0 ∧ sz ≤ (u.2.2.1 r : Int) ∧ (∀ j, j < N a0 → u.2.2.2.1 r j = Ma a0 j) ∧ ((r = a0 ∧ u.1 = Z ∧ u.2.2.1 r = N a0) ∨ (r = Z ∧ u.1 = Z + 1 ∧ 2 * N a0 ≤ u.2.2.1 r ∧ (u.2.2.1 r : Int) ≤ 2 * sz))
/-- the voices of the first m of a row of five -/
def rsum (M : MT) (e i : Nat) : Nat → Int
  | 0 => 0
  | m + 1 => rsum M e i m + (M e (5 * i + m)).toInt
theorem rsum_s (M : MT) (e i m : Nat) : rsum M e i (m + 1) = rsum M e i m + (M e (5 * i + m)).toInt := rfl
/-- n rows are kept, none sums up to more than the highest -/
def BKI (N : Nat → Nat) (M : MT) (b e m n : Nat) : Prop := 5 * n ≤ N e ∧ ∀ i, i < n → rsum M e i m ≤ (M b 9).toInt
theorem rsum_eq {M M1 : MT} {e e1 i : Nat} : ∀ {m : Nat}, (∀ j, j < m → M1 e1 (5 * i + j) = M e (5 * i + j)) → rsum M1 e1 i m = rsum M e i m
  | 0, _ => rfl
  | m + 1, h => by
    rw [rsum_s, rsum_s, rsum_eq (m := m) (fun j hj => h j (by omega)), h m (by omega)]
/-- what is ever made against what is held -/
def PG (b Z : Nat) (K N : Nat → Nat) (R : RT) (Z1 : Nat) (K1 N1 : Nat → Nat) (R1 : RT) : Prop := ∃ e t u e1 t1 u1 : Nat, (R b 6 = some e ∧ R b 7 = some t ∧ R b 8 = some u) ∧ (R1 b 6 = some e1 ∧ R1 b 7 = some t1 ∧ R1 b 8 = some u1) ∧ tot K1 N1 Z1 + 2 * (N e + N t + N u) ≤ tot K N Z + 2 * (N1 e1 + N1 t1 + N1 u1) ∧ 64 * Z1 + (N e + N t + N u) ≤ 64 * Z + (N1 e1 + N1 t1 + N1 u1)
theorem PG.tr {b Z Z1 Z2 : Nat} {K N K1 N1 K2 N2 : Nat → Nat} {R R1 R2 : RT} (h1 : PG b Z K N R Z1 K1 N1 R1) (h2 : PG b Z1 K1 N1 R1 Z2 K2 N2 R2) : PG b Z K N R Z2 K2 N2 R2 := by
  obtain ⟨e, t, u, e1, t1, u1, a1, ⟨a2, a3, a4⟩, a5, a6⟩ := h1
  obtain ⟨e', t', u', e2, t2, u2, ⟨b1, b2, b3⟩, b4, b5, b6⟩ := h2
  rw [a2] at b1
  rw [a3] at b2
  rw [a4] at b3
  cases b1
  cases b2
  cases b3
  exact ⟨e, t, u, e2, t2, u2, a1, b4, by omega, by omega⟩
/-- nothing new, the rows the same -/
theorem PG.of {b Z e t u : Nat} {K N : Nat → Nat} {R R1 : RT} (h : R b 6 = some e ∧ R b 7 = some t ∧ R b 8 = some u) (h1 : R1 b 6 = some e ∧ R1 b 7 = some t ∧ R1 b 8 = some u) : PG b Z K N R Z K N R1 := ⟨e, t, u, e, t, u, h, h1, Nat.le_refl _, Nat.le_refl _⟩
