section MD
/-- how many fields a class has, and which of them are references -/
def md_nf (c : Nat) : Nat := ([13, 9, 7, 10, 8, 15, 15, 2, 8, 16, 15, 55] : List Nat).getD c 0
def md_rt (c : Nat) : List Nat := ([[0, 1, 2, 3, 4, 5, 6, 7, 8], [0, 1, 2, 3, 4], [0, 5], [0, 1, 2, 3, 4], [0, 1, 2, 3], [0, 1, 4, 5], [0, 1, 2, 3, 4, 5, 6, 7, 8, 9], [0, 1], [0, 5], [9, 10, 11, 12, 13, 14, 15], [0, 2, 3, 4, 5, 7, 8, 9, 10, 11, 12, 13, 14], [0, 3, 4, 5, 6, 10, 11, 12, 20, 22, 24, 25, 26, 27, 29, 33, 34, 37, 38, 39, 40, 41, 42, 44, 45, 46, 47, 48, 49, 50, 51, 52, 53, 54]] : List (List Nat)).getD c []
def md_ref (c k : Nat) : Bool := (md_rt c).contains k
/-- a field's value; a cell that is an array: kinds 13 byte, 14 int, 15 long, 16 boolean, 17 Rule, 18 State, 19 int[], from 20 on int arrays of a use; kind c + 1: an object of class c; 0: not told -/
def md_jk (ka : Nat) : Nat := if ka ≤ 19 then ka else 14
def md_v (base : Nat) (ma : Nat → Int32) (ra : Nat → Option Nat) (c k : Nat) : Value := if md_ref c k = true then va_rf ((ra k).map (fun x => base + x)) else .int (ma k)
def md_cell (cy : Nat → ClassId) (base ka na : Nat) (ma : Nat → Int32) (ra : Nat → Option Nat) (ja : Nat → Int64) : Cell :=
  if ka = 15 then arrV (cy 15) na (fun j => .long (ja j))
  else if ka ≤ 16 ∨ 20 ≤ ka then arrV (cy (md_jk ka)) na (fun j => .int (ma j))
  else arrV (cy ka) na (fun j => va_rf ((ra j).map (fun x => base + x)))
def md_at (D : va_G) (cy : Nat → ClassId) (base a ka na : Nat) (ma : Nat → Int32) (ra : Nat → Option Nat) (ja : Nat → Int64) (H : Heap) : Prop :=
  if ka ≤ 12 then t_OB (base + a) (D.1 (ka - 1)) (md_nf (ka - 1)) (D.2 (ka - 1)) H (md_v base ma ra (ka - 1)) ∧ (∃ cell : Cell, H[base + a]? = some cell ∧ cell.slots.size = md_nf (ka - 1)) else H[base + a]? = some (md_cell cy base ka na ma ra ja)
/-- the memory: cells base .. base + Z; K their kinds, N lengths, M ints, R references (counted from base), J longs -/
def md_P (D : va_G) (cy : Nat → ClassId) (base Z : Nat) (K N : Nat → Nat) (M : Nat → Nat → Int32) (R : Nat → Nat → Option Nat) (J : Nat → Nat → Int64) (H : Heap) : Prop :=
  ∀ a, a < Z → K a ≠ 0 → md_at D cy base a (K a) (N a) (M a) (R a) (J a) H
theorem md_at.kept {D : va_G} {cy : Nat → ClassId} {base a ka na : Nat} {ma : Nat → Int32} {ra : Nat → Option Nat} {ja : Nat → Int64} {H H1 : Heap} (h : md_at D cy base a ka na ma ra ja H) (hq : H1[base + a]? = H[base + a]?) : md_at D cy base a ka na ma ra ja H1 := by
  unfold md_at at h ⊢
  by_cases hk : ka ≤ 12
  · rw [if_pos hk] at h ⊢
    obtain ⟨cell, h1, h2⟩ := h.2
    exact ⟨t_OB.kept h.1 hq, cell, hq.trans h1, h2⟩
  · rw [if_neg hk] at h ⊢
    exact hq.trans h
theorem md_P.obj {D : va_G} {cy : Nat → ClassId} {base Z : Nat} {K N : Nat → Nat} {M : Nat → Nat → Int32} {R : Nat → Nat → Option Nat} {J : Nat → Nat → Int64} {H : Heap} (hP : md_P D cy base Z K N M R J H) {a c : Nat} (hz : a < Z) (ha : K a = c + 1) (hc : c < 12) : t_OB (base + a) (D.1 c) (md_nf c) (D.2 c) H (md_v base (M a) (R a) c) := by
  have h := hP a hz (by omega)
  unfold md_at at h
  rw [if_pos (by omega), ha] at h
  exact h.1
theorem md_P.osz {D : va_G} {cy : Nat → ClassId} {base Z : Nat} {K N : Nat → Nat} {M : Nat → Nat → Int32} {R : Nat → Nat → Option Nat} {J : Nat → Nat → Int64} {H : Heap} (hP : md_P D cy base Z K N M R J H) {a c : Nat} (hz : a < Z) (ha : K a = c + 1) (hc : c < 12) {cell : Cell} (h1 : H[base + a]? = some cell) : cell.slots.size = md_nf c := by
  have h := hP a hz (by omega)
  unfold md_at at h
  rw [if_pos (by omega), ha] at h
  obtain ⟨c2, h2, h3⟩ := h.2
  rw [h1] at h2
  cases h2
  exact h3
theorem md_P.arr {D : va_G} {cy : Nat → ClassId} {base Z : Nat} {K N : Nat → Nat} {M : Nat → Nat → Int32} {R : Nat → Nat → Option Nat} {J : Nat → Nat → Int64} {H : Heap} (hP : md_P D cy base Z K N M R J H) {a t : Nat} (hz : a < Z) (ha : K a = t) (ht : 12 < t) : H[base + a]? = some (md_cell cy base t (N a) (M a) (R a) (J a)) := by
  have h := hP a hz (by omega)
  unfold md_at at h
  rw [if_neg (by omega), ha] at h
  exact h
theorem md_P.set {D : va_G} {cy : Nat → ClassId} {base Z : Nat} {K N : Nat → Nat} {M M1 : Nat → Nat → Int32} {R R1 : Nat → Nat → Option Nat} {J J1 : Nat → Nat → Int64} {H H1 : Heap} (hP : md_P D cy base Z K N M R J H) (a : Nat) (hq : ∀ q : Nat, q ≠ base + a → H1[q]? = H[q]?) (hM : ∀ b, b ≠ a → M1 b = M b) (hR : ∀ b, b ≠ a → R1 b = R b) (hJ : ∀ b, b ≠ a → J1 b = J b) (hn : md_at D cy base a (K a) (N a) (M1 a) (R1 a) (J1 a) H1) : md_P D cy base Z K N M1 R1 J1 H1 := by
  intro b hz hb
  by_cases e : b = a
  · subst e
    exact hn
  · rw [hM b e, hR b e, hJ b e]
    exact (hP b hz hb).kept (hq _ (by omega))
/-- the same memory told otherwise -/
theorem md_P.to {D : va_G} {cy : Nat → ClassId} {base Z : Nat} {K K1 N N1 : Nat → Nat} {M M1 : Nat → Nat → Int32} {R R1 : Nat → Nat → Option Nat} {J J1 : Nat → Nat → Int64} {H : Heap} (hP : md_P D cy base Z K N M R J H) (h : ∀ a, a < Z → K1 a ≠ 0 → K1 a = K a ∧ N1 a = N a ∧ M1 a = M a ∧ R1 a = R a ∧ J1 a = J a) : md_P D cy base Z K1 N1 M1 R1 J1 H := by
  intro a hz hk
  obtain ⟨h1, h2, h3, h4, h5⟩ := h a hz hk
  rw [h1, h2, h3, h4, h5]
  exact hP a hz (by rw [← h1]; exact hk)
/-- two-place update -/
def u2 {α : Type} (f : Nat → Nat → α) (a k : Nat) (v : α) : Nat → Nat → α := fun b j => if b = a then (if j = k then v else f b j) else f b j
theorem u2_ne {α : Type} {f : Nat → Nat → α} {a k b : Nat} {v : α} (h : b ≠ a) : u2 f a k v b = f b := funext fun _ => if_neg h
theorem u2_at {α : Type} {f : Nat → Nat → α} {a k : Nat} {v : α} : u2 f a k v a = fun j => if j = k then v else f a j := funext fun _ => if_pos rfl
theorem u2_nk {α : Type} {f : Nat → Nat → α} {a k b j : Nat} {v : α} (h : j ≠ k) : u2 f a k v b j = f b j := by
  unfold u2
  by_cases e : b = a
  · rw [if_pos e, if_neg h]
  · rw [if_neg e]
theorem u2_same {α : Type} {f : Nat → Nat → α} {a k : Nat} {v : α} : u2 f a k v a k = v := by
  unfold u2
  rw [if_pos rfl, if_pos rfl]
theorem md_v_puti {base : Nat} {M : Nat → Nat → Int32} {ra : Nat → Option Nat} {c a k : Nat} {x : Int32} (hr : md_ref c k = false) (j : Nat) : updV (md_v base (M a) ra c) k (.int x) j = md_v base (u2 M a k x a) ra c j := by
  by_cases e : j = k
  · subst e
    simp [updV, md_v, hr, u2]
  · simp [updV, md_v, u2, e]
theorem md_v_putr {base : Nat} {R : Nat → Nat → Option Nat} {ma : Nat → Int32} {c a k : Nat} {x : Option Nat} (hr : md_ref c k = true) (j : Nat) : updV (md_v base ma (R a) c) k (va_rf (x.map (fun x => base + x))) j = md_v base ma (u2 R a k x a) c j := by
  by_cases e : j = k
  · subst e
    simp [updV, md_v, hr, u2]
  · simp [updV, md_v, u2, e]
end MD
/-- the arrays' classes -/
def md_tys (cy : Nat → ClassId) : List (ClassId × FieldType) := [(cy 13, .byte), (cy 14, .int), (cy 15, .long), (cy 16, .boolean), (cy 17, .object RX7), (cy 18, .object RX9), (cy 19, .array .int)]
/-- the nest mates' links -/
def md_Ns (s : State) : Prop := va_Nw (.methodLinkNest RX11 23 yX9_init RX11) s ∧ va_Nw (.methodLinkNest RX11 45 yX2_init RX11) s ∧ va_Nw (.methodLinkNest RX11 52 yX8_init RX11) s ∧ va_Nw (.methodLinkNest RX2 11 yX9_init RX11) s ∧ va_Nw (.methodLinkNest RX2 3 yX10_init RX11) s ∧ va_Nw (.methodLinkNest RX8 3 yX10_init RX11) s ∧ va_Nw (.fieldLinkNest RX4 90 "VoicesLost" "SAYINGS" "[I" "VoicesLost") s ∧ va_Nw (.fieldLinkNest RX6 160 "VoicesLost" "SAYINGS" "[I" "VoicesLost") s
def va_AOA (t : FieldType) (U : State) : Prop := (Cond.arrayOver (.array t)).before #[] U = true
/-- what the tables say at every state: classes, words, nest links, arrays of references -/
def md_K (D : va_G) (cy : Nat → ClassId) (s : State) : Prop := va_K D vwCl (md_tys cy) s ∧ (∀ w ∈ lw_tbl, goodWord w = true → ∀ a' : Array Value, w.before a' s = true) ∧ md_Ns s ∧ va_AO RX7 s ∧ va_AO RX9 s ∧ va_AOA .int s
/-- words that stand in the tables and stay -/
def md_ok (ws : List Cond) : Prop := ∀ w ∈ ws, w ∈ lw_tbl ∧ goodWord w = true
theorem md_ok0 : md_ok [] := fun _ h => absurd h List.not_mem_nil
theorem md_okc {w : Cond} {ws : List Cond} (h : w ∈ lw_tbl) (g : goodWord w = true) (t : md_ok ws) : md_ok (w :: ws) := fun x hx => by
  rcases List.mem_cons.mp hx with rfl | hx
  · exact ⟨h, g⟩
  · exact t x hx
theorem md_ok.good {ws : List Cond} (h : md_ok ws) : GoodIn ws ws := fun w hw => ⟨hw, good_of_word (h w hw).2⟩
theorem md_ok.bef {ws : List Cond} {args : Array Value} {s : State} (hW : ∀ w ∈ lw_tbl, goodWord w = true → w.before args s = true) (h : md_ok ws) : ∀ w ∈ ws, w.before args s = true := fun w hw => hW w (h w hw).1 (h w hw).2
theorem md_lay (C : String) (T : u_T) (n : Nat) : ∀ w ∈ u_ws C T n, goodWord w = true := fun w hw => by
  obtain ⟨k, -, rfl⟩ := List.mem_map.mp hw
  unfold u_lay
  split <;> rfl
theorem md_okl {C : String} {T : u_T} {n : Nat} (h : ∀ w ∈ u_ws C T n, w ∈ lw_tbl) : md_ok (u_ws C T n) := fun w hw => ⟨h w hw, md_lay C T n w hw⟩
/-- the texts that are constants, and String's own switch -/
def md_sl : List Nat := [26, 57, 12, 3, 7, 4]
def md_sb : List (List Int32) := [[109, 101, 109, 98, 101, 114, 115, 32, 112, 111, 105, 110, 116, 32, 118, 111, 105, 99, 101, 115, 32, 98, 101, 110, 116, 32], [109, 101, 109, 98, 101, 114, 32, 112, 111, 105, 110, 116, 32, 119, 111, 114, 116, 104, 32, 118, 111, 105, 99, 101, 115, 32, 115, 117, 109, 32, 102, 111, 114, 32, 97, 103, 97, 105, 110, 115, 116, 32, 109, 111, 115, 116, 32, 108, 101, 102, 116, 32, 116, 117, 114, 110, 32], [110, 111, 32, 121, 101, 115, 32, 107, 101, 101, 112, 32], [105, 102, 32], [97, 110, 100, 32, 111, 114, 32], [110, 111, 116, 32]]
def md_T (tx : (Nat → Nat) × (Nat → Nat)) (base : Nat) (s : State) : Prop := vk_S 6 md_sl md_sb tx.1 tx.2 (fun q => base ≤ q) s s.heap ∧ (vk_R RX2 51 "members point voices bent " (tx.1 0) s ∧ vk_R RX8 104 "member point worth voices sum for against most left turn " (tx.1 1) s ∧ vk_R RX8 30 "no yes keep " (tx.1 2) s ∧ vk_R RX8 46 "if " (tx.1 3) s ∧ vk_R RX8 78 "and or " (tx.1 4) s ∧ vk_R RX8 80 "not " (tx.1 5) s) ∧ va_Z "java/lang/String" "COMPACT_STRINGS" "Z" (.int 1) (fun q => base ≤ q) s s.heap ∧ va_Zq "jdk/internal/util/Preconditions" "SIOOBE_FORMATTER" "Ljava/util/function/BiFunction;" (fun q => base ≤ q) s s.heap ∧ (∃ (t : Nat) (sy : Nat → Int32), va_Z "VoicesLost" "SAYINGS" "[I" (.ref t) (fun q => base ≤ q) s s.heap ∧ va_T .int t 3 (fun j => .int (sy j)) (fun q => base ≤ q) s s.heap)
theorem va_AOA.moved {t : FieldType} {u U : State} (hvm : u.vm.Alike U.vm) (h : va_AOA t u) : va_AOA t U := by
  obtain ⟨comp, c, k, h1, h2, h3, h4, h5⟩ := arrayOverA_spec h
  obtain ⟨k', hk', he⟩ := hvm.2.2 _ _ h3
  have hi := ((va_idx_bare U.vm comp).symm.trans ((congrArg (fun v : Vm => v.classes.findIdx? fun (x : Class) => match x.kind with | .array component _ => component == comp | _ => false) hvm.bare_eq).trans (va_idx_bare u.vm comp))).trans h2
  have hkind : k'.kind = .array comp (.array t) := by rw [he]; exact h4
  have f1 : U.vm.findClass (FieldType.array t).toString = some comp := by rw [hvm.findClass]; exact h1
  have f2 : U.vm.findClass ("[" ++ (FieldType.array t).toString) = some c := by rw [hvm.findClass]; exact h5
  unfold va_AOA Cond.before Cond.holds
  simp only [Cond.value]
  rw [f1, Option.bind_some]
  refine (congrArg (fun o : Option Nat => (o.bind (fun c => (U.vm.classes[c]?).map fun (k : Class) => match k.kind with | .array _ ty => decide (ty = FieldType.array t) && decide (U.vm.findClass ("[" ++ (FieldType.array t).toString) = some c) | _ => false) == some true)) hi).trans ?_
  simp [hk', hkind, f2]
theorem md_K.moved {D : va_G} {cy : Nat → ClassId} {s U : State} (hW : s.WarmedH U.vm) (h : md_K D cy s) : md_K D cy U := by
  obtain ⟨h1, h2, ⟨n1, n2, n3, n4, n5, n6, n7, n8⟩, h4, h5, h6⟩ := h
  exact ⟨va_K.moved hW.alike h1, fun w hw hg a' => word_at hW (good_of_word hg) (h2 w hw hg #[]), ⟨va_Nw.warmM hW n1, va_Nw.warmM hW n2, va_Nw.warmM hW n3, va_Nw.warmM hW n4, va_Nw.warmM hW n5, va_Nw.warmM hW n6, va_Nw.warmF hW n7, va_Nw.warmF hW n8⟩, va_AO.moved hW.alike h4, va_AO.moved hW.alike h5, va_AOA.moved hW.alike h6⟩
theorem md_T.moved {tx : (Nat → Nat) × (Nat → Nat)} {base : Nat} {s U : State} (hW : s.WarmedH U.vm) (hq : ∀ q : Nat, q < s.heap.size → ¬ base ≤ q → U.heap[q]? = s.heap[q]?) (h : md_T tx base s) : md_T tx base U := by
  obtain ⟨h1, ⟨r1, r2, r3, r4, r5, r6⟩, h3, h4, t, sy, h5, h6⟩ := h
  exact ⟨(h1.moved hW.alike).kept hq, ⟨r1.warm hW, r2.warm hW, r3.warm hW, r4.warm hW, r5.warm hW, r6.warm hW⟩, (h3.moved hW.alike).kept hq, (h4.moved hW.alike).kept hq, t, sy, (h5.moved hW.alike).kept hq, (h6.moved hW.alike).kept hq⟩
/-- a method's world at a state -/
def md_U (D : va_G) (cy : Nat → ClassId) (tx : (Nat → Nat) × (Nat → Nat)) (base Z : Nat) (K N : Nat → Nat) (M : Nat → Nat → Int32) (R : Nat → Nat → Option Nat) (J : Nat → Nat → Int64) (U : State) : Prop :=
  md_P D cy base Z K N M R J U.heap ∧ U.heap.size = base + Z ∧ md_K D cy U ∧ md_T tx base U
/-- the world on the way -/
def md_G (D : va_G) (cy : Nat → ClassId) (base Z : Nat) (K N : Nat → Nat) (M : Nat → Nat → Int32) (R : Nat → Nat → Option Nat) (J : Nat → Nat → Int64) (s : State) (H : Heap) (locs : List Loc) : Prop :=
  md_P D cy base Z K N M R J H ∧ H.size = base + Z ∧ va_S (fun q => base ≤ q) s.heap H locs
abbrev mS : Type := Nat × (Nat → Nat) × (Nat → Nat) × (Nat → Nat → Int32) × (Nat → Nat → Option Nat) × (Nat → Nat → Int64)
def md_B (D : va_G) (cy : Nat → ClassId) (tx : (Nat → Nat) × (Nat → Nat)) (base : Nat) (u : mS) (t : State) : Prop := md_U D cy tx base u.1 u.2.1 u.2.2.1 u.2.2.2.1 u.2.2.2.2.1 u.2.2.2.2.2 t
def md_rm (d mc ms : Nat) : Room := { frames := d, cells := mc, slots := ms, locals := 40 * d }
theorem md_blind {D : va_G} {cy : Nat → ClassId} {tx : (Nat → Nat) × (Nat → Nat)} {base Z : Nat} {K N : Nat → Nat} {M : Nat → Nat → Int32} {R : Nat → Nat → Option Nat} {J : Nat → Nat → Int64} {av : List Value} : FrameBlind (va_Pc av (md_U D cy tx base Z K N M R J)) := by
  intro a U g mk ⟨h0, h1, h2, h3, h4⟩
  exact ⟨h0, h1, h2, md_K.moved (s := U) (U := U.calling g mk a) (State.WarmedH.refl U) h3, md_T.moved (s := U) (U := U.calling g mk a) (State.WarmedH.refl U) (fun _ _ _ => rfl) h4⟩
theorem md_U.of {D : va_G} {cy : Nat → ClassId} {tx : (Nat → Nat) × (Nat → Nat)} {base Z : Nat} {K N : Nat → Nat} {M : Nat → Nat → Int32} {R : Nat → Nat → Option Nat} {J : Nat → Nat → Int64} {s U : State} {H : Heap} {locs : List Loc} (hK : md_K D cy s) (hT : md_T tx base s) (hG : md_G D cy base Z K N M R J s H locs) (hU : U.heap = H) (hW : s.WarmedH U.vm) : md_U D cy tx base Z K N M R J U := by
  obtain ⟨g1, g2, g3⟩ := hG
  exact ⟨by rw [hU]; exact g1, by rw [hU]; exact g2, hK.moved hW, hT.moved hW (fun q h1 h2 => by rw [hU]; exact g3.2.1 q h1 h2)⟩
theorem md_G.start {D : va_G} {cy : Nat → ClassId} {tx : (Nat → Nat) × (Nat → Nat)} {base Z : Nat} {K N : Nat → Nat} {M : Nat → Nat → Int32} {R : Nat → Nat → Option Nat} {J : Nat → Nat → Int64} {s : State} (h : md_U D cy tx base Z K N M R J s) : md_G D cy base Z K N M R J s s.heap [] := ⟨h.1, h.2.1, va_S.rf⟩
theorem md_G.put {D : va_G} {cy : Nat → ClassId} {base Z a k : Nat} {K N : Nat → Nat} {M M1 : Nat → Nat → Int32} {R R1 : Nat → Nat → Option Nat} {J J1 : Nat → Nat → Int64} {s : State} {H H1 : Heap} {locs : List Loc} (hG : md_G D cy base Z K N M R J s H locs) (z : H1.size = H.size) (oq : ∀ q : Nat, q ≠ base + a → H1[q]? = H[q]?) (hM : ∀ b, b ≠ a → M1 b = M b) (hR : ∀ b, b ≠ a → R1 b = R b) (hJ : ∀ b, b ≠ a → J1 b = J b) (hn : md_at D cy base a (K a) (N a) (M1 a) (R1 a) (J1 a) H1) : md_G D cy base Z K N M1 R1 J1 s H1 (locs ++ [⟨base + a, k⟩]) :=
  ⟨hG.1.set a oq hM hR hJ hn, z.trans hG.2.1, hG.2.2.put z oq (Nat.le_add_right _ _)⟩
/-- a new cell -/
theorem md_G.new {D : va_G} {cy : Nat → ClassId} {base Z n : Nat} {K N : Nat → Nat} {M : Nat → Nat → Int32} {R : Nat → Nat → Option Nat} {J : Nat → Nat → Int64} {s : State} {H H1 : Heap} {locs : List Loc} (hG : md_G D cy base Z K N M R J s H locs) (z : H1.size = H.size + n) (oq : ∀ q : Nat, q < H.size → H1[q]? = H[q]?) (hn : ∀ a, Z ≤ a → a < Z + n → K a ≠ 0 → md_at D cy base a (K a) (N a) (M a) (R a) (J a) H1) : md_G D cy base (Z + n) K N M R J s H1 locs := by
  obtain ⟨g1, g2, g3, g4, g5⟩ := hG
  refine ⟨fun a ha hk => ?_, by omega, by omega, fun q h1 h2 => (oq q (by omega)).trans (g4 q h1 h2), g5⟩
  by_cases h : a < Z
  · exact (g1 a h hk).kept (oq _ (by omega))
  · exact hn a (by omega) ha hk
