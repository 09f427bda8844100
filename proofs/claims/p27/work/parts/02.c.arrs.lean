section MDA
variable {p : Program} {l : Launch} {e : Env} {Rm : Room} {s : State} {m : MethodId} {args : Array Value} {below : List Frame} {meth : Method} {c : Code} {H : Heap} {locs : List Loc} {cells slots : Nat} {Q : State → Prop}
variable {cc : ByteArray} {pc : Nat} {ls : Array Slot} {rest : List Value} {D : va_G} {cy : Nat → ClassId} {tx : (Nat → Nat) × (Nat → Nat)} {base Z : Nat} {K N : Nat → Nat} {M : Nat → Nat → Int32} {R : Nat → Nat → Option Nat} {J : Nat → Nat → Int64}
theorem md_ci {t na : Nat} {ma : Nat → Int32} {ra : Nat → Option Nat} {ja : Nat → Int64} (h : t ≤ 16 ∧ t ≠ 15) : md_cell cy base t na ma ra ja = arrV (cy t) na (fun j => .int (ma j)) := by
  unfold md_cell md_jk
  rw [if_neg h.2, if_pos (Or.inl h.1), if_pos (by omega)]
theorem md_cx {t na : Nat} {ma : Nat → Int32} {ra : Nat → Option Nat} {ja : Nat → Int64} (h : t = 14 ∨ 20 ≤ t) : md_cell cy base t na ma ra ja = arrV (cy 14) na (fun j => .int (ma j)) := by
  unfold md_cell md_jk
  rcases h with rfl | h
  · rfl
  · rw [if_neg (by omega), if_pos (Or.inr h), if_neg (by omega)]
theorem md_cl {na : Nat} {ma : Nat → Int32} {ra : Nat → Option Nat} {ja : Nat → Int64} : md_cell cy base 15 na ma ra ja = arrV (cy 15) na (fun j => .long (ja j)) := by
  unfold md_cell
  rw [if_pos rfl]
theorem md_cr {t na : Nat} {ma : Nat → Int32} {ra : Nat → Option Nat} {ja : Nat → Int64} (h : 16 < t ∧ t < 20) : md_cell cy base t na ma ra ja = arrV (cy t) na (fun j => va_rf ((ra j).map (fun x => base + x))) := by
  unfold md_cell
  rw [if_neg (by omega), if_neg (by omega)]
theorem md_isI (hK : md_K D cy s) (n : Nat) (f : Nat → Value) : s.isArrayOf (arrV (cy 14) n f) .int := (hK.1.2 1 _ rfl).1 n f
theorem md_isB (hK : md_K D cy s) (n : Nat) (f : Nat → Value) : s.isArrayOf (arrV (cy 13) n f) .byte := (hK.1.2 0 _ rfl).1 n f
theorem md_isJ (hK : md_K D cy s) (n : Nat) (f : Nat → Value) : s.isArrayOf (arrV (cy 15) n f) .long := (hK.1.2 2 _ rfl).1 n f
theorem md_isZ (hK : md_K D cy s) (n : Nat) (f : Nat → Value) : s.isArrayOf (arrV (cy 16) n f) .boolean := (hK.1.2 3 _ rfl).1 n f
theorem md_is7 (hK : md_K D cy s) (n : Nat) (f : Nat → Value) : s.isArrayOf (arrV (cy 17) n f) (.object RX7) := (hK.1.2 4 _ rfl).1 n f
theorem md_is9 (hK : md_K D cy s) (n : Nat) (f : Nat → Value) : s.isArrayOf (arrV (cy 18) n f) (.object RX9) := (hK.1.2 5 _ rfl).1 n f
theorem md_isA (hK : md_K D cy s) (n : Nat) (f : Nat → Value) : s.isArrayOf (arrV (cy 19) n f) (.array .int) := (hK.1.2 6 _ rfl).1 n f
theorem md_iald (hexec : p.tables.exec = Jvm.exec) (hb : c.code = cc) (hK : md_K D cy s) (hG : md_G D cy base Z K N M R J s H locs) {a t : Nat} (hz : a < Z) (ha : K a = t) (ht : t = 14 ∨ 20 ≤ t) {i : Int32} {n : Nat} (hn : N a = n) (hin : vp_in i n) {v : Int32} (hv : M a i.toNatClampNeg = v) (hdg : decode cc pc = .ok (.iaload, 1))
    (kk : W p l e Rm s m args below meth c H locs cells slots Q (F0 m (pc + 1) ls (.int v :: rest))) : W p l e Rm s m args below meth c H locs cells slots Q (F0 m pc ls (.int i :: .ref (base + a) :: rest)) := by
  have hlt : i.toNatClampNeg < n := Nat.not_le.mp fun q => hin (Or.inr q)
  subst hn
  subst hv
  exact W.iald (v := .int (M a i.toNatClampNeg)) hexec hb ((hG.1.arr hz ha (by omega)).trans (congrArg some (md_cx ht))) (md_isI hK _ _) (fun q => by cases q) (by rw [arrV_size]; exact hin) (by rw [arrV_read _ _ hlt]) rfl rfl hdg kk
theorem md_bald (hexec : p.tables.exec = Jvm.exec) (hb : c.code = cc) (hK : md_K D cy s) (hG : md_G D cy base Z K N M R J s H locs) {a : Nat} (hz : a < Z) (ha : K a = 13) {i : Int32} {n : Nat} (hn : N a = n) (hin : vp_in i n) {v : Int32} (hv : M a i.toNatClampNeg = v) (hdg : decode cc pc = .ok (.baload, 1))
    (kk : W p l e Rm s m args below meth c H locs cells slots Q (F0 m (pc + 1) ls (.int v :: rest))) : W p l e Rm s m args below meth c H locs cells slots Q (F0 m pc ls (.int i :: .ref (base + a) :: rest)) := by
  have hlt : i.toNatClampNeg < n := Nat.not_le.mp fun q => hin (Or.inr q)
  subst hn
  subst hv
  exact W.bald (v := .int (M a i.toNatClampNeg)) hexec hb ((hG.1.arr hz ha (by omega)).trans (congrArg some (md_ci (by omega)))) (md_isB hK _ _) (fun q => by cases q) (by rw [arrV_size]; exact hin) (by rw [arrV_read _ _ hlt]) rfl rfl hdg kk
theorem md_zald (hexec : p.tables.exec = Jvm.exec) (hb : c.code = cc) (hK : md_K D cy s) (hG : md_G D cy base Z K N M R J s H locs) {a : Nat} (hz : a < Z) (ha : K a = 16) {i : Int32} {n : Nat} (hn : N a = n) (hin : vp_in i n) {v : Int32} (hv : M a i.toNatClampNeg = v) (hdg : decode cc pc = .ok (.baload, 1))
    (kk : W p l e Rm s m args below meth c H locs cells slots Q (F0 m (pc + 1) ls (.int v :: rest))) : W p l e Rm s m args below meth c H locs cells slots Q (F0 m pc ls (.int i :: .ref (base + a) :: rest)) := by
  have hlt : i.toNatClampNeg < n := Nat.not_le.mp fun q => hin (Or.inr q)
  subst hn
  subst hv
  exact W.zald (v := .int (M a i.toNatClampNeg)) hexec hb ((hG.1.arr hz ha (by omega)).trans (congrArg some (md_ci (by omega)))) (md_isZ hK _ _) (fun q => by cases q) (by rw [arrV_size]; exact hin) (by rw [arrV_read _ _ hlt]) rfl rfl hdg kk
theorem md_lald (hexec : p.tables.exec = Jvm.exec) (hb : c.code = cc) (hK : md_K D cy s) (hG : md_G D cy base Z K N M R J s H locs) {a : Nat} (hz : a < Z) (ha : K a = 15) {i : Int32} {n : Nat} (hn : N a = n) (hin : vp_in i n) {v : Int64} (hv : J a i.toNatClampNeg = v) (hdg : decode cc pc = .ok (.laload, 1))
    (kk : W p l e Rm s m args below meth c H locs cells slots Q (F0 m (pc + 1) ls (.long v :: rest))) : W p l e Rm s m args below meth c H locs cells slots Q (F0 m pc ls (.int i :: .ref (base + a) :: rest)) := by
  have hlt : i.toNatClampNeg < n := Nat.not_le.mp fun q => hin (Or.inr q)
  subst hn
  subst hv
  exact W.lald (v := .long (J a i.toNatClampNeg)) hexec hb ((hG.1.arr hz ha (by omega)).trans (congrArg some md_cl)) (md_isJ hK _ _) (fun q => by cases q) (by rw [arrV_size]; exact hin) (by rw [arrV_read _ _ hlt]) rfl rfl hdg kk
theorem md_store {t a k : Nat} (ht : t ≤ 16 ∧ t ≠ 15 ∧ 12 < t) (ha : K a = t) {x : Int32} {H1 : Heap} (e : H1[base + a]? = some ((arrV (cy t) (N a) (fun j => .int (M a j))).setSlot k (.int x))) : md_at D cy base a (K a) (N a) (u2 M a k x a) (R a) (J a) H1 := by
  unfold md_at
  rw [if_neg (by omega), ha, e, md_ci (by omega), arrV_store]
  refine congrArg some (congrArg (arrV (cy t) (N a)) (funext fun j => ?_))
  by_cases hj : j = k
  · subst hj
    simp [updV, u2]
  · simp [updV, u2, hj]
theorem md_storex {t a k : Nat} (ht : t = 14 ∨ 20 ≤ t) (ha : K a = t) {x : Int32} {H1 : Heap} (e : H1[base + a]? = some ((arrV (cy 14) (N a) (fun j => .int (M a j))).setSlot k (.int x))) : md_at D cy base a (K a) (N a) (u2 M a k x a) (R a) (J a) H1 := by
  unfold md_at
  rw [if_neg (by omega), ha, e, md_cx ht, arrV_store]
  refine congrArg some (congrArg (arrV (cy 14) (N a)) (funext fun j => ?_))
  by_cases hj : j = k
  · subst hj
    simp [updV, u2]
  · simp [updV, u2, hj]
theorem md_iast (hexec : p.tables.exec = Jvm.exec) (hb : c.code = cc) (hK : md_K D cy s) (hG : md_G D cy base Z K N M R J s H locs) {a t : Nat} (hz : a < Z) (ha : K a = t) (ht : t = 14 ∨ 20 ≤ t) {i x : Int32} {n k : Nat} (hn : N a = n) (hin : vp_in i n) (hi : i.toNatClampNeg = k) (hdg : decode cc pc = .ok (.iastore, 1))
    (kk : ∀ (H1 : Heap) (locs1 : List Loc), md_G D cy base Z K N (u2 M a k x) R J s H1 locs1 → W p l e Rm s m args below meth c H1 locs1 cells slots Q (F0 m (pc + 1) ls rest)) : W p l e Rm s m args below meth c H locs cells slots Q (F0 m pc ls (.int x :: .int i :: .ref (base + a) :: rest)) := by
  subst hn
  subst hi
  refine W.iast hexec hb ((hG.1.arr hz ha (by omega)).trans (congrArg some (md_cx ht))) (md_isI hK _ _) (fun q => by cases q) (by rw [arrV_size]; exact hin) rfl rfl hdg fun H1 e z oq => ?_
  exact kk H1 _ (hG.put z oq (fun b hb => u2_ne hb) (fun _ _ => rfl) (fun _ _ => rfl) (md_storex ht ha e))
theorem md_bast (hexec : p.tables.exec = Jvm.exec) (hb : c.code = cc) (hK : md_K D cy s) (hG : md_G D cy base Z K N M R J s H locs) {a : Nat} (hz : a < Z) (ha : K a = 13) {i x : Int32} {n k : Nat} (hn : N a = n) (hin : vp_in i n) (hi : i.toNatClampNeg = k) (hdg : decode cc pc = .ok (.bastore, 1))
    (kk : ∀ (H1 : Heap) (locs1 : List Loc), md_G D cy base Z K N (u2 M a k (vp_nar .byte x)) R J s H1 locs1 → W p l e Rm s m args below meth c H1 locs1 cells slots Q (F0 m (pc + 1) ls rest)) : W p l e Rm s m args below meth c H locs cells slots Q (F0 m pc ls (.int x :: .int i :: .ref (base + a) :: rest)) := by
  subst hn
  subst hi
  refine W.bast hexec hb ((hG.1.arr hz ha (by omega)).trans (congrArg some (md_ci (by omega)))) (md_isB hK _ _) (fun q => by cases q) (by rw [arrV_size]; exact hin) rfl rfl hdg fun H1 e z oq => ?_
  exact kk H1 _ (hG.put z oq (fun b hb => u2_ne hb) (fun _ _ => rfl) (fun _ _ => rfl) (md_store (t := 13) (x := vp_nar .byte x) (by omega) ha e))
theorem md_zast (hexec : p.tables.exec = Jvm.exec) (hb : c.code = cc) (hK : md_K D cy s) (hG : md_G D cy base Z K N M R J s H locs) {a : Nat} (hz : a < Z) (ha : K a = 16) {i x : Int32} {n k : Nat} (hn : N a = n) (hin : vp_in i n) (hi : i.toNatClampNeg = k) (hdg : decode cc pc = .ok (.bastore, 1))
    (kk : ∀ (H1 : Heap) (locs1 : List Loc), md_G D cy base Z K N (u2 M a k (vp_nar .boolean x)) R J s H1 locs1 → W p l e Rm s m args below meth c H1 locs1 cells slots Q (F0 m (pc + 1) ls rest)) : W p l e Rm s m args below meth c H locs cells slots Q (F0 m pc ls (.int x :: .int i :: .ref (base + a) :: rest)) := by
  subst hn
  subst hi
  refine W.zast hexec hb ((hG.1.arr hz ha (by omega)).trans (congrArg some (md_ci (by omega)))) (md_isZ hK _ _) (fun q => by cases q) (by rw [arrV_size]; exact hin) rfl rfl hdg fun H1 e z oq => ?_
  exact kk H1 _ (hG.put z oq (fun b hb => u2_ne hb) (fun _ _ => rfl) (fun _ _ => rfl) (md_store (t := 16) (x := vp_nar .boolean x) (by omega) ha e))
theorem md_last (hexec : p.tables.exec = Jvm.exec) (hb : c.code = cc) (hK : md_K D cy s) (hG : md_G D cy base Z K N M R J s H locs) {a : Nat} (hz : a < Z) (ha : K a = 15) {i : Int32} {x : Int64} {n k : Nat} (hn : N a = n) (hin : vp_in i n) (hi : i.toNatClampNeg = k) (hdg : decode cc pc = .ok (.lastore, 1))
    (kk : ∀ (H1 : Heap) (locs1 : List Loc), md_G D cy base Z K N M R (u2 J a k x) s H1 locs1 → W p l e Rm s m args below meth c H1 locs1 cells slots Q (F0 m (pc + 1) ls rest)) : W p l e Rm s m args below meth c H locs cells slots Q (F0 m pc ls (.long x :: .int i :: .ref (base + a) :: rest)) := by
  subst hn
  subst hi
  refine W.last hexec hb ((hG.1.arr hz ha (by omega)).trans (congrArg some md_cl)) (md_isJ hK _ _) (fun q => by cases q) (by rw [arrV_size]; exact hin) rfl rfl hdg fun H1 e z oq => ?_
  refine kk H1 _ (hG.put z oq (fun _ _ => rfl) (fun _ _ => rfl) (fun b hb => u2_ne hb) ?_)
  unfold md_at
  rw [if_neg (by omega), ha, e, md_cl, arrV_store]
  refine congrArg some (congrArg (arrV (cy 15) (N a)) (funext fun j => ?_))
  by_cases hj : j = i.toNatClampNeg
  · subst hj
    simp [updV, u2]
  · simp [updV, u2, hj]
theorem md_alen (hexec : p.tables.exec = Jvm.exec) (hb : c.code = cc) (hK : md_K D cy s) (hG : md_G D cy base Z K N M R J s H locs) {a t : Nat} (hz : a < Z) (ha : K a = t) (ht : 12 < t) {n : Nat} (hn : N a = n) {v : Int32} (hv : Int32.ofNat n = v) (hdg : decode cc pc = .ok (.arraylength, 1))
    (kk : W p l e Rm s m args below meth c H locs cells slots Q (F0 m (pc + 1) ls (.int v :: rest))) : W p l e Rm s m args below meth c H locs cells slots Q (F0 m pc ls (.ref (base + a) :: rest)) := by
  subst hn
  subst hv
  have h := hG.1.arr hz ha ht
  rcases (show 20 ≤ t ∨ t = 13 ∨ t = 14 ∨ t = 15 ∨ t = 16 ∨ t = 17 ∨ t = 18 ∨ t = 19 by omega) with h20 | rfl | rfl | rfl | rfl | rfl | rfl | rfl
  · exact W.alen (n := Int32.ofNat (N a)) hexec hb (h.trans (congrArg some (md_cx (Or.inr h20)))) (md_isI hK _ _) (by rw [arrV_size] <;> rfl) rfl rfl hdg kk
  · exact W.alen (n := Int32.ofNat (N a)) hexec hb (h.trans (congrArg some (md_ci (by omega)))) (md_isB hK _ _) (by rw [arrV_size] <;> rfl) rfl rfl hdg kk
  · exact W.alen (n := Int32.ofNat (N a)) hexec hb (h.trans (congrArg some (md_ci (by omega)))) (md_isI hK _ _) (by rw [arrV_size] <;> rfl) rfl rfl hdg kk
  · exact W.alen (n := Int32.ofNat (N a)) hexec hb (h.trans (congrArg some md_cl)) (md_isJ hK _ _) (by rw [arrV_size] <;> rfl) rfl rfl hdg kk
  · exact W.alen (n := Int32.ofNat (N a)) hexec hb (h.trans (congrArg some (md_ci (by omega)))) (md_isZ hK _ _) (by rw [arrV_size] <;> rfl) rfl rfl hdg kk
  · exact W.alen (n := Int32.ofNat (N a)) hexec hb (h.trans (congrArg some (md_cr (by omega)))) (md_is7 hK _ _) (by rw [arrV_size] <;> rfl) rfl rfl hdg kk
  · exact W.alen (n := Int32.ofNat (N a)) hexec hb (h.trans (congrArg some (md_cr (by omega)))) (md_is9 hK _ _) (by rw [arrV_size] <;> rfl) rfl rfl hdg kk
  · exact W.alen (n := Int32.ofNat (N a)) hexec hb (h.trans (congrArg some (md_cr (by omega)))) (md_isA hK _ _) (by rw [arrV_size] <;> rfl) rfl rfl hdg kk
/-- a place of an array of references -/
theorem md_aald (hexec : p.tables.exec = Jvm.exec) (hb : c.code = cc) (hK : md_K D cy s) (hG : md_G D cy base Z K N M R J s H locs) {a t : Nat} (hz : a < Z) (ha : K a = t) (ht : 16 < t ∧ t < 20) {i : Int32} {n : Nat} (hn : N a = n) (hin : vp_in i n) {r : Option Nat} (hv : R a i.toNatClampNeg = r) (hdg : decode cc pc = .ok (.aaload, 1))
    (kk : W p l e Rm s m args below meth c H locs cells slots Q (F0 m (pc + 1) ls (va_rf (r.map (fun x => base + x)) :: rest))) : W p l e Rm s m args below meth c H locs cells slots Q (F0 m pc ls (.int i :: .ref (base + a) :: rest)) := by
  have hlt : i.toNatClampNeg < n := Nat.not_le.mp fun q => hin (Or.inr q)
  subst hn
  subst hv
  have h := (hG.1.arr hz ha (by omega)).trans (congrArg some (md_cr ht))
  rcases (show t = 17 ∨ t = 18 ∨ t = 19 by omega) with rfl | rfl | rfl
  · exact W.aald (v := va_rf ((R a i.toNatClampNeg).map (fun x => base + x))) (ty := .object RX7) hexec hb h (md_is7 hK _ _) rfl (fun q => by cases q) (by rw [arrV_size]; exact hin) (by rw [arrV_read _ _ hlt]) rfl rfl hdg kk
  · exact W.aald (v := va_rf ((R a i.toNatClampNeg).map (fun x => base + x))) (ty := .object RX9) hexec hb h (md_is9 hK _ _) rfl (fun q => by cases q) (by rw [arrV_size]; exact hin) (by rw [arrV_read _ _ hlt]) rfl rfl hdg kk
  · exact W.aald (v := va_rf ((R a i.toNatClampNeg).map (fun x => base + x))) (ty := .array .int) hexec hb h (md_isA hK _ _) rfl (fun q => by cases q) (by rw [arrV_size]; exact hin) (by rw [arrV_read _ _ hlt]) rfl rfl hdg kk
theorem md_storer {t a k : Nat} (ht : 16 < t ∧ t < 20) (ha : K a = t) {x : Nat} {H1 : Heap} (e : H1[base + a]? = some ((arrV (cy t) (N a) (fun j => va_rf ((R a j).map (fun x => base + x)))).setSlot k (.ref (base + x)))) : md_at D cy base a (K a) (N a) (M a) (u2 R a k (some x) a) (J a) H1 := by
  unfold md_at
  rw [if_neg (by omega), ha, e, md_cr ht, arrV_store]
  refine congrArg some (congrArg (arrV (cy t) (N a)) (funext fun j => ?_))
  by_cases hj : j = k
  · subst hj
    simp [updV, u2, va_rf]
  · simp [updV, u2, hj]
/-- an object of class cx (its name C) into an array of such -/
theorem md_aast (hexec : p.tables.exec = Jvm.exec) (hb : c.code = cc) (hK : md_K D cy s) (hG : md_G D cy base Z K N M R J s H locs) {a t : Nat} (hz : a < Z) (ha : K a = t) {b cx : Nat} (hzb : b < Z) (hbk : K b = cx + 1) (ht : (t = 17 ∧ cx = 7) ∨ (t = 18 ∧ cx = 9)) {i : Int32} {n k : Nat} (hn : N a = n) (hin : vp_in i n) (hi : i.toNatClampNeg = k) (hdg : decode cc pc = .ok (.aastore, 1))
    (kk : ∀ (H1 : Heap) (locs1 : List Loc), md_G D cy base Z K N M (u2 R a k (some b)) J s H1 locs1 → W p l e Rm s m args below meth c H1 locs1 cells slots Q (F0 m (pc + 1) ls rest)) : W p l e Rm s m args below meth c H locs cells slots Q (F0 m pc ls (.ref (base + b) :: .int i :: .ref (base + a) :: rest)) := by
  subst hn
  subst hi
  have hlt : i.toNatClampNeg < N a := Nat.not_le.mp fun q => hin (Or.inr q)
  have h0 : ¬ i < 0 := fun q => hin (Or.inl q)
  have h := (hG.1.arr hz ha (by omega)).trans (congrArg some (md_cr (by omega)))
  obtain ⟨cellV, g1, g2, g3, -⟩ := hG.1.obj hzb hbk (by omega)
  rcases ht with ⟨rfl, rfl⟩ | ⟨rfl, rfl⟩
  · have hcls := (hK.1.1 7 _ rfl).2
    obtain ⟨kA, comp, k1, k2, k3, -⟩ := (hK.1.2 4 _ rfl).2
    have hcomp : comp = D.1 7 := Option.some.inj (k3.symm.trans hcls.1)
    subst hcomp
    obtain ⟨kC, hkC, -⟩ := id hcls.2
    refine W.aast hexec hb h (fun q h => by cases h) (fun h => by cases h) k1 k2 rfl hkC ⟨h0, by rw [arrV_size]; exact hlt⟩ g1 (fun q h => by rw [g3] at h; cases h) (by rw [g2]; exact hkC) (by rw [g2]; exact va_assign hcls) rfl rfl hdg fun H1 e z oq => ?_
    exact kk H1 _ (hG.put z oq (fun _ _ => rfl) (fun b hb => u2_ne hb) (fun _ _ => rfl) (md_storer (by omega) ha e))
  · have hcls := (hK.1.1 9 _ rfl).2
    obtain ⟨kA, comp, k1, k2, k3, -⟩ := (hK.1.2 5 _ rfl).2
    have hcomp : comp = D.1 9 := Option.some.inj (k3.symm.trans hcls.1)
    subst hcomp
    obtain ⟨kC, hkC, -⟩ := id hcls.2
    refine W.aast hexec hb h (fun q h => by cases h) (fun h => by cases h) k1 k2 rfl hkC ⟨h0, by rw [arrV_size]; exact hlt⟩ g1 (fun q h => by rw [g3] at h; cases h) (by rw [g2]; exact hkC) (by rw [g2]; exact va_assign hcls) rfl rfl hdg fun H1 e z oq => ?_
    exact kk H1 _ (hG.put z oq (fun _ _ => rfl) (fun b hb => u2_ne hb) (fun _ _ => rfl) (md_storer (by omega) ha e))
end MDA
