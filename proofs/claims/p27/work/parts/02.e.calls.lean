/-- a class that can be made, by its link: class cx of n fields -/
def md_C (own : String) (index cx n : Nat) : Prop :=
  ∃ (C : String) (T : u_T) (ty0 : Nat → FieldType), vwCl[cx]? = some (C, T, n) ∧ (cx < 12 ∧ md_nf cx = n) ∧ (∀ w ∈ u_ws C T n, w ∈ lw_tbl) ∧ (∀ k, k < n → parseFieldDescriptor (T k).2.2.1 = some (ty0 k)) ∧ (∀ k, k < n → defaultValue (ty0 k) = if md_ref cx k = true then .null else .int 0) ∧ Cond.classLink own index C ∈ lw_tbl ∧ Cond.instantiable C n ∈ lw_tbl ∧ Cond.initialized C ∈ lw_tbl
/-- a whole row of the memory -/
def ur {α : Type} (f : Nat → Nat → α) (a : Nat) (g : Nat → α) : Nat → Nat → α := fun b => if b = a then g else f b
theorem ur_ne {α : Type} {f : Nat → Nat → α} {a b : Nat} {g : Nat → α} (h : b ≠ a) : ur f a g b = f b := if_neg h
theorem ur_at {α : Type} {f : Nat → Nat → α} {a : Nat} {g : Nat → α} : ur f a g a = g := if_pos rfl
section MDN
variable {p : Program} {l : Launch} {e : Env} {Rm : Room} {s : State} {m : MethodId} {args : Array Value} {below : List Frame} {meth : Method} {c : Code} {H : Heap} {locs : List Loc} {cells slots : Nat} {Q : State → Prop}
variable {cc : ByteArray} {pc : Nat} {ls : Array Slot} {rest : List Value} {D : va_G} {cy : Nat → ClassId} {tx : (Nat → Nat) × (Nat → Nat)} {base Z : Nat} {K N : Nat → Nat} {M : Nat → Nat → Int32} {R : Nat → Nat → Option Nat} {J : Nat → Nat → Int64}
theorem md_new (hexec : p.tables.exec = Jvm.exec) (hb : c.code = cc) (hW : ∀ w ∈ lw_tbl, goodWord w = true → w.before args s = true) {own : String} (hown : s.vm.findClass own = some m.cls) (hK : md_K D cy s) (hG : md_G D cy base Z K N M R J s H locs) {index cx n : Nat} (hC : md_C own index cx n) (hkz : K Z = cx + 1 ∨ K Z = 0) (hM0 : ∀ k, M Z k = 0) (hR0 : ∀ k, R Z k = none) (hcells : cells + 1 ≤ Rm.cells) (hslots : slots + n ≤ Rm.slots) (hdg : decode cc pc = .ok (.new index, 3))
    (kk : ∀ H1 : Heap, md_G D cy base (Z + 1) K N M R J s H1 locs → W p l e Rm s m args below meth c H1 locs (cells + 1) (slots + n) Q (F0 m (pc + 3) ls (.ref (base + Z) :: rest))) : W p l e Rm s m args below meth c H locs cells slots Q (F0 m pc ls rest) := by
  obtain ⟨C, T, ty0, hc, ⟨h12, hnf⟩, hin, hty, hdef, hcl, hinst, hini⟩ := hC
  have hKn := hK.1.1 cx _ hc
  obtain ⟨c9, k9, f9, g9, -, -, -, s9⟩ := Cond.instantiable_spec (hW _ hinst rfl)
  refine W.newcK hexec hb hown (hW _ hcl rfl) (hW _ hinst rfl) (hW _ hini rfl) rfl hdg hcells hslots hKn.2.1 hG.2.1 fun H1 kC hkC e1 z1 o1 => ?_
  have ec : c9 = D.1 cx := Option.some.inj (f9.symm.trans hKn.2.1)
  have ek : k9 = kC := by
    rw [ec] at g9
    exact Option.some.inj (g9.symm.trans hkC)
  refine kk H1 (hG.new (by rw [z1, hG.2.1]) (fun q hq => o1 q (by rw [← hG.2.1]; exact hq)) ?_)
  intro a h1 h2 hk
  have ea : a = Z := by omega
  subst ea
  rcases hkz with hkz | hkz
  · unfold md_at
    rw [if_pos (by omega), hkz, show cx + 1 - 1 = cx from rfl, hnf]
    refine ⟨(u_born ty0 ((md_okl hin).bef hW) (fun w h => h) hKn hkC e1 hty).to (fun j hj => ?_), _, e1, by rw [← s9, ek]; simp [blank]⟩
    rw [hdef j hj]
    unfold md_v
    rw [hM0 j, hR0 j]
    rfl
  · exact absurd hkz hk
theorem md_newa (hexec : p.tables.exec = Jvm.exec) (hb : c.code = cc) (hW : ∀ w ∈ lw_tbl, goodWord w = true → w.before args s = true) (hK : md_K D cy s) (hG : md_G D cy base Z K N M R J s H locs) {atype : ArrayType} {t : Nat} (ht : (atype = .byte ∧ t = 13) ∨ (atype = .int ∧ (t = 14 ∨ 20 ≤ t)) ∨ (atype = .long ∧ t = 15) ∨ (atype = .boolean ∧ t = 16)) (harr : Cond.arrayClass (newarray.typeOf atype) ∈ lw_tbl) {n : Int32} {na : Nat} (hn : ¬ n < 0) (hna : n.toNatClampNeg = na) (hb1 : na * 8 ≤ 536870912) (hkz : (K Z = t ∧ N Z = na) ∨ K Z = 0) (hM0 : ∀ k, M Z k = 0) (hJ0 : ∀ k, J Z k = 0) (hcells : cells + 1 ≤ Rm.cells) (hslots : slots + na ≤ Rm.slots) (hdg : decode cc pc = .ok (.newarray atype, 2))
    (kk : ∀ H1 : Heap, md_G D cy base (Z + 1) K N M R J s H1 locs → W p l e Rm s m args below meth c H1 locs (cells + 1) (slots + na) Q (F0 m (pc + 2) ls (.ref (base + Z) :: rest))) : W p l e Rm s m args below meth c H locs cells slots Q (F0 m pc ls (.int n :: rest)) := by
  have hbytes : na * componentBytes (newarray.typeOf atype) ≤ 536870912 := by
    rcases ht with ⟨rfl, -⟩ | ⟨rfl, -⟩ | ⟨rfl, -⟩ | ⟨rfl, -⟩
    · show na * 1 ≤ _; omega
    · show na * 4 ≤ _; omega
    · show na * 8 ≤ _; omega
    · show na * 1 ≤ _; omega
  refine va_newaK hexec hb (hW _ harr rfl) rfl hdg rfl hn hna hbytes hcells hslots hG.2.1 fun H1 cA e1 z1 o1 hAr hNm => ?_
  refine kk H1 (hG.new (by rw [z1, hG.2.1]) (fun q hq => o1 q (by rw [← hG.2.1]; exact hq)) ?_)
  intro a h1 h2 hk
  have ea : a = Z := by omega
  subst ea
  rcases hkz with ⟨hkz, hnz⟩ | hkz
  · unfold md_at
    rw [if_neg (by omega), hkz, hnz, e1]
    rcases ht with ⟨rfl, rfl⟩ | ⟨rfl, ht⟩ | ⟨rfl, rfl⟩ | ⟨rfl, rfl⟩
    · have ec : cA = cy 13 := Option.some.inj (hNm.symm.trans (hK.1.2 0 _ rfl).2)
      rw [ec, md_ci (by omega)]
      exact congrArg some (congrArg (arrV _ _) (funext fun j => by rw [hM0 j]; rfl))
    · have ec : cA = cy 14 := Option.some.inj (hNm.symm.trans (hK.1.2 1 _ rfl).2)
      rw [ec, md_cx ht]
      exact congrArg some (congrArg (arrV _ _) (funext fun j => by rw [hM0 j]; rfl))
    · have ec : cA = cy 15 := Option.some.inj (hNm.symm.trans (hK.1.2 2 _ rfl).2)
      rw [ec, md_cl]
      exact congrArg some (congrArg (arrV _ _) (funext fun j => by rw [hJ0 j]; rfl))
    · have ec : cA = cy 16 := Option.some.inj (hNm.symm.trans (hK.1.2 3 _ rfl).2)
      rw [ec, md_ci (by omega)]
      exact congrArg some (congrArg (arrV _ _) (funext fun j => by rw [hM0 j]; rfl))
  · exact absurd hkz hk
/-- new Rule[n], new State[n] -/
theorem md_newq (hexec : p.tables.exec = Jvm.exec) (hb : c.code = cc) (hW : ∀ w ∈ lw_tbl, goodWord w = true → w.before args s = true) {own C : String} (hown : s.vm.findClass own = some m.cls) (hK : md_K D cy s) (hG : md_G D cy base Z K N M R J s H locs) {index t : Nat} (ht : (C = RX7 ∧ t = 17) ∨ (C = RX9 ∧ t = 18)) (hcl : Cond.classLink own index C ∈ lw_tbl) {n : Int32} {na : Nat} (hn : ¬ n < 0) (hna : n.toNatClampNeg = na) (hb1 : na * 4 ≤ 536870912) (hkz : (K Z = t ∧ N Z = na) ∨ K Z = 0) (hR0 : ∀ k, R Z k = none) (hcells : cells + 1 ≤ Rm.cells) (hslots : slots + na ≤ Rm.slots) (hdg : decode cc pc = .ok (.anewarray index, 3))
    (kk : ∀ H1 : Heap, md_G D cy base (Z + 1) K N M R J s H1 locs → W p l e Rm s m args below meth c H1 locs (cells + 1) (slots + na) Q (F0 m (pc + 3) ls (.ref (base + Z) :: rest))) : W p l e Rm s m args below meth c H locs cells slots Q (F0 m pc ls (.int n :: rest)) := by
  subst hna
  have hover : va_AO C s := by
    rcases ht with ⟨rfl, -⟩ | ⟨rfl, -⟩
    · exact hK.2.2.2.1
    · exact hK.2.2.2.2.1
  refine W.anew hexec hb hown (hW _ hcl rfl) (va_AO.use hover) rfl hdg rfl hn hb1 hcells hslots fun cA kA comp f1 f2 f3 f4 => ?_
  rw [hG.2.1]
  refine kk _ (hG.new (by rw [Array.size_push]) (fun q hq => by rw [Array.getElem?_push, if_neg (Nat.ne_of_lt hq)]) ?_)
  intro a h1 h2 hk
  have ea : a = Z := by omega
  subst ea
  rcases hkz with ⟨hkz, hnz⟩ | hkz
  · unfold md_at
    rw [if_neg (by omega), hkz, hnz, ← hG.2.1, Array.getElem?_push_size, arrV_new, md_cr (by omega)]
    have ec : cA = cy t := by
      rcases ht with ⟨rfl, rfl⟩ | ⟨rfl, rfl⟩
      · obtain ⟨kB, comB, k1, k2, k3, k4⟩ := (hK.1.2 4 _ rfl).2
        exact Option.some.inj (f1.symm.trans k4)
      · obtain ⟨kB, comB, k1, k2, k3, k4⟩ := (hK.1.2 5 _ rfl).2
        exact Option.some.inj (f1.symm.trans k4)
    rw [ec]
    exact congrArg some (congrArg (arrV _ _) (funext fun j => by rw [hR0 j]; rfl))
  · exact absurd hkz hk
/-- new int[n][k]: kind 19, its rows of kind t -/
theorem md_mna (hexec : p.tables.exec = Jvm.exec) (hb : c.code = cc) (hW : ∀ w ∈ lw_tbl, goodWord w = true → w.before args s = true) {own : String} (hown : s.vm.findClass own = some m.cls) (hK : md_K D cy s) (hG : md_G D cy base Z K N M R J s H locs) {index t : Nat} (ht : t = 14 ∨ 20 ≤ t) (hcl : Cond.classLink own index "[[I" ∈ lw_tbl) (harr : Cond.arrayClass .int ∈ lw_tbl) {n k : Int32} {n' k' : Nat} (hn : ¬ n < 0) (hk : ¬ k < 0) (hN : n.toNatClampNeg = n') (hM : k.toNatClampNeg = k') (hb1 : n' * 4 ≤ 536870912) (hb2 : k' * 4 ≤ 536870912) (hkz : K Z = 19 ∧ N Z = n') (hkr : ∀ i, i < n' → K (Z + 1 + i) = t ∧ N (Z + 1 + i) = k') (hM0 : ∀ a, Z ≤ a → ∀ j, M a j = 0) (hcells : cells + (1 + n') ≤ Rm.cells) (hslots : slots + (n' + n' * k') ≤ Rm.slots) (hdg : decode cc pc = .ok (.multianewarray index 2, 4))
    (kk : ∀ H1 : Heap, md_G D cy base (Z + (1 + n')) K N M (ur R Z (fun j => if j < n' then some (Z + 1 + j) else none)) J s H1 locs → W p l e Rm s m args below meth c H1 locs (cells + (1 + n')) (slots + (n' + n' * k')) Q (F0 m (pc + 4) ls (.ref (base + Z) :: rest))) (hs : base ≤ s.heap.size) (hzz : s.heap.size ≤ base + Z) : W p l e Rm s m args below meth c H locs cells slots Q (F0 m pc ls (.int k :: .int n :: rest)) := by
  subst hN
  subst hM
  intro T hT X
  obtain ⟨vm₁, cA, cI, fA, fI, X', step⟩ := mn_step X hexec hown (hW _ hcl rfl) hK.2.2.2.2.2 (hW _ harr rfl) (g := F0 m pc ls (.int k :: .int n :: rest)) rfl (by rw [hb]; exact hdg) (rest := rest) rfl hn hk hb1 hb2 hcells hslots
  generalize hF : mn_st (T.setVm vm₁) cA cI n.toNatClampNeg k.toNatClampNeg n.toNatClampNeg = F at X' step
  have hTh : (T.setVm vm₁).heap = H := hT
  have hcA : cA = cy 19 := Option.some.inj (fA.symm.trans (hK.1.2 6 _ rfl).2)
  have hcI : cI = cy 14 := Option.some.inj (fI.symm.trans (hK.1.2 1 _ rfl).2)
  obtain ⟨f1, f2, -, -⟩ := mn_st_f (T.setVm vm₁) cA cI n.toNatClampNeg k.toNatClampNeg n.toNatClampNeg
  rw [hF, hTh] at f1 f2
  have hold : ∀ x : Nat, x < H.size → F.heap[x]? = H[x]? := fun x hx => by
    have := mn_st_old (T.setVm vm₁) cA cI n.toNatClampNeg k.toNatClampNeg (a := x) (by rw [hTh]; exact hx) n.toNatClampNeg
    rw [hF, hTh] at this
    exact this
  have hrow : ∀ j : Nat, j < n.toNatClampNeg → F.heap[H.size + 1 + j]? = some (mn_in cI k.toNatClampNeg) := fun j hj => by
    have := mn_st_in (T.setVm vm₁) cA cI n.toNatClampNeg k.toNatClampNeg n.toNatClampNeg j hj
    rw [hF, hTh] at this
    exact this
  have hsz := hG.2.1
  have hG0 : md_G D cy base Z K N M (ur R Z (fun j => if j < n.toNatClampNeg then some (Z + 1 + j) else none)) J s H locs := ⟨fun a hz hk => by rw [ur_ne (by omega)]; exact hG.1 a hz hk, hG.2.1, hG.2.2⟩
  have hG1 : md_G D cy base (Z + (1 + n.toNatClampNeg)) K N M (ur R Z (fun j => if j < n.toNatClampNeg then some (Z + 1 + j) else none)) J s F.heap locs := by
    refine hG0.new (by omega) hold (fun a h1 h2 hk => ?_)
    rcases Nat.lt_or_ge Z a with hlt | hge
    · obtain ⟨i, rfl⟩ : ∃ i, a = Z + 1 + i := ⟨a - (Z + 1), by omega⟩
      have hi : i < n.toNatClampNeg := by omega
      obtain ⟨g1, g2⟩ := hkr i hi
      unfold md_at
      rw [if_neg (by omega), g1, g2, md_cx ht, show base + (Z + 1 + i) = H.size + 1 + i by omega, hrow i hi, hcI]
      refine congrArg some ?_
      unfold mn_in
      rw [arrV_new]
      exact congrArg (arrV (cy 14) k.toNatClampNeg) (funext fun j => by rw [hM0 _ (by omega) j])
    · have ea : a = Z := by omega
      subst ea
      unfold md_at
      rw [if_neg (by omega), hkz.1, hkz.2, ur_at, md_cr (by omega), ← hsz, f2, mn_out_v, hcA, hsz]
      refine congrArg some (congrArg (arrV (cy 19) n.toNatClampNeg) (funext fun j => ?_))
      by_cases hj : j < n.toNatClampNeg
      · rw [if_pos hj, if_pos hj]
        show Value.ref (base + a + 1 + j) = Value.ref (base + (a + 1 + j))
        rw [show base + a + 1 + j = base + (a + 1 + j) by omega]
      · rw [if_neg hj, if_neg hj]
        rfl
  have X1 : Stand p l e Rm s m args below meth c F locs (cells + (1 + n.toNatClampNeg)) (slots + (n.toNatClampNeg + n.toNatClampNeg * k.toNatClampNeg)) := by
    have h := Stand.forget (locs := locs) X' (fun q hq => by
      obtain ⟨j, -, rfl⟩ := List.mem_map.mp hq
      show s.heap.size ≤ T.heap.size
      rw [hT, hG.2.1]
      exact hzz)
    rw [Nat.add_assoc, Nat.add_assoc] at h
    exact h
  obtain ⟨t, a1, b1⟩ := kk F.heap hG1 F rfl X1
  refine ⟨t, step t ?_, b1⟩
  have e9 : T.heap.size = base + Z := by rw [hT]; exact hG.2.1
  rw [e9]
  exact a1
/-- System.arraycopy of ints -/
theorem md_copy (hexec : p.tables.exec = Jvm.exec) (hb : c.code = cc) (hml : c.maxLocals = ls.size) (hW : ∀ w ∈ lw_tbl, goodWord w = true → w.before args s = true) {own : String} (hown : s.vm.findClass own = some m.cls) (hK : md_K D cy s) (hG : md_G D cy base Z K N M R J s H locs) {index : Nat} (hok : md_ok [Cond.methodLink own index arraycopyName, Cond.native arraycopyName, Cond.static arraycopyName, Cond.initialized "java/lang/System"])
    {a b ta tb : Nat} (hza : a < Z) (ha : K a = ta) (hta : ta = 14 ∨ 20 ≤ ta) (hzb : b < Z) (hbk : K b = tb) (htb : tb = 14 ∨ 20 ≤ tb) {na nb : Nat} (hna : N a = na) (hnb : N b = nb) {sp dp n : Int32} (h1 : ¬ sp < 0) (h2 : ¬ dp < 0) (h3 : ¬ n < 0) (h4 : sp.toNatClampNeg + n.toNatClampNeg ≤ nb) (h5 : dp.toNatClampNeg + n.toNatClampNeg ≤ na) {sp' dp' n' : Nat} (e1 : sp.toNatClampNeg = sp') (e2 : dp.toNatClampNeg = dp') (e3 : n.toNatClampNeg = n')
    (hframes : 1 ≤ Rm.frames) (hlocals : (rest.map fun v => v.category).sum + (nativeFrameWords "java/lang/System" "arraycopy" 5 + 11) ≤ Rm.locals) (hdg : decode cc pc = .ok (.invokestatic index, 3))
    (kk : ∀ (H1 : Heap) (locs1 : List Loc), md_G D cy base Z K N (ur M a (va_cpy (M b) (M a) sp' dp' n')) R J s H1 locs1 → W p l e Rm s m args below meth c H1 locs1 cells slots Q (F0 m (pc + 3) ls rest)) : W p l e Rm s m args below meth c H locs cells slots Q (F0 m pc ls (.int n :: .int dp :: .ref (base + a) :: .int sp :: .ref (base + b) :: rest)) := by
  subst hna
  subst hnb
  subst e1
  subst e2
  subst e3
  have nn : ∀ z : Int32, ¬ z < 0 → z.toInt = (z.toNatClampNeg : Int) := by
    intro z hz
    have hz0 : (0 : Int) ≤ z.toInt := by
      have := Int32.not_lt.mp hz
      simpa using Int32.le_iff_toInt_le.mp this
    show z.toInt = ((z.toInt.toNat : Nat) : Int)
    omega
  have hbf := hok.bef hW
  intro T hT X
  have hc0 : H[base + b]? = some (arrV (cy 14) (N b) (fun j => .int (M b j))) := (hG.1.arr hzb hbk (by omega)).trans (congrArg some (md_cx htb))
  have hc1 : H[base + a]? = some (arrV (cy 14) (N a) (fun j => .int (M a j))) := (hG.1.arr hza ha (by omega)).trans (congrArg some (md_cx hta))
  obtain ⟨-, k0, hk0, cm0, hkk0⟩ := md_isI hK (N b) (fun j => .int (M b j))
  obtain ⟨-, k1, hk1, cm1, hkk1⟩ := md_isI hK (N a) (fun j => .int (M a j))
  obtain ⟨vm', X', step⟩ := X.arraycopy hexec hown (hbf _ List.mem_cons_self) (hbf _ (List.mem_cons_of_mem _ List.mem_cons_self)) (hbf _ (List.mem_cons_of_mem _ (List.mem_cons_of_mem _ List.mem_cons_self))) (hbf _ (List.mem_cons_of_mem _ (List.mem_cons_of_mem _ (List.mem_cons_of_mem _ List.mem_cons_self)))) (src := base + b) (dst := base + a) (cs := arrV (cy 14) (N b) (fun j => .int (M b j))) (cd := arrV (cy 14) (N a) (fun j => .int (M a j))) (srcPos := sp) (destPos := dp) (n := n) (by rw [hT]; exact hc0) (by rw [hT]; exact hc1)
    (fun _ h => by cases h) (fun _ h => by cases h) (fun h => by cases h) (fun h => by cases h) hk0 hk1 hkk0 hkk1 (by simp [refKind]) h1 h2 h3
    (by rw [nn sp h1, nn n h3, arrV_size]; omega)
    (by rw [nn dp h2, nn n h3, arrV_size]; omega)
    (fun vm₁ _ i hi => by
      have e : (arrV (cy 14) (N b) (fun j => .int (M b j))).slots.getD (sp.toNatClampNeg + i) .null = .int (M b (sp.toNatClampNeg + i)) := by
        rw [Array.getD_eq_getD_getElem?, arrV_read _ _ (by omega)]
        rfl
      refine ⟨?_, ?_⟩
      · rw [e]
        rfl
      · rw [e]
        exact trivial)
    (g := F0 m pc ls (.int n :: .int dp :: .ref (base + a) :: .int sp :: .ref (base + b) :: rest)) rfl (by rw [hml]) (rest := rest) rfl (by rw [hb]; exact hdg) hframes (by show 2 * 0 + _ + _ ≤ _; omega)
  have e1 : copied (arrV (cy 14) (N b) (fun j => .int (M b j))) (arrV (cy 14) (N a) (fun j => .int (M a j))) sp dp n = arrV (cy 14) (N a) (fun j => .int (va_cpy (M b) (M a) sp.toNatClampNeg dp.toNatClampNeg n.toNatClampNeg j)) := va_copied (fun z => .int z) (cy 14) (cy 14) (M b) (M a) h4
  rw [e1] at X' step
  have hl : base + a < H.size := (Array.getElem?_eq_some_iff.mp hc1).1
  generalize hnew : arrV (cy 14) (N a) (fun j => .int (va_cpy (M b) (M a) sp.toNatClampNeg dp.toNatClampNeg n.toNatClampNeg j)) = new at X' step
  have hheap : ((T.setVm vm').setCell (base + a) new).heap = H.setIfInBounds (base + a) new := by rw [← hT]; rfl
  have oq : ∀ q : Nat, q ≠ base + a → (H.setIfInBounds (base + a) new)[q]? = H[q]? := fun q hq => by simp [Array.getElem?_setIfInBounds, Ne.symm hq]
  have hP1 : md_P D cy base Z K N (ur M a (va_cpy (M b) (M a) sp.toNatClampNeg dp.toNatClampNeg n.toNatClampNeg)) R J (H.setIfInBounds (base + a) new) := by
    refine hG.1.set a oq (fun b hb => ur_ne hb) (fun _ _ => rfl) (fun _ _ => rfl) ?_
    unfold md_at
    rw [if_neg (by omega), ha, ur_at, md_cx hta, hnew]
    simp [Array.getElem?_setIfInBounds, hl]
  obtain ⟨t, a1, b1⟩ := kk _ _ ⟨hP1, by simp; exact hG.2.1, by simp; exact hG.2.2.1, fun q g1 g2 => by
      rw [oq q (fun e => g2 (by rw [e]; exact Nat.le_add_right _ _))]
      exact hG.2.2.2.1 q g1 g2, fun q hq => by
      rcases List.mem_append.mp hq with h | h
      · exact hG.2.2.2.2 q h
      · obtain ⟨z, -, hz⟩ := List.mem_map.mp h
        rw [← hz]
        exact Nat.le_add_right _ _⟩ _ hheap X'
  exact ⟨t, step t a1, b1⟩
end MDN
