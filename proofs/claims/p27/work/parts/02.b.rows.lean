/-- a field by its link in a class's pool: object's class c, slot k -/
def md_F (own : String) (index c k : Nat) (ty : FieldType) (r fin : Bool) : Prop :=
  ∃ (C ref : String) (T : u_T) (n : Nat) (ty0 : Nat → FieldType), vwCl[c]? = some (C, T, n) ∧ (c < 12 ∧ md_nf c = n ∧ k < n ∧ md_ref c k = r) ∧ (∀ w ∈ u_ws C T n, w ∈ lw_tbl) ∧ (∀ k, k < n → parseFieldDescriptor (T k).2.2.1 = some (ty0 k)) ∧ (∀ a, a < n → ∀ b, b < n → a ≠ b → (T a).2.1 ≠ (T b).2.1) ∧
  Cond.fieldLink own index ref (T k).2.1 (T k).2.2.1 ∈ lw_tbl ∧ (ref = (T k).1 ∨ Cond.sameField ref (T k).1 (T k).2.1 (T k).2.2.1 ∈ lw_tbl) ∧ (T k).2.2.2 = fin ∧ parseFieldDescriptor (T k).2.2.1 = some ty
section MDR
variable {p : Program} {l : Launch} {e : Env} {Rm : Room} {s : State} {m : MethodId} {args : Array Value} {below : List Frame} {meth : Method} {c : Code} {H : Heap} {locs : List Loc} {cells slots : Nat} {Q : State → Prop}
variable {cc : ByteArray} {pc : Nat} {ls : Array Slot} {rest : List Value} {D : va_G} {cy : Nat → ClassId} {tx : (Nat → Nat) × (Nat → Nat)} {base Z : Nat} {K N : Nat → Nat} {M : Nat → Nat → Int32} {R : Nat → Nat → Option Nat} {J : Nat → Nat → Int64}
theorem md_same {ref o n d : String} (hW : ∀ w ∈ lw_tbl, goodWord w = true → w.before args s = true) (h : ref = o ∨ Cond.sameField ref o n d ∈ lw_tbl) : ∀ x, s.fieldFound? o n d = some x → s.fieldFound? ref n d = some x := by
  rcases h with rfl | h
  · exact fun _ h => h
  · exact fun x hx => u_same (args := args) (hW _ h rfl) x hx
theorem md_get (hexec : p.tables.exec = Jvm.exec) (hb : c.code = cc) (hW : ∀ w ∈ lw_tbl, goodWord w = true → w.before args s = true) {own : String} (hown : s.vm.findClass own = some m.cls) (hK : md_K D cy s) (hG : md_G D cy base Z K N M R J s H locs) {index cx k : Nat} {ty : FieldType} {r fin : Bool} (hF : md_F own index cx k ty r fin) {a : Nat} (hz : a < Z) (ha : K a = cx + 1) (hdg : decode cc pc = .ok (.getfield index, 3))
    (kk : W p l e Rm s m args below meth c H locs cells slots Q (F0 m (pc + 3) ls (md_v base (M a) (R a) cx k :: rest))) : W p l e Rm s m args below meth c H locs cells slots Q (F0 m pc ls (.ref (base + a) :: rest)) := by
  obtain ⟨C, ref, T, n, ty0, hc, ⟨h12, hnf, hk, hr⟩, hin, hty, hnm, hlink, hsame, hfin, hd⟩ := hF
  obtain ⟨cell, q1, q2, q3, q4⟩ := hG.1.obj hz ha h12
  rw [hnf] at q4
  obtain ⟨hS, hfc, kC, hkC, hkind⟩ := hK.1.1 cx _ hc
  obtain ⟨cf, kf, fi, f, hi, hsl⟩ := hS k hk
  refine W.getf hexec hb hown (hW _ hlink rfl) (md_same hW hsame _ hi) (u_facts hfc hkC (u_lays ((md_okl hin).bef hW) (fun w h => h) hk) hi).1 q1 (by rw [q3]; exact fun h => by cases h) (v := md_v base (M a) (R a) cx k) ?_ rfl rfl hdg kk
  rw [hsl, q4 k hk]
theorem md_geti (hexec : p.tables.exec = Jvm.exec) (hb : c.code = cc) (hW : ∀ w ∈ lw_tbl, goodWord w = true → w.before args s = true) {own : String} (hown : s.vm.findClass own = some m.cls) (hK : md_K D cy s) (hG : md_G D cy base Z K N M R J s H locs) {index cx k : Nat} {ty : FieldType} {fin : Bool} (hF : md_F own index cx k ty false fin) {a : Nat} (hz : a < Z) (ha : K a = cx + 1) {v : Int32} (hv : M a k = v) (hdg : decode cc pc = .ok (.getfield index, 3))
    (kk : W p l e Rm s m args below meth c H locs cells slots Q (F0 m (pc + 3) ls (.int v :: rest))) : W p l e Rm s m args below meth c H locs cells slots Q (F0 m pc ls (.ref (base + a) :: rest)) := by
  have hr : md_ref cx k = false := by
    obtain ⟨C, ref, T, n, ty0, hc, ⟨h12, hnf, hk, hr⟩, -⟩ := hF
    exact hr
  refine md_get hexec hb hW hown hK hG hF hz ha hdg ?_
  have e : md_v base (M a) (R a) cx k = .int v := by simp [md_v, hr, hv]
  rw [e]
  exact kk
theorem md_getr (hexec : p.tables.exec = Jvm.exec) (hb : c.code = cc) (hW : ∀ w ∈ lw_tbl, goodWord w = true → w.before args s = true) {own : String} (hown : s.vm.findClass own = some m.cls) (hK : md_K D cy s) (hG : md_G D cy base Z K N M R J s H locs) {index cx k : Nat} {ty : FieldType} {fin : Bool} (hF : md_F own index cx k ty true fin) {a : Nat} (hz : a < Z) (ha : K a = cx + 1) {b : Nat} (hv : R a k = some b) (hdg : decode cc pc = .ok (.getfield index, 3))
    (kk : W p l e Rm s m args below meth c H locs cells slots Q (F0 m (pc + 3) ls (.ref (base + b) :: rest))) : W p l e Rm s m args below meth c H locs cells slots Q (F0 m pc ls (.ref (base + a) :: rest)) := by
  have hr : md_ref cx k = true := by
    obtain ⟨C, ref, T, n, ty0, hc, ⟨h12, hnf, hk, hr⟩, -⟩ := hF
    exact hr
  refine md_get hexec hb hW hown hK hG hF hz ha hdg ?_
  have e : md_v base (M a) (R a) cx k = .ref (base + b) := by simp [md_v, hr, hv, va_rf]
  rw [e]
  exact kk
theorem md_puti (hexec : p.tables.exec = Jvm.exec) (hb : c.code = cc) (hW : ∀ w ∈ lw_tbl, goodWord w = true → w.before args s = true) {own : String} (hown : s.vm.findClass own = some m.cls) (hK : md_K D cy s) (hG : md_G D cy base Z K N M R J s H locs) {index cx k : Nat} {ty : FieldType} (hF : md_F own index cx k ty false false) {a : Nat} (hz : a < Z) (ha : K a = cx + 1) {x : Int32} (hn : narrow ty (.int x) = .int x) (hfit : fits ty (.int x) = true) (hdg : decode cc pc = .ok (.putfield index, 3))
    (kk : ∀ (H1 : Heap) (locs1 : List Loc), md_G D cy base Z K N (u2 M a k x) R J s H1 locs1 → W p l e Rm s m args below meth c H1 locs1 cells slots Q (F0 m (pc + 3) ls rest)) : W p l e Rm s m args below meth c H locs cells slots Q (F0 m pc ls (.int x :: .ref (base + a) :: rest)) := by
  obtain ⟨C, ref, T, n, ty0, hc, ⟨h12, hnf, hk, hr⟩, hin, hty, hnm, hlink, hsame, hfin, hd⟩ := hF
  have hap := va_apart (own := own) ((md_okl hin).bef hW) (fun w h => h) ty0 hty hnm hK.1 hc
  obtain ⟨cell, q1, q2, q3, q4⟩ := hG.1.obj hz ha h12
  rw [hnf] at q4
  obtain ⟨hS, hfc, kC, hkC, hkind⟩ := hK.1.1 cx _ hc
  obtain ⟨cf, kf, fi, f, hi, hsl⟩ := hS k hk
  have hlay := (md_okl hin).bef hW _ (u_in_lay hk)
  unfold u_lay at hlay
  rw [if_neg (by rw [hfin]; decide)] at hlay
  have hst := (u_facts hfc hkC (u_lays ((md_okl hin).bef hW) (fun w h => h) hk) hi).1
  have h6 := u_store hfc hkC hkind hlay hi hd hn hfit
  refine W.putK hexec hb (f := f) ⟨hown, hW _ hlink rfl, ⟨_, _, _, md_same hW hsame _ hi⟩, hst⟩ (by rw [q2]; exact h6) q1 q3 (by rw [hsl]; exact k2_hasslot (q4 k hk)) rfl rfl hdg fun H' e1 e2 e3 => ?_
  rw [hsl] at e1 ⊢
  refine kk H' _ (hG.put e2 e3 (fun b hb => u2_ne hb) (fun _ _ => rfl) (fun _ _ => rfl) ?_)
  unfold md_at
  have hsz := hG.1.osz hz ha h12 q1
  rw [if_pos (by omega), ha, show cx + 1 - 1 = cx from rfl, hnf]
  exact ⟨t_OB.to (V := updV (md_v base (M a) (R a) cx) k (.int x)) ⟨_, e1, q2, q3, t_set q4 hap hk _⟩ (fun j _ => md_v_puti hr j), _, e1, by rw [← hnf, ← hsz]; simp [Cell.setSlot]⟩
theorem md_putr (hexec : p.tables.exec = Jvm.exec) (hb : c.code = cc) (hW : ∀ w ∈ lw_tbl, goodWord w = true → w.before args s = true) {own : String} (hown : s.vm.findClass own = some m.cls) (hK : md_K D cy s) (hG : md_G D cy base Z K N M R J s H locs) {index cx k : Nat} {ty : FieldType} (hF : md_F own index cx k ty true false) {a : Nat} (hz : a < Z) (ha : K a = cx + 1) {b : Nat} (hn : narrow ty (.ref (base + b)) = .ref (base + b)) (hfit : fits ty (.ref (base + b)) = true) (hdg : decode cc pc = .ok (.putfield index, 3))
    (kk : ∀ (H1 : Heap) (locs1 : List Loc), md_G D cy base Z K N M (u2 R a k (some b)) J s H1 locs1 → W p l e Rm s m args below meth c H1 locs1 cells slots Q (F0 m (pc + 3) ls rest)) : W p l e Rm s m args below meth c H locs cells slots Q (F0 m pc ls (.ref (base + b) :: .ref (base + a) :: rest)) := by
  obtain ⟨C, ref, T, n, ty0, hc, ⟨h12, hnf, hk, hr⟩, hin, hty, hnm, hlink, hsame, hfin, hd⟩ := hF
  have hap := va_apart (own := own) ((md_okl hin).bef hW) (fun w h => h) ty0 hty hnm hK.1 hc
  obtain ⟨cell, q1, q2, q3, q4⟩ := hG.1.obj hz ha h12
  rw [hnf] at q4
  obtain ⟨hS, hfc, kC, hkC, hkind⟩ := hK.1.1 cx _ hc
  obtain ⟨cf, kf, fi, f, hi, hsl⟩ := hS k hk
  have hlay := (md_okl hin).bef hW _ (u_in_lay hk)
  unfold u_lay at hlay
  rw [if_neg (by rw [hfin]; decide)] at hlay
  have hst := (u_facts hfc hkC (u_lays ((md_okl hin).bef hW) (fun w h => h) hk) hi).1
  have h6 := u_store hfc hkC hkind hlay hi hd hn hfit
  refine W.putK hexec hb (f := f) ⟨hown, hW _ hlink rfl, ⟨_, _, _, md_same hW hsame _ hi⟩, hst⟩ (by rw [q2]; exact h6) q1 q3 (by rw [hsl]; exact k2_hasslot (q4 k hk)) rfl rfl hdg fun H' e1 e2 e3 => ?_
  rw [hsl] at e1 ⊢
  refine kk H' _ (hG.put e2 e3 (fun _ _ => rfl) (fun b hb => u2_ne hb) (fun _ _ => rfl) ?_)
  unfold md_at
  have hsz := hG.1.osz hz ha h12 q1
  rw [if_pos (by omega), ha, show cx + 1 - 1 = cx from rfl, hnf]
  exact ⟨t_OB.to (V := updV (md_v base (M a) (R a) cx) k (.ref (base + b))) ⟨_, e1, q2, q3, t_set q4 hap hk _⟩ (fun j _ => md_v_putr (x := some b) hr j), _, e1, by rw [← hnf, ← hsz]; simp [Cell.setSlot]⟩
/-- a final field, in its own constructor -/
theorem md_putF (hexec : p.tables.exec = Jvm.exec) (hb : c.code = cc) (hW : ∀ w ∈ lw_tbl, goodWord w = true → w.before args s = true) {own : String} (hown : s.vm.findClass own = some m.cls) (hK : md_K D cy s) (hG : md_G D cy base Z K N M R J s H locs) {index cx k : Nat} {ty : FieldType} (hF : md_F own index cx k ty true true) (hin2 : meth.name = "<init>") (hdecl : (((vwCl[cx]?).map (fun q => (q.2.1 k).1)) = some own)) {a : Nat} (hz : a < Z) (ha : K a = cx + 1) {b : Nat} (hn : narrow ty (.ref (base + b)) = .ref (base + b)) (hfit : fits ty (.ref (base + b)) = true) (hdg : decode cc pc = .ok (.putfield index, 3))
    (kk : ∀ (H1 : Heap) (locs1 : List Loc), md_G D cy base Z K N M (u2 R a k (some b)) J s H1 locs1 → W p l e Rm s m args below meth c H1 locs1 cells slots Q (F0 m (pc + 3) ls rest)) : W p l e Rm s m args below meth c H locs cells slots Q (F0 m pc ls (.ref (base + b) :: .ref (base + a) :: rest)) := by
  obtain ⟨C, ref, T, n, ty0, hc, ⟨h12, hnf, hk, hr⟩, hin, hty, hnm, hlink, hsame, hfin, hd⟩ := hF
  rw [hc] at hdecl
  have hdecl : (T k).1 = own := Option.some.inj hdecl
  have hap := va_apart (own := own) ((md_okl hin).bef hW) (fun w h => h) ty0 hty hnm hK.1 hc
  obtain ⟨cell, q1, q2, q3, q4⟩ := hG.1.obj hz ha h12
  rw [hnf] at q4
  obtain ⟨hS, hfc, kC, hkC, hkind⟩ := hK.1.1 cx _ hc
  obtain ⟨cf, kf, fi, f, hi, hsl⟩ := hS k hk
  have hlay := (md_okl hin).bef hW _ (u_in_lay hk)
  unfold u_lay at hlay
  rw [if_pos hfin] at hlay
  have hst := (u_facts hfc hkC (u_lays ((md_okl hin).bef hW) (fun w h => h) hk) hi).1
  have hcf : m.cls = cf := by
    obtain ⟨_, _, c', _, _, _, -, -, hf', -, -, -, hown2, -⟩ := Cond.laysFinal_spec hlay
    have e1 : c' = cf := by have := hi.symm.trans hf'; simp at this; exact this.1.symm
    rw [hdecl] at hown2
    rw [← e1]; exact Option.some.inj (hown.symm.trans hown2)
  have h6 := u_fits hfc hkC hkind (Or.inr hlay) hi hd hn hfit
  refine W.putFinK hexec hb hown (hW _ hlink rfl) (md_same hW hsame _ hi) hst hcf hin2 (by rw [q2]; exact h6) q1 q3 (by rw [hsl]; exact k2_hasslot (q4 k hk)) rfl rfl hdg fun H' e1 e2 e3 => ?_
  rw [hsl] at e1 ⊢
  refine kk H' _ (hG.put e2 e3 (fun _ _ => rfl) (fun b hb => u2_ne hb) (fun _ _ => rfl) ?_)
  unfold md_at
  have hsz := hG.1.osz hz ha h12 q1
  rw [if_pos (by omega), ha, show cx + 1 - 1 = cx from rfl, hnf]
  exact ⟨t_OB.to (V := updV (md_v base (M a) (R a) cx) k (.ref (base + b))) ⟨_, e1, q2, q3, t_set q4 hap hk _⟩ (fun j _ => md_v_putr (x := some b) hr j), _, e1, by rw [← hnf, ← hsz]; simp [Cell.setSlot]⟩
end MDR
