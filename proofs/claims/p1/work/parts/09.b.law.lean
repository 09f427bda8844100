/-! THE CLAIM OUT OF ONE WALK OF THE LAW'S BODY. Your part is whole_start (and what it stands on); all else here is the same for every law, but numbers. -/
def R_law : String := "VoicesLostLaw"
def lw_P (b : Addr) (xs : List Int32) (args : Array Value) (s : State) : Prop := args = #[.ref b] ∧ s.IntsAt b xs ∧ xs.length ≤ 6 ∧ (Jvm.Cond.and given_1 narrow_1).before args s = true
def lw_Q (_ : Array Value) (s : State) (o : Outcome) (t : State) : Prop := o = .returned (some (.int 1)) ∧ Framed s o t [] 600000 7302250
def lw_Z (below : List Frame) (a : Array Value) (s : State) : State → Prop := fun t => ∃ o, t.status = .running ∧ Ended t below o ∧ lw_Q a s o t
/-- the law's own end, with 1 on the stack, nothing written that was there before, its room as the claim has it -/
theorem lw_ret {p : Program} {l : Launch} {e : Env} {s : State} {m : MethodId} {below : List Frame} {meth : Method} {c : Code} {b : Nat} (hx : p.tables.exec = Jvm.exec) (hb : c.code = code) (hr : meth.sig.returnType = ret) (hlocks : meth.locks = false) {pc : Nat} {H : Heap} {ls : Array Slot} (hdg : decode code pc = .ok (.ireturn, 1)) : W p l e room_1 s m #[Value.ref b] below meth c H [] 600000 7302250 (lw_Z below #[Value.ref b] s) (F0 m pc ls [.int 1]) := by
  intro T hT X
  obtain ⟨fs, hret, hrun, hended, hW, hframe⟩ := X.leave (v := some (.int 1)) (hlocks := hlocks) (fun h => by rw [hr] at h; cases h)
  have hmeth' : T.vm.method? m = some meth := X.method'
  refine ⟨T.setFrames fs, ?_, .returned (some (.int 1)), hrun, hended, rfl, ⟨_, rfl⟩, hW, hframe⟩
  jvm_step X.here [X.here.top, hx, hb, hdg, hmeth', hr, ret, narrow_b1]
  (try refine ⟨rfl, ?_⟩); (try refine ⟨rfl, ?_⟩)
  first | (intro acts; rw [hret _ acts rfl rfl rfl]) | rw [hret _ _ rfl rfl rfl]
  exact Steps.refl _
/-- what holds at the law's entry: the machine, the code, the tables' words (any of lw_tbl by 'hts w (by decide +kernel)'), the script of L ints xs at the cell b, what the Statement gives of the start (any of its parts by flat_of_before) -/
def lw_At (p : Program) (s : State) (m : MethodId) (meth : Method) (c : Code) (b L : Nat) (xs : Nat → Int32) : Prop :=
  p.tables.exec = Jvm.exec ∧ c.code = code ∧ meth.sig.returnType = ret ∧ c.maxLocals = 4 ∧ s.vm.findClass R_law = some m.cls ∧ (∀ w ∈ lw_tbl, w.before #[Value.ref b] s = true) ∧ va_X b L xs s s.heap ∧ b < s.heap.size ∧ meth.locks = false ∧ (Jvm.Cond.and given_1 narrow_1).before #[Value.ref b] s = true
def RX : Nat → Nat → Option Nat := (u2 (u2 (u2 (u2 (u2 (u2 (u2 (u2 (u2 (u2 (u2 (u2 (u2 (u2 (u2 (u2 (u2 (u2 (u2 (u2 (u2 (u2 (u2 (u2 (u2 (u2 (u2 (u2 (u2 (u2 (u2 (u2 (u2 (u2 (u2 (u2 (u2 (u2 (u2 (u2 (u2 (u2 (u2 (u2 (u2 (u2 (u2 (u2 (u2 (u2 (u2 (u2 (u2 (u2 (u2 (u2 (u2 (u2 (u2 (u2 (u2 (u2 (u2 (u2 (u2 (u2 (u2 (u2 (u2 (u2 (u2 (u2 (u2 (u2 (u2 (u2 (u2 (u2 (u2 (u2 (u2 (u2 (u2 (u2 (u2 (u2 (u2 (u2 (u2 (u2 (u2 (u2 (u2 (u2 (u2 (u2 (u2 (u2 (u2 (u2 R0 0 0 (some 1)) 0 2 (some 2)) 0 4 (some 3)) 4 9 (some 5)) 4 10 (some 6)) 4 11 (some 7)) 4 12 (some 8)) 4 13 (some 9)) 4 14 (some 10)) 4 15 (some 11)) 13 0 (some 4)) 13 1 (some 12)) 13 4 (some 6)) 13 5 (some 10)) 0 3 (some 4)) 0 5 (some 12)) 0 9 (some 13)) 15 9 (some 16)) 15 10 (some 17)) 15 11 (some 18)) 15 12 (some 19)) 15 13 (some 20)) 15 14 (some 21)) 15 15 (some 22)) 14 5 (some 15)) 0 7 (some 14)) 23 5 (some 24)) 0 8 (some 23)) 25 2 (some 26)) 25 3 (some 27)) 25 4 (some 28)) 25 0 (some 4)) 25 1 (some 13)) 0 10 (some 25)) 29 2 (some 30)) 29 3 (some 35)) 29 4 (some 36)) 29 5 (some 37)) 29 6 (some 38)) 29 7 (some 39)) 29 8 (some 40)) 29 9 (some 41)) 29 0 (some 4)) 29 1 (some 13)) 0 11 (some 29)) 42 2 (some 43)) 42 3 (some 49)) 42 0 (some 4)) 42 1 (some 13)) 0 12 (some 42)) 50 2 (some 51)) 50 3 (some 59)) 50 4 (some 60)) 50 0 (some 4)) 50 1 (some 13)) 0 13 (some 50)) 61 2 (some 62)) 61 3 (some 63)) 61 4 (some 64)) 61 5 (some 65)) 61 6 (some 66)) 61 7 (some 67)) 61 8 (some 68)) 61 0 (some 4)) 61 1 (some 13)) 0 14 (some 61)) 69 0 (some 70)) 69 3 (some 71)) 69 4 (some 72)) 69 5 (some 73)) 69 6 (some 74)) 69 10 (some 75)) 69 11 (some 76)) 69 12 (some 77)) 69 20 (some 78)) 69 22 (some 79)) 69 24 (some 80)) 69 25 (some 81)) 69 26 (some 82)) 69 27 (some 83)) 69 29 (some 84)) 69 33 (some 85)) 69 34 (some 86)) 69 37 (some 87)) 69 38 (some 88)) 69 39 (some 89)) 69 40 (some 90)) 69 41 (some 91)) 69 42 (some 92)) 69 44 (some 93)) 69 45 (some 94)) 69 46 (some 95)) 69 47 (some 96)) 69 48 (some 97)) 69 49 (some 98)) 69 50 (some 99)) 69 51 (some 100)) 69 52 (some 101)) 69 53 (some 102)) 69 54 (some 103))
set_option maxRecDepth 100000 in
theorem RX_fr : ∀ a, 104 ≤ a → ∀ k, RX a k = none := (md_frs (md_frs (md_frs (md_frs (md_frs (md_frs (md_frs (md_frs (md_frs (md_frs (md_frs (md_frs (md_frs (md_frs (md_frs (md_frs (md_frs (md_frs (md_frs (md_frs (md_frs (md_frs (md_frs (md_frs (md_frs (md_frs (md_frs (md_frs (md_frs (md_frs (md_frs (md_frs (md_frs (md_frs (md_frs (md_frs (md_frs (md_frs (md_frs (md_frs (md_frs (md_frs (md_frs (md_frs (md_frs (md_frs (md_frs (md_frs (md_frs (md_frs (md_frs (md_frs (md_frs (md_frs (md_frs (md_frs (md_frs (md_frs (md_frs (md_frs (md_frs (md_frs (md_frs (md_frs (md_frs (md_frs (md_frs (md_frs (md_frs (md_frs (md_frs (md_frs (md_frs (md_frs (md_frs (md_frs (md_frs (md_frs (md_frs (md_frs (md_frs (md_frs (md_frs (md_frs (md_frs (md_frs (md_frs (md_frs (md_frs (md_frs (md_frs (md_frs (md_frs (md_frs (md_frs (md_frs (md_frs (md_frs (md_frs (md_frs (fun _ _ _ => rfl) (by decide)) (by decide)) (by decide)) (by decide)) (by decide)) (by decide)) (by decide)) (by decide)) (by decide)) (by decide)) (by decide)) (by decide)) (by decide)) (by decide)) (by decide)) (by decide)) (by decide)) (by decide)) (by decide)) (by decide)) (by decide)) (by decide)) (by decide)) (by decide)) (by decide)) (by decide)) (by decide)) (by decide)) (by decide)) (by decide)) (by decide)) (by decide)) (by decide)) (by decide)) (by decide)) (by decide)) (by decide)) (by decide)) (by decide)) (by decide)) (by decide)) (by decide)) (by decide)) (by decide)) (by decide)) (by decide)) (by decide)) (by decide)) (by decide)) (by decide)) (by decide)) (by decide)) (by decide)) (by decide)) (by decide)) (by decide)) (by decide)) (by decide)) (by decide)) (by decide)) (by decide)) (by decide)) (by decide)) (by decide)) (by decide)) (by decide)) (by decide)) (by decide)) (by decide)) (by decide)) (by decide)) (by decide)) (by decide)) (by decide)) (by decide)) (by decide)) (by decide)) (by decide)) (by decide)) (by decide)) (by decide)) (by decide)) (by decide)) (by decide)) (by decide)) (by decide)) (by decide)) (by decide)) (by decide)) (by decide)) (by decide)) (by decide)) (by decide)) (by decide)) (by decide)) (by decide)) (by decide)) (by decide)) (by decide)) (by decide))
theorem md_c2 (v : Int32) : v < 0 ∨ (¬ v < 0 ∧ 2 ≤ v) ∨ v = 0 ∨ v = 1 := by
  by_cases h : v < 0
  · exact Or.inl h
  by_cases h2 : (2 : Int32) ≤ v
  · exact Or.inr (Or.inl ⟨h, h2⟩)
  have a1 : ¬ v.toInt < 0 := fun q => h (Int32.lt_iff_toInt_lt.mpr q)
  have a2 : ¬ 2 ≤ v.toInt := fun q => h2 (Int32.le_iff_toInt_le.mpr q)
  rcases (show v.toInt = 0 ∨ v.toInt = 1 by omega) with q | q
  · exact Or.inr (Or.inr (Or.inl (Int32.toInt_inj.mp q)))
  · exact Or.inr (Or.inr (Or.inr (Int32.toInt_inj.mp q)))
theorem md_c4 (v : Int32) : v < 0 ∨ (¬ v < 0 ∧ ¬ v < 4) ∨ v = 0 ∨ v = 1 ∨ v = 2 ∨ v = 3 := by
  by_cases h : v < 0
  · exact Or.inl h
  by_cases h2 : v < 4
  · have a1 : ¬ v.toInt < 0 := fun q => h (Int32.lt_iff_toInt_lt.mpr q)
    have a2 : v.toInt < 4 := Int32.lt_iff_toInt_lt.mp h2
    rcases (show v.toInt = 0 ∨ v.toInt = 1 ∨ v.toInt = 2 ∨ v.toInt = 3 by omega) with q | q | q | q
    · exact Or.inr (Or.inr (Or.inl (Int32.toInt_inj.mp q)))
    · exact Or.inr (Or.inr (Or.inr (Or.inl (Int32.toInt_inj.mp q))))
    · exact Or.inr (Or.inr (Or.inr (Or.inr (Or.inl (Int32.toInt_inj.mp q)))))
    · exact Or.inr (Or.inr (Or.inr (Or.inr (Or.inr (Int32.toInt_inj.mp q)))))
  · exact Or.inr (Or.inl ⟨h, h2⟩)
theorem md_c12 (v : Int32) : (v.toInt < 0 ∨ 11 < v.toInt) ∨ v = 0 ∨ v = 1 ∨ v = 2 ∨ v = 3 ∨ v = 4 ∨ v = 5 ∨ v = 6 ∨ v = 7 ∨ v = 8 ∨ v = 9 ∨ v = 10 ∨ v = 11 := by
  by_cases h : v.toInt < 0 ∨ 11 < v.toInt
  · exact Or.inl h
  refine Or.inr ?_
  have e : ∀ n : Nat, n < 12 → v.toInt = (n : Int) → v = nI n := fun n hn q => Int32.toInt_inj.mp (q.trans (nI_toInt (by omega)).symm)
  rcases (show v.toInt = 0 ∨ v.toInt = 1 ∨ v.toInt = 2 ∨ v.toInt = 3 ∨ v.toInt = 4 ∨ v.toInt = 5 ∨ v.toInt = 6 ∨ v.toInt = 7 ∨ v.toInt = 8 ∨ v.toInt = 9 ∨ v.toInt = 10 ∨ v.toInt = 11 by omega) with q | q | q | q | q | q | q | q | q | q | q | q
  · exact Or.inl (Int32.toInt_inj.mp q)
  · exact Or.inr (Or.inl (Int32.toInt_inj.mp q))
  · exact Or.inr (Or.inr (Or.inl (Int32.toInt_inj.mp q)))
  · exact Or.inr (Or.inr (Or.inr (Or.inl (Int32.toInt_inj.mp q))))
  · exact Or.inr (Or.inr (Or.inr (Or.inr (Or.inl (Int32.toInt_inj.mp q)))))
  · exact Or.inr (Or.inr (Or.inr (Or.inr (Or.inr (Or.inl (Int32.toInt_inj.mp q))))))
  · exact Or.inr (Or.inr (Or.inr (Or.inr (Or.inr (Or.inr (Or.inl (Int32.toInt_inj.mp q)))))))
  · exact Or.inr (Or.inr (Or.inr (Or.inr (Or.inr (Or.inr (Or.inr (Or.inl (Int32.toInt_inj.mp q))))))))
  · exact Or.inr (Or.inr (Or.inr (Or.inr (Or.inr (Or.inr (Or.inr (Or.inr (Or.inl (Int32.toInt_inj.mp q)))))))))
  · exact Or.inr (Or.inr (Or.inr (Or.inr (Or.inr (Or.inr (Or.inr (Or.inr (Or.inr (Or.inl (Int32.toInt_inj.mp q))))))))))
  · exact Or.inr (Or.inr (Or.inr (Or.inr (Or.inr (Or.inr (Or.inr (Or.inr (Or.inr (Or.inr (Or.inl (Int32.toInt_inj.mp q)))))))))))
  · exact Or.inr (Or.inr (Or.inr (Or.inr (Or.inr (Or.inr (Or.inr (Or.inr (Or.inr (Or.inr (Or.inr (Int32.toInt_inj.mp q)))))))))))
section LAW
variable {p : Program} {l : Launch} {e : Env} {s : State} {m : MethodId} {below : List Frame} {meth : Method} {c : Code} {b : Nat} {xs : Nat → Int32} {D : va_G} {cy : Nat → ClassId} {tx : (Nat → Nat) × (Nat → Nat)}
/-- all that stays the same along the law -/
def lw_F (p : Program) (s : State) (m : MethodId) (meth : Method) (c : Code) (b : Nat) (xs : Nat → Int32) (D : va_G) (cy : Nat → ClassId) (tx : (Nat → Nat) × (Nat → Nat)) : Prop :=
  p.tables.exec = Jvm.exec ∧ c.code = cL_law ∧ meth.sig.returnType = ret ∧ c.maxLocals = 4 ∧ s.vm.findClass RL = some m.cls ∧ (∀ w ∈ lw_tbl, goodWord w = true → w.before #[Value.ref b] s = true) ∧ va_X b 6 xs s s.heap ∧ b < s.heap.size ∧ meth.locks = false ∧ md_K D cy s ∧ md_T tx s.heap.size s
set_option maxRecDepth 100000 in
set_option maxHeartbeats 4000000 in
theorem law_tail (C0 : lw_F p s m meth c b xs D cy tx) {cells slots : Nat} (h1 : cells ≤ 600000) (h2 : slots ≤ 7302250) {Z : Nat} {K N : Nat → Nat} {M : Nat → Nat → Int32} {R : Nat → Nat → Option Nat} {J : Nat → Nat → Int64} {H : Heap} {locs : List Loc} (hG : md_G D cy s.heap.size Z K N M R J s H locs) {ls : Array Slot} (hl : lv_has ls 4 [(3, .int 0), (0, .ref b)]) : W p l e room_1 s m #[Value.ref b] below meth c H locs cells slots (lw_Z below #[Value.ref b] s) (F0 m 1157 ls []) := by
  obtain ⟨hx, hb, hr, hml, hown, hW, hX, hbl, hlocks, hK, hT⟩ := C0
  have hbA : ¬ (fun q : Nat => s.heap.size ≤ q) b := Nat.not_le.mpr hbl
  refine lv_iinc (v := 6) (lv' := [(3, .int 6), (0, .ref b)]) hx hb dL_law_1157 hl (k := 0) rfl (by decide) (by decide) rfl (fun ls hl => ?_)
  refine lv_goto (tgt := 18) hx hb dL_law_1160 (by decide) ?_
  refine lv_iload_n hx hb dL_law_18 rfl (lv_at hl 0 rfl) ?_
  refine lv_aload_n hx hb dL_law_19 rfl (lv_at hl 1 rfl) ?_
  refine va_slen hx hb hX hbl hbA hG.2.2 dL_law_20 ?_
  refine lv_bipush (v := 6) hx hb dL_law_21 (by decide) ?_
  refine lv_isub hx hb dL_law_23 ?_
  refine md_top (y := 0) (by decide) ?_
  refine lv_icmp_gt (tgt := 1163) hx hb dL_law_24 (by decide) (fun _ => ?_) (fun h => absurd h (by decide))
  refine lv_iconst (v := 1) hx hb dL_law_1163 (by decide) ?_
  refine va_forget (fun q hq => hG.2.2.2.2 q hq) ?_
  refine W.widen (k := 600000) (n := 7302250) h1 h2 ?_
  exact lw_ret hx hb hr hlocks dL_law_1164
end LAW
