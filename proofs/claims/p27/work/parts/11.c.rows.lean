/-! THE CLAIM OUT OF ONE WALK OF THE LAW'S BODY. Your part is whole_start (and what it stands on); all else here is the same for every law, but numbers. -/
def R_law : String := "VoicesLostLaw"
def lw_P (b : Addr) (xs : List Int32) (args : Array Value) (s : State) : Prop := args = #[.ref b] ∧ s.IntsAt b xs ∧ xs.length ≤ 3072 ∧ (Jvm.Cond.and given_1 narrow_1).before args s = true
def lw_Q (_ : Array Value) (s : State) (o : Outcome) (t : State) : Prop := o = .returned (some (.int 1)) ∧ Framed s o t [] 600000 7302250
def lw_Z (below : List Frame) (a : Array Value) (s : State) : State → Prop := fun t => ∃ o, t.status = .running ∧ Ended t below o ∧ lw_Q a s o t
/-- the law's own end, with 1 on the stack, nothing written that was there before, its room as the claim has it -/
theorem lw_ret {p : Program} {l : Launch} {e : Env} {s : State} {m : MethodId} {below : List Frame} {meth : Method} {c : Code} {b : Nat} (hx : p.tables.exec = Jvm.exec) (hb : c.code = code) (hr : meth.sig.returnType = ret) (hlocks : meth.locks = false) {pc : Nat} {H : Heap} {ls : Array Slot} (hdg : decode code pc = .ok (.ireturn, 1)) : W p l e room_1 s m #[Value.ref b] below meth c H [] 600000 7302250 (lw_Z below #[Value.ref b] s) (F0 m pc ls [.int 1]) := by
  intro T hT X
  obtain ⟨fs, hret, hrun, hended, hW, hframe⟩ := X.leave (v := some (.int 1)) (hlocks := hlocks) (fun h => by rw [hr] at h; cases h)
  have hmeth' : T.vm.method? m = some meth := X.method'
  refine ⟨T.setFrames fs, ?_, .returned (some (.int 1)), hrun, hended, rfl, ⟨_, rfl⟩, hW, hframe⟩
  jvm_step X.here [X.here.top, hx, hb, hdg, hmeth', hr, ret, narrow_b1]
  (try refine ⟨rfl, ?_⟩); (try refine ⟨rfl, ?_⟩)
  first | (intro acts; rw [hret _ acts rfl rfl rfl]) | rw [hret _ _ rfl rfl rfl]
  exact Steps.refl _
/-- what holds at the law's entry: the machine, the code, the tables' words (any of lw_tbl by 'hts w (by decide +kernel)'), the script of L ints xs at the cell b, what the Statement gives of the start (any of its parts by flat_of_before) -/
def lw_At (p : Program) (s : State) (m : MethodId) (meth : Method) (c : Code) (b L : Nat) (xs : Nat → Int32) : Prop :=
  p.tables.exec = Jvm.exec ∧ c.code = code ∧ meth.sig.returnType = ret ∧ c.maxLocals = 4 ∧ s.vm.findClass R_law = some m.cls ∧ (∀ w ∈ lw_tbl, w.before #[Value.ref b] s = true) ∧ va_X b L xs s s.heap ∧ b < s.heap.size ∧ meth.locks = false ∧ (Jvm.Cond.and given_1 narrow_1).before #[Value.ref b] s = true
section LAWR
variable {p : Program} {l : Launch} {e : Env} {Rm : Room} {s : State} {m : MethodId} {args : Array Value} {below : List Frame} {meth : Method} {c : Code} {H : Heap} {locs : List Loc} {cells slots : Nat} {Q : State → Prop}
variable {cc : ByteArray} {pc : Nat} {ls : Array Slot} {rest st : List Value} {D : va_G} {cy : Nat → ClassId} {tx : (Nat → Nat) × (Nat → Nat)} {base Z : Nat} {K N : Nat → Nat} {M : MT} {R : RT} {J : JT}
variable {mc ms : Nat} {av : Array Value} {L1 LR1 : WL}
/-- room by what the heap holds -/
theorem lw_tt {g : JFrame} (hG : md_G D cy s.heap.size Z K N M R J s H locs) (hL : LI Z K N M R) (kk : W p l e Rm s m args below meth c H locs 4000 500000 Q g) : W p l e Rm s m args below meth c H locs cells slots Q g := by
  have q := md_sum hG.1 hG.2.1 (Nat.zero_le _) (fun a _ h => hL.1.2 a h)
  obtain ⟨r1, r2⟩ := hL.room
  have e0 : tot K N 0 = 0 := rfl
  rw [Nat.add_zero] at q
  refine W.tight ?_ ?_ kk
  · rw [hG.2.1]
    omega
  · omega
/-- a call that makes nothing: what it has told -/
theorem lw_goe {E : Int32 → mS → Prop} (hG : md_G D cy base Z K N M R J s H locs) (hr : va_Run p l e Rm s m args below meth c H locs cells slots mc ms (F0 m pc ls st) rest (mQi D cy tx base (fun r u => TP Z K N L1 LR1 M R u ∧ E r u) av) (fun q => base ≤ q))
    (kk : ∀ (r : Int32) (H1 : Heap) (locs1 : List Loc) (M1 : MT) (R1 : RT) (J1 : JT), md_G D cy base Z K N M1 R1 J1 s H1 locs1 → Ty Z K N M1 R1 → Fr K L1 M M1 → Fr K LR1 R R1 → E r (Z, K, N, M1, R1, J1) → W p l e Rm s m args below meth c H1 locs1 (cells + mc) (slots + ms) Q (F0 m (pc + 3) ls (.int r :: rest))) : W p l e Rm s m args below meth c H locs cells slots Q (F0 m pc ls st) :=
  md_goi hG hr (fun r u H1 locs1 hp hG1 => by
    obtain ⟨Z1, K1, N1, M1, R1, J1⟩ := u
    obtain ⟨⟨e1, e2, e3, hT, f1, f2⟩, hE⟩ := hp
    cases e1
    cases e2
    cases e3
    exact kk r H1 locs1 M1 R1 J1 hG1 hT f1 f2 hE)
theorem lw_goi {E : Int32 → mS → Prop} (hG : md_G D cy base Z K N M R J s H locs) (hL : LI Z K N M R) (hr : va_Run p l e Rm s m args below meth c H locs cells slots mc ms (F0 m pc ls st) rest (mQi D cy tx base (fun r u => TP Z K N L1 LR1 M R u ∧ E r u) av) (fun q => base ≤ q)) (o : okA L1 LR1 = true)
    (kk : ∀ (r : Int32) (H1 : Heap) (locs1 : List Loc) (M1 : MT) (R1 : RT) (J1 : JT), md_G D cy base Z K N M1 R1 J1 s H1 locs1 → LI Z K N M1 R1 → W p l e Rm s m args below meth c H1 locs1 (cells + mc) (slots + ms) Q (F0 m (pc + 3) ls (.int r :: rest))) : W p l e Rm s m args below meth c H locs cells slots Q (F0 m pc ls st) :=
  lw_goe hG hr (fun r H1 locs1 M1 R1 J1 hG1 hT f1 f2 _ => kk r H1 locs1 M1 R1 J1 hG1 (hL.plain hT f1.B f2.B f1 o))
theorem lw_gom {E : Int32 → mS → Prop} (hG : md_G D cy base Z K N M R J s H locs) (hr : va_Run p l e Rm s m args below meth c H locs cells slots mc ms (F0 m pc ls st) rest (mQi D cy tx base (fun r u => TM Z K N L1 LR1 M R u ∧ E r u) av) (fun q => base ≤ q))
    (kk : ∀ (r : Int32) (H1 : Heap) (locs1 : List Loc) (Z1 : Nat) (K1 N1 : Nat → Nat) (M1 : MT) (R1 : RT) (J1 : JT), md_G D cy base Z1 K1 N1 M1 R1 J1 s H1 locs1 → TM Z K N L1 LR1 M R (Z1, K1, N1, M1, R1, J1) → E r (Z1, K1, N1, M1, R1, J1) → W p l e Rm s m args below meth c H1 locs1 (cells + mc) (slots + ms) Q (F0 m (pc + 3) ls (.int r :: rest))) : W p l e Rm s m args below meth c H locs cells slots Q (F0 m pc ls st) :=
  md_goi hG hr (fun r u H1 locs1 hp hG1 => kk r H1 locs1 u.1 u.2.1 u.2.2.1 u.2.2.2.1 u.2.2.2.2.1 u.2.2.2.2.2 hG1 hp.1 hp.2)
end LAWR
/-- council on the class's side; rule, council on the check's -/
theorem LI.stepX {Z : Nat} {K N : Nat → Nat} {L LR : WL} {M M1 : MT} {R R1 : RT} (h : LI Z K N M R) (hT : Ty Z K N M1 R1) (f : Fr K L M M1) (g : Fr K LR R R1) (hx : XS K M M1) (o : (okJ L LR && (okI2 L && outL L 23 6)) = true) : LI Z K N M1 R1 := by
  rw [Bool.and_eq_true, Bool.and_eq_true] at o
  obtain ⟨o1, o2, o3⟩ := o
  have j := h.lj.step hT f.B g.B o1
  unfold okJ at o1
  rw [Bool.and_eq_true, Bool.and_eq_true] at o1
  have hw := h.2.1
  exact h.step hT f.B g.B o1.1 o1.2.1 o2 hx (f.B.at (show 81 < Z by have := hw.1.1; omega) hw.2.2.2.2.2.2.2.1 o3) j.2.2.1
theorem LI.stepM {Z : Nat} {K N : Nat → Nat} {L LR : WL} {M M1 : MT} {R R1 : RT} (h : LI Z K N M R) (hT : Ty Z K N M1 R1) (f : Fr K L M M1) (g : Fr K LR R R1) (hs : M1 81 6 = M 81 6) (hc : Codes M1 R1 69) (o : (okW LR && (okR2 L LR && (okI2 L && outL L 10 6))) = true) : LI Z K N M1 R1 := by
  rw [Bool.and_eq_true, Bool.and_eq_true, Bool.and_eq_true] at o
  obtain ⟨o1, o2, o3, o4⟩ := o
  exact h.step hT f.B g.B o1 o2 o3 (fun q hq => Fr.kp f hq o4) hs hc
theorem sc_in {i k : Int32} {Ln : Nat} (hL : Ln ≤ 3072) (hi : 0 ≤ i.toInt ∧ i.toInt + 6 ≤ (Ln : Int)) (h0 : 0 ≤ k.toInt ∧ k.toInt ≤ 5) : vp_in (i + k) Ln := by
  have e := ti_add (x := i) (y := k) (by omega) (by omega)
  exact ti_in (by omega) (by omega)
def lw_F (p : Program) (s : State) (m : MethodId) (meth : Method) (c : Code) (b Ln : Nat) (xs : Nat → Int32) (D : va_G) (cy : Nat → ClassId) (tx : (Nat → Nat) × (Nat → Nat)) : Prop :=
  p.tables.exec = Jvm.exec ∧ c.code = cL_law ∧ meth.sig.returnType = ret ∧ c.maxLocals = 4 ∧ s.vm.findClass RL = some m.cls ∧ (∀ w ∈ lw_tbl, goodWord w = true → w.before #[Value.ref b] s = true) ∧ va_X b Ln xs s s.heap ∧ b < s.heap.size ∧ meth.locks = false ∧ md_K D cy s ∧ md_T tx s.heap.size s
/-- the law goes on, from the end of a case -/
def lw_KT (p : Program) (l : Launch) (e : Env) (s : State) (m : MethodId) (below : List Frame) (meth : Method) (c : Code) (b : Nat) (D : va_G) (cy : Nat → ClassId) (i : Int32) : Prop :=
  ∀ (Z : Nat) (K N : Nat → Nat) (M : MT) (R : RT) (J : JT) (H : Heap) (locs : List Loc) (ls : Array Slot), md_G D cy s.heap.size Z K N M R J s H locs → LI Z K N M R → lv_has ls 4 [(3, .int i), (2, .ref (s.heap.size + 69)), (1, .ref (s.heap.size + 0)), (0, .ref b)] → W p l e room_1 s m #[Value.ref b] below meth c H locs 4000 500000 (lw_Z below #[Value.ref b] s) (F0 m 1157 ls [])
