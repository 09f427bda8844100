section MDX
variable {p : Program} {l : Launch} {e : Env} {Rm : Room} {s : State} {m : MethodId} {args : Array Value} {below : List Frame} {meth : Method} {c : Code} {H : Heap} {locs : List Loc} {cells slots : Nat} {Q : State → Prop}
variable {cc : ByteArray} {pc : Nat} {ls : Array Slot} {rest st : List Value} {D : va_G} {cy : Nat → ClassId} {tx : (Nat → Nat) × (Nat → Nat)} {base Z : Nat} {K N : Nat → Nat} {M : Nat → Nat → Int32} {R : Nat → Nat → Option Nat} {J : Nat → Nat → Int64}
theorem md_top {x y : Int32} (h : x = y) (k : W p l e Rm s m args below meth c H locs cells slots Q (F0 m pc ls (.int y :: rest))) : W p l e Rm s m args below meth c H locs cells slots Q (F0 m pc ls (.int x :: rest)) := by
  subst h
  exact k
theorem md_topl {x y : Int64} (h : x = y) (k : W p l e Rm s m args below meth c H locs cells slots Q (F0 m pc ls (.long y :: rest))) : W p l e Rm s m args below meth c H locs cells slots Q (F0 m pc ls (.long x :: rest)) := by
  subst h
  exact k
theorem md_inD {i : Int32} {n : Nat} (h : (decide (i < 0) || decide (n ≤ i.toNatClampNeg)) = false) : vp_in i n := by
  intro q
  rcases q with q | q <;> simp [q] at h
theorem md_endz {post : Int32 → mS → Prop} {ty : FieldType} (hexec : p.tables.exec = Jvm.exec) (hb : c.code = cc) (hr : meth.sig.returnType = some ty) (hlocks : meth.locks = false) (hK : md_K D cy s) (hT : md_T tx base s) (hG : md_G D cy base Z K N M R J s H locs) {v : Int32} (hn : narrow ty (.int v) = .int v) (hp : post v (Z, K, N, M, R, J)) (hdg : decode cc pc = .ok (.ireturn, 1)) :
    W p l e Rm s m args below meth c H locs cells slots (MQ below (mQi D cy tx base post) args s cells slots (fun q => base ≤ q)) (F0 m pc ls [.int v]) :=
  W.zret (v := v) hexec hb hr hn (fun t ht hWm => ⟨⟨v, (Z, K, N, M, R, J), rfl, hp, md_U.of hK hT hG ht hWm⟩, hG.2.2.F ht⟩) hG.2.2.2.2 hdg
theorem md_endl {post : Int64 → mS → Prop} (hexec : p.tables.exec = Jvm.exec) (hb : c.code = cc) (hr : meth.sig.returnType = some .long) (hlocks : meth.locks = false) (hK : md_K D cy s) (hT : md_T tx base s) (hG : md_G D cy base Z K N M R J s H locs) {v : Int64} (hp : post v (Z, K, N, M, R, J)) (hdg : decode cc pc = .ok (.lreturn, 1)) :
    W p l e Rm s m args below meth c H locs cells slots (MQ below (mQl D cy tx base post) args s cells slots (fun q => base ≤ q)) (F0 m pc ls [.long v]) :=
  W.lret (v := v) hexec hb hr (fun t ht hWm => ⟨⟨v, (Z, K, N, M, R, J), rfl, hp, md_U.of hK hT hG ht hWm⟩, hG.2.2.F ht⟩) hG.2.2.2.2 hdg
variable {own : String} {index n nL maxL mc ms : Nat} {y : MethodName} {bytes : ByteArray} {ret : Option FieldType} {rm : Room} {As : List Value} {Qc : Array Value → State → Outcome → State → Prop} {i : Nat}
/-- a call on one of the texts -/
theorem md_runT (hexec : p.tables.exec = Jvm.exec) (hb : c.code = cc) (hml : c.maxLocals = nL) (hown : s.vm.findClass own = some m.cls) (hW : ∀ w ∈ lw_tbl, goodWord w = true → w.before args s = true) (hK : md_K D cy s) (hT : md_T tx base s) (hG : md_G D cy base Z K N M R J s H locs)
    (hM : Met l y [Cond.code y bytes maxL ret] rm (va_Pc (.ref (tx.1 i) :: As) (md_U D cy tx base Z K N M R J)) Qc mc ms (fun q => base ≤ q)) (hS : md_SV own index "java/lang/String" y bytes maxL ret n) (hfit : md_fit rm Rm maxL mc ms cells slots) (hi : i < 6)
    (hn : As.length = n) (hls : ls.size = nL) (hst : st = As.reverse ++ .ref (tx.1 i) :: rest) (hrm : (rest.map fun v => v.category).sum ≤ 8) (hdg : decode cc pc = .ok (.invokevirtual index, 3)) :
    va_Run p l e Rm s m args below meth c H locs cells slots mc ms (F0 m pc ls st) rest (Qc (Value.ref (tx.1 i) :: As).toArray) (fun q => base ≤ q) :=
  va_runV (Ts := []) ⟨hexec, hb, hml, hown, fun _ h => absurd h List.not_mem_nil⟩ hM (cwV n (hS.1.bef hW) hS.1.good rfl hfit.1 hfit.2.1 hS.2 hfit.2.2.1) ⟨md_blind, vk_recv hT.1 hi hG.2.2, fun U hU hWm => ⟨rfl, md_U.of hK hT hG hU hWm⟩⟩ rfl hn hls hst (lv_room hrm) hdg hfit.2.2.2
end MDX
def md_by (i j : Nat) : Int32 := (md_sb.getD i []).getD j 0

theorem s_J0_1059 : md_SS RJ0 1059 yJ3_checkIndex_8e157 cJ3_checkIndex_8e157 3 ((some .int)) 3 := ⟨md_okc w_3_141 rfl (md_okc w_3_142 rfl (md_okc w_1_16 rfl (md_okc w_3_143 rfl (md_ok0)))), by decide +kernel, by decide +kernel, by decide +kernel⟩
theorem s_J1_9 : md_SS RJ1 9 yJ0_checkIndex_df160 cJ0_checkIndex_df160 2 (none) 2 := ⟨md_okc w_3_136 rfl (md_okc w_3_137 rfl (md_okc w_1_14 rfl (md_okc w_3_138 rfl (md_ok0)))), by decide +kernel, by decide +kernel, by decide +kernel⟩
theorem s_J0_495 : md_SS RJ0 495 yJ1_charAt_3b067 cJ1_charAt_3b067 2 ((some .char)) 2 := ⟨md_okc w_3_133 rfl (md_okc w_3_134 rfl (md_okc w_1_15 rfl (md_okc w_3_135 rfl (md_ok0)))), by decide +kernel, by decide +kernel, by decide +kernel⟩
theorem s_J0_492 : md_SV RJ0 492 RJ0 yJ0_isLatin1_aae02 cJ0_isLatin1_aae02 1 ((some .boolean)) 0 := ⟨md_okc w_3_129 rfl (md_okc w_3_130 rfl (md_okc w_3_131 rfl (md_okc w_1_14 rfl (md_okc w_3_132 rfl (md_ok0))))), rfl, by decide +kernel, by decide +kernel, by decide +kernel⟩
theorem s_J0_335 : md_SV RJ0 335 RJ0 yJ0_coder_7d493 cJ0_coder_7d493 1 ((some .byte)) 0 := ⟨md_okc w_3_119 rfl (md_okc w_3_120 rfl (md_okc w_3_121 rfl (md_okc w_1_14 rfl (md_okc w_3_122 rfl (md_ok0))))), rfl, by decide +kernel, by decide +kernel, by decide +kernel⟩
theorem s_X10_38 : md_SV RX10 38 RJ0 yJ0_length_8abf5 cJ0_length_8abf5 1 ((some .int)) 0 := ⟨md_okc w_3_115 rfl (md_okc w_3_116 rfl (md_okc w_3_117 rfl (md_okc w_1_14 rfl (md_okc w_3_118 rfl (md_ok0))))), rfl, by decide +kernel, by decide +kernel, by decide +kernel⟩
theorem s_X10_42 : md_SV RX10 42 RJ0 yJ0_charAt_5068e cJ0_charAt_5068e 2 ((some .char)) 1 := ⟨md_okc w_3_125 rfl (md_okc w_3_126 rfl (md_okc w_3_127 rfl (md_okc w_1_14 rfl (md_okc w_3_128 rfl (md_ok0))))), rfl, by decide +kernel, by decide +kernel, by decide +kernel⟩
theorem dJ1_charAt_3b067_0 : decode cJ1_charAt_3b067 0 = .ok (.iload_n 1, 1) := by decide +kernel
theorem dJ1_charAt_3b067_1 : decode cJ1_charAt_3b067 1 = .ok (.aload_n 0, 1) := by decide +kernel
theorem dJ1_charAt_3b067_2 : decode cJ1_charAt_3b067 2 = .ok (.arraylength, 1) := by decide +kernel
theorem dJ1_charAt_3b067_3 : decode cJ1_charAt_3b067 3 = .ok (.invokestatic 9, 3) := by decide +kernel
theorem dJ1_charAt_3b067_6 : decode cJ1_charAt_3b067 6 = .ok (.aload_n 0, 1) := by decide +kernel
theorem dJ1_charAt_3b067_7 : decode cJ1_charAt_3b067 7 = .ok (.iload_n 1, 1) := by decide +kernel
theorem dJ1_charAt_3b067_8 : decode cJ1_charAt_3b067 8 = .ok (.baload, 1) := by decide +kernel
theorem dJ1_charAt_3b067_9 : decode cJ1_charAt_3b067 9 = .ok (.sipush 255, 3) := by decide +kernel
theorem dJ1_charAt_3b067_12 : decode cJ1_charAt_3b067 12 = .ok (.iand, 1) := by decide +kernel
theorem dJ1_charAt_3b067_13 : decode cJ1_charAt_3b067 13 = .ok (.i2c, 1) := by decide +kernel
theorem dJ1_charAt_3b067_14 : decode cJ1_charAt_3b067 14 = .ok (.ireturn, 1) := by decide +kernel
theorem dJ0_charAt_5068e_0 : decode cJ0_charAt_5068e 0 = .ok (.aload_n 0, 1) := by decide +kernel
theorem dJ0_charAt_5068e_1 : decode cJ0_charAt_5068e 1 = .ok (.invokevirtual 492, 3) := by decide +kernel
theorem dJ0_charAt_5068e_4 : decode cJ0_charAt_5068e 4 = .ok (.ifCond .eq 12, 3) := by decide +kernel
theorem dJ0_charAt_5068e_7 : decode cJ0_charAt_5068e 7 = .ok (.aload_n 0, 1) := by decide +kernel
theorem dJ0_charAt_5068e_8 : decode cJ0_charAt_5068e 8 = .ok (.getfield 9, 3) := by decide +kernel
theorem dJ0_charAt_5068e_11 : decode cJ0_charAt_5068e 11 = .ok (.iload_n 1, 1) := by decide +kernel
theorem dJ0_charAt_5068e_12 : decode cJ0_charAt_5068e 12 = .ok (.invokestatic 495, 3) := by decide +kernel
theorem dJ0_charAt_5068e_15 : decode cJ0_charAt_5068e 15 = .ok (.ireturn, 1) := by decide +kernel
theorem dJ0_charAt_5068e_16 : decode cJ0_charAt_5068e 16 = .ok (.aload_n 0, 1) := by decide +kernel
theorem dJ0_charAt_5068e_17 : decode cJ0_charAt_5068e 17 = .ok (.getfield 9, 3) := by decide +kernel
theorem dJ0_charAt_5068e_20 : decode cJ0_charAt_5068e 20 = .ok (.iload_n 1, 1) := by decide +kernel
theorem dJ0_charAt_5068e_21 : decode cJ0_charAt_5068e 21 = .ok (.invokestatic 498, 3) := by decide +kernel
theorem dJ0_charAt_5068e_24 : decode cJ0_charAt_5068e 24 = .ok (.ireturn, 1) := by decide +kernel
theorem dJ0_length_8abf5_0 : decode cJ0_length_8abf5 0 = .ok (.aload_n 0, 1) := by decide +kernel
theorem dJ0_length_8abf5_1 : decode cJ0_length_8abf5 1 = .ok (.getfield 9, 3) := by decide +kernel
theorem dJ0_length_8abf5_4 : decode cJ0_length_8abf5 4 = .ok (.arraylength, 1) := by decide +kernel
theorem dJ0_length_8abf5_5 : decode cJ0_length_8abf5 5 = .ok (.aload_n 0, 1) := by decide +kernel
theorem dJ0_length_8abf5_6 : decode cJ0_length_8abf5 6 = .ok (.invokevirtual 335, 3) := by decide +kernel
theorem dJ0_length_8abf5_9 : decode cJ0_length_8abf5 9 = .ok (.ishr, 1) := by decide +kernel
theorem dJ0_length_8abf5_10 : decode cJ0_length_8abf5 10 = .ok (.ireturn, 1) := by decide +kernel
theorem dJ0_coder_7d493_0 : decode cJ0_coder_7d493 0 = .ok (.getstatic 38, 3) := by decide +kernel
theorem dJ0_coder_7d493_3 : decode cJ0_coder_7d493 3 = .ok (.ifCond .eq 10, 3) := by decide +kernel
theorem dJ0_coder_7d493_6 : decode cJ0_coder_7d493 6 = .ok (.aload_n 0, 1) := by decide +kernel
theorem dJ0_coder_7d493_7 : decode cJ0_coder_7d493 7 = .ok (.getfield 15, 3) := by decide +kernel
theorem dJ0_coder_7d493_10 : decode cJ0_coder_7d493 10 = .ok (.goto 4, 3) := by decide +kernel
theorem dJ0_coder_7d493_13 : decode cJ0_coder_7d493 13 = .ok (.iconst 1, 1) := by decide +kernel
theorem dJ0_coder_7d493_14 : decode cJ0_coder_7d493 14 = .ok (.ireturn, 1) := by decide +kernel
theorem dJ0_isLatin1_aae02_0 : decode cJ0_isLatin1_aae02 0 = .ok (.getstatic 38, 3) := by decide +kernel
theorem dJ0_isLatin1_aae02_3 : decode cJ0_isLatin1_aae02 3 = .ok (.ifCond .eq 14, 3) := by decide +kernel
theorem dJ0_isLatin1_aae02_6 : decode cJ0_isLatin1_aae02 6 = .ok (.aload_n 0, 1) := by decide +kernel
theorem dJ0_isLatin1_aae02_7 : decode cJ0_isLatin1_aae02 7 = .ok (.getfield 15, 3) := by decide +kernel
theorem dJ0_isLatin1_aae02_10 : decode cJ0_isLatin1_aae02 10 = .ok (.ifCond .ne 7, 3) := by decide +kernel
theorem dJ0_isLatin1_aae02_13 : decode cJ0_isLatin1_aae02 13 = .ok (.iconst 1, 1) := by decide +kernel
theorem dJ0_isLatin1_aae02_14 : decode cJ0_isLatin1_aae02 14 = .ok (.goto 4, 3) := by decide +kernel
theorem dJ0_isLatin1_aae02_17 : decode cJ0_isLatin1_aae02 17 = .ok (.iconst 0, 1) := by decide +kernel
theorem dJ0_isLatin1_aae02_18 : decode cJ0_isLatin1_aae02 18 = .ok (.ireturn, 1) := by decide +kernel
theorem dJ0_checkIndex_df160_0 : decode cJ0_checkIndex_df160 0 = .ok (.iload_n 0, 1) := by decide +kernel
theorem dJ0_checkIndex_df160_1 : decode cJ0_checkIndex_df160 1 = .ok (.iload_n 1, 1) := by decide +kernel
theorem dJ0_checkIndex_df160_2 : decode cJ0_checkIndex_df160 2 = .ok (.getstatic 1053, 3) := by decide +kernel
theorem dJ0_checkIndex_df160_5 : decode cJ0_checkIndex_df160 5 = .ok (.invokestatic 1059, 3) := by decide +kernel
theorem dJ0_checkIndex_df160_8 : decode cJ0_checkIndex_df160 8 = .ok (.pop, 1) := by decide +kernel
theorem dJ0_checkIndex_df160_9 : decode cJ0_checkIndex_df160 9 = .ok (.return_, 1) := by decide +kernel
theorem dJ3_checkIndex_8e157_0 : decode cJ3_checkIndex_8e157 0 = .ok (.iload_n 0, 1) := by decide +kernel
theorem dJ3_checkIndex_8e157_1 : decode cJ3_checkIndex_8e157 1 = .ok (.ifCond .lt 8, 3) := by decide +kernel
theorem dJ3_checkIndex_8e157_4 : decode cJ3_checkIndex_8e157 4 = .ok (.iload_n 0, 1) := by decide +kernel
theorem dJ3_checkIndex_8e157_5 : decode cJ3_checkIndex_8e157 5 = .ok (.iload_n 1, 1) := by decide +kernel
theorem dJ3_checkIndex_8e157_6 : decode cJ3_checkIndex_8e157 6 = .ok (.if_icmp .lt 10, 3) := by decide +kernel
theorem dJ3_checkIndex_8e157_9 : decode cJ3_checkIndex_8e157 9 = .ok (.aload_n 2, 1) := by decide +kernel
theorem dJ3_checkIndex_8e157_10 : decode cJ3_checkIndex_8e157 10 = .ok (.iload_n 0, 1) := by decide +kernel
theorem dJ3_checkIndex_8e157_11 : decode cJ3_checkIndex_8e157 11 = .ok (.iload_n 1, 1) := by decide +kernel
theorem dJ3_checkIndex_8e157_12 : decode cJ3_checkIndex_8e157 12 = .ok (.invokestatic 95, 3) := by decide +kernel
theorem dJ3_checkIndex_8e157_15 : decode cJ3_checkIndex_8e157 15 = .ok (.athrow, 1) := by decide +kernel
theorem dJ3_checkIndex_8e157_16 : decode cJ3_checkIndex_8e157 16 = .ok (.iload_n 0, 1) := by decide +kernel
theorem dJ3_checkIndex_8e157_17 : decode cJ3_checkIndex_8e157 17 = .ok (.ireturn, 1) := by decide +kernel
set_option maxRecDepth 100000 in
set_option maxHeartbeats 4000000 in
theorem c_coder (l : Launch) (D : va_G) (cy : Nat → ClassId) (tx : (Nat → Nat) × (Nat → Nat)) (base Z : Nat) (K N : Nat → Nat) (M : Nat → Nat → Int32) (R : Nat → Nat → Option Nat) (J : Nat → Nat → Int64) (i : Nat) (hi : i < 6) : Met l yJ0_coder_7d493 [Cond.code yJ0_coder_7d493 cJ0_coder_7d493 1 (some .byte)] (md_rm 1 0 0) (va_Pc [.ref (tx.1 i)] (md_U D cy tx base Z K N M R J)) (mQi D cy tx base (fun r u => r = 0 ∧ u = (Z, K, N, M, R, J))) 0 0 (fun q => base ≤ q) := by
  refine Met.ofW (cc := cJ0_coder_7d493) (maxL := 1) (ret := (some .byte)) (by decide) rfl ?_
  intro p e s m args below meth c s₁ B hml hv
  have hW : ∀ w ∈ lw_tbl, goodWord w = true → w.before args s = true := fun w h g => hv.2.2.2.1.2.1 w h g _
  obtain ⟨rfl, hU⟩ := hv
  have hx := B.exec
  have hb := B.bytes
  have hr := B.returns
  have hlocks := B.notSynchronized
  have hown : s.vm.findClass RJ0 = some m.cls := findClass_of_methodNamed B.named
  have hK := hU.2.2.1
  have hT := hU.2.2.2
  have hG := md_G.start hU
  have hl := lv_entry ([.ref (tx.1 i)]) (n := 1) (Nat.le_of_ble_eq_true rfl)
  rw [lg_entry_eq]
  generalize (lg_sl ([.ref (tx.1 i)]) ++ List.replicate (1 - (lg_sl ([.ref (tx.1 i)])).length) Slot.unset).toArray = ls at hl ⊢
  have hl : lv_has ls 1 [(0, .ref (tx.1 i))] := hl
  refine va_gets hx hb hT.2.2.1 hG.2.2 hown (hW _ w_3_123 rfl) (fun _ h => h) dJ0_coder_7d493_0 ?_
  refine lv_if_eq (tgt := 13) hx hb dJ0_coder_7d493_3 (by decide) (fun h => absurd h (by decide)) (fun _ => ?_)
  refine lv_aload_n hx hb dJ0_coder_7d493_6 rfl (lv_at hl 0 rfl) ?_
  refine vk_getf hx hb (hT.1.1 i hi).2.1 hG.2.2 hown (hW _ w_8_206 rfl) (fun _ h => h) dJ0_coder_7d493_7 ?_
  refine lv_goto (tgt := 14) hx hb dJ0_coder_7d493_10 (by decide) ?_
  exact md_endz hx hb hr hlocks hK hT hG rfl ⟨rfl, rfl⟩ dJ0_coder_7d493_14
set_option maxRecDepth 100000 in
set_option maxHeartbeats 4000000 in
theorem c_isLatin1 (l : Launch) (D : va_G) (cy : Nat → ClassId) (tx : (Nat → Nat) × (Nat → Nat)) (base Z : Nat) (K N : Nat → Nat) (M : Nat → Nat → Int32) (R : Nat → Nat → Option Nat) (J : Nat → Nat → Int64) (i : Nat) (hi : i < 6) : Met l yJ0_isLatin1_aae02 [Cond.code yJ0_isLatin1_aae02 cJ0_isLatin1_aae02 1 (some .boolean)] (md_rm 1 0 0) (va_Pc [.ref (tx.1 i)] (md_U D cy tx base Z K N M R J)) (mQi D cy tx base (fun r u => r = 1 ∧ u = (Z, K, N, M, R, J))) 0 0 (fun q => base ≤ q) := by
  refine Met.ofW (cc := cJ0_isLatin1_aae02) (maxL := 1) (ret := (some .boolean)) (by decide) rfl ?_
  intro p e s m args below meth c s₁ B hml hv
  have hW : ∀ w ∈ lw_tbl, goodWord w = true → w.before args s = true := fun w h g => hv.2.2.2.1.2.1 w h g _
  obtain ⟨rfl, hU⟩ := hv
  have hx := B.exec
  have hb := B.bytes
  have hr := B.returns
  have hlocks := B.notSynchronized
  have hown : s.vm.findClass RJ0 = some m.cls := findClass_of_methodNamed B.named
  have hK := hU.2.2.1
  have hT := hU.2.2.2
  have hG := md_G.start hU
  have hl := lv_entry ([.ref (tx.1 i)]) (n := 1) (Nat.le_of_ble_eq_true rfl)
  rw [lg_entry_eq]
  generalize (lg_sl ([.ref (tx.1 i)]) ++ List.replicate (1 - (lg_sl ([.ref (tx.1 i)])).length) Slot.unset).toArray = ls at hl ⊢
  have hl : lv_has ls 1 [(0, .ref (tx.1 i))] := hl
  refine va_gets hx hb hT.2.2.1 hG.2.2 hown (hW _ w_3_123 rfl) (fun _ h => h) dJ0_isLatin1_aae02_0 ?_
  refine lv_if_eq (tgt := 17) hx hb dJ0_isLatin1_aae02_3 (by decide) (fun h => absurd h (by decide)) (fun _ => ?_)
  refine lv_aload_n hx hb dJ0_isLatin1_aae02_6 rfl (lv_at hl 0 rfl) ?_
  refine vk_getf hx hb (hT.1.1 i hi).2.1 hG.2.2 hown (hW _ w_8_206 rfl) (fun _ h => h) dJ0_isLatin1_aae02_7 ?_
  refine lv_if_ne (tgt := 17) hx hb dJ0_isLatin1_aae02_10 (by decide) (fun h => absurd rfl h) (fun _ => ?_)
  refine lv_iconst (v := 1) hx hb dJ0_isLatin1_aae02_13 (by decide) ?_
  refine lv_goto (tgt := 18) hx hb dJ0_isLatin1_aae02_14 (by decide) ?_
  exact md_endz hx hb hr hlocks hK hT hG rfl ⟨rfl, rfl⟩ dJ0_isLatin1_aae02_18
set_option maxRecDepth 100000 in
set_option maxHeartbeats 4000000 in
theorem c_length (l : Launch) (D : va_G) (cy : Nat → ClassId) (tx : (Nat → Nat) × (Nat → Nat)) (base Z : Nat) (K N : Nat → Nat) (M : Nat → Nat → Int32) (R : Nat → Nat → Option Nat) (J : Nat → Nat → Int64) (i : Nat) (hi : i < 6) : Met l yJ0_length_8abf5 [Cond.code yJ0_length_8abf5 cJ0_length_8abf5 1 (some .int)] (md_rm 2 0 0) (va_Pc [.ref (tx.1 i)] (md_U D cy tx base Z K N M R J)) (mQi D cy tx base (fun r u => r = Int32.ofNat (md_sl.getD i 0) ∧ u = (Z, K, N, M, R, J))) 0 0 (fun q => base ≤ q) := by
  refine Met.ofW (cc := cJ0_length_8abf5) (maxL := 1) (ret := (some .int)) (by decide) rfl ?_
  intro p e s m args below meth c s₁ B hml hv
  have hW : ∀ w ∈ lw_tbl, goodWord w = true → w.before args s = true := fun w h g => hv.2.2.2.1.2.1 w h g _
  obtain ⟨rfl, hU⟩ := hv
  have hx := B.exec
  have hb := B.bytes
  have hr := B.returns
  have hlocks := B.notSynchronized
  have hown : s.vm.findClass RJ0 = some m.cls := findClass_of_methodNamed B.named
  have hK := hU.2.2.1
  have hT := hU.2.2.2
  have hG := md_G.start hU
  have hl := lv_entry ([.ref (tx.1 i)]) (n := 1) (Nat.le_of_ble_eq_true rfl)
  rw [lg_entry_eq]
  generalize (lg_sl ([.ref (tx.1 i)]) ++ List.replicate (1 - (lg_sl ([.ref (tx.1 i)])).length) Slot.unset).toArray = ls at hl ⊢
  have hl : lv_has ls 1 [(0, .ref (tx.1 i))] := hl
  refine lv_aload_n hx hb dJ0_length_8abf5_0 rfl (lv_at hl 0 rfl) ?_
  refine vk_getf hx hb (hT.1.1 i hi).2.2.1 hG.2.2 hown (hW _ w_8_205 rfl) (fun _ h => h) dJ0_length_8abf5_1 ?_
  refine va_tlen hx hb (hT.1.1 i hi).2.2.2 hG.2.2 rfl dJ0_length_8abf5_4 ?_
  refine lv_aload_n hx hb dJ0_length_8abf5_5 rfl (lv_at hl 0 rfl) ?_
  refine md_goi hG (md_runT (As := []) (rest := [.int (Int32.ofNat (md_sl.getD i 0))]) hx hb hml hown hW hK hT hG (c_coder l D cy tx base Z K N M R J i hi) s_J0_335 ⟨rfl, rfl, ⟨Nat.le_of_ble_eq_true rfl, Nat.le_of_ble_eq_true rfl⟩, Nat.le_of_ble_eq_true rfl, Nat.le_of_ble_eq_true rfl⟩ hi rfl hl.1 rfl (Nat.le_of_ble_eq_true rfl) dJ0_length_8abf5_6) (fun r u H locs hp hG => ?_)
  obtain ⟨rfl, rfl⟩ := hp
  have hG : md_G D cy base Z K N M R J s H locs := hG
  refine lv_ishr hx hb dJ0_length_8abf5_9 ?_
  refine md_top (sb_shr0 _) ?_
  exact md_endi hx hb hr hlocks hK hT hG ⟨rfl, rfl⟩ dJ0_length_8abf5_10
set_option maxRecDepth 100000 in
set_option maxHeartbeats 4000000 in
theorem c_chk3 (l : Launch) (D : va_G) (cy : Nat → ClassId) (tx : (Nat → Nat) × (Nat → Nat)) (base Z : Nat) (K N : Nat → Nat) (M : Nat → Nat → Int32) (R : Nat → Nat → Option Nat) (J : Nat → Nat → Int64) (i n : Int32) (r9 : Option Nat) (h0 : ¬ i < 0) (h1 : i < n) : Met l yJ3_checkIndex_8e157 [Cond.code yJ3_checkIndex_8e157 cJ3_checkIndex_8e157 3 (some .int)] (md_rm 1 0 0) (va_Pc [.int i, .int n, va_rf r9] (md_U D cy tx base Z K N M R J)) (mQi D cy tx base (fun r u => r = i ∧ u = (Z, K, N, M, R, J))) 0 0 (fun q => base ≤ q) := by
  rcases r9 with _ | t9
  · change Met _ _ _ _ (va_Pc [.int i, .int n, .null] _) _ _ _ _
    refine Met.ofW (cc := cJ3_checkIndex_8e157) (maxL := 3) (ret := (some .int)) (by decide) rfl ?_
    intro p e s m args below meth c s₁ B hml hv
    have hW : ∀ w ∈ lw_tbl, goodWord w = true → w.before args s = true := fun w h g => hv.2.2.2.1.2.1 w h g _
    obtain ⟨rfl, hU⟩ := hv
    have hx := B.exec
    have hb := B.bytes
    have hr := B.returns
    have hlocks := B.notSynchronized
    have hown : s.vm.findClass RJ3 = some m.cls := findClass_of_methodNamed B.named
    have hK := hU.2.2.1
    have hT := hU.2.2.2
    have hG := md_G.start hU
    have hl := lv_entry ([.int i, .int n, .null]) (n := 3) (Nat.le_of_ble_eq_true rfl)
    rw [lg_entry_eq]
    generalize (lg_sl ([.int i, .int n, .null]) ++ List.replicate (3 - (lg_sl ([.int i, .int n, .null])).length) Slot.unset).toArray = ls at hl ⊢
    have hl : lv_has ls 3 [(0, .int i), (1, .int n), (2, .null)] := hl
    refine lv_iload_n hx hb dJ3_checkIndex_8e157_0 rfl (lv_at hl 0 rfl) ?_
    refine lv_if_lt (tgt := 9) hx hb dJ3_checkIndex_8e157_1 (by decide) (fun h => absurd h h0) (fun _ => ?_)
    refine lv_iload_n hx hb dJ3_checkIndex_8e157_4 rfl (lv_at hl 0 rfl) ?_
    refine lv_iload_n hx hb dJ3_checkIndex_8e157_5 rfl (lv_at hl 1 rfl) ?_
    refine lv_icmp_lt (tgt := 16) hx hb dJ3_checkIndex_8e157_6 (by decide) (fun _ => ?_) (fun h => absurd h1 h)
    refine lv_iload_n hx hb dJ3_checkIndex_8e157_16 rfl (lv_at hl 0 rfl) ?_
    exact md_endi hx hb hr hlocks hK hT hG ⟨rfl, rfl⟩ dJ3_checkIndex_8e157_17
  · change Met _ _ _ _ (va_Pc [.int i, .int n, .ref t9] _) _ _ _ _
    refine Met.ofW (cc := cJ3_checkIndex_8e157) (maxL := 3) (ret := (some .int)) (by decide) rfl ?_
    intro p e s m args below meth c s₁ B hml hv
    have hW : ∀ w ∈ lw_tbl, goodWord w = true → w.before args s = true := fun w h g => hv.2.2.2.1.2.1 w h g _
    obtain ⟨rfl, hU⟩ := hv
    have hx := B.exec
    have hb := B.bytes
    have hr := B.returns
    have hlocks := B.notSynchronized
    have hown : s.vm.findClass RJ3 = some m.cls := findClass_of_methodNamed B.named
    have hK := hU.2.2.1
    have hT := hU.2.2.2
    have hG := md_G.start hU
    have hl := lv_entry ([.int i, .int n, .ref t9]) (n := 3) (Nat.le_of_ble_eq_true rfl)
    rw [lg_entry_eq]
    generalize (lg_sl ([.int i, .int n, .ref t9]) ++ List.replicate (3 - (lg_sl ([.int i, .int n, .ref t9])).length) Slot.unset).toArray = ls at hl ⊢
    have hl : lv_has ls 3 [(0, .int i), (1, .int n), (2, .ref t9)] := hl
    refine lv_iload_n hx hb dJ3_checkIndex_8e157_0 rfl (lv_at hl 0 rfl) ?_
    refine lv_if_lt (tgt := 9) hx hb dJ3_checkIndex_8e157_1 (by decide) (fun h => absurd h h0) (fun _ => ?_)
    refine lv_iload_n hx hb dJ3_checkIndex_8e157_4 rfl (lv_at hl 0 rfl) ?_
    refine lv_iload_n hx hb dJ3_checkIndex_8e157_5 rfl (lv_at hl 1 rfl) ?_
    refine lv_icmp_lt (tgt := 16) hx hb dJ3_checkIndex_8e157_6 (by decide) (fun _ => ?_) (fun h => absurd h1 h)
    refine lv_iload_n hx hb dJ3_checkIndex_8e157_16 rfl (lv_at hl 0 rfl) ?_
    exact md_endi hx hb hr hlocks hK hT hG ⟨rfl, rfl⟩ dJ3_checkIndex_8e157_17
set_option maxRecDepth 100000 in
set_option maxHeartbeats 4000000 in
theorem c_chk0 (l : Launch) (D : va_G) (cy : Nat → ClassId) (tx : (Nat → Nat) × (Nat → Nat)) (base Z : Nat) (K N : Nat → Nat) (M : Nat → Nat → Int32) (R : Nat → Nat → Option Nat) (J : Nat → Nat → Int64) (i n : Int32) (h0 : ¬ i < 0) (h1 : i < n) : Met l yJ0_checkIndex_df160 [Cond.code yJ0_checkIndex_df160 cJ0_checkIndex_df160 2 none] (md_rm 2 0 0) (va_Pc [.int i, .int n] (md_U D cy tx base Z K N M R J)) (mQv D cy tx base (fun u => u = (Z, K, N, M, R, J))) 0 0 (fun q => base ≤ q) := by
  refine Met.ofW (cc := cJ0_checkIndex_df160) (maxL := 2) (ret := none) (by decide) rfl ?_
  intro p e s m args below meth c s₁ B hml hv
  have hW : ∀ w ∈ lw_tbl, goodWord w = true → w.before args s = true := fun w h g => hv.2.2.2.1.2.1 w h g _
  obtain ⟨rfl, hU⟩ := hv
  have hx := B.exec
  have hb := B.bytes
  have hr := B.returns
  have hlocks := B.notSynchronized
  have hown : s.vm.findClass RJ0 = some m.cls := findClass_of_methodNamed B.named
  have hK := hU.2.2.1
  have hT := hU.2.2.2
  have hG := md_G.start hU
  have hl := lv_entry ([.int i, .int n]) (n := 2) (Nat.le_of_ble_eq_true rfl)
  rw [lg_entry_eq]
  generalize (lg_sl ([.int i, .int n]) ++ List.replicate (2 - (lg_sl ([.int i, .int n])).length) Slot.unset).toArray = ls at hl ⊢
  have hl : lv_has ls 2 [(0, .int i), (1, .int n)] := hl
  rcases hT.2.2.2.1 with hz9 | ⟨t9, hz9⟩
  · refine lv_iload_n hx hb dJ0_checkIndex_df160_0 rfl (lv_at hl 0 rfl) ?_
    refine lv_iload_n hx hb dJ0_checkIndex_df160_1 rfl (lv_at hl 1 rfl) ?_
    refine va_gets hx hb hz9 hG.2.2 hown (hW _ w_3_139 rfl) (fun _ h => h) dJ0_checkIndex_df160_2 ?_
    refine md_goi hG (md_runS (As := [.int i, .int n, va_rf none]) (rest := []) hx hb hml hown hW hK hT hG (c_chk3 l D cy tx base Z K N M R J i n none h0 h1) s_J0_1059 ⟨rfl, rfl, ⟨Nat.le_of_ble_eq_true rfl, Nat.le_of_ble_eq_true rfl⟩, Nat.le_of_ble_eq_true rfl, Nat.le_of_ble_eq_true rfl⟩ rfl hl.1 rfl (Nat.le_of_ble_eq_true rfl) dJ0_checkIndex_df160_5) (fun r u H locs hp hG => ?_)
    obtain ⟨rfl, rfl⟩ := hp
    have hG : md_G D cy base Z K N M R J s H locs := hG
    refine lv_pop hx hb dJ0_checkIndex_df160_8 rfl ?_
    exact md_endv hx hb hr hlocks hK hT hG rfl dJ0_checkIndex_df160_9
  · refine lv_iload_n hx hb dJ0_checkIndex_df160_0 rfl (lv_at hl 0 rfl) ?_
    refine lv_iload_n hx hb dJ0_checkIndex_df160_1 rfl (lv_at hl 1 rfl) ?_
    refine va_gets hx hb hz9 hG.2.2 hown (hW _ w_3_139 rfl) (fun _ h => h) dJ0_checkIndex_df160_2 ?_
    refine md_goi hG (md_runS (As := [.int i, .int n, va_rf (some t9)]) (rest := []) hx hb hml hown hW hK hT hG (c_chk3 l D cy tx base Z K N M R J i n (some t9) h0 h1) s_J0_1059 ⟨rfl, rfl, ⟨Nat.le_of_ble_eq_true rfl, Nat.le_of_ble_eq_true rfl⟩, Nat.le_of_ble_eq_true rfl, Nat.le_of_ble_eq_true rfl⟩ rfl hl.1 rfl (Nat.le_of_ble_eq_true rfl) dJ0_checkIndex_df160_5) (fun r u H locs hp hG => ?_)
    obtain ⟨rfl, rfl⟩ := hp
    have hG : md_G D cy base Z K N M R J s H locs := hG
    refine lv_pop hx hb dJ0_checkIndex_df160_8 rfl ?_
    exact md_endv hx hb hr hlocks hK hT hG rfl dJ0_checkIndex_df160_9
set_option maxRecDepth 100000 in
set_option maxHeartbeats 4000000 in
theorem c_lat1 (l : Launch) (D : va_G) (cy : Nat → ClassId) (tx : (Nat → Nat) × (Nat → Nat)) (base Z : Nat) (K N : Nat → Nat) (M : Nat → Nat → Int32) (R : Nat → Nat → Option Nat) (J : Nat → Nat → Int64) (i : Nat) (hi : i < 6) (j : Int32) (hj : vp_in j (md_sl.getD i 0)) (h1 : j < Int32.ofNat (md_sl.getD i 0)) : Met l yJ1_charAt_3b067 [Cond.code yJ1_charAt_3b067 cJ1_charAt_3b067 2 (some .char)] (md_rm 3 0 0) (va_Pc [.ref (tx.2 i), .int j] (md_U D cy tx base Z K N M R J)) (mQi D cy tx base (fun r u => r = md_by i j.toNatClampNeg &&& 255 ∧ u = (Z, K, N, M, R, J))) 0 0 (fun q => base ≤ q) := by
  refine Met.ofW (cc := cJ1_charAt_3b067) (maxL := 2) (ret := (some .char)) (by decide) rfl ?_
  intro p e s m args below meth c s₁ B hml hv
  have hW : ∀ w ∈ lw_tbl, goodWord w = true → w.before args s = true := fun w h g => hv.2.2.2.1.2.1 w h g _
  obtain ⟨rfl, hU⟩ := hv
  have hx := B.exec
  have hb := B.bytes
  have hr := B.returns
  have hlocks := B.notSynchronized
  have hown : s.vm.findClass RJ1 = some m.cls := findClass_of_methodNamed B.named
  have hK := hU.2.2.1
  have hT := hU.2.2.2
  have hG := md_G.start hU
  have hl := lv_entry ([.ref (tx.2 i), .int j]) (n := 2) (Nat.le_of_ble_eq_true rfl)
  rw [lg_entry_eq]
  generalize (lg_sl ([.ref (tx.2 i), .int j]) ++ List.replicate (2 - (lg_sl ([.ref (tx.2 i), .int j])).length) Slot.unset).toArray = ls at hl ⊢
  have hl : lv_has ls 2 [(0, .ref (tx.2 i)), (1, .int j)] := hl
  refine lv_iload_n hx hb dJ1_charAt_3b067_0 rfl (lv_at hl 1 rfl) ?_
  refine lv_aload_n hx hb dJ1_charAt_3b067_1 rfl (lv_at hl 0 rfl) ?_
  refine va_tlen hx hb (hT.1.1 i hi).2.2.2 hG.2.2 rfl dJ1_charAt_3b067_2 ?_
  refine md_gov hG (md_runS (As := [.int j, .int (Int32.ofNat (md_sl.getD i 0))]) (rest := []) hx hb hml hown hW hK hT hG (c_chk0 l D cy tx base Z K N M R J j (Int32.ofNat (md_sl.getD i 0)) (fun q => hj (Or.inl q)) h1) s_J1_9 ⟨rfl, rfl, ⟨Nat.le_of_ble_eq_true rfl, Nat.le_of_ble_eq_true rfl⟩, Nat.le_of_ble_eq_true rfl, Nat.le_of_ble_eq_true rfl⟩ rfl hl.1 rfl (Nat.le_of_ble_eq_true rfl) dJ1_charAt_3b067_3) (fun u H locs hp hG => ?_)
  subst hp
  have hG : md_G D cy base Z K N M R J s H locs := hG
  refine lv_aload_n hx hb dJ1_charAt_3b067_6 rfl (lv_at hl 0 rfl) ?_
  refine lv_iload_n hx hb dJ1_charAt_3b067_7 rfl (lv_at hl 1 rfl) ?_
  refine va_tb hx hb (hT.1.1 i hi).2.2.2 hG.2.2 hj (v := .int (md_by i j.toNatClampNeg)) rfl dJ1_charAt_3b067_8 ?_
  refine lv_sipush (v := 255) hx hb dJ1_charAt_3b067_9 (by decide) ?_
  refine lv_iand hx hb dJ1_charAt_3b067_12 ?_
  refine lv_i2c hx hb dJ1_charAt_3b067_13 (sc_c2 _) ?_
  exact md_endz hx hb hr hlocks hK hT hG (sc_nar _) ⟨rfl, rfl⟩ dJ1_charAt_3b067_14
set_option maxRecDepth 100000 in
set_option maxHeartbeats 4000000 in
theorem c_charAt (l : Launch) (D : va_G) (cy : Nat → ClassId) (tx : (Nat → Nat) × (Nat → Nat)) (base Z : Nat) (K N : Nat → Nat) (M : Nat → Nat → Int32) (R : Nat → Nat → Option Nat) (J : Nat → Nat → Int64) (i : Nat) (hi : i < 6) (j : Int32) (hj : vp_in j (md_sl.getD i 0)) (h1 : j < Int32.ofNat (md_sl.getD i 0)) : Met l yJ0_charAt_5068e [Cond.code yJ0_charAt_5068e cJ0_charAt_5068e 2 (some .char)] (md_rm 4 0 0) (va_Pc [.ref (tx.1 i), .int j] (md_U D cy tx base Z K N M R J)) (mQi D cy tx base (fun r u => r = md_by i j.toNatClampNeg &&& 255 ∧ u = (Z, K, N, M, R, J))) 0 0 (fun q => base ≤ q) := by
  refine Met.ofW (cc := cJ0_charAt_5068e) (maxL := 2) (ret := (some .char)) (by decide) rfl ?_
  intro p e s m args below meth c s₁ B hml hv
  have hW : ∀ w ∈ lw_tbl, goodWord w = true → w.before args s = true := fun w h g => hv.2.2.2.1.2.1 w h g _
  obtain ⟨rfl, hU⟩ := hv
  have hx := B.exec
  have hb := B.bytes
  have hr := B.returns
  have hlocks := B.notSynchronized
  have hown : s.vm.findClass RJ0 = some m.cls := findClass_of_methodNamed B.named
  have hK := hU.2.2.1
  have hT := hU.2.2.2
  have hG := md_G.start hU
  have hl := lv_entry ([.ref (tx.1 i), .int j]) (n := 2) (Nat.le_of_ble_eq_true rfl)
  rw [lg_entry_eq]
  generalize (lg_sl ([.ref (tx.1 i), .int j]) ++ List.replicate (2 - (lg_sl ([.ref (tx.1 i), .int j])).length) Slot.unset).toArray = ls at hl ⊢
  have hl : lv_has ls 2 [(0, .ref (tx.1 i)), (1, .int j)] := hl
  refine lv_aload_n hx hb dJ0_charAt_5068e_0 rfl (lv_at hl 0 rfl) ?_
  refine md_goi hG (md_runT (As := []) (rest := []) hx hb hml hown hW hK hT hG (c_isLatin1 l D cy tx base Z K N M R J i hi) s_J0_492 ⟨rfl, rfl, ⟨Nat.le_of_ble_eq_true rfl, Nat.le_of_ble_eq_true rfl⟩, Nat.le_of_ble_eq_true rfl, Nat.le_of_ble_eq_true rfl⟩ hi rfl hl.1 rfl (Nat.le_of_ble_eq_true rfl) dJ0_charAt_5068e_1) (fun r u H locs hp hG => ?_)
  obtain ⟨rfl, rfl⟩ := hp
  have hG : md_G D cy base Z K N M R J s H locs := hG
  refine lv_if_eq (tgt := 16) hx hb dJ0_charAt_5068e_4 (by decide) (fun h => absurd h (by decide)) (fun _ => ?_)
  refine lv_aload_n hx hb dJ0_charAt_5068e_7 rfl (lv_at hl 0 rfl) ?_
  refine vk_getf hx hb (hT.1.1 i hi).2.2.1 hG.2.2 hown (hW _ w_8_205 rfl) (fun _ h => h) dJ0_charAt_5068e_8 ?_
  refine lv_iload_n hx hb dJ0_charAt_5068e_11 rfl (lv_at hl 1 rfl) ?_
  refine md_goi hG (md_runS (As := [.ref (tx.2 i), .int j]) (rest := []) hx hb hml hown hW hK hT hG (c_lat1 l D cy tx base Z K N M R J i hi j hj h1) s_J0_495 ⟨rfl, rfl, ⟨Nat.le_of_ble_eq_true rfl, Nat.le_of_ble_eq_true rfl⟩, Nat.le_of_ble_eq_true rfl, Nat.le_of_ble_eq_true rfl⟩ rfl hl.1 rfl (Nat.le_of_ble_eq_true rfl) dJ0_charAt_5068e_12) (fun r u H locs hp hG => ?_)
  obtain ⟨rfl, rfl⟩ := hp
  have hG : md_G D cy base Z K N M R J s H locs := hG
  exact md_endz hx hb hr hlocks hK hT hG (sc_nar _) ⟨rfl, rfl⟩ dJ0_charAt_5068e_15
