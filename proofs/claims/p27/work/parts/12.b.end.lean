set_option maxRecDepth 100000 in
set_option maxHeartbeats 8000000 in
/-- THE LAW, from its entry -/
theorem whole_start {p : Program} {e : Env} {s : State} {m : MethodId} {below : List Frame} {meth : Method} {c : Code} (l : Launch) {b L : Nat} {xs : Nat → Int32} (hL : L ≤ 3072) (C0 : lw_At p s m meth c b L xs) : W p l e room_1 s m #[Value.ref b] below meth c s.heap [] 0 0 (lw_Z below #[Value.ref b] s) (entryFrame m ([Value.ref b] : List Value).toArray 4) := by
  obtain ⟨hx, hb, hr, hml, hown, hts, hX, hbl, hlocks, hgv⟩ := C0
  have hb : c.code = cL_law := hb
  have hown : s.vm.findClass RL = some m.cls := hown
  have hW : ∀ w ∈ lw_tbl, goodWord w = true → w.before #[Value.ref b] s = true := fun w h _ => hts w h
  obtain ⟨D, cy, hK⟩ := md_K_start hts
  obtain ⟨tx, hT⟩ := md_T_start hts hgv
  have hG : md_G D cy s.heap.size 0 KX NX M0 R0 J0 s s.heap [] := ⟨fun a h => absurd h (Nat.not_lt_zero a), rfl, va_S.rf⟩
  have hl := lv_entry ([.ref b]) (n := 4) (Nat.le_of_ble_eq_true rfl)
  rw [lg_entry_eq]
  generalize (lg_sl ([.ref b]) ++ List.replicate (4 - (lg_sl ([.ref b])).length) Slot.unset).toArray = ls at hl ⊢
  have hl : lv_has ls 4 [(0, .ref b)] := hl
  refine md_new hx hb hW hown hK hG k_L_7 (Or.inl rfl) (fun _ => rfl) (fun _ => rfl) (Nat.le_of_ble_eq_true rfl) (Nat.le_of_ble_eq_true rfl) dL_law_0 (fun H hG => ?_)
  have hG : md_G D cy s.heap.size 1 KX NX M0 R0 J0 s H _ := hG
  refine lv_dup hx hb dL_law_3 rfl ?_
  refine md_gov hG (md_runI (As := []) (rest := [.ref (s.heap.size + 0)]) hx hb hml hown hW hK hT hG (c_X11_init l D cy tx s.heap.size KX NX M0 R0 J0 (md_fr3 (n := 1) (fun _ _ _ => rfl) (fun _ _ _ => rfl) (fun _ _ _ => rfl)) rfl rfl rfl rfl rfl rfl rfl rfl rfl rfl rfl rfl rfl rfl rfl rfl rfl rfl rfl rfl rfl rfl rfl rfl rfl rfl rfl rfl rfl rfl rfl rfl rfl rfl rfl rfl rfl rfl rfl rfl rfl rfl rfl rfl rfl rfl rfl rfl rfl rfl rfl rfl rfl rfl rfl rfl rfl rfl rfl rfl rfl rfl rfl rfl rfl rfl rfl rfl rfl rfl rfl rfl rfl rfl rfl rfl rfl rfl rfl rfl rfl rfl rfl rfl rfl rfl rfl rfl rfl rfl rfl rfl rfl rfl rfl rfl rfl rfl rfl rfl rfl rfl rfl rfl rfl rfl rfl rfl rfl rfl rfl rfl rfl rfl rfl rfl rfl rfl rfl rfl rfl rfl rfl rfl rfl rfl rfl) s_L_9 ⟨rfl, rfl, ⟨Nat.le_of_ble_eq_true rfl, Nat.le_of_ble_eq_true rfl⟩, Nat.le_of_ble_eq_true rfl, Nat.le_of_ble_eq_true rfl⟩ rfl hl.1 rfl (Nat.le_of_ble_eq_true rfl) dL_law_4) (fun u H locs hp hG => ?_)
  subst hp
  have hG : md_G D cy s.heap.size 69 KX NX M0 (u2 (u2 (u2 (u2 (u2 (u2 (u2 (u2 (u2 (u2 (u2 (u2 (u2 (u2 (u2 (u2 (ur (u2 (u2 (u2 (u2 (u2 (ur (u2 (u2 (u2 (u2 (u2 (u2 (u2 (u2 (u2 (u2 (u2 (ur (u2 (u2 (u2 (u2 (u2 (u2 (u2 (u2 (u2 (u2 (u2 (u2 (u2 (u2 (u2 (u2 (u2 (u2 (u2 (u2 (u2 (u2 (u2 (u2 (u2 (u2 (u2 (u2 (u2 (u2 (u2 (u2 (u2 (u2 R0 0 0 (some 1)) 0 2 (some 2)) 0 4 (some 3)) 4 9 (some 5)) 4 10 (some 6)) 4 11 (some 7)) 4 12 (some 8)) 4 13 (some 9)) 4 14 (some 10)) 4 15 (some 11)) 13 0 (some 4)) 13 1 (some 12)) 13 4 (some 6)) 13 5 (some 10)) 0 3 (some 4)) 0 5 (some 12)) 0 9 (some 13)) 15 9 (some 16)) 15 10 (some 17)) 15 11 (some 18)) 15 12 (some 19)) 15 13 (some 20)) 15 14 (some 21)) 15 15 (some 22)) 14 5 (some 15)) 0 7 (some 14)) 23 5 (some 24)) 0 8 (some 23)) 25 2 (some 26)) 25 3 (some 27)) 25 4 (some 28)) 25 0 (some 4)) 25 1 (some 13)) 0 10 (some 25)) 30 (fun j => if j < 4 then some (30 + 1 + j) else none)) 29 2 (some 30)) 29 3 (some 35)) 29 4 (some 36)) 29 5 (some 37)) 29 6 (some 38)) 29 7 (some 39)) 29 8 (some 40)) 29 9 (some 41)) 29 0 (some 4)) 29 1 (some 13)) 0 11 (some 29)) 43 (fun j => if j < 5 then some (43 + 1 + j) else none)) 42 2 (some 43)) 42 3 (some 49)) 42 0 (some 4)) 42 1 (some 13)) 0 12 (some 42)) 51 (fun j => if j < 7 then some (51 + 1 + j) else none)) 50 2 (some 51)) 50 3 (some 59)) 50 4 (some 60)) 50 0 (some 4)) 50 1 (some 13)) 0 13 (some 50)) 61 2 (some 62)) 61 3 (some 63)) 61 4 (some 64)) 61 5 (some 65)) 61 6 (some 66)) 61 7 (some 67)) 61 8 (some 68)) 61 0 (some 4)) 61 1 (some 13)) 0 14 (some 61)) J0 s H locs := hG
  refine lv_astore_n (lv' := [(1, .ref (s.heap.size + 0)), (0, .ref b)]) hx hb dL_law_7 rfl hl (by decide) rfl (fun ls hl => ?_)
  refine md_new hx hb hW hown hK hG k_L_10 (Or.inl rfl) (fun _ => rfl) (fun _ => rfl) (Nat.le_of_ble_eq_true rfl) (Nat.le_of_ble_eq_true rfl) dL_law_8 (fun H hG => ?_)
  have hG : md_G D cy s.heap.size 70 KX NX M0 (u2 (u2 (u2 (u2 (u2 (u2 (u2 (u2 (u2 (u2 (u2 (u2 (u2 (u2 (u2 (u2 (ur (u2 (u2 (u2 (u2 (u2 (ur (u2 (u2 (u2 (u2 (u2 (u2 (u2 (u2 (u2 (u2 (u2 (ur (u2 (u2 (u2 (u2 (u2 (u2 (u2 (u2 (u2 (u2 (u2 (u2 (u2 (u2 (u2 (u2 (u2 (u2 (u2 (u2 (u2 (u2 (u2 (u2 (u2 (u2 (u2 (u2 (u2 (u2 (u2 (u2 (u2 (u2 R0 0 0 (some 1)) 0 2 (some 2)) 0 4 (some 3)) 4 9 (some 5)) 4 10 (some 6)) 4 11 (some 7)) 4 12 (some 8)) 4 13 (some 9)) 4 14 (some 10)) 4 15 (some 11)) 13 0 (some 4)) 13 1 (some 12)) 13 4 (some 6)) 13 5 (some 10)) 0 3 (some 4)) 0 5 (some 12)) 0 9 (some 13)) 15 9 (some 16)) 15 10 (some 17)) 15 11 (some 18)) 15 12 (some 19)) 15 13 (some 20)) 15 14 (some 21)) 15 15 (some 22)) 14 5 (some 15)) 0 7 (some 14)) 23 5 (some 24)) 0 8 (some 23)) 25 2 (some 26)) 25 3 (some 27)) 25 4 (some 28)) 25 0 (some 4)) 25 1 (some 13)) 0 10 (some 25)) 30 (fun j => if j < 4 then some (30 + 1 + j) else none)) 29 2 (some 30)) 29 3 (some 35)) 29 4 (some 36)) 29 5 (some 37)) 29 6 (some 38)) 29 7 (some 39)) 29 8 (some 40)) 29 9 (some 41)) 29 0 (some 4)) 29 1 (some 13)) 0 11 (some 29)) 43 (fun j => if j < 5 then some (43 + 1 + j) else none)) 42 2 (some 43)) 42 3 (some 49)) 42 0 (some 4)) 42 1 (some 13)) 0 12 (some 42)) 51 (fun j => if j < 7 then some (51 + 1 + j) else none)) 50 2 (some 51)) 50 3 (some 59)) 50 4 (some 60)) 50 0 (some 4)) 50 1 (some 13)) 0 13 (some 50)) 61 2 (some 62)) 61 3 (some 63)) 61 4 (some 64)) 61 5 (some 65)) 61 6 (some 66)) 61 7 (some 67)) 61 8 (some 68)) 61 0 (some 4)) 61 1 (some 13)) 0 14 (some 61)) J0 s H _ := hG
  refine lv_dup hx hb dL_law_11 rfl ?_
  refine md_gov hG (md_runI (As := []) (rest := [.ref (s.heap.size + 69)]) hx hb hml hown hW hK hT hG (c_X12_init l D cy tx s.heap.size KX NX M0 (u2 (u2 (u2 (u2 (u2 (u2 (u2 (u2 (u2 (u2 (u2 (u2 (u2 (u2 (u2 (u2 (ur (u2 (u2 (u2 (u2 (u2 (ur (u2 (u2 (u2 (u2 (u2 (u2 (u2 (u2 (u2 (u2 (u2 (ur (u2 (u2 (u2 (u2 (u2 (u2 (u2 (u2 (u2 (u2 (u2 (u2 (u2 (u2 (u2 (u2 (u2 (u2 (u2 (u2 (u2 (u2 (u2 (u2 (u2 (u2 (u2 (u2 (u2 (u2 (u2 (u2 (u2 (u2 R0 0 0 (some 1)) 0 2 (some 2)) 0 4 (some 3)) 4 9 (some 5)) 4 10 (some 6)) 4 11 (some 7)) 4 12 (some 8)) 4 13 (some 9)) 4 14 (some 10)) 4 15 (some 11)) 13 0 (some 4)) 13 1 (some 12)) 13 4 (some 6)) 13 5 (some 10)) 0 3 (some 4)) 0 5 (some 12)) 0 9 (some 13)) 15 9 (some 16)) 15 10 (some 17)) 15 11 (some 18)) 15 12 (some 19)) 15 13 (some 20)) 15 14 (some 21)) 15 15 (some 22)) 14 5 (some 15)) 0 7 (some 14)) 23 5 (some 24)) 0 8 (some 23)) 25 2 (some 26)) 25 3 (some 27)) 25 4 (some 28)) 25 0 (some 4)) 25 1 (some 13)) 0 10 (some 25)) 30 (fun j => if j < 4 then some (30 + 1 + j) else none)) 29 2 (some 30)) 29 3 (some 35)) 29 4 (some 36)) 29 5 (some 37)) 29 6 (some 38)) 29 7 (some 39)) 29 8 (some 40)) 29 9 (some 41)) 29 0 (some 4)) 29 1 (some 13)) 0 11 (some 29)) 43 (fun j => if j < 5 then some (43 + 1 + j) else none)) 42 2 (some 43)) 42 3 (some 49)) 42 0 (some 4)) 42 1 (some 13)) 0 12 (some 42)) 51 (fun j => if j < 7 then some (51 + 1 + j) else none)) 50 2 (some 51)) 50 3 (some 59)) 50 4 (some 60)) 50 0 (some 4)) 50 1 (some 13)) 0 13 (some 50)) 61 2 (some 62)) 61 3 (some 63)) 61 4 (some 64)) 61 5 (some 65)) 61 6 (some 66)) 61 7 (some 67)) 61 8 (some 68)) 61 0 (some 4)) 61 1 (some 13)) 0 14 (some 61)) J0 (md_fr3 (n := 70) (fun _ _ _ => rfl) (md_frs (md_frs (md_frs (md_frs (md_frs (md_frs (md_frs (md_frs (md_frs (md_frs (md_frs (md_frs (md_frs (md_frs (md_frs (md_frs (md_frr (md_frs (md_frs (md_frs (md_frs (md_frs (md_frr (md_frs (md_frs (md_frs (md_frs (md_frs (md_frs (md_frs (md_frs (md_frs (md_frs (md_frs (md_frr (md_frs (md_frs (md_frs (md_frs (md_frs (md_frs (md_frs (md_frs (md_frs (md_frs (md_frs (md_frs (md_frs (md_frs (md_frs (md_frs (md_frs (md_frs (md_frs (md_frs (md_frs (md_frs (md_frs (md_frs (md_frs (md_frs (md_frs (md_frs (md_frs (md_frs (md_frs (md_frs (md_frs (md_frs (fun _ _ _ => rfl) (by decide)) (by decide)) (by decide)) (by decide)) (by decide)) (by decide)) (by decide)) (by decide)) (by decide)) (by decide)) (by decide)) (by decide)) (by decide)) (by decide)) (by decide)) (by decide)) (by decide)) (by decide)) (by decide)) (by decide)) (by decide)) (by decide)) (by decide)) (by decide)) (by decide)) (by decide)) (by decide)) (by decide)) (by decide)) (by decide)) (by decide)) (by decide)) (by decide)) (by decide)) (by decide)) (by decide)) (by decide)) (by decide)) (by decide)) (by decide)) (by decide)) (by decide)) (by decide)) (by decide)) (by decide)) (by decide)) (by decide)) (by decide)) (by decide)) (by decide)) (by decide)) (by decide)) (by decide)) (by decide)) (by decide)) (by decide)) (by decide)) (by decide)) (by decide)) (by decide)) (by decide)) (by decide)) (by decide)) (by decide)) (by decide)) (by decide)) (by decide)) (by decide)) (by decide)) (fun _ _ _ => rfl)) rfl rfl rfl rfl rfl rfl rfl rfl rfl rfl rfl rfl rfl rfl rfl rfl rfl rfl rfl rfl rfl rfl rfl rfl rfl rfl rfl rfl rfl rfl rfl rfl rfl rfl rfl rfl rfl rfl rfl rfl rfl rfl rfl rfl rfl rfl rfl rfl rfl rfl rfl rfl rfl rfl rfl rfl rfl rfl rfl rfl rfl rfl rfl rfl rfl rfl rfl rfl rfl) s_L_12 ⟨rfl, rfl, ⟨Nat.le_of_ble_eq_true rfl, Nat.le_of_ble_eq_true rfl⟩, Nat.le_of_ble_eq_true rfl, Nat.le_of_ble_eq_true rfl⟩ rfl hl.1 rfl (Nat.le_of_ble_eq_true rfl) dL_law_12) (fun u H locs hp hG => ?_)
  subst hp
  have hG : md_G D cy s.heap.size 104 KX NX M0 RX J0 s H locs := hG
  refine lv_astore_n (lv' := [(2, .ref (s.heap.size + 69)), (1, .ref (s.heap.size + 0)), (0, .ref b)]) hx hb dL_law_15 rfl hl (by decide) rfl (fun ls hl => ?_)
  refine lv_iconst (v := 0) hx hb dL_law_16 (by decide) ?_
  refine lv_istore_n (lv' := [(3, .int 0), (2, .ref (s.heap.size + 69)), (1, .ref (s.heap.size + 0)), (0, .ref b)]) hx hb dL_law_17 rfl hl (by decide) rfl (fun ls hl => ?_)
  have e0 : (0 : Int32).toInt = 0 := by decide
  refine W.widen (k := 4000) (n := 500000) (Nat.le_of_ble_eq_true rfl) (Nat.le_of_ble_eq_true rfl) ?_
  exact law_head (tx := tx) (xs := xs) ⟨hx, hb, hr, hml, hown, hW, hX, hbl, hlocks, hK, hT⟩ hL 3073 0 ⟨by omega, by omega⟩ (by omega) 104 KX NX M0 RX J0 H locs ls hG LI_0 hl
set_option maxHeartbeats 4000000 in
theorem lw_walk (l : Launch) (b : Addr) (xs : List Int32) : MetFree l x (headSpec (Jvm.Cond.code x code maxLocals ret :: tables_1) room_1) (lw_P b xs) (fun _ _ _ _ _ => True) lw_Q := by
  refine MetFree.of_bodyS (code := code) (maxLocals := maxLocals) (ret := ret) (by decide) ?_ ?_
  · intro args s m h hn
    obtain ⟨meth, c, h1, h2, h3, h4, h5, h6, -, -⟩ := Cond.code_spec hn (atoms_spec (ws := Jvm.Cond.code x code maxLocals ret :: tables_1) h _ List.mem_cons_self)
    exact ⟨meth, c, h1, h2, h3, h4, h5, h6⟩
  · intro p e s m args below meth c s₁ B hml0 hP _
    obtain ⟨rfl, hx, hbd, hgv⟩ := hP
    obtain ⟨scr, harrAt, hlist, hof, hsmall⟩ := hx
    obtain ⟨hcb, hkn, -, -⟩ := State.arrayAt?_spec harrAt
    have hown : s.vm.findClass R_law = some m.cls := findClass_of_methodNamed B.named
    have hts0 : ∀ c ∈ (Jvm.Cond.code x code maxLocals ret :: tables_1), c.before #[Value.ref b] s = true := atoms_spec (ws := Jvm.Cond.code x code maxLocals ret :: tables_1) B.pre
    have hts : ∀ w ∈ lw_tbl, w.before #[Value.ref b] s = true := k2_hts_sels lw_privs (fun w hw => hts0 w (List.mem_cons_of_mem _ hw)) lw_privs_ok
    have hml : c.maxLocals = 4 := B.maxLocals_eq (hts0 _ List.mem_cons_self)
    have X₀ : Stand p l e room_1 s m #[Value.ref b] below meth c s₁ [] 0 0 := Stand.of_body B
    have hh0 : s₁.heap = s.heap := by rw [B.state]; rfl
    have hsz : scr.slots.size = xs.length := by rw [← Array.length_toList, hlist, List.length_map]
    have hval : ∀ j : Nat, j < xs.length → scr.slots[j]? = some (.int (xs.getD j 0)) := fun j hj => by
      rw [← Array.getElem?_toList, hlist]
      simp [hj]
    have hbl : b < s.heap.size := (Array.getElem?_eq_some_iff.mp hcb).1
    have hX : va_X b xs.length (fun j => xs.getD j 0) s s.heap := ⟨scr, hcb, hof, hkn, hsz, hval⟩
    have K : W p l e room_1 s m #[Value.ref b] below meth c s₁.heap [] 0 0 (lw_Z below #[Value.ref b] s) (entryFrame m ([Value.ref b] : List Value).toArray 4) := by
      rw [hh0]
      exact whole_start l hbd ⟨B.exec, B.bytes, B.returns, hml, hown, hts, hX, hbl, B.notSynchronized, hgv⟩
    obtain ⟨t, a1, o, b1, b2, b3⟩ := K s₁ rfl X₀
    exact ⟨t, o, a1, b1, b2, b3⟩
theorem lw_pre_spec {args : Array Value} {s : State} (h : (Jvm.Cond.and given_1 narrow_1).before args s = true) (hr : rest_1_c.before args s = true) : ∃ (b : Addr) (xs : List Int32), lw_P b xs args s := by
  have hs := flat_of_before _ h
  have hq := flat_of_before _ hr
  have hc : (Cond.count 1).before args s = true := hs _ (by decide +kernel)
  have harr : (Cond.arrayOf (.arg 0) .int).before args s = true := hs _ (by decide +kernel)
  have hle : (Cond.le (.length (.arg 0)) (.int 3072)).before args s = true := hs _ (by decide +kernel)
  have hlen : (Cond.isInt (.length (.arg 0))).before args s = true := hq _ (by decide +kernel)
  have hall : (Cond.all (.arg 0) (.isInt (.elem (.arg 0) (.index 0)))).before args s = true := hq _ (by decide +kernel)
  obtain ⟨b, xs, hb, hx⟩ := State.ints_of_pre rfl harr hlen hall
  have hsm : xs.length < 2 ^ 31 := hx.choose_spec.2.2.2
  have hev : (Term.length (.arg 0)).eval args s none [] s = some (.int xs.length.toInt32) := hx.length_eval hb
  have hv := Cond.le_ints hev (show (Term.int 3072).eval args s none [] s = some (.int 3072) from rfl)
  have hd : xs.length.toInt32 ≤ 3072 := by
    simpa [Cond.before, Cond.holds, hv] using hle
  have hN : xs.length ≤ 3072 := (Int32.ofNat_le_ofNat hsm (by decide)).mp (show Int32.ofNat xs.length ≤ Int32.ofNat 3072 from hd)
  exact ⟨b, xs, Cond.one_arg hc (show args[0]? = some (.ref b) from hb), hx, hN, h⟩
theorem lw_comes (l : Launch) : Comes l x (Jvm.Cond.code x code maxLocals ret :: tables_1) room_1 (fun tb e args s => Calls_1 tb e args s ∧ rest_1 tb e args s ∧ Pre_1 tb e args s)
    (fun _ _ args s o t => lw_Q args s o t) := by
  intro p e ha hc hk s m args below hf hfit hheap happ hpre
  obtain ⟨b, xs, hP⟩ := lw_pre_spec hpre.2.2 hpre.2.1
  obtain ⟨k, o, h1, h2, h3, hQ⟩ := lw_walk l b xs p e ha hc hk s m args below hf ((Spec.applies_iff_loose hf).mp happ).1 hP trivial
  exact ⟨k, o, h1, h2, h3, hQ⟩
theorem lw_frame {s t : State} {o : Outcome} {args : Array Value} (h : Framed s o t [] 600000 7302250) :
    Framed s o t (fieldLocs frame_1_writes args s ++ arrayLocs frame_1_arrays args s ++ staticLocs frame_1_statics s) 600000 7302250 := h
theorem lw_limb (L : Cond) (hL : ∀ (args : Array Value) (s t : State), L.after args s (.returned (some (.int 1))) t = true) :
    ArmFor flags0 classFile x code maxLocals ret World_1 tables_1 room_1 Calls_1 rest_1 Pre_1
      (fun tb e a s o t => postC L tb e a s o t ∧ Framed s o t (fieldLocs frame_1_writes a s ++ arrayLocs frame_1_arrays a s ++ staticLocs frame_1_statics s) 600000 7302250) := by
  intro l _ _ _ p e ha hc hk s m args below hf hfit hheap happ hpre
  obtain ⟨k, o, h1, h2, h3, rfl, hF⟩ := lw_comes l p e ha hc hk s m args below hf hfit hheap happ hpre
  exact ⟨k, _, h1, h2, h3, hL args s _, lw_frame hF⟩
theorem i_vc : Claimed_1_1 ∧ Claimed_1_2 := ⟨lw_limb limb_1_1 (fun args s t => by simp [limb_1_1, Cond.after, Cond.holds, Cond.value]), lw_limb limb_1_2 (fun args s t => Cond.after_iff.mpr (by
  first | (rw [show limb_1_2 = Cond.eq .result (.int 1) from rfl, Cond.eq_ints (x := 1) (y := 1) rfl rfl]; simp; done) | (simp [limb_1_2, Cond.value, Term.eval]; done)))⟩
