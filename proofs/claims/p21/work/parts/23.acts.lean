/-! ===== the law's acts (printed by a program of mine) ===== -/
set_option maxHeartbeats 4000000 in
set_option maxRecDepth 100000 in
theorem c_L_calls0 (l : Launch) (hlt : l.stackTraces = false) (G : va_G) (y : Nat → ClassId) (a : Nat → Nat) (b : MS) (n : Nat) (la : Nat → Nat → Nat) (L : LNS) (sz : Nat) (hn24 : n ≤ 24) (pd : Nat → Nat) (hpd : ∀ k, k < n → L k 0 7 = nI (pd k) ∧ pd k ≤ 6) (x z : Int32) (hX : (xRepay n L pd x) = 0 ∨ (xRepay n L pd x) = 3) : Met l yL_calls wsL_calls ({ frames := 7, cells := 1, slots := 6, locals := 105 }) (xP G y [.ref (a 13), .int 0, .int x, .int z] (bkW y a b n la L) sz) (mQ G (fun _ : Unit => some (.int (cA (xRepay n L pd x) (lUnp (L (cn x)) (pd (cn x)))))) (fun _ => True) (fun _ => if (xRepay n L pd x) = 0 then bkW y a b n la (u3 L (cn x) (nI 6)) else bkW y a b n la L) (va_A (bkW y a b n la L) sz)) 1 6 (va_A (bkW y a b n la L) sz) := by
  refine va_MetW (cc := cL_calls) (maxL := 5) (ret := (some .int)) (by decide) rfl ?_
  intro p e s m args below meth c s₁ B hml hv
  obtain ⟨rfl, hsz, hP, hK, hD0, hZ⟩ := hv
  have hx := B.exec
  have hb := B.bytes
  have hr := B.returns
  have hts := atoms_spec (ws := wsL_calls) B.pre
  have hown : s.vm.findClass RL = some m.cls := findClass_of_methodNamed B.named
  have htab := vx_table (x := yL_calls) B (hts _ (List.mem_cons_self))
  subst hsz
  have hD := hD0.self (sz := s.heap.size)
  generalize hAe : va_A (bkW y a b n la L) s.heap.size = A at hD hZ ⊢
  have hA : ∀ q : Nat, s.heap.size ≤ q → A q := fun q h => by rw [← hAe]; exact Or.inr h
  have hS : va_S A s.heap s.heap [] := va_S.rf
  have hP : va_P G vwCl (bkW y a b n la L) s.heap := hP
  have hl := lv_entry ([.ref (a 13), .int 0, .int x, .int z]) (n := 5) (Nat.le_of_ble_eq_true rfl)
  rw [lg_entry_eq]
  generalize (lg_sl ([.ref (a 13), .int 0, .int x, .int z]) ++ List.replicate (5 - (lg_sl ([.ref (a 13), .int 0, .int x, .int z])).length) Slot.unset).toArray = ls at hl ⊢
  have hl : lv_has ls 5 [(0, .ref (a 13)), (1, .int 0), (2, .int x), (3, .int z)] := hl
  refine lv_iload_n hx hb dL_calls_0 rfl (lv_at hl 1 rfl) ?_
  refine lv_if_ne (tgt := 12) hx hb dL_calls_1 (by decide) (fun c_1 => absurd rfl c_1) (fun c_1 => ?_)
  refine lv_aload_n hx hb dL_calls_4 rfl (lv_at hl 0 rfl) ?_
  refine lv_iload_n hx hb dL_calls_5 rfl (lv_at hl 2 rfl) ?_
  have hFc : ∀ q, va_A (bkW y a b n la L) s.heap.size q → A q := freeW hD hS hA
  refine caXN (vx_runV (As := [.int x]) (rest := []) ⟨hx, hb, hml, hown, hts⟩ (c_X2_repay l hlt G y a b n la L s.heap.size hn24 pd hpd x) (cwV 1 hts gL_calls_X2_repay rfl rfl rfl (by decide +kernel) ⟨Nat.le_of_ble_eq_true rfl, Nat.le_of_ble_eq_true rfl⟩) ⟨xP_bl, va_recv hK.1 hP (ci := 2) (q0 := 0) rfl rfl, fun U hU hW => ⟨rfl, by rw [hU], by rw [hU]; exact hP, Kb.moved hW hK, hD0, by rw [hU]; exact Zs.moved hW.alike (hZ.narrow hFc)⟩⟩ rfl rfl hl.1 rfl (lv_room (Nat.le_of_ble_eq_true rfl)) dL_calls_6 ⟨Nat.le_of_ble_eq_true rfl, Nat.le_of_ble_eq_true rfl⟩) hS hFc hFc (fun E ce q9 H locs hE hP1 hD1 hk1 hS hce hcv hcl => ?_) (fun u H locs hX0 hP1 hD1 hk1 hS => ?_)
  · obtain ⟨rfl, hne⟩ := hE
    have hP := hP1
    have hD := hD1.weaken (fun _ _ _ h => hFc _ h)
    have h9 : (xRepay n L pd x) = 3 := hX.resolve_left hne
    rw [show exN (xRepay n L pd x) = "java/lang/IllegalStateException" by rw [h9]; rfl] at hcl
    refine vx_catch (E := "java/lang/IllegalStateException") (name := "java/lang/IllegalStateException") hown [] ⟨0, 30, 31, 24⟩ [] (by rw [htab]; rfl) (fun z hz => nomatch hz) (by decide) (by decide) (hts (.classLink RL 24 "java/lang/IllegalStateException") (by decide +kernel)) (va_Nw.use rfl (hK.2.2.1 ("java/lang/IllegalStateException", "java/lang/IllegalStateException") (by decide +kernel))) hce hcv hcl ?_
    refine lv_astore (lv' := [(4, .ref q9), (0, .ref (a 13)), (1, .int 0), (2, .int x), (3, .int z)]) hx hb dL_calls_31 hl (by decide) rfl (fun ls hl => ?_)
    refine lv_bipush (v := (-3)) hx hb dL_calls_33 (by decide) ?_
    exact W.iret (v := (-3)) hx hb hr (fun t ht hW => ⟨⟨(), by rw [h9]; rfl, trivial, by rw [if_neg hne, ht]; exact hP, by rw [if_neg hne]; exact hD⟩, hS.F ht⟩) hS.2.2 dL_calls_35
  · have hX0 : (xRepay n L pd x) = 0 := hX0
    have hP := hP1
    have hD := hD1.weaken (fun _ _ _ h => hFc _ h)
    refine lv_goto (tgt := 30) hx hb dL_calls_9 (by decide) ?_
    exact W.iret (v := lUnp (L (cn x)) (pd (cn x))) hx hb hr (fun t ht hW => ⟨⟨(), by rw [hX0]; rfl, trivial, by rw [if_pos hX0, ht]; exact hP, by rw [if_pos hX0]; exact hD⟩, hS.F ht⟩) hS.2.2 dL_calls_30
set_option maxHeartbeats 4000000 in
set_option maxRecDepth 100000 in
theorem c_L_calls1 (l : Launch) (hlt : l.stackTraces = false) (G : va_G) (y : Nat → ClassId) (a : Nat → Nat) (b : MS) (n : Nat) (la : Nat → Nat → Nat) (L : LNS) (sz : Nat) (x ch : Int32) (hX : (xDep b x ch) = 0 ∨ (xDep b x ch) = 3) : Met l yL_calls wsL_calls ({ frames := 7, cells := 1, slots := 6, locals := 105 }) (xP G y [.ref (a 13), .int 1, .int x, .int ch] (bkW y a b n la L) sz) (mQ G (fun _ : Unit => some (.int (cA (xDep b x ch) (b 7 (cn x) + ch)))) (fun _ => True) (fun _ => if (xDep b x ch) = 0 then bkW y a (bDep b (cn x) ch) n la L else bkW y a b n la L) (va_A (bkW y a b n la L) sz)) 1 6 (va_A (bkW y a b n la L) sz) := by
  refine va_MetW (cc := cL_calls) (maxL := 5) (ret := (some .int)) (by decide) rfl ?_
  intro p e s m args below meth c s₁ B hml hv
  obtain ⟨rfl, hsz, hP, hK, hD0, hZ⟩ := hv
  have hx := B.exec
  have hb := B.bytes
  have hr := B.returns
  have hts := atoms_spec (ws := wsL_calls) B.pre
  have hown : s.vm.findClass RL = some m.cls := findClass_of_methodNamed B.named
  have htab := vx_table (x := yL_calls) B (hts _ (List.mem_cons_self))
  subst hsz
  have hD := hD0.self (sz := s.heap.size)
  generalize hAe : va_A (bkW y a b n la L) s.heap.size = A at hD hZ ⊢
  have hA : ∀ q : Nat, s.heap.size ≤ q → A q := fun q h => by rw [← hAe]; exact Or.inr h
  have hS : va_S A s.heap s.heap [] := va_S.rf
  have hP : va_P G vwCl (bkW y a b n la L) s.heap := hP
  have hl := lv_entry ([.ref (a 13), .int 1, .int x, .int ch]) (n := 5) (Nat.le_of_ble_eq_true rfl)
  rw [lg_entry_eq]
  generalize (lg_sl ([.ref (a 13), .int 1, .int x, .int ch]) ++ List.replicate (5 - (lg_sl ([.ref (a 13), .int 1, .int x, .int ch])).length) Slot.unset).toArray = ls at hl ⊢
  have hl : lv_has ls 5 [(0, .ref (a 13)), (1, .int 1), (2, .int x), (3, .int ch)] := hl
  refine lv_iload_n hx hb dL_calls_0 rfl (lv_at hl 1 rfl) ?_
  refine lv_if_ne (tgt := 12) hx hb dL_calls_1 (by decide) (fun c_1 => ?_) (fun c_1 => absurd c_1 (by decide))
  refine lv_iload_n hx hb dL_calls_12 rfl (lv_at hl 1 rfl) ?_
  refine lv_iconst (v := 1) hx hb dL_calls_13 (by decide) ?_
  refine lv_icmp_ne (tgt := 26) hx hb dL_calls_14 (by decide) (fun c_14 => absurd rfl c_14) (fun c_14 => ?_)
  refine lv_aload_n hx hb dL_calls_17 rfl (lv_at hl 0 rfl) ?_
  refine lv_iload_n hx hb dL_calls_18 rfl (lv_at hl 2 rfl) ?_
  refine lv_iload_n hx hb dL_calls_19 rfl (lv_at hl 3 rfl) ?_
  have hFc : ∀ q, va_A (bkW y a b n la L) s.heap.size q → A q := freeW hD hS hA
  refine caXN (vx_runV (As := [.int x, .int ch]) (rest := []) ⟨hx, hb, hml, hown, hts⟩ (c_X2_deposit l hlt G y a b n la L s.heap.size x ch) (cwV 2 hts gL_calls_X2_deposit rfl rfl rfl (by decide +kernel) ⟨Nat.le_of_ble_eq_true rfl, Nat.le_of_ble_eq_true rfl⟩) ⟨xP_bl, va_recv hK.1 hP (ci := 2) (q0 := 0) rfl rfl, fun U hU hW => ⟨rfl, by rw [hU], by rw [hU]; exact hP, Kb.moved hW hK, hD0, by rw [hU]; exact Zs.moved hW.alike (hZ.narrow hFc)⟩⟩ rfl rfl hl.1 rfl (lv_room (Nat.le_of_ble_eq_true rfl)) dL_calls_20 ⟨Nat.le_of_ble_eq_true rfl, Nat.le_of_ble_eq_true rfl⟩) hS hFc hFc (fun E ce q9 H locs hE hP1 hD1 hk1 hS hce hcv hcl => ?_) (fun u H locs hX0 hP1 hD1 hk1 hS => ?_)
  · obtain ⟨rfl, hne⟩ := hE
    have hP := hP1
    have hD := hD1.weaken (fun _ _ _ h => hFc _ h)
    have h9 : (xDep b x ch) = 3 := hX.resolve_left hne
    rw [show exN (xDep b x ch) = "java/lang/IllegalStateException" by rw [h9]; rfl] at hcl
    refine vx_catch (E := "java/lang/IllegalStateException") (name := "java/lang/IllegalStateException") hown [] ⟨0, 30, 31, 24⟩ [] (by rw [htab]; rfl) (fun z hz => nomatch hz) (by decide) (by decide) (hts (.classLink RL 24 "java/lang/IllegalStateException") (by decide +kernel)) (va_Nw.use rfl (hK.2.2.1 ("java/lang/IllegalStateException", "java/lang/IllegalStateException") (by decide +kernel))) hce hcv hcl ?_
    refine lv_astore (lv' := [(4, .ref q9), (0, .ref (a 13)), (1, .int 1), (2, .int x), (3, .int ch)]) hx hb dL_calls_31 hl (by decide) rfl (fun ls hl => ?_)
    refine lv_bipush (v := (-3)) hx hb dL_calls_33 (by decide) ?_
    exact W.iret (v := (-3)) hx hb hr (fun t ht hW => ⟨⟨(), by rw [h9]; rfl, trivial, by rw [if_neg hne, ht]; exact hP, by rw [if_neg hne]; exact hD⟩, hS.F ht⟩) hS.2.2 dL_calls_35
  · have hX0 : (xDep b x ch) = 0 := hX0
    have hP := hP1
    have hD := hD1.weaken (fun _ _ _ h => hFc _ h)
    refine lv_goto (tgt := 30) hx hb dL_calls_23 (by decide) ?_
    exact W.iret (v := b 7 (cn x) + ch) hx hb hr (fun t ht hW => ⟨⟨(), by rw [hX0]; rfl, trivial, by rw [if_pos hX0, ht]; exact hP, by rw [if_pos hX0]; exact hD⟩, hS.F ht⟩) hS.2.2 dL_calls_30
set_option maxHeartbeats 4000000 in
set_option maxRecDepth 100000 in
theorem c_L_calls2 (l : Launch) (hlt : l.stackTraces = false) (G : va_G) (y : Nat → ClassId) (a : Nat → Nat) (b : MS) (n : Nat) (la : Nat → Nat → Nat) (L : LNS) (sz : Nat) (pd : Nat → Nat) (hpd : ∀ k, k < n → L k 0 7 = nI (pd k) ∧ pd k ≤ 6) (t : Nat) (ht : b 13 4 = nI t) (ht47 : t ≤ 47) (x z : Int32) (hX : (xClose t) = 0 ∨ (xClose t) = 3) : Met l yL_calls wsL_calls ({ frames := 7, cells := 1, slots := 6, locals := 136 }) (xP G y [.ref (a 13), .int 2, .int x, .int z] (bkW y a b n la L) sz) (mQ G (fun _ : Unit => some (.int (cA (xClose t) (nI (t + 1))))) (fun _ => True) (fun _ => if (xClose t) = 0 then bkW y a (bClose b t n L pd) n la (bPA L n pd 24) else bkW y a b n la L) (va_A (bkW y a b n la L) sz)) 1 6 (va_A (bkW y a b n la L) sz) := by
  refine va_MetW (cc := cL_calls) (maxL := 5) (ret := (some .int)) (by decide) rfl ?_
  intro p e s m args below meth c s₁ B hml hv
  obtain ⟨rfl, hsz, hP, hK, hD0, hZ⟩ := hv
  have hx := B.exec
  have hb := B.bytes
  have hr := B.returns
  have hts := atoms_spec (ws := wsL_calls) B.pre
  have hown : s.vm.findClass RL = some m.cls := findClass_of_methodNamed B.named
  have htab := vx_table (x := yL_calls) B (hts _ (List.mem_cons_self))
  subst hsz
  have hD := hD0.self (sz := s.heap.size)
  generalize hAe : va_A (bkW y a b n la L) s.heap.size = A at hD hZ ⊢
  have hA : ∀ q : Nat, s.heap.size ≤ q → A q := fun q h => by rw [← hAe]; exact Or.inr h
  have hS : va_S A s.heap s.heap [] := va_S.rf
  have hP : va_P G vwCl (bkW y a b n la L) s.heap := hP
  have hl := lv_entry ([.ref (a 13), .int 2, .int x, .int z]) (n := 5) (Nat.le_of_ble_eq_true rfl)
  rw [lg_entry_eq]
  generalize (lg_sl ([.ref (a 13), .int 2, .int x, .int z]) ++ List.replicate (5 - (lg_sl ([.ref (a 13), .int 2, .int x, .int z])).length) Slot.unset).toArray = ls at hl ⊢
  have hl : lv_has ls 5 [(0, .ref (a 13)), (1, .int 2), (2, .int x), (3, .int z)] := hl
  refine lv_iload_n hx hb dL_calls_0 rfl (lv_at hl 1 rfl) ?_
  refine lv_if_ne (tgt := 12) hx hb dL_calls_1 (by decide) (fun c_1 => ?_) (fun c_1 => absurd c_1 (by decide))
  refine lv_iload_n hx hb dL_calls_12 rfl (lv_at hl 1 rfl) ?_
  refine lv_iconst (v := 1) hx hb dL_calls_13 (by decide) ?_
  refine lv_icmp_ne (tgt := 26) hx hb dL_calls_14 (by decide) (fun c_14 => ?_) (fun c_14 => absurd c_14 (by decide))
  refine lv_aload_n hx hb dL_calls_26 rfl (lv_at hl 0 rfl) ?_
  have hFc : ∀ q, va_A (bkW y a b n la L) s.heap.size q → A q := freeW hD hS hA
  refine caXN (vx_runV (As := []) (rest := []) ⟨hx, hb, hml, hown, hts⟩ (c_X2_closeMonth l hlt G y a b n la L s.heap.size pd hpd t ht ht47) (cwV 0 hts gL_calls_X2_closeMonth rfl rfl rfl (by decide +kernel) ⟨Nat.le_of_ble_eq_true rfl, Nat.le_of_ble_eq_true rfl⟩) ⟨xP_bl, va_recv hK.1 hP (ci := 2) (q0 := 0) rfl rfl, fun U hU hW => ⟨rfl, by rw [hU], by rw [hU]; exact hP, Kb.moved hW hK, hD0, by rw [hU]; exact Zs.moved hW.alike (hZ.narrow hFc)⟩⟩ rfl rfl hl.1 rfl (lv_room (Nat.le_of_ble_eq_true rfl)) dL_calls_27 ⟨Nat.le_of_ble_eq_true rfl, Nat.le_of_ble_eq_true rfl⟩) hS hFc hFc (fun E ce q9 H locs hE hP1 hD1 hk1 hS hce hcv hcl => ?_) (fun u H locs hX0 hP1 hD1 hk1 hS => ?_)
  · obtain ⟨rfl, hne⟩ := hE
    have hP := hP1
    have hD := hD1.weaken (fun _ _ _ h => hFc _ h)
    have h9 : (xClose t) = 3 := hX.resolve_left hne
    rw [show exN (xClose t) = "java/lang/IllegalStateException" by rw [h9]; rfl] at hcl
    refine vx_catch (E := "java/lang/IllegalStateException") (name := "java/lang/IllegalStateException") hown [] ⟨0, 30, 31, 24⟩ [] (by rw [htab]; rfl) (fun z hz => nomatch hz) (by decide) (by decide) (hts (.classLink RL 24 "java/lang/IllegalStateException") (by decide +kernel)) (va_Nw.use rfl (hK.2.2.1 ("java/lang/IllegalStateException", "java/lang/IllegalStateException") (by decide +kernel))) hce hcv hcl ?_
    refine lv_astore (lv' := [(4, .ref q9), (0, .ref (a 13)), (1, .int 2), (2, .int x), (3, .int z)]) hx hb dL_calls_31 hl (by decide) rfl (fun ls hl => ?_)
    refine lv_bipush (v := (-3)) hx hb dL_calls_33 (by decide) ?_
    exact W.iret (v := (-3)) hx hb hr (fun t ht hW => ⟨⟨(), by rw [h9]; rfl, trivial, by rw [if_neg hne, ht]; exact hP, by rw [if_neg hne]; exact hD⟩, hS.F ht⟩) hS.2.2 dL_calls_35
  · have hX0 : (xClose t) = 0 := hX0
    have hP := hP1
    have hD := hD1.weaken (fun _ _ _ h => hFc _ h)
    exact W.iret (v := nI (t + 1)) hx hb hr (fun t ht hW => ⟨⟨(), by rw [hX0]; rfl, trivial, by rw [if_pos hX0, ht]; exact hP, by rw [if_pos hX0]; exact hD⟩, hS.F ht⟩) hS.2.2 dL_calls_30
set_option maxHeartbeats 4000000 in
set_option maxRecDepth 100000 in
theorem c_L_sets (l : Launch) (hlt : l.stackTraces = false) (G : va_G) (y : Nat → ClassId) (r : Nat → Nat) (w : MS) (a : Nat → Nat) (b : MS) (n : Nat) (la : Nat → Nat → Nat) (L : LNS) (sz : Nat) (z : Int32) (t : Nat) (pd bo mo : Nat → Nat) (h : PR b w n L t pd bo mo) : Met l yL_sets wsL_sets ({ frames := 7, cells := 1, slots := 6, locals := 105 }) (xP G y [.ref (a 13), .int z, .ref (r 0)] (lwA y r w ++ bkW y a b n la L) sz) (mQ G (fun _ : UT => some (.int 1)) (fun u => uR u) (fun u => uW y r a u) (va_A (lwA y r w ++ bkW y a b n la L) sz)) 1 6 (va_A (lwA y r w ++ bkW y a b n la L) sz) := by
  refine Met.ofW (cc := cL_sets) (maxL := 5) (ret := (some .boolean)) (by decide) rfl ?_
  intro p e s m args below meth c s₁ B hml hv
  obtain ⟨rfl, hsz, hP, hK, hD0, hZ⟩ := hv
  have hx := B.exec
  have hb := B.bytes
  have hr := B.returns
  have hts := atoms_spec (ws := wsL_sets) B.pre
  have hown : s.vm.findClass RL = some m.cls := findClass_of_methodNamed B.named
  have hlocks := B.notSynchronized
  subst hsz
  have hD := hD0.self (sz := s.heap.size)
  generalize hAe : va_A (lwA y r w ++ bkW y a b n la L) s.heap.size = A at hD hZ ⊢
  have hA : ∀ q : Nat, s.heap.size ≤ q → A q := fun q h => by rw [← hAe]; exact Or.inr h
  have hS : va_S A s.heap s.heap [] := va_S.rf
  have hP : va_P G vwCl (lwA y r w ++ bkW y a b n la L) s.heap := hP
  have hl := lv_entry ([.ref (a 13), .int z, .ref (r 0)]) (n := 5) (Nat.le_of_ble_eq_true rfl)
  rw [lg_entry_eq]
  generalize (lg_sl ([.ref (a 13), .int z, .ref (r 0)]) ++ List.replicate (5 - (lg_sl ([.ref (a 13), .int z, .ref (r 0)])).length) Slot.unset).toArray = ls at hl ⊢
  have hl : lv_has ls 5 [(0, .ref (a 13)), (1, .int z), (2, .ref (r 0))] := hl
  refine lv_iload_n hx hb dL_sets_0 rfl (lv_at hl 1 rfl) ?_
  refine lv_iconst (v := 3) hx hb dL_sets_1 (by decide) ?_
  refine caR (r := .int (nI (lo z 3))) (va_runS (As := [.int z, .int 3]) (rest := []) ⟨hx, hb, hml, hown, hts⟩ (c_L_low l z 3 (by decide) (by decide)) (va_cwS 2 hts gL_sets_L_low rfl rfl rfl (by decide +kernel) ⟨Nat.le_of_ble_eq_true rfl, Nat.le_of_ble_eq_true rfl⟩) ⟨nP_bl, fun _ _ _ => ⟨rfl, trivial⟩⟩ rfl rfl hl.1 rfl (lv_room (Nat.le_of_ble_eq_true rfl)) dL_sets_2 ⟨Nat.le_of_ble_eq_true rfl, Nat.le_of_ble_eq_true rfl⟩) ?_
  have h_q := lo_lt (v := z) (M := 3) (by decide)
  generalize lo z 3 = q at h_q ⊢
  refine lv_if_ne (tgt := 59) hx hb dL_sets_5 (by decide) (fun c_5 => ?_) (fun c_5 => ?_)
  · refine lv_iload_n hx hb dL_sets_59 rfl (lv_at hl 1 rfl) ?_
    refine lv_iconst (v := 2) hx hb dL_sets_60 (by decide) ?_
    refine lv_ishr hx hb dL_sets_61 ?_
    refine lv_bipush (v := 6) hx hb dL_sets_62 (by decide) ?_
    refine caR (r := .int (nI (lo (z >>> (2 &&& 31)) 6))) (va_runS (As := [.int (z >>> (2 &&& 31)), .int 6]) (rest := []) ⟨hx, hb, hml, hown, hts⟩ (c_L_low l (z >>> (2 &&& 31)) 6 (by decide) (by decide)) (va_cwS 2 hts gL_sets_L_low rfl rfl rfl (by decide +kernel) ⟨Nat.le_of_ble_eq_true rfl, Nat.le_of_ble_eq_true rfl⟩) ⟨nP_bl, fun _ _ _ => ⟨rfl, trivial⟩⟩ rfl rfl hl.1 rfl (lv_room (Nat.le_of_ble_eq_true rfl)) dL_sets_64 ⟨Nat.le_of_ble_eq_true rfl, Nat.le_of_ble_eq_true rfl⟩) ?_
    have h_i := lo_lt (v := (z >>> (2 &&& 31))) (M := 6) (by decide)
    generalize lo (z >>> (2 &&& 31)) 6 = i at h_i ⊢
    refine lv_istore_n (lv' := [(3, .int (nI i)), (0, .ref (a 13)), (1, .int z), (2, .ref (r 0))]) hx hb dL_sets_67 rfl hl (by decide) rfl (fun ls hl => ?_)
    refine lv_aload_n hx hb dL_sets_68 rfl (lv_at hl 3 rfl) ?_
    refine lv_bipush (v := 8) hx hb dL_sets_69 (by decide) ?_
    refine lv_iload_n hx hb dL_sets_71 rfl (lv_at hl 0 rfl) ?_
    refine lv_iadd hx hb dL_sets_72 ?_
    refine lv_topE (z := nI (8 + i)) (nI_add 8 i) ?_
    refine ldI (f := w 0) hx hb hK hP 0 ag_0 (8 + i) rfl (by omega) (by decide) dL_sets_73 ?_
    refine lv_istore (lv' := [(4, .int (w 0 (8 + i))), (3, .int (nI i)), (0, .ref (a 13)), (1, .int z), (2, .ref (r 0))]) hx hb dL_sets_74 hl (by decide) rfl (fun ls hl => ?_)
    refine lv_aload_n hx hb dL_sets_76 rfl (lv_at hl 4 rfl) ?_
    refine lv_bipush (v := 8) hx hb dL_sets_77 (by decide) ?_
    refine lv_iload_n hx hb dL_sets_79 rfl (lv_at hl 1 rfl) ?_
    refine lv_iadd hx hb dL_sets_80 ?_
    refine lv_topE (z := nI (8 + i)) (nI_add 8 i) ?_
    refine lv_iload_n hx hb dL_sets_81 rfl (lv_at hl 3 rfl) ?_
    refine lv_iconst (v := 4) hx hb dL_sets_82 (by decide) ?_
    refine lv_ishr hx hb dL_sets_83 ?_
    refine lv_sipush (v := 5001) hx hb dL_sets_84 (by decide) ?_
    refine caR (r := .int (nI (lo (z >>> (4 &&& 31)) 5001))) (va_runS (As := [.int (z >>> (4 &&& 31)), .int 5001]) (rest := [.int (nI (8 + i)), .ref (r 0)]) ⟨hx, hb, hml, hown, hts⟩ (c_L_low l (z >>> (4 &&& 31)) 5001 (by decide) (by decide)) (va_cwS 2 hts gL_sets_L_low rfl rfl rfl (by decide +kernel) ⟨Nat.le_of_ble_eq_true rfl, Nat.le_of_ble_eq_true rfl⟩) ⟨nP_bl, fun _ _ _ => ⟨rfl, trivial⟩⟩ rfl rfl hl.1 rfl (lv_room (Nat.le_of_ble_eq_true rfl)) dL_sets_87 ⟨Nat.le_of_ble_eq_true rfl, Nat.le_of_ble_eq_true rfl⟩) ?_
    have h_rt := lo_lt (v := (z >>> (4 &&& 31))) (M := 5001) (by decide)
    generalize lo (z >>> (4 &&& 31)) 5001 = rt at h_rt ⊢
    refine stI (f := w 0) (ws1 := lwA y r (u2 w 0 (8 + i) (nI rt)) ++ bkW y a b n la L) hx hb hK hP hD hS 0 ag_0 (8 + i) rfl (by omega) (by decide) as_0 dL_sets_90 (fun H locs hP hD hS => ?_)
    refine lv_aload_n hx hb dL_sets_91 rfl (lv_at hl 2 rfl) ?_
    refine lv_iload_n hx hb dL_sets_92 rfl (lv_at hl 1 rfl) ?_
    refine lv_iconst (v := 1) hx hb dL_sets_93 (by decide) ?_
    refine lv_iadd hx hb dL_sets_94 ?_
    refine lv_topE (z := nI (i + 1)) (nI_add i 1) ?_
    refine lv_aload_n hx hb dL_sets_95 rfl (lv_at hl 4 rfl) ?_
    refine lv_bipush (v := 8) hx hb dL_sets_96 (by decide) ?_
    refine lv_iload_n hx hb dL_sets_98 rfl (lv_at hl 1 rfl) ?_
    refine lv_iadd hx hb dL_sets_99 ?_
    refine lv_topE (z := nI (8 + i)) (nI_add 8 i) ?_
    refine ldI (f := (u2 w 0 (8 + i) (nI rt)) 0) hx hb hK hP 0 ag_0 (8 + i) rfl (by omega) (by decide) dL_sets_100 ?_
    refine lv_topE (z := nI rt) (u2_s) ?_
    have hPj := hP
    have hDj := hD
    have hFc : ∀ q, va_A (bkW y a b n la L) H.size q → A q := freeR hDj hS hA
    have hPc : va_P G vwCl (bkW y a b n la L) H := wR hPj
    have hDc : va_D (fun _ => True) (bkW y a b n la L) := (wRD hDj).weaken (fun _ _ _ _ => trivial)
    refine caXN (vx_runV (As := [.int (nI (i + 1)), .int (nI rt)]) (rest := []) ⟨hx, hb, hml, hown, hts⟩ (c_X2_setCurve l hlt G y a b n la L H.size (nI (i + 1)) (nI rt)) (cwV 2 hts gL_sets_X2_setCurve rfl rfl rfl (by decide +kernel) ⟨Nat.le_of_ble_eq_true rfl, Nat.le_of_ble_eq_true rfl⟩) ⟨xP_bl, va_recv hK.1 hPc (ci := 2) (q0 := 0) rfl rfl, fun U hU hW => ⟨rfl, by rw [hU], by rw [hU]; exact hPc, Kb.moved hW hK, hDc, by rw [hU]; exact Zs.moved hW.alike ((hZ.kept hS.2.1).narrow hFc)⟩⟩ rfl rfl hl.1 rfl (lv_room (Nat.le_of_ble_eq_true rfl)) dL_sets_101 ⟨Nat.le_of_ble_eq_true rfl, Nat.le_of_ble_eq_true rfl⟩) hS hFc hFc (fun E ce q9 H locs hE _ _ _ _ _ _ _ => absurd (xSC0 h_i h_rt) hE.2) (fun _ H locs _ hP1 hD1 hk1 hS => ?_)
    obtain ⟨hP, hD⟩ := joinW hPj hDj hk1 hP1 hD1 hFc
    refine lv_iload hx hb dL_sets_104 (lv_at hl 0 rfl) ?_
    refine lv_icmp_ne (tgt := 113) hx hb dL_sets_106 (by decide) (fun c_106 => absurd (cu_at h h_i) c_106) (fun c_106 => ?_)
    refine lv_iconst (v := 1) hx hb dL_sets_109 (by decide) ?_
    refine lv_goto (tgt := 114) hx hb dL_sets_110 (by decide) ?_
    exact W.zret (v := 1) hx hb hr rfl (fun t9 ht9 hW => ⟨⟨(u2 w 0 (8 + i) (nI rt), u2 b 0 (cn (nI (i + 1)) - 1) (nI rt), n, la, L), rfl, ⟨t, pd, bo, mo, s_curve h h_i⟩, by rw [ht9]; exact hP, hD⟩, hS.F ht9⟩) hS.2.2 dL_sets_114
  · refine lv_aload_n hx hb dL_sets_8 rfl (lv_at hl 2 rfl) ?_
    refine lv_iconst (v := 2) hx hb dL_sets_9 (by decide) ?_
    refine lv_iload_n hx hb dL_sets_10 rfl (lv_at hl 1 rfl) ?_
    refine lv_iconst (v := 2) hx hb dL_sets_11 (by decide) ?_
    refine lv_ishr hx hb dL_sets_12 ?_
    refine lv_sipush (v := 5001) hx hb dL_sets_13 (by decide) ?_
    refine caR (r := .int (nI (lo (z >>> (2 &&& 31)) 5001))) (va_runS (As := [.int (z >>> (2 &&& 31)), .int 5001]) (rest := [.int 2, .ref (r 0)]) ⟨hx, hb, hml, hown, hts⟩ (c_L_low l (z >>> (2 &&& 31)) 5001 (by decide) (by decide)) (va_cwS 2 hts gL_sets_L_low rfl rfl rfl (by decide +kernel) ⟨Nat.le_of_ble_eq_true rfl, Nat.le_of_ble_eq_true rfl⟩) ⟨nP_bl, fun _ _ _ => ⟨rfl, trivial⟩⟩ rfl rfl hl.1 rfl (lv_room (Nat.le_of_ble_eq_true rfl)) dL_sets_16 ⟨Nat.le_of_ble_eq_true rfl, Nat.le_of_ble_eq_true rfl⟩) ?_
    have h_d := lo_lt (v := (z >>> (2 &&& 31))) (M := 5001) (by decide)
    generalize lo (z >>> (2 &&& 31)) 5001 = d at h_d ⊢
    refine stI (f := w 0) (ws1 := lwA y r (u2 w 0 2 (nI d)) ++ bkW y a b n la L) hx hb hK hP hD hS 0 ag_0 2 rfl (by decide) (by decide) as_0 dL_sets_19 (fun H locs hP hD hS => ?_)
    refine lv_aload_n hx hb dL_sets_20 rfl (lv_at hl 2 rfl) ?_
    refine lv_iconst (v := 3) hx hb dL_sets_21 (by decide) ?_
    refine lv_iload_n hx hb dL_sets_22 rfl (lv_at hl 1 rfl) ?_
    refine lv_iconst (v := 4) hx hb dL_sets_23 (by decide) ?_
    refine lv_ishr hx hb dL_sets_24 ?_
    refine lv_sipush (v := 5001) hx hb dL_sets_25 (by decide) ?_
    refine caR (r := .int (nI (lo (z >>> (4 &&& 31)) 5001))) (va_runS (As := [.int (z >>> (4 &&& 31)), .int 5001]) (rest := [.int 3, .ref (r 0)]) ⟨hx, hb, hml, hown, hts⟩ (c_L_low l (z >>> (4 &&& 31)) 5001 (by decide) (by decide)) (va_cwS 2 hts gL_sets_L_low rfl rfl rfl (by decide +kernel) ⟨Nat.le_of_ble_eq_true rfl, Nat.le_of_ble_eq_true rfl⟩) ⟨nP_bl, fun _ _ _ => ⟨rfl, trivial⟩⟩ rfl rfl hl.1 rfl (lv_room (Nat.le_of_ble_eq_true rfl)) dL_sets_28 ⟨Nat.le_of_ble_eq_true rfl, Nat.le_of_ble_eq_true rfl⟩) ?_
    have h_o := lo_lt (v := (z >>> (4 &&& 31))) (M := 5001) (by decide)
    generalize lo (z >>> (4 &&& 31)) 5001 = o at h_o ⊢
    refine stI (f := (u2 w 0 2 (nI d)) 0) (ws1 := lwA y r (u2 (u2 w 0 2 (nI d)) 0 3 (nI o)) ++ bkW y a b n la L) hx hb hK hP hD hS 0 ag_0 3 rfl (by decide) (by decide) as_0 dL_sets_31 (fun H locs hP hD hS => ?_)
    refine lv_aload_n hx hb dL_sets_32 rfl (lv_at hl 2 rfl) ?_
    refine lv_iconst (v := 4) hx hb dL_sets_33 (by decide) ?_
    refine lv_iload_n hx hb dL_sets_34 rfl (lv_at hl 1 rfl) ?_
    refine lv_bipush (v := 6) hx hb dL_sets_35 (by decide) ?_
    refine lv_ishr hx hb dL_sets_37 ?_
    refine lv_bipush (v := 101) hx hb dL_sets_38 (by decide) ?_
    refine caR (r := .int (nI (lo (z >>> (6 &&& 31)) 101))) (va_runS (As := [.int (z >>> (6 &&& 31)), .int 101]) (rest := [.int 4, .ref (r 0)]) ⟨hx, hb, hml, hown, hts⟩ (c_L_low l (z >>> (6 &&& 31)) 101 (by decide) (by decide)) (va_cwS 2 hts gL_sets_L_low rfl rfl rfl (by decide +kernel) ⟨Nat.le_of_ble_eq_true rfl, Nat.le_of_ble_eq_true rfl⟩) ⟨nP_bl, fun _ _ _ => ⟨rfl, trivial⟩⟩ rfl rfl hl.1 rfl (lv_room (Nat.le_of_ble_eq_true rfl)) dL_sets_40 ⟨Nat.le_of_ble_eq_true rfl, Nat.le_of_ble_eq_true rfl⟩) ?_
    have h_cr := lo_lt (v := (z >>> (6 &&& 31))) (M := 101) (by decide)
    generalize lo (z >>> (6 &&& 31)) 101 = cr at h_cr ⊢
    refine stI (f := (u2 (u2 w 0 2 (nI d)) 0 3 (nI o)) 0) (ws1 := lwA y r (u2 (u2 (u2 w 0 2 (nI d)) 0 3 (nI o)) 0 4 (nI cr)) ++ bkW y a b n la L) hx hb hK hP hD hS 0 ag_0 4 rfl (by decide) (by decide) as_0 dL_sets_43 (fun H locs hP hD hS => ?_)
    refine lv_aload_n hx hb dL_sets_44 rfl (lv_at hl 0 rfl) ?_
    refine lv_aload_n hx hb dL_sets_45 rfl (lv_at hl 2 rfl) ?_
    refine lv_iconst (v := 2) hx hb dL_sets_46 (by decide) ?_
    refine ldI (f := (u2 (u2 (u2 w 0 2 (nI d)) 0 3 (nI o)) 0 4 (nI cr)) 0) hx hb hK hP 0 ag_0 2 rfl (by decide) (by decide) dL_sets_47 ?_
    refine lv_topE (z := nI d) ((u2_k (by decide)).trans ((u2_k (by decide)).trans u2_s)) ?_
    refine lv_aload_n hx hb dL_sets_48 rfl (lv_at hl 2 rfl) ?_
    refine lv_iconst (v := 3) hx hb dL_sets_49 (by decide) ?_
    refine ldI (f := (u2 (u2 (u2 w 0 2 (nI d)) 0 3 (nI o)) 0 4 (nI cr)) 0) hx hb hK hP 0 ag_0 3 rfl (by decide) (by decide) dL_sets_50 ?_
    refine lv_topE (z := nI o) ((u2_k (by decide)).trans u2_s) ?_
    refine lv_aload_n hx hb dL_sets_51 rfl (lv_at hl 2 rfl) ?_
    refine lv_iconst (v := 4) hx hb dL_sets_52 (by decide) ?_
    refine ldI (f := (u2 (u2 (u2 w 0 2 (nI d)) 0 3 (nI o)) 0 4 (nI cr)) 0) hx hb hK hP 0 ag_0 4 rfl (by decide) (by decide) dL_sets_53 ?_
    refine lv_topE (z := nI cr) (u2_s) ?_
    have hPj := hP
    have hDj := hD
    have hFc : ∀ q, va_A (bkW y a b n la L) H.size q → A q := freeR hDj hS hA
    have hPc : va_P G vwCl (bkW y a b n la L) H := wR hPj
    have hDc : va_D (fun _ => True) (bkW y a b n la L) := (wRD hDj).weaken (fun _ _ _ _ => trivial)
    refine caXN (vx_runV (As := [.int (nI d), .int (nI o), .int (nI cr)]) (rest := []) ⟨hx, hb, hml, hown, hts⟩ (c_X2_setRates l hlt G y a b n la L H.size (nI d) (nI o) (nI cr)) (cwV 3 hts gL_sets_X2_setRates rfl rfl rfl (by decide +kernel) ⟨Nat.le_of_ble_eq_true rfl, Nat.le_of_ble_eq_true rfl⟩) ⟨xP_bl, va_recv hK.1 hPc (ci := 2) (q0 := 0) rfl rfl, fun U hU hW => ⟨rfl, by rw [hU], by rw [hU]; exact hPc, Kb.moved hW hK, hDc, by rw [hU]; exact Zs.moved hW.alike ((hZ.kept hS.2.1).narrow hFc)⟩⟩ rfl rfl hl.1 rfl (lv_room (Nat.le_of_ble_eq_true rfl)) dL_sets_54 ⟨Nat.le_of_ble_eq_true rfl, Nat.le_of_ble_eq_true rfl⟩) hS hFc hFc (fun E ce q9 H locs hE _ _ _ _ _ _ _ => absurd (xSR0 h_d h_o h_cr) hE.2) (fun _ H locs _ hP1 hD1 hk1 hS => ?_)
    obtain ⟨hP, hD⟩ := joinW hPj hDj hk1 hP1 hD1 hFc
    refine lv_iconst (v := 1) hx hb dL_sets_57 (by decide) ?_
    exact W.zret (v := 1) hx hb hr rfl (fun t9 ht9 hW => ⟨⟨(u2 (u2 (u2 w 0 2 (nI d)) 0 3 (nI o)) 0 4 (nI cr), bSetRates b (nI d) (nI o) (nI cr), n, la, L), rfl, ⟨t, pd, bo, mo, s_rates h h_d h_o h_cr⟩, by rw [ht9]; exact hP, hD⟩, hS.F ht9⟩) hS.2.2 dL_sets_58
set_option maxHeartbeats 4000000 in
set_option maxRecDepth 100000 in
theorem c_L_deposits (l : Launch) (hlt : l.stackTraces = false) (G : va_G) (y : Nat → ClassId) (r : Nat → Nat) (w : MS) (a : Nat → Nat) (b : MS) (n : Nat) (la : Nat → Nat → Nat) (L : LNS) (sz : Nat) (z : Int32) (t : Nat) (pd bo mo : Nat → Nat) (h : PR b w n L t pd bo mo) : Met l yL_deposits wsL_deposits ({ frames := 8, cells := 1, slots := 6, locals := 129 }) (xP G y [.ref (a 13), .int z, .ref (r 3), .ref (r 0)] (lwA y r w ++ bkW y a b n la L) sz) (mQ G (fun _ : UT => some (.int 1)) (fun u => uR u) (fun u => uW y r a u) (va_A (lwA y r w ++ bkW y a b n la L) sz)) 1 6 (va_A (lwA y r w ++ bkW y a b n la L) sz) := by
  refine Met.ofW (cc := cL_deposits) (maxL := 8) (ret := (some .boolean)) (by decide) rfl ?_
  intro p e s m args below meth c s₁ B hml hv
  obtain ⟨rfl, hsz, hP, hK, hD0, hZ⟩ := hv
  have hx := B.exec
  have hb := B.bytes
  have hr := B.returns
  have hts := atoms_spec (ws := wsL_deposits) B.pre
  have hown : s.vm.findClass RL = some m.cls := findClass_of_methodNamed B.named
  have hlocks := B.notSynchronized
  subst hsz
  have hD := hD0.self (sz := s.heap.size)
  generalize hAe : va_A (lwA y r w ++ bkW y a b n la L) s.heap.size = A at hD hZ ⊢
  have hA : ∀ q : Nat, s.heap.size ≤ q → A q := fun q h => by rw [← hAe]; exact Or.inr h
  have hS : va_S A s.heap s.heap [] := va_S.rf
  have hP : va_P G vwCl (lwA y r w ++ bkW y a b n la L) s.heap := hP
  have hl := lv_entry ([.ref (a 13), .int z, .ref (r 3), .ref (r 0)]) (n := 8) (Nat.le_of_ble_eq_true rfl)
  rw [lg_entry_eq]
  generalize (lg_sl ([.ref (a 13), .int z, .ref (r 3), .ref (r 0)]) ++ List.replicate (8 - (lg_sl ([.ref (a 13), .int z, .ref (r 3), .ref (r 0)])).length) Slot.unset).toArray = ls at hl ⊢
  have hl : lv_has ls 8 [(0, .ref (a 13)), (1, .int z), (2, .ref (r 3)), (3, .ref (r 0))] := hl
  have hn8 : n ≤ 8 := h.1.1
  have hn24 : n ≤ 24 := by omega
  have ht47 : t ≤ 47 := h.1.2.1
  have hbn : b 13 6 = nI n := h.1.2.2.1
  have hw1 : w 0 1 = nI n := h.1.2.2.2.1
  have hbt : b 13 4 = nI t := h.1.2.2.2.2.1
  have hw0 : w 0 0 = nI t := h.1.2.2.2.2.2.1
  have hT := h.1.2.2.2.2.2.2.2.2.2.2.2.2.2
  have h7 := h.1.2.2.2.2.2.2.2.2.2.2.2.2.1
  have hM := h.2.1
  have hpd : ∀ k, k < n → L k 0 7 = nI (pd k) ∧ pd k ≤ 6 := fun k hk => (h.2.2 k hk).2.2.2.2.2.1
  have hmo : ∀ k, k < n → ¬ w 1 ((8 * k) + 4) = 0 := fun k hk q => by
    have h4 := (h.2.2 k hk).2.2.2.2.2.2.2.1
    rw [h4.1] at q
    exact nI_ne0 (by omega) (by omega) q
  have hbo : ∀ k, k < n → w 1 ((8 * k) + 5) = nI (bo k) ∧ bo k ≤ t := fun k hk => (h.2.2 k hk).2.2.2.2.2.2.1
  refine lv_iload_n hx hb dL_deposits_0 rfl (lv_at hl 1 rfl) ?_
  refine lv_iconst (v := 3) hx hb dL_deposits_1 (by decide) ?_
  refine caR (r := .int (nI (lo z 3))) (va_runS (As := [.int z, .int 3]) (rest := []) ⟨hx, hb, hml, hown, hts⟩ (c_L_low l z 3 (by decide) (by decide)) (va_cwS 2 hts gL_deposits_L_low rfl rfl rfl (by decide +kernel) ⟨Nat.le_of_ble_eq_true rfl, Nat.le_of_ble_eq_true rfl⟩) ⟨nP_bl, fun _ _ _ => ⟨rfl, trivial⟩⟩ rfl rfl hl.1 rfl (lv_room (Nat.le_of_ble_eq_true rfl)) dL_deposits_2 ⟨Nat.le_of_ble_eq_true rfl, Nat.le_of_ble_eq_true rfl⟩) ?_
  have h_i := lo_lt (v := z) (M := 3) (by decide)
  generalize lo z 3 = i at h_i ⊢
  refine lv_istore (lv' := [(4, .int (nI i)), (0, .ref (a 13)), (1, .int z), (2, .ref (r 3)), (3, .ref (r 0))]) hx hb dL_deposits_5 hl (by decide) rfl (fun ls hl => ?_)
  refine lv_iload_n hx hb dL_deposits_7 rfl (lv_at hl 2 rfl) ?_
  refine lv_bipush (v := 12) hx hb dL_deposits_8 (by decide) ?_
  refine lv_ishr hx hb dL_deposits_10 ?_
  refine lv_iconst (v := 4) hx hb dL_deposits_11 (by decide) ?_
  refine caR (r := .int (nI (lo (z >>> (12 &&& 31)) 4))) (va_runS (As := [.int (z >>> (12 &&& 31)), .int 4]) (rest := []) ⟨hx, hb, hml, hown, hts⟩ (c_L_low l (z >>> (12 &&& 31)) 4 (by decide) (by decide)) (va_cwS 2 hts gL_deposits_L_low rfl rfl rfl (by decide +kernel) ⟨Nat.le_of_ble_eq_true rfl, Nat.le_of_ble_eq_true rfl⟩) ⟨nP_bl, fun _ _ _ => ⟨rfl, trivial⟩⟩ rfl rfl hl.1 rfl (lv_room (Nat.le_of_ble_eq_true rfl)) dL_deposits_12 ⟨Nat.le_of_ble_eq_true rfl, Nat.le_of_ble_eq_true rfl⟩) ?_
  have h_q := lo_lt (v := (z >>> (12 &&& 31))) (M := 4) (by decide)
  generalize lo (z >>> (12 &&& 31)) 4 = q at h_q ⊢
  refine W.pick (tgt := 51) (st := fun ch : Int32 => [.int ch]) (P := fun ch => -10000000 ≤ ch.toInt ∧ ch.toInt ≤ 10000000) (fun ch hch => ?_) (fun key => ?_)
  · refine lv_istore (lv' := [(5, .int ch), (4, .int (nI i)), (0, .ref (a 13)), (1, .int z), (2, .ref (r 3)), (3, .ref (r 0))]) hx hb dL_deposits_51 hl (by decide) rfl (fun ls hl => ?_)
    refine lv_aload_n hx hb dL_deposits_53 rfl (lv_at hl 5 rfl) ?_
    refine lv_iconst (v := 5) hx hb dL_deposits_54 (by decide) ?_
    refine lv_iload hx hb dL_deposits_55 (lv_at hl 1 rfl) ?_
    refine lv_iadd hx hb dL_deposits_57 ?_
    refine lv_topE (z := nI (5 + i)) (nI_add 5 i) ?_
    refine ldI (f := w 0) hx hb hK hP 0 ag_0 (5 + i) rfl (by omega) (by decide) dL_deposits_58 ?_
    refine lv_iload hx hb dL_deposits_59 (lv_at hl 0 rfl) ?_
    refine lv_iadd hx hb dL_deposits_61 ?_
    refine lv_if_lt (tgt := 79) hx hb dL_deposits_62 (by decide) (fun c_62 => ?_) (fun c_62 => ?_)
    · have hX3 : (xDep b (nI i) ch) = 3 := xDp3 h h_i hch (Or.inl c_62)
      refine lv_bipush (v := (-3)) hx hb dL_deposits_79 (by decide) ?_
      refine lv_goto (tgt := 93) hx hb dL_deposits_81 (by decide) ?_
      refine lv_istore (lv' := [(6, .int (-3)), (5, .int ch), (4, .int (nI i)), (0, .ref (a 13)), (1, .int z), (2, .ref (r 3)), (3, .ref (r 0))]) hx hb dL_deposits_93 hl (by decide) rfl (fun ls hl => ?_)
      refine lv_iload hx hb dL_deposits_95 (lv_at hl 0 rfl) ?_
      refine lv_if_lt (tgt := 142) hx hb dL_deposits_97 (by decide) (fun c_97 => ?_) (fun c_97 => absurd (by decide) c_97)
      refine lv_aload_n hx hb dL_deposits_142 rfl (lv_at hl 3 rfl) ?_
      refine lv_iconst (v := 1) hx hb dL_deposits_143 (by decide) ?_
      refine lv_iload hx hb dL_deposits_144 (lv_at hl 2 rfl) ?_
      refine lv_iload hx hb dL_deposits_146 (lv_at hl 1 rfl) ?_
      have hPj := hP
      have hDj := hD
      have hFc : ∀ q, va_A (bkW y a b n la L) s.heap.size q → A q := freeR hDj hS hA
      have hPc : va_P G vwCl (bkW y a b n la L) s.heap := wR hPj
      have hDc : va_D (fun _ => True) (bkW y a b n la L) := (wRD hDj).weaken (fun _ _ _ _ => trivial)
      refine caN (vx_runSW (As := [.ref (a 13), .int 1, .int (nI i), .int ch]) (rest := []) ⟨hx, hb, hml, hown, hts⟩ (c_L_calls1 l hlt G y a b n la L s.heap.size (nI i) ch (Or.inr hX3)) (vx_cwSW 4 hts gL_deposits_L_calls rfl rfl rfl (by decide +kernel) ⟨Nat.le_of_ble_eq_true rfl, Nat.le_of_ble_eq_true rfl⟩) ⟨xP_bl, fun U hU hW => ⟨rfl, by rw [hU], by rw [hU]; exact hPc, Kb.moved hW hK, hDc, by rw [hU]; exact Zs.moved hW.alike ((hZ.kept hS.2.1).narrow hFc)⟩⟩ rfl rfl hl.1 rfl (lv_room (Nat.le_of_ble_eq_true rfl)) dL_deposits_148 ⟨Nat.le_of_ble_eq_true rfl, Nat.le_of_ble_eq_true rfl⟩) hS hFc hFc (fun _ H locs _ hP1 hD1 hk1 hS => ?_)
      obtain ⟨hP, hD⟩ := joinW hPj hDj hk1 hP1 hD1 hFc
      rw [if_neg (by rw [hX3]; decide)] at hP hD
      refine lv_topE (z := (-3)) (by rw [hX3]; rfl) ?_
      refine lv_iload hx hb dL_deposits_151 (lv_at hl 0 rfl) ?_
      refine lv_icmp_ne (tgt := 160) hx hb dL_deposits_153 (by decide) (fun c_153 => absurd rfl c_153) (fun c_153 => ?_)
      refine lv_iconst (v := 1) hx hb dL_deposits_156 (by decide) ?_
      refine lv_goto (tgt := 161) hx hb dL_deposits_157 (by decide) ?_
      exact W.zret (v := 1) hx hb hr rfl (fun t9 ht9 hW => ⟨⟨(w, b, n, la, L), rfl, ⟨t, pd, bo, mo, h⟩, by rw [ht9]; exact hP, hD⟩, hS.F ht9⟩) hS.2.2 dL_deposits_161
    · refine lv_aload_n hx hb dL_deposits_65 rfl (lv_at hl 5 rfl) ?_
      refine lv_iconst (v := 5) hx hb dL_deposits_66 (by decide) ?_
      refine lv_iload hx hb dL_deposits_67 (lv_at hl 1 rfl) ?_
      refine lv_iadd hx hb dL_deposits_69 ?_
      refine lv_topE (z := nI (5 + i)) (nI_add 5 i) ?_
      refine ldI (f := w 0) hx hb hK hP 0 ag_0 (5 + i) rfl (by omega) (by decide) dL_deposits_70 ?_
      refine lv_iload hx hb dL_deposits_71 (lv_at hl 0 rfl) ?_
      refine lv_iadd hx hb dL_deposits_73 ?_
      refine lv_ldc (v := 10000000) hx hb hown (hts (.constant RL 92 10000000) (by decide +kernel)) dL_deposits_74 ?_
      refine lv_icmp_le (tgt := 84) hx hb dL_deposits_76 (by decide) (fun c_76 => ?_) (fun c_76 => ?_)
      · have hX0 : (xDep b (nI i) ch) = 0 := xDp0 h h_i hch c_62 c_76
        refine lv_aload_n hx hb dL_deposits_84 rfl (lv_at hl 5 rfl) ?_
        refine lv_iconst (v := 5) hx hb dL_deposits_85 (by decide) ?_
        refine lv_iload hx hb dL_deposits_86 (lv_at hl 1 rfl) ?_
        refine lv_iadd hx hb dL_deposits_88 ?_
        refine lv_topE (z := nI (5 + i)) (nI_add 5 i) ?_
        refine ldI (f := w 0) hx hb hK hP 0 ag_0 (5 + i) rfl (by omega) (by decide) dL_deposits_89 ?_
        refine lv_iload hx hb dL_deposits_90 (lv_at hl 0 rfl) ?_
        refine lv_iadd hx hb dL_deposits_92 ?_
        refine lv_istore (lv' := [(6, .int (w 0 (5 + i) + ch)), (5, .int ch), (4, .int (nI i)), (0, .ref (a 13)), (1, .int z), (2, .ref (r 3)), (3, .ref (r 0))]) hx hb dL_deposits_93 hl (by decide) rfl (fun ls hl => ?_)
        refine lv_iload hx hb dL_deposits_95 (lv_at hl 0 rfl) ?_
        refine lv_if_lt (tgt := 142) hx hb dL_deposits_97 (by decide) (fun c_97 => absurd c_97 c_62) (fun c_97 => ?_)
        refine lv_aload_n hx hb dL_deposits_100 rfl (lv_at hl 6 rfl) ?_
        refine lv_iconst (v := 5) hx hb dL_deposits_101 (by decide) ?_
        refine lv_iload hx hb dL_deposits_102 (lv_at hl 2 rfl) ?_
        refine lv_iadd hx hb dL_deposits_104 ?_
        refine lv_topE (z := nI (5 + i)) (nI_add 5 i) ?_
        refine lv_iload hx hb dL_deposits_105 (lv_at hl 0 rfl) ?_
        refine stI (f := w 0) (ws1 := lwA y r (u2 w 0 (5 + i) (w 0 (5 + i) + ch)) ++ bkW y a b n la L) hx hb hK hP hD hS 0 ag_0 (5 + i) rfl (by omega) (by decide) as_0 dL_deposits_107 (fun H locs hP hD hS => ?_)
        refine lv_iconst (v := 0) hx hb dL_deposits_108 (by decide) ?_
        refine lv_istore (lv' := [(7, .int 0), (6, .int (w 0 (5 + i) + ch)), (5, .int ch), (4, .int (nI i)), (0, .ref (a 13)), (1, .int z), (2, .ref (r 3)), (3, .ref (r 0))]) hx hb dL_deposits_109 hl (by decide) rfl (fun ls hl => ?_)
        by_cases hc : t = 0 ∧ ¬ ch = 0
        · refine loopM (LV := fun k => [(0, .ref (a 13)), (1, .int z), (2, .ref (r 3)), (3, .ref (r 0)), (4, .int (nI i)), (5, .int ch), (6, .int (w 0 (5 + i) + ch)), (7, .int (nI k))]) (WS := fun k => lwA y r (gLA (u2 w 0 (5 + i) (w 0 (5 + i) + ch)) k) ++ bkW y a b n la L) 6 hP hD hS (lv_sub hl [4, 5, 6, 7, 3, 2, 1, 0] rfl) (fun k H locs ls hk_k hP hD hS hl ih_k => ?_) (fun H locs ls hP hD hS hl => ?_)
          · have hl : lv_has ls 8 [(0, .ref (a 13)), (1, .int z), (2, .ref (r 3)), (3, .ref (r 0)), (4, .int (nI i)), (5, .int ch), (6, .int (w 0 (5 + i) + ch)), (7, .int (nI k))] := hl
            have hP : va_P G vwCl (lwA y r (gLA (u2 w 0 (5 + i) (w 0 (5 + i) + ch)) k) ++ bkW y a b n la L) H := hP
            have hD : va_D A (lwA y r (gLA (u2 w 0 (5 + i) (w 0 (5 + i) + ch)) k) ++ bkW y a b n la L) := hD
            refine lv_iload hx hb dL_deposits_111 (lv_at hl 7 rfl) ?_
            refine lv_bipush (v := 6) hx hb dL_deposits_113 (by decide) ?_
            refine lv_icmp_ge (tgt := 142) hx hb dL_deposits_115 (by decide) (fun c_115 => absurd c_115 (nI_ge hk_k (by decide))) (fun c_115 => ?_)
            refine lv_aload_n hx hb dL_deposits_118 rfl (lv_at hl 3 rfl) ?_
            refine lv_iconst (v := 0) hx hb dL_deposits_119 (by decide) ?_
            refine ldI (f := (gLA (u2 w 0 (5 + i) (w 0 (5 + i) + ch)) k) 0) hx hb hK hP 0 ag_0 0 rfl (by decide) (by decide) dL_deposits_120 ?_
            refine lv_topE (z := 0) (by rw [gLA_o (by decide), u2_k (by omega), hw0, hc.1]; rfl) ?_
            refine lv_if_ne (tgt := 142) hx hb dL_deposits_121 (by decide) (fun c_121 => absurd rfl c_121) (fun c_121 => ?_)
            refine lv_iload hx hb dL_deposits_124 (lv_at hl 5 rfl) ?_
            refine lv_if_eq (tgt := 142) hx hb dL_deposits_126 (by decide) (fun c_126 => absurd c_126 hc.2) (fun c_126 => ?_)
            refine lv_iload hx hb dL_deposits_129 (lv_at hl 7 rfl) ?_
            refine lv_aload_n hx hb dL_deposits_131 rfl (lv_at hl 2 rfl) ?_
            refine lv_aload_n hx hb dL_deposits_132 rfl (lv_at hl 3 rfl) ?_
            have hPj := swP hP
            have hDj := swD hD
            have hFc : ∀ q, va_A (lwA y r (gLA (u2 w 0 (5 + i) (w 0 (5 + i) + ch)) k)) H.size q → A q := freeR hDj hS hA
            have hPc : va_P G vwCl (lwA y r (gLA (u2 w 0 (5 + i) (w 0 (5 + i) + ch)) k)) H := wR hPj
            have hDc : va_D (fun _ => True) (lwA y r (gLA (u2 w 0 (5 + i) (w 0 (5 + i) + ch)) k)) := (wRD hDj).weaken (fun _ _ _ _ => trivial)
            refine caN (va_runS (As := [.int (nI k), .ref (r 3), .ref (r 0)]) (rest := []) ⟨hx, hb, hml, hown, hts⟩ (c_L_lay l G y r (gLA (u2 w 0 (5 + i) (w 0 (5 + i) + ch)) k) H.size k hk_k) (va_cwS 3 hts gL_deposits_L_lay rfl rfl rfl (by decide +kernel) ⟨Nat.le_of_ble_eq_true rfl, Nat.le_of_ble_eq_true rfl⟩) ⟨mP_bl, fun U hU hW => ⟨rfl, by rw [hU], by rw [hU]; exact hPc, Kb.moved hW hK, hDc⟩⟩ rfl rfl hl.1 rfl (lv_room (Nat.le_of_ble_eq_true rfl)) dL_deposits_133 ⟨Nat.le_of_ble_eq_true rfl, Nat.le_of_ble_eq_true rfl⟩) hS hFc hFc (fun _ H locs _ hP1 hD1 hk1 hS => ?_)
            obtain ⟨hPz, hDz⟩ := joinW hPj hDj hk1 hP1 hD1 hFc
            refine W.eq (g2 := F0 m 136 ls []) rfl ?_
            have hP : va_P G vwCl (lwA y r (gLay (gLA (u2 w 0 (5 + i) (w 0 (5 + i) + ch)) k) k) ++ bkW y a b n la L) H := swP hPz
            have hD : va_D A (lwA y r (gLay (gLA (u2 w 0 (5 + i) (w 0 (5 + i) + ch)) k) k) ++ bkW y a b n la L) := swD hDz
            refine lv_iinc (v := (nI (k + 1))) (lv' := [(7, .int (nI (k + 1))), (0, .ref (a 13)), (1, .int z), (2, .ref (r 3)), (3, .ref (r 0)), (4, .int (nI i)), (5, .int ch), (6, .int (w 0 (5 + i) + ch))]) hx hb dL_deposits_136 hl (k := 7) rfl iinc1 (by decide) rfl (fun ls hl => ?_)
            refine lv_goto (tgt := 111) hx hb dL_deposits_139 (by decide) ?_
            exact ih_k _ _ ls hP hD hS (lv_sub hl [1, 2, 3, 4, 5, 6, 7, 0] rfl)
          · have hl : lv_has ls 8 [(0, .ref (a 13)), (1, .int z), (2, .ref (r 3)), (3, .ref (r 0)), (4, .int (nI i)), (5, .int ch), (6, .int (w 0 (5 + i) + ch)), (7, .int (nI 6))] := hl
            have hP : va_P G vwCl (lwA y r (gLA (u2 w 0 (5 + i) (w 0 (5 + i) + ch)) 6) ++ bkW y a b n la L) H := hP
            have hD : va_D A (lwA y r (gLA (u2 w 0 (5 + i) (w 0 (5 + i) + ch)) 6) ++ bkW y a b n la L) := hD
            refine lv_iload hx hb dL_deposits_111 (lv_at hl 7 rfl) ?_
            refine lv_bipush (v := 6) hx hb dL_deposits_113 (by decide) ?_
            refine lv_icmp_ge (tgt := 142) hx hb dL_deposits_115 (by decide) (fun c_115 => ?_) (fun c_115 => absurd (nI_le (Nat.le_refl 6) (by decide)) c_115)
            refine lv_aload_n hx hb dL_deposits_142 rfl (lv_at hl 0 rfl) ?_
            refine lv_iconst (v := 1) hx hb dL_deposits_143 (by decide) ?_
            refine lv_iload hx hb dL_deposits_144 (lv_at hl 4 rfl) ?_
            refine lv_iload hx hb dL_deposits_146 (lv_at hl 5 rfl) ?_
            have hPj := hP
            have hDj := hD
            have hFc : ∀ q, va_A (bkW y a b n la L) H.size q → A q := freeR hDj hS hA
            have hPc : va_P G vwCl (bkW y a b n la L) H := wR hPj
            have hDc : va_D (fun _ => True) (bkW y a b n la L) := (wRD hDj).weaken (fun _ _ _ _ => trivial)
            refine caN (vx_runSW (As := [.ref (a 13), .int 1, .int (nI i), .int ch]) (rest := []) ⟨hx, hb, hml, hown, hts⟩ (c_L_calls1 l hlt G y a b n la L H.size (nI i) ch (Or.inl hX0)) (vx_cwSW 4 hts gL_deposits_L_calls rfl rfl rfl (by decide +kernel) ⟨Nat.le_of_ble_eq_true rfl, Nat.le_of_ble_eq_true rfl⟩) ⟨xP_bl, fun U hU hW => ⟨rfl, by rw [hU], by rw [hU]; exact hPc, Kb.moved hW hK, hDc, by rw [hU]; exact Zs.moved hW.alike ((hZ.kept hS.2.1).narrow hFc)⟩⟩ rfl rfl hl.1 rfl (lv_room (Nat.le_of_ble_eq_true rfl)) dL_deposits_148 ⟨Nat.le_of_ble_eq_true rfl, Nat.le_of_ble_eq_true rfl⟩) hS hFc hFc (fun _ H locs _ hP1 hD1 hk1 hS => ?_)
            obtain ⟨hP, hD⟩ := joinW hPj hDj hk1 hP1 hD1 hFc
            rw [if_pos hX0] at hP hD
            refine lv_topE (z := (w 0 (5 + i) + ch)) (by rw [hX0, dp_at h h_i]; rfl) ?_
            refine lv_iload hx hb dL_deposits_151 (lv_at hl 6 rfl) ?_
            refine lv_icmp_ne (tgt := 160) hx hb dL_deposits_153 (by decide) (fun c_153 => absurd rfl c_153) (fun c_153 => ?_)
            refine lv_iconst (v := 1) hx hb dL_deposits_156 (by decide) ?_
            refine lv_goto (tgt := 161) hx hb dL_deposits_157 (by decide) ?_
            exact W.zret (v := 1) hx hb hr rfl (fun t9 ht9 hW => ⟨⟨(gLA (u2 w 0 (5 + i) (w 0 (5 + i) + ch)) 6, bDep b (cn (nI i)) ch, n, la, L), rfl, ⟨t, pd, bo, mo, s_dep1 h h_i hch c_62 c_76 hc⟩, by rw [ht9]; exact hP, hD⟩, hS.F ht9⟩) hS.2.2 dL_deposits_161
        · refine lv_iload hx hb dL_deposits_111 (lv_at hl 0 rfl) ?_
          refine lv_bipush (v := 6) hx hb dL_deposits_113 (by decide) ?_
          refine lv_icmp_ge (tgt := 142) hx hb dL_deposits_115 (by decide) (fun c_115 => absurd c_115 (by decide)) (fun c_115 => ?_)
          refine lv_aload_n hx hb dL_deposits_118 rfl (lv_at hl 7 rfl) ?_
          refine lv_iconst (v := 0) hx hb dL_deposits_119 (by decide) ?_
          refine ldI (f := (u2 w 0 (5 + i) (w 0 (5 + i) + ch)) 0) hx hb hK hP 0 ag_0 0 rfl (by decide) (by decide) dL_deposits_120 ?_
          refine lv_topE (z := nI t) ((u2_k (by omega)).trans hw0) ?_
          refine lv_if_ne (tgt := 142) hx hb dL_deposits_121 (by decide) (fun c_121 => ?_) (fun c_121 => ?_)
          · refine lv_aload_n hx hb dL_deposits_142 rfl (lv_at hl 4 rfl) ?_
            refine lv_iconst (v := 1) hx hb dL_deposits_143 (by decide) ?_
            refine lv_iload hx hb dL_deposits_144 (lv_at hl 3 rfl) ?_
            refine lv_iload hx hb dL_deposits_146 (lv_at hl 2 rfl) ?_
            have hPj := hP
            have hDj := hD
            have hFc : ∀ q, va_A (bkW y a b n la L) H.size q → A q := freeR hDj hS hA
            have hPc : va_P G vwCl (bkW y a b n la L) H := wR hPj
            have hDc : va_D (fun _ => True) (bkW y a b n la L) := (wRD hDj).weaken (fun _ _ _ _ => trivial)
            refine caN (vx_runSW (As := [.ref (a 13), .int 1, .int (nI i), .int ch]) (rest := []) ⟨hx, hb, hml, hown, hts⟩ (c_L_calls1 l hlt G y a b n la L H.size (nI i) ch (Or.inl hX0)) (vx_cwSW 4 hts gL_deposits_L_calls rfl rfl rfl (by decide +kernel) ⟨Nat.le_of_ble_eq_true rfl, Nat.le_of_ble_eq_true rfl⟩) ⟨xP_bl, fun U hU hW => ⟨rfl, by rw [hU], by rw [hU]; exact hPc, Kb.moved hW hK, hDc, by rw [hU]; exact Zs.moved hW.alike ((hZ.kept hS.2.1).narrow hFc)⟩⟩ rfl rfl hl.1 rfl (lv_room (Nat.le_of_ble_eq_true rfl)) dL_deposits_148 ⟨Nat.le_of_ble_eq_true rfl, Nat.le_of_ble_eq_true rfl⟩) hS hFc hFc (fun _ H locs _ hP1 hD1 hk1 hS => ?_)
            obtain ⟨hP, hD⟩ := joinW hPj hDj hk1 hP1 hD1 hFc
            rw [if_pos hX0] at hP hD
            refine lv_topE (z := (w 0 (5 + i) + ch)) (by rw [hX0, dp_at h h_i]; rfl) ?_
            refine lv_iload hx hb dL_deposits_151 (lv_at hl 1 rfl) ?_
            refine lv_icmp_ne (tgt := 160) hx hb dL_deposits_153 (by decide) (fun c_153 => absurd rfl c_153) (fun c_153 => ?_)
            refine lv_iconst (v := 1) hx hb dL_deposits_156 (by decide) ?_
            refine lv_goto (tgt := 161) hx hb dL_deposits_157 (by decide) ?_
            exact W.zret (v := 1) hx hb hr rfl (fun t9 ht9 hW => ⟨⟨((u2 w 0 (5 + i) (w 0 (5 + i) + ch)), bDep b (cn (nI i)) ch, n, la, L), rfl, ⟨t, pd, bo, mo, s_dep0 h h_i hch c_62 c_76 hc⟩, by rw [ht9]; exact hP, hD⟩, hS.F ht9⟩) hS.2.2 dL_deposits_161
          · refine lv_iload hx hb dL_deposits_124 (lv_at hl 2 rfl) ?_
            refine lv_if_eq (tgt := 142) hx hb dL_deposits_126 (by decide) (fun c_126 => ?_) (fun c_126 => absurd ⟨by have c := c_121; exact (nI_eq (by omega) (by decide)).mp c, c_126⟩ hc)
            refine lv_aload_n hx hb dL_deposits_142 rfl (lv_at hl 4 rfl) ?_
            refine lv_iconst (v := 1) hx hb dL_deposits_143 (by decide) ?_
            refine lv_iload hx hb dL_deposits_144 (lv_at hl 3 rfl) ?_
            refine lv_iload hx hb dL_deposits_146 (lv_at hl 2 rfl) ?_
            have hPj := hP
            have hDj := hD
            have hFc : ∀ q, va_A (bkW y a b n la L) H.size q → A q := freeR hDj hS hA
            have hPc : va_P G vwCl (bkW y a b n la L) H := wR hPj
            have hDc : va_D (fun _ => True) (bkW y a b n la L) := (wRD hDj).weaken (fun _ _ _ _ => trivial)
            refine caN (vx_runSW (As := [.ref (a 13), .int 1, .int (nI i), .int ch]) (rest := []) ⟨hx, hb, hml, hown, hts⟩ (c_L_calls1 l hlt G y a b n la L H.size (nI i) ch (Or.inl hX0)) (vx_cwSW 4 hts gL_deposits_L_calls rfl rfl rfl (by decide +kernel) ⟨Nat.le_of_ble_eq_true rfl, Nat.le_of_ble_eq_true rfl⟩) ⟨xP_bl, fun U hU hW => ⟨rfl, by rw [hU], by rw [hU]; exact hPc, Kb.moved hW hK, hDc, by rw [hU]; exact Zs.moved hW.alike ((hZ.kept hS.2.1).narrow hFc)⟩⟩ rfl rfl hl.1 rfl (lv_room (Nat.le_of_ble_eq_true rfl)) dL_deposits_148 ⟨Nat.le_of_ble_eq_true rfl, Nat.le_of_ble_eq_true rfl⟩) hS hFc hFc (fun _ H locs _ hP1 hD1 hk1 hS => ?_)
            obtain ⟨hP, hD⟩ := joinW hPj hDj hk1 hP1 hD1 hFc
            rw [if_pos hX0] at hP hD
            refine lv_topE (z := (w 0 (5 + i) + ch)) (by rw [hX0, dp_at h h_i]; rfl) ?_
            refine lv_iload hx hb dL_deposits_151 (lv_at hl 1 rfl) ?_
            refine lv_icmp_ne (tgt := 160) hx hb dL_deposits_153 (by decide) (fun c_153 => absurd rfl c_153) (fun c_153 => ?_)
            refine lv_iconst (v := 1) hx hb dL_deposits_156 (by decide) ?_
            refine lv_goto (tgt := 161) hx hb dL_deposits_157 (by decide) ?_
            exact W.zret (v := 1) hx hb hr rfl (fun t9 ht9 hW => ⟨⟨((u2 w 0 (5 + i) (w 0 (5 + i) + ch)), bDep b (cn (nI i)) ch, n, la, L), rfl, ⟨t, pd, bo, mo, s_dep0 h h_i hch c_62 c_76 hc⟩, by rw [ht9]; exact hP, hD⟩, hS.F ht9⟩) hS.2.2 dL_deposits_161
      · have hX3 : (xDep b (nI i) ch) = 3 := xDp3 h h_i hch (Or.inr c_76)
        refine lv_bipush (v := (-3)) hx hb dL_deposits_79 (by decide) ?_
        refine lv_goto (tgt := 93) hx hb dL_deposits_81 (by decide) ?_
        refine lv_istore (lv' := [(6, .int (-3)), (5, .int ch), (4, .int (nI i)), (0, .ref (a 13)), (1, .int z), (2, .ref (r 3)), (3, .ref (r 0))]) hx hb dL_deposits_93 hl (by decide) rfl (fun ls hl => ?_)
        refine lv_iload hx hb dL_deposits_95 (lv_at hl 0 rfl) ?_
        refine lv_if_lt (tgt := 142) hx hb dL_deposits_97 (by decide) (fun c_97 => ?_) (fun c_97 => absurd (by decide) c_97)
        refine lv_aload_n hx hb dL_deposits_142 rfl (lv_at hl 3 rfl) ?_
        refine lv_iconst (v := 1) hx hb dL_deposits_143 (by decide) ?_
        refine lv_iload hx hb dL_deposits_144 (lv_at hl 2 rfl) ?_
        refine lv_iload hx hb dL_deposits_146 (lv_at hl 1 rfl) ?_
        have hPj := hP
        have hDj := hD
        have hFc : ∀ q, va_A (bkW y a b n la L) s.heap.size q → A q := freeR hDj hS hA
        have hPc : va_P G vwCl (bkW y a b n la L) s.heap := wR hPj
        have hDc : va_D (fun _ => True) (bkW y a b n la L) := (wRD hDj).weaken (fun _ _ _ _ => trivial)
        refine caN (vx_runSW (As := [.ref (a 13), .int 1, .int (nI i), .int ch]) (rest := []) ⟨hx, hb, hml, hown, hts⟩ (c_L_calls1 l hlt G y a b n la L s.heap.size (nI i) ch (Or.inr hX3)) (vx_cwSW 4 hts gL_deposits_L_calls rfl rfl rfl (by decide +kernel) ⟨Nat.le_of_ble_eq_true rfl, Nat.le_of_ble_eq_true rfl⟩) ⟨xP_bl, fun U hU hW => ⟨rfl, by rw [hU], by rw [hU]; exact hPc, Kb.moved hW hK, hDc, by rw [hU]; exact Zs.moved hW.alike ((hZ.kept hS.2.1).narrow hFc)⟩⟩ rfl rfl hl.1 rfl (lv_room (Nat.le_of_ble_eq_true rfl)) dL_deposits_148 ⟨Nat.le_of_ble_eq_true rfl, Nat.le_of_ble_eq_true rfl⟩) hS hFc hFc (fun _ H locs _ hP1 hD1 hk1 hS => ?_)
        obtain ⟨hP, hD⟩ := joinW hPj hDj hk1 hP1 hD1 hFc
        rw [if_neg (by rw [hX3]; decide)] at hP hD
        refine lv_topE (z := (-3)) (by rw [hX3]; rfl) ?_
        refine lv_iload hx hb dL_deposits_151 (lv_at hl 0 rfl) ?_
        refine lv_icmp_ne (tgt := 160) hx hb dL_deposits_153 (by decide) (fun c_153 => absurd rfl c_153) (fun c_153 => ?_)
        refine lv_iconst (v := 1) hx hb dL_deposits_156 (by decide) ?_
        refine lv_goto (tgt := 161) hx hb dL_deposits_157 (by decide) ?_
        exact W.zret (v := 1) hx hb hr rfl (fun t9 ht9 hW => ⟨⟨(w, b, n, la, L), rfl, ⟨t, pd, bo, mo, h⟩, by rw [ht9]; exact hP, hD⟩, hS.F ht9⟩) hS.2.2 dL_deposits_161
  · refine lv_if_ne (tgt := 32) hx hb dL_deposits_15 (by decide) (fun c_15 => ?_) (fun c_15 => ?_)
    · refine lv_iload_n hx hb dL_deposits_32 rfl (lv_at hl 2 rfl) ?_
      refine lv_iconst (v := 2) hx hb dL_deposits_33 (by decide) ?_
      refine lv_ishr hx hb dL_deposits_34 ?_
      refine lv_ldc (v := 900001) hx hb hown (hts (.constant RL 99 900001) (by decide +kernel)) dL_deposits_35 ?_
      refine caR (r := .int (nI (lo (z >>> (2 &&& 31)) 900001))) (va_runS (As := [.int (z >>> (2 &&& 31)), .int 900001]) (rest := []) ⟨hx, hb, hml, hown, hts⟩ (c_L_low l (z >>> (2 &&& 31)) 900001 (by decide) (by decide)) (va_cwS 2 hts gL_deposits_L_low rfl rfl rfl (by decide +kernel) ⟨Nat.le_of_ble_eq_true rfl, Nat.le_of_ble_eq_true rfl⟩) ⟨nP_bl, fun _ _ _ => ⟨rfl, trivial⟩⟩ rfl rfl hl.1 rfl (lv_room (Nat.le_of_ble_eq_true rfl)) dL_deposits_37 ⟨Nat.le_of_ble_eq_true rfl, Nat.le_of_ble_eq_true rfl⟩) ?_
      have h_j := lo_lt (v := (z >>> (2 &&& 31))) (M := 900001) (by decide)
      generalize lo (z >>> (2 &&& 31)) 900001 = j at h_j ⊢
      refine lv_iload_n hx hb dL_deposits_40 rfl (lv_at hl 2 rfl) ?_
      refine lv_iconst (v := 5) hx hb dL_deposits_41 (by decide) ?_
      refine lv_ishr hx hb dL_deposits_42 ?_
      refine lv_iconst (v := 3) hx hb dL_deposits_43 (by decide) ?_
      refine caR (r := .int (nI (lo (z >>> (5 &&& 31)) 3))) (va_runS (As := [.int (z >>> (5 &&& 31)), .int 3]) (rest := [.int (nI j)]) ⟨hx, hb, hml, hown, hts⟩ (c_L_low l (z >>> (5 &&& 31)) 3 (by decide) (by decide)) (va_cwS 2 hts gL_deposits_L_low rfl rfl rfl (by decide +kernel) ⟨Nat.le_of_ble_eq_true rfl, Nat.le_of_ble_eq_true rfl⟩) ⟨nP_bl, fun _ _ _ => ⟨rfl, trivial⟩⟩ rfl rfl hl.1 rfl (lv_room (Nat.le_of_ble_eq_true rfl)) dL_deposits_44 ⟨Nat.le_of_ble_eq_true rfl, Nat.le_of_ble_eq_true rfl⟩) ?_
      have h_k := lo_lt (v := (z >>> (5 &&& 31))) (M := 3) (by decide)
      generalize lo (z >>> (5 &&& 31)) 3 = k at h_k ⊢
      refine lv_ldc (v := 200000) hx hb hown (hts (.constant RL 100 200000) (by decide +kernel)) dL_deposits_47 ?_
      refine lv_imul hx hb dL_deposits_49 ?_
      refine lv_isub hx hb dL_deposits_50 ?_
      exact key _ (chB h_j h_k)
    · refine lv_iload_n hx hb dL_deposits_18 rfl (lv_at hl 2 rfl) ?_
      refine lv_iconst (v := 2) hx hb dL_deposits_19 (by decide) ?_
      refine lv_ishr hx hb dL_deposits_20 ?_
      refine lv_ldc (v := 20000001) hx hb hown (hts (.constant RL 98 20000001) (by decide +kernel)) dL_deposits_21 ?_
      refine caR (r := .int (nI (lo (z >>> (2 &&& 31)) 20000001))) (va_runS (As := [.int (z >>> (2 &&& 31)), .int 20000001]) (rest := []) ⟨hx, hb, hml, hown, hts⟩ (c_L_low l (z >>> (2 &&& 31)) 20000001 (by decide) (by decide)) (va_cwS 2 hts gL_deposits_L_low rfl rfl rfl (by decide +kernel) ⟨Nat.le_of_ble_eq_true rfl, Nat.le_of_ble_eq_true rfl⟩) ⟨nP_bl, fun _ _ _ => ⟨rfl, trivial⟩⟩ rfl rfl hl.1 rfl (lv_room (Nat.le_of_ble_eq_true rfl)) dL_deposits_23 ⟨Nat.le_of_ble_eq_true rfl, Nat.le_of_ble_eq_true rfl⟩) ?_
      have h_j := lo_lt (v := (z >>> (2 &&& 31))) (M := 20000001) (by decide)
      generalize lo (z >>> (2 &&& 31)) 20000001 = j at h_j ⊢
      refine lv_ldc (v := 10000000) hx hb hown (hts (.constant RL 92 10000000) (by decide +kernel)) dL_deposits_26 ?_
      refine lv_isub hx hb dL_deposits_28 ?_
      refine lv_goto (tgt := 51) hx hb dL_deposits_29 (by decide) ?_
      exact key _ (chA h_j)
set_option maxHeartbeats 4000000 in
set_option maxRecDepth 100000 in
theorem c_L_lends (l : Launch) (hlt : l.stackTraces = false) (G : va_G) (y : Nat → ClassId) (r : Nat → Nat) (w : MS) (a : Nat → Nat) (b : MS) (n : Nat) (la : Nat → Nat → Nat) (L : LNS) (sz : Nat) (z : Int32) (t : Nat) (pd bo mo : Nat → Nat) (h : PR b w n L t pd bo mo) : Met l yL_lends wsL_lends ({ frames := 7, cells := 3, slots := 20, locals := 111 }) (xP G y [.ref (a 13), .int z, .ref (r 1), .ref (r 2), .ref (r 0)] (lwA y r w ++ bkW y a b n la L) sz) (mQ G (fun _ : UT => some (.int 1)) (fun u => uR u) (fun u => uW y r a u) (va_A (lwA y r w ++ bkW y a b n la L) sz)) 3 20 (va_A (lwA y r w ++ bkW y a b n la L) sz) := by
  refine Met.ofW (cc := cL_lends) (maxL := 9) (ret := (some .boolean)) (by decide) rfl ?_
  intro p e s m args below meth c s₁ B hml hv
  obtain ⟨rfl, hsz, hP, hK, hD0, hZ⟩ := hv
  have hx := B.exec
  have hb := B.bytes
  have hr := B.returns
  have hts := atoms_spec (ws := wsL_lends) B.pre
  have hown : s.vm.findClass RL = some m.cls := findClass_of_methodNamed B.named
  have hlocks := B.notSynchronized
  subst hsz
  have hD := hD0.self (sz := s.heap.size)
  generalize hAe : va_A (lwA y r w ++ bkW y a b n la L) s.heap.size = A at hD hZ ⊢
  have hA : ∀ q : Nat, s.heap.size ≤ q → A q := fun q h => by rw [← hAe]; exact Or.inr h
  have hS : va_S A s.heap s.heap [] := va_S.rf
  have hP : va_P G vwCl (lwA y r w ++ bkW y a b n la L) s.heap := hP
  have hl := lv_entry ([.ref (a 13), .int z, .ref (r 1), .ref (r 2), .ref (r 0)]) (n := 9) (Nat.le_of_ble_eq_true rfl)
  rw [lg_entry_eq]
  generalize (lg_sl ([.ref (a 13), .int z, .ref (r 1), .ref (r 2), .ref (r 0)]) ++ List.replicate (9 - (lg_sl ([.ref (a 13), .int z, .ref (r 1), .ref (r 2), .ref (r 0)])).length) Slot.unset).toArray = ls at hl ⊢
  have hl : lv_has ls 9 [(0, .ref (a 13)), (1, .int z), (2, .ref (r 1)), (3, .ref (r 2)), (4, .ref (r 0))] := hl
  have hn8 : n ≤ 8 := h.1.1
  have hn24 : n ≤ 24 := by omega
  have ht47 : t ≤ 47 := h.1.2.1
  have hbn : b 13 6 = nI n := h.1.2.2.1
  have hw1 : w 0 1 = nI n := h.1.2.2.2.1
  have hbt : b 13 4 = nI t := h.1.2.2.2.2.1
  have hw0 : w 0 0 = nI t := h.1.2.2.2.2.2.1
  have hT := h.1.2.2.2.2.2.2.2.2.2.2.2.2.2
  have h7 := h.1.2.2.2.2.2.2.2.2.2.2.2.2.1
  have hM := h.2.1
  have hpd : ∀ k, k < n → L k 0 7 = nI (pd k) ∧ pd k ≤ 6 := fun k hk => (h.2.2 k hk).2.2.2.2.2.1
  have hmo : ∀ k, k < n → ¬ w 1 ((8 * k) + 4) = 0 := fun k hk q => by
    have h4 := (h.2.2 k hk).2.2.2.2.2.2.2.1
    rw [h4.1] at q
    exact nI_ne0 (by omega) (by omega) q
  have hbo : ∀ k, k < n → w 1 ((8 * k) + 5) = nI (bo k) ∧ bo k ≤ t := fun k hk => (h.2.2 k hk).2.2.2.2.2.2.1
  refine lv_iconst (v := 0) hx hb dL_lends_0 (by decide) ?_
  refine lv_istore (lv' := [(5, .int 0), (0, .ref (a 13)), (1, .int z), (2, .ref (r 1)), (3, .ref (r 2)), (4, .ref (r 0))]) hx hb dL_lends_1 hl (by decide) rfl (fun ls hl => ?_)
  refine lv_aload hx hb dL_lends_3 (lv_at hl 5 rfl) ?_
  refine lv_iconst (v := 1) hx hb dL_lends_5 (by decide) ?_
  refine ldI (f := w 0) hx hb hK hP 0 ag_0 1 rfl (by decide) (by decide) dL_lends_6 ?_
  refine lv_topE (z := nI n) (hw1) ?_
  refine lv_bipush (v := 8) hx hb dL_lends_7 (by decide) ?_
  refine lv_icmp_ge (tgt := 16) hx hb dL_lends_9 (by decide) (fun c_9 => ?_) (fun c_9 => ?_)
  · refine lv_iconst (v := 0) hx hb dL_lends_16 (by decide) ?_
    refine lv_istore (lv' := [(6, .int 0), (5, .int 0), (0, .ref (a 13)), (1, .int z), (2, .ref (r 1)), (3, .ref (r 2)), (4, .ref (r 0))]) hx hb dL_lends_17 hl (by decide) rfl (fun ls hl => ?_)
    refine lv_iload hx hb dL_lends_19 (lv_at hl 0 rfl) ?_
    refine lv_if_ne (tgt := 26) hx hb dL_lends_21 (by decide) (fun c_21 => absurd rfl c_21) (fun c_21 => ?_)
    refine lv_iconst (v := 1) hx hb dL_lends_24 (by decide) ?_
    refine W.widen (k := 3) (n := 20) (Nat.le_of_ble_eq_true rfl) (Nat.le_of_ble_eq_true rfl) ?_
    exact W.zret (v := 1) hx hb hr rfl (fun t9 ht9 hW => ⟨⟨(w, b, n, la, L), rfl, ⟨t, pd, bo, mo, h⟩, by rw [ht9]; exact hP, hD⟩, hS.F ht9⟩) hS.2.2 dL_lends_25
  · have hn7 : n < 8 := Nat.not_le.mp (fun q => c_9 (nI_le q (by omega)))
    refine lv_iconst (v := 1) hx hb dL_lends_12 (by decide) ?_
    refine lv_goto (tgt := 17) hx hb dL_lends_13 (by decide) ?_
    refine lv_istore (lv' := [(6, .int 1), (5, .int 0), (0, .ref (a 13)), (1, .int z), (2, .ref (r 1)), (3, .ref (r 2)), (4, .ref (r 0))]) hx hb dL_lends_17 hl (by decide) rfl (fun ls hl => ?_)
    refine lv_iload hx hb dL_lends_19 (lv_at hl 0 rfl) ?_
    refine lv_if_ne (tgt := 26) hx hb dL_lends_21 (by decide) (fun c_21 => ?_) (fun c_21 => absurd c_21 (by decide))
    refine lv_aload hx hb dL_lends_26 (lv_at hl 6 rfl) ?_
    refine lv_iconst (v := 1) hx hb dL_lends_28 (by decide) ?_
    refine ldI (f := w 0) hx hb hK hP 0 ag_0 1 rfl (by decide) (by decide) dL_lends_29 ?_
    refine lv_topE (z := nI n) (hw1) ?_
    refine lv_istore (lv' := [(5, .int (nI n)), (6, .int 1), (0, .ref (a 13)), (1, .int z), (2, .ref (r 1)), (3, .ref (r 2)), (4, .ref (r 0))]) hx hb dL_lends_30 hl (by decide) rfl (fun ls hl => ?_)
    refine lv_bipush (v := 8) hx hb dL_lends_32 (by decide) ?_
    refine lv_iload hx hb dL_lends_34 (lv_at hl 0 rfl) ?_
    refine lv_imul hx hb dL_lends_36 ?_
    refine lv_topE (z := nI (8 * n)) (m8 (a := 8) (b := n)) ?_
    refine lv_istore (lv' := [(7, .int (nI (8 * n))), (5, .int (nI n)), (6, .int 1), (0, .ref (a 13)), (1, .int z), (2, .ref (r 1)), (3, .ref (r 2)), (4, .ref (r 0))]) hx hb dL_lends_37 hl (by decide) rfl (fun ls hl => ?_)
    refine lv_aload_n hx hb dL_lends_39 rfl (lv_at hl 5 rfl) ?_
    refine lv_iload hx hb dL_lends_40 (lv_at hl 0 rfl) ?_
    refine lv_iload_n hx hb dL_lends_42 rfl (lv_at hl 4 rfl) ?_
    refine lv_iconst (v := 3) hx hb dL_lends_43 (by decide) ?_
    refine caR (r := .int (nI (lo z 3))) (va_runS (As := [.int z, .int 3]) (rest := [.int (nI (8 * n)), .ref (r 1)]) ⟨hx, hb, hml, hown, hts⟩ (c_L_low l z 3 (by decide) (by decide)) (va_cwS 2 hts gL_lends_L_low rfl rfl rfl (by decide +kernel) ⟨Nat.le_of_ble_eq_true rfl, Nat.le_of_ble_eq_true rfl⟩) ⟨nP_bl, fun _ _ _ => ⟨rfl, trivial⟩⟩ rfl rfl hl.1 rfl (lv_room (Nat.le_of_ble_eq_true rfl)) dL_lends_44 ⟨Nat.le_of_ble_eq_true rfl, Nat.le_of_ble_eq_true rfl⟩) ?_
    have h_br := lo_lt (v := z) (M := 3) (by decide)
    generalize lo z 3 = br at h_br ⊢
    refine stI (f := w 1) (ws1 := lwA y r (u2 w 1 (8 * n) (nI br)) ++ bkW y a b n la L) hx hb hK hP hD hS 1 ag_1 (8 * n) rfl (by omega) (by decide) as_1 dL_lends_47 (fun H locs hP hD hS => ?_)
    refine lv_aload_n hx hb dL_lends_48 rfl (lv_at hl 5 rfl) ?_
    refine lv_iload hx hb dL_lends_49 (lv_at hl 0 rfl) ?_
    refine lv_iconst (v := 1) hx hb dL_lends_51 (by decide) ?_
    refine lv_iadd hx hb dL_lends_52 ?_
    refine lv_topE (z := nI ((8 * n) + 1)) (nI_add (8 * n) 1) ?_
    refine lv_iload_n hx hb dL_lends_53 rfl (lv_at hl 4 rfl) ?_
    refine lv_iconst (v := 2) hx hb dL_lends_54 (by decide) ?_
    refine lv_ishr hx hb dL_lends_55 ?_
    refine lv_iconst (v := 3) hx hb dL_lends_56 (by decide) ?_
    refine caR (r := .int (nI (lo (z >>> (2 &&& 31)) 3))) (va_runS (As := [.int (z >>> (2 &&& 31)), .int 3]) (rest := [.int (nI ((8 * n) + 1)), .ref (r 1)]) ⟨hx, hb, hml, hown, hts⟩ (c_L_low l (z >>> (2 &&& 31)) 3 (by decide) (by decide)) (va_cwS 2 hts gL_lends_L_low rfl rfl rfl (by decide +kernel) ⟨Nat.le_of_ble_eq_true rfl, Nat.le_of_ble_eq_true rfl⟩) ⟨nP_bl, fun _ _ _ => ⟨rfl, trivial⟩⟩ rfl rfl hl.1 rfl (lv_room (Nat.le_of_ble_eq_true rfl)) dL_lends_57 ⟨Nat.le_of_ble_eq_true rfl, Nat.le_of_ble_eq_true rfl⟩) ?_
    have h_pr := lo_lt (v := (z >>> (2 &&& 31))) (M := 3) (by decide)
    generalize lo (z >>> (2 &&& 31)) 3 = pr at h_pr ⊢
    refine stI (f := (u2 w 1 (8 * n) (nI br)) 1) (ws1 := lwA y r (u2 (u2 w 1 (8 * n) (nI br)) 1 ((8 * n) + 1) (nI pr)) ++ bkW y a b n la L) hx hb hK hP hD hS 1 ag_1 ((8 * n) + 1) rfl (by omega) (by decide) as_1 dL_lends_60 (fun H locs hP hD hS => ?_)
    refine lv_aload_n hx hb dL_lends_61 rfl (lv_at hl 5 rfl) ?_
    refine lv_iload hx hb dL_lends_62 (lv_at hl 0 rfl) ?_
    refine lv_iconst (v := 2) hx hb dL_lends_64 (by decide) ?_
    refine lv_iadd hx hb dL_lends_65 ?_
    refine lv_topE (z := nI ((8 * n) + 2)) (nI_add (8 * n) 2) ?_
    refine lv_iconst (v := 1) hx hb dL_lends_66 (by decide) ?_
    refine lv_iload_n hx hb dL_lends_67 rfl (lv_at hl 4 rfl) ?_
    refine lv_iconst (v := 4) hx hb dL_lends_68 (by decide) ?_
    refine lv_ishr hx hb dL_lends_69 ?_
    refine lv_iload_n hx hb dL_lends_70 rfl (lv_at hl 4 rfl) ?_
    refine lv_bipush (v := 14) hx hb dL_lends_71 (by decide) ?_
    refine lv_ishr hx hb dL_lends_73 ?_
    refine lv_iconst (v := 3) hx hb dL_lends_74 (by decide) ?_
    refine caR (r := .int (nI (lo (z >>> (14 &&& 31)) 3))) (va_runS (As := [.int (z >>> (14 &&& 31)), .int 3]) (rest := [.int (z >>> (4 &&& 31)), .int 1, .int (nI ((8 * n) + 2)), .ref (r 1)]) ⟨hx, hb, hml, hown, hts⟩ (c_L_low l (z >>> (14 &&& 31)) 3 (by decide) (by decide)) (va_cwS 2 hts gL_lends_L_low rfl rfl rfl (by decide +kernel) ⟨Nat.le_of_ble_eq_true rfl, Nat.le_of_ble_eq_true rfl⟩) ⟨nP_bl, fun _ _ _ => ⟨rfl, trivial⟩⟩ rfl rfl hl.1 rfl (lv_room (Nat.le_of_ble_eq_true rfl)) dL_lends_75 ⟨Nat.le_of_ble_eq_true rfl, Nat.le_of_ble_eq_true rfl⟩) ?_
    have h_q := lo_lt (v := (z >>> (14 &&& 31))) (M := 3) (by decide)
    generalize lo (z >>> (14 &&& 31)) 3 = q at h_q ⊢
    refine W.pick (tgt := 88) (st := fun M9 : Nat => [.int (nI M9), .int (z >>> (4 &&& 31)), .int 1, .int (nI ((8 * n) + 2)), .ref (r 1)]) (P := fun M9 => 0 < M9 ∧ M9 ≤ 10000000) (fun M9 hM9 => ?_) (fun key => ?_)
    · refine caR (r := .int (nI (lo (z >>> (4 &&& 31)) M9))) (va_runS (As := [.int (z >>> (4 &&& 31)), .int (nI M9)]) (rest := [.int 1, .int (nI ((8 * n) + 2)), .ref (r 1)]) ⟨hx, hb, hml, hown, hts⟩ (c_L_low l (z >>> (4 &&& 31)) M9 hM9.1 (by omega)) (va_cwS 2 hts gL_lends_L_low rfl rfl rfl (by decide +kernel) ⟨Nat.le_of_ble_eq_true rfl, Nat.le_of_ble_eq_true rfl⟩) ⟨nP_bl, fun _ _ _ => ⟨rfl, trivial⟩⟩ rfl rfl hl.1 rfl (lv_room (Nat.le_of_ble_eq_true rfl)) dL_lends_88 ⟨Nat.le_of_ble_eq_true rfl, Nat.le_of_ble_eq_true rfl⟩) ?_
      have h_am := lo_lt (v := (z >>> (4 &&& 31))) (M := M9) hM9.1
      generalize lo (z >>> (4 &&& 31)) M9 = am at h_am ⊢
      refine lv_iadd hx hb dL_lends_91 ?_
      refine lv_topE (z := nI (1 + am)) (nI_add 1 am) ?_
      refine stI (f := (u2 (u2 w 1 (8 * n) (nI br)) 1 ((8 * n) + 1) (nI pr)) 1) (ws1 := lwA y r (u2 (u2 (u2 w 1 (8 * n) (nI br)) 1 ((8 * n) + 1) (nI pr)) 1 ((8 * n) + 2) (nI (1 + am))) ++ bkW y a b n la L) hx hb hK hP hD hS 1 ag_1 ((8 * n) + 2) rfl (by omega) (by decide) as_1 dL_lends_92 (fun H locs hP hD hS => ?_)
      refine lv_aload_n hx hb dL_lends_93 rfl (lv_at hl 5 rfl) ?_
      refine lv_iload hx hb dL_lends_94 (lv_at hl 0 rfl) ?_
      refine lv_iconst (v := 3) hx hb dL_lends_96 (by decide) ?_
      refine lv_iadd hx hb dL_lends_97 ?_
      refine lv_topE (z := nI ((8 * n) + 3)) (nI_add (8 * n) 3) ?_
      refine lv_iload_n hx hb dL_lends_98 rfl (lv_at hl 4 rfl) ?_
      refine lv_iconst (v := 5) hx hb dL_lends_99 (by decide) ?_
      refine lv_ishr hx hb dL_lends_100 ?_
      refine lv_sipush (v := 5001) hx hb dL_lends_101 (by decide) ?_
      refine caR (r := .int (nI (lo (z >>> (5 &&& 31)) 5001))) (va_runS (As := [.int (z >>> (5 &&& 31)), .int 5001]) (rest := [.int (nI ((8 * n) + 3)), .ref (r 1)]) ⟨hx, hb, hml, hown, hts⟩ (c_L_low l (z >>> (5 &&& 31)) 5001 (by decide) (by decide)) (va_cwS 2 hts gL_lends_L_low rfl rfl rfl (by decide +kernel) ⟨Nat.le_of_ble_eq_true rfl, Nat.le_of_ble_eq_true rfl⟩) ⟨nP_bl, fun _ _ _ => ⟨rfl, trivial⟩⟩ rfl rfl hl.1 rfl (lv_room (Nat.le_of_ble_eq_true rfl)) dL_lends_104 ⟨Nat.le_of_ble_eq_true rfl, Nat.le_of_ble_eq_true rfl⟩) ?_
      have h_rt := lo_lt (v := (z >>> (5 &&& 31))) (M := 5001) (by decide)
      generalize lo (z >>> (5 &&& 31)) 5001 = rt at h_rt ⊢
      refine stI (f := (u2 (u2 (u2 w 1 (8 * n) (nI br)) 1 ((8 * n) + 1) (nI pr)) 1 ((8 * n) + 2) (nI (1 + am))) 1) (ws1 := lwA y r (u2 (u2 (u2 (u2 w 1 (8 * n) (nI br)) 1 ((8 * n) + 1) (nI pr)) 1 ((8 * n) + 2) (nI (1 + am))) 1 ((8 * n) + 3) (nI rt)) ++ bkW y a b n la L) hx hb hK hP hD hS 1 ag_1 ((8 * n) + 3) rfl (by omega) (by decide) as_1 dL_lends_107 (fun H locs hP hD hS => ?_)
      refine lv_aload_n hx hb dL_lends_108 rfl (lv_at hl 5 rfl) ?_
      refine lv_iload hx hb dL_lends_109 (lv_at hl 0 rfl) ?_
      refine lv_iconst (v := 4) hx hb dL_lends_111 (by decide) ?_
      refine lv_iadd hx hb dL_lends_112 ?_
      refine lv_topE (z := nI ((8 * n) + 4)) (nI_add (8 * n) 4) ?_
      refine lv_iconst (v := 1) hx hb dL_lends_113 (by decide) ?_
      refine lv_iload_n hx hb dL_lends_114 rfl (lv_at hl 4 rfl) ?_
      refine lv_bipush (v := 7) hx hb dL_lends_115 (by decide) ?_
      refine lv_ishr hx hb dL_lends_117 ?_
      refine lv_bipush (v := 6) hx hb dL_lends_118 (by decide) ?_
      refine caR (r := .int (nI (lo (z >>> (7 &&& 31)) 6))) (va_runS (As := [.int (z >>> (7 &&& 31)), .int 6]) (rest := [.int 1, .int (nI ((8 * n) + 4)), .ref (r 1)]) ⟨hx, hb, hml, hown, hts⟩ (c_L_low l (z >>> (7 &&& 31)) 6 (by decide) (by decide)) (va_cwS 2 hts gL_lends_L_low rfl rfl rfl (by decide +kernel) ⟨Nat.le_of_ble_eq_true rfl, Nat.le_of_ble_eq_true rfl⟩) ⟨nP_bl, fun _ _ _ => ⟨rfl, trivial⟩⟩ rfl rfl hl.1 rfl (lv_room (Nat.le_of_ble_eq_true rfl)) dL_lends_120 ⟨Nat.le_of_ble_eq_true rfl, Nat.le_of_ble_eq_true rfl⟩) ?_
      have h_mm := lo_lt (v := (z >>> (7 &&& 31))) (M := 6) (by decide)
      generalize lo (z >>> (7 &&& 31)) 6 = mm at h_mm ⊢
      refine lv_iadd hx hb dL_lends_123 ?_
      refine lv_topE (z := nI (1 + mm)) (nI_add 1 mm) ?_
      refine stI (f := (u2 (u2 (u2 (u2 w 1 (8 * n) (nI br)) 1 ((8 * n) + 1) (nI pr)) 1 ((8 * n) + 2) (nI (1 + am))) 1 ((8 * n) + 3) (nI rt)) 1) (ws1 := lwA y r (u2 (u2 (u2 (u2 (u2 w 1 (8 * n) (nI br)) 1 ((8 * n) + 1) (nI pr)) 1 ((8 * n) + 2) (nI (1 + am))) 1 ((8 * n) + 3) (nI rt)) 1 ((8 * n) + 4) (nI (1 + mm))) ++ bkW y a b n la L) hx hb hK hP hD hS 1 ag_1 ((8 * n) + 4) rfl (by omega) (by decide) as_1 dL_lends_124 (fun H locs hP hD hS => ?_)
      refine lv_aload_n hx hb dL_lends_125 rfl (lv_at hl 5 rfl) ?_
      refine lv_iload hx hb dL_lends_126 (lv_at hl 0 rfl) ?_
      refine lv_iconst (v := 5) hx hb dL_lends_128 (by decide) ?_
      refine lv_iadd hx hb dL_lends_129 ?_
      refine lv_topE (z := nI ((8 * n) + 5)) (nI_add (8 * n) 5) ?_
      refine lv_aload hx hb dL_lends_130 (lv_at hl 7 rfl) ?_
      refine lv_iconst (v := 0) hx hb dL_lends_132 (by decide) ?_
      refine ldI (f := (u2 (u2 (u2 (u2 (u2 w 1 (8 * n) (nI br)) 1 ((8 * n) + 1) (nI pr)) 1 ((8 * n) + 2) (nI (1 + am))) 1 ((8 * n) + 3) (nI rt)) 1 ((8 * n) + 4) (nI (1 + mm))) 0) hx hb hK hP 0 ag_0 0 rfl (by decide) (by decide) dL_lends_133 ?_
      refine lv_topE (z := nI t) (by rw [u2_j (by decide), u2_j (by decide), u2_j (by decide), u2_j (by decide), u2_j (by decide)]; exact hw0) ?_
      refine stI (f := (u2 (u2 (u2 (u2 (u2 w 1 (8 * n) (nI br)) 1 ((8 * n) + 1) (nI pr)) 1 ((8 * n) + 2) (nI (1 + am))) 1 ((8 * n) + 3) (nI rt)) 1 ((8 * n) + 4) (nI (1 + mm))) 1) (ws1 := lwA y r (u2 (u2 (u2 (u2 (u2 (u2 w 1 (8 * n) (nI br)) 1 ((8 * n) + 1) (nI pr)) 1 ((8 * n) + 2) (nI (1 + am))) 1 ((8 * n) + 3) (nI rt)) 1 ((8 * n) + 4) (nI (1 + mm))) 1 ((8 * n) + 5) (nI t)) ++ bkW y a b n la L) hx hb hK hP hD hS 1 ag_1 ((8 * n) + 5) rfl (by omega) (by decide) as_1 dL_lends_134 (fun H locs hP hD hS => ?_)
      refine lv_aload_n hx hb dL_lends_135 rfl (lv_at hl 5 rfl) ?_
      refine lv_iload hx hb dL_lends_136 (lv_at hl 0 rfl) ?_
      refine lv_bipush (v := 6) hx hb dL_lends_138 (by decide) ?_
      refine lv_iadd hx hb dL_lends_140 ?_
      refine lv_topE (z := nI ((8 * n) + 6)) (nI_add (8 * n) 6) ?_
      refine lv_iload_n hx hb dL_lends_141 rfl (lv_at hl 4 rfl) ?_
      refine lv_bipush (v := 9) hx hb dL_lends_142 (by decide) ?_
      refine lv_ishr hx hb dL_lends_144 ?_
      refine lv_iconst (v := 2) hx hb dL_lends_145 (by decide) ?_
      refine caR (r := .int (nI (lo (z >>> (9 &&& 31)) 2))) (va_runS (As := [.int (z >>> (9 &&& 31)), .int 2]) (rest := [.int (nI ((8 * n) + 6)), .ref (r 1)]) ⟨hx, hb, hml, hown, hts⟩ (c_L_low l (z >>> (9 &&& 31)) 2 (by decide) (by decide)) (va_cwS 2 hts gL_lends_L_low rfl rfl rfl (by decide +kernel) ⟨Nat.le_of_ble_eq_true rfl, Nat.le_of_ble_eq_true rfl⟩) ⟨nP_bl, fun _ _ _ => ⟨rfl, trivial⟩⟩ rfl rfl hl.1 rfl (lv_room (Nat.le_of_ble_eq_true rfl)) dL_lends_146 ⟨Nat.le_of_ble_eq_true rfl, Nat.le_of_ble_eq_true rfl⟩) ?_
      have h_q2 := lo_lt (v := (z >>> (9 &&& 31))) (M := 2) (by decide)
      generalize lo (z >>> (9 &&& 31)) 2 = q2 at h_q2 ⊢
      refine W.pick (tgt := 160) (st := fun v9 : Int32 => [.int v9, .int (nI ((8 * n) + 6)), .ref (r 1)]) (P := fun v9 => v9 = -1 ∨ v9 = w 0 3) (fun v9 hv9 => ?_) (fun key => ?_)
      · refine stI (f := (u2 (u2 (u2 (u2 (u2 (u2 w 1 (8 * n) (nI br)) 1 ((8 * n) + 1) (nI pr)) 1 ((8 * n) + 2) (nI (1 + am))) 1 ((8 * n) + 3) (nI rt)) 1 ((8 * n) + 4) (nI (1 + mm))) 1 ((8 * n) + 5) (nI t)) 1) (ws1 := lwA y r (u2 (u2 (u2 (u2 (u2 (u2 (u2 w 1 (8 * n) (nI br)) 1 ((8 * n) + 1) (nI pr)) 1 ((8 * n) + 2) (nI (1 + am))) 1 ((8 * n) + 3) (nI rt)) 1 ((8 * n) + 4) (nI (1 + mm))) 1 ((8 * n) + 5) (nI t)) 1 ((8 * n) + 6) v9) ++ bkW y a b n la L) hx hb hK hP hD hS 1 ag_1 ((8 * n) + 6) rfl (by omega) (by decide) as_1 dL_lends_160 (fun H locs hP hD hS => ?_)
        refine lv_aload_n hx hb dL_lends_161 rfl (lv_at hl 5 rfl) ?_
        refine lv_iload hx hb dL_lends_162 (lv_at hl 0 rfl) ?_
        refine lv_bipush (v := 7) hx hb dL_lends_164 (by decide) ?_
        refine lv_iadd hx hb dL_lends_166 ?_
        refine lv_topE (z := nI ((8 * n) + 7)) (nI_add (8 * n) 7) ?_
        refine lv_iconst (v := 0) hx hb dL_lends_167 (by decide) ?_
        refine stI (f := (u2 (u2 (u2 (u2 (u2 (u2 (u2 w 1 (8 * n) (nI br)) 1 ((8 * n) + 1) (nI pr)) 1 ((8 * n) + 2) (nI (1 + am))) 1 ((8 * n) + 3) (nI rt)) 1 ((8 * n) + 4) (nI (1 + mm))) 1 ((8 * n) + 5) (nI t)) 1 ((8 * n) + 6) v9) 1) (ws1 := lwA y r (u2 (u2 (u2 (u2 (u2 (u2 (u2 (u2 w 1 (8 * n) (nI br)) 1 ((8 * n) + 1) (nI pr)) 1 ((8 * n) + 2) (nI (1 + am))) 1 ((8 * n) + 3) (nI rt)) 1 ((8 * n) + 4) (nI (1 + mm))) 1 ((8 * n) + 5) (nI t)) 1 ((8 * n) + 6) v9) 1 ((8 * n) + 7) 0) ++ bkW y a b n la L) hx hb hK hP hD hS 1 ag_1 ((8 * n) + 7) rfl (by omega) (by decide) as_1 dL_lends_168 (fun H locs hP hD hS => ?_)
        refine lv_iconst (v := 0) hx hb dL_lends_169 (by decide) ?_
        refine lv_istore (lv' := [(8, .int 0), (7, .int (nI (8 * n))), (5, .int (nI n)), (6, .int 1), (0, .ref (a 13)), (1, .int z), (2, .ref (r 1)), (3, .ref (r 2)), (4, .ref (r 0))]) hx hb dL_lends_170 hl (by decide) rfl (fun ls hl => ?_)
        have eW : (u2 (u2 (u2 (u2 (u2 (u2 (u2 (u2 w 1 (8 * n) (nI br)) 1 ((8 * n) + 1) (nI pr)) 1 ((8 * n) + 2) (nI (1 + am))) 1 ((8 * n) + 3) (nI rt)) 1 ((8 * n) + 4) (nI (1 + mm))) 1 ((8 * n) + 5) (nI t)) 1 ((8 * n) + 6) v9) 1 ((8 * n) + 7) 0) = gL8 w n t br pr am rt mm v9 := rfl
        rw [eW] at hP hD
        refine loopM (LV := fun k => [(0, .ref (a 13)), (1, .int z), (2, .ref (r 1)), (3, .ref (r 2)), (4, .ref (r 0)), (5, .int (nI n)), (6, .int 1), (7, .int (nI (8 * n))), (8, .int (nI k))]) (WS := fun k => lwA y r (gFu (gL8 w n t br pr am rt mm v9) n k) ++ bkW y a b n la L) 6 hP hD hS (lv_sub hl [4, 5, 6, 7, 8, 2, 3, 1, 0] rfl) (fun k H locs ls hk_k hP hD hS hl ih_k => ?_) (fun H locs ls hP hD hS hl => ?_)
        · have hl : lv_has ls 9 [(0, .ref (a 13)), (1, .int z), (2, .ref (r 1)), (3, .ref (r 2)), (4, .ref (r 0)), (5, .int (nI n)), (6, .int 1), (7, .int (nI (8 * n))), (8, .int (nI k))] := hl
          have hP : va_P G vwCl (lwA y r (gFu (gL8 w n t br pr am rt mm v9) n k) ++ bkW y a b n la L) H := hP
          have hD : va_D A (lwA y r (gFu (gL8 w n t br pr am rt mm v9) n k) ++ bkW y a b n la L) := hD
          refine lv_iload hx hb dL_lends_172 (lv_at hl 8 rfl) ?_
          refine lv_bipush (v := 6) hx hb dL_lends_174 (by decide) ?_
          refine lv_icmp_ge (tgt := 203) hx hb dL_lends_176 (by decide) (fun c_176 => absurd c_176 (nI_ge hk_k (by decide))) (fun c_176 => ?_)
          refine lv_aload_n hx hb dL_lends_179 rfl (lv_at hl 3 rfl) ?_
          refine lv_bipush (v := 6) hx hb dL_lends_180 (by decide) ?_
          refine lv_iload hx hb dL_lends_182 (lv_at hl 5 rfl) ?_
          refine lv_imul hx hb dL_lends_184 ?_
          refine lv_topE (z := nI (6 * n)) (m8 (a := 6) (b := n)) ?_
          refine lv_iload hx hb dL_lends_185 (lv_at hl 8 rfl) ?_
          refine lv_iadd hx hb dL_lends_187 ?_
          refine lv_topE (z := nI ((6 * n) + k)) (nI_add (6 * n) k) ?_
          refine lv_aload hx hb dL_lends_188 (lv_at hl 4 rfl) ?_
          refine lv_bipush (v := 8) hx hb dL_lends_190 (by decide) ?_
          refine lv_iload hx hb dL_lends_192 (lv_at hl 8 rfl) ?_
          refine lv_iadd hx hb dL_lends_194 ?_
          refine lv_topE (z := nI (8 + k)) (nI_add 8 k) ?_
          refine ldI (f := (gFu (gL8 w n t br pr am rt mm v9) n k) 0) hx hb hK hP 0 ag_0 (8 + k) rfl (by omega) (by decide) dL_lends_195 ?_
          refine lv_topE (z := w 0 (8 + k)) (congrFun ((gFu_o (by decide) k).trans gL8_r0) (8 + k)) ?_
          refine stI (f := (gFu (gL8 w n t br pr am rt mm v9) n k) 2) (ws1 := lwA y r (u2 (gFu (gL8 w n t br pr am rt mm v9) n k) 2 ((6 * n) + k) (w 0 (8 + k))) ++ bkW y a b n la L) hx hb hK hP hD hS 2 ag_2 ((6 * n) + k) rfl (by omega) (by decide) as_2 dL_lends_196 (fun H locs hP hD hS => ?_)
          refine lv_iinc (v := (nI (k + 1))) (lv' := [(8, .int (nI (k + 1))), (0, .ref (a 13)), (1, .int z), (2, .ref (r 1)), (3, .ref (r 2)), (4, .ref (r 0)), (5, .int (nI n)), (6, .int 1), (7, .int (nI (8 * n)))]) hx hb dL_lends_197 hl (k := 8) rfl iinc1 (by decide) rfl (fun ls hl => ?_)
          refine lv_goto (tgt := 172) hx hb dL_lends_200 (by decide) ?_
          have hP : va_P G vwCl (lwA y r (gFu (gL8 w n t br pr am rt mm v9) n (k + 1)) ++ bkW y a b n la L) H := by rw [gFu, gL8_r0]; exact hP
          have hD : va_D A (lwA y r (gFu (gL8 w n t br pr am rt mm v9) n (k + 1)) ++ bkW y a b n la L) := by rw [gFu, gL8_r0]; exact hD
          exact ih_k _ _ ls hP hD hS (lv_sub hl [1, 2, 3, 4, 5, 6, 7, 8, 0] rfl)
        · have hl : lv_has ls 9 [(0, .ref (a 13)), (1, .int z), (2, .ref (r 1)), (3, .ref (r 2)), (4, .ref (r 0)), (5, .int (nI n)), (6, .int 1), (7, .int (nI (8 * n))), (8, .int (nI 6))] := hl
          have hP : va_P G vwCl (lwA y r (gFu (gL8 w n t br pr am rt mm v9) n 6) ++ bkW y a b n la L) H := hP
          have hD : va_D A (lwA y r (gFu (gL8 w n t br pr am rt mm v9) n 6) ++ bkW y a b n la L) := hD
          refine lv_iload hx hb dL_lends_172 (lv_at hl 8 rfl) ?_
          refine lv_bipush (v := 6) hx hb dL_lends_174 (by decide) ?_
          refine lv_icmp_ge (tgt := 203) hx hb dL_lends_176 (by decide) (fun c_176 => ?_) (fun c_176 => absurd (nI_le (Nat.le_refl 6) (by decide)) c_176)
          refine lv_aload hx hb dL_lends_203 (lv_at hl 4 rfl) ?_
          refine lv_iconst (v := 1) hx hb dL_lends_205 (by decide) ?_
          refine lv_dup2_11 hx hb dL_lends_206 rfl rfl ?_
          refine ldI (f := (gFu (gL8 w n t br pr am rt mm v9) n 6) 0) hx hb hK hP 0 ag_0 1 rfl (by decide) (by decide) dL_lends_207 ?_
          refine lv_topE (z := nI n) (by rw [gFu_o (by decide), gL8_r0]; exact hw1) ?_
          refine lv_iconst (v := 1) hx hb dL_lends_208 (by decide) ?_
          refine lv_iadd hx hb dL_lends_209 ?_
          refine lv_topE (z := nI (n + 1)) (nI_add n 1) ?_
          refine stI (f := (gFu (gL8 w n t br pr am rt mm v9) n 6) 0) (ws1 := lwA y r (u2 (gFu (gL8 w n t br pr am rt mm v9) n 6) 0 1 (nI (n + 1))) ++ bkW y a b n la L) hx hb hK hP hD hS 0 ag_0 1 rfl (by decide) (by decide) as_0 dL_lends_210 (fun H locs hP hD hS => ?_)
          refine lv_aload_n hx hb dL_lends_211 rfl (lv_at hl 0 rfl) ?_
          refine lv_aload_n hx hb dL_lends_212 rfl (lv_at hl 2 rfl) ?_
          refine lv_iload hx hb dL_lends_213 (lv_at hl 7 rfl) ?_
          refine ldI (f := (u2 (gFu (gL8 w n t br pr am rt mm v9) n 6) 0 1 (nI (n + 1))) 1) hx hb hK hP 1 ag_1 (8 * n) rfl (by omega) (by decide) dL_lends_215 ?_
          refine lv_topE (z := nI br) ((congrFun ((u2_j (by decide)).trans (gFu_o (by decide) 6)) _).trans gL8v_0) ?_
          refine lv_aload_n hx hb dL_lends_216 rfl (lv_at hl 2 rfl) ?_
          refine lv_iload hx hb dL_lends_217 (lv_at hl 7 rfl) ?_
          refine lv_iconst (v := 1) hx hb dL_lends_219 (by decide) ?_
          refine lv_iadd hx hb dL_lends_220 ?_
          refine lv_topE (z := nI ((8 * n) + 1)) (nI_add (8 * n) 1) ?_
          refine ldI (f := (u2 (gFu (gL8 w n t br pr am rt mm v9) n 6) 0 1 (nI (n + 1))) 1) hx hb hK hP 1 ag_1 ((8 * n) + 1) rfl (by omega) (by decide) dL_lends_221 ?_
          refine lv_topE (z := nI pr) ((congrFun ((u2_j (by decide)).trans (gFu_o (by decide) 6)) _).trans gL8v_1) ?_
          refine lv_aload_n hx hb dL_lends_222 rfl (lv_at hl 2 rfl) ?_
          refine lv_iload hx hb dL_lends_223 (lv_at hl 7 rfl) ?_
          refine lv_iconst (v := 2) hx hb dL_lends_225 (by decide) ?_
          refine lv_iadd hx hb dL_lends_226 ?_
          refine lv_topE (z := nI ((8 * n) + 2)) (nI_add (8 * n) 2) ?_
          refine ldI (f := (u2 (gFu (gL8 w n t br pr am rt mm v9) n 6) 0 1 (nI (n + 1))) 1) hx hb hK hP 1 ag_1 ((8 * n) + 2) rfl (by omega) (by decide) dL_lends_227 ?_
          refine lv_topE (z := nI (1 + am)) ((congrFun ((u2_j (by decide)).trans (gFu_o (by decide) 6)) _).trans gL8v_2) ?_
          refine lv_aload_n hx hb dL_lends_228 rfl (lv_at hl 2 rfl) ?_
          refine lv_iload hx hb dL_lends_229 (lv_at hl 7 rfl) ?_
          refine lv_iconst (v := 3) hx hb dL_lends_231 (by decide) ?_
          refine lv_iadd hx hb dL_lends_232 ?_
          refine lv_topE (z := nI ((8 * n) + 3)) (nI_add (8 * n) 3) ?_
          refine ldI (f := (u2 (gFu (gL8 w n t br pr am rt mm v9) n 6) 0 1 (nI (n + 1))) 1) hx hb hK hP 1 ag_1 ((8 * n) + 3) rfl (by omega) (by decide) dL_lends_233 ?_
          refine lv_topE (z := nI rt) ((congrFun ((u2_j (by decide)).trans (gFu_o (by decide) 6)) _).trans gL8v_3) ?_
          refine lv_aload_n hx hb dL_lends_234 rfl (lv_at hl 2 rfl) ?_
          refine lv_iload hx hb dL_lends_235 (lv_at hl 7 rfl) ?_
          refine lv_iconst (v := 4) hx hb dL_lends_237 (by decide) ?_
          refine lv_iadd hx hb dL_lends_238 ?_
          refine lv_topE (z := nI ((8 * n) + 4)) (nI_add (8 * n) 4) ?_
          refine ldI (f := (u2 (gFu (gL8 w n t br pr am rt mm v9) n 6) 0 1 (nI (n + 1))) 1) hx hb hK hP 1 ag_1 ((8 * n) + 4) rfl (by omega) (by decide) dL_lends_239 ?_
          refine lv_topE (z := nI (1 + mm)) ((congrFun ((u2_j (by decide)).trans (gFu_o (by decide) 6)) _).trans gL8v_4) ?_
          refine lv_aload_n hx hb dL_lends_240 rfl (lv_at hl 2 rfl) ?_
          refine lv_iload hx hb dL_lends_241 (lv_at hl 7 rfl) ?_
          refine lv_bipush (v := 6) hx hb dL_lends_243 (by decide) ?_
          refine lv_iadd hx hb dL_lends_245 ?_
          refine lv_topE (z := nI ((8 * n) + 6)) (nI_add (8 * n) 6) ?_
          refine ldI (f := (u2 (gFu (gL8 w n t br pr am rt mm v9) n 6) 0 1 (nI (n + 1))) 1) hx hb hK hP 1 ag_1 ((8 * n) + 6) rfl (by omega) (by decide) dL_lends_246 ?_
          refine lv_topE (z := v9) ((congrFun ((u2_j (by decide)).trans (gFu_o (by decide) 6)) _).trans gL8v_6) ?_
          refine W.pick (tgt := 255) (st := fun op : Int32 => [.int op, .int (nI (1 + mm)), .int (nI rt), .int (nI (1 + am)), .int (nI pr), .int (nI br), .ref (a 13)]) (P := fun op => op = if 0 ≤ v9 then 1 else 0) (fun op hop => ?_) (fun key => ?_)
          · have hPj := hP
            have hDj := hD
            have hFc : ∀ q, va_A (bkW y a b n la L) H.size q → A q := freeR hDj hS hA
            have hPc : va_P G vwCl (bkW y a b n la L) H := wR hPj
            have hDc : va_D (fun _ => True) (bkW y a b n la L) := (wRD hDj).weaken (fun _ _ _ _ => trivial)
            refine caXN (vx_runV (As := [.int (nI br), .int (nI pr), .int (nI (1 + am)), .int (nI rt), .int (nI (1 + mm)), .int op]) (rest := []) ⟨hx, hb, hml, hown, hts⟩ (c_X2_lend l hlt G y a b n la L H.size (nI br) (nI pr) (nI (1 + am)) (nI rt) (nI (1 + mm)) op hbn hn24 (op01 hop)) (cwV 6 hts gL_lends_X2_lend rfl rfl rfl (by decide +kernel) ⟨Nat.le_of_ble_eq_true rfl, Nat.le_of_ble_eq_true rfl⟩) ⟨xP_bl, va_recv hK.1 hPc (ci := 2) (q0 := 0) rfl rfl, fun U hU hW => ⟨rfl, by rw [hU], by rw [hU]; exact hPc, Kb.moved hW hK, hDc, by rw [hU]; exact Zs.moved hW.alike ((hZ.kept hS.2.1).narrow hFc)⟩⟩ rfl rfl hl.1 rfl (lv_room (Nat.le_of_ble_eq_true rfl)) dL_lends_255 ⟨Nat.le_of_ble_eq_true rfl, Nat.le_of_ble_eq_true rfl⟩) hS hFc hFc (fun E ce q9 H locs hE _ _ _ _ _ _ _ => absurd (xLn0 hn7 h_br h_pr (by omega) h_rt h_mm) hE.2) (fun u H locs _ hP1 hD1 hk1 hS => ?_)
            obtain ⟨hP, hD⟩ := joinW hPj hDj hk1 hP1 hD1 hFc
            refine lv_iload hx hb dL_lends_258 (lv_at hl 5 rfl) ?_
            refine lv_icmp_ne (tgt := 267) hx hb dL_lends_260 (by decide) (fun c_260 => absurd rfl c_260) (fun c_260 => ?_)
            refine lv_iconst (v := 1) hx hb dL_lends_263 (by decide) ?_
            refine lv_goto (tgt := 268) hx hb dL_lends_264 (by decide) ?_
            exact W.zret (v := 1) hx hb hr rfl (fun t9 ht9 hW => ⟨⟨(gLend w n t br pr am rt mm v9, u2 b 13 6 (nI (n + 1)), n + 1, (fun i j => if i = n then u j else la i j), (fun i => if i = n then lNew (nI br) (nI pr) (nI rt) op (bOr b op) (cR (nI (1 + am)) (nI (1 + am) / nI (1 + mm)) (cn (nI (1 + mm))) 6) (b 0) else L i)), rfl, ⟨t, _, _, _, s_lend h hn7 h_br h_pr (Nat.lt_of_lt_of_le h_am hM9.2) h_mm hv9 hop⟩, by rw [ht9]; exact hP, hD⟩, hS.F ht9⟩) hS.2.2 dL_lends_268
          · refine lv_if_lt (tgt := 254) hx hb dL_lends_247 (by decide) (fun c_247 => ?_) (fun c_247 => ?_)
            · refine lv_iconst (v := 0) hx hb dL_lends_254 (by decide) ?_
              exact key _ (by rw [if_neg (Int32.not_le.mpr c_247)])
            · refine lv_iconst (v := 1) hx hb dL_lends_250 (by decide) ?_
              refine lv_goto (tgt := 255) hx hb dL_lends_251 (by decide) ?_
              exact key _ (by rw [if_pos (Int32.not_lt.mp c_247)])
      · refine lv_if_ne (tgt := 156) hx hb dL_lends_149 (by decide) (fun c_149 => ?_) (fun c_149 => ?_)
        · refine lv_aload hx hb dL_lends_156 (lv_at hl 7 rfl) ?_
          refine lv_iconst (v := 3) hx hb dL_lends_158 (by decide) ?_
          refine ldI (f := (u2 (u2 (u2 (u2 (u2 (u2 w 1 (8 * n) (nI br)) 1 ((8 * n) + 1) (nI pr)) 1 ((8 * n) + 2) (nI (1 + am))) 1 ((8 * n) + 3) (nI rt)) 1 ((8 * n) + 4) (nI (1 + mm))) 1 ((8 * n) + 5) (nI t)) 0) hx hb hK hP 0 ag_0 3 rfl (by decide) (by decide) dL_lends_159 ?_
          refine lv_topE (z := w 0 3) (by rw [u2_j (by decide), u2_j (by decide), u2_j (by decide), u2_j (by decide), u2_j (by decide), u2_j (by decide)]) ?_
          exact key _ (Or.inr rfl)
        · refine lv_iconst (v := (-1)) hx hb dL_lends_152 (by decide) ?_
          refine lv_goto (tgt := 160) hx hb dL_lends_153 (by decide) ?_
          exact key _ (Or.inl rfl)
    · refine lv_if_ne (tgt := 86) hx hb dL_lends_78 (by decide) (fun c_78 => ?_) (fun c_78 => ?_)
      · refine lv_ldc (v := 900000) hx hb hown (hts (.constant RL 93 900000) (by decide +kernel)) dL_lends_86 ?_
        exact key 900000 ⟨by decide, by decide⟩
      · refine lv_ldc (v := 10000000) hx hb hown (hts (.constant RL 92 10000000) (by decide +kernel)) dL_lends_81 ?_
        refine lv_goto (tgt := 88) hx hb dL_lends_83 (by decide) ?_
        exact key 10000000 ⟨by decide, by decide⟩
