/-! ===== loans, replica, the book's reads (printed by a program of mine) ===== -/
set_option maxHeartbeats 4000000 in
set_option maxRecDepth 100000 in
theorem c_X2_forOneMonth (l : Launch) (x : Int64) : Met l yX2_forOneMonth wsX2_forOneMonth ({ frames := 0, cells := 0, slots := 0, locals := 0 }) (nP [.long x]) (QcV (.int (d12 x))) 0 0 (fun _ => False) := by
  refine Met.ofW (cc := cX2_forOneMonth) (maxL := 2) (ret := (some .int)) (by decide) rfl ?_
  intro p e s m args below meth c s₁ B hml hv
  obtain ⟨rfl, -⟩ := hv
  have hx := B.exec
  have hb := B.bytes
  have hr := B.returns
  have hts := atoms_spec (ws := wsX2_forOneMonth) B.pre
  have hown : s.vm.findClass RX2 = some m.cls := findClass_of_methodNamed B.named
  have hlocks := B.notSynchronized
  have hl := lv_entry ([.long x]) (n := 2) (Nat.le_of_ble_eq_true rfl)
  rw [lg_entry_eq]
  generalize (lg_sl ([.long x]) ++ List.replicate (2 - (lg_sl ([.long x])).length) Slot.unset).toArray = ls at hl ⊢
  have hl : lv_has ls 2 [(0, .long x)] := hl
  refine lv_lload_n hx hb dX2_forOneMonth_0 rfl (lv_at hl 0 rfl) ?_
  refine lv_ldc2 (v := 120000) hx hb hown (hts (.constantLong RX2 187 120000) (by decide +kernel)) dX2_forOneMonth_1 ?_
  refine lv_ldiv hx hb dX2_forOneMonth_4 (by decide) ?_
  refine lv_l2i hx hb dX2_forOneMonth_5 rfl ?_
  exact W.iret (v := (x / 120000).toInt32) hx hb hr (fun t ht hW => ⟨congrArg (fun z => Outcome.returned (some (.int z))) (rfl), ht⟩) t_nil dX2_forOneMonth_6
set_option maxHeartbeats 4000000 in
set_option maxRecDepth 100000 in
theorem c_X0_unpaid (l : Launch) (G : va_G) (y : Nat → ClassId) (la : Nat → Nat → Nat) (L : LNS) (i : Nat) (pq : Nat) (hp : L i 0 7 = nI pq) (hp6 : pq ≤ 6) : Met l yX0_unpaid wsX0_unpaid ({ frames := 0, cells := 0, slots := 0, locals := 0 }) (rP G y [.ref (la i 0)] (lnC y la L i)) (QcV (.int (lUnp (L i) pq))) 0 0 (fun _ => False) := by
  refine Met.ofW (cc := cX0_unpaid) (maxL := 3) (ret := (some .int)) (by decide) rfl ?_
  intro p e s m args below meth c s₁ B hml hv
  obtain ⟨rfl, hP, hK⟩ := hv
  have hx := B.exec
  have hb := B.bytes
  have hr := B.returns
  have hts := atoms_spec (ws := wsX0_unpaid) B.pre
  have hown : s.vm.findClass RX0 = some m.cls := findClass_of_methodNamed B.named
  have hlocks := B.notSynchronized
  have hl := lv_entry ([.ref (la i 0)]) (n := 3) (Nat.le_of_ble_eq_true rfl)
  rw [lg_entry_eq]
  generalize (lg_sl ([.ref (la i 0)]) ++ List.replicate (3 - (lg_sl ([.ref (la i 0)])).length) Slot.unset).toArray = ls at hl ⊢
  have hin0 : ∀ w ∈ wsX00, w ∈ wsX0_unpaid := by decide +kernel
  have hl : lv_has ls 3 [(0, .ref (la i 0))] := hl
  refine lv_iconst (v := 0) hx hb dX0_unpaid_0 (by decide) ?_
  refine lv_istore_n (lv' := [(1, .int 0), (0, .ref (la i 0))]) hx hb dX0_unpaid_1 rfl hl (by decide) rfl (fun ls hl => ?_)
  refine lv_aload_n hx hb dX0_unpaid_2 rfl (lv_at hl 1 rfl) ?_
  refine lnG (i := i) (val := .int (L i 0 7)) hx hb hts hin0 hown hK hP 7 (by decide) (hts (.fieldLink RX0 35 "FundBook$Loan" "paidParts" "I") (by decide +kernel)) rfl dX0_unpaid_3 ?_
  refine lv_topE (z := nI pq) (hp) ?_
  refine lv_istore_n (lv' := [(2, .int (nI pq)), (1, .int 0), (0, .ref (la i 0))]) hx hb dX0_unpaid_6 rfl hl (by decide) rfl (fun ls hl => ?_)
  refine loopF (LV := fun k => [(0, .ref (la i 0)), (1, .int (S32 (lPt (L i) pq) k)), (2, .int (nI k))]) pq 6 hp6 (by show lv_has ls 3 [(0, .ref (la i 0)), (1, .int (S32 (lPt (L i) pq) pq)), (2, .int (nI pq))]; rw [lPt_z]; exact lv_sub hl [2, 1, 0] rfl) (fun k ls hk0 hk_k hl ih_k => ?_) (fun ls hl => ?_)
  · have hl : lv_has ls 3 [(0, .ref (la i 0)), (1, .int (S32 (lPt (L i) pq) k)), (2, .int (nI k))] := hl
    refine lv_iload_n hx hb dX0_unpaid_7 rfl (lv_at hl 2 rfl) ?_
    refine lv_bipush (v := 6) hx hb dX0_unpaid_8 (by decide) ?_
    refine lv_icmp_ge (tgt := 28) hx hb dX0_unpaid_10 (by decide) (fun c_10 => absurd c_10 (nI_ge hk_k (by decide))) (fun c_10 => ?_)
    refine lv_iload_n hx hb dX0_unpaid_13 rfl (lv_at hl 1 rfl) ?_
    refine lv_aload_n hx hb dX0_unpaid_14 rfl (lv_at hl 0 rfl) ?_
    refine lnG (i := i) (val := .ref (la i 1)) hx hb hts hin0 hown hK hP 5 (by decide) (hts (.fieldLink RX0 28 "FundBook$Loan" "parts" "[I") (by decide +kernel)) rfl dX0_unpaid_15 ?_
    refine lv_iload_n hx hb dX0_unpaid_18 rfl (lv_at hl 2 rfl) ?_
    refine ldI (f := L i 1) hx hb hK hP 1 rfl k rfl (by omega) (by decide) dX0_unpaid_19 ?_
    refine lv_iadd hx hb dX0_unpaid_20 ?_
    refine lv_topE (z := S32 (lPt (L i) pq) (k + 1)) (lPt_s hk0) ?_
    refine lv_istore_n (lv' := [(1, .int (S32 (lPt (L i) pq) (k + 1))), (0, .ref (la i 0)), (2, .int (nI k))]) hx hb dX0_unpaid_21 rfl hl (by decide) rfl (fun ls hl => ?_)
    refine lv_iinc (v := (nI (k + 1))) (lv' := [(2, .int (nI (k + 1))), (1, .int (S32 (lPt (L i) pq) (k + 1))), (0, .ref (la i 0))]) hx hb dX0_unpaid_22 hl (k := 2) rfl iinc1 (by decide) rfl (fun ls hl => ?_)
    refine lv_goto (tgt := 7) hx hb dX0_unpaid_25 (by decide) ?_
    exact ih_k ls (lv_sub hl [2, 1, 0] rfl)
  · have hl : lv_has ls 3 [(0, .ref (la i 0)), (1, .int (S32 (lPt (L i) pq) 6)), (2, .int (nI 6))] := hl
    refine lv_iload_n hx hb dX0_unpaid_7 rfl (lv_at hl 2 rfl) ?_
    refine lv_bipush (v := 6) hx hb dX0_unpaid_8 (by decide) ?_
    refine lv_icmp_ge (tgt := 28) hx hb dX0_unpaid_10 (by decide) (fun c_10 => ?_) (fun c_10 => absurd (nI_le (Nat.le_refl 6) (by decide)) c_10)
    refine lv_iload_n hx hb dX0_unpaid_28 rfl (lv_at hl 1 rfl) ?_
    exact W.iret (v := S32 (lPt (L i) pq) 6) hx hb hr (fun t ht hW => ⟨congrArg (fun z => Outcome.returned (some (.int z))) (rfl), ht⟩) t_nil dX0_unpaid_29
set_option maxHeartbeats 4000000 in
set_option maxRecDepth 100000 in
theorem c_X0_funding (l : Launch) (G : va_G) (y : Nat → ClassId) (la : Nat → Nat → Nat) (L : LNS) (i : Nat) (pq : Nat) (hp : L i 0 7 = nI pq) (hp6 : pq ≤ 6) : Met l yX0_funding wsX0_funding ({ frames := 1, cells := 0, slots := 0, locals := 21 }) (rP G y [.ref (la i 0)] (lnC y la L i)) (QcV (.int (lFund (L i) pq))) 0 0 (fun _ => False) := by
  refine Met.ofW (cc := cX0_funding) (maxL := 4) (ret := (some .int)) (by decide) rfl ?_
  intro p e s m args below meth c s₁ B hml hv
  obtain ⟨rfl, hP, hK⟩ := hv
  have hx := B.exec
  have hb := B.bytes
  have hr := B.returns
  have hts := atoms_spec (ws := wsX0_funding) B.pre
  have hown : s.vm.findClass RX0 = some m.cls := findClass_of_methodNamed B.named
  have hlocks := B.notSynchronized
  have hl := lv_entry ([.ref (la i 0)]) (n := 4) (Nat.le_of_ble_eq_true rfl)
  rw [lg_entry_eq]
  generalize (lg_sl ([.ref (la i 0)]) ++ List.replicate (4 - (lg_sl ([.ref (la i 0)])).length) Slot.unset).toArray = ls at hl ⊢
  have hin0 : ∀ w ∈ wsX00, w ∈ wsX0_funding := by decide +kernel
  have hl : lv_has ls 4 [(0, .ref (la i 0))] := hl
  refine lv_lconst (v := 0) hx hb dX0_funding_0 (by decide) ?_
  refine lv_lstore_n (lv' := [(1, .long 0), (0, .ref (la i 0))]) hx hb dX0_funding_1 rfl hl (by decide) rfl (fun ls hl => ?_)
  refine lv_aload_n hx hb dX0_funding_2 rfl (lv_at hl 1 rfl) ?_
  refine lnG (i := i) (val := .int (L i 0 7)) hx hb hts hin0 hown hK hP 7 (by decide) (hts (.fieldLink RX0 35 "FundBook$Loan" "paidParts" "I") (by decide +kernel)) rfl dX0_funding_3 ?_
  refine lv_topE (z := nI pq) (hp) ?_
  refine lv_istore_n (lv' := [(3, .int (nI pq)), (1, .long 0), (0, .ref (la i 0))]) hx hb dX0_funding_6 rfl hl (by decide) rfl (fun ls hl => ?_)
  refine loopF (LV := fun k => [(0, .ref (la i 0)), (1, .long (S64 (lFd (L i) pq) k)), (3, .int (nI k))]) pq 6 hp6 (by show lv_has ls 4 [(0, .ref (la i 0)), (1, .long (S64 (lFd (L i) pq) pq)), (3, .int (nI pq))]; rw [lFd_z]; exact lv_sub hl [2, 1, 0] rfl) (fun k ls hk0 hk_k hl ih_k => ?_) (fun ls hl => ?_)
  · have hl : lv_has ls 4 [(0, .ref (la i 0)), (1, .long (S64 (lFd (L i) pq) k)), (3, .int (nI k))] := hl
    refine lv_iload_n hx hb dX0_funding_7 rfl (lv_at hl 2 rfl) ?_
    refine lv_bipush (v := 6) hx hb dX0_funding_8 (by decide) ?_
    refine lv_icmp_ge (tgt := 37) hx hb dX0_funding_10 (by decide) (fun c_10 => absurd c_10 (nI_ge hk_k (by decide))) (fun c_10 => ?_)
    refine lv_lload_n hx hb dX0_funding_13 rfl (lv_at hl 1 rfl) ?_
    refine lv_aload_n hx hb dX0_funding_14 rfl (lv_at hl 0 rfl) ?_
    refine lnG (i := i) (val := .ref (la i 1)) hx hb hts hin0 hown hK hP 5 (by decide) (hts (.fieldLink RX0 28 "FundBook$Loan" "parts" "[I") (by decide +kernel)) rfl dX0_funding_15 ?_
    refine lv_iload_n hx hb dX0_funding_18 rfl (lv_at hl 2 rfl) ?_
    refine ldI (f := L i 1) hx hb hK hP 1 rfl k rfl (by omega) (by decide) dX0_funding_19 ?_
    refine lv_i2l hx hb dX0_funding_20 rfl ?_
    refine lv_aload_n hx hb dX0_funding_21 rfl (lv_at hl 0 rfl) ?_
    refine lnG (i := i) (val := .ref (la i 2)) hx hb hts hin0 hown hK hP 6 (by decide) (hts (.fieldLink RX0 32 "FundBook$Loan" "fundingRates" "[I") (by decide +kernel)) rfl dX0_funding_22 ?_
    refine lv_iload_n hx hb dX0_funding_25 rfl (lv_at hl 2 rfl) ?_
    refine ldI (f := L i 2) hx hb hK hP 2 rfl k rfl (by omega) (by decide) dX0_funding_26 ?_
    refine lv_i2l hx hb dX0_funding_27 rfl ?_
    refine lv_lmul hx hb dX0_funding_28 ?_
    refine lv_ladd hx hb dX0_funding_29 ?_
    refine lv_topEl (z := S64 (lFd (L i) pq) (k + 1)) (lFd_s hk0) ?_
    refine lv_lstore_n (lv' := [(1, .long (S64 (lFd (L i) pq) (k + 1))), (0, .ref (la i 0)), (3, .int (nI k))]) hx hb dX0_funding_30 rfl hl (by decide) rfl (fun ls hl => ?_)
    refine lv_iinc (v := (nI (k + 1))) (lv' := [(3, .int (nI (k + 1))), (1, .long (S64 (lFd (L i) pq) (k + 1))), (0, .ref (la i 0))]) hx hb dX0_funding_31 hl (k := 2) rfl iinc1 (by decide) rfl (fun ls hl => ?_)
    refine lv_goto (tgt := 7) hx hb dX0_funding_34 (by decide) ?_
    exact ih_k ls (lv_sub hl [2, 1, 0] rfl)
  · have hl : lv_has ls 4 [(0, .ref (la i 0)), (1, .long (S64 (lFd (L i) pq) 6)), (3, .int (nI 6))] := hl
    refine lv_iload_n hx hb dX0_funding_7 rfl (lv_at hl 2 rfl) ?_
    refine lv_bipush (v := 6) hx hb dX0_funding_8 (by decide) ?_
    refine lv_icmp_ge (tgt := 37) hx hb dX0_funding_10 (by decide) (fun c_10 => ?_) (fun c_10 => absurd (nI_le (Nat.le_refl 6) (by decide)) c_10)
    refine lv_lload_n hx hb dX0_funding_37 rfl (lv_at hl 1 rfl) ?_
    refine caR (r := .int (lFund (L i) pq)) (va_runSN (As := [.long (S64 (lFd (L i) pq) 6)]) (rest := []) ⟨hx, hb, hml, hown, hts⟩ (c_X2_forOneMonth l _) ⟨va_cnB (host := "FundBook") 1 hts gX0_funding_X2_forOneMonth_n42 rfl rfl rfl (hK.nw (by decide +kernel)) (hts (.initialized RX2) (by decide +kernel)) (by decide +kernel) ⟨Nat.le_of_ble_eq_true rfl, Nat.le_of_ble_eq_true rfl⟩, hts (.static yX2_forOneMonth) (by decide +kernel), trivial⟩ ⟨nP_bl, fun _ _ _ => ⟨rfl, trivial⟩⟩ rfl rfl hl.1 rfl (lv_room (Nat.le_of_ble_eq_true rfl)) dX0_funding_38 ⟨Nat.le_of_ble_eq_true rfl, Nat.le_of_ble_eq_true rfl⟩) ?_
    exact W.iret (v := lFund (L i) pq) hx hb hr (fun t ht hW => ⟨congrArg (fun z => Outcome.returned (some (.int z))) (rfl), ht⟩) t_nil dX0_funding_41
set_option maxHeartbeats 4000000 in
set_option maxRecDepth 100000 in
theorem c_X0_customerInterest (l : Launch) (G : va_G) (y : Nat → ClassId) (la : Nat → Nat → Nat) (L : LNS) (i : Nat) (pq : Nat) (hp : L i 0 7 = nI pq) (hp6 : pq ≤ 6) : Met l yX0_customerInterest wsX0_customerInterest ({ frames := 1, cells := 0, slots := 0, locals := 22 }) (rP G y [.ref (la i 0)] (lnC y la L i)) (QcV (.int (lCust (L i) pq))) 0 0 (fun _ => False) := by
  refine Met.ofW (cc := cX0_customerInterest) (maxL := 1) (ret := (some .int)) (by decide) rfl ?_
  intro p e s m args below meth c s₁ B hml hv
  obtain ⟨rfl, hP, hK⟩ := hv
  have hx := B.exec
  have hb := B.bytes
  have hr := B.returns
  have hts := atoms_spec (ws := wsX0_customerInterest) B.pre
  have hown : s.vm.findClass RX0 = some m.cls := findClass_of_methodNamed B.named
  have hlocks := B.notSynchronized
  have hl := lv_entry ([.ref (la i 0)]) (n := 1) (Nat.le_of_ble_eq_true rfl)
  rw [lg_entry_eq]
  generalize (lg_sl ([.ref (la i 0)]) ++ List.replicate (1 - (lg_sl ([.ref (la i 0)])).length) Slot.unset).toArray = ls at hl ⊢
  have hin0 : ∀ w ∈ wsX00, w ∈ wsX0_customerInterest := by decide +kernel
  have hl : lv_has ls 1 [(0, .ref (la i 0))] := hl
  refine lv_aload_n hx hb dX0_customerInterest_0 rfl (lv_at hl 0 rfl) ?_
  refine caR (r := .int (lUnp (L i) pq)) (va_runV (As := []) (rest := []) ⟨hx, hb, hml, hown, hts⟩ (c_X0_unpaid l G y la L i pq hp hp6) (cwV 0 hts gX0_customerInterest_X0_unpaid rfl rfl rfl (by decide +kernel) ⟨Nat.le_of_ble_eq_true rfl, Nat.le_of_ble_eq_true rfl⟩) ⟨rP_bl, va_recv hK.1 hP (ci := 0) (q0 := 0) rfl rfl, fun U hU hW => ⟨rfl, by rw [hU]; exact hP, Kb.moved hW hK⟩⟩ rfl rfl hl.1 rfl (lv_room (Nat.le_of_ble_eq_true rfl)) dX0_customerInterest_1 ⟨Nat.le_of_ble_eq_true rfl, Nat.le_of_ble_eq_true rfl⟩) ?_
  refine lv_i2l hx hb dX0_customerInterest_4 rfl ?_
  refine lv_aload_n hx hb dX0_customerInterest_5 rfl (lv_at hl 0 rfl) ?_
  refine lnG (i := i) (val := .int (L i 0 2)) hx hb hts hin0 hown hK hP 2 (by decide) (hts (.fieldLink RX0 18 "FundBook$Loan" "rate" "I") (by decide +kernel)) rfl dX0_customerInterest_6 ?_
  refine lv_i2l hx hb dX0_customerInterest_9 rfl ?_
  refine lv_lmul hx hb dX0_customerInterest_10 ?_
  refine caR (r := .int (lCust (L i) pq)) (va_runSN (As := [.long ((lUnp (L i) pq).toInt64 * (L i 0 2).toInt64)]) (rest := []) ⟨hx, hb, hml, hown, hts⟩ (c_X2_forOneMonth l _) ⟨va_cnB (host := "FundBook") 1 hts gX0_customerInterest_X2_forOneMonth_n42 rfl rfl rfl (hK.nw (by decide +kernel)) (hts (.initialized RX2) (by decide +kernel)) (by decide +kernel) ⟨Nat.le_of_ble_eq_true rfl, Nat.le_of_ble_eq_true rfl⟩, hts (.static yX2_forOneMonth) (by decide +kernel), trivial⟩ ⟨nP_bl, fun _ _ _ => ⟨rfl, trivial⟩⟩ rfl rfl hl.1 rfl (lv_room (Nat.le_of_ble_eq_true rfl)) dX0_customerInterest_11 ⟨Nat.le_of_ble_eq_true rfl, Nat.le_of_ble_eq_true rfl⟩) ?_
  exact W.iret (v := lCust (L i) pq) hx hb hr (fun t ht hW => ⟨congrArg (fun z => Outcome.returned (some (.int z))) (rfl), ht⟩) t_nil dX0_customerInterest_14
set_option maxHeartbeats 4000000 in
set_option maxRecDepth 100000 in
theorem c_X0_optionCharge (l : Launch) (G : va_G) (y : Nat → ClassId) (la : Nat → Nat → Nat) (L : LNS) (i : Nat) (pq : Nat) (hp : L i 0 7 = nI pq) (hp6 : pq ≤ 6) : Met l yX0_optionCharge wsX0_optionCharge ({ frames := 1, cells := 0, slots := 0, locals := 22 }) (rP G y [.ref (la i 0)] (lnC y la L i)) (QcV (.int (lOpt (L i) pq))) 0 0 (fun _ => False) := by
  refine Met.ofW (cc := cX0_optionCharge) (maxL := 1) (ret := (some .int)) (by decide) rfl ?_
  intro p e s m args below meth c s₁ B hml hv
  obtain ⟨rfl, hP, hK⟩ := hv
  have hx := B.exec
  have hb := B.bytes
  have hr := B.returns
  have hts := atoms_spec (ws := wsX0_optionCharge) B.pre
  have hown : s.vm.findClass RX0 = some m.cls := findClass_of_methodNamed B.named
  have hlocks := B.notSynchronized
  have hl := lv_entry ([.ref (la i 0)]) (n := 1) (Nat.le_of_ble_eq_true rfl)
  rw [lg_entry_eq]
  generalize (lg_sl ([.ref (la i 0)]) ++ List.replicate (1 - (lg_sl ([.ref (la i 0)])).length) Slot.unset).toArray = ls at hl ⊢
  have hin0 : ∀ w ∈ wsX00, w ∈ wsX0_optionCharge := by decide +kernel
  have hl : lv_has ls 1 [(0, .ref (la i 0))] := hl
  refine lv_aload_n hx hb dX0_optionCharge_0 rfl (lv_at hl 0 rfl) ?_
  refine caR (r := .int (lUnp (L i) pq)) (va_runV (As := []) (rest := []) ⟨hx, hb, hml, hown, hts⟩ (c_X0_unpaid l G y la L i pq hp hp6) (cwV 0 hts gX0_optionCharge_X0_unpaid rfl rfl rfl (by decide +kernel) ⟨Nat.le_of_ble_eq_true rfl, Nat.le_of_ble_eq_true rfl⟩) ⟨rP_bl, va_recv hK.1 hP (ci := 0) (q0 := 0) rfl rfl, fun U hU hW => ⟨rfl, by rw [hU]; exact hP, Kb.moved hW hK⟩⟩ rfl rfl hl.1 rfl (lv_room (Nat.le_of_ble_eq_true rfl)) dX0_optionCharge_1 ⟨Nat.le_of_ble_eq_true rfl, Nat.le_of_ble_eq_true rfl⟩) ?_
  refine lv_i2l hx hb dX0_optionCharge_4 rfl ?_
  refine lv_aload_n hx hb dX0_optionCharge_5 rfl (lv_at hl 0 rfl) ?_
  refine lnG (i := i) (val := .int (L i 0 4)) hx hb hts hin0 hown hK hP 4 (by decide) (hts (.fieldLink RX0 25 "FundBook$Loan" "optionRate" "I") (by decide +kernel)) rfl dX0_optionCharge_6 ?_
  refine lv_i2l hx hb dX0_optionCharge_9 rfl ?_
  refine lv_lmul hx hb dX0_optionCharge_10 ?_
  refine caR (r := .int (lOpt (L i) pq)) (va_runSN (As := [.long ((lUnp (L i) pq).toInt64 * (L i 0 4).toInt64)]) (rest := []) ⟨hx, hb, hml, hown, hts⟩ (c_X2_forOneMonth l _) ⟨va_cnB (host := "FundBook") 1 hts gX0_optionCharge_X2_forOneMonth_n42 rfl rfl rfl (hK.nw (by decide +kernel)) (hts (.initialized RX2) (by decide +kernel)) (by decide +kernel) ⟨Nat.le_of_ble_eq_true rfl, Nat.le_of_ble_eq_true rfl⟩, hts (.static yX2_forOneMonth) (by decide +kernel), trivial⟩ ⟨nP_bl, fun _ _ _ => ⟨rfl, trivial⟩⟩ rfl rfl hl.1 rfl (lv_room (Nat.le_of_ble_eq_true rfl)) dX0_optionCharge_11 ⟨Nat.le_of_ble_eq_true rfl, Nat.le_of_ble_eq_true rfl⟩) ?_
  exact W.iret (v := lOpt (L i) pq) hx hb hr (fun t ht hW => ⟨congrArg (fun z => Outcome.returned (some (.int z))) (rfl), ht⟩) t_nil dX0_optionCharge_14
set_option maxHeartbeats 4000000 in
set_option maxRecDepth 100000 in
theorem c_X0_ownMargin (l : Launch) (G : va_G) (y : Nat → ClassId) (la : Nat → Nat → Nat) (L : LNS) (i : Nat) (pq : Nat) (hp : L i 0 7 = nI pq) (hp6 : pq ≤ 6) : Met l yX0_ownMargin wsX0_ownMargin ({ frames := 2, cells := 0, slots := 0, locals := 44 }) (rP G y [.ref (la i 0)] (lnC y la L i)) (QcV (.int (lOwn (L i) pq))) 0 0 (fun _ => False) := by
  refine Met.ofW (cc := cX0_ownMargin) (maxL := 1) (ret := (some .int)) (by decide) rfl ?_
  intro p e s m args below meth c s₁ B hml hv
  obtain ⟨rfl, hP, hK⟩ := hv
  have hx := B.exec
  have hb := B.bytes
  have hr := B.returns
  have hts := atoms_spec (ws := wsX0_ownMargin) B.pre
  have hown : s.vm.findClass RX0 = some m.cls := findClass_of_methodNamed B.named
  have hlocks := B.notSynchronized
  have hl := lv_entry ([.ref (la i 0)]) (n := 1) (Nat.le_of_ble_eq_true rfl)
  rw [lg_entry_eq]
  generalize (lg_sl ([.ref (la i 0)]) ++ List.replicate (1 - (lg_sl ([.ref (la i 0)])).length) Slot.unset).toArray = ls at hl ⊢
  have hl : lv_has ls 1 [(0, .ref (la i 0))] := hl
  refine lv_aload_n hx hb dX0_ownMargin_0 rfl (lv_at hl 0 rfl) ?_
  refine caR (r := .int (lCust (L i) pq)) (va_runV (As := []) (rest := []) ⟨hx, hb, hml, hown, hts⟩ (c_X0_customerInterest l G y la L i pq hp hp6) (cwV 0 hts gX0_ownMargin_X0_customerInterest rfl rfl rfl (by decide +kernel) ⟨Nat.le_of_ble_eq_true rfl, Nat.le_of_ble_eq_true rfl⟩) ⟨rP_bl, va_recv hK.1 hP (ci := 0) (q0 := 0) rfl rfl, fun U hU hW => ⟨rfl, by rw [hU]; exact hP, Kb.moved hW hK⟩⟩ rfl rfl hl.1 rfl (lv_room (Nat.le_of_ble_eq_true rfl)) dX0_ownMargin_1 ⟨Nat.le_of_ble_eq_true rfl, Nat.le_of_ble_eq_true rfl⟩) ?_
  refine lv_aload_n hx hb dX0_ownMargin_4 rfl (lv_at hl 0 rfl) ?_
  refine caR (r := .int (lFund (L i) pq)) (va_runV (As := []) (rest := [.int (lCust (L i) pq)]) ⟨hx, hb, hml, hown, hts⟩ (c_X0_funding l G y la L i pq hp hp6) (cwV 0 hts gX0_ownMargin_X0_funding rfl rfl rfl (by decide +kernel) ⟨Nat.le_of_ble_eq_true rfl, Nat.le_of_ble_eq_true rfl⟩) ⟨rP_bl, va_recv hK.1 hP (ci := 0) (q0 := 0) rfl rfl, fun U hU hW => ⟨rfl, by rw [hU]; exact hP, Kb.moved hW hK⟩⟩ rfl rfl hl.1 rfl (lv_room (Nat.le_of_ble_eq_true rfl)) dX0_ownMargin_5 ⟨Nat.le_of_ble_eq_true rfl, Nat.le_of_ble_eq_true rfl⟩) ?_
  refine lv_isub hx hb dX0_ownMargin_8 ?_
  refine lv_aload_n hx hb dX0_ownMargin_9 rfl (lv_at hl 0 rfl) ?_
  refine caR (r := .int (lOpt (L i) pq)) (va_runV (As := []) (rest := [.int (lCust (L i) pq - lFund (L i) pq)]) ⟨hx, hb, hml, hown, hts⟩ (c_X0_optionCharge l G y la L i pq hp hp6) (cwV 0 hts gX0_ownMargin_X0_optionCharge rfl rfl rfl (by decide +kernel) ⟨Nat.le_of_ble_eq_true rfl, Nat.le_of_ble_eq_true rfl⟩) ⟨rP_bl, va_recv hK.1 hP (ci := 0) (q0 := 0) rfl rfl, fun U hU hW => ⟨rfl, by rw [hU]; exact hP, Kb.moved hW hK⟩⟩ rfl rfl hl.1 rfl (lv_room (Nat.le_of_ble_eq_true rfl)) dX0_ownMargin_10 ⟨Nat.le_of_ble_eq_true rfl, Nat.le_of_ble_eq_true rfl⟩) ?_
  refine lv_isub hx hb dX0_ownMargin_13 ?_
  exact W.iret (v := ((lCust (L i) pq - lFund (L i) pq) - lOpt (L i) pq)) hx hb hr (fun t ht hW => ⟨congrArg (fun z => Outcome.returned (some (.int z))) (rfl), ht⟩) t_nil dX0_ownMargin_14
set_option maxHeartbeats 4000000 in
set_option maxRecDepth 100000 in
theorem c_X0_partAhead (l : Launch) (G : va_G) (y : Nat → ClassId) (la : Nat → Nat → Nat) (L : LNS) (i : Nat) (pq : Nat) (hp : L i 0 7 = nI pq) (hp6 : pq ≤ 6) (x : Nat) (hx5 : x ≤ 5) : Met l yX0_partAhead wsX0_partAhead ({ frames := 0, cells := 0, slots := 0, locals := 0 }) (rP G y [.ref (la i 0), .int (nI x)] (lnC y la L i)) (QcV (.int (lAh (L i) pq x))) 0 0 (fun _ => False) := by
  refine Met.ofW (cc := cX0_partAhead) (maxL := 3) (ret := (some .int)) (by decide) rfl ?_
  intro p e s m args below meth c s₁ B hml hv
  obtain ⟨rfl, hP, hK⟩ := hv
  have hx := B.exec
  have hb := B.bytes
  have hr := B.returns
  have hts := atoms_spec (ws := wsX0_partAhead) B.pre
  have hown : s.vm.findClass RX0 = some m.cls := findClass_of_methodNamed B.named
  have hlocks := B.notSynchronized
  have hl := lv_entry ([.ref (la i 0), .int (nI x)]) (n := 3) (Nat.le_of_ble_eq_true rfl)
  rw [lg_entry_eq]
  generalize (lg_sl ([.ref (la i 0), .int (nI x)]) ++ List.replicate (3 - (lg_sl ([.ref (la i 0), .int (nI x)])).length) Slot.unset).toArray = ls at hl ⊢
  have hin0 : ∀ w ∈ wsX00, w ∈ wsX0_partAhead := by decide +kernel
  have hl : lv_has ls 3 [(0, .ref (la i 0)), (1, .int (nI x))] := hl
  refine lv_aload_n hx hb dX0_partAhead_0 rfl (lv_at hl 0 rfl) ?_
  refine lnG (i := i) (val := .int (L i 0 7)) hx hb hts hin0 hown hK hP 7 (by decide) (hts (.fieldLink RX0 35 "FundBook$Loan" "paidParts" "I") (by decide +kernel)) rfl dX0_partAhead_1 ?_
  refine lv_topE (z := nI pq) (hp) ?_
  refine lv_iload_n hx hb dX0_partAhead_4 rfl (lv_at hl 1 rfl) ?_
  refine lv_iadd hx hb dX0_partAhead_5 ?_
  refine lv_topE (z := nI (pq + x)) (nI_add pq x) ?_
  refine lv_istore_n (lv' := [(2, .int (nI (pq + x))), (0, .ref (la i 0)), (1, .int (nI x))]) hx hb dX0_partAhead_6 rfl hl (by decide) rfl (fun ls hl => ?_)
  refine lv_iload_n hx hb dX0_partAhead_7 rfl (lv_at hl 0 rfl) ?_
  refine lv_bipush (v := 6) hx hb dX0_partAhead_8 (by decide) ?_
  refine lv_icmp_ge (tgt := 22) hx hb dX0_partAhead_10 (by decide) (fun c_10 => ?_) (fun c_10 => ?_)
  · have h6 : ¬ pq + x < 6 := fun q => nI_ge q (by decide) c_10
    refine lv_iconst (v := 0) hx hb dX0_partAhead_22 (by decide) ?_
    exact W.iret (v := 0) hx hb hr (fun t ht hW => ⟨congrArg (fun z => Outcome.returned (some (.int z))) (by unfold lAh; exact (if_neg h6).symm), ht⟩) t_nil dX0_partAhead_23
  · have h6 : pq + x < 6 := n6lt c_10 (by omega)
    refine lv_aload_n hx hb dX0_partAhead_13 rfl (lv_at hl 1 rfl) ?_
    refine lnG (i := i) (val := .ref (la i 1)) hx hb hts hin0 hown hK hP 5 (by decide) (hts (.fieldLink RX0 28 "FundBook$Loan" "parts" "[I") (by decide +kernel)) rfl dX0_partAhead_14 ?_
    refine lv_iload_n hx hb dX0_partAhead_17 rfl (lv_at hl 0 rfl) ?_
    refine ldI (f := L i 1) hx hb hK hP 1 rfl (pq + x) rfl (by omega) (by decide) dX0_partAhead_18 ?_
    refine lv_goto (tgt := 23) hx hb dX0_partAhead_19 (by decide) ?_
    exact W.iret (v := L i 1 (pq + x)) hx hb hr (fun t ht hW => ⟨congrArg (fun z => Outcome.returned (some (.int z))) (by unfold lAh; exact (if_pos h6).symm), ht⟩) t_nil dX0_partAhead_23
set_option maxHeartbeats 4000000 in
set_option maxRecDepth 100000 in
theorem c_X0_payPart (l : Launch) (G : va_G) (y : Nat → ClassId) (a : Nat → Nat) (b : MS) (n : Nat) (la : Nat → Nat → Nat) (L : LNS) (sz : Nat) (i : Nat) (hi : i < n) (pq : Nat) (hp : L i 0 7 = nI pq) (hp6 : pq ≤ 6) : Met l yX0_payPart wsX0_payPart ({ frames := 0, cells := 0, slots := 0, locals := 0 }) (mP G y [.ref (la i 0)] (bkW y a b n la L) sz) (mQ G (fun _ : Unit => none) (fun _ => True) (fun _ => bkW y a b n la (bPP L i pq)) (va_A (bkW y a b n la L) sz)) 0 0 (va_A (bkW y a b n la L) sz) := by
  refine Met.ofW (cc := cX0_payPart) (maxL := 1) (ret := none) (by decide) rfl ?_
  intro p e s m args below meth c s₁ B hml hv
  obtain ⟨rfl, hsz, hP, hK, hD0⟩ := hv
  have hx := B.exec
  have hb := B.bytes
  have hr := B.returns
  have hts := atoms_spec (ws := wsX0_payPart) B.pre
  have hown : s.vm.findClass RX0 = some m.cls := findClass_of_methodNamed B.named
  have hlocks := B.notSynchronized
  subst hsz
  have hD := hD0.self (sz := s.heap.size)
  generalize hAe : va_A (bkW y a b n la L) s.heap.size = A at hD ⊢
  have hA : ∀ q : Nat, s.heap.size ≤ q → A q := fun q h => by rw [← hAe]; exact Or.inr h
  have hS : va_S A s.heap s.heap [] := va_S.rf
  have hP : va_P G vwCl (bkW y a b n la L) s.heap := hP
  have hl := lv_entry ([.ref (la i 0)]) (n := 1) (Nat.le_of_ble_eq_true rfl)
  rw [lg_entry_eq]
  generalize (lg_sl ([.ref (la i 0)]) ++ List.replicate (1 - (lg_sl ([.ref (la i 0)])).length) Slot.unset).toArray = ls at hl ⊢
  have hin0 : ∀ w ∈ wsX00, w ∈ wsX0_payPart := by decide +kernel
  have hl : lv_has ls 1 [(0, .ref (la i 0))] := hl
  refine lv_aload_n hx hb dX0_payPart_0 rfl (lv_at hl 0 rfl) ?_
  refine lnG (i := i) (val := .int (L i 0 7)) hx hb hts hin0 hown hK (bk_ln hP hi) 7 (by decide) (hts (.fieldLink RX0 35 "FundBook$Loan" "paidParts" "I") (by decide +kernel)) rfl dX0_payPart_1 ?_
  refine lv_topE (z := nI pq) (hp) ?_
  refine lv_bipush (v := 6) hx hb dX0_payPart_4 (by decide) ?_
  refine lv_icmp_ge (tgt := 19) hx hb dX0_payPart_6 (by decide) (fun c_6 => ?_) (fun c_6 => ?_)
  · have h6 : ¬ pq < 6 := fun q => nI_ge q (by decide) c_6
    exact W.vret hx hb hr (fun t ht hW => ⟨⟨(), rfl, trivial, by rw [ht]; rw [bPP, if_neg h6]; exact hP, by rw [bPP, if_neg h6]; exact hD⟩, hS.F ht⟩) hS.2.2 dX0_payPart_19
  · have h6 : pq < 6 := n6lt c_6 (by omega)
    refine lv_aload_n hx hb dX0_payPart_9 rfl (lv_at hl 0 rfl) ?_
    refine lv_aload_n hx hb dX0_payPart_10 rfl (lv_at hl 0 rfl) ?_
    refine lnG (i := i) (val := .int (L i 0 7)) hx hb hts hin0 hown hK (bk_ln hP hi) 7 (by decide) (hts (.fieldLink RX0 35 "FundBook$Loan" "paidParts" "I") (by decide +kernel)) rfl dX0_payPart_11 ?_
    refine lv_topE (z := nI pq) (hp) ?_
    refine lv_iconst (v := 1) hx hb dX0_payPart_14 (by decide) ?_
    refine lv_iadd hx hb dX0_payPart_15 ?_
    refine lv_topE (z := nI (pq + 1)) (nI_1 pq) ?_
    refine lnS (i := i) (x := nI (pq + 1)) hx hb hts hin0 hown hK hP hD hS hi (hts (.fieldLink RX0 35 "FundBook$Loan" "paidParts" "I") (by decide +kernel)) dX0_payPart_16 (fun H locs hP hD hS => ?_)
    exact W.vret hx hb hr (fun t ht hW => ⟨⟨(), rfl, trivial, by rw [ht]; rw [bPP, if_pos h6]; exact hP, by rw [bPP, if_pos h6]; exact hD⟩, hS.F ht⟩) hS.2.2 dX0_payPart_19
set_option maxHeartbeats 4000000 in
set_option maxRecDepth 100000 in
theorem c_X0_settle (l : Launch) (G : va_G) (y : Nat → ClassId) (a : Nat → Nat) (b : MS) (n : Nat) (la : Nat → Nat → Nat) (L : LNS) (sz : Nat) (i : Nat) (hi : i < n) (pq : Nat) (hp : L i 0 7 = nI pq) (hp6 : pq ≤ 6) : Met l yX0_settle wsX0_settle ({ frames := 0, cells := 0, slots := 0, locals := 0 }) (mP G y [.ref (la i 0)] (bkW y a b n la L) sz) (mQ G (fun _ : Unit => none) (fun _ => True) (fun _ => bkW y a b n la (u3 L i (nI 6))) (va_A (bkW y a b n la L) sz)) 0 0 (va_A (bkW y a b n la L) sz) := by
  refine Met.ofW (cc := cX0_settle) (maxL := 1) (ret := none) (by decide) rfl ?_
  intro p e s m args below meth c s₁ B hml hv
  obtain ⟨rfl, hsz, hP, hK, hD0⟩ := hv
  have hx := B.exec
  have hb := B.bytes
  have hr := B.returns
  have hts := atoms_spec (ws := wsX0_settle) B.pre
  have hown : s.vm.findClass RX0 = some m.cls := findClass_of_methodNamed B.named
  have hlocks := B.notSynchronized
  subst hsz
  have hD := hD0.self (sz := s.heap.size)
  generalize hAe : va_A (bkW y a b n la L) s.heap.size = A at hD ⊢
  have hA : ∀ q : Nat, s.heap.size ≤ q → A q := fun q h => by rw [← hAe]; exact Or.inr h
  have hS : va_S A s.heap s.heap [] := va_S.rf
  have hP : va_P G vwCl (bkW y a b n la L) s.heap := hP
  have hl := lv_entry ([.ref (la i 0)]) (n := 1) (Nat.le_of_ble_eq_true rfl)
  rw [lg_entry_eq]
  generalize (lg_sl ([.ref (la i 0)]) ++ List.replicate (1 - (lg_sl ([.ref (la i 0)])).length) Slot.unset).toArray = ls at hl ⊢
  have hin0 : ∀ w ∈ wsX00, w ∈ wsX0_settle := by decide +kernel
  have hl : lv_has ls 1 [(0, .ref (la i 0))] := hl
  refine lv_aload_n hx hb dX0_settle_0 rfl (lv_at hl 0 rfl) ?_
  refine lv_bipush (v := 6) hx hb dX0_settle_1 (by decide) ?_
  refine lnS (i := i) (x := 6) hx hb hts hin0 hown hK hP hD hS hi (hts (.fieldLink RX0 35 "FundBook$Loan" "paidParts" "I") (by decide +kernel)) dX0_settle_3 (fun H locs hP hD hS => ?_)
  exact W.vret hx hb hr (fun t ht hW => ⟨⟨(), rfl, trivial, by rw [ht]; exact hP, by exact hD⟩, hS.F ht⟩) hS.2.2 dX0_settle_6
set_option maxHeartbeats 4000000 in
set_option maxRecDepth 100000 in
theorem c_X1_averageRate (l : Launch) (G : va_G) (y : Nat → ClassId) (a : Nat → Nat) (b : MS)  : Met l yX1_averageRate wsX1_averageRate ({ frames := 0, cells := 0, slots := 0, locals := 0 }) (rP G y [.ref (a 8)] (rpW y a b)) (QcV (.int (bAvg b))) 0 0 (fun _ => False) := by
  refine Met.ofW (cc := cX1_averageRate) (maxL := 6) (ret := (some .int)) (by decide) rfl ?_
  intro p e s m args below meth c s₁ B hml hv
  obtain ⟨rfl, hP, hK⟩ := hv
  have hx := B.exec
  have hb := B.bytes
  have hr := B.returns
  have hts := atoms_spec (ws := wsX1_averageRate) B.pre
  have hown : s.vm.findClass RX1 = some m.cls := findClass_of_methodNamed B.named
  have hlocks := B.notSynchronized
  have hl := lv_entry ([.ref (a 8)]) (n := 6) (Nat.le_of_ble_eq_true rfl)
  rw [lg_entry_eq]
  generalize (lg_sl ([.ref (a 8)]) ++ List.replicate (6 - (lg_sl ([.ref (a 8)])).length) Slot.unset).toArray = ls at hl ⊢
  have hin1 : ∀ w ∈ wsX10, w ∈ wsX1_averageRate := by decide +kernel
  have hl : lv_has ls 6 [(0, .ref (a 8))] := hl
  refine lv_lconst (v := 0) hx hb dX1_averageRate_0 (by decide) ?_
  refine lv_lstore_n (lv' := [(1, .long 0), (0, .ref (a 8))]) hx hb dX1_averageRate_1 rfl hl (by decide) rfl (fun ls hl => ?_)
  refine lv_lconst (v := 0) hx hb dX1_averageRate_2 (by decide) ?_
  refine lv_lstore_n (lv' := [(3, .long 0), (1, .long 0), (0, .ref (a 8))]) hx hb dX1_averageRate_3 rfl hl (by decide) rfl (fun ls hl => ?_)
  refine lv_iconst (v := 0) hx hb dX1_averageRate_4 (by decide) ?_
  refine lv_istore (lv' := [(5, .int 0), (3, .long 0), (1, .long 0), (0, .ref (a 8))]) hx hb dX1_averageRate_5 hl (by decide) rfl (fun ls hl => ?_)
  refine loopW (LV := fun k => [(0, .ref (a 8)), (1, .long (S64 (bAl b) k)), (3, .long (S64 (bWt b) k)), (5, .int (nI k))]) 6 (lv_sub hl [3, 2, 1, 0] rfl) (fun k ls hk_k hl ih_k => ?_) (fun ls hl => ?_)
  · have hl : lv_has ls 6 [(0, .ref (a 8)), (1, .long (S64 (bAl b) k)), (3, .long (S64 (bWt b) k)), (5, .int (nI k))] := hl
    refine lv_iload hx hb dX1_averageRate_7 (lv_at hl 3 rfl) ?_
    refine lv_bipush (v := 6) hx hb dX1_averageRate_9 (by decide) ?_
    refine lv_icmp_ge (tgt := 51) hx hb dX1_averageRate_11 (by decide) (fun c_11 => absurd c_11 (nI_ge hk_k (by decide))) (fun c_11 => ?_)
    refine lv_lload_n hx hb dX1_averageRate_14 rfl (lv_at hl 1 rfl) ?_
    refine lv_aload_n hx hb dX1_averageRate_15 rfl (lv_at hl 0 rfl) ?_
    refine rpG (val := .ref (a 14)) hx hb hts hin1 hown hK hP 0 (by decide) (hts (.fieldLink RX1 9 "FundBook$Replica" "amounts" "[I") (by decide +kernel)) rfl dX1_averageRate_16 ?_
    refine lv_iload hx hb dX1_averageRate_19 (lv_at hl 3 rfl) ?_
    refine ldI (f := b 14) hx hb hK hP 1 rfl k rfl (by omega) (by decide) dX1_averageRate_21 ?_
    refine lv_i2l hx hb dX1_averageRate_22 rfl ?_
    refine lv_ladd hx hb dX1_averageRate_23 ?_
    refine lv_topEl (z := S64 (bAl b) (k + 1)) (rfl) ?_
    refine lv_lstore_n (lv' := [(1, .long (S64 (bAl b) (k + 1))), (0, .ref (a 8)), (3, .long (S64 (bWt b) k)), (5, .int (nI k))]) hx hb dX1_averageRate_24 rfl hl (by decide) rfl (fun ls hl => ?_)
    refine lv_lload_n hx hb dX1_averageRate_25 rfl (lv_at hl 2 rfl) ?_
    refine lv_aload_n hx hb dX1_averageRate_26 rfl (lv_at hl 1 rfl) ?_
    refine rpG (val := .ref (a 14)) hx hb hts hin1 hown hK hP 0 (by decide) (hts (.fieldLink RX1 9 "FundBook$Replica" "amounts" "[I") (by decide +kernel)) rfl dX1_averageRate_27 ?_
    refine lv_iload hx hb dX1_averageRate_30 (lv_at hl 3 rfl) ?_
    refine ldI (f := b 14) hx hb hK hP 1 rfl k rfl (by omega) (by decide) dX1_averageRate_32 ?_
    refine lv_i2l hx hb dX1_averageRate_33 rfl ?_
    refine lv_aload_n hx hb dX1_averageRate_34 rfl (lv_at hl 1 rfl) ?_
    refine rpG (val := .ref (a 15)) hx hb hts hin1 hown hK hP 1 (by decide) (hts (.fieldLink RX1 15 "FundBook$Replica" "rates" "[I") (by decide +kernel)) rfl dX1_averageRate_35 ?_
    refine lv_iload hx hb dX1_averageRate_38 (lv_at hl 3 rfl) ?_
    refine ldI (f := b 15) hx hb hK hP 2 rfl k rfl (by omega) (by decide) dX1_averageRate_40 ?_
    refine lv_i2l hx hb dX1_averageRate_41 rfl ?_
    refine lv_lmul hx hb dX1_averageRate_42 ?_
    refine lv_ladd hx hb dX1_averageRate_43 ?_
    refine lv_topEl (z := S64 (bWt b) (k + 1)) (rfl) ?_
    refine lv_lstore_n (lv' := [(3, .long (S64 (bWt b) (k + 1))), (1, .long (S64 (bAl b) (k + 1))), (0, .ref (a 8)), (5, .int (nI k))]) hx hb dX1_averageRate_44 rfl hl (by decide) rfl (fun ls hl => ?_)
    refine lv_iinc (v := (nI (k + 1))) (lv' := [(5, .int (nI (k + 1))), (3, .long (S64 (bWt b) (k + 1))), (1, .long (S64 (bAl b) (k + 1))), (0, .ref (a 8))]) hx hb dX1_averageRate_45 hl (k := 3) rfl iinc1 (by decide) rfl (fun ls hl => ?_)
    refine lv_goto (tgt := 7) hx hb dX1_averageRate_48 (by decide) ?_
    exact ih_k ls (lv_sub hl [3, 2, 1, 0] rfl)
  · have hl : lv_has ls 6 [(0, .ref (a 8)), (1, .long (S64 (bAl b) 6)), (3, .long (S64 (bWt b) 6)), (5, .int (nI 6))] := hl
    refine lv_iload hx hb dX1_averageRate_7 (lv_at hl 3 rfl) ?_
    refine lv_bipush (v := 6) hx hb dX1_averageRate_9 (by decide) ?_
    refine lv_icmp_ge (tgt := 51) hx hb dX1_averageRate_11 (by decide) (fun c_11 => ?_) (fun c_11 => absurd (nI_le (Nat.le_refl 6) (by decide)) c_11)
    refine lv_lload_n hx hb dX1_averageRate_51 rfl (lv_at hl 1 rfl) ?_
    refine lv_lconst (v := 0) hx hb dX1_averageRate_52 (by decide) ?_
    refine W.lcmp hx hb dX1_averageRate_53 ?_
    refine lv_if_le (tgt := 64) hx hb dX1_averageRate_54 (by decide) (fun c_54 => ?_) (fun c_54 => ?_)
    · refine lv_iconst (v := 0) hx hb dX1_averageRate_64 (by decide) ?_
      exact W.iret (v := 0) hx hb hr (fun t ht hW => ⟨congrArg (fun z => Outcome.returned (some (.int z))) (by unfold bAvg; exact (if_pos c_54).symm), ht⟩) t_nil dX1_averageRate_65
    · refine lv_lload_n hx hb dX1_averageRate_57 rfl (lv_at hl 2 rfl) ?_
      refine lv_lload_n hx hb dX1_averageRate_58 rfl (lv_at hl 1 rfl) ?_
      refine lv_ldiv hx hb dX1_averageRate_59 (lcmp_ne (fun q => c_54 (by rw [q]; decide))) ?_
      refine lv_l2i hx hb dX1_averageRate_60 rfl ?_
      refine lv_goto (tgt := 65) hx hb dX1_averageRate_61 (by decide) ?_
      exact W.iret (v := (S64 (bWt b) 6 / S64 (bAl b) 6).toInt32) hx hb hr (fun t ht hW => ⟨congrArg (fun z => Outcome.returned (some (.int z))) (by unfold bAvg; exact (if_neg c_54).symm), ht⟩) t_nil dX1_averageRate_65
set_option maxHeartbeats 4000000 in
set_option maxRecDepth 100000 in
theorem c_X1_lay (l : Launch) (G : va_G) (y : Nat → ClassId) (a : Nat → Nat) (b : MS) (n : Nat) (la : Nat → Nat → Nat) (L : LNS) (sz : Nat) (k : Nat) (hk : k < 6) (am rt : Int32) : Met l yX1_lay wsX1_lay ({ frames := 0, cells := 0, slots := 0, locals := 0 }) (mP G y [.ref (a 8), .int (nI k), .int am, .int rt] (bkW y a b n la L) sz) (mQ G (fun _ : Unit => none) (fun _ => True) (fun _ => bkW y a (bLay b k am rt) n la L) (va_A (bkW y a b n la L) sz)) 0 0 (va_A (bkW y a b n la L) sz) := by
  refine Met.ofW (cc := cX1_lay) (maxL := 4) (ret := none) (by decide) rfl ?_
  intro p e s m args below meth c s₁ B hml hv
  obtain ⟨rfl, hsz, hP, hK, hD0⟩ := hv
  have hx := B.exec
  have hb := B.bytes
  have hr := B.returns
  have hts := atoms_spec (ws := wsX1_lay) B.pre
  have hown : s.vm.findClass RX1 = some m.cls := findClass_of_methodNamed B.named
  have hlocks := B.notSynchronized
  subst hsz
  have hD := hD0.self (sz := s.heap.size)
  generalize hAe : va_A (bkW y a b n la L) s.heap.size = A at hD ⊢
  have hA : ∀ q : Nat, s.heap.size ≤ q → A q := fun q h => by rw [← hAe]; exact Or.inr h
  have hS : va_S A s.heap s.heap [] := va_S.rf
  have hP : va_P G vwCl (bkW y a b n la L) s.heap := hP
  have hl := lv_entry ([.ref (a 8), .int (nI k), .int am, .int rt]) (n := 4) (Nat.le_of_ble_eq_true rfl)
  rw [lg_entry_eq]
  generalize (lg_sl ([.ref (a 8), .int (nI k), .int am, .int rt]) ++ List.replicate (4 - (lg_sl ([.ref (a 8), .int (nI k), .int am, .int rt])).length) Slot.unset).toArray = ls at hl ⊢
  have hin1 : ∀ w ∈ wsX10, w ∈ wsX1_lay := by decide +kernel
  have hl : lv_has ls 4 [(0, .ref (a 8)), (1, .int (nI k)), (2, .int am), (3, .int rt)] := hl
  refine lv_iload_n hx hb dX1_lay_0 rfl (lv_at hl 1 rfl) ?_
  refine lv_if_lt (tgt := 24) hx hb dX1_lay_1 (by decide) (fun c_1 => absurd c_1 (nI_pos (by omega))) (fun c_1 => ?_)
  refine lv_iload_n hx hb dX1_lay_4 rfl (lv_at hl 1 rfl) ?_
  refine lv_bipush (v := 6) hx hb dX1_lay_5 (by decide) ?_
  refine lv_icmp_ge (tgt := 24) hx hb dX1_lay_7 (by decide) (fun c_7 => absurd c_7 (nI_ge hk (by decide))) (fun c_7 => ?_)
  refine lv_aload_n hx hb dX1_lay_10 rfl (lv_at hl 0 rfl) ?_
  refine rpG (val := .ref (a 14)) hx hb hts hin1 hown hK (bk_rp hP) 0 (by decide) (hts (.fieldLink RX1 9 "FundBook$Replica" "amounts" "[I") (by decide +kernel)) rfl dX1_lay_11 ?_
  refine lv_iload_n hx hb dX1_lay_14 rfl (lv_at hl 1 rfl) ?_
  refine lv_iload_n hx hb dX1_lay_15 rfl (lv_at hl 2 rfl) ?_
  refine stI (f := b 14) (ws1 := bkW y a (u2 b 14 k am) n la L) hx hb hK hP hD hS 5 bg_14 k rfl (by omega) (by decide) bs_14 dX1_lay_16 (fun H locs hP hD hS => ?_)
  refine lv_aload_n hx hb dX1_lay_17 rfl (lv_at hl 0 rfl) ?_
  refine rpG (val := .ref (a 15)) hx hb hts hin1 hown hK (bk_rp hP) 1 (by decide) (hts (.fieldLink RX1 15 "FundBook$Replica" "rates" "[I") (by decide +kernel)) rfl dX1_lay_18 ?_
  refine lv_iload_n hx hb dX1_lay_21 rfl (lv_at hl 1 rfl) ?_
  refine lv_iload_n hx hb dX1_lay_22 rfl (lv_at hl 3 rfl) ?_
  refine stI (f := (u2 b 14 k am) 15) (ws1 := bkW y a (u2 (u2 b 14 k am) 15 k rt) n la L) hx hb hK hP hD hS 6 bg_15 k rfl (by omega) (by decide) bs_15 dX1_lay_23 (fun H locs hP hD hS => ?_)
  exact W.vret hx hb hr (fun t ht hW => ⟨⟨(), rfl, trivial, by rw [ht]; exact hP, by exact hD⟩, hS.F ht⟩) hS.2.2 dX1_lay_24
set_option maxHeartbeats 4000000 in
set_option maxRecDepth 100000 in
theorem c_X1_layAll (l : Launch) (G : va_G) (y : Nat → ClassId) (a : Nat → Nat) (b : MS) (n : Nat) (la : Nat → Nat → Nat) (L : LNS) (sz : Nat) (am rt : Int32) : Met l yX1_layAll wsX1_layAll ({ frames := 1, cells := 0, slots := 0, locals := 23 }) (mP G y [.ref (a 8), .int am, .int rt] (bkW y a b n la L) sz) (mQ G (fun _ : Unit => none) (fun _ => True) (fun _ => bkW y a (bLA b am rt 6) n la L) (va_A (bkW y a b n la L) sz)) 0 0 (va_A (bkW y a b n la L) sz) := by
  refine Met.ofW (cc := cX1_layAll) (maxL := 4) (ret := none) (by decide) rfl ?_
  intro p e s m args below meth c s₁ B hml hv
  obtain ⟨rfl, hsz, hP, hK, hD0⟩ := hv
  have hx := B.exec
  have hb := B.bytes
  have hr := B.returns
  have hts := atoms_spec (ws := wsX1_layAll) B.pre
  have hown : s.vm.findClass RX1 = some m.cls := findClass_of_methodNamed B.named
  have hlocks := B.notSynchronized
  subst hsz
  have hD := hD0.self (sz := s.heap.size)
  generalize hAe : va_A (bkW y a b n la L) s.heap.size = A at hD ⊢
  have hA : ∀ q : Nat, s.heap.size ≤ q → A q := fun q h => by rw [← hAe]; exact Or.inr h
  have hS : va_S A s.heap s.heap [] := va_S.rf
  have hP : va_P G vwCl (bkW y a b n la L) s.heap := hP
  have hl := lv_entry ([.ref (a 8), .int am, .int rt]) (n := 4) (Nat.le_of_ble_eq_true rfl)
  rw [lg_entry_eq]
  generalize (lg_sl ([.ref (a 8), .int am, .int rt]) ++ List.replicate (4 - (lg_sl ([.ref (a 8), .int am, .int rt])).length) Slot.unset).toArray = ls at hl ⊢
  have hl : lv_has ls 4 [(0, .ref (a 8)), (1, .int am), (2, .int rt)] := hl
  refine lv_iconst (v := 0) hx hb dX1_layAll_0 (by decide) ?_
  refine lv_istore_n (lv' := [(3, .int 0), (0, .ref (a 8)), (1, .int am), (2, .int rt)]) hx hb dX1_layAll_1 rfl hl (by decide) rfl (fun ls hl => ?_)
  refine loopM (LV := fun k => [(0, .ref (a 8)), (1, .int am), (2, .int rt), (3, .int (nI k))]) (WS := fun k => bkW y a (bLA b am rt k) n la L) 6 hP hD hS (lv_sub hl [1, 2, 3, 0] rfl) (fun k H locs ls hk_k hP hD hS hl ih_k => ?_) (fun H locs ls hP hD hS hl => ?_)
  · have hl : lv_has ls 4 [(0, .ref (a 8)), (1, .int am), (2, .int rt), (3, .int (nI k))] := hl
    have hP : va_P G vwCl (bkW y a (bLA b am rt k) n la L) H := hP
    have hD : va_D A (bkW y a (bLA b am rt k) n la L) := hD
    refine lv_iload_n hx hb dX1_layAll_2 rfl (lv_at hl 3 rfl) ?_
    refine lv_bipush (v := 6) hx hb dX1_layAll_3 (by decide) ?_
    refine lv_icmp_ge (tgt := 21) hx hb dX1_layAll_5 (by decide) (fun c_5 => absurd c_5 (nI_ge hk_k (by decide))) (fun c_5 => ?_)
    refine lv_aload_n hx hb dX1_layAll_8 rfl (lv_at hl 0 rfl) ?_
    refine lv_iload_n hx hb dX1_layAll_9 rfl (lv_at hl 3 rfl) ?_
    refine lv_iload_n hx hb dX1_layAll_10 rfl (lv_at hl 1 rfl) ?_
    refine lv_iload_n hx hb dX1_layAll_11 rfl (lv_at hl 2 rfl) ?_
    refine caM (va_runV (As := [.int (nI k), .int am, .int rt]) (rest := []) ⟨hx, hb, hml, hown, hts⟩ (c_X1_lay l G y a (bLA b am rt k) n la L H.size k hk_k am rt) (cwV 3 hts gX1_layAll_X1_lay rfl rfl rfl (by decide +kernel) ⟨Nat.le_of_ble_eq_true rfl, Nat.le_of_ble_eq_true rfl⟩) ⟨mP_bl, va_recv hK.1 hP (ci := 1) (q0 := 4) rfl rfl, fun U hU hW => ⟨rfl, by rw [hU], by rw [hU]; exact hP, Kb.moved hW hK, hD.weaken (fun _ _ _ _ => trivial)⟩⟩ rfl rfl hl.1 rfl (lv_room (Nat.le_of_ble_eq_true rfl)) dX1_layAll_12 ⟨Nat.le_of_ble_eq_true rfl, Nat.le_of_ble_eq_true rfl⟩) hS (freeW hD hS hA) (freeW hD hS hA) (fun _ H locs _ hP hD _ _ hS => ?_)
    refine W.eq (g2 := F0 m 15 ls []) rfl ?_
    have hP : va_P G vwCl (bkW y a (bLay (bLA b am rt k) k am rt) n la L) H := hP
    have hD : va_D A (bkW y a (bLay (bLA b am rt k) k am rt) n la L) := hD
    refine lv_iinc (v := (nI (k + 1))) (lv' := [(3, .int (nI (k + 1))), (0, .ref (a 8)), (1, .int am), (2, .int rt)]) hx hb dX1_layAll_15 hl (k := 3) rfl iinc1 (by decide) rfl (fun ls hl => ?_)
    refine lv_goto (tgt := 2) hx hb dX1_layAll_18 (by decide) ?_
    exact ih_k _ _ ls hP hD hS (lv_sub hl [1, 2, 3, 0] rfl)
  · have hl : lv_has ls 4 [(0, .ref (a 8)), (1, .int am), (2, .int rt), (3, .int (nI 6))] := hl
    have hP : va_P G vwCl (bkW y a (bLA b am rt 6) n la L) H := hP
    have hD : va_D A (bkW y a (bLA b am rt 6) n la L) := hD
    refine lv_iload_n hx hb dX1_layAll_2 rfl (lv_at hl 3 rfl) ?_
    refine lv_bipush (v := 6) hx hb dX1_layAll_3 (by decide) ?_
    refine lv_icmp_ge (tgt := 21) hx hb dX1_layAll_5 (by decide) (fun c_5 => ?_) (fun c_5 => absurd (nI_le (Nat.le_refl 6) (by decide)) c_5)
    exact W.vret hx hb hr (fun t ht hW => ⟨⟨(), rfl, trivial, by rw [ht]; exact hP, by exact hD⟩, hS.F ht⟩) hS.2.2 dX1_layAll_21
set_option maxHeartbeats 4000000 in
set_option maxRecDepth 100000 in
theorem c_X2_coreOf (l : Launch) (G : va_G) (y : Nat → ClassId) (a : Nat → Nat) (b : MS) (n : Nat) (la : Nat → Nat → Nat) (L : LNS) (x : Int64) : Met l yX2_coreOf wsX2_coreOf ({ frames := 0, cells := 0, slots := 0, locals := 0 }) (rP G y [.ref (a 13), .long x] (bkW y a b n la L)) (QcV (.int (bCo b x))) 0 0 (fun _ => False) := by
  refine Met.ofW (cc := cX2_coreOf) (maxL := 3) (ret := (some .int)) (by decide) rfl ?_
  intro p e s m args below meth c s₁ B hml hv
  obtain ⟨rfl, hP, hK⟩ := hv
  have hx := B.exec
  have hb := B.bytes
  have hr := B.returns
  have hts := atoms_spec (ws := wsX2_coreOf) B.pre
  have hown : s.vm.findClass RX2 = some m.cls := findClass_of_methodNamed B.named
  have hlocks := B.notSynchronized
  have hl := lv_entry ([.ref (a 13), .long x]) (n := 3) (Nat.le_of_ble_eq_true rfl)
  rw [lg_entry_eq]
  generalize (lg_sl ([.ref (a 13), .long x]) ++ List.replicate (3 - (lg_sl ([.ref (a 13), .long x])).length) Slot.unset).toArray = ls at hl ⊢
  have hin2 : ∀ w ∈ wsX20, w ∈ wsX2_coreOf := by decide +kernel
  have hl : lv_has ls 3 [(0, .ref (a 13)), (1, .long x)] := hl
  refine lv_lload_n hx hb dX2_coreOf_0 rfl (lv_at hl 1 rfl) ?_
  refine lv_aload_n hx hb dX2_coreOf_1 rfl (lv_at hl 0 rfl) ?_
  refine bkG (b := b) (val := .int (b 13 3)) hx hb hts hin2 hown hK hP 3 (by decide) (hts (.fieldLink RX2 20 "FundBook" "coreShare" "I") (by decide +kernel)) rfl dX2_coreOf_2 ?_
  refine lv_i2l hx hb dX2_coreOf_5 rfl ?_
  refine lv_lmul hx hb dX2_coreOf_6 ?_
  refine lv_ldc2 (v := 100) hx hb hown (hts (.constantLong RX2 189 100) (by decide +kernel)) dX2_coreOf_7 ?_
  refine lv_ldiv hx hb dX2_coreOf_10 (by decide) ?_
  refine lv_l2i hx hb dX2_coreOf_11 rfl ?_
  exact W.iret (v := ((x * (b 13 3).toInt64) / 100).toInt32) hx hb hr (fun t ht hW => ⟨congrArg (fun z => Outcome.returned (some (.int z))) (rfl), ht⟩) t_nil dX2_coreOf_12
set_option maxHeartbeats 4000000 in
set_option maxRecDepth 100000 in
theorem c_X2_trancheAmount (l : Launch) (G : va_G) (y : Nat → ClassId) (a : Nat → Nat) (b : MS) (n : Nat) (la : Nat → Nat → Nat) (L : LNS)  : Met l yX2_trancheAmount wsX2_trancheAmount ({ frames := 1, cells := 0, slots := 0, locals := 22 }) (rP G y [.ref (a 13)] (bkW y a b n la L)) (QcV (.int (bTA b))) 0 0 (fun _ => False) := by
  refine Met.ofW (cc := cX2_trancheAmount) (maxL := 7) (ret := (some .int)) (by decide) rfl ?_
  intro p e s m args below meth c s₁ B hml hv
  obtain ⟨rfl, hP, hK⟩ := hv
  have hx := B.exec
  have hb := B.bytes
  have hr := B.returns
  have hts := atoms_spec (ws := wsX2_trancheAmount) B.pre
  have hown : s.vm.findClass RX2 = some m.cls := findClass_of_methodNamed B.named
  have hlocks := B.notSynchronized
  have hl := lv_entry ([.ref (a 13)]) (n := 7) (Nat.le_of_ble_eq_true rfl)
  rw [lg_entry_eq]
  generalize (lg_sl ([.ref (a 13)]) ++ List.replicate (7 - (lg_sl ([.ref (a 13)])).length) Slot.unset).toArray = ls at hl ⊢
  have hin2 : ∀ w ∈ wsX20, w ∈ wsX2_trancheAmount := by decide +kernel
  have hl : lv_has ls 7 [(0, .ref (a 13))] := hl
  refine lv_lconst (v := 0) hx hb dX2_trancheAmount_0 (by decide) ?_
  refine lv_lstore_n (lv' := [(1, .long 0), (0, .ref (a 13))]) hx hb dX2_trancheAmount_1 rfl hl (by decide) rfl (fun ls hl => ?_)
  refine lv_aload_n hx hb dX2_trancheAmount_2 rfl (lv_at hl 1 rfl) ?_
  refine bkG (b := b) (val := .ref (a 7)) hx hb hts hin2 hown hK hP 7 (by decide) (hts (.fieldLink RX2 35 "FundBook" "balances" "[I") (by decide +kernel)) rfl dX2_trancheAmount_3 ?_
  refine lv_astore_n (lv' := [(3, .ref (a 7)), (1, .long 0), (0, .ref (a 13))]) hx hb dX2_trancheAmount_6 rfl hl (by decide) rfl (fun ls hl => ?_)
  refine lv_aload_n hx hb dX2_trancheAmount_7 rfl (lv_at hl 0 rfl) ?_
  refine va_alen (v := 3) hx hb hK.1 hP 3 0 bg_7 rfl rfl dX2_trancheAmount_8 ?_
  refine lv_istore (lv' := [(4, .int 3), (3, .ref (a 7)), (1, .long 0), (0, .ref (a 13))]) hx hb dX2_trancheAmount_9 hl (by decide) rfl (fun ls hl => ?_)
  refine lv_iconst (v := 0) hx hb dX2_trancheAmount_11 (by decide) ?_
  refine lv_istore (lv' := [(5, .int 0), (4, .int 3), (3, .ref (a 7)), (1, .long 0), (0, .ref (a 13))]) hx hb dX2_trancheAmount_12 hl (by decide) rfl (fun ls hl => ?_)
  refine loopW (LV := fun k => [(0, .ref (a 13)), (3, .ref (a 7)), (4, .int 3), (1, .long (S64 (fun j => (b 7 j).toInt64) k)), (5, .int (nI k))]) 3 (lv_sub hl [4, 2, 1, 3, 0] rfl) (fun k ls hk_k hl ih_k => ?_) (fun ls hl => ?_)
  · have hl : lv_has ls 7 [(0, .ref (a 13)), (3, .ref (a 7)), (4, .int 3), (1, .long (S64 (fun j => (b 7 j).toInt64) k)), (5, .int (nI k))] := hl
    refine lv_iload hx hb dX2_trancheAmount_14 (lv_at hl 4 rfl) ?_
    refine lv_iload hx hb dX2_trancheAmount_16 (lv_at hl 2 rfl) ?_
    refine lv_icmp_ge (tgt := 39) hx hb dX2_trancheAmount_18 (by decide) (fun c_18 => absurd c_18 (nI_ge hk_k (by decide))) (fun c_18 => ?_)
    refine lv_aload_n hx hb dX2_trancheAmount_21 rfl (lv_at hl 1 rfl) ?_
    refine lv_iload hx hb dX2_trancheAmount_22 (lv_at hl 4 rfl) ?_
    refine ldI (f := b 7) hx hb hK hP 3 bg_7 k rfl (by omega) (by decide) dX2_trancheAmount_24 ?_
    refine lv_istore (lv' := [(6, .int (b 7 k)), (0, .ref (a 13)), (3, .ref (a 7)), (4, .int 3), (1, .long (S64 (fun j => (b 7 j).toInt64) k)), (5, .int (nI k))]) hx hb dX2_trancheAmount_25 hl (by decide) rfl (fun ls hl => ?_)
    refine lv_lload_n hx hb dX2_trancheAmount_27 rfl (lv_at hl 4 rfl) ?_
    refine lv_iload hx hb dX2_trancheAmount_28 (lv_at hl 0 rfl) ?_
    refine lv_i2l hx hb dX2_trancheAmount_30 rfl ?_
    refine lv_ladd hx hb dX2_trancheAmount_31 ?_
    refine lv_topEl (z := S64 (fun j => (b 7 j).toInt64) (k + 1)) (rfl) ?_
    refine lv_lstore_n (lv' := [(1, .long (S64 (fun j => (b 7 j).toInt64) (k + 1))), (6, .int (b 7 k)), (0, .ref (a 13)), (3, .ref (a 7)), (4, .int 3), (5, .int (nI k))]) hx hb dX2_trancheAmount_32 rfl hl (by decide) rfl (fun ls hl => ?_)
    refine lv_iinc (v := (nI (k + 1))) (lv' := [(5, .int (nI (k + 1))), (1, .long (S64 (fun j => (b 7 j).toInt64) (k + 1))), (6, .int (b 7 k)), (0, .ref (a 13)), (3, .ref (a 7)), (4, .int 3)]) hx hb dX2_trancheAmount_33 hl (k := 5) rfl iinc1 (by decide) rfl (fun ls hl => ?_)
    refine lv_goto (tgt := 14) hx hb dX2_trancheAmount_36 (by decide) ?_
    exact ih_k ls (lv_sub hl [3, 4, 5, 1, 0] rfl)
  · have hl : lv_has ls 7 [(0, .ref (a 13)), (3, .ref (a 7)), (4, .int 3), (1, .long (S64 (fun j => (b 7 j).toInt64) 3)), (5, .int (nI 3))] := hl
    refine lv_iload hx hb dX2_trancheAmount_14 (lv_at hl 4 rfl) ?_
    refine lv_iload hx hb dX2_trancheAmount_16 (lv_at hl 2 rfl) ?_
    refine lv_icmp_ge (tgt := 39) hx hb dX2_trancheAmount_18 (by decide) (fun c_18 => ?_) (fun c_18 => absurd (nI_le (Nat.le_refl 3) (by decide)) c_18)
    refine lv_aload_n hx hb dX2_trancheAmount_39 rfl (lv_at hl 0 rfl) ?_
    refine lv_lload_n hx hb dX2_trancheAmount_40 rfl (lv_at hl 3 rfl) ?_
    refine caR (r := .int (bCo b (S64 (fun j => (b 7 j).toInt64) 3))) (va_runV (As := [.long (S64 (fun j => (b 7 j).toInt64) 3)]) (rest := []) ⟨hx, hb, hml, hown, hts⟩ (c_X2_coreOf l G y a b n la L _) (cwV 1 hts gX2_trancheAmount_X2_coreOf rfl rfl rfl (by decide +kernel) ⟨Nat.le_of_ble_eq_true rfl, Nat.le_of_ble_eq_true rfl⟩) ⟨rP_bl, va_recv hK.1 hP (ci := 2) (q0 := 0) rfl rfl, fun U hU hW => ⟨rfl, by rw [hU]; exact hP, Kb.moved hW hK⟩⟩ rfl rfl hl.1 rfl (lv_room (Nat.le_of_ble_eq_true rfl)) dX2_trancheAmount_41 ⟨Nat.le_of_ble_eq_true rfl, Nat.le_of_ble_eq_true rfl⟩) ?_
    refine lv_bipush (v := 6) hx hb dX2_trancheAmount_44 (by decide) ?_
    refine lv_idiv hx hb dX2_trancheAmount_46 (by decide) ?_
    exact W.iret (v := (bCo b (S64 (fun j => (b 7 j).toInt64) 3) / 6)) hx hb hr (fun t ht hW => ⟨congrArg (fun z => Outcome.returned (some (.int z))) (rfl), ht⟩) t_nil dX2_trancheAmount_47
set_option maxHeartbeats 4000000 in
set_option maxRecDepth 100000 in
theorem c_X2_paidForDeposits (l : Launch) (G : va_G) (y : Nat → ClassId) (a : Nat → Nat) (b : MS) (n : Nat) (la : Nat → Nat → Nat) (L : LNS) (x r : Int32) : Met l yX2_paidForDeposits wsX2_paidForDeposits ({ frames := 1, cells := 0, slots := 0, locals := 22 }) (rP G y [.ref (a 13), .int x, .int r] (bkW y a b n la L)) (QcV (.int (bPd b x r))) 0 0 (fun _ => False) := by
  refine Met.ofW (cc := cX2_paidForDeposits) (maxL := 5) (ret := (some .int)) (by decide) rfl ?_
  intro p e s m args below meth c s₁ B hml hv
  obtain ⟨rfl, hP, hK⟩ := hv
  have hx := B.exec
  have hb := B.bytes
  have hr := B.returns
  have hts := atoms_spec (ws := wsX2_paidForDeposits) B.pre
  have hown : s.vm.findClass RX2 = some m.cls := findClass_of_methodNamed B.named
  have hlocks := B.notSynchronized
  have hl := lv_entry ([.ref (a 13), .int x, .int r]) (n := 5) (Nat.le_of_ble_eq_true rfl)
  rw [lg_entry_eq]
  generalize (lg_sl ([.ref (a 13), .int x, .int r]) ++ List.replicate (5 - (lg_sl ([.ref (a 13), .int x, .int r])).length) Slot.unset).toArray = ls at hl ⊢
  have hin2 : ∀ w ∈ wsX20, w ∈ wsX2_paidForDeposits := by decide +kernel
  have hl : lv_has ls 5 [(0, .ref (a 13)), (1, .int x), (2, .int r)] := hl
  refine lv_aload_n hx hb dX2_paidForDeposits_0 rfl (lv_at hl 0 rfl) ?_
  refine lv_iload_n hx hb dX2_paidForDeposits_1 rfl (lv_at hl 1 rfl) ?_
  refine lv_i2l hx hb dX2_paidForDeposits_2 rfl ?_
  refine caR (r := .int (bCo b x.toInt64)) (va_runV (As := [.long x.toInt64]) (rest := []) ⟨hx, hb, hml, hown, hts⟩ (c_X2_coreOf l G y a b n la L _) (cwV 1 hts gX2_paidForDeposits_X2_coreOf rfl rfl rfl (by decide +kernel) ⟨Nat.le_of_ble_eq_true rfl, Nat.le_of_ble_eq_true rfl⟩) ⟨rP_bl, va_recv hK.1 hP (ci := 2) (q0 := 0) rfl rfl, fun U hU hW => ⟨rfl, by rw [hU]; exact hP, Kb.moved hW hK⟩⟩ rfl rfl hl.1 rfl (lv_room (Nat.le_of_ble_eq_true rfl)) dX2_paidForDeposits_3 ⟨Nat.le_of_ble_eq_true rfl, Nat.le_of_ble_eq_true rfl⟩) ?_
  refine lv_istore_n (lv' := [(3, .int (bCo b x.toInt64)), (0, .ref (a 13)), (1, .int x), (2, .int r)]) hx hb dX2_paidForDeposits_6 rfl hl (by decide) rfl (fun ls hl => ?_)
  refine lv_iload_n hx hb dX2_paidForDeposits_7 rfl (lv_at hl 2 rfl) ?_
  refine lv_iload_n hx hb dX2_paidForDeposits_8 rfl (lv_at hl 0 rfl) ?_
  refine lv_isub hx hb dX2_paidForDeposits_9 ?_
  refine lv_istore (lv' := [(4, .int (x - bCo b x.toInt64)), (3, .int (bCo b x.toInt64)), (0, .ref (a 13)), (1, .int x), (2, .int r)]) hx hb dX2_paidForDeposits_10 hl (by decide) rfl (fun ls hl => ?_)
  refine lv_iload_n hx hb dX2_paidForDeposits_12 rfl (lv_at hl 1 rfl) ?_
  refine lv_i2l hx hb dX2_paidForDeposits_13 rfl ?_
  refine lv_iload_n hx hb dX2_paidForDeposits_14 rfl (lv_at hl 4 rfl) ?_
  refine lv_i2l hx hb dX2_paidForDeposits_15 rfl ?_
  refine lv_lmul hx hb dX2_paidForDeposits_16 ?_
  refine lv_iload hx hb dX2_paidForDeposits_17 (lv_at hl 0 rfl) ?_
  refine lv_i2l hx hb dX2_paidForDeposits_19 rfl ?_
  refine lv_aload_n hx hb dX2_paidForDeposits_20 rfl (lv_at hl 2 rfl) ?_
  refine bkG (b := b) (val := .ref (a 0)) hx hb hts hin2 hown hK hP 0 (by decide) (hts (.fieldLink RX2 9 "FundBook" "curve" "[I") (by decide +kernel)) rfl dX2_paidForDeposits_21 ?_
  refine lv_iconst (v := 0) hx hb dX2_paidForDeposits_24 (by decide) ?_
  refine ldI (f := b 0) hx hb hK hP 1 bg_0 0 rfl (by decide) (by decide) dX2_paidForDeposits_25 ?_
  refine lv_i2l hx hb dX2_paidForDeposits_26 rfl ?_
  refine lv_lmul hx hb dX2_paidForDeposits_27 ?_
  refine lv_ladd hx hb dX2_paidForDeposits_28 ?_
  refine caR (r := .int (bPd b x r)) (va_runS (As := [.long (((bCo b x.toInt64).toInt64 * r.toInt64) + ((x - bCo b x.toInt64).toInt64 * (b 0 0).toInt64))]) (rest := []) ⟨hx, hb, hml, hown, hts⟩ (c_X2_forOneMonth l _) (va_cwS 1 hts gX2_paidForDeposits_X2_forOneMonth rfl rfl rfl (by decide +kernel) ⟨Nat.le_of_ble_eq_true rfl, Nat.le_of_ble_eq_true rfl⟩) ⟨nP_bl, fun _ _ _ => ⟨rfl, trivial⟩⟩ rfl rfl hl.1 rfl (lv_room (Nat.le_of_ble_eq_true rfl)) dX2_paidForDeposits_29 ⟨Nat.le_of_ble_eq_true rfl, Nat.le_of_ble_eq_true rfl⟩) ?_
  exact W.iret (v := bPd b x r) hx hb hr (fun t ht hW => ⟨congrArg (fun z => Outcome.returned (some (.int z))) (rfl), ht⟩) t_nil dX2_paidForDeposits_32
set_option maxHeartbeats 4000000 in
set_option maxRecDepth 100000 in
theorem c_X2_hasEnded (l : Launch) (G : va_G) (y : Nat → ClassId) (a : Nat → Nat) (b : MS) (n : Nat) (la : Nat → Nat → Nat) (L : LNS) (t : Nat) (ht : b 13 4 = nI t) (ht47 : t ≤ 47) (x : Int32) : Met l yX2_hasEnded wsX2_hasEnded ({ frames := 0, cells := 0, slots := 0, locals := 0 }) (rP G y [.ref (a 13), .int x] (bkW y a b n la L)) (QcV (.int (bEn t x))) 0 0 (fun _ => False) := by
  refine Met.ofW (cc := cX2_hasEnded) (maxL := 2) (ret := (some .boolean)) (by decide) rfl ?_
  intro p e s m args below meth c s₁ B hml hv
  obtain ⟨rfl, hP, hK⟩ := hv
  have hx := B.exec
  have hb := B.bytes
  have hr := B.returns
  have hts := atoms_spec (ws := wsX2_hasEnded) B.pre
  have hown : s.vm.findClass RX2 = some m.cls := findClass_of_methodNamed B.named
  have hlocks := B.notSynchronized
  have hl := lv_entry ([.ref (a 13), .int x]) (n := 2) (Nat.le_of_ble_eq_true rfl)
  rw [lg_entry_eq]
  generalize (lg_sl ([.ref (a 13), .int x]) ++ List.replicate (2 - (lg_sl ([.ref (a 13), .int x])).length) Slot.unset).toArray = ls at hl ⊢
  have hin2 : ∀ w ∈ wsX20, w ∈ wsX2_hasEnded := by decide +kernel
  have hl : lv_has ls 2 [(0, .ref (a 13)), (1, .int x)] := hl
  refine lv_iload_n hx hb dX2_hasEnded_0 rfl (lv_at hl 1 rfl) ?_
  refine lv_if_lt (tgt := 16) hx hb dX2_hasEnded_1 (by decide) (fun c_1 => ?_) (fun c_1 => ?_)
  · refine lv_iconst (v := 0) hx hb dX2_hasEnded_16 (by decide) ?_
    exact W.zret (v := 0) hx hb hr rfl (fun t ht hW => ⟨congrArg (fun z => Outcome.returned (some (.int z))) (by unfold bEn; exact ((if_pos c_1)).symm), ht⟩) t_nil dX2_hasEnded_17
  · refine lv_iload_n hx hb dX2_hasEnded_4 rfl (lv_at hl 1 rfl) ?_
    refine lv_aload_n hx hb dX2_hasEnded_5 rfl (lv_at hl 0 rfl) ?_
    refine bkG (b := b) (val := .int (b 13 4)) hx hb hts hin2 hown hK hP 4 (by decide) (hts (.fieldLink RX2 23 "FundBook" "now" "I") (by decide +kernel)) rfl dX2_hasEnded_6 ?_
    refine lv_topE (z := nI t) (ht) ?_
    refine lv_icmp_ge (tgt := 16) hx hb dX2_hasEnded_9 (by decide) (fun c_9 => ?_) (fun c_9 => ?_)
    · refine lv_iconst (v := 0) hx hb dX2_hasEnded_16 (by decide) ?_
      exact W.zret (v := 0) hx hb hr rfl (fun t ht hW => ⟨congrArg (fun z => Outcome.returned (some (.int z))) (by unfold bEn; exact ((if_neg c_1).trans ((if_pos c_9))).symm), ht⟩) t_nil dX2_hasEnded_17
    · refine lv_iconst (v := 1) hx hb dX2_hasEnded_12 (by decide) ?_
      refine lv_goto (tgt := 17) hx hb dX2_hasEnded_13 (by decide) ?_
      exact W.zret (v := 1) hx hb hr rfl (fun t ht hW => ⟨congrArg (fun z => Outcome.returned (some (.int z))) (by unfold bEn; exact ((if_neg c_1).trans ((if_neg c_9))).symm), ht⟩) t_nil dX2_hasEnded_17
set_option maxHeartbeats 4000000 in
set_option maxRecDepth 100000 in
theorem c_X2_findLoan (l : Launch) (G : va_G) (y : Nat → ClassId) (a : Nat → Nat) (b : MS) (n : Nat) (la : Nat → Nat → Nat) (L : LNS) (x : Int32) : Met l yX2_findLoan wsX2_findLoan ({ frames := 0, cells := 0, slots := 0, locals := 0 }) (rP G y [.ref (a 13), .int x] (bkW y a b n la L)) (QcV (va_rf (bFind n la x))) 0 0 (fun _ => False) := by
  refine Met.ofW (cc := cX2_findLoan) (maxL := 2) (ret := (some (.object "FundBook$Loan"))) (by decide) rfl ?_
  intro p e s m args below meth c s₁ B hml hv
  obtain ⟨rfl, hP, hK⟩ := hv
  have hx := B.exec
  have hb := B.bytes
  have hr := B.returns
  have hts := atoms_spec (ws := wsX2_findLoan) B.pre
  have hown : s.vm.findClass RX2 = some m.cls := findClass_of_methodNamed B.named
  have hlocks := B.notSynchronized
  have hl := lv_entry ([.ref (a 13), .int x]) (n := 2) (Nat.le_of_ble_eq_true rfl)
  rw [lg_entry_eq]
  generalize (lg_sl ([.ref (a 13), .int x]) ++ List.replicate (2 - (lg_sl ([.ref (a 13), .int x])).length) Slot.unset).toArray = ls at hl ⊢
  have hin2 : ∀ w ∈ wsX20, w ∈ wsX2_findLoan := by decide +kernel
  have hl : lv_has ls 2 [(0, .ref (a 13)), (1, .int x)] := hl
  refine lv_iload_n hx hb dX2_findLoan_0 rfl (lv_at hl 1 rfl) ?_
  refine lv_if_lt (tgt := 10) hx hb dX2_findLoan_1 (by decide) (fun c_1 => ?_) (fun c_1 => ?_)
  · refine lv_null hx hb dX2_findLoan_10 ?_
    refine lv_goto (tgt := 20) hx hb dX2_findLoan_11 (by decide) ?_
    have ev : bFind n la x = none := by unfold bFind; exact (if_pos c_1)
    exact W.aret (v := .null) hx hb hr (Or.inl ⟨_, rfl⟩) (Or.inl rfl) (fun t ht hW => ⟨by rw [ev]; rfl, ht⟩) t_nil dX2_findLoan_20
  · refine lv_iload_n hx hb dX2_findLoan_4 rfl (lv_at hl 1 rfl) ?_
    refine lv_bipush (v := 24) hx hb dX2_findLoan_5 (by decide) ?_
    refine lv_icmp_lt (tgt := 14) hx hb dX2_findLoan_7 (by decide) (fun c_7 => ?_) (fun c_7 => ?_)
    · have h24 : cn x < 24 := cl_lt (M := 24) c_1 (Int32.not_le.mpr c_7) (by decide)
      refine lv_aload_n hx hb dX2_findLoan_14 rfl (lv_at hl 0 rfl) ?_
      refine bkG (b := b) (val := .ref (a 5)) hx hb hts hin2 hown hK hP 5 (by decide) (hts (.fieldLink RX2 28 "FundBook" "loanRows" "[LFundBook$Loan;") (by decide +kernel)) rfl dX2_findLoan_15 ?_
      refine lv_iload_n hx hb dX2_findLoan_18 rfl (lv_at hl 1 rfl) ?_
      refine lv_topE (z := nI (cn x)) (cl_nI c_1) ?_
      refine ldQ (f := lrF n la) hx hb hK hP 2 bg_5 (cn x) rfl (by omega) (by decide) dX2_findLoan_19 ?_
      have ev : bFind n la x = lrF n la (cn x) := by unfold bFind; exact (if_neg c_1).trans ((if_pos c_7))
      exact W.aret (v := va_rf (lrF n la (cn x))) hx hb hr (Or.inl ⟨_, rfl⟩) (va_rf_or _) (fun t ht hW => ⟨by rw [ev], ht⟩) t_nil dX2_findLoan_20
    · refine lv_null hx hb dX2_findLoan_10 ?_
      refine lv_goto (tgt := 20) hx hb dX2_findLoan_11 (by decide) ?_
      have ev : bFind n la x = none := by unfold bFind; exact (if_neg c_1).trans ((if_neg c_7))
      exact W.aret (v := .null) hx hb hr (Or.inl ⟨_, rfl⟩) (Or.inl rfl) (fun t ht hW => ⟨by rw [ev]; rfl, ht⟩) t_nil dX2_findLoan_20
set_option maxHeartbeats 4000000 in
set_option maxRecDepth 100000 in
theorem c_X2_loanMarginsOfBranch (l : Launch) (G : va_G) (y : Nat → ClassId) (a : Nat → Nat) (b : MS) (n : Nat) (la : Nat → Nat → Nat) (L : LNS) (pd : Nat → Nat) (hpd : ∀ k, k < n → L k 0 7 = nI (pd k) ∧ pd k ≤ 6) (q : Int32) : Met l yX2_loanMarginsOfBranch wsX2_loanMarginsOfBranch ({ frames := 3, cells := 0, slots := 0, locals := 64 }) (rP G y [.ref (a 13), .int q] (bkW y a b n la L)) (QcV (.int (bLM n L pd 0 q))) 0 0 (fun _ => False) := by
  refine Met.ofW (cc := cX2_loanMarginsOfBranch) (maxL := 7) (ret := (some .int)) (by decide) rfl ?_
  intro p e s m args below meth c s₁ B hml hv
  obtain ⟨rfl, hP, hK⟩ := hv
  have hx := B.exec
  have hb := B.bytes
  have hr := B.returns
  have hts := atoms_spec (ws := wsX2_loanMarginsOfBranch) B.pre
  have hown : s.vm.findClass RX2 = some m.cls := findClass_of_methodNamed B.named
  have hlocks := B.notSynchronized
  have hl := lv_entry ([.ref (a 13), .int q]) (n := 7) (Nat.le_of_ble_eq_true rfl)
  rw [lg_entry_eq]
  generalize (lg_sl ([.ref (a 13), .int q]) ++ List.replicate (7 - (lg_sl ([.ref (a 13), .int q])).length) Slot.unset).toArray = ls at hl ⊢
  have hin0 : ∀ w ∈ wsX00, w ∈ wsX2_loanMarginsOfBranch := by decide +kernel
  have hin2 : ∀ w ∈ wsX20, w ∈ wsX2_loanMarginsOfBranch := by decide +kernel
  have hl : lv_has ls 7 [(0, .ref (a 13)), (1, .int q)] := hl
  refine lv_iconst (v := 0) hx hb dX2_loanMarginsOfBranch_0 (by decide) ?_
  refine lv_istore_n (lv' := [(2, .int 0), (0, .ref (a 13)), (1, .int q)]) hx hb dX2_loanMarginsOfBranch_1 rfl hl (by decide) rfl (fun ls hl => ?_)
  refine lv_aload_n hx hb dX2_loanMarginsOfBranch_2 rfl (lv_at hl 1 rfl) ?_
  refine bkG (b := b) (val := .ref (a 5)) hx hb hts hin2 hown hK hP 5 (by decide) (hts (.fieldLink RX2 28 "FundBook" "loanRows" "[LFundBook$Loan;") (by decide +kernel)) rfl dX2_loanMarginsOfBranch_3 ?_
  refine lv_astore_n (lv' := [(3, .ref (a 5)), (2, .int 0), (0, .ref (a 13)), (1, .int q)]) hx hb dX2_loanMarginsOfBranch_6 rfl hl (by decide) rfl (fun ls hl => ?_)
  refine lv_aload_n hx hb dX2_loanMarginsOfBranch_7 rfl (lv_at hl 0 rfl) ?_
  refine va_alen (v := 24) hx hb hK.1 hP 2 2 bg_5 rfl rfl dX2_loanMarginsOfBranch_8 ?_
  refine lv_istore (lv' := [(4, .int 24), (3, .ref (a 5)), (2, .int 0), (0, .ref (a 13)), (1, .int q)]) hx hb dX2_loanMarginsOfBranch_9 hl (by decide) rfl (fun ls hl => ?_)
  refine lv_iconst (v := 0) hx hb dX2_loanMarginsOfBranch_11 (by decide) ?_
  refine lv_istore (lv' := [(5, .int 0), (4, .int 24), (3, .ref (a 5)), (2, .int 0), (0, .ref (a 13)), (1, .int q)]) hx hb dX2_loanMarginsOfBranch_12 hl (by decide) rfl (fun ls hl => ?_)
  refine loopW (LV := fun k => [(0, .ref (a 13)), (1, .int q), (3, .ref (a 5)), (4, .int 24), (2, .int (S32 (bSm n (bLm L pd 0 q)) k)), (5, .int (nI k))]) 24 (lv_sub hl [4, 5, 2, 1, 3, 0] rfl) (fun k ls hk_k hl ih_k => ?_) (fun ls hl => ?_)
  · have hl : lv_has ls 7 [(0, .ref (a 13)), (1, .int q), (3, .ref (a 5)), (4, .int 24), (2, .int (S32 (bSm n (bLm L pd 0 q)) k)), (5, .int (nI k))] := hl
    refine lv_iload hx hb dX2_loanMarginsOfBranch_14 (lv_at hl 5 rfl) ?_
    refine lv_iload hx hb dX2_loanMarginsOfBranch_16 (lv_at hl 3 rfl) ?_
    refine lv_icmp_ge (tgt := 55) hx hb dX2_loanMarginsOfBranch_18 (by decide) (fun c_18 => absurd c_18 (nI_ge hk_k (by decide))) (fun c_18 => ?_)
    refine lv_aload_n hx hb dX2_loanMarginsOfBranch_21 rfl (lv_at hl 2 rfl) ?_
    refine lv_iload hx hb dX2_loanMarginsOfBranch_22 (lv_at hl 5 rfl) ?_
    refine ldQ (f := lrF n la) hx hb hK hP 2 bg_5 k rfl (by omega) (by decide) dX2_loanMarginsOfBranch_24 ?_
    rcases Nat.lt_or_ge k n with hkn | hkn
    · refine lv_optS (if_pos hkn) ?_
      refine lv_astore (lv' := [(6, .ref (la k 0)), (0, .ref (a 13)), (1, .int q), (3, .ref (a 5)), (4, .int 24), (2, .int (S32 (bSm n (bLm L pd 0 q)) k)), (5, .int (nI k))]) hx hb dX2_loanMarginsOfBranch_25 hl (by decide) rfl (fun ls hl => ?_)
      refine lv_aload hx hb dX2_loanMarginsOfBranch_27 (lv_at hl 0 rfl) ?_
      refine lv_ifnull hx hb dX2_loanMarginsOfBranch_29 ?_
      refine lv_aload hx hb dX2_loanMarginsOfBranch_32 (lv_at hl 0 rfl) ?_
      refine lnGN (i := k) (val := .int (L k 0 0)) hx hb hts hin0 hown hK (bk_ln hP hkn) 0 (by decide) (by decide +kernel) rfl dX2_loanMarginsOfBranch_34 ?_
      refine lv_iload_n hx hb dX2_loanMarginsOfBranch_37 rfl (lv_at hl 2 rfl) ?_
      refine lv_icmp_ne (tgt := 49) hx hb dX2_loanMarginsOfBranch_38 (by decide) (fun c_38 => ?_) (fun c_38 => ?_)
      · refine lv_iinc (v := (nI (k + 1))) (lv' := [(5, .int (nI (k + 1))), (6, .ref (la k 0)), (0, .ref (a 13)), (1, .int q), (3, .ref (a 5)), (4, .int 24), (2, .int (S32 (bSm n (bLm L pd 0 q)) k))]) hx hb dX2_loanMarginsOfBranch_49 hl (k := 6) rfl iinc1 (by decide) rfl (fun ls hl => ?_)
        refine lv_goto (tgt := 14) hx hb dX2_loanMarginsOfBranch_52 (by decide) ?_
        have e0 : bLm L pd 0 q k = 0 := if_neg c_38
        exact ih_k ls (by show lv_has ls 7 _; rw [bSm_0 e0]; exact lv_sub hl [2, 3, 4, 5, 6, 0] rfl)
      · refine lv_iload_n hx hb dX2_loanMarginsOfBranch_41 rfl (lv_at hl 5 rfl) ?_
        refine lv_aload hx hb dX2_loanMarginsOfBranch_42 (lv_at hl 0 rfl) ?_
        refine caR (r := .int (lOwn (L k) (pd k))) (va_runVN (As := []) (rest := [.int (S32 (bSm n (bLm L pd 0 q)) k)]) ⟨hx, hb, hml, hown, hts⟩ (c_X0_ownMargin l G y la L k (pd k) (hpd k hkn).1 (hpd k hkn).2) ⟨va_cnB (host := "FundBook") 0 hts gX2_loanMarginsOfBranch_X0_ownMargin_n158 rfl rfl rfl (hK.nw (by decide +kernel)) (hts (.initialized RX0) (by decide +kernel)) (by decide +kernel) ⟨Nat.le_of_ble_eq_true rfl, Nat.le_of_ble_eq_true rfl⟩, hts (.instanceMethod yX0_ownMargin) (by decide +kernel), hts (.selects RX0 yX0_ownMargin yX0_ownMargin) (by decide +kernel)⟩ ⟨rP_bl, va_recv hK.1 (bk_ln hP hkn) (ci := 0) (q0 := 0) rfl rfl, fun U hU hW => ⟨rfl, by rw [hU]; exact (bk_ln hP hkn), Kb.moved hW hK⟩⟩ rfl rfl hl.1 rfl (lv_room (Nat.le_of_ble_eq_true rfl)) dX2_loanMarginsOfBranch_44 ⟨Nat.le_of_ble_eq_true rfl, Nat.le_of_ble_eq_true rfl⟩) ?_
        have e0 : bLm L pd 0 q k = lOwn (L k) (pd k) := if_pos c_38
        refine lv_iadd hx hb dX2_loanMarginsOfBranch_47 ?_
        refine lv_topE (z := S32 (bSm n (bLm L pd 0 q)) (k + 1)) (by rw [← bSm_s hkn, e0]) ?_
        refine lv_istore_n (lv' := [(2, .int (S32 (bSm n (bLm L pd 0 q)) (k + 1))), (6, .ref (la k 0)), (0, .ref (a 13)), (1, .int q), (3, .ref (a 5)), (4, .int 24), (5, .int (nI k))]) hx hb dX2_loanMarginsOfBranch_48 rfl hl (by decide) rfl (fun ls hl => ?_)
        refine lv_iinc (v := (nI (k + 1))) (lv' := [(5, .int (nI (k + 1))), (2, .int (S32 (bSm n (bLm L pd 0 q)) (k + 1))), (6, .ref (la k 0)), (0, .ref (a 13)), (1, .int q), (3, .ref (a 5)), (4, .int 24)]) hx hb dX2_loanMarginsOfBranch_49 hl (k := 6) rfl iinc1 (by decide) rfl (fun ls hl => ?_)
        refine lv_goto (tgt := 14) hx hb dX2_loanMarginsOfBranch_52 (by decide) ?_
        exact ih_k ls (lv_sub hl [3, 4, 5, 6, 1, 0] rfl)
    · refine lv_optN (if_neg (Nat.not_lt.mpr hkn)) ?_
      refine lv_astoreN (lv' := [(6, .null), (0, .ref (a 13)), (1, .int q), (3, .ref (a 5)), (4, .int 24), (2, .int (S32 (bSm n (bLm L pd 0 q)) k)), (5, .int (nI k))]) hx hb dX2_loanMarginsOfBranch_25 hl (by decide) rfl (fun ls hl => ?_)
      refine lv_aloadN hx hb dX2_loanMarginsOfBranch_27 (lv_at hl 0 rfl) ?_
      refine lv_ifnullN (tgt := 49) hx hb dX2_loanMarginsOfBranch_29 (by decide) ?_
      refine lv_iinc (v := (nI (k + 1))) (lv' := [(5, .int (nI (k + 1))), (6, .null), (0, .ref (a 13)), (1, .int q), (3, .ref (a 5)), (4, .int 24), (2, .int (S32 (bSm n (bLm L pd 0 q)) k))]) hx hb dX2_loanMarginsOfBranch_49 hl (k := 6) rfl iinc1 (by decide) rfl (fun ls hl => ?_)
      refine lv_goto (tgt := 14) hx hb dX2_loanMarginsOfBranch_52 (by decide) ?_
      exact ih_k ls (by show lv_has ls 7 _; rw [bSm_k hkn]; exact lv_sub hl [2, 3, 4, 5, 6, 0] rfl)
  · have hl : lv_has ls 7 [(0, .ref (a 13)), (1, .int q), (3, .ref (a 5)), (4, .int 24), (2, .int (S32 (bSm n (bLm L pd 0 q)) 24)), (5, .int (nI 24))] := hl
    refine lv_iload hx hb dX2_loanMarginsOfBranch_14 (lv_at hl 5 rfl) ?_
    refine lv_iload hx hb dX2_loanMarginsOfBranch_16 (lv_at hl 3 rfl) ?_
    refine lv_icmp_ge (tgt := 55) hx hb dX2_loanMarginsOfBranch_18 (by decide) (fun c_18 => ?_) (fun c_18 => absurd (nI_le (Nat.le_refl 24) (by decide)) c_18)
    refine lv_iload_n hx hb dX2_loanMarginsOfBranch_55 rfl (lv_at hl 4 rfl) ?_
    exact W.iret (v := S32 (bSm n (bLm L pd 0 q)) 24) hx hb hr (fun t ht hW => ⟨congrArg (fun z => Outcome.returned (some (.int z))) (rfl), ht⟩) t_nil dX2_loanMarginsOfBranch_56
set_option maxHeartbeats 4000000 in
set_option maxRecDepth 100000 in
theorem c_X2_loanMarginsOfProduct (l : Launch) (G : va_G) (y : Nat → ClassId) (a : Nat → Nat) (b : MS) (n : Nat) (la : Nat → Nat → Nat) (L : LNS) (pd : Nat → Nat) (hpd : ∀ k, k < n → L k 0 7 = nI (pd k) ∧ pd k ≤ 6) (q : Int32) : Met l yX2_loanMarginsOfProduct wsX2_loanMarginsOfProduct ({ frames := 3, cells := 0, slots := 0, locals := 64 }) (rP G y [.ref (a 13), .int q] (bkW y a b n la L)) (QcV (.int (bLM n L pd 1 q))) 0 0 (fun _ => False) := by
  refine Met.ofW (cc := cX2_loanMarginsOfProduct) (maxL := 7) (ret := (some .int)) (by decide) rfl ?_
  intro p e s m args below meth c s₁ B hml hv
  obtain ⟨rfl, hP, hK⟩ := hv
  have hx := B.exec
  have hb := B.bytes
  have hr := B.returns
  have hts := atoms_spec (ws := wsX2_loanMarginsOfProduct) B.pre
  have hown : s.vm.findClass RX2 = some m.cls := findClass_of_methodNamed B.named
  have hlocks := B.notSynchronized
  have hl := lv_entry ([.ref (a 13), .int q]) (n := 7) (Nat.le_of_ble_eq_true rfl)
  rw [lg_entry_eq]
  generalize (lg_sl ([.ref (a 13), .int q]) ++ List.replicate (7 - (lg_sl ([.ref (a 13), .int q])).length) Slot.unset).toArray = ls at hl ⊢
  have hin0 : ∀ w ∈ wsX00, w ∈ wsX2_loanMarginsOfProduct := by decide +kernel
  have hin2 : ∀ w ∈ wsX20, w ∈ wsX2_loanMarginsOfProduct := by decide +kernel
  have hl : lv_has ls 7 [(0, .ref (a 13)), (1, .int q)] := hl
  refine lv_iconst (v := 0) hx hb dX2_loanMarginsOfProduct_0 (by decide) ?_
  refine lv_istore_n (lv' := [(2, .int 0), (0, .ref (a 13)), (1, .int q)]) hx hb dX2_loanMarginsOfProduct_1 rfl hl (by decide) rfl (fun ls hl => ?_)
  refine lv_aload_n hx hb dX2_loanMarginsOfProduct_2 rfl (lv_at hl 1 rfl) ?_
  refine bkG (b := b) (val := .ref (a 5)) hx hb hts hin2 hown hK hP 5 (by decide) (hts (.fieldLink RX2 28 "FundBook" "loanRows" "[LFundBook$Loan;") (by decide +kernel)) rfl dX2_loanMarginsOfProduct_3 ?_
  refine lv_astore_n (lv' := [(3, .ref (a 5)), (2, .int 0), (0, .ref (a 13)), (1, .int q)]) hx hb dX2_loanMarginsOfProduct_6 rfl hl (by decide) rfl (fun ls hl => ?_)
  refine lv_aload_n hx hb dX2_loanMarginsOfProduct_7 rfl (lv_at hl 0 rfl) ?_
  refine va_alen (v := 24) hx hb hK.1 hP 2 2 bg_5 rfl rfl dX2_loanMarginsOfProduct_8 ?_
  refine lv_istore (lv' := [(4, .int 24), (3, .ref (a 5)), (2, .int 0), (0, .ref (a 13)), (1, .int q)]) hx hb dX2_loanMarginsOfProduct_9 hl (by decide) rfl (fun ls hl => ?_)
  refine lv_iconst (v := 0) hx hb dX2_loanMarginsOfProduct_11 (by decide) ?_
  refine lv_istore (lv' := [(5, .int 0), (4, .int 24), (3, .ref (a 5)), (2, .int 0), (0, .ref (a 13)), (1, .int q)]) hx hb dX2_loanMarginsOfProduct_12 hl (by decide) rfl (fun ls hl => ?_)
  refine loopW (LV := fun k => [(0, .ref (a 13)), (1, .int q), (3, .ref (a 5)), (4, .int 24), (2, .int (S32 (bSm n (bLm L pd 1 q)) k)), (5, .int (nI k))]) 24 (lv_sub hl [4, 5, 2, 1, 3, 0] rfl) (fun k ls hk_k hl ih_k => ?_) (fun ls hl => ?_)
  · have hl : lv_has ls 7 [(0, .ref (a 13)), (1, .int q), (3, .ref (a 5)), (4, .int 24), (2, .int (S32 (bSm n (bLm L pd 1 q)) k)), (5, .int (nI k))] := hl
    refine lv_iload hx hb dX2_loanMarginsOfProduct_14 (lv_at hl 5 rfl) ?_
    refine lv_iload hx hb dX2_loanMarginsOfProduct_16 (lv_at hl 3 rfl) ?_
    refine lv_icmp_ge (tgt := 55) hx hb dX2_loanMarginsOfProduct_18 (by decide) (fun c_18 => absurd c_18 (nI_ge hk_k (by decide))) (fun c_18 => ?_)
    refine lv_aload_n hx hb dX2_loanMarginsOfProduct_21 rfl (lv_at hl 2 rfl) ?_
    refine lv_iload hx hb dX2_loanMarginsOfProduct_22 (lv_at hl 5 rfl) ?_
    refine ldQ (f := lrF n la) hx hb hK hP 2 bg_5 k rfl (by omega) (by decide) dX2_loanMarginsOfProduct_24 ?_
    rcases Nat.lt_or_ge k n with hkn | hkn
    · refine lv_optS (if_pos hkn) ?_
      refine lv_astore (lv' := [(6, .ref (la k 0)), (0, .ref (a 13)), (1, .int q), (3, .ref (a 5)), (4, .int 24), (2, .int (S32 (bSm n (bLm L pd 1 q)) k)), (5, .int (nI k))]) hx hb dX2_loanMarginsOfProduct_25 hl (by decide) rfl (fun ls hl => ?_)
      refine lv_aload hx hb dX2_loanMarginsOfProduct_27 (lv_at hl 0 rfl) ?_
      refine lv_ifnull hx hb dX2_loanMarginsOfProduct_29 ?_
      refine lv_aload hx hb dX2_loanMarginsOfProduct_32 (lv_at hl 0 rfl) ?_
      refine lnGN (i := k) (val := .int (L k 0 1)) hx hb hts hin0 hown hK (bk_ln hP hkn) 1 (by decide) (by decide +kernel) rfl dX2_loanMarginsOfProduct_34 ?_
      refine lv_iload_n hx hb dX2_loanMarginsOfProduct_37 rfl (lv_at hl 2 rfl) ?_
      refine lv_icmp_ne (tgt := 49) hx hb dX2_loanMarginsOfProduct_38 (by decide) (fun c_38 => ?_) (fun c_38 => ?_)
      · refine lv_iinc (v := (nI (k + 1))) (lv' := [(5, .int (nI (k + 1))), (6, .ref (la k 0)), (0, .ref (a 13)), (1, .int q), (3, .ref (a 5)), (4, .int 24), (2, .int (S32 (bSm n (bLm L pd 1 q)) k))]) hx hb dX2_loanMarginsOfProduct_49 hl (k := 6) rfl iinc1 (by decide) rfl (fun ls hl => ?_)
        refine lv_goto (tgt := 14) hx hb dX2_loanMarginsOfProduct_52 (by decide) ?_
        have e0 : bLm L pd 1 q k = 0 := if_neg c_38
        exact ih_k ls (by show lv_has ls 7 _; rw [bSm_0 e0]; exact lv_sub hl [2, 3, 4, 5, 6, 0] rfl)
      · refine lv_iload_n hx hb dX2_loanMarginsOfProduct_41 rfl (lv_at hl 5 rfl) ?_
        refine lv_aload hx hb dX2_loanMarginsOfProduct_42 (lv_at hl 0 rfl) ?_
        refine caR (r := .int (lOwn (L k) (pd k))) (va_runVN (As := []) (rest := [.int (S32 (bSm n (bLm L pd 1 q)) k)]) ⟨hx, hb, hml, hown, hts⟩ (c_X0_ownMargin l G y la L k (pd k) (hpd k hkn).1 (hpd k hkn).2) ⟨va_cnB (host := "FundBook") 0 hts gX2_loanMarginsOfProduct_X0_ownMargin_n158 rfl rfl rfl (hK.nw (by decide +kernel)) (hts (.initialized RX0) (by decide +kernel)) (by decide +kernel) ⟨Nat.le_of_ble_eq_true rfl, Nat.le_of_ble_eq_true rfl⟩, hts (.instanceMethod yX0_ownMargin) (by decide +kernel), hts (.selects RX0 yX0_ownMargin yX0_ownMargin) (by decide +kernel)⟩ ⟨rP_bl, va_recv hK.1 (bk_ln hP hkn) (ci := 0) (q0 := 0) rfl rfl, fun U hU hW => ⟨rfl, by rw [hU]; exact (bk_ln hP hkn), Kb.moved hW hK⟩⟩ rfl rfl hl.1 rfl (lv_room (Nat.le_of_ble_eq_true rfl)) dX2_loanMarginsOfProduct_44 ⟨Nat.le_of_ble_eq_true rfl, Nat.le_of_ble_eq_true rfl⟩) ?_
        have e0 : bLm L pd 1 q k = lOwn (L k) (pd k) := if_pos c_38
        refine lv_iadd hx hb dX2_loanMarginsOfProduct_47 ?_
        refine lv_topE (z := S32 (bSm n (bLm L pd 1 q)) (k + 1)) (by rw [← bSm_s hkn, e0]) ?_
        refine lv_istore_n (lv' := [(2, .int (S32 (bSm n (bLm L pd 1 q)) (k + 1))), (6, .ref (la k 0)), (0, .ref (a 13)), (1, .int q), (3, .ref (a 5)), (4, .int 24), (5, .int (nI k))]) hx hb dX2_loanMarginsOfProduct_48 rfl hl (by decide) rfl (fun ls hl => ?_)
        refine lv_iinc (v := (nI (k + 1))) (lv' := [(5, .int (nI (k + 1))), (2, .int (S32 (bSm n (bLm L pd 1 q)) (k + 1))), (6, .ref (la k 0)), (0, .ref (a 13)), (1, .int q), (3, .ref (a 5)), (4, .int 24)]) hx hb dX2_loanMarginsOfProduct_49 hl (k := 6) rfl iinc1 (by decide) rfl (fun ls hl => ?_)
        refine lv_goto (tgt := 14) hx hb dX2_loanMarginsOfProduct_52 (by decide) ?_
        exact ih_k ls (lv_sub hl [3, 4, 5, 6, 1, 0] rfl)
    · refine lv_optN (if_neg (Nat.not_lt.mpr hkn)) ?_
      refine lv_astoreN (lv' := [(6, .null), (0, .ref (a 13)), (1, .int q), (3, .ref (a 5)), (4, .int 24), (2, .int (S32 (bSm n (bLm L pd 1 q)) k)), (5, .int (nI k))]) hx hb dX2_loanMarginsOfProduct_25 hl (by decide) rfl (fun ls hl => ?_)
      refine lv_aloadN hx hb dX2_loanMarginsOfProduct_27 (lv_at hl 0 rfl) ?_
      refine lv_ifnullN (tgt := 49) hx hb dX2_loanMarginsOfProduct_29 (by decide) ?_
      refine lv_iinc (v := (nI (k + 1))) (lv' := [(5, .int (nI (k + 1))), (6, .null), (0, .ref (a 13)), (1, .int q), (3, .ref (a 5)), (4, .int 24), (2, .int (S32 (bSm n (bLm L pd 1 q)) k))]) hx hb dX2_loanMarginsOfProduct_49 hl (k := 6) rfl iinc1 (by decide) rfl (fun ls hl => ?_)
      refine lv_goto (tgt := 14) hx hb dX2_loanMarginsOfProduct_52 (by decide) ?_
      exact ih_k ls (by show lv_has ls 7 _; rw [bSm_k hkn]; exact lv_sub hl [2, 3, 4, 5, 6, 0] rfl)
  · have hl : lv_has ls 7 [(0, .ref (a 13)), (1, .int q), (3, .ref (a 5)), (4, .int 24), (2, .int (S32 (bSm n (bLm L pd 1 q)) 24)), (5, .int (nI 24))] := hl
    refine lv_iload hx hb dX2_loanMarginsOfProduct_14 (lv_at hl 5 rfl) ?_
    refine lv_iload hx hb dX2_loanMarginsOfProduct_16 (lv_at hl 3 rfl) ?_
    refine lv_icmp_ge (tgt := 55) hx hb dX2_loanMarginsOfProduct_18 (by decide) (fun c_18 => ?_) (fun c_18 => absurd (nI_le (Nat.le_refl 24) (by decide)) c_18)
    refine lv_iload_n hx hb dX2_loanMarginsOfProduct_55 rfl (lv_at hl 4 rfl) ?_
    exact W.iret (v := S32 (bSm n (bLm L pd 1 q)) 24) hx hb hr (fun t ht hW => ⟨congrArg (fun z => Outcome.returned (some (.int z))) (rfl), ht⟩) t_nil dX2_loanMarginsOfProduct_56
set_option maxHeartbeats 4000000 in
set_option maxRecDepth 100000 in
theorem c_X2_month (l : Launch) (G : va_G) (y : Nat → ClassId) (a : Nat → Nat) (b : MS) (n : Nat) (la : Nat → Nat → Nat) (L : LNS)  : Met l yX2_month wsX2_month ({ frames := 0, cells := 0, slots := 0, locals := 0 }) (rP G y [.ref (a 13)] (bkW y a b n la L)) (QcV (.int (b 13 4))) 0 0 (fun _ => False) := by
  refine Met.ofW (cc := cX2_month) (maxL := 1) (ret := (some .int)) (by decide) rfl ?_
  intro p e s m args below meth c s₁ B hml hv
  obtain ⟨rfl, hP, hK⟩ := hv
  have hx := B.exec
  have hb := B.bytes
  have hr := B.returns
  have hts := atoms_spec (ws := wsX2_month) B.pre
  have hown : s.vm.findClass RX2 = some m.cls := findClass_of_methodNamed B.named
  have hlocks := B.notSynchronized
  have hl := lv_entry ([.ref (a 13)]) (n := 1) (Nat.le_of_ble_eq_true rfl)
  rw [lg_entry_eq]
  generalize (lg_sl ([.ref (a 13)]) ++ List.replicate (1 - (lg_sl ([.ref (a 13)])).length) Slot.unset).toArray = ls at hl ⊢
  have hin2 : ∀ w ∈ wsX20, w ∈ wsX2_month := by decide +kernel
  have hl : lv_has ls 1 [(0, .ref (a 13))] := hl
  refine lv_aload_n hx hb dX2_month_0 rfl (lv_at hl 0 rfl) ?_
  refine bkG (b := b) (val := .int (b 13 4)) hx hb hts hin2 hown hK hP 4 (by decide) (hts (.fieldLink RX2 23 "FundBook" "now" "I") (by decide +kernel)) rfl dX2_month_1 ?_
  exact W.iret (v := b 13 4) hx hb hr (fun t ht hW => ⟨congrArg (fun z => Outcome.returned (some (.int z))) (rfl), ht⟩) t_nil dX2_month_4
set_option maxHeartbeats 4000000 in
set_option maxRecDepth 100000 in
theorem c_X2_loans (l : Launch) (G : va_G) (y : Nat → ClassId) (a : Nat → Nat) (b : MS) (n : Nat) (la : Nat → Nat → Nat) (L : LNS)  : Met l yX2_loans wsX2_loans ({ frames := 0, cells := 0, slots := 0, locals := 0 }) (rP G y [.ref (a 13)] (bkW y a b n la L)) (QcV (.int (b 13 6))) 0 0 (fun _ => False) := by
  refine Met.ofW (cc := cX2_loans) (maxL := 1) (ret := (some .int)) (by decide) rfl ?_
  intro p e s m args below meth c s₁ B hml hv
  obtain ⟨rfl, hP, hK⟩ := hv
  have hx := B.exec
  have hb := B.bytes
  have hr := B.returns
  have hts := atoms_spec (ws := wsX2_loans) B.pre
  have hown : s.vm.findClass RX2 = some m.cls := findClass_of_methodNamed B.named
  have hlocks := B.notSynchronized
  have hl := lv_entry ([.ref (a 13)]) (n := 1) (Nat.le_of_ble_eq_true rfl)
  rw [lg_entry_eq]
  generalize (lg_sl ([.ref (a 13)]) ++ List.replicate (1 - (lg_sl ([.ref (a 13)])).length) Slot.unset).toArray = ls at hl ⊢
  have hin2 : ∀ w ∈ wsX20, w ∈ wsX2_loans := by decide +kernel
  have hl : lv_has ls 1 [(0, .ref (a 13))] := hl
  refine lv_aload_n hx hb dX2_loans_0 rfl (lv_at hl 0 rfl) ?_
  refine bkG (b := b) (val := .int (b 13 6)) hx hb hts hin2 hown hK hP 6 (by decide) (hts (.fieldLink RX2 32 "FundBook" "loanCount" "I") (by decide +kernel)) rfl dX2_loans_1 ?_
  exact W.iret (v := b 13 6) hx hb hr (fun t ht hW => ⟨congrArg (fun z => Outcome.returned (some (.int z))) (rfl), ht⟩) t_nil dX2_loans_4
set_option maxHeartbeats 4000000 in
set_option maxRecDepth 100000 in
theorem c_X2_replicaRate (l : Launch) (G : va_G) (y : Nat → ClassId) (a : Nat → Nat) (b : MS) (n : Nat) (la : Nat → Nat → Nat) (L : LNS)  : Met l yX2_replicaRate wsX2_replicaRate ({ frames := 1, cells := 0, slots := 0, locals := 25 }) (rP G y [.ref (a 13)] (bkW y a b n la L)) (QcV (.int (bAvg b))) 0 0 (fun _ => False) := by
  refine Met.ofW (cc := cX2_replicaRate) (maxL := 1) (ret := (some .int)) (by decide) rfl ?_
  intro p e s m args below meth c s₁ B hml hv
  obtain ⟨rfl, hP, hK⟩ := hv
  have hx := B.exec
  have hb := B.bytes
  have hr := B.returns
  have hts := atoms_spec (ws := wsX2_replicaRate) B.pre
  have hown : s.vm.findClass RX2 = some m.cls := findClass_of_methodNamed B.named
  have hlocks := B.notSynchronized
  have hl := lv_entry ([.ref (a 13)]) (n := 1) (Nat.le_of_ble_eq_true rfl)
  rw [lg_entry_eq]
  generalize (lg_sl ([.ref (a 13)]) ++ List.replicate (1 - (lg_sl ([.ref (a 13)])).length) Slot.unset).toArray = ls at hl ⊢
  have hin2 : ∀ w ∈ wsX20, w ∈ wsX2_replicaRate := by decide +kernel
  have hl : lv_has ls 1 [(0, .ref (a 13))] := hl
  refine lv_aload_n hx hb dX2_replicaRate_0 rfl (lv_at hl 0 rfl) ?_
  refine bkG (b := b) (val := .ref (a 8)) hx hb hts hin2 hown hK hP 8 (by decide) (hts (.fieldLink RX2 41 "FundBook" "replica" "LFundBook$Replica;") (by decide +kernel)) rfl dX2_replicaRate_1 ?_
  refine caR (r := .int (bAvg b)) (va_runVN (As := []) (rest := []) ⟨hx, hb, hml, hown, hts⟩ (c_X1_averageRate l G y a b) ⟨va_cnB (host := "FundBook") 0 hts gX2_replicaRate_X1_averageRate_n174 rfl rfl rfl (hK.nw (by decide +kernel)) (hts (.initialized RX1) (by decide +kernel)) (by decide +kernel) ⟨Nat.le_of_ble_eq_true rfl, Nat.le_of_ble_eq_true rfl⟩, hts (.instanceMethod yX1_averageRate) (by decide +kernel), hts (.selects RX1 yX1_averageRate yX1_averageRate) (by decide +kernel)⟩ ⟨rP_bl, va_recv hK.1 (bk_rp hP) (ci := 1) (q0 := 0) rfl rfl, fun U hU hW => ⟨rfl, by rw [hU]; exact (bk_rp hP), Kb.moved hW hK⟩⟩ rfl rfl hl.1 rfl (lv_room (Nat.le_of_ble_eq_true rfl)) dX2_replicaRate_4 ⟨Nat.le_of_ble_eq_true rfl, Nat.le_of_ble_eq_true rfl⟩) ?_
  exact W.iret (v := bAvg b) hx hb hr (fun t ht hW => ⟨congrArg (fun z => Outcome.returned (some (.int z))) (rfl), ht⟩) t_nil dX2_replicaRate_7
