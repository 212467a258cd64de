/-! ===== the book's reads where nothing is thrown: no new cell, nothing written (printed by a program of mine) ===== -/
theorem bEn_1 {t j : Nat} (h : j < t) (ht : t ≤ 47) : bEn t (nI j) = 1 := by
  unfold bEn
  rw [if_neg (nI_pos (by omega)), if_neg (nI_ge h (by omega))]
set_option maxHeartbeats 4000000 in
set_option maxRecDepth 100000 in
theorem cr_left (l : Launch) (G : va_G) (y : Nat → ClassId) (a : Nat → Nat) (b : MS) (n : Nat) (la : Nat → Nat → Nat) (L : LNS) (hn24 : n ≤ 24) (pd : Nat → Nat) (hpd : ∀ k, k < n → L k 0 7 = nI (pd k) ∧ pd k ≤ 6) (i : Nat) (hi : i < n) : Met l yX2_left wsX2_left ({ frames := 1, cells := 0, slots := 0, locals := 22 }) (rP G y [.ref (a 13), .int (nI i)] (bkW y a b n la L)) (QcV (.int (lUnp (L i) (pd i)))) 0 0 (fun _ => False) := by
  refine Met.ofW (cc := cX2_left) (maxL := 3) (ret := (some .int)) (by decide) rfl ?_
  intro p e s m args below meth c s₁ B hml hv
  obtain ⟨rfl, hP, hK⟩ := hv
  have hx := B.exec
  have hb := B.bytes
  have hr := B.returns
  have hts := atoms_spec (ws := wsX2_left) B.pre
  have hown : s.vm.findClass RX2 = some m.cls := findClass_of_methodNamed B.named
  have hlocks := B.notSynchronized
  have hl := lv_entry ([.ref (a 13), .int (nI i)]) (n := 3) (Nat.le_of_ble_eq_true rfl)
  rw [lg_entry_eq]
  generalize (lg_sl ([.ref (a 13), .int (nI i)]) ++ List.replicate (3 - (lg_sl ([.ref (a 13), .int (nI i)])).length) Slot.unset).toArray = ls at hl ⊢
  have hl : lv_has ls 3 [(0, .ref (a 13)), (1, .int (nI i))] := hl
  refine lv_aload_n hx hb dX2_left_0 rfl (lv_at hl 0 rfl) ?_
  refine lv_iload_n hx hb dX2_left_1 rfl (lv_at hl 1 rfl) ?_
  refine caR (r := va_rf (bFind n la (nI i))) (va_runV (As := [.int (nI i)]) (rest := []) ⟨hx, hb, hml, hown, hts⟩ (c_X2_findLoan l G y a b n la L (nI i)) (cwV 1 hts gX2_left_X2_findLoan rfl rfl rfl (by decide +kernel) ⟨Nat.le_of_ble_eq_true rfl, Nat.le_of_ble_eq_true rfl⟩) ⟨rP_bl, va_recv hK.1 hP (ci := 2) (q0 := 0) rfl rfl, fun U hU hW => ⟨rfl, by rw [hU]; exact hP, Kb.moved hW hK⟩⟩ rfl rfl hl.1 rfl (lv_room (Nat.le_of_ble_eq_true rfl)) dX2_left_2 ⟨Nat.le_of_ble_eq_true rfl, Nat.le_of_ble_eq_true rfl⟩) ?_
  refine lv_optS (bFind_S hi hn24) ?_
  refine lv_astore_n (lv' := [(2, .ref (la i 0)), (0, .ref (a 13)), (1, .int (nI i))]) hx hb dX2_left_5 rfl hl (by decide) rfl (fun ls hl => ?_)
  refine lv_aload_n hx hb dX2_left_6 rfl (lv_at hl 0 rfl) ?_
  refine lv_ifnonnull (tgt := 20) hx hb dX2_left_7 (by decide) ?_
  refine lv_aload_n hx hb dX2_left_20 rfl (lv_at hl 0 rfl) ?_
  refine caR (r := .int (lUnp (L i) (pd i))) (va_runVN (As := []) (rest := []) ⟨hx, hb, hml, hown, hts⟩ (c_X0_unpaid l G y la L i (pd i) (hpd i hi).1 (hpd i hi).2) ⟨va_cnB (host := "FundBook") 0 hts gX2_left_X0_unpaid_n107 rfl rfl rfl (hK.nw (by decide +kernel)) (hts (.initialized RX0) (by decide +kernel)) (by decide +kernel) ⟨Nat.le_of_ble_eq_true rfl, Nat.le_of_ble_eq_true rfl⟩, hts (.instanceMethod yX0_unpaid) (by decide +kernel), hts (.selects RX0 yX0_unpaid yX0_unpaid) (by decide +kernel)⟩ ⟨rP_bl, va_recv hK.1 (bk_ln hP hi) (ci := 0) (q0 := 0) rfl rfl, fun U hU hW => ⟨rfl, by rw [hU]; exact (bk_ln hP hi), Kb.moved hW hK⟩⟩ rfl rfl hl.1 rfl (lv_room (Nat.le_of_ble_eq_true rfl)) dX2_left_21 ⟨Nat.le_of_ble_eq_true rfl, Nat.le_of_ble_eq_true rfl⟩) ?_
  exact W.iret (v := lUnp (L i) (pd i)) hx hb hr (fun t ht hW => ⟨congrArg (fun z => Outcome.returned (some (.int z))) (rfl), ht⟩) t_nil dX2_left_24
set_option maxHeartbeats 4000000 in
set_option maxRecDepth 100000 in
theorem cr_bears (l : Launch) (G : va_G) (y : Nat → ClassId) (a : Nat → Nat) (b : MS) (n : Nat) (la : Nat → Nat → Nat) (L : LNS) (hn24 : n ≤ 24) (pd : Nat → Nat) (hpd : ∀ k, k < n → L k 0 7 = nI (pd k) ∧ pd k ≤ 6) (i : Nat) (hi : i < n) (j : Nat) (hj : j ≤ 3) : Met l yX2_bears wsX2_bears ({ frames := 3, cells := 0, slots := 0, locals := 64 }) (rP G y [.ref (a 13), .int (nI i), .int (nI j)] (bkW y a b n la L)) (QcV (.int (bBear (L i) (pd i) (nI j)))) 0 0 (fun _ => False) := by
  refine Met.ofW (cc := cX2_bears) (maxL := 4) (ret := (some .int)) (by decide) rfl ?_
  intro p e s m args below meth c s₁ B hml hv
  obtain ⟨rfl, hP, hK⟩ := hv
  have hx := B.exec
  have hb := B.bytes
  have hr := B.returns
  have hts := atoms_spec (ws := wsX2_bears) B.pre
  have hown : s.vm.findClass RX2 = some m.cls := findClass_of_methodNamed B.named
  have hlocks := B.notSynchronized
  have hl := lv_entry ([.ref (a 13), .int (nI i), .int (nI j)]) (n := 4) (Nat.le_of_ble_eq_true rfl)
  rw [lg_entry_eq]
  generalize (lg_sl ([.ref (a 13), .int (nI i), .int (nI j)]) ++ List.replicate (4 - (lg_sl ([.ref (a 13), .int (nI i), .int (nI j)])).length) Slot.unset).toArray = ls at hl ⊢
  have hl : lv_has ls 4 [(0, .ref (a 13)), (1, .int (nI i)), (2, .int (nI j))] := hl
  refine lv_aload_n hx hb dX2_bears_0 rfl (lv_at hl 0 rfl) ?_
  refine lv_iload_n hx hb dX2_bears_1 rfl (lv_at hl 1 rfl) ?_
  refine caR (r := va_rf (bFind n la (nI i))) (va_runV (As := [.int (nI i)]) (rest := []) ⟨hx, hb, hml, hown, hts⟩ (c_X2_findLoan l G y a b n la L (nI i)) (cwV 1 hts gX2_bears_X2_findLoan rfl rfl rfl (by decide +kernel) ⟨Nat.le_of_ble_eq_true rfl, Nat.le_of_ble_eq_true rfl⟩) ⟨rP_bl, va_recv hK.1 hP (ci := 2) (q0 := 0) rfl rfl, fun U hU hW => ⟨rfl, by rw [hU]; exact hP, Kb.moved hW hK⟩⟩ rfl rfl hl.1 rfl (lv_room (Nat.le_of_ble_eq_true rfl)) dX2_bears_2 ⟨Nat.le_of_ble_eq_true rfl, Nat.le_of_ble_eq_true rfl⟩) ?_
  refine lv_optS (bFind_S hi hn24) ?_
  refine lv_astore_n (lv' := [(3, .ref (la i 0)), (0, .ref (a 13)), (1, .int (nI i)), (2, .int (nI j))]) hx hb dX2_bears_5 rfl hl (by decide) rfl (fun ls hl => ?_)
  refine lv_aload_n hx hb dX2_bears_6 rfl (lv_at hl 0 rfl) ?_
  refine lv_ifnonnull (tgt := 20) hx hb dX2_bears_7 (by decide) ?_
  refine lv_iload_n hx hb dX2_bears_20 rfl (lv_at hl 3 rfl) ?_
  rcases (show j = 0 ∨ j = 1 ∨ j = 2 ∨ j = 3 by omega) with rfl | rfl | rfl | rfl
  · refine lv_tableIn (tgt := 52) (off := 31) hx hb dX2_bears_21 (by decide) (by decide) (by decide) (by decide) ?_
    refine lv_aload_n hx hb dX2_bears_52 rfl (lv_at hl 0 rfl) ?_
    refine caR (r := .int (lCust (L i) (pd i))) (va_runVN (As := []) (rest := []) ⟨hx, hb, hml, hown, hts⟩ (c_X0_customerInterest l G y la L i (pd i) (hpd i hi).1 (hpd i hi).2) ⟨va_cnB (host := "FundBook") 0 hts gX2_bears_X0_customerInterest_n149 rfl rfl rfl (hK.nw (by decide +kernel)) (hts (.initialized RX0) (by decide +kernel)) (by decide +kernel) ⟨Nat.le_of_ble_eq_true rfl, Nat.le_of_ble_eq_true rfl⟩, hts (.instanceMethod yX0_customerInterest) (by decide +kernel), hts (.selects RX0 yX0_customerInterest yX0_customerInterest) (by decide +kernel)⟩ ⟨rP_bl, va_recv hK.1 (bk_ln hP hi) (ci := 0) (q0 := 0) rfl rfl, fun U hU hW => ⟨rfl, by rw [hU]; exact (bk_ln hP hi), Kb.moved hW hK⟩⟩ rfl rfl hl.1 rfl (lv_room (Nat.le_of_ble_eq_true rfl)) dX2_bears_53 ⟨Nat.le_of_ble_eq_true rfl, Nat.le_of_ble_eq_true rfl⟩) ?_
    exact W.iret (v := lCust (L i) (pd i)) hx hb hr (fun t ht hW => ⟨congrArg (fun z => Outcome.returned (some (.int z))) (rfl), ht⟩) t_nil dX2_bears_56
  · refine lv_tableIn (tgt := 57) (off := 36) hx hb dX2_bears_21 (by decide) (by decide) (by decide) (by decide) ?_
    refine lv_aload_n hx hb dX2_bears_57 rfl (lv_at hl 0 rfl) ?_
    refine caR (r := .int (lFund (L i) (pd i))) (va_runVN (As := []) (rest := []) ⟨hx, hb, hml, hown, hts⟩ (c_X0_funding l G y la L i (pd i) (hpd i hi).1 (hpd i hi).2) ⟨va_cnB (host := "FundBook") 0 hts gX2_bears_X0_funding_n152 rfl rfl rfl (hK.nw (by decide +kernel)) (hts (.initialized RX0) (by decide +kernel)) (by decide +kernel) ⟨Nat.le_of_ble_eq_true rfl, Nat.le_of_ble_eq_true rfl⟩, hts (.instanceMethod yX0_funding) (by decide +kernel), hts (.selects RX0 yX0_funding yX0_funding) (by decide +kernel)⟩ ⟨rP_bl, va_recv hK.1 (bk_ln hP hi) (ci := 0) (q0 := 0) rfl rfl, fun U hU hW => ⟨rfl, by rw [hU]; exact (bk_ln hP hi), Kb.moved hW hK⟩⟩ rfl rfl hl.1 rfl (lv_room (Nat.le_of_ble_eq_true rfl)) dX2_bears_58 ⟨Nat.le_of_ble_eq_true rfl, Nat.le_of_ble_eq_true rfl⟩) ?_
    exact W.iret (v := lFund (L i) (pd i)) hx hb hr (fun t ht hW => ⟨congrArg (fun z => Outcome.returned (some (.int z))) (rfl), ht⟩) t_nil dX2_bears_61
  · refine lv_tableIn (tgt := 62) (off := 41) hx hb dX2_bears_21 (by decide) (by decide) (by decide) (by decide) ?_
    refine lv_aload_n hx hb dX2_bears_62 rfl (lv_at hl 0 rfl) ?_
    refine caR (r := .int (lOpt (L i) (pd i))) (va_runVN (As := []) (rest := []) ⟨hx, hb, hml, hown, hts⟩ (c_X0_optionCharge l G y la L i (pd i) (hpd i hi).1 (hpd i hi).2) ⟨va_cnB (host := "FundBook") 0 hts gX2_bears_X0_optionCharge_n155 rfl rfl rfl (hK.nw (by decide +kernel)) (hts (.initialized RX0) (by decide +kernel)) (by decide +kernel) ⟨Nat.le_of_ble_eq_true rfl, Nat.le_of_ble_eq_true rfl⟩, hts (.instanceMethod yX0_optionCharge) (by decide +kernel), hts (.selects RX0 yX0_optionCharge yX0_optionCharge) (by decide +kernel)⟩ ⟨rP_bl, va_recv hK.1 (bk_ln hP hi) (ci := 0) (q0 := 0) rfl rfl, fun U hU hW => ⟨rfl, by rw [hU]; exact (bk_ln hP hi), Kb.moved hW hK⟩⟩ rfl rfl hl.1 rfl (lv_room (Nat.le_of_ble_eq_true rfl)) dX2_bears_63 ⟨Nat.le_of_ble_eq_true rfl, Nat.le_of_ble_eq_true rfl⟩) ?_
    exact W.iret (v := lOpt (L i) (pd i)) hx hb hr (fun t ht hW => ⟨congrArg (fun z => Outcome.returned (some (.int z))) (rfl), ht⟩) t_nil dX2_bears_66
  · refine lv_tableIn (tgt := 67) (off := 46) hx hb dX2_bears_21 (by decide) (by decide) (by decide) (by decide) ?_
    refine lv_aload_n hx hb dX2_bears_67 rfl (lv_at hl 0 rfl) ?_
    refine caR (r := .int (lOwn (L i) (pd i))) (va_runVN (As := []) (rest := []) ⟨hx, hb, hml, hown, hts⟩ (c_X0_ownMargin l G y la L i (pd i) (hpd i hi).1 (hpd i hi).2) ⟨va_cnB (host := "FundBook") 0 hts gX2_bears_X0_ownMargin_n158 rfl rfl rfl (hK.nw (by decide +kernel)) (hts (.initialized RX0) (by decide +kernel)) (by decide +kernel) ⟨Nat.le_of_ble_eq_true rfl, Nat.le_of_ble_eq_true rfl⟩, hts (.instanceMethod yX0_ownMargin) (by decide +kernel), hts (.selects RX0 yX0_ownMargin yX0_ownMargin) (by decide +kernel)⟩ ⟨rP_bl, va_recv hK.1 (bk_ln hP hi) (ci := 0) (q0 := 0) rfl rfl, fun U hU hW => ⟨rfl, by rw [hU]; exact (bk_ln hP hi), Kb.moved hW hK⟩⟩ rfl rfl hl.1 rfl (lv_room (Nat.le_of_ble_eq_true rfl)) dX2_bears_68 ⟨Nat.le_of_ble_eq_true rfl, Nat.le_of_ble_eq_true rfl⟩) ?_
    exact W.iret (v := lOwn (L i) (pd i)) hx hb hr (fun t ht hW => ⟨congrArg (fun z => Outcome.returned (some (.int z))) (rfl), ht⟩) t_nil dX2_bears_71
set_option maxHeartbeats 4000000 in
set_option maxRecDepth 100000 in
theorem cr_due (l : Launch) (G : va_G) (y : Nat → ClassId) (a : Nat → Nat) (b : MS) (n : Nat) (la : Nat → Nat → Nat) (L : LNS) (pd : Nat → Nat) (hpd : ∀ k, k < n → L k 0 7 = nI (pd k) ∧ pd k ≤ 6) (i : Nat) (hi : i < 6) : Met l yX2_due wsX2_due ({ frames := 1, cells := 0, slots := 0, locals := 22 }) (rP G y [.ref (a 13), .int (nI i)] (bkW y a b n la L)) (QcV (.int (S32 (bSm n (bDu L pd i)) 24))) 0 0 (fun _ => False) := by
  refine Met.ofW (cc := cX2_due) (maxL := 7) (ret := (some .int)) (by decide) rfl ?_
  intro p e s m args below meth c s₁ B hml hv
  obtain ⟨rfl, hP, hK⟩ := hv
  have hx := B.exec
  have hb := B.bytes
  have hr := B.returns
  have hts := atoms_spec (ws := wsX2_due) B.pre
  have hown : s.vm.findClass RX2 = some m.cls := findClass_of_methodNamed B.named
  have hlocks := B.notSynchronized
  have hl := lv_entry ([.ref (a 13), .int (nI i)]) (n := 7) (Nat.le_of_ble_eq_true rfl)
  rw [lg_entry_eq]
  generalize (lg_sl ([.ref (a 13), .int (nI i)]) ++ List.replicate (7 - (lg_sl ([.ref (a 13), .int (nI i)])).length) Slot.unset).toArray = ls at hl ⊢
  have hin2 : ∀ w ∈ wsX20, w ∈ wsX2_due := by decide +kernel
  have hl : lv_has ls 7 [(0, .ref (a 13)), (1, .int (nI i))] := hl
  refine lv_iload_n hx hb dX2_due_0 rfl (lv_at hl 1 rfl) ?_
  refine lv_if_lt (tgt := 10) hx hb dX2_due_1 (by decide) (fun c_1 => absurd c_1 (nI_pos (by omega))) (fun c_1 => ?_)
  refine lv_iload_n hx hb dX2_due_4 rfl (lv_at hl 1 rfl) ?_
  refine lv_bipush (v := 6) hx hb dX2_due_5 (by decide) ?_
  refine lv_icmp_lt (tgt := 20) hx hb dX2_due_7 (by decide) (fun c_7 => ?_) (fun c_7 => absurd (nI_lt (b := 6) hi (by decide)) c_7)
  refine lv_iconst (v := 0) hx hb dX2_due_20 (by decide) ?_
  refine lv_istore_n (lv' := [(2, .int 0), (0, .ref (a 13)), (1, .int (nI i))]) hx hb dX2_due_21 rfl hl (by decide) rfl (fun ls hl => ?_)
  refine lv_aload_n hx hb dX2_due_22 rfl (lv_at hl 1 rfl) ?_
  refine bkG (b := b) (val := .ref (a 5)) hx hb hts hin2 hown hK hP 5 (by decide) (hts (.fieldLink RX2 28 "FundBook" "loanRows" "[LFundBook$Loan;") (by decide +kernel)) rfl dX2_due_23 ?_
  refine lv_astore_n (lv' := [(3, .ref (a 5)), (2, .int 0), (0, .ref (a 13)), (1, .int (nI i))]) hx hb dX2_due_26 rfl hl (by decide) rfl (fun ls hl => ?_)
  refine lv_aload_n hx hb dX2_due_27 rfl (lv_at hl 0 rfl) ?_
  refine va_alen (v := 24) hx hb hK.1 hP 2 2 bg_5 rfl rfl dX2_due_28 ?_
  refine lv_istore (lv' := [(4, .int 24), (3, .ref (a 5)), (2, .int 0), (0, .ref (a 13)), (1, .int (nI i))]) hx hb dX2_due_29 hl (by decide) rfl (fun ls hl => ?_)
  refine lv_iconst (v := 0) hx hb dX2_due_31 (by decide) ?_
  refine lv_istore (lv' := [(5, .int 0), (4, .int 24), (3, .ref (a 5)), (2, .int 0), (0, .ref (a 13)), (1, .int (nI i))]) hx hb dX2_due_32 hl (by decide) rfl (fun ls hl => ?_)
  refine loopW (LV := fun k => [(0, .ref (a 13)), (1, .int (nI i)), (3, .ref (a 5)), (4, .int 24), (2, .int (S32 (bSm n (bDu L pd i)) k)), (5, .int (nI k))]) 24 (lv_sub hl [4, 5, 2, 1, 3, 0] rfl) (fun k ls hk_k hl ih_k => ?_) (fun ls hl => ?_)
  · have hl : lv_has ls 7 [(0, .ref (a 13)), (1, .int (nI i)), (3, .ref (a 5)), (4, .int 24), (2, .int (S32 (bSm n (bDu L pd i)) k)), (5, .int (nI k))] := hl
    refine lv_iload hx hb dX2_due_34 (lv_at hl 5 rfl) ?_
    refine lv_iload hx hb dX2_due_36 (lv_at hl 3 rfl) ?_
    refine lv_icmp_ge (tgt := 67) hx hb dX2_due_38 (by decide) (fun c_38 => absurd c_38 (nI_ge hk_k (by decide))) (fun c_38 => ?_)
    refine lv_aload_n hx hb dX2_due_41 rfl (lv_at hl 2 rfl) ?_
    refine lv_iload hx hb dX2_due_42 (lv_at hl 5 rfl) ?_
    refine ldQ (f := lrF n la) hx hb hK hP 2 bg_5 k rfl (by omega) (by decide) dX2_due_44 ?_
    rcases Nat.lt_or_ge k n with hkn | hkn
    · refine lv_optS (if_pos hkn) ?_
      refine lv_astore (lv' := [(6, .ref (la k 0)), (0, .ref (a 13)), (1, .int (nI i)), (3, .ref (a 5)), (4, .int 24), (2, .int (S32 (bSm n (bDu L pd i)) k)), (5, .int (nI k))]) hx hb dX2_due_45 hl (by decide) rfl (fun ls hl => ?_)
      refine lv_aload hx hb dX2_due_47 (lv_at hl 0 rfl) ?_
      refine lv_ifnull hx hb dX2_due_49 ?_
      refine lv_iload_n hx hb dX2_due_52 rfl (lv_at hl 5 rfl) ?_
      refine lv_aload hx hb dX2_due_53 (lv_at hl 0 rfl) ?_
      refine lv_iload_n hx hb dX2_due_55 rfl (lv_at hl 2 rfl) ?_
      refine caR (r := .int (lAh (L k) (pd k) i)) (va_runVN (As := [.int (nI i)]) (rest := [.int (S32 (bSm n (bDu L pd i)) k)]) ⟨hx, hb, hml, hown, hts⟩ (c_X0_partAhead l G y la L k (pd k) (hpd k hkn).1 (hpd k hkn).2 i (by omega)) ⟨va_cnB (host := "FundBook") 1 hts gX2_due_X0_partAhead_n165 rfl rfl rfl (hK.nw (by decide +kernel)) (hts (.initialized RX0) (by decide +kernel)) (by decide +kernel) ⟨Nat.le_of_ble_eq_true rfl, Nat.le_of_ble_eq_true rfl⟩, hts (.instanceMethod yX0_partAhead) (by decide +kernel), hts (.selects RX0 yX0_partAhead yX0_partAhead) (by decide +kernel)⟩ ⟨rP_bl, va_recv hK.1 (bk_ln hP hkn) (ci := 0) (q0 := 0) rfl rfl, fun U hU hW => ⟨rfl, by rw [hU]; exact (bk_ln hP hkn), Kb.moved hW hK⟩⟩ rfl rfl hl.1 rfl (lv_room (Nat.le_of_ble_eq_true rfl)) dX2_due_56 ⟨Nat.le_of_ble_eq_true rfl, Nat.le_of_ble_eq_true rfl⟩) ?_
      refine lv_iadd hx hb dX2_due_59 ?_
      refine lv_topE (z := S32 (bSm n (bDu L pd i)) (k + 1)) (bSm_s (F := bDu L pd i) hkn) ?_
      refine lv_istore_n (lv' := [(2, .int (S32 (bSm n (bDu L pd i)) (k + 1))), (6, .ref (la k 0)), (0, .ref (a 13)), (1, .int (nI i)), (3, .ref (a 5)), (4, .int 24), (5, .int (nI k))]) hx hb dX2_due_60 rfl hl (by decide) rfl (fun ls hl => ?_)
      refine lv_iinc (v := (nI (k + 1))) (lv' := [(5, .int (nI (k + 1))), (2, .int (S32 (bSm n (bDu L pd i)) (k + 1))), (6, .ref (la k 0)), (0, .ref (a 13)), (1, .int (nI i)), (3, .ref (a 5)), (4, .int 24)]) hx hb dX2_due_61 hl (k := 6) rfl iinc1 (by decide) rfl (fun ls hl => ?_)
      refine lv_goto (tgt := 34) hx hb dX2_due_64 (by decide) ?_
      exact ih_k ls (lv_sub hl [3, 4, 5, 6, 1, 0] rfl)
    · refine lv_optN (if_neg (Nat.not_lt.mpr hkn)) ?_
      refine lv_astoreN (lv' := [(6, .null), (0, .ref (a 13)), (1, .int (nI i)), (3, .ref (a 5)), (4, .int 24), (2, .int (S32 (bSm n (bDu L pd i)) k)), (5, .int (nI k))]) hx hb dX2_due_45 hl (by decide) rfl (fun ls hl => ?_)
      refine lv_aloadN hx hb dX2_due_47 (lv_at hl 0 rfl) ?_
      refine lv_ifnullN (tgt := 61) hx hb dX2_due_49 (by decide) ?_
      refine lv_iinc (v := (nI (k + 1))) (lv' := [(5, .int (nI (k + 1))), (6, .null), (0, .ref (a 13)), (1, .int (nI i)), (3, .ref (a 5)), (4, .int 24), (2, .int (S32 (bSm n (bDu L pd i)) k))]) hx hb dX2_due_61 hl (k := 6) rfl iinc1 (by decide) rfl (fun ls hl => ?_)
      refine lv_goto (tgt := 34) hx hb dX2_due_64 (by decide) ?_
      exact ih_k ls (by show lv_has ls 7 _; rw [bSm_k hkn]; exact lv_sub hl [2, 3, 4, 5, 6, 0] rfl)
  · have hl : lv_has ls 7 [(0, .ref (a 13)), (1, .int (nI i)), (3, .ref (a 5)), (4, .int 24), (2, .int (S32 (bSm n (bDu L pd i)) 24)), (5, .int (nI 24))] := hl
    refine lv_iload hx hb dX2_due_34 (lv_at hl 5 rfl) ?_
    refine lv_iload hx hb dX2_due_36 (lv_at hl 3 rfl) ?_
    refine lv_icmp_ge (tgt := 67) hx hb dX2_due_38 (by decide) (fun c_38 => ?_) (fun c_38 => absurd (nI_le (Nat.le_refl 24) (by decide)) c_38)
    refine lv_iload_n hx hb dX2_due_67 rfl (lv_at hl 4 rfl) ?_
    exact W.iret (v := S32 (bSm n (bDu L pd i)) 24) hx hb hr (fun t ht hW => ⟨congrArg (fun z => Outcome.returned (some (.int z))) (rfl), ht⟩) t_nil dX2_due_68
set_option maxHeartbeats 4000000 in
set_option maxRecDepth 100000 in
theorem cr_balance (l : Launch) (G : va_G) (y : Nat → ClassId) (a : Nat → Nat) (b : MS) (n : Nat) (la : Nat → Nat → Nat) (L : LNS) (i : Nat) (hi : i < 3) : Met l yX2_balance wsX2_balance ({ frames := 0, cells := 0, slots := 0, locals := 0 }) (rP G y [.ref (a 13), .int (nI i)] (bkW y a b n la L)) (QcV (.int (b 7 i))) 0 0 (fun _ => False) := by
  refine Met.ofW (cc := cX2_balance) (maxL := 2) (ret := (some .int)) (by decide) rfl ?_
  intro p e s m args below meth c s₁ B hml hv
  obtain ⟨rfl, hP, hK⟩ := hv
  have hx := B.exec
  have hb := B.bytes
  have hr := B.returns
  have hts := atoms_spec (ws := wsX2_balance) B.pre
  have hown : s.vm.findClass RX2 = some m.cls := findClass_of_methodNamed B.named
  have hlocks := B.notSynchronized
  have hl := lv_entry ([.ref (a 13), .int (nI i)]) (n := 2) (Nat.le_of_ble_eq_true rfl)
  rw [lg_entry_eq]
  generalize (lg_sl ([.ref (a 13), .int (nI i)]) ++ List.replicate (2 - (lg_sl ([.ref (a 13), .int (nI i)])).length) Slot.unset).toArray = ls at hl ⊢
  have hin2 : ∀ w ∈ wsX20, w ∈ wsX2_balance := by decide +kernel
  have hl : lv_has ls 2 [(0, .ref (a 13)), (1, .int (nI i))] := hl
  refine lv_iload_n hx hb dX2_balance_0 rfl (lv_at hl 1 rfl) ?_
  refine lv_if_lt (tgt := 9) hx hb dX2_balance_1 (by decide) (fun c_1 => absurd c_1 (nI_pos (by omega))) (fun c_1 => ?_)
  refine lv_iload_n hx hb dX2_balance_4 rfl (lv_at hl 1 rfl) ?_
  refine lv_iconst (v := 3) hx hb dX2_balance_5 (by decide) ?_
  refine lv_icmp_lt (tgt := 19) hx hb dX2_balance_6 (by decide) (fun c_6 => ?_) (fun c_6 => absurd (nI_lt (b := 3) hi (by decide)) c_6)
  refine lv_aload_n hx hb dX2_balance_19 rfl (lv_at hl 0 rfl) ?_
  refine bkG (b := b) (val := .ref (a 7)) hx hb hts hin2 hown hK hP 7 (by decide) (hts (.fieldLink RX2 35 "FundBook" "balances" "[I") (by decide +kernel)) rfl dX2_balance_20 ?_
  refine lv_iload_n hx hb dX2_balance_23 rfl (lv_at hl 1 rfl) ?_
  refine ldI (f := b 7) hx hb hK hP 3 bg_7 i rfl (by omega) (by decide) dX2_balance_24 ?_
  exact W.iret (v := b 7 i) hx hb hr (fun t ht hW => ⟨congrArg (fun z => Outcome.returned (some (.int z))) (rfl), ht⟩) t_nil dX2_balance_25
set_option maxHeartbeats 4000000 in
set_option maxRecDepth 100000 in
theorem cr_tranche (l : Launch) (G : va_G) (y : Nat → ClassId) (a : Nat → Nat) (b : MS) (n : Nat) (la : Nat → Nat → Nat) (L : LNS) (i : Nat) (hi : i < 6) : Met l yX2_tranche wsX2_tranche ({ frames := 0, cells := 0, slots := 0, locals := 0 }) (rP G y [.ref (a 13), .int (nI i)] (bkW y a b n la L)) (QcV (.int (b 14 i))) 0 0 (fun _ => False) := by
  refine Met.ofW (cc := cX2_tranche) (maxL := 2) (ret := (some .int)) (by decide) rfl ?_
  intro p e s m args below meth c s₁ B hml hv
  obtain ⟨rfl, hP, hK⟩ := hv
  have hx := B.exec
  have hb := B.bytes
  have hr := B.returns
  have hts := atoms_spec (ws := wsX2_tranche) B.pre
  have hown : s.vm.findClass RX2 = some m.cls := findClass_of_methodNamed B.named
  have hlocks := B.notSynchronized
  have hl := lv_entry ([.ref (a 13), .int (nI i)]) (n := 2) (Nat.le_of_ble_eq_true rfl)
  rw [lg_entry_eq]
  generalize (lg_sl ([.ref (a 13), .int (nI i)]) ++ List.replicate (2 - (lg_sl ([.ref (a 13), .int (nI i)])).length) Slot.unset).toArray = ls at hl ⊢
  have hin1 : ∀ w ∈ wsX10, w ∈ wsX2_tranche := by decide +kernel
  have hin2 : ∀ w ∈ wsX20, w ∈ wsX2_tranche := by decide +kernel
  have hl : lv_has ls 2 [(0, .ref (a 13)), (1, .int (nI i))] := hl
  refine lv_iload_n hx hb dX2_tranche_0 rfl (lv_at hl 1 rfl) ?_
  refine lv_if_lt (tgt := 10) hx hb dX2_tranche_1 (by decide) (fun c_1 => absurd c_1 (nI_pos (by omega))) (fun c_1 => ?_)
  refine lv_iload_n hx hb dX2_tranche_4 rfl (lv_at hl 1 rfl) ?_
  refine lv_bipush (v := 6) hx hb dX2_tranche_5 (by decide) ?_
  refine lv_icmp_lt (tgt := 20) hx hb dX2_tranche_7 (by decide) (fun c_7 => ?_) (fun c_7 => absurd (nI_lt (b := 6) hi (by decide)) c_7)
  refine lv_aload_n hx hb dX2_tranche_20 rfl (lv_at hl 0 rfl) ?_
  refine bkG (b := b) (val := .ref (a 8)) hx hb hts hin2 hown hK hP 8 (by decide) (hts (.fieldLink RX2 41 "FundBook" "replica" "LFundBook$Replica;") (by decide +kernel)) rfl dX2_tranche_21 ?_
  refine rpGN (val := .ref (a 14)) hx hb hts hin1 hown hK (bk_rp hP) 0 (by decide) (by decide +kernel) rfl dX2_tranche_24 ?_
  refine lv_iload_n hx hb dX2_tranche_27 rfl (lv_at hl 1 rfl) ?_
  refine ldI (f := b 14) hx hb hK hP 5 bg_14 i rfl (by omega) (by decide) dX2_tranche_28 ?_
  exact W.iret (v := b 14 i) hx hb hr (fun t ht hW => ⟨congrArg (fun z => Outcome.returned (some (.int z))) (rfl), ht⟩) t_nil dX2_tranche_29
set_option maxHeartbeats 4000000 in
set_option maxRecDepth 100000 in
theorem cr_margin (l : Launch) (G : va_G) (y : Nat → ClassId) (a : Nat → Nat) (b : MS) (n : Nat) (la : Nat → Nat → Nat) (L : LNS) (t : Nat) (ht : b 13 4 = nI t) (ht47 : t ≤ 47) (i : Nat) (hi : i < 3) (j : Nat) (hj : j < t) : Met l yX2_margin wsX2_margin ({ frames := 1, cells := 0, slots := 0, locals := 21 }) (rP G y [.ref (a 13), .int (nI i), .int (nI j)] (bkW y a b n la L)) (QcV (.int (b (16 + i) j))) 0 0 (fun _ => False) := by
  refine Met.ofW (cc := cX2_margin) (maxL := 3) (ret := (some .int)) (by decide) rfl ?_
  intro p e s m args below meth c s₁ B hml hv
  obtain ⟨rfl, hP, hK⟩ := hv
  have hx := B.exec
  have hb := B.bytes
  have hr := B.returns
  have hts := atoms_spec (ws := wsX2_margin) B.pre
  have hown : s.vm.findClass RX2 = some m.cls := findClass_of_methodNamed B.named
  have hlocks := B.notSynchronized
  have hl := lv_entry ([.ref (a 13), .int (nI i), .int (nI j)]) (n := 3) (Nat.le_of_ble_eq_true rfl)
  rw [lg_entry_eq]
  generalize (lg_sl ([.ref (a 13), .int (nI i), .int (nI j)]) ++ List.replicate (3 - (lg_sl ([.ref (a 13), .int (nI i), .int (nI j)])).length) Slot.unset).toArray = ls at hl ⊢
  have hin2 : ∀ w ∈ wsX20, w ∈ wsX2_margin := by decide +kernel
  have hl : lv_has ls 3 [(0, .ref (a 13)), (1, .int (nI i)), (2, .int (nI j))] := hl
  refine lv_iload_n hx hb dX2_margin_0 rfl (lv_at hl 1 rfl) ?_
  refine lv_if_lt (tgt := 17) hx hb dX2_margin_1 (by decide) (fun c_1 => absurd c_1 (nI_pos (by omega))) (fun c_1 => ?_)
  refine lv_iload_n hx hb dX2_margin_4 rfl (lv_at hl 1 rfl) ?_
  refine lv_iconst (v := 3) hx hb dX2_margin_5 (by decide) ?_
  refine lv_icmp_ge (tgt := 17) hx hb dX2_margin_6 (by decide) (fun c_6 => absurd c_6 (nI_ge hi (by decide))) (fun c_6 => ?_)
  refine lv_aload_n hx hb dX2_margin_9 rfl (lv_at hl 0 rfl) ?_
  refine lv_iload_n hx hb dX2_margin_10 rfl (lv_at hl 2 rfl) ?_
  refine caR (r := .int (bEn t (nI j))) (va_runV (As := [.int (nI j)]) (rest := []) ⟨hx, hb, hml, hown, hts⟩ (c_X2_hasEnded l G y a b n la L t ht ht47 (nI j)) (cwV 1 hts gX2_margin_X2_hasEnded rfl rfl rfl (by decide +kernel) ⟨Nat.le_of_ble_eq_true rfl, Nat.le_of_ble_eq_true rfl⟩) ⟨rP_bl, va_recv hK.1 hP (ci := 2) (q0 := 0) rfl rfl, fun U hU hW => ⟨rfl, by rw [hU]; exact hP, Kb.moved hW hK⟩⟩ rfl rfl hl.1 rfl (lv_room (Nat.le_of_ble_eq_true rfl)) dX2_margin_11 ⟨Nat.le_of_ble_eq_true rfl, Nat.le_of_ble_eq_true rfl⟩) ?_
  refine lv_topE (z := 1) (bEn_1 hj ht47) ?_
  refine lv_if_ne (tgt := 27) hx hb dX2_margin_14 (by decide) (fun c_14 => ?_) (fun c_14 => absurd c_14 (by decide))
  refine lv_aload_n hx hb dX2_margin_27 rfl (lv_at hl 0 rfl) ?_
  refine bkG (b := b) (val := .ref (a 9)) hx hb hts hin2 hown hK hP 9 (by decide) (hts (.fieldLink RX2 47 "FundBook" "branchMargins" "[[I") (by decide +kernel)) rfl dX2_margin_28 ?_
  refine lv_iload_n hx hb dX2_margin_31 rfl (lv_at hl 1 rfl) ?_
  refine ldA (f := fun i => if i < 3 then some (a (16 + i)) else none) hx hb hK hP 7 bg_9 i rfl (by omega) (by decide) dX2_margin_32 ?_
  refine lv_optS (x := a (16 + i)) (if_pos (by omega)) ?_
  refine lv_iload_n hx hb dX2_margin_33 rfl (lv_at hl 2 rfl) ?_
  refine ldI (f := (b (16 + i))) hx hb hK hP (8 + i) (bg_M (by omega)) j rfl (by omega) (by decide) dX2_margin_34 ?_
  exact W.iret (v := (b (16 + i)) j) hx hb hr (fun t ht hW => ⟨congrArg (fun z => Outcome.returned (some (.int z))) (rfl), ht⟩) t_nil dX2_margin_35
set_option maxHeartbeats 4000000 in
set_option maxRecDepth 100000 in
theorem cr_byProduct (l : Launch) (G : va_G) (y : Nat → ClassId) (a : Nat → Nat) (b : MS) (n : Nat) (la : Nat → Nat → Nat) (L : LNS) (t : Nat) (ht : b 13 4 = nI t) (ht47 : t ≤ 47) (i : Nat) (hi : i < 3) (j : Nat) (hj : j < t) : Met l yX2_byProduct wsX2_byProduct ({ frames := 1, cells := 0, slots := 0, locals := 21 }) (rP G y [.ref (a 13), .int (nI i), .int (nI j)] (bkW y a b n la L)) (QcV (.int (b (19 + i) j))) 0 0 (fun _ => False) := by
  refine Met.ofW (cc := cX2_byProduct) (maxL := 3) (ret := (some .int)) (by decide) rfl ?_
  intro p e s m args below meth c s₁ B hml hv
  obtain ⟨rfl, hP, hK⟩ := hv
  have hx := B.exec
  have hb := B.bytes
  have hr := B.returns
  have hts := atoms_spec (ws := wsX2_byProduct) B.pre
  have hown : s.vm.findClass RX2 = some m.cls := findClass_of_methodNamed B.named
  have hlocks := B.notSynchronized
  have hl := lv_entry ([.ref (a 13), .int (nI i), .int (nI j)]) (n := 3) (Nat.le_of_ble_eq_true rfl)
  rw [lg_entry_eq]
  generalize (lg_sl ([.ref (a 13), .int (nI i), .int (nI j)]) ++ List.replicate (3 - (lg_sl ([.ref (a 13), .int (nI i), .int (nI j)])).length) Slot.unset).toArray = ls at hl ⊢
  have hin2 : ∀ w ∈ wsX20, w ∈ wsX2_byProduct := by decide +kernel
  have hl : lv_has ls 3 [(0, .ref (a 13)), (1, .int (nI i)), (2, .int (nI j))] := hl
  refine lv_iload_n hx hb dX2_byProduct_0 rfl (lv_at hl 1 rfl) ?_
  refine lv_if_lt (tgt := 17) hx hb dX2_byProduct_1 (by decide) (fun c_1 => absurd c_1 (nI_pos (by omega))) (fun c_1 => ?_)
  refine lv_iload_n hx hb dX2_byProduct_4 rfl (lv_at hl 1 rfl) ?_
  refine lv_iconst (v := 3) hx hb dX2_byProduct_5 (by decide) ?_
  refine lv_icmp_ge (tgt := 17) hx hb dX2_byProduct_6 (by decide) (fun c_6 => absurd c_6 (nI_ge hi (by decide))) (fun c_6 => ?_)
  refine lv_aload_n hx hb dX2_byProduct_9 rfl (lv_at hl 0 rfl) ?_
  refine lv_iload_n hx hb dX2_byProduct_10 rfl (lv_at hl 2 rfl) ?_
  refine caR (r := .int (bEn t (nI j))) (va_runV (As := [.int (nI j)]) (rest := []) ⟨hx, hb, hml, hown, hts⟩ (c_X2_hasEnded l G y a b n la L t ht ht47 (nI j)) (cwV 1 hts gX2_byProduct_X2_hasEnded rfl rfl rfl (by decide +kernel) ⟨Nat.le_of_ble_eq_true rfl, Nat.le_of_ble_eq_true rfl⟩) ⟨rP_bl, va_recv hK.1 hP (ci := 2) (q0 := 0) rfl rfl, fun U hU hW => ⟨rfl, by rw [hU]; exact hP, Kb.moved hW hK⟩⟩ rfl rfl hl.1 rfl (lv_room (Nat.le_of_ble_eq_true rfl)) dX2_byProduct_11 ⟨Nat.le_of_ble_eq_true rfl, Nat.le_of_ble_eq_true rfl⟩) ?_
  refine lv_topE (z := 1) (bEn_1 hj ht47) ?_
  refine lv_if_ne (tgt := 27) hx hb dX2_byProduct_14 (by decide) (fun c_14 => ?_) (fun c_14 => absurd c_14 (by decide))
  refine lv_aload_n hx hb dX2_byProduct_27 rfl (lv_at hl 0 rfl) ?_
  refine bkG (b := b) (val := .ref (a 10)) hx hb hts hin2 hown hK hP 10 (by decide) (hts (.fieldLink RX2 50 "FundBook" "productMargins" "[[I") (by decide +kernel)) rfl dX2_byProduct_28 ?_
  refine lv_iload_n hx hb dX2_byProduct_31 rfl (lv_at hl 1 rfl) ?_
  refine ldA (f := fun i => if i < 3 then some (a (19 + i)) else none) hx hb hK hP 11 bg_10 i rfl (by omega) (by decide) dX2_byProduct_32 ?_
  refine lv_optS (x := a (19 + i)) (if_pos (by omega)) ?_
  refine lv_iload_n hx hb dX2_byProduct_33 rfl (lv_at hl 2 rfl) ?_
  refine ldI (f := (b (19 + i))) hx hb hK hP (12 + i) (bg_P (by omega)) j rfl (by omega) (by decide) dX2_byProduct_34 ?_
  exact W.iret (v := (b (19 + i)) j) hx hb hr (fun t ht hW => ⟨congrArg (fun z => Outcome.returned (some (.int z))) (rfl), ht⟩) t_nil dX2_byProduct_35
set_option maxHeartbeats 4000000 in
set_option maxRecDepth 100000 in
theorem cr_treasury (l : Launch) (G : va_G) (y : Nat → ClassId) (a : Nat → Nat) (b : MS) (n : Nat) (la : Nat → Nat → Nat) (L : LNS) (t : Nat) (ht : b 13 4 = nI t) (ht47 : t ≤ 47) (j : Nat) (hj : j < t) : Met l yX2_treasury wsX2_treasury ({ frames := 1, cells := 0, slots := 0, locals := 21 }) (rP G y [.ref (a 13), .int (nI j)] (bkW y a b n la L)) (QcV (.int (b 11 j))) 0 0 (fun _ => False) := by
  refine Met.ofW (cc := cX2_treasury) (maxL := 2) (ret := (some .int)) (by decide) rfl ?_
  intro p e s m args below meth c s₁ B hml hv
  obtain ⟨rfl, hP, hK⟩ := hv
  have hx := B.exec
  have hb := B.bytes
  have hr := B.returns
  have hts := atoms_spec (ws := wsX2_treasury) B.pre
  have hown : s.vm.findClass RX2 = some m.cls := findClass_of_methodNamed B.named
  have hlocks := B.notSynchronized
  have hl := lv_entry ([.ref (a 13), .int (nI j)]) (n := 2) (Nat.le_of_ble_eq_true rfl)
  rw [lg_entry_eq]
  generalize (lg_sl ([.ref (a 13), .int (nI j)]) ++ List.replicate (2 - (lg_sl ([.ref (a 13), .int (nI j)])).length) Slot.unset).toArray = ls at hl ⊢
  have hin2 : ∀ w ∈ wsX20, w ∈ wsX2_treasury := by decide +kernel
  have hl : lv_has ls 2 [(0, .ref (a 13)), (1, .int (nI j))] := hl
  refine lv_aload_n hx hb dX2_treasury_0 rfl (lv_at hl 0 rfl) ?_
  refine lv_iload_n hx hb dX2_treasury_1 rfl (lv_at hl 1 rfl) ?_
  refine caR (r := .int (bEn t (nI j))) (va_runV (As := [.int (nI j)]) (rest := []) ⟨hx, hb, hml, hown, hts⟩ (c_X2_hasEnded l G y a b n la L t ht ht47 (nI j)) (cwV 1 hts gX2_treasury_X2_hasEnded rfl rfl rfl (by decide +kernel) ⟨Nat.le_of_ble_eq_true rfl, Nat.le_of_ble_eq_true rfl⟩) ⟨rP_bl, va_recv hK.1 hP (ci := 2) (q0 := 0) rfl rfl, fun U hU hW => ⟨rfl, by rw [hU]; exact hP, Kb.moved hW hK⟩⟩ rfl rfl hl.1 rfl (lv_room (Nat.le_of_ble_eq_true rfl)) dX2_treasury_2 ⟨Nat.le_of_ble_eq_true rfl, Nat.le_of_ble_eq_true rfl⟩) ?_
  refine lv_topE (z := 1) (bEn_1 hj ht47) ?_
  refine lv_if_ne (tgt := 18) hx hb dX2_treasury_5 (by decide) (fun c_5 => ?_) (fun c_5 => absurd c_5 (by decide))
  refine lv_aload_n hx hb dX2_treasury_18 rfl (lv_at hl 0 rfl) ?_
  refine bkG (b := b) (val := .ref (a 11)) hx hb hts hin2 hown hK hP 11 (by decide) (hts (.fieldLink RX2 53 "FundBook" "treasuryMargins" "[I") (by decide +kernel)) rfl dX2_treasury_19 ?_
  refine lv_iload_n hx hb dX2_treasury_22 rfl (lv_at hl 1 rfl) ?_
  refine ldI (f := b 11) hx hb hK hP 15 bg_11 j rfl (by omega) (by decide) dX2_treasury_23 ?_
  exact W.iret (v := b 11 j) hx hb hr (fun t ht hW => ⟨congrArg (fun z => Outcome.returned (some (.int z))) (rfl), ht⟩) t_nil dX2_treasury_24
set_option maxHeartbeats 4000000 in
set_option maxRecDepth 100000 in
theorem cr_interest (l : Launch) (G : va_G) (y : Nat → ClassId) (a : Nat → Nat) (b : MS) (n : Nat) (la : Nat → Nat → Nat) (L : LNS) (t : Nat) (ht : b 13 4 = nI t) (ht47 : t ≤ 47) (j : Nat) (hj : j < t) : Met l yX2_interest wsX2_interest ({ frames := 1, cells := 0, slots := 0, locals := 21 }) (rP G y [.ref (a 13), .int (nI j)] (bkW y a b n la L)) (QcV (.int (b 12 j))) 0 0 (fun _ => False) := by
  refine Met.ofW (cc := cX2_interest) (maxL := 2) (ret := (some .int)) (by decide) rfl ?_
  intro p e s m args below meth c s₁ B hml hv
  obtain ⟨rfl, hP, hK⟩ := hv
  have hx := B.exec
  have hb := B.bytes
  have hr := B.returns
  have hts := atoms_spec (ws := wsX2_interest) B.pre
  have hown : s.vm.findClass RX2 = some m.cls := findClass_of_methodNamed B.named
  have hlocks := B.notSynchronized
  have hl := lv_entry ([.ref (a 13), .int (nI j)]) (n := 2) (Nat.le_of_ble_eq_true rfl)
  rw [lg_entry_eq]
  generalize (lg_sl ([.ref (a 13), .int (nI j)]) ++ List.replicate (2 - (lg_sl ([.ref (a 13), .int (nI j)])).length) Slot.unset).toArray = ls at hl ⊢
  have hin2 : ∀ w ∈ wsX20, w ∈ wsX2_interest := by decide +kernel
  have hl : lv_has ls 2 [(0, .ref (a 13)), (1, .int (nI j))] := hl
  refine lv_aload_n hx hb dX2_interest_0 rfl (lv_at hl 0 rfl) ?_
  refine lv_iload_n hx hb dX2_interest_1 rfl (lv_at hl 1 rfl) ?_
  refine caR (r := .int (bEn t (nI j))) (va_runV (As := [.int (nI j)]) (rest := []) ⟨hx, hb, hml, hown, hts⟩ (c_X2_hasEnded l G y a b n la L t ht ht47 (nI j)) (cwV 1 hts gX2_interest_X2_hasEnded rfl rfl rfl (by decide +kernel) ⟨Nat.le_of_ble_eq_true rfl, Nat.le_of_ble_eq_true rfl⟩) ⟨rP_bl, va_recv hK.1 hP (ci := 2) (q0 := 0) rfl rfl, fun U hU hW => ⟨rfl, by rw [hU]; exact hP, Kb.moved hW hK⟩⟩ rfl rfl hl.1 rfl (lv_room (Nat.le_of_ble_eq_true rfl)) dX2_interest_2 ⟨Nat.le_of_ble_eq_true rfl, Nat.le_of_ble_eq_true rfl⟩) ?_
  refine lv_topE (z := 1) (bEn_1 hj ht47) ?_
  refine lv_if_ne (tgt := 18) hx hb dX2_interest_5 (by decide) (fun c_5 => ?_) (fun c_5 => absurd c_5 (by decide))
  refine lv_aload_n hx hb dX2_interest_18 rfl (lv_at hl 0 rfl) ?_
  refine bkG (b := b) (val := .ref (a 12)) hx hb hts hin2 hown hK hP 12 (by decide) (hts (.fieldLink RX2 56 "FundBook" "bankInterests" "[I") (by decide +kernel)) rfl dX2_interest_19 ?_
  refine lv_iload_n hx hb dX2_interest_22 rfl (lv_at hl 1 rfl) ?_
  refine ldI (f := b 12) hx hb hK hP 16 bg_12 j rfl (by omega) (by decide) dX2_interest_23 ?_
  exact W.iret (v := b 12 j) hx hb hr (fun t ht hW => ⟨congrArg (fun z => Outcome.returned (some (.int z))) (rfl), ht⟩) t_nil dX2_interest_24
