/-! ===== the model's leaves and sums (printed by a program of mine) ===== -/
theorem iinc1 {k : Nat} : nI k + Int32.ofInt 1 = nI (k + 1) := (nI_succ k).symm
theorem iinc7 {k : Nat} : nI k + Int32.ofInt 7 = nI (k + 7) := by
  rw [show Int32.ofInt 7 = nI 7 from rfl, nI_add]
theorem mg_2 {y : Nat → ClassId} {a : Nat → Nat} {w : MS} : (mdW y a w)[1]? = some (a 2, .inl (y 0, 7, .inl (w 2))) := rfl
theorem ms_2 {y : Nat → ClassId} {a : Nat → Nat} {w : MS} {k : Nat} {z : Int32} : (mdW y a w).set 1 (a 2, .inl (y 0, 7, .inl (upd (w 2) k z))) = mdW y a (u2 w 2 k z) := rfl
theorem mg_7 {y : Nat → ClassId} {a : Nat → Nat} {w : MS} : (mdW y a w)[2]? = some (a 7, .inl (y 0, 24, .inl (w 7))) := rfl
theorem ms_7 {y : Nat → ClassId} {a : Nat → Nat} {w : MS} {k : Nat} {z : Int32} : (mdW y a w).set 2 (a 7, .inl (y 0, 24, .inl (upd (w 7) k z))) = mdW y a (u2 w 7 k z) := rfl
theorem mg_8 {y : Nat → ClassId} {a : Nat → Nat} {w : MS} : (mdW y a w)[3]? = some (a 8, .inl (y 0, 24, .inl (w 8))) := rfl
theorem ms_8 {y : Nat → ClassId} {a : Nat → Nat} {w : MS} {k : Nat} {z : Int32} : (mdW y a w).set 3 (a 8, .inl (y 0, 24, .inl (upd (w 8) k z))) = mdW y a (u2 w 8 k z) := rfl
theorem mg_9 {y : Nat → ClassId} {a : Nat → Nat} {w : MS} : (mdW y a w)[4]? = some (a 9, .inl (y 0, 24, .inl (w 9))) := rfl
theorem ms_9 {y : Nat → ClassId} {a : Nat → Nat} {w : MS} {k : Nat} {z : Int32} : (mdW y a w).set 4 (a 9, .inl (y 0, 24, .inl (upd (w 9) k z))) = mdW y a (u2 w 9 k z) := rfl
theorem mg_10 {y : Nat → ClassId} {a : Nat → Nat} {w : MS} : (mdW y a w)[5]? = some (a 10, .inl (y 0, 24, .inl (w 10))) := rfl
theorem ms_10 {y : Nat → ClassId} {a : Nat → Nat} {w : MS} {k : Nat} {z : Int32} : (mdW y a w).set 5 (a 10, .inl (y 0, 24, .inl (upd (w 10) k z))) = mdW y a (u2 w 10 k z) := rfl
theorem mg_11 {y : Nat → ClassId} {a : Nat → Nat} {w : MS} : (mdW y a w)[6]? = some (a 11, .inl (y 1, 24, .inl (w 11))) := rfl
theorem ms_11 {y : Nat → ClassId} {a : Nat → Nat} {w : MS} {k : Nat} {z : Int32} : (mdW y a w).set 6 (a 11, .inl (y 1, 24, .inl (upd (w 11) k z))) = mdW y a (u2 w 11 k z) := rfl
theorem mg_12 {y : Nat → ClassId} {a : Nat → Nat} {w : MS} : (mdW y a w)[7]? = some (a 12, .inl (y 0, 24, .inl (w 12))) := rfl
theorem ms_12 {y : Nat → ClassId} {a : Nat → Nat} {w : MS} {k : Nat} {z : Int32} : (mdW y a w).set 7 (a 12, .inl (y 0, 24, .inl (upd (w 12) k z))) = mdW y a (u2 w 12 k z) := rfl
theorem mg_13 {y : Nat → ClassId} {a : Nat → Nat} {w : MS} : (mdW y a w)[8]? = some (a 13, .inl (y 0, 144, .inl (w 13))) := rfl
theorem ms_13 {y : Nat → ClassId} {a : Nat → Nat} {w : MS} {k : Nat} {z : Int32} : (mdW y a w).set 8 (a 13, .inl (y 0, 144, .inl (upd (w 13) k z))) = mdW y a (u2 w 13 k z) := rfl
theorem mg_14 {y : Nat → ClassId} {a : Nat → Nat} {w : MS} : (mdW y a w)[9]? = some (a 14, .inl (y 0, 144, .inl (w 14))) := rfl
theorem ms_14 {y : Nat → ClassId} {a : Nat → Nat} {w : MS} {k : Nat} {z : Int32} : (mdW y a w).set 9 (a 14, .inl (y 0, 144, .inl (upd (w 14) k z))) = mdW y a (u2 w 14 k z) := rfl
theorem mg_15 {y : Nat → ClassId} {a : Nat → Nat} {w : MS} : (mdW y a w)[10]? = some (a 15, .inl (y 0, 3, .inl (w 15))) := rfl
theorem ms_15 {y : Nat → ClassId} {a : Nat → Nat} {w : MS} {k : Nat} {z : Int32} : (mdW y a w).set 10 (a 15, .inl (y 0, 3, .inl (upd (w 15) k z))) = mdW y a (u2 w 15 k z) := rfl
theorem mg_16 {y : Nat → ClassId} {a : Nat → Nat} {w : MS} : (mdW y a w)[11]? = some (a 16, .inl (y 0, 6, .inl (w 16))) := rfl
theorem ms_16 {y : Nat → ClassId} {a : Nat → Nat} {w : MS} {k : Nat} {z : Int32} : (mdW y a w).set 11 (a 16, .inl (y 0, 6, .inl (upd (w 16) k z))) = mdW y a (u2 w 16 k z) := rfl
theorem mg_17 {y : Nat → ClassId} {a : Nat → Nat} {w : MS} : (mdW y a w)[12]? = some (a 17, .inl (y 0, 6, .inl (w 17))) := rfl
theorem ms_17 {y : Nat → ClassId} {a : Nat → Nat} {w : MS} {k : Nat} {z : Int32} : (mdW y a w).set 12 (a 17, .inl (y 0, 6, .inl (upd (w 17) k z))) = mdW y a (u2 w 17 k z) := rfl
theorem mg_18 {y : Nat → ClassId} {a : Nat → Nat} {w : MS} : (mdW y a w)[13]? = some (a 18, .inl (y 0, 144, .inl (w 18))) := rfl
theorem ms_18 {y : Nat → ClassId} {a : Nat → Nat} {w : MS} {k : Nat} {z : Int32} : (mdW y a w).set 13 (a 18, .inl (y 0, 144, .inl (upd (w 18) k z))) = mdW y a (u2 w 18 k z) := rfl
theorem mg_19 {y : Nat → ClassId} {a : Nat → Nat} {w : MS} : (mdW y a w)[14]? = some (a 19, .inl (y 0, 144, .inl (w 19))) := rfl
theorem ms_19 {y : Nat → ClassId} {a : Nat → Nat} {w : MS} {k : Nat} {z : Int32} : (mdW y a w).set 14 (a 19, .inl (y 0, 144, .inl (upd (w 19) k z))) = mdW y a (u2 w 19 k z) := rfl
theorem mg_20 {y : Nat → ClassId} {a : Nat → Nat} {w : MS} : (mdW y a w)[15]? = some (a 20, .inl (y 0, 48, .inl (w 20))) := rfl
theorem ms_20 {y : Nat → ClassId} {a : Nat → Nat} {w : MS} {k : Nat} {z : Int32} : (mdW y a w).set 15 (a 20, .inl (y 0, 48, .inl (upd (w 20) k z))) = mdW y a (u2 w 20 k z) := rfl
theorem mg_21 {y : Nat → ClassId} {a : Nat → Nat} {w : MS} : (mdW y a w)[16]? = some (a 21, .inl (y 0, 48, .inl (w 21))) := rfl
theorem ms_21 {y : Nat → ClassId} {a : Nat → Nat} {w : MS} {k : Nat} {z : Int32} : (mdW y a w).set 16 (a 21, .inl (y 0, 48, .inl (upd (w 21) k z))) = mdW y a (u2 w 21 k z) := rfl
theorem ix6 {i k : Nat} : (6 : Int32) * nI i + nI k = nI (6 * i + k) := by rw [show (6 : Int32) = nI 6 from rfl, pk_mul, nI_add]
theorem ix3 {i k : Nat} : (3 : Int32) * nI i + nI k = nI (3 * i + k) := by rw [show (3 : Int32) = nI 3 from rfl, pk_mul, nI_add]
theorem lcmp_eq {x y : Int64} (h : lg_cmp x y = 0) : x = y := by
  unfold lg_cmp at h
  split at h
  · cases h
  · split at h
    · assumption
    · cases h
theorem lcmp_ne {x y : Int64} (h : ¬ lg_cmp x y = 0) : ¬ x = y := fun e => h (by
  subst e
  simp [lg_cmp])
set_option maxHeartbeats 4000000 in
set_option maxRecDepth 100000 in
theorem c_X3_in (l : Launch) (x lo hi : Int32) : Met l yX3_in wsX3_in ({ frames := 0, cells := 0, slots := 0, locals := 0 }) (nP [.int x, .int lo, .int hi]) (QcV (.int (mIn x lo hi))) 0 0 (fun _ => False) := by
  refine Met.ofW (cc := cX3_in) (maxL := 3) (ret := (some .boolean)) (by decide) rfl ?_
  intro p e s m args below meth c s₁ B hml hv
  obtain ⟨rfl, -⟩ := hv
  have hx := B.exec
  have hb := B.bytes
  have hr := B.returns
  have hts := atoms_spec (ws := wsX3_in) B.pre
  have hown : s.vm.findClass RX3 = some m.cls := findClass_of_methodNamed B.named
  have hlocks := B.notSynchronized
  have hl := lv_entry ([.int x, .int lo, .int hi]) (n := 3) (Nat.le_of_ble_eq_true rfl)
  rw [lg_entry_eq]
  generalize (lg_sl ([.int x, .int lo, .int hi]) ++ List.replicate (3 - (lg_sl ([.int x, .int lo, .int hi])).length) Slot.unset).toArray = ls at hl ⊢
  have hl : lv_has ls 3 [(0, .int x), (1, .int lo), (2, .int hi)] := hl
  refine lv_iload_n hx hb dX3_in_0 rfl (lv_at hl 0 rfl) ?_
  refine lv_iload_n hx hb dX3_in_1 rfl (lv_at hl 1 rfl) ?_
  refine lv_icmp_lt (tgt := 14) hx hb dX3_in_2 (by decide) (fun c_2 => ?_) (fun c_2 => ?_)
  · refine lv_iconst (v := 0) hx hb dX3_in_14 (by decide) ?_
    exact W.zret (v := 0) hx hb hr rfl (fun t ht hW => ⟨congrArg (fun z => Outcome.returned (some (.int z))) (by unfold mIn; exact ((if_pos c_2)).symm), ht⟩) t_nil dX3_in_15
  · refine lv_iload_n hx hb dX3_in_5 rfl (lv_at hl 0 rfl) ?_
    refine lv_iload_n hx hb dX3_in_6 rfl (lv_at hl 2 rfl) ?_
    refine lv_icmp_gt (tgt := 14) hx hb dX3_in_7 (by decide) (fun c_7 => ?_) (fun c_7 => ?_)
    · refine lv_iconst (v := 0) hx hb dX3_in_14 (by decide) ?_
      exact W.zret (v := 0) hx hb hr rfl (fun t ht hW => ⟨congrArg (fun z => Outcome.returned (some (.int z))) (by unfold mIn; exact ((if_neg c_2).trans ((if_pos c_7))).symm), ht⟩) t_nil dX3_in_15
    · refine lv_iconst (v := 1) hx hb dX3_in_10 (by decide) ?_
      refine lv_goto (tgt := 15) hx hb dX3_in_11 (by decide) ?_
      exact W.zret (v := 1) hx hb hr rfl (fun t ht hW => ⟨congrArg (fun z => Outcome.returned (some (.int z))) (by unfold mIn; exact ((if_neg c_2).trans ((if_neg c_7))).symm), ht⟩) t_nil dX3_in_15
set_option maxHeartbeats 4000000 in
set_option maxRecDepth 100000 in
theorem c_X3_isBranch (l : Launch) (x : Int32) : Met l yX3_isBranch wsX3_isBranch ({ frames := 1, cells := 0, slots := 0, locals := 22 }) (nP [.int x]) (QcV (.int (mIn x 0 2))) 0 0 (fun _ => False) := by
  refine Met.ofW (cc := cX3_isBranch) (maxL := 1) (ret := (some .boolean)) (by decide) rfl ?_
  intro p e s m args below meth c s₁ B hml hv
  obtain ⟨rfl, -⟩ := hv
  have hx := B.exec
  have hb := B.bytes
  have hr := B.returns
  have hts := atoms_spec (ws := wsX3_isBranch) B.pre
  have hown : s.vm.findClass RX3 = some m.cls := findClass_of_methodNamed B.named
  have hlocks := B.notSynchronized
  have hl := lv_entry ([.int x]) (n := 1) (Nat.le_of_ble_eq_true rfl)
  rw [lg_entry_eq]
  generalize (lg_sl ([.int x]) ++ List.replicate (1 - (lg_sl ([.int x])).length) Slot.unset).toArray = ls at hl ⊢
  have hl : lv_has ls 1 [(0, .int x)] := hl
  refine lv_iload_n hx hb dX3_isBranch_0 rfl (lv_at hl 0 rfl) ?_
  refine lv_iconst (v := 0) hx hb dX3_isBranch_1 (by decide) ?_
  refine lv_iconst (v := 2) hx hb dX3_isBranch_2 (by decide) ?_
  refine caR (r := .int (mIn x 0 2)) (va_runS (As := [.int x, .int 0, .int 2]) (rest := []) ⟨hx, hb, hml, hown, hts⟩ (c_X3_in l x 0 2) (va_cwS 3 hts gX3_isBranch_X3_in rfl rfl rfl (by decide +kernel) ⟨Nat.le_of_ble_eq_true rfl, Nat.le_of_ble_eq_true rfl⟩) ⟨nP_bl, fun _ _ _ => ⟨rfl, trivial⟩⟩ rfl rfl hl.1 rfl (lv_room (Nat.le_of_ble_eq_true rfl)) dX3_isBranch_3 ⟨Nat.le_of_ble_eq_true rfl, Nat.le_of_ble_eq_true rfl⟩) ?_
  exact W.zret (v := mIn x 0 2) hx hb hr mIn_nar (fun t ht hW => ⟨congrArg (fun z => Outcome.returned (some (.int z))) (rfl), ht⟩) t_nil dX3_isBranch_6
set_option maxHeartbeats 4000000 in
set_option maxRecDepth 100000 in
theorem c_X3_isLoan (l : Launch) (G : va_G) (y : Nat → ClassId) (a : Nat → Nat) (v : MS) (x : Int32) : Met l yX3_isLoan wsX3_isLoan ({ frames := 1, cells := 0, slots := 0, locals := 22 }) (rP G y [.ref (a 0), .int x] (mdW y a v)) (QcV (.int (mIn x 0 (v 0 6 - 1)))) 0 0 (fun _ => False) := by
  refine Met.ofW (cc := cX3_isLoan) (maxL := 2) (ret := (some .boolean)) (by decide) rfl ?_
  intro p e s m args below meth c s₁ B hml hv
  obtain ⟨rfl, hP, hK⟩ := hv
  have hx := B.exec
  have hb := B.bytes
  have hr := B.returns
  have hts := atoms_spec (ws := wsX3_isLoan) B.pre
  have hown : s.vm.findClass RX3 = some m.cls := findClass_of_methodNamed B.named
  have hlocks := B.notSynchronized
  have hl := lv_entry ([.ref (a 0), .int x]) (n := 2) (Nat.le_of_ble_eq_true rfl)
  rw [lg_entry_eq]
  generalize (lg_sl ([.ref (a 0), .int x]) ++ List.replicate (2 - (lg_sl ([.ref (a 0), .int x])).length) Slot.unset).toArray = ls at hl ⊢
  have hin3 : ∀ w ∈ wsX30, w ∈ wsX3_isLoan := by decide +kernel
  have hl : lv_has ls 2 [(0, .ref (a 0)), (1, .int x)] := hl
  refine lv_iload_n hx hb dX3_isLoan_0 rfl (lv_at hl 1 rfl) ?_
  refine lv_iconst (v := 0) hx hb dX3_isLoan_1 (by decide) ?_
  refine lv_aload_n hx hb dX3_isLoan_2 rfl (lv_at hl 0 rfl) ?_
  refine mdG (v := v) (val := .int (v 0 6)) hx hb hts hin3 hown hK hP 6 (by decide) (hts (.fieldLink RX3 66 "FundBookModel" "loans" "I") (by decide +kernel)) rfl dX3_isLoan_3 ?_
  refine lv_iconst (v := 1) hx hb dX3_isLoan_6 (by decide) ?_
  refine lv_isub hx hb dX3_isLoan_7 ?_
  refine caR (r := .int (mIn x 0 (v 0 6 - 1))) (va_runS (As := [.int x, .int 0, .int (v 0 6 - 1)]) (rest := []) ⟨hx, hb, hml, hown, hts⟩ (c_X3_in l x 0 (v 0 6 - 1)) (va_cwS 3 hts gX3_isLoan_X3_in rfl rfl rfl (by decide +kernel) ⟨Nat.le_of_ble_eq_true rfl, Nat.le_of_ble_eq_true rfl⟩) ⟨nP_bl, fun _ _ _ => ⟨rfl, trivial⟩⟩ rfl rfl hl.1 rfl (lv_room (Nat.le_of_ble_eq_true rfl)) dX3_isLoan_8 ⟨Nat.le_of_ble_eq_true rfl, Nat.le_of_ble_eq_true rfl⟩) ?_
  exact W.zret (v := mIn x 0 (v 0 6 - 1)) hx hb hr mIn_nar (fun t ht hW => ⟨congrArg (fun z => Outcome.returned (some (.int z))) (rfl), ht⟩) t_nil dX3_isLoan_11
set_option maxHeartbeats 4000000 in
set_option maxRecDepth 100000 in
theorem c_X3_isEnded (l : Launch) (G : va_G) (y : Nat → ClassId) (a : Nat → Nat) (v : MS) (x : Int32) : Met l yX3_isEnded wsX3_isEnded ({ frames := 1, cells := 0, slots := 0, locals := 22 }) (rP G y [.ref (a 0), .int x] (mdW y a v)) (QcV (.int (mIn x 0 (v 0 1 - 1)))) 0 0 (fun _ => False) := by
  refine Met.ofW (cc := cX3_isEnded) (maxL := 2) (ret := (some .boolean)) (by decide) rfl ?_
  intro p e s m args below meth c s₁ B hml hv
  obtain ⟨rfl, hP, hK⟩ := hv
  have hx := B.exec
  have hb := B.bytes
  have hr := B.returns
  have hts := atoms_spec (ws := wsX3_isEnded) B.pre
  have hown : s.vm.findClass RX3 = some m.cls := findClass_of_methodNamed B.named
  have hlocks := B.notSynchronized
  have hl := lv_entry ([.ref (a 0), .int x]) (n := 2) (Nat.le_of_ble_eq_true rfl)
  rw [lg_entry_eq]
  generalize (lg_sl ([.ref (a 0), .int x]) ++ List.replicate (2 - (lg_sl ([.ref (a 0), .int x])).length) Slot.unset).toArray = ls at hl ⊢
  have hin3 : ∀ w ∈ wsX30, w ∈ wsX3_isEnded := by decide +kernel
  have hl : lv_has ls 2 [(0, .ref (a 0)), (1, .int x)] := hl
  refine lv_iload_n hx hb dX3_isEnded_0 rfl (lv_at hl 1 rfl) ?_
  refine lv_iconst (v := 0) hx hb dX3_isEnded_1 (by decide) ?_
  refine lv_aload_n hx hb dX3_isEnded_2 rfl (lv_at hl 0 rfl) ?_
  refine mdG (v := v) (val := .int (v 0 1)) hx hb hts hin3 hown hK hP 1 (by decide) (hts (.fieldLink RX3 73 "FundBookModel" "now" "I") (by decide +kernel)) rfl dX3_isEnded_3 ?_
  refine lv_iconst (v := 1) hx hb dX3_isEnded_6 (by decide) ?_
  refine lv_isub hx hb dX3_isEnded_7 ?_
  refine caR (r := .int (mIn x 0 (v 0 1 - 1))) (va_runS (As := [.int x, .int 0, .int (v 0 1 - 1)]) (rest := []) ⟨hx, hb, hml, hown, hts⟩ (c_X3_in l x 0 (v 0 1 - 1)) (va_cwS 3 hts gX3_isEnded_X3_in rfl rfl rfl (by decide +kernel) ⟨Nat.le_of_ble_eq_true rfl, Nat.le_of_ble_eq_true rfl⟩) ⟨nP_bl, fun _ _ _ => ⟨rfl, trivial⟩⟩ rfl rfl hl.1 rfl (lv_room (Nat.le_of_ble_eq_true rfl)) dX3_isEnded_8 ⟨Nat.le_of_ble_eq_true rfl, Nat.le_of_ble_eq_true rfl⟩) ?_
  exact W.zret (v := mIn x 0 (v 0 1 - 1)) hx hb hr mIn_nar (fun t ht hW => ⟨congrArg (fun z => Outcome.returned (some (.int z))) (rfl), ht⟩) t_nil dX3_isEnded_11
set_option maxHeartbeats 4000000 in
set_option maxRecDepth 100000 in
theorem c_X3_thrown (l : Launch) (G : va_G) (y : Nat → ClassId) (a : Nat → Nat) (v : MS)  : Met l yX3_thrown wsX3_thrown ({ frames := 0, cells := 0, slots := 0, locals := 0 }) (rP G y [.ref (a 0)] (mdW y a v)) (QcV (.int (v 0 0))) 0 0 (fun _ => False) := by
  refine Met.ofW (cc := cX3_thrown) (maxL := 1) (ret := (some .int)) (by decide) rfl ?_
  intro p e s m args below meth c s₁ B hml hv
  obtain ⟨rfl, hP, hK⟩ := hv
  have hx := B.exec
  have hb := B.bytes
  have hr := B.returns
  have hts := atoms_spec (ws := wsX3_thrown) B.pre
  have hown : s.vm.findClass RX3 = some m.cls := findClass_of_methodNamed B.named
  have hlocks := B.notSynchronized
  have hl := lv_entry ([.ref (a 0)]) (n := 1) (Nat.le_of_ble_eq_true rfl)
  rw [lg_entry_eq]
  generalize (lg_sl ([.ref (a 0)]) ++ List.replicate (1 - (lg_sl ([.ref (a 0)])).length) Slot.unset).toArray = ls at hl ⊢
  have hin3 : ∀ w ∈ wsX30, w ∈ wsX3_thrown := by decide +kernel
  have hl : lv_has ls 1 [(0, .ref (a 0))] := hl
  refine lv_aload_n hx hb dX3_thrown_0 rfl (lv_at hl 0 rfl) ?_
  refine mdG (v := v) (val := .int (v 0 0)) hx hb hts hin3 hown hK hP 0 (by decide) (hts (.fieldLink RX3 63 "FundBookModel" "thrown" "I") (by decide +kernel)) rfl dX3_thrown_1 ?_
  exact W.iret (v := v 0 0) hx hb hr (fun t ht hW => ⟨congrArg (fun z => Outcome.returned (some (.int z))) (rfl), ht⟩) t_nil dX3_thrown_4
set_option maxHeartbeats 4000000 in
set_option maxRecDepth 100000 in
theorem c_X3_fails (l : Launch) (G : va_G) (y : Nat → ClassId) (a : Nat → Nat) (v : MS) (sz : Nat) (x : Int32) : Met l yX3_fails wsX3_fails ({ frames := 0, cells := 0, slots := 0, locals := 0 }) (mP G y [.ref (a 0), .int x] (mdW y a v) sz) (mQ G (fun _ : Unit => some (.int (((mT v x, 0) : MS × Int32)).2)) (fun _ => True) (fun _ => mdW y a (((mT v x, 0) : MS × Int32)).1) (va_A (mdW y a v) sz)) 0 0 (va_A (mdW y a v) sz) := by
  refine Met.ofW (cc := cX3_fails) (maxL := 2) (ret := (some .int)) (by decide) rfl ?_
  intro p e s m args below meth c s₁ B hml hv
  obtain ⟨rfl, hsz, hP, hK, hD0⟩ := hv
  have hx := B.exec
  have hb := B.bytes
  have hr := B.returns
  have hts := atoms_spec (ws := wsX3_fails) B.pre
  have hown : s.vm.findClass RX3 = some m.cls := findClass_of_methodNamed B.named
  have hlocks := B.notSynchronized
  subst hsz
  have hD := hD0.self (sz := s.heap.size)
  generalize hAe : va_A (mdW y a v) s.heap.size = A at hD ⊢
  have hA : ∀ q : Nat, s.heap.size ≤ q → A q := fun q h => by rw [← hAe]; exact Or.inr h
  have hS : va_S A s.heap s.heap [] := va_S.rf
  have hP : va_P G vwCl (mdW y a v) s.heap := hP
  have hl := lv_entry ([.ref (a 0), .int x]) (n := 2) (Nat.le_of_ble_eq_true rfl)
  rw [lg_entry_eq]
  generalize (lg_sl ([.ref (a 0), .int x]) ++ List.replicate (2 - (lg_sl ([.ref (a 0), .int x])).length) Slot.unset).toArray = ls at hl ⊢
  have hin3 : ∀ w ∈ wsX30, w ∈ wsX3_fails := by decide +kernel
  have hl : lv_has ls 2 [(0, .ref (a 0)), (1, .int x)] := hl
  refine lv_aload_n hx hb dX3_fails_0 rfl (lv_at hl 0 rfl) ?_
  refine lv_iload_n hx hb dX3_fails_1 rfl (lv_at hl 1 rfl) ?_
  refine mdS (v := v) (x := x) hx hb hts hin3 hown hK hP hD hS 0 (by decide) (hts (.fieldLink RX3 63 "FundBookModel" "thrown" "I") (by decide +kernel)) dX3_fails_2 (fun H locs hP hD hS => ?_)
  refine lv_iconst (v := 0) hx hb dX3_fails_5 (by decide) ?_
  have ev : ((mT v x, 0) : MS × Int32) = ((u2 v 0 0 x), 0) := by rfl
  exact W.iret (v := 0) hx hb hr (fun t ht hW => ⟨⟨(), by rw [ev], trivial, by rw [ht, ev]; exact hP, by rw [ev]; exact hD⟩, hS.F ht⟩) hS.2.2 dX3_fails_6
set_option maxHeartbeats 4000000 in
set_option maxRecDepth 100000 in
theorem c_X3_month (l : Launch) (G : va_G) (y : Nat → ClassId) (a : Nat → Nat) (v : MS) (sz : Nat)  : Met l yX3_month wsX3_month ({ frames := 0, cells := 0, slots := 0, locals := 0 }) (mP G y [.ref (a 0)] (mdW y a v) sz) (mQ G (fun _ : Unit => some (.int (((mT v 0, v 0 1) : MS × Int32)).2)) (fun _ => True) (fun _ => mdW y a (((mT v 0, v 0 1) : MS × Int32)).1) (va_A (mdW y a v) sz)) 0 0 (va_A (mdW y a v) sz) := by
  refine Met.ofW (cc := cX3_month) (maxL := 1) (ret := (some .int)) (by decide) rfl ?_
  intro p e s m args below meth c s₁ B hml hv
  obtain ⟨rfl, hsz, hP, hK, hD0⟩ := hv
  have hx := B.exec
  have hb := B.bytes
  have hr := B.returns
  have hts := atoms_spec (ws := wsX3_month) B.pre
  have hown : s.vm.findClass RX3 = some m.cls := findClass_of_methodNamed B.named
  have hlocks := B.notSynchronized
  subst hsz
  have hD := hD0.self (sz := s.heap.size)
  generalize hAe : va_A (mdW y a v) s.heap.size = A at hD ⊢
  have hA : ∀ q : Nat, s.heap.size ≤ q → A q := fun q h => by rw [← hAe]; exact Or.inr h
  have hS : va_S A s.heap s.heap [] := va_S.rf
  have hP : va_P G vwCl (mdW y a v) s.heap := hP
  have hl := lv_entry ([.ref (a 0)]) (n := 1) (Nat.le_of_ble_eq_true rfl)
  rw [lg_entry_eq]
  generalize (lg_sl ([.ref (a 0)]) ++ List.replicate (1 - (lg_sl ([.ref (a 0)])).length) Slot.unset).toArray = ls at hl ⊢
  have hin3 : ∀ w ∈ wsX30, w ∈ wsX3_month := by decide +kernel
  have hl : lv_has ls 1 [(0, .ref (a 0))] := hl
  refine lv_aload_n hx hb dX3_month_0 rfl (lv_at hl 0 rfl) ?_
  refine lv_iconst (v := 0) hx hb dX3_month_1 (by decide) ?_
  refine mdS (v := v) (x := 0) hx hb hts hin3 hown hK hP hD hS 0 (by decide) (hts (.fieldLink RX3 63 "FundBookModel" "thrown" "I") (by decide +kernel)) dX3_month_2 (fun H locs hP hD hS => ?_)
  refine lv_aload_n hx hb dX3_month_5 rfl (lv_at hl 0 rfl) ?_
  refine mdG (v := (u2 v 0 0 0)) (val := .int (v 0 1)) hx hb hts hin3 hown hK hP 1 (by decide) (hts (.fieldLink RX3 73 "FundBookModel" "now" "I") (by decide +kernel)) rfl dX3_month_6 ?_
  have ev : ((mT v 0, v 0 1) : MS × Int32) = ((u2 v 0 0 0), v 0 1) := by rfl
  exact W.iret (v := v 0 1) hx hb hr (fun t ht hW => ⟨⟨(), by rw [ev], trivial, by rw [ht, ev]; exact hP, by rw [ev]; exact hD⟩, hS.F ht⟩) hS.2.2 dX3_month_9
set_option maxHeartbeats 4000000 in
set_option maxRecDepth 100000 in
theorem c_X3_loans (l : Launch) (G : va_G) (y : Nat → ClassId) (a : Nat → Nat) (v : MS) (sz : Nat)  : Met l yX3_loans wsX3_loans ({ frames := 0, cells := 0, slots := 0, locals := 0 }) (mP G y [.ref (a 0)] (mdW y a v) sz) (mQ G (fun _ : Unit => some (.int (((mT v 0, v 0 6) : MS × Int32)).2)) (fun _ => True) (fun _ => mdW y a (((mT v 0, v 0 6) : MS × Int32)).1) (va_A (mdW y a v) sz)) 0 0 (va_A (mdW y a v) sz) := by
  refine Met.ofW (cc := cX3_loans) (maxL := 1) (ret := (some .int)) (by decide) rfl ?_
  intro p e s m args below meth c s₁ B hml hv
  obtain ⟨rfl, hsz, hP, hK, hD0⟩ := hv
  have hx := B.exec
  have hb := B.bytes
  have hr := B.returns
  have hts := atoms_spec (ws := wsX3_loans) B.pre
  have hown : s.vm.findClass RX3 = some m.cls := findClass_of_methodNamed B.named
  have hlocks := B.notSynchronized
  subst hsz
  have hD := hD0.self (sz := s.heap.size)
  generalize hAe : va_A (mdW y a v) s.heap.size = A at hD ⊢
  have hA : ∀ q : Nat, s.heap.size ≤ q → A q := fun q h => by rw [← hAe]; exact Or.inr h
  have hS : va_S A s.heap s.heap [] := va_S.rf
  have hP : va_P G vwCl (mdW y a v) s.heap := hP
  have hl := lv_entry ([.ref (a 0)]) (n := 1) (Nat.le_of_ble_eq_true rfl)
  rw [lg_entry_eq]
  generalize (lg_sl ([.ref (a 0)]) ++ List.replicate (1 - (lg_sl ([.ref (a 0)])).length) Slot.unset).toArray = ls at hl ⊢
  have hin3 : ∀ w ∈ wsX30, w ∈ wsX3_loans := by decide +kernel
  have hl : lv_has ls 1 [(0, .ref (a 0))] := hl
  refine lv_aload_n hx hb dX3_loans_0 rfl (lv_at hl 0 rfl) ?_
  refine lv_iconst (v := 0) hx hb dX3_loans_1 (by decide) ?_
  refine mdS (v := v) (x := 0) hx hb hts hin3 hown hK hP hD hS 0 (by decide) (hts (.fieldLink RX3 63 "FundBookModel" "thrown" "I") (by decide +kernel)) dX3_loans_2 (fun H locs hP hD hS => ?_)
  refine lv_aload_n hx hb dX3_loans_5 rfl (lv_at hl 0 rfl) ?_
  refine mdG (v := (u2 v 0 0 0)) (val := .int (v 0 6)) hx hb hts hin3 hown hK hP 6 (by decide) (hts (.fieldLink RX3 66 "FundBookModel" "loans" "I") (by decide +kernel)) rfl dX3_loans_6 ?_
  have ev : ((mT v 0, v 0 6) : MS × Int32) = ((u2 v 0 0 0), v 0 6) := by rfl
  exact W.iret (v := v 0 6) hx hb hr (fun t ht hW => ⟨⟨(), by rw [ev], trivial, by rw [ht, ev]; exact hP, by rw [ev]; exact hD⟩, hS.F ht⟩) hS.2.2 dX3_loans_9
set_option maxHeartbeats 4000000 in
set_option maxRecDepth 100000 in
theorem c_X3_leftOf (l : Launch) (G : va_G) (y : Nat → ClassId) (a : Nat → Nat) (v : MS) (i : Nat) (hi : i < 24) : Met l yX3_leftOf wsX3_leftOf ({ frames := 0, cells := 0, slots := 0, locals := 0 }) (rP G y [.ref (a 0), .int (nI i)] (mdW y a v)) (QcV (.int (mLeft v i))) 0 0 (fun _ => False) := by
  refine Met.ofW (cc := cX3_leftOf) (maxL := 4) (ret := (some .int)) (by decide) rfl ?_
  intro p e s m args below meth c s₁ B hml hv
  obtain ⟨rfl, hP, hK⟩ := hv
  have hx := B.exec
  have hb := B.bytes
  have hr := B.returns
  have hts := atoms_spec (ws := wsX3_leftOf) B.pre
  have hown : s.vm.findClass RX3 = some m.cls := findClass_of_methodNamed B.named
  have hlocks := B.notSynchronized
  have hl := lv_entry ([.ref (a 0), .int (nI i)]) (n := 4) (Nat.le_of_ble_eq_true rfl)
  rw [lg_entry_eq]
  generalize (lg_sl ([.ref (a 0), .int (nI i)]) ++ List.replicate (4 - (lg_sl ([.ref (a 0), .int (nI i)])).length) Slot.unset).toArray = ls at hl ⊢
  have hin3 : ∀ w ∈ wsX30, w ∈ wsX3_leftOf := by decide +kernel
  have hl : lv_has ls 4 [(0, .ref (a 0)), (1, .int (nI i))] := hl
  refine lv_iconst (v := 0) hx hb dX3_leftOf_0 (by decide) ?_
  refine lv_istore_n (lv' := [(2, .int 0), (0, .ref (a 0)), (1, .int (nI i))]) hx hb dX3_leftOf_1 rfl hl (by decide) rfl (fun ls hl => ?_)
  refine lv_iconst (v := 0) hx hb dX3_leftOf_2 (by decide) ?_
  refine lv_istore_n (lv' := [(3, .int 0), (2, .int 0), (0, .ref (a 0)), (1, .int (nI i))]) hx hb dX3_leftOf_3 rfl hl (by decide) rfl (fun ls hl => ?_)
  refine loopW (LV := fun k => [(0, .ref (a 0)), (1, .int (nI i)), (2, .int (S32 (fun j => v 13 (6 * i + j)) k)), (3, .int (nI k))]) 6 (lv_sub hl [2, 3, 1, 0] rfl) (fun k ls hk_k hl ih_k => ?_) (fun ls hl => ?_)
  · have hl : lv_has ls 4 [(0, .ref (a 0)), (1, .int (nI i)), (2, .int (S32 (fun j => v 13 (6 * i + j)) k)), (3, .int (nI k))] := hl
    refine lv_iload_n hx hb dX3_leftOf_4 rfl (lv_at hl 3 rfl) ?_
    refine lv_bipush (v := 6) hx hb dX3_leftOf_5 (by decide) ?_
    refine lv_icmp_ge (tgt := 30) hx hb dX3_leftOf_7 (by decide) (fun c_7 => absurd c_7 (nI_ge hk_k (by decide))) (fun c_7 => ?_)
    refine lv_iload_n hx hb dX3_leftOf_10 rfl (lv_at hl 2 rfl) ?_
    refine lv_aload_n hx hb dX3_leftOf_11 rfl (lv_at hl 0 rfl) ?_
    refine mdG (v := v) (val := .ref (a 13)) hx hb hts hin3 hown hK hP 13 (by decide) (hts (.fieldLink RX3 36 "FundBookModel" "part" "[I") (by decide +kernel)) rfl dX3_leftOf_12 ?_
    refine lv_bipush (v := 6) hx hb dX3_leftOf_15 (by decide) ?_
    refine lv_iload_n hx hb dX3_leftOf_17 rfl (lv_at hl 1 rfl) ?_
    refine lv_imul hx hb dX3_leftOf_18 ?_
    refine lv_iload_n hx hb dX3_leftOf_19 rfl (lv_at hl 3 rfl) ?_
    refine lv_iadd hx hb dX3_leftOf_20 ?_
    refine lv_topE (z := nI (6 * i + k)) (ix6) ?_
    refine ldI (f := v 13) hx hb hK hP 8 mg_13 (6 * i + k) rfl (by omega) (by decide) dX3_leftOf_21 ?_
    refine lv_iadd hx hb dX3_leftOf_22 ?_
    refine lv_topE (z := S32 (fun j => v 13 (6 * i + j)) (k + 1)) (rfl) ?_
    refine lv_istore_n (lv' := [(2, .int (S32 (fun j => v 13 (6 * i + j)) (k + 1))), (0, .ref (a 0)), (1, .int (nI i)), (3, .int (nI k))]) hx hb dX3_leftOf_23 rfl hl (by decide) rfl (fun ls hl => ?_)
    refine lv_iinc (v := (nI (k + 1))) (lv' := [(3, .int (nI (k + 1))), (2, .int (S32 (fun j => v 13 (6 * i + j)) (k + 1))), (0, .ref (a 0)), (1, .int (nI i))]) hx hb dX3_leftOf_24 hl (k := 3) rfl iinc1 (by decide) rfl (fun ls hl => ?_)
    refine lv_goto (tgt := 4) hx hb dX3_leftOf_27 (by decide) ?_
    exact ih_k ls (lv_sub hl [2, 3, 1, 0] rfl)
  · have hl : lv_has ls 4 [(0, .ref (a 0)), (1, .int (nI i)), (2, .int (S32 (fun j => v 13 (6 * i + j)) 6)), (3, .int (nI 6))] := hl
    refine lv_iload_n hx hb dX3_leftOf_4 rfl (lv_at hl 3 rfl) ?_
    refine lv_bipush (v := 6) hx hb dX3_leftOf_5 (by decide) ?_
    refine lv_icmp_ge (tgt := 30) hx hb dX3_leftOf_7 (by decide) (fun c_7 => ?_) (fun c_7 => absurd (nI_le (Nat.le_refl 6) (by decide)) c_7)
    refine lv_iload_n hx hb dX3_leftOf_30 rfl (lv_at hl 2 rfl) ?_
    exact W.iret (v := S32 (fun j => v 13 (6 * i + j)) 6) hx hb hr (fun t ht hW => ⟨congrArg (fun z => Outcome.returned (some (.int z))) (rfl), ht⟩) t_nil dX3_leftOf_31
set_option maxHeartbeats 4000000 in
set_option maxRecDepth 100000 in
theorem c_X3_bear (l : Launch) (G : va_G) (y : Nat → ClassId) (a : Nat → Nat) (v : MS) (i : Nat) (hi : i < 24) (w : Int32) : Met l yX3_bear wsX3_bear ({ frames := 1, cells := 0, slots := 0, locals := 23 }) (rP G y [.ref (a 0), .int (nI i), .int w] (mdW y a v)) (QcV (.int (mBear v i w))) 0 0 (fun _ => False) := by
  refine Met.ofW (cc := cX3_bear) (maxL := 10) (ret := (some .int)) (by decide) rfl ?_
  intro p e s m args below meth c s₁ B hml hv
  obtain ⟨rfl, hP, hK⟩ := hv
  have hx := B.exec
  have hb := B.bytes
  have hr := B.returns
  have hts := atoms_spec (ws := wsX3_bear) B.pre
  have hown : s.vm.findClass RX3 = some m.cls := findClass_of_methodNamed B.named
  have hlocks := B.notSynchronized
  have hl := lv_entry ([.ref (a 0), .int (nI i), .int w]) (n := 10) (Nat.le_of_ble_eq_true rfl)
  rw [lg_entry_eq]
  generalize (lg_sl ([.ref (a 0), .int (nI i), .int w]) ++ List.replicate (10 - (lg_sl ([.ref (a 0), .int (nI i), .int w])).length) Slot.unset).toArray = ls at hl ⊢
  have hin3 : ∀ w ∈ wsX30, w ∈ wsX3_bear := by decide +kernel
  have hl : lv_has ls 10 [(0, .ref (a 0)), (1, .int (nI i)), (2, .int w)] := hl
  refine lv_aload_n hx hb dX3_bear_0 rfl (lv_at hl 0 rfl) ?_
  refine lv_iload_n hx hb dX3_bear_1 rfl (lv_at hl 1 rfl) ?_
  refine caR (r := .int (mLeft v i)) (va_runV (As := [.int (nI i)]) (rest := []) ⟨hx, hb, hml, hown, hts⟩ (c_X3_leftOf l G y a v i hi) (cwV 1 hts gX3_bear_X3_leftOf rfl rfl rfl (by decide +kernel) ⟨Nat.le_of_ble_eq_true rfl, Nat.le_of_ble_eq_true rfl⟩) ⟨rP_bl, va_recv hK.1 hP (ci := 3) (q0 := 0) rfl rfl, fun U hU hW => ⟨rfl, by rw [hU]; exact hP, Kb.moved hW hK⟩⟩ rfl rfl hl.1 rfl (lv_room (Nat.le_of_ble_eq_true rfl)) dX3_bear_2 ⟨Nat.le_of_ble_eq_true rfl, Nat.le_of_ble_eq_true rfl⟩) ?_
  refine lv_i2l hx hb dX3_bear_5 rfl ?_
  refine lv_lstore_n (lv' := [(3, .long ((mLeft v i).toInt64)), (0, .ref (a 0)), (1, .int (nI i)), (2, .int w)]) hx hb dX3_bear_6 rfl hl (by decide) rfl (fun ls hl => ?_)
  refine lv_lconst (v := 0) hx hb dX3_bear_7 (by decide) ?_
  refine lv_lstore (lv' := [(5, .long 0), (3, .long ((mLeft v i).toInt64)), (0, .ref (a 0)), (1, .int (nI i)), (2, .int w)]) hx hb dX3_bear_8 hl (by decide) rfl (fun ls hl => ?_)
  refine lv_iconst (v := 0) hx hb dX3_bear_10 (by decide) ?_
  refine lv_istore (lv' := [(7, .int 0), (5, .long 0), (3, .long ((mLeft v i).toInt64)), (0, .ref (a 0)), (1, .int (nI i)), (2, .int w)]) hx hb dX3_bear_11 hl (by decide) rfl (fun ls hl => ?_)
  refine loopW (LV := fun k => [(0, .ref (a 0)), (1, .int (nI i)), (2, .int w), (3, .long ((mLeft v i).toInt64)), (5, .long (S64 (mFnd v i) k)), (7, .int (nI k))]) 6 (lv_sub hl [3, 4, 5, 2, 1, 0] rfl) (fun k ls hk_k hl ih_k => ?_) (fun ls hl => ?_)
  · have hl : lv_has ls 10 [(0, .ref (a 0)), (1, .int (nI i)), (2, .int w), (3, .long ((mLeft v i).toInt64)), (5, .long (S64 (mFnd v i) k)), (7, .int (nI k))] := hl
    refine lv_iload hx hb dX3_bear_13 (lv_at hl 5 rfl) ?_
    refine lv_bipush (v := 6) hx hb dX3_bear_15 (by decide) ?_
    refine lv_icmp_ge (tgt := 58) hx hb dX3_bear_17 (by decide) (fun c_17 => absurd c_17 (nI_ge hk_k (by decide))) (fun c_17 => ?_)
    refine lv_lload hx hb dX3_bear_20 (lv_at hl 4 rfl) ?_
    refine lv_aload_n hx hb dX3_bear_22 rfl (lv_at hl 0 rfl) ?_
    refine mdG (v := v) (val := .ref (a 13)) hx hb hts hin3 hown hK hP 13 (by decide) (hts (.fieldLink RX3 36 "FundBookModel" "part" "[I") (by decide +kernel)) rfl dX3_bear_23 ?_
    refine lv_bipush (v := 6) hx hb dX3_bear_26 (by decide) ?_
    refine lv_iload_n hx hb dX3_bear_28 rfl (lv_at hl 1 rfl) ?_
    refine lv_imul hx hb dX3_bear_29 ?_
    refine lv_iload hx hb dX3_bear_30 (lv_at hl 5 rfl) ?_
    refine lv_iadd hx hb dX3_bear_32 ?_
    refine lv_topE (z := nI (6 * i + k)) (ix6) ?_
    refine ldI (f := v 13) hx hb hK hP 8 mg_13 (6 * i + k) rfl (by omega) (by decide) dX3_bear_33 ?_
    refine lv_i2l hx hb dX3_bear_34 rfl ?_
    refine lv_aload_n hx hb dX3_bear_35 rfl (lv_at hl 0 rfl) ?_
    refine mdG (v := v) (val := .ref (a 14)) hx hb hts hin3 hown hK hP 14 (by decide) (hts (.fieldLink RX3 39 "FundBookModel" "funded" "[I") (by decide +kernel)) rfl dX3_bear_36 ?_
    refine lv_bipush (v := 6) hx hb dX3_bear_39 (by decide) ?_
    refine lv_iload_n hx hb dX3_bear_41 rfl (lv_at hl 1 rfl) ?_
    refine lv_imul hx hb dX3_bear_42 ?_
    refine lv_iload hx hb dX3_bear_43 (lv_at hl 5 rfl) ?_
    refine lv_iadd hx hb dX3_bear_45 ?_
    refine lv_topE (z := nI (6 * i + k)) (ix6) ?_
    refine ldI (f := v 14) hx hb hK hP 9 mg_14 (6 * i + k) rfl (by omega) (by decide) dX3_bear_46 ?_
    refine lv_i2l hx hb dX3_bear_47 rfl ?_
    refine lv_lmul hx hb dX3_bear_48 ?_
    refine lv_ladd hx hb dX3_bear_49 ?_
    refine lv_topEl (z := S64 (mFnd v i) (k + 1)) (rfl) ?_
    refine lv_lstore (lv' := [(5, .long (S64 (mFnd v i) (k + 1))), (0, .ref (a 0)), (1, .int (nI i)), (2, .int w), (3, .long ((mLeft v i).toInt64)), (7, .int (nI k))]) hx hb dX3_bear_50 hl (by decide) rfl (fun ls hl => ?_)
    refine lv_iinc (v := (nI (k + 1))) (lv' := [(7, .int (nI (k + 1))), (5, .long (S64 (mFnd v i) (k + 1))), (0, .ref (a 0)), (1, .int (nI i)), (2, .int w), (3, .long ((mLeft v i).toInt64))]) hx hb dX3_bear_52 hl (k := 5) rfl iinc1 (by decide) rfl (fun ls hl => ?_)
    refine lv_goto (tgt := 13) hx hb dX3_bear_55 (by decide) ?_
    exact ih_k ls (lv_sub hl [2, 3, 4, 5, 1, 0] rfl)
  · have hl : lv_has ls 10 [(0, .ref (a 0)), (1, .int (nI i)), (2, .int w), (3, .long ((mLeft v i).toInt64)), (5, .long (S64 (mFnd v i) 6)), (7, .int (nI 6))] := hl
    refine lv_iload hx hb dX3_bear_13 (lv_at hl 5 rfl) ?_
    refine lv_bipush (v := 6) hx hb dX3_bear_15 (by decide) ?_
    refine lv_icmp_ge (tgt := 58) hx hb dX3_bear_17 (by decide) (fun c_17 => ?_) (fun c_17 => absurd (nI_le (Nat.le_refl 6) (by decide)) c_17)
    refine lv_lload_n hx hb dX3_bear_58 rfl (lv_at hl 3 rfl) ?_
    refine lv_aload_n hx hb dX3_bear_59 rfl (lv_at hl 0 rfl) ?_
    refine mdG (v := v) (val := .ref (a 9)) hx hb hts hin3 hown hK hP 9 (by decide) (hts (.fieldLink RX3 23 "FundBookModel" "customers" "[I") (by decide +kernel)) rfl dX3_bear_60 ?_
    refine lv_iload_n hx hb dX3_bear_63 rfl (lv_at hl 1 rfl) ?_
    refine ldI (f := v 9) hx hb hK hP 4 mg_9 i rfl (by omega) (by decide) dX3_bear_64 ?_
    refine lv_i2l hx hb dX3_bear_65 rfl ?_
    refine lv_lmul hx hb dX3_bear_66 ?_
    refine lv_ldc2 (v := 120000) hx hb hown (hts (.constantLong RX3 89 120000) (by decide +kernel)) dX3_bear_67 ?_
    refine lv_ldiv hx hb dX3_bear_70 (by decide) ?_
    refine lv_l2i hx hb dX3_bear_71 rfl ?_
    refine lv_topE (z := mCust v i) (rfl) ?_
    refine lv_istore (lv' := [(7, .int (mCust v i)), (0, .ref (a 0)), (1, .int (nI i)), (2, .int w), (3, .long ((mLeft v i).toInt64)), (5, .long (S64 (mFnd v i) 6))]) hx hb dX3_bear_72 hl (by decide) rfl (fun ls hl => ?_)
    refine lv_lload hx hb dX3_bear_74 (lv_at hl 5 rfl) ?_
    refine lv_ldc2 (v := 120000) hx hb hown (hts (.constantLong RX3 89 120000) (by decide +kernel)) dX3_bear_76 ?_
    refine lv_ldiv hx hb dX3_bear_79 (by decide) ?_
    refine lv_l2i hx hb dX3_bear_80 rfl ?_
    refine lv_topE (z := mFund v i) (rfl) ?_
    refine lv_istore (lv' := [(8, .int (mFund v i)), (7, .int (mCust v i)), (0, .ref (a 0)), (1, .int (nI i)), (2, .int w), (3, .long ((mLeft v i).toInt64)), (5, .long (S64 (mFnd v i) 6))]) hx hb dX3_bear_81 hl (by decide) rfl (fun ls hl => ?_)
    refine lv_aload_n hx hb dX3_bear_83 rfl (lv_at hl 2 rfl) ?_
    refine mdG (v := v) (val := .ref (a 11)) hx hb hts hin3 hown hK hP 11 (by decide) (hts (.fieldLink RX3 29 "FundBookModel" "hasOption" "[Z") (by decide +kernel)) rfl dX3_bear_84 ?_
    refine lv_iload_n hx hb dX3_bear_87 rfl (lv_at hl 3 rfl) ?_
    refine ldZ (f := v 11) hx hb hK hP 6 mg_11 i rfl (by omega) (by decide) dX3_bear_88 ?_
    refine lv_if_eq (tgt := 109) hx hb dX3_bear_89 (by decide) (fun c_89 => ?_) (fun c_89 => ?_)
    · refine lv_iconst (v := 0) hx hb dX3_bear_109 (by decide) ?_
      refine lv_topE (z := mOpt v i) (by unfold mOpt; exact (if_pos c_89).symm) ?_
      refine lv_istore (lv' := [(9, .int (mOpt v i)), (8, .int (mFund v i)), (7, .int (mCust v i)), (0, .ref (a 0)), (1, .int (nI i)), (2, .int w), (3, .long ((mLeft v i).toInt64)), (5, .long (S64 (mFnd v i) 6))]) hx hb dX3_bear_110 hl (by decide) rfl (fun ls hl => ?_)
      refine lv_iload_n hx hb dX3_bear_112 rfl (lv_at hl 5 rfl) ?_
      refine lv_if_ne (tgt := 121) hx hb dX3_bear_113 (by decide) (fun c_113 => ?_) (fun c_113 => ?_)
      · refine lv_iload_n hx hb dX3_bear_121 rfl (lv_at hl 5 rfl) ?_
        refine lv_iconst (v := 1) hx hb dX3_bear_122 (by decide) ?_
        refine lv_icmp_ne (tgt := 131) hx hb dX3_bear_123 (by decide) (fun c_123 => ?_) (fun c_123 => ?_)
        · refine lv_iload_n hx hb dX3_bear_131 rfl (lv_at hl 5 rfl) ?_
          refine lv_iconst (v := 2) hx hb dX3_bear_132 (by decide) ?_
          refine lv_icmp_ne (tgt := 141) hx hb dX3_bear_133 (by decide) (fun c_133 => ?_) (fun c_133 => ?_)
          · refine lv_iload hx hb dX3_bear_141 (lv_at hl 2 rfl) ?_
            refine lv_iload hx hb dX3_bear_143 (lv_at hl 1 rfl) ?_
            refine lv_isub hx hb dX3_bear_145 ?_
            refine lv_iload hx hb dX3_bear_146 (lv_at hl 0 rfl) ?_
            refine lv_isub hx hb dX3_bear_148 ?_
            exact W.iret (v := ((mCust v i - mFund v i) - mOpt v i)) hx hb hr (fun t ht hW => ⟨congrArg (fun z => Outcome.returned (some (.int z))) (by unfold mBear; exact ((if_neg c_113).trans ((if_neg c_123).trans ((if_neg c_133)))).symm), ht⟩) t_nil dX3_bear_149
          · refine lv_iload hx hb dX3_bear_136 (lv_at hl 0 rfl) ?_
            refine lv_goto (tgt := 149) hx hb dX3_bear_138 (by decide) ?_
            exact W.iret (v := mOpt v i) hx hb hr (fun t ht hW => ⟨congrArg (fun z => Outcome.returned (some (.int z))) (by unfold mBear; exact ((if_neg c_113).trans ((if_neg c_123).trans ((if_pos c_133)))).symm), ht⟩) t_nil dX3_bear_149
        · refine lv_iload hx hb dX3_bear_126 (lv_at hl 1 rfl) ?_
          refine lv_goto (tgt := 149) hx hb dX3_bear_128 (by decide) ?_
          exact W.iret (v := mFund v i) hx hb hr (fun t ht hW => ⟨congrArg (fun z => Outcome.returned (some (.int z))) (by unfold mBear; exact ((if_neg c_113).trans ((if_pos c_123))).symm), ht⟩) t_nil dX3_bear_149
      · refine lv_iload hx hb dX3_bear_116 (lv_at hl 2 rfl) ?_
        refine lv_goto (tgt := 149) hx hb dX3_bear_118 (by decide) ?_
        exact W.iret (v := mCust v i) hx hb hr (fun t ht hW => ⟨congrArg (fun z => Outcome.returned (some (.int z))) (by unfold mBear; exact ((if_pos c_113)).symm), ht⟩) t_nil dX3_bear_149
    · refine lv_lload_n hx hb dX3_bear_92 rfl (lv_at hl 5 rfl) ?_
      refine lv_aload_n hx hb dX3_bear_93 rfl (lv_at hl 2 rfl) ?_
      refine mdG (v := v) (val := .ref (a 10)) hx hb hts hin3 hown hK hP 10 (by decide) (hts (.fieldLink RX3 26 "FundBookModel" "option" "[I") (by decide +kernel)) rfl dX3_bear_94 ?_
      refine lv_iload_n hx hb dX3_bear_97 rfl (lv_at hl 3 rfl) ?_
      refine ldI (f := v 10) hx hb hK hP 5 mg_10 i rfl (by omega) (by decide) dX3_bear_98 ?_
      refine lv_i2l hx hb dX3_bear_99 rfl ?_
      refine lv_lmul hx hb dX3_bear_100 ?_
      refine lv_ldc2 (v := 120000) hx hb hown (hts (.constantLong RX3 89 120000) (by decide +kernel)) dX3_bear_101 ?_
      refine lv_ldiv hx hb dX3_bear_104 (by decide) ?_
      refine lv_l2i hx hb dX3_bear_105 rfl ?_
      refine lv_goto (tgt := 110) hx hb dX3_bear_106 (by decide) ?_
      refine lv_topE (z := mOpt v i) (by unfold mOpt; exact (if_neg c_89).symm) ?_
      refine lv_istore (lv' := [(9, .int (mOpt v i)), (8, .int (mFund v i)), (7, .int (mCust v i)), (0, .ref (a 0)), (1, .int (nI i)), (2, .int w), (3, .long ((mLeft v i).toInt64)), (5, .long (S64 (mFnd v i) 6))]) hx hb dX3_bear_110 hl (by decide) rfl (fun ls hl => ?_)
      refine lv_iload_n hx hb dX3_bear_112 rfl (lv_at hl 5 rfl) ?_
      refine lv_if_ne (tgt := 121) hx hb dX3_bear_113 (by decide) (fun c_113 => ?_) (fun c_113 => ?_)
      · refine lv_iload_n hx hb dX3_bear_121 rfl (lv_at hl 5 rfl) ?_
        refine lv_iconst (v := 1) hx hb dX3_bear_122 (by decide) ?_
        refine lv_icmp_ne (tgt := 131) hx hb dX3_bear_123 (by decide) (fun c_123 => ?_) (fun c_123 => ?_)
        · refine lv_iload_n hx hb dX3_bear_131 rfl (lv_at hl 5 rfl) ?_
          refine lv_iconst (v := 2) hx hb dX3_bear_132 (by decide) ?_
          refine lv_icmp_ne (tgt := 141) hx hb dX3_bear_133 (by decide) (fun c_133 => ?_) (fun c_133 => ?_)
          · refine lv_iload hx hb dX3_bear_141 (lv_at hl 2 rfl) ?_
            refine lv_iload hx hb dX3_bear_143 (lv_at hl 1 rfl) ?_
            refine lv_isub hx hb dX3_bear_145 ?_
            refine lv_iload hx hb dX3_bear_146 (lv_at hl 0 rfl) ?_
            refine lv_isub hx hb dX3_bear_148 ?_
            exact W.iret (v := ((mCust v i - mFund v i) - mOpt v i)) hx hb hr (fun t ht hW => ⟨congrArg (fun z => Outcome.returned (some (.int z))) (by unfold mBear; exact ((if_neg c_113).trans ((if_neg c_123).trans ((if_neg c_133)))).symm), ht⟩) t_nil dX3_bear_149
          · refine lv_iload hx hb dX3_bear_136 (lv_at hl 0 rfl) ?_
            refine lv_goto (tgt := 149) hx hb dX3_bear_138 (by decide) ?_
            exact W.iret (v := mOpt v i) hx hb hr (fun t ht hW => ⟨congrArg (fun z => Outcome.returned (some (.int z))) (by unfold mBear; exact ((if_neg c_113).trans ((if_neg c_123).trans ((if_pos c_133)))).symm), ht⟩) t_nil dX3_bear_149
        · refine lv_iload hx hb dX3_bear_126 (lv_at hl 1 rfl) ?_
          refine lv_goto (tgt := 149) hx hb dX3_bear_128 (by decide) ?_
          exact W.iret (v := mFund v i) hx hb hr (fun t ht hW => ⟨congrArg (fun z => Outcome.returned (some (.int z))) (by unfold mBear; exact ((if_neg c_113).trans ((if_pos c_123))).symm), ht⟩) t_nil dX3_bear_149
      · refine lv_iload hx hb dX3_bear_116 (lv_at hl 2 rfl) ?_
        refine lv_goto (tgt := 149) hx hb dX3_bear_118 (by decide) ?_
        exact W.iret (v := mCust v i) hx hb hr (fun t ht hW => ⟨congrArg (fun z => Outcome.returned (some (.int z))) (by unfold mBear; exact ((if_pos c_113)).symm), ht⟩) t_nil dX3_bear_149
set_option maxHeartbeats 4000000 in
set_option maxRecDepth 100000 in
theorem c_X3_core (l : Launch) (G : va_G) (y : Nat → ClassId) (a : Nat → Nat) (v : MS)  : Met l yX3_core wsX3_core ({ frames := 0, cells := 0, slots := 0, locals := 0 }) (rP G y [.ref (a 0)] (mdW y a v)) (QcV (.int (mCore v))) 0 0 (fun _ => False) := by
  refine Met.ofW (cc := cX3_core) (maxL := 4) (ret := (some .int)) (by decide) rfl ?_
  intro p e s m args below meth c s₁ B hml hv
  obtain ⟨rfl, hP, hK⟩ := hv
  have hx := B.exec
  have hb := B.bytes
  have hr := B.returns
  have hts := atoms_spec (ws := wsX3_core) B.pre
  have hown : s.vm.findClass RX3 = some m.cls := findClass_of_methodNamed B.named
  have hlocks := B.notSynchronized
  have hl := lv_entry ([.ref (a 0)]) (n := 4) (Nat.le_of_ble_eq_true rfl)
  rw [lg_entry_eq]
  generalize (lg_sl ([.ref (a 0)]) ++ List.replicate (4 - (lg_sl ([.ref (a 0)])).length) Slot.unset).toArray = ls at hl ⊢
  have hin3 : ∀ w ∈ wsX30, w ∈ wsX3_core := by decide +kernel
  have hl : lv_has ls 4 [(0, .ref (a 0))] := hl
  refine lv_lconst (v := 0) hx hb dX3_core_0 (by decide) ?_
  refine lv_lstore_n (lv' := [(1, .long 0), (0, .ref (a 0))]) hx hb dX3_core_1 rfl hl (by decide) rfl (fun ls hl => ?_)
  refine lv_iconst (v := 0) hx hb dX3_core_2 (by decide) ?_
  refine lv_istore_n (lv' := [(3, .int 0), (1, .long 0), (0, .ref (a 0))]) hx hb dX3_core_3 rfl hl (by decide) rfl (fun ls hl => ?_)
  refine loopW (LV := fun k => [(0, .ref (a 0)), (1, .long (S64 (fun j => (v 15 j).toInt64) k)), (3, .int (nI k))]) 3 (lv_sub hl [2, 1, 0] rfl) (fun k ls hk_k hl ih_k => ?_) (fun ls hl => ?_)
  · have hl : lv_has ls 4 [(0, .ref (a 0)), (1, .long (S64 (fun j => (v 15 j).toInt64) k)), (3, .int (nI k))] := hl
    refine lv_iload_n hx hb dX3_core_4 rfl (lv_at hl 2 rfl) ?_
    refine lv_iconst (v := 3) hx hb dX3_core_5 (by decide) ?_
    refine lv_icmp_ge (tgt := 25) hx hb dX3_core_6 (by decide) (fun c_6 => absurd c_6 (nI_ge hk_k (by decide))) (fun c_6 => ?_)
    refine lv_lload_n hx hb dX3_core_9 rfl (lv_at hl 1 rfl) ?_
    refine lv_aload_n hx hb dX3_core_10 rfl (lv_at hl 0 rfl) ?_
    refine mdG (v := v) (val := .ref (a 15)) hx hb hts hin3 hown hK hP 15 (by decide) (hts (.fieldLink RX3 42 "FundBookModel" "balance" "[I") (by decide +kernel)) rfl dX3_core_11 ?_
    refine lv_iload_n hx hb dX3_core_14 rfl (lv_at hl 2 rfl) ?_
    refine ldI (f := v 15) hx hb hK hP 10 mg_15 k rfl (by omega) (by decide) dX3_core_15 ?_
    refine lv_i2l hx hb dX3_core_16 rfl ?_
    refine lv_ladd hx hb dX3_core_17 ?_
    refine lv_topEl (z := S64 (fun j => (v 15 j).toInt64) (k + 1)) (rfl) ?_
    refine lv_lstore_n (lv' := [(1, .long (S64 (fun j => (v 15 j).toInt64) (k + 1))), (0, .ref (a 0)), (3, .int (nI k))]) hx hb dX3_core_18 rfl hl (by decide) rfl (fun ls hl => ?_)
    refine lv_iinc (v := (nI (k + 1))) (lv' := [(3, .int (nI (k + 1))), (1, .long (S64 (fun j => (v 15 j).toInt64) (k + 1))), (0, .ref (a 0))]) hx hb dX3_core_19 hl (k := 2) rfl iinc1 (by decide) rfl (fun ls hl => ?_)
    refine lv_goto (tgt := 4) hx hb dX3_core_22 (by decide) ?_
    exact ih_k ls (lv_sub hl [2, 1, 0] rfl)
  · have hl : lv_has ls 4 [(0, .ref (a 0)), (1, .long (S64 (fun j => (v 15 j).toInt64) 3)), (3, .int (nI 3))] := hl
    refine lv_iload_n hx hb dX3_core_4 rfl (lv_at hl 2 rfl) ?_
    refine lv_iconst (v := 3) hx hb dX3_core_5 (by decide) ?_
    refine lv_icmp_ge (tgt := 25) hx hb dX3_core_6 (by decide) (fun c_6 => ?_) (fun c_6 => absurd (nI_le (Nat.le_refl 3) (by decide)) c_6)
    refine lv_lload_n hx hb dX3_core_25 rfl (lv_at hl 1 rfl) ?_
    refine lv_aload_n hx hb dX3_core_26 rfl (lv_at hl 0 rfl) ?_
    refine mdG (v := v) (val := .int (v 0 5)) hx hb hts hin3 hown hK hP 5 (by decide) (hts (.fieldLink RX3 13 "FundBookModel" "share" "I") (by decide +kernel)) rfl dX3_core_27 ?_
    refine lv_i2l hx hb dX3_core_30 rfl ?_
    refine lv_lmul hx hb dX3_core_31 ?_
    refine lv_ldc2 (v := 100) hx hb hown (hts (.constantLong RX3 99 100) (by decide +kernel)) dX3_core_32 ?_
    refine lv_ldiv hx hb dX3_core_35 (by decide) ?_
    refine lv_l2i hx hb dX3_core_36 rfl ?_
    exact W.iret (v := ((S64 (fun j => (v 15 j).toInt64) 3 * (v 0 5).toInt64) / 100).toInt32) hx hb hr (fun t ht hW => ⟨congrArg (fun z => Outcome.returned (some (.int z))) (rfl), ht⟩) t_nil dX3_core_37
set_option maxHeartbeats 4000000 in
set_option maxRecDepth 100000 in
theorem c_X3_lays (l : Launch) (G : va_G) (y : Nat → ClassId) (a : Nat → Nat) (v : MS) (sz : Nat) (t : Nat) (ht : t < 6) : Met l yX3_lays wsX3_lays ({ frames := 1, cells := 0, slots := 0, locals := 23 }) (mP G y [.ref (a 0), .int (nI t)] (mdW y a v) sz) (mQ G (fun _ : Unit => none) (fun _ => True) (fun _ => mdW y a (mLay v t)) (va_A (mdW y a v) sz)) 0 0 (va_A (mdW y a v) sz) := by
  refine Met.ofW (cc := cX3_lays) (maxL := 2) (ret := none) (by decide) rfl ?_
  intro p e s m args below meth c s₁ B hml hv
  obtain ⟨rfl, hsz, hP, hK, hD0⟩ := hv
  have hx := B.exec
  have hb := B.bytes
  have hr := B.returns
  have hts := atoms_spec (ws := wsX3_lays) B.pre
  have hown : s.vm.findClass RX3 = some m.cls := findClass_of_methodNamed B.named
  have hlocks := B.notSynchronized
  subst hsz
  have hD := hD0.self (sz := s.heap.size)
  generalize hAe : va_A (mdW y a v) s.heap.size = A at hD ⊢
  have hA : ∀ q : Nat, s.heap.size ≤ q → A q := fun q h => by rw [← hAe]; exact Or.inr h
  have hS : va_S A s.heap s.heap [] := va_S.rf
  have hP : va_P G vwCl (mdW y a v) s.heap := hP
  have hl := lv_entry ([.ref (a 0), .int (nI t)]) (n := 2) (Nat.le_of_ble_eq_true rfl)
  rw [lg_entry_eq]
  generalize (lg_sl ([.ref (a 0), .int (nI t)]) ++ List.replicate (2 - (lg_sl ([.ref (a 0), .int (nI t)])).length) Slot.unset).toArray = ls at hl ⊢
  have hin3 : ∀ w ∈ wsX30, w ∈ wsX3_lays := by decide +kernel
  have hl : lv_has ls 2 [(0, .ref (a 0)), (1, .int (nI t))] := hl
  refine lv_aload_n hx hb dX3_lays_0 rfl (lv_at hl 0 rfl) ?_
  refine mdG (v := v) (val := .ref (a 16)) hx hb hts hin3 hown hK hP 16 (by decide) (hts (.fieldLink RX3 45 "FundBookModel" "tranche" "[I") (by decide +kernel)) rfl dX3_lays_1 ?_
  refine lv_iload_n hx hb dX3_lays_4 rfl (lv_at hl 1 rfl) ?_
  refine lv_aload_n hx hb dX3_lays_5 rfl (lv_at hl 0 rfl) ?_
  refine caR (r := .int (mCore v)) (va_runV (As := []) (rest := [.int (nI t), .ref (a 16)]) ⟨hx, hb, hml, hown, hts⟩ (c_X3_core l G y a v ) (cwV 0 hts gX3_lays_X3_core rfl rfl rfl (by decide +kernel) ⟨Nat.le_of_ble_eq_true rfl, Nat.le_of_ble_eq_true rfl⟩) ⟨rP_bl, va_recv hK.1 hP (ci := 3) (q0 := 0) rfl rfl, fun U hU hW => ⟨rfl, by rw [hU]; exact hP, Kb.moved hW hK⟩⟩ rfl rfl hl.1 rfl (lv_room (Nat.le_of_ble_eq_true rfl)) dX3_lays_6 ⟨Nat.le_of_ble_eq_true rfl, Nat.le_of_ble_eq_true rfl⟩) ?_
  refine lv_bipush (v := 6) hx hb dX3_lays_9 (by decide) ?_
  refine lv_idiv hx hb dX3_lays_11 (by decide) ?_
  refine stI (f := v 16) (ws1 := mdW y a (u2 v 16 t (mCore v / 6))) hx hb hK hP hD hS 11 mg_16 t rfl (by omega) (by decide) ms_16 dX3_lays_12 (fun H locs hP hD hS => ?_)
  refine lv_aload_n hx hb dX3_lays_13 rfl (lv_at hl 0 rfl) ?_
  refine mdG (v := (u2 v 16 t (mCore v / 6))) (val := .ref (a 17)) hx hb hts hin3 hown hK hP 17 (by decide) (hts (.fieldLink RX3 48 "FundBookModel" "laidAt" "[I") (by decide +kernel)) rfl dX3_lays_14 ?_
  refine lv_iload_n hx hb dX3_lays_17 rfl (lv_at hl 1 rfl) ?_
  refine lv_aload_n hx hb dX3_lays_18 rfl (lv_at hl 0 rfl) ?_
  refine mdG (v := (u2 v 16 t (mCore v / 6))) (val := .ref (a 2)) hx hb hts hin3 hown hK hP 2 (by decide) (hts (.fieldLink RX3 7 "FundBookModel" "curve" "[I") (by decide +kernel)) rfl dX3_lays_19 ?_
  refine lv_bipush (v := 6) hx hb dX3_lays_22 (by decide) ?_
  refine ldI (f := v 2) hx hb hK hP 1 rfl 6 rfl (by decide) (by decide) dX3_lays_24 ?_
  refine stI (f := (u2 v 16 t (mCore v / 6)) 17) (ws1 := mdW y a (u2 (u2 v 16 t (mCore v / 6)) 17 t (v 2 6))) hx hb hK hP hD hS 12 mg_17 t rfl (by omega) (by decide) ms_17 dX3_lays_25 (fun H locs hP hD hS => ?_)
  have ev : mLay v t = (u2 (u2 v 16 t (mCore v / 6)) 17 t (v 2 6)) := by rfl
  exact W.vret hx hb hr (fun t ht hW => ⟨⟨(), rfl, trivial, by rw [ht, ev]; exact hP, by rw [ev]; exact hD⟩, hS.F ht⟩) hS.2.2 dX3_lays_26
set_option maxHeartbeats 4000000 in
set_option maxRecDepth 100000 in
theorem c_X3_replica (l : Launch) (G : va_G) (y : Nat → ClassId) (a : Nat → Nat) (v : MS)  : Met l yX3_replica wsX3_replica ({ frames := 0, cells := 0, slots := 0, locals := 0 }) (rP G y [.ref (a 0)] (mdW y a v)) (QcV (.int (mRep v))) 0 0 (fun _ => False) := by
  refine Met.ofW (cc := cX3_replica) (maxL := 6) (ret := (some .int)) (by decide) rfl ?_
  intro p e s m args below meth c s₁ B hml hv
  obtain ⟨rfl, hP, hK⟩ := hv
  have hx := B.exec
  have hb := B.bytes
  have hr := B.returns
  have hts := atoms_spec (ws := wsX3_replica) B.pre
  have hown : s.vm.findClass RX3 = some m.cls := findClass_of_methodNamed B.named
  have hlocks := B.notSynchronized
  have hl := lv_entry ([.ref (a 0)]) (n := 6) (Nat.le_of_ble_eq_true rfl)
  rw [lg_entry_eq]
  generalize (lg_sl ([.ref (a 0)]) ++ List.replicate (6 - (lg_sl ([.ref (a 0)])).length) Slot.unset).toArray = ls at hl ⊢
  have hin3 : ∀ w ∈ wsX30, w ∈ wsX3_replica := by decide +kernel
  have hl : lv_has ls 6 [(0, .ref (a 0))] := hl
  refine lv_lconst (v := 0) hx hb dX3_replica_0 (by decide) ?_
  refine lv_lstore_n (lv' := [(1, .long 0), (0, .ref (a 0))]) hx hb dX3_replica_1 rfl hl (by decide) rfl (fun ls hl => ?_)
  refine lv_lconst (v := 0) hx hb dX3_replica_2 (by decide) ?_
  refine lv_lstore_n (lv' := [(3, .long 0), (1, .long 0), (0, .ref (a 0))]) hx hb dX3_replica_3 rfl hl (by decide) rfl (fun ls hl => ?_)
  refine lv_iconst (v := 0) hx hb dX3_replica_4 (by decide) ?_
  refine lv_istore (lv' := [(5, .int 0), (3, .long 0), (1, .long 0), (0, .ref (a 0))]) hx hb dX3_replica_5 hl (by decide) rfl (fun ls hl => ?_)
  refine loopW (LV := fun k => [(0, .ref (a 0)), (1, .long (S64 (mRsm v) k)), (3, .long (S64 (mRal v) k)), (5, .int (nI k))]) 6 (lv_sub hl [3, 2, 1, 0] rfl) (fun k ls hk_k hl ih_k => ?_) (fun ls hl => ?_)
  · have hl : lv_has ls 6 [(0, .ref (a 0)), (1, .long (S64 (mRsm v) k)), (3, .long (S64 (mRal v) k)), (5, .int (nI k))] := hl
    refine lv_iload hx hb dX3_replica_7 (lv_at hl 3 rfl) ?_
    refine lv_bipush (v := 6) hx hb dX3_replica_9 (by decide) ?_
    refine lv_icmp_ge (tgt := 51) hx hb dX3_replica_11 (by decide) (fun c_11 => absurd c_11 (nI_ge hk_k (by decide))) (fun c_11 => ?_)
    refine lv_lload_n hx hb dX3_replica_14 rfl (lv_at hl 1 rfl) ?_
    refine lv_aload_n hx hb dX3_replica_15 rfl (lv_at hl 0 rfl) ?_
    refine mdG (v := v) (val := .ref (a 16)) hx hb hts hin3 hown hK hP 16 (by decide) (hts (.fieldLink RX3 45 "FundBookModel" "tranche" "[I") (by decide +kernel)) rfl dX3_replica_16 ?_
    refine lv_iload hx hb dX3_replica_19 (lv_at hl 3 rfl) ?_
    refine ldI (f := v 16) hx hb hK hP 11 mg_16 k rfl (by omega) (by decide) dX3_replica_21 ?_
    refine lv_i2l hx hb dX3_replica_22 rfl ?_
    refine lv_aload_n hx hb dX3_replica_23 rfl (lv_at hl 0 rfl) ?_
    refine mdG (v := v) (val := .ref (a 17)) hx hb hts hin3 hown hK hP 17 (by decide) (hts (.fieldLink RX3 48 "FundBookModel" "laidAt" "[I") (by decide +kernel)) rfl dX3_replica_24 ?_
    refine lv_iload hx hb dX3_replica_27 (lv_at hl 3 rfl) ?_
    refine ldI (f := v 17) hx hb hK hP 12 mg_17 k rfl (by omega) (by decide) dX3_replica_29 ?_
    refine lv_i2l hx hb dX3_replica_30 rfl ?_
    refine lv_lmul hx hb dX3_replica_31 ?_
    refine lv_ladd hx hb dX3_replica_32 ?_
    refine lv_topEl (z := S64 (mRsm v) (k + 1)) (rfl) ?_
    refine lv_lstore_n (lv' := [(1, .long (S64 (mRsm v) (k + 1))), (0, .ref (a 0)), (3, .long (S64 (mRal v) k)), (5, .int (nI k))]) hx hb dX3_replica_33 rfl hl (by decide) rfl (fun ls hl => ?_)
    refine lv_lload_n hx hb dX3_replica_34 rfl (lv_at hl 2 rfl) ?_
    refine lv_aload_n hx hb dX3_replica_35 rfl (lv_at hl 1 rfl) ?_
    refine mdG (v := v) (val := .ref (a 16)) hx hb hts hin3 hown hK hP 16 (by decide) (hts (.fieldLink RX3 45 "FundBookModel" "tranche" "[I") (by decide +kernel)) rfl dX3_replica_36 ?_
    refine lv_iload hx hb dX3_replica_39 (lv_at hl 3 rfl) ?_
    refine ldI (f := v 16) hx hb hK hP 11 mg_16 k rfl (by omega) (by decide) dX3_replica_41 ?_
    refine lv_i2l hx hb dX3_replica_42 rfl ?_
    refine lv_ladd hx hb dX3_replica_43 ?_
    refine lv_topEl (z := S64 (mRal v) (k + 1)) (rfl) ?_
    refine lv_lstore_n (lv' := [(3, .long (S64 (mRal v) (k + 1))), (1, .long (S64 (mRsm v) (k + 1))), (0, .ref (a 0)), (5, .int (nI k))]) hx hb dX3_replica_44 rfl hl (by decide) rfl (fun ls hl => ?_)
    refine lv_iinc (v := (nI (k + 1))) (lv' := [(5, .int (nI (k + 1))), (3, .long (S64 (mRal v) (k + 1))), (1, .long (S64 (mRsm v) (k + 1))), (0, .ref (a 0))]) hx hb dX3_replica_45 hl (k := 3) rfl iinc1 (by decide) rfl (fun ls hl => ?_)
    refine lv_goto (tgt := 7) hx hb dX3_replica_48 (by decide) ?_
    exact ih_k ls (lv_sub hl [3, 2, 1, 0] rfl)
  · have hl : lv_has ls 6 [(0, .ref (a 0)), (1, .long (S64 (mRsm v) 6)), (3, .long (S64 (mRal v) 6)), (5, .int (nI 6))] := hl
    refine lv_iload hx hb dX3_replica_7 (lv_at hl 3 rfl) ?_
    refine lv_bipush (v := 6) hx hb dX3_replica_9 (by decide) ?_
    refine lv_icmp_ge (tgt := 51) hx hb dX3_replica_11 (by decide) (fun c_11 => ?_) (fun c_11 => absurd (nI_le (Nat.le_refl 6) (by decide)) c_11)
    refine lv_lload_n hx hb dX3_replica_51 rfl (lv_at hl 2 rfl) ?_
    refine lv_lconst (v := 0) hx hb dX3_replica_52 (by decide) ?_
    refine W.lcmp hx hb dX3_replica_53 ?_
    refine lv_if_ne (tgt := 61) hx hb dX3_replica_54 (by decide) (fun c_54 => ?_) (fun c_54 => ?_)
    · refine lv_lload_n hx hb dX3_replica_61 rfl (lv_at hl 1 rfl) ?_
      refine lv_lload_n hx hb dX3_replica_62 rfl (lv_at hl 2 rfl) ?_
      refine lv_ldiv hx hb dX3_replica_63 (lcmp_ne c_54) ?_
      refine lv_l2i hx hb dX3_replica_64 rfl ?_
      exact W.iret (v := (S64 (mRsm v) 6 / S64 (mRal v) 6).toInt32) hx hb hr (fun t ht hW => ⟨congrArg (fun z => Outcome.returned (some (.int z))) (by unfold mRep; exact (if_neg (lcmp_ne c_54)).symm), ht⟩) t_nil dX3_replica_65
    · refine lv_iconst (v := 0) hx hb dX3_replica_57 (by decide) ?_
      refine lv_goto (tgt := 65) hx hb dX3_replica_58 (by decide) ?_
      exact W.iret (v := 0) hx hb hr (fun t ht hW => ⟨congrArg (fun z => Outcome.returned (some (.int z))) (by unfold mRep; exact (if_pos (lcmp_eq c_54)).symm), ht⟩) t_nil dX3_replica_65
set_option maxHeartbeats 4000000 in
set_option maxRecDepth 100000 in
theorem c_X3_isPaid (l : Launch) (G : va_G) (y : Nat → ClassId) (a : Nat → Nat) (v : MS) (k : Nat) (hk : k < 3) : Met l yX3_isPaid wsX3_isPaid ({ frames := 1, cells := 0, slots := 0, locals := 25 }) (rP G y [.ref (a 0), .int (nI k)] (mdW y a v)) (QcV (.int (mPaid v k))) 0 0 (fun _ => False) := by
  refine Met.ofW (cc := cX3_isPaid) (maxL := 4) (ret := (some .int)) (by decide) rfl ?_
  intro p e s m args below meth c s₁ B hml hv
  obtain ⟨rfl, hP, hK⟩ := hv
  have hx := B.exec
  have hb := B.bytes
  have hr := B.returns
  have hts := atoms_spec (ws := wsX3_isPaid) B.pre
  have hown : s.vm.findClass RX3 = some m.cls := findClass_of_methodNamed B.named
  have hlocks := B.notSynchronized
  have hl := lv_entry ([.ref (a 0), .int (nI k)]) (n := 4) (Nat.le_of_ble_eq_true rfl)
  rw [lg_entry_eq]
  generalize (lg_sl ([.ref (a 0), .int (nI k)]) ++ List.replicate (4 - (lg_sl ([.ref (a 0), .int (nI k)])).length) Slot.unset).toArray = ls at hl ⊢
  have hin3 : ∀ w ∈ wsX30, w ∈ wsX3_isPaid := by decide +kernel
  have hl : lv_has ls 4 [(0, .ref (a 0)), (1, .int (nI k))] := hl
  refine lv_aload_n hx hb dX3_isPaid_0 rfl (lv_at hl 0 rfl) ?_
  refine mdG (v := v) (val := .ref (a 15)) hx hb hts hin3 hown hK hP 15 (by decide) (hts (.fieldLink RX3 42 "FundBookModel" "balance" "[I") (by decide +kernel)) rfl dX3_isPaid_1 ?_
  refine lv_iload_n hx hb dX3_isPaid_4 rfl (lv_at hl 1 rfl) ?_
  refine ldI (f := v 15) hx hb hK hP 10 mg_15 k rfl (by omega) (by decide) dX3_isPaid_5 ?_
  refine lv_i2l hx hb dX3_isPaid_6 rfl ?_
  refine lv_aload_n hx hb dX3_isPaid_7 rfl (lv_at hl 0 rfl) ?_
  refine mdG (v := v) (val := .int (v 0 5)) hx hb hts hin3 hown hK hP 5 (by decide) (hts (.fieldLink RX3 13 "FundBookModel" "share" "I") (by decide +kernel)) rfl dX3_isPaid_8 ?_
  refine lv_i2l hx hb dX3_isPaid_11 rfl ?_
  refine lv_lmul hx hb dX3_isPaid_12 ?_
  refine lv_ldc2 (v := 100) hx hb hown (hts (.constantLong RX3 99 100) (by decide +kernel)) dX3_isPaid_13 ?_
  refine lv_ldiv hx hb dX3_isPaid_16 (by decide) ?_
  refine lv_lstore_n (lv' := [(2, .long (((v 15 k).toInt64 * (v 0 5).toInt64) / 100)), (0, .ref (a 0)), (1, .int (nI k))]) hx hb dX3_isPaid_17 rfl hl (by decide) rfl (fun ls hl => ?_)
  refine lv_lload_n hx hb dX3_isPaid_18 rfl (lv_at hl 0 rfl) ?_
  refine lv_aload_n hx hb dX3_isPaid_19 rfl (lv_at hl 1 rfl) ?_
  refine caR (r := .int (mRep v)) (va_runV (As := []) (rest := [.long (((v 15 k).toInt64 * (v 0 5).toInt64) / 100)]) ⟨hx, hb, hml, hown, hts⟩ (c_X3_replica l G y a v ) (cwV 0 hts gX3_isPaid_X3_replica rfl rfl rfl (by decide +kernel) ⟨Nat.le_of_ble_eq_true rfl, Nat.le_of_ble_eq_true rfl⟩) ⟨rP_bl, va_recv hK.1 hP (ci := 3) (q0 := 0) rfl rfl, fun U hU hW => ⟨rfl, by rw [hU]; exact hP, Kb.moved hW hK⟩⟩ rfl rfl hl.1 rfl (lv_room (Nat.le_of_ble_eq_true rfl)) dX3_isPaid_20 ⟨Nat.le_of_ble_eq_true rfl, Nat.le_of_ble_eq_true rfl⟩) ?_
  refine lv_i2l hx hb dX3_isPaid_23 rfl ?_
  refine lv_lmul hx hb dX3_isPaid_24 ?_
  refine lv_aload_n hx hb dX3_isPaid_25 rfl (lv_at hl 1 rfl) ?_
  refine mdG (v := v) (val := .ref (a 15)) hx hb hts hin3 hown hK hP 15 (by decide) (hts (.fieldLink RX3 42 "FundBookModel" "balance" "[I") (by decide +kernel)) rfl dX3_isPaid_26 ?_
  refine lv_iload_n hx hb dX3_isPaid_29 rfl (lv_at hl 2 rfl) ?_
  refine ldI (f := v 15) hx hb hK hP 10 mg_15 k rfl (by omega) (by decide) dX3_isPaid_30 ?_
  refine lv_i2l hx hb dX3_isPaid_31 rfl ?_
  refine lv_lload_n hx hb dX3_isPaid_32 rfl (lv_at hl 0 rfl) ?_
  refine lv_lsub hx hb dX3_isPaid_33 ?_
  refine lv_aload_n hx hb dX3_isPaid_34 rfl (lv_at hl 1 rfl) ?_
  refine mdG (v := v) (val := .ref (a 2)) hx hb hts hin3 hown hK hP 2 (by decide) (hts (.fieldLink RX3 7 "FundBookModel" "curve" "[I") (by decide +kernel)) rfl dX3_isPaid_35 ?_
  refine lv_iconst (v := 1) hx hb dX3_isPaid_38 (by decide) ?_
  refine ldI (f := v 2) hx hb hK hP 1 mg_2 1 rfl (by decide) (by decide) dX3_isPaid_39 ?_
  refine lv_i2l hx hb dX3_isPaid_40 rfl ?_
  refine lv_lmul hx hb dX3_isPaid_41 ?_
  refine lv_ladd hx hb dX3_isPaid_42 ?_
  refine lv_ldc2 (v := 120000) hx hb hown (hts (.constantLong RX3 89 120000) (by decide +kernel)) dX3_isPaid_43 ?_
  refine lv_ldiv hx hb dX3_isPaid_46 (by decide) ?_
  refine lv_l2i hx hb dX3_isPaid_47 rfl ?_
  exact W.iret (v := ((((((v 15 k).toInt64 * (v 0 5).toInt64) / 100) * (mRep v).toInt64) + (((v 15 k).toInt64 - (((v 15 k).toInt64 * (v 0 5).toInt64) / 100)) * (v 2 1).toInt64)) / 120000).toInt32) hx hb hr (fun t ht hW => ⟨congrArg (fun z => Outcome.returned (some (.int z))) (rfl), ht⟩) t_nil dX3_isPaid_48
set_option maxHeartbeats 4000000 in
set_option maxRecDepth 100000 in
theorem c_X3_pays (l : Launch) (G : va_G) (y : Nat → ClassId) (a : Nat → Nat) (v : MS) (k : Nat) (hk : k < 3) : Met l yX3_pays wsX3_pays ({ frames := 0, cells := 0, slots := 0, locals := 0 }) (rP G y [.ref (a 0), .int (nI k)] (mdW y a v)) (QcV (.int (mPays v k))) 0 0 (fun _ => False) := by
  refine Met.ofW (cc := cX3_pays) (maxL := 2) (ret := (some .int)) (by decide) rfl ?_
  intro p e s m args below meth c s₁ B hml hv
  obtain ⟨rfl, hP, hK⟩ := hv
  have hx := B.exec
  have hb := B.bytes
  have hr := B.returns
  have hts := atoms_spec (ws := wsX3_pays) B.pre
  have hown : s.vm.findClass RX3 = some m.cls := findClass_of_methodNamed B.named
  have hlocks := B.notSynchronized
  have hl := lv_entry ([.ref (a 0), .int (nI k)]) (n := 2) (Nat.le_of_ble_eq_true rfl)
  rw [lg_entry_eq]
  generalize (lg_sl ([.ref (a 0), .int (nI k)]) ++ List.replicate (2 - (lg_sl ([.ref (a 0), .int (nI k)])).length) Slot.unset).toArray = ls at hl ⊢
  have hin3 : ∀ w ∈ wsX30, w ∈ wsX3_pays := by decide +kernel
  have hl : lv_has ls 2 [(0, .ref (a 0)), (1, .int (nI k))] := hl
  refine lv_aload_n hx hb dX3_pays_0 rfl (lv_at hl 0 rfl) ?_
  refine mdG (v := v) (val := .ref (a 15)) hx hb hts hin3 hown hK hP 15 (by decide) (hts (.fieldLink RX3 42 "FundBookModel" "balance" "[I") (by decide +kernel)) rfl dX3_pays_1 ?_
  refine lv_iload_n hx hb dX3_pays_4 rfl (lv_at hl 1 rfl) ?_
  refine ldI (f := v 15) hx hb hK hP 10 mg_15 k rfl (by omega) (by decide) dX3_pays_5 ?_
  refine lv_i2l hx hb dX3_pays_6 rfl ?_
  refine lv_aload_n hx hb dX3_pays_7 rfl (lv_at hl 0 rfl) ?_
  refine mdG (v := v) (val := .int (v 0 3)) hx hb hts hin3 hown hK hP 3 (by decide) (hts (.fieldLink RX3 80 "FundBookModel" "depositRate" "I") (by decide +kernel)) rfl dX3_pays_8 ?_
  refine lv_i2l hx hb dX3_pays_11 rfl ?_
  refine lv_lmul hx hb dX3_pays_12 ?_
  refine lv_ldc2 (v := 120000) hx hb hown (hts (.constantLong RX3 89 120000) (by decide +kernel)) dX3_pays_13 ?_
  refine lv_ldiv hx hb dX3_pays_16 (by decide) ?_
  refine lv_l2i hx hb dX3_pays_17 rfl ?_
  exact W.iret (v := (((v 15 k).toInt64 * (v 0 3).toInt64) / 120000).toInt32) hx hb hr (fun t ht hW => ⟨congrArg (fun z => Outcome.returned (some (.int z))) (rfl), ht⟩) t_nil dX3_pays_18
