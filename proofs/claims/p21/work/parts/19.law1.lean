/-! ===== the law's methods of its own rows (printed by a program of mine) ===== -/
theorem nI_pne {M : Nat} (h : 0 < M) (hM : M < 2 ^ 31) : ¬ nI M = 0 := nI_ne0 h hM
theorem of_not_not {x z : Int32} (h : ¬ ¬ x = z) : x = z := Decidable.of_not_not h
theorem uA_j {w : MS} {k j : Nat} {x : Int32} (h : j ≠ 4) : uA w k x j = w j := u2_j h
set_option maxHeartbeats 4000000 in
set_option maxRecDepth 100000 in
theorem c_L_low (l : Launch) (v : Int32) (M : Nat) (h : 0 < M) (hM : M < 2 ^ 31) : Met l yL_low wsL_low ({ frames := 0, cells := 0, slots := 0, locals := 0 }) (nP [.int v, .int (nI M)]) (QcV (.int (nI (lo v M)))) 0 0 (fun _ => False) := by
  refine Met.ofW (cc := cL_low) (maxL := 2) (ret := (some .int)) (by decide) rfl ?_
  intro p e s m args below meth c s₁ B hml hv
  obtain ⟨rfl, -⟩ := hv
  have hx := B.exec
  have hb := B.bytes
  have hr := B.returns
  have hts := atoms_spec (ws := wsL_low) B.pre
  have hown : s.vm.findClass RL = some m.cls := findClass_of_methodNamed B.named
  have hlocks := B.notSynchronized
  have hl := lv_entry ([.int v, .int (nI M)]) (n := 2) (Nat.le_of_ble_eq_true rfl)
  rw [lg_entry_eq]
  generalize (lg_sl ([.int v, .int (nI M)]) ++ List.replicate (2 - (lg_sl ([.int v, .int (nI M)])).length) Slot.unset).toArray = ls at hl ⊢
  have hl : lv_has ls 2 [(0, .int v), (1, .int (nI M))] := hl
  refine lv_iload_n hx hb dL_low_0 rfl (lv_at hl 0 rfl) ?_
  refine lv_ldc (v := 2147483647) hx hb hown (hts (.constant RL 9 2147483647) (by decide +kernel)) dL_low_1 ?_
  refine lv_iand hx hb dL_low_3 ?_
  refine lv_topE (z := nI (v.toBitVec.toNat % 2 ^ 31)) (lo_and) ?_
  refine lv_iload_n hx hb dL_low_4 rfl (lv_at hl 1 rfl) ?_
  refine lv_irem hx hb dL_low_5 (nI_pne h hM) ?_
  refine lv_topE (z := nI (lo v M)) (lo_rem h hM) ?_
  exact W.iret (v := nI (lo v M)) hx hb hr (fun t ht hW => ⟨congrArg (fun z => Outcome.returned (some (.int z))) (rfl), ht⟩) t_nil dL_low_6
set_option maxHeartbeats 4000000 in
set_option maxRecDepth 100000 in
theorem c_L_part (l : Launch) (G : va_G) (y : Nat → ClassId) (r : Nat → Nat) (w : MS) (i : Nat) (hi : i < 8) (mm : Nat) (hne : ¬ w 1 ((8 * i) + 4) = 0) : Met l yL_part wsL_part ({ frames := 0, cells := 0, slots := 0, locals := 0 }) (rP G y [.int (nI i), .int (nI mm), .ref (r 1), .ref (r 0)] (lwA y r w)) (QcV (.int (gPart w i mm))) 0 0 (fun _ => False) := by
  refine Met.ofW (cc := cL_part) (maxL := 8) (ret := (some .int)) (by decide) rfl ?_
  intro p e s m args below meth c s₁ B hml hv
  obtain ⟨rfl, hP, hK⟩ := hv
  have hx := B.exec
  have hb := B.bytes
  have hr := B.returns
  have hts := atoms_spec (ws := wsL_part) B.pre
  have hown : s.vm.findClass RL = some m.cls := findClass_of_methodNamed B.named
  have hlocks := B.notSynchronized
  have hl := lv_entry ([.int (nI i), .int (nI mm), .ref (r 1), .ref (r 0)]) (n := 8) (Nat.le_of_ble_eq_true rfl)
  rw [lg_entry_eq]
  generalize (lg_sl ([.int (nI i), .int (nI mm), .ref (r 1), .ref (r 0)]) ++ List.replicate (8 - (lg_sl ([.int (nI i), .int (nI mm), .ref (r 1), .ref (r 0)])).length) Slot.unset).toArray = ls at hl ⊢
  have hl : lv_has ls 8 [(0, .int (nI i)), (1, .int (nI mm)), (2, .ref (r 1)), (3, .ref (r 0))] := hl
  refine lv_bipush (v := 8) hx hb dL_part_0 (by decide) ?_
  refine lv_iload_n hx hb dL_part_2 rfl (lv_at hl 0 rfl) ?_
  refine lv_imul hx hb dL_part_3 ?_
  refine lv_topE (z := nI (8 * i)) (m8 (a := 8) (b := i)) ?_
  refine lv_istore (lv' := [(4, .int (nI (8 * i))), (0, .int (nI i)), (1, .int (nI mm)), (2, .ref (r 1)), (3, .ref (r 0))]) hx hb dL_part_4 hl (by decide) rfl (fun ls hl => ?_)
  refine lv_aload_n hx hb dL_part_6 rfl (lv_at hl 3 rfl) ?_
  refine lv_iload hx hb dL_part_7 (lv_at hl 0 rfl) ?_
  refine lv_iconst (v := 4) hx hb dL_part_9 (by decide) ?_
  refine lv_iadd hx hb dL_part_10 ?_
  refine lv_topE (z := nI ((8 * i) + 4)) (nI_add (8 * i) 4) ?_
  refine ldI (f := w 1) hx hb hK hP 1 (ag_1 (B := [])) ((8 * i) + 4) rfl (by omega) (by decide) dL_part_11 ?_
  refine lv_istore (lv' := [(5, .int (w 1 ((8 * i) + 4))), (4, .int (nI (8 * i))), (0, .int (nI i)), (1, .int (nI mm)), (2, .ref (r 1)), (3, .ref (r 0))]) hx hb dL_part_12 hl (by decide) rfl (fun ls hl => ?_)
  refine lv_iload_n hx hb dL_part_14 rfl (lv_at hl 3 rfl) ?_
  refine lv_aload_n hx hb dL_part_15 rfl (lv_at hl 4 rfl) ?_
  refine lv_iload hx hb dL_part_16 (lv_at hl 1 rfl) ?_
  refine lv_iconst (v := 5) hx hb dL_part_18 (by decide) ?_
  refine lv_iadd hx hb dL_part_19 ?_
  refine lv_topE (z := nI ((8 * i) + 5)) (nI_add (8 * i) 5) ?_
  refine ldI (f := w 1) hx hb hK hP 1 (ag_1 (B := [])) ((8 * i) + 5) rfl (by omega) (by decide) dL_part_20 ?_
  refine lv_isub hx hb dL_part_21 ?_
  refine lv_iconst (v := 1) hx hb dL_part_22 (by decide) ?_
  refine lv_iadd hx hb dL_part_23 ?_
  refine lv_istore (lv' := [(6, .int ((nI mm - w 1 ((8 * i) + 5)) + 1)), (5, .int (w 1 ((8 * i) + 4))), (4, .int (nI (8 * i))), (0, .int (nI i)), (1, .int (nI mm)), (2, .ref (r 1)), (3, .ref (r 0))]) hx hb dL_part_24 hl (by decide) rfl (fun ls hl => ?_)
  refine lv_aload_n hx hb dL_part_26 rfl (lv_at hl 5 rfl) ?_
  refine lv_iload hx hb dL_part_27 (lv_at hl 2 rfl) ?_
  refine lv_iconst (v := 2) hx hb dL_part_29 (by decide) ?_
  refine lv_iadd hx hb dL_part_30 ?_
  refine lv_topE (z := nI ((8 * i) + 2)) (nI_add (8 * i) 2) ?_
  refine ldI (f := w 1) hx hb hK hP 1 (ag_1 (B := [])) ((8 * i) + 2) rfl (by omega) (by decide) dL_part_31 ?_
  refine lv_iload hx hb dL_part_32 (lv_at hl 1 rfl) ?_
  refine lv_idiv hx hb dL_part_34 hne ?_
  refine lv_istore (lv' := [(7, .int (w 1 ((8 * i) + 2) / w 1 ((8 * i) + 4))), (6, .int ((nI mm - w 1 ((8 * i) + 5)) + 1)), (5, .int (w 1 ((8 * i) + 4))), (4, .int (nI (8 * i))), (0, .int (nI i)), (1, .int (nI mm)), (2, .ref (r 1)), (3, .ref (r 0))]) hx hb dL_part_35 hl (by decide) rfl (fun ls hl => ?_)
  refine lv_aload_n hx hb dL_part_37 rfl (lv_at hl 6 rfl) ?_
  refine lv_iload hx hb dL_part_38 (lv_at hl 3 rfl) ?_
  refine lv_bipush (v := 7) hx hb dL_part_40 (by decide) ?_
  refine lv_iadd hx hb dL_part_42 ?_
  refine lv_topE (z := nI ((8 * i) + 7)) (nI_add (8 * i) 7) ?_
  refine ldI (f := w 1) hx hb hK hP 1 (ag_1 (B := [])) ((8 * i) + 7) rfl (by omega) (by decide) dL_part_43 ?_
  refine lv_iconst (v := 1) hx hb dL_part_44 (by decide) ?_
  refine lv_icmp_eq (tgt := 62) hx hb dL_part_45 (by decide) (fun c_45 => ?_) (fun c_45 => ?_)
  · refine lv_iconst (v := 0) hx hb dL_part_62 (by decide) ?_
    refine lv_goto (tgt := 93) hx hb dL_part_63 (by decide) ?_
    exact W.iret (v := 0) hx hb hr (fun t ht hW => ⟨congrArg (fun z => Outcome.returned (some (.int z))) (by unfold gPart; exact ((if_pos c_45)).symm), ht⟩) t_nil dL_part_93
  · refine lv_iload_n hx hb dL_part_48 rfl (lv_at hl 5 rfl) ?_
    refine lv_aload_n hx hb dL_part_49 rfl (lv_at hl 7 rfl) ?_
    refine lv_iconst (v := 0) hx hb dL_part_50 (by decide) ?_
    refine ldI (f := w 0) hx hb hK hP 0 (ag_0 (B := [])) 0 rfl (by decide) (by decide) dL_part_51 ?_
    refine lv_icmp_lt (tgt := 62) hx hb dL_part_52 (by decide) (fun c_52 => ?_) (fun c_52 => ?_)
    · refine lv_iconst (v := 0) hx hb dL_part_62 (by decide) ?_
      refine lv_goto (tgt := 93) hx hb dL_part_63 (by decide) ?_
      exact W.iret (v := 0) hx hb hr (fun t ht hW => ⟨congrArg (fun z => Outcome.returned (some (.int z))) (by unfold gPart; exact ((if_neg c_45).trans ((if_pos c_52))).symm), ht⟩) t_nil dL_part_93
    · refine lv_iload hx hb dL_part_55 (lv_at hl 1 rfl) ?_
      refine lv_iload hx hb dL_part_57 (lv_at hl 2 rfl) ?_
      refine lv_icmp_le (tgt := 66) hx hb dL_part_59 (by decide) (fun c_59 => ?_) (fun c_59 => ?_)
      · refine lv_iload hx hb dL_part_66 (lv_at hl 1 rfl) ?_
        refine lv_iload hx hb dL_part_68 (lv_at hl 2 rfl) ?_
        refine lv_icmp_ge (tgt := 78) hx hb dL_part_70 (by decide) (fun c_70 => ?_) (fun c_70 => ?_)
        · refine lv_aload_n hx hb dL_part_78 rfl (lv_at hl 6 rfl) ?_
          refine lv_iload hx hb dL_part_79 (lv_at hl 3 rfl) ?_
          refine lv_iconst (v := 2) hx hb dL_part_81 (by decide) ?_
          refine lv_iadd hx hb dL_part_82 ?_
          refine lv_topE (z := nI ((8 * i) + 2)) (nI_add (8 * i) 2) ?_
          refine ldI (f := w 1) hx hb hK hP 1 (ag_1 (B := [])) ((8 * i) + 2) rfl (by omega) (by decide) dL_part_83 ?_
          refine lv_iload hx hb dL_part_84 (lv_at hl 0 rfl) ?_
          refine lv_iload hx hb dL_part_86 (lv_at hl 2 rfl) ?_
          refine lv_imul hx hb dL_part_88 ?_
          refine lv_isub hx hb dL_part_89 ?_
          refine lv_iload hx hb dL_part_90 (lv_at hl 0 rfl) ?_
          refine lv_iadd hx hb dL_part_92 ?_
          exact W.iret (v := ((w 1 ((8 * i) + 2) - ((w 1 ((8 * i) + 2) / w 1 ((8 * i) + 4)) * w 1 ((8 * i) + 4))) + (w 1 ((8 * i) + 2) / w 1 ((8 * i) + 4)))) hx hb hr (fun t ht hW => ⟨congrArg (fun z => Outcome.returned (some (.int z))) (by unfold gPart; exact ((if_neg c_45).trans ((if_neg c_52).trans ((if_pos c_59).trans ((if_pos c_70))))).symm), ht⟩) t_nil dL_part_93
        · refine lv_iload hx hb dL_part_73 (lv_at hl 0 rfl) ?_
          refine lv_goto (tgt := 93) hx hb dL_part_75 (by decide) ?_
          exact W.iret (v := (w 1 ((8 * i) + 2) / w 1 ((8 * i) + 4))) hx hb hr (fun t ht hW => ⟨congrArg (fun z => Outcome.returned (some (.int z))) (by unfold gPart; exact ((if_neg c_45).trans ((if_neg c_52).trans ((if_pos c_59).trans ((if_neg c_70))))).symm), ht⟩) t_nil dL_part_93
      · refine lv_iconst (v := 0) hx hb dL_part_62 (by decide) ?_
        refine lv_goto (tgt := 93) hx hb dL_part_63 (by decide) ?_
        exact W.iret (v := 0) hx hb hr (fun t ht hW => ⟨congrArg (fun z => Outcome.returned (some (.int z))) (by unfold gPart; exact ((if_neg c_45).trans ((if_neg c_52).trans ((if_neg c_59)))).symm), ht⟩) t_nil dL_part_93
set_option maxHeartbeats 4000000 in
set_option maxRecDepth 100000 in
theorem c_L_left (l : Launch) (G : va_G) (y : Nat → ClassId) (r : Nat → Nat) (w : MS) (i : Nat) (hi : i < 8) (t : Nat) (ht : w 0 0 = nI t) (ht47 : t ≤ 47) (hne : ¬ w 1 ((8 * i) + 4) = 0) : Met l yL_left wsL_left ({ frames := 1, cells := 0, slots := 0, locals := 27 }) (rP G y [.int (nI i), .ref (r 1), .ref (r 0)] (lwA y r w)) (QcV (.int (gLeft w i t))) 0 0 (fun _ => False) := by
  refine Met.ofW (cc := cL_left) (maxL := 5) (ret := (some .int)) (by decide) rfl ?_
  intro p e s m args below meth c s₁ B hml hv
  obtain ⟨rfl, hP, hK⟩ := hv
  have hx := B.exec
  have hb := B.bytes
  have hr := B.returns
  have hts := atoms_spec (ws := wsL_left) B.pre
  have hown : s.vm.findClass RL = some m.cls := findClass_of_methodNamed B.named
  have hlocks := B.notSynchronized
  have hl := lv_entry ([.int (nI i), .ref (r 1), .ref (r 0)]) (n := 5) (Nat.le_of_ble_eq_true rfl)
  rw [lg_entry_eq]
  generalize (lg_sl ([.int (nI i), .ref (r 1), .ref (r 0)]) ++ List.replicate (5 - (lg_sl ([.int (nI i), .ref (r 1), .ref (r 0)])).length) Slot.unset).toArray = ls at hl ⊢
  have hl : lv_has ls 5 [(0, .int (nI i)), (1, .ref (r 1)), (2, .ref (r 0))] := hl
  refine lv_iconst (v := 0) hx hb dL_left_0 (by decide) ?_
  refine lv_istore_n (lv' := [(3, .int 0), (0, .int (nI i)), (1, .ref (r 1)), (2, .ref (r 0))]) hx hb dL_left_1 rfl hl (by decide) rfl (fun ls hl => ?_)
  refine lv_aload_n hx hb dL_left_2 rfl (lv_at hl 3 rfl) ?_
  refine lv_iconst (v := 0) hx hb dL_left_3 (by decide) ?_
  refine ldI (f := w 0) hx hb hK hP 0 (ag_0 (B := [])) 0 rfl (by decide) (by decide) dL_left_4 ?_
  refine lv_topE (z := nI t) (ht) ?_
  refine lv_istore (lv' := [(4, .int (nI t)), (3, .int 0), (0, .int (nI i)), (1, .ref (r 1)), (2, .ref (r 0))]) hx hb dL_left_5 hl (by decide) rfl (fun ls hl => ?_)
  refine loopW (LV := fun k => [(0, .int (nI i)), (1, .ref (r 1)), (2, .ref (r 0)), (3, .int (S32 (gLp w i t) k)), (4, .int (nI (t + k)))]) 6 (lv_sub hl [2, 3, 4, 1, 0] rfl) (fun k ls hk_k hl ih_k => ?_) (fun ls hl => ?_)
  · have hl : lv_has ls 5 [(0, .int (nI i)), (1, .ref (r 1)), (2, .ref (r 0)), (3, .int (S32 (gLp w i t) k)), (4, .int (nI (t + k)))] := hl
    refine lv_iload hx hb dL_left_7 (lv_at hl 4 rfl) ?_
    refine lv_aload_n hx hb dL_left_9 rfl (lv_at hl 2 rfl) ?_
    refine lv_iconst (v := 0) hx hb dL_left_10 (by decide) ?_
    refine ldI (f := w 0) hx hb hK hP 0 (ag_0 (B := [])) 0 rfl (by decide) (by decide) dL_left_11 ?_
    refine lv_topE (z := nI t) (ht) ?_
    refine lv_bipush (v := 6) hx hb dL_left_12 (by decide) ?_
    refine lv_iadd hx hb dL_left_14 ?_
    refine lv_topE (z := nI (t + 6)) (nI_add t 6) ?_
    refine lv_icmp_ge (tgt := 35) hx hb dL_left_15 (by decide) (fun c_15 => absurd c_15 (nI_ge (show t + k < t + 6 by omega) (by omega))) (fun c_15 => ?_)
    refine lv_iload_n hx hb dL_left_18 rfl (lv_at hl 3 rfl) ?_
    refine lv_iload_n hx hb dL_left_19 rfl (lv_at hl 0 rfl) ?_
    refine lv_iload hx hb dL_left_20 (lv_at hl 4 rfl) ?_
    refine lv_aload_n hx hb dL_left_22 rfl (lv_at hl 1 rfl) ?_
    refine lv_aload_n hx hb dL_left_23 rfl (lv_at hl 2 rfl) ?_
    refine caR (r := .int (gPart w i (t + k))) (va_runS (As := [.int (nI i), .int (nI (t + k)), .ref (r 1), .ref (r 0)]) (rest := [.int (S32 (gLp w i t) k)]) ⟨hx, hb, hml, hown, hts⟩ (c_L_part l G y r w i hi (t + k) hne) (va_cwS 4 hts gL_left_L_part rfl rfl rfl (by decide +kernel) ⟨Nat.le_of_ble_eq_true rfl, Nat.le_of_ble_eq_true rfl⟩) ⟨rP_bl, fun U hU hW => ⟨rfl, by rw [hU]; exact hP, Kb.moved hW hK⟩⟩ rfl rfl hl.1 rfl (lv_room (Nat.le_of_ble_eq_true rfl)) dL_left_24 ⟨Nat.le_of_ble_eq_true rfl, Nat.le_of_ble_eq_true rfl⟩) ?_
    refine lv_iadd hx hb dL_left_27 ?_
    refine lv_topE (z := S32 (gLp w i t) (k + 1)) (rfl) ?_
    refine lv_istore_n (lv' := [(3, .int (S32 (gLp w i t) (k + 1))), (0, .int (nI i)), (1, .ref (r 1)), (2, .ref (r 0)), (4, .int (nI (t + k)))]) hx hb dL_left_28 rfl hl (by decide) rfl (fun ls hl => ?_)
    refine lv_iinc (v := (nI ((t + k) + 1))) (lv' := [(4, .int (nI ((t + k) + 1))), (3, .int (S32 (gLp w i t) (k + 1))), (0, .int (nI i)), (1, .ref (r 1)), (2, .ref (r 0))]) hx hb dL_left_29 hl (k := 4) rfl iinc1 (by decide) rfl (fun ls hl => ?_)
    refine lv_goto (tgt := 7) hx hb dL_left_32 (by decide) ?_
    exact ih_k ls (lv_sub hl [2, 3, 4, 1, 0] rfl)
  · have hl : lv_has ls 5 [(0, .int (nI i)), (1, .ref (r 1)), (2, .ref (r 0)), (3, .int (S32 (gLp w i t) 6)), (4, .int (nI (t + 6)))] := hl
    refine lv_iload hx hb dL_left_7 (lv_at hl 4 rfl) ?_
    refine lv_aload_n hx hb dL_left_9 rfl (lv_at hl 2 rfl) ?_
    refine lv_iconst (v := 0) hx hb dL_left_10 (by decide) ?_
    refine ldI (f := w 0) hx hb hK hP 0 (ag_0 (B := [])) 0 rfl (by decide) (by decide) dL_left_11 ?_
    refine lv_topE (z := nI t) (ht) ?_
    refine lv_bipush (v := 6) hx hb dL_left_12 (by decide) ?_
    refine lv_iadd hx hb dL_left_14 ?_
    refine lv_topE (z := nI (t + 6)) (nI_add t 6) ?_
    refine lv_icmp_ge (tgt := 35) hx hb dL_left_15 (by decide) (fun c_15 => ?_) (fun c_15 => absurd (nI_le (Nat.le_refl (t + 6)) (by omega)) c_15)
    refine lv_iload_n hx hb dL_left_35 rfl (lv_at hl 3 rfl) ?_
    exact W.iret (v := S32 (gLp w i t) 6) hx hb hr (fun t ht hW => ⟨congrArg (fun z => Outcome.returned (some (.int z))) (rfl), ht⟩) t_nil dL_left_36
set_option maxHeartbeats 4000000 in
set_option maxRecDepth 100000 in
theorem c_L_bears (l : Launch) (G : va_G) (y : Nat → ClassId) (r : Nat → Nat) (w : MS) (i : Nat) (hi : i < 8) (x : Int32) (t : Nat) (ht : w 0 0 = nI t) (ht47 : t ≤ 47) (hne : ¬ w 1 ((8 * i) + 4) = 0) (bo : Nat) (hbo : w 1 ((8 * i) + 5) = nI bo) (hbo47 : bo ≤ 47) : Met l yL_bears wsL_bears ({ frames := 2, cells := 0, slots := 0, locals := 51 }) (rP G y [.int (nI i), .int x, .ref (r 1), .ref (r 2), .ref (r 0)] (lwA y r w)) (QcV (.int (gBe w i t bo x))) 0 0 (fun _ => False) := by
  refine Met.ofW (cc := cL_bears) (maxL := 9) (ret := (some .int)) (by decide) rfl ?_
  intro p e s m args below meth c s₁ B hml hv
  obtain ⟨rfl, hP, hK⟩ := hv
  have hx := B.exec
  have hb := B.bytes
  have hr := B.returns
  have hts := atoms_spec (ws := wsL_bears) B.pre
  have hown : s.vm.findClass RL = some m.cls := findClass_of_methodNamed B.named
  have hlocks := B.notSynchronized
  have hl := lv_entry ([.int (nI i), .int x, .ref (r 1), .ref (r 2), .ref (r 0)]) (n := 9) (Nat.le_of_ble_eq_true rfl)
  rw [lg_entry_eq]
  generalize (lg_sl ([.int (nI i), .int x, .ref (r 1), .ref (r 2), .ref (r 0)]) ++ List.replicate (9 - (lg_sl ([.int (nI i), .int x, .ref (r 1), .ref (r 2), .ref (r 0)])).length) Slot.unset).toArray = ls at hl ⊢
  have hl : lv_has ls 9 [(0, .int (nI i)), (1, .int x), (2, .ref (r 1)), (3, .ref (r 2)), (4, .ref (r 0))] := hl
  refine lv_iload_n hx hb dL_bears_0 rfl (lv_at hl 0 rfl) ?_
  refine lv_aload_n hx hb dL_bears_1 rfl (lv_at hl 2 rfl) ?_
  refine lv_aload hx hb dL_bears_2 (lv_at hl 4 rfl) ?_
  refine caR (r := .int (gLeft w i t)) (va_runS (As := [.int (nI i), .ref (r 1), .ref (r 0)]) (rest := []) ⟨hx, hb, hml, hown, hts⟩ (c_L_left l G y r w i hi t ht ht47 hne) (va_cwS 3 hts gL_bears_L_left rfl rfl rfl (by decide +kernel) ⟨Nat.le_of_ble_eq_true rfl, Nat.le_of_ble_eq_true rfl⟩) ⟨rP_bl, fun U hU hW => ⟨rfl, by rw [hU]; exact hP, Kb.moved hW hK⟩⟩ rfl rfl hl.1 rfl (lv_room (Nat.le_of_ble_eq_true rfl)) dL_bears_4 ⟨Nat.le_of_ble_eq_true rfl, Nat.le_of_ble_eq_true rfl⟩) ?_
  refine lv_istore (lv' := [(5, .int (gLeft w i t)), (0, .int (nI i)), (1, .int x), (2, .ref (r 1)), (3, .ref (r 2)), (4, .ref (r 0))]) hx hb dL_bears_7 hl (by decide) rfl (fun ls hl => ?_)
  refine lv_lconst (v := 0) hx hb dL_bears_9 (by decide) ?_
  refine lv_lstore (lv' := [(6, .long 0), (5, .int (gLeft w i t)), (0, .int (nI i)), (1, .int x), (2, .ref (r 1)), (3, .ref (r 2)), (4, .ref (r 0))]) hx hb dL_bears_10 hl (by decide) rfl (fun ls hl => ?_)
  refine lv_iconst (v := 0) hx hb dL_bears_12 (by decide) ?_
  refine lv_istore (lv' := [(8, .int 0), (6, .long 0), (5, .int (gLeft w i t)), (0, .int (nI i)), (1, .int x), (2, .ref (r 1)), (3, .ref (r 2)), (4, .ref (r 0))]) hx hb dL_bears_13 hl (by decide) rfl (fun ls hl => ?_)
  by_cases hx1 : x = 1
  · refine loopW (LV := fun k => [(0, .int (nI i)), (1, .int x), (2, .ref (r 1)), (3, .ref (r 2)), (4, .ref (r 0)), (5, .int (gLeft w i t)), (6, .long (S64 (gFn w i bo) k)), (8, .int (nI k))]) 6 (lv_sub hl [3, 4, 5, 6, 7, 2, 1, 0] rfl) (fun k ls hk_k hl ih_k => ?_) (fun ls hl => ?_)
    · have hl : lv_has ls 9 [(0, .int (nI i)), (1, .int x), (2, .ref (r 1)), (3, .ref (r 2)), (4, .ref (r 0)), (5, .int (gLeft w i t)), (6, .long (S64 (gFn w i bo) k)), (8, .int (nI k))] := hl
      refine lv_iload hx hb dL_bears_15 (lv_at hl 7 rfl) ?_
      refine lv_bipush (v := 6) hx hb dL_bears_17 (by decide) ?_
      refine lv_icmp_ge (tgt := 68) hx hb dL_bears_19 (by decide) (fun c_19 => absurd c_19 (nI_ge hk_k (by decide))) (fun c_19 => ?_)
      refine lv_iload_n hx hb dL_bears_22 rfl (lv_at hl 1 rfl) ?_
      refine lv_iconst (v := 1) hx hb dL_bears_23 (by decide) ?_
      refine lv_icmp_ne (tgt := 68) hx hb dL_bears_24 (by decide) (fun c_24 => absurd hx1 c_24) (fun c_24 => ?_)
      refine lv_lload hx hb dL_bears_27 (lv_at hl 6 rfl) ?_
      refine lv_iload_n hx hb dL_bears_29 rfl (lv_at hl 0 rfl) ?_
      refine lv_aload_n hx hb dL_bears_30 rfl (lv_at hl 2 rfl) ?_
      refine lv_bipush (v := 8) hx hb dL_bears_31 (by decide) ?_
      refine lv_iload_n hx hb dL_bears_33 rfl (lv_at hl 0 rfl) ?_
      refine lv_imul hx hb dL_bears_34 ?_
      refine lv_topE (z := nI (8 * i)) (m8 (a := 8) (b := i)) ?_
      refine lv_iconst (v := 5) hx hb dL_bears_35 (by decide) ?_
      refine lv_iadd hx hb dL_bears_36 ?_
      refine lv_topE (z := nI ((8 * i) + 5)) (nI_add (8 * i) 5) ?_
      refine ldI (f := w 1) hx hb hK hP 1 (ag_1 (B := [])) ((8 * i) + 5) rfl (by omega) (by decide) dL_bears_37 ?_
      refine lv_topE (z := nI bo) (hbo) ?_
      refine lv_iload hx hb dL_bears_38 (lv_at hl 7 rfl) ?_
      refine lv_iadd hx hb dL_bears_40 ?_
      refine lv_topE (z := nI (bo + k)) (nI_add bo k) ?_
      refine lv_aload_n hx hb dL_bears_41 rfl (lv_at hl 2 rfl) ?_
      refine lv_aload hx hb dL_bears_42 (lv_at hl 4 rfl) ?_
      refine caR (r := .int (gPart w i (bo + k))) (va_runS (As := [.int (nI i), .int (nI (bo + k)), .ref (r 1), .ref (r 0)]) (rest := [.long (S64 (gFn w i bo) k)]) ⟨hx, hb, hml, hown, hts⟩ (c_L_part l G y r w i hi (bo + k) hne) (va_cwS 4 hts gL_bears_L_part rfl rfl rfl (by decide +kernel) ⟨Nat.le_of_ble_eq_true rfl, Nat.le_of_ble_eq_true rfl⟩) ⟨rP_bl, fun U hU hW => ⟨rfl, by rw [hU]; exact hP, Kb.moved hW hK⟩⟩ rfl rfl hl.1 rfl (lv_room (Nat.le_of_ble_eq_true rfl)) dL_bears_44 ⟨Nat.le_of_ble_eq_true rfl, Nat.le_of_ble_eq_true rfl⟩) ?_
      refine lv_i2l hx hb dL_bears_47 rfl ?_
      refine lv_aload_n hx hb dL_bears_48 rfl (lv_at hl 3 rfl) ?_
      refine lv_bipush (v := 6) hx hb dL_bears_49 (by decide) ?_
      refine lv_iload_n hx hb dL_bears_51 rfl (lv_at hl 0 rfl) ?_
      refine lv_imul hx hb dL_bears_52 ?_
      refine lv_topE (z := nI (6 * i)) (m8 (a := 6) (b := i)) ?_
      refine lv_iload hx hb dL_bears_53 (lv_at hl 7 rfl) ?_
      refine lv_iadd hx hb dL_bears_55 ?_
      refine lv_topE (z := nI ((6 * i) + k)) (nI_add (6 * i) k) ?_
      refine ldI (f := w 2) hx hb hK hP 2 (ag_2 (B := [])) ((6 * i) + k) rfl (by omega) (by decide) dL_bears_56 ?_
      refine lv_i2l hx hb dL_bears_57 rfl ?_
      refine lv_lmul hx hb dL_bears_58 ?_
      refine lv_ladd hx hb dL_bears_59 ?_
      refine lv_topEl (z := S64 (gFn w i bo) (k + 1)) (rfl) ?_
      refine lv_lstore (lv' := [(6, .long (S64 (gFn w i bo) (k + 1))), (0, .int (nI i)), (1, .int x), (2, .ref (r 1)), (3, .ref (r 2)), (4, .ref (r 0)), (5, .int (gLeft w i t)), (8, .int (nI k))]) hx hb dL_bears_60 hl (by decide) rfl (fun ls hl => ?_)
      refine lv_iinc (v := (nI (k + 1))) (lv' := [(8, .int (nI (k + 1))), (6, .long (S64 (gFn w i bo) (k + 1))), (0, .int (nI i)), (1, .int x), (2, .ref (r 1)), (3, .ref (r 2)), (4, .ref (r 0)), (5, .int (gLeft w i t))]) hx hb dL_bears_62 hl (k := 7) rfl iinc1 (by decide) rfl (fun ls hl => ?_)
      refine lv_goto (tgt := 15) hx hb dL_bears_65 (by decide) ?_
      exact ih_k ls (lv_sub hl [2, 3, 4, 5, 6, 7, 1, 0] rfl)
    · have hl : lv_has ls 9 [(0, .int (nI i)), (1, .int x), (2, .ref (r 1)), (3, .ref (r 2)), (4, .ref (r 0)), (5, .int (gLeft w i t)), (6, .long (S64 (gFn w i bo) 6)), (8, .int (nI 6))] := hl
      refine lv_iload hx hb dL_bears_15 (lv_at hl 7 rfl) ?_
      refine lv_bipush (v := 6) hx hb dL_bears_17 (by decide) ?_
      refine lv_icmp_ge (tgt := 68) hx hb dL_bears_19 (by decide) (fun c_19 => ?_) (fun c_19 => absurd (nI_le (Nat.le_refl 6) (by decide)) c_19)
      refine lv_iload_n hx hb dL_bears_68 rfl (lv_at hl 1 rfl) ?_
      refine lv_if_ne (tgt := 88) hx hb dL_bears_69 (by decide) (fun c_69 => ?_) (fun c_69 => absurd (hx1.symm.trans c_69) (by decide))
      refine lv_iload_n hx hb dL_bears_88 rfl (lv_at hl 1 rfl) ?_
      refine lv_iconst (v := 1) hx hb dL_bears_89 (by decide) ?_
      refine lv_icmp_ne (tgt := 98) hx hb dL_bears_90 (by decide) (fun c_90 => absurd hx1 c_90) (fun c_90 => ?_)
      refine lv_lload hx hb dL_bears_93 (lv_at hl 6 rfl) ?_
      refine lv_goto (tgt := 128) hx hb dL_bears_95 (by decide) ?_
      refine lv_lstore (lv' := [(6, .long (S64 (gFn w i bo) 6)), (0, .int (nI i)), (1, .int x), (2, .ref (r 1)), (3, .ref (r 2)), (4, .ref (r 0)), (5, .int (gLeft w i t)), (8, .int (nI 6))]) hx hb dL_bears_128 hl (by decide) rfl (fun ls hl => ?_)
      refine lv_lload hx hb dL_bears_130 (lv_at hl 0 rfl) ?_
      refine lv_ldc2 (v := 120000) hx hb hown (hts (.constantLong RL 36 120000) (by decide +kernel)) dL_bears_132 ?_
      refine lv_ldiv hx hb dL_bears_135 (by decide) ?_
      refine lv_l2i hx hb dL_bears_136 rfl ?_
      have ev : gBe w i t bo x = (S64 (gFn w i bo) 6 / 120000).toInt32 := by unfold gBe gSum; exact congrArg d12 ((if_neg c_69).trans ((if_pos hx1)))
      exact W.iret (v := (S64 (gFn w i bo) 6 / 120000).toInt32) hx hb hr (fun t ht hW => ⟨congrArg (fun z => Outcome.returned (some (.int z))) (ev.symm), ht⟩) t_nil dL_bears_137
  · refine lv_iload hx hb dL_bears_15 (lv_at hl 0 rfl) ?_
    refine lv_bipush (v := 6) hx hb dL_bears_17 (by decide) ?_
    refine lv_icmp_ge (tgt := 68) hx hb dL_bears_19 (by decide) (fun c_19 => absurd c_19 (by decide)) (fun c_19 => ?_)
    refine lv_iload_n hx hb dL_bears_22 rfl (lv_at hl 4 rfl) ?_
    refine lv_iconst (v := 1) hx hb dL_bears_23 (by decide) ?_
    refine lv_icmp_ne (tgt := 68) hx hb dL_bears_24 (by decide) (fun c_24 => ?_) (fun c_24 => absurd c_24 hx1)
    refine lv_iload_n hx hb dL_bears_68 rfl (lv_at hl 4 rfl) ?_
    refine lv_if_ne (tgt := 88) hx hb dL_bears_69 (by decide) (fun c_69 => ?_) (fun c_69 => ?_)
    · refine lv_iload_n hx hb dL_bears_88 rfl (lv_at hl 4 rfl) ?_
      refine lv_iconst (v := 1) hx hb dL_bears_89 (by decide) ?_
      refine lv_icmp_ne (tgt := 98) hx hb dL_bears_90 (by decide) (fun c_90 => ?_) (fun c_90 => absurd c_90 hx1)
      refine lv_aload_n hx hb dL_bears_98 rfl (lv_at hl 5 rfl) ?_
      refine lv_bipush (v := 8) hx hb dL_bears_99 (by decide) ?_
      refine lv_iload_n hx hb dL_bears_101 rfl (lv_at hl 3 rfl) ?_
      refine lv_imul hx hb dL_bears_102 ?_
      refine lv_topE (z := nI (8 * i)) (m8 (a := 8) (b := i)) ?_
      refine lv_bipush (v := 6) hx hb dL_bears_103 (by decide) ?_
      refine lv_iadd hx hb dL_bears_105 ?_
      refine lv_topE (z := nI ((8 * i) + 6)) (nI_add (8 * i) 6) ?_
      refine ldI (f := w 1) hx hb hK hP 1 (ag_1 (B := [])) ((8 * i) + 6) rfl (by omega) (by decide) dL_bears_106 ?_
      refine lv_if_ge (tgt := 114) hx hb dL_bears_107 (by decide) (fun c_107 => ?_) (fun c_107 => ?_)
      · refine lv_iload hx hb dL_bears_114 (lv_at hl 2 rfl) ?_
        refine lv_i2l hx hb dL_bears_116 rfl ?_
        refine lv_aload_n hx hb dL_bears_117 rfl (lv_at hl 5 rfl) ?_
        refine lv_bipush (v := 8) hx hb dL_bears_118 (by decide) ?_
        refine lv_iload_n hx hb dL_bears_120 rfl (lv_at hl 3 rfl) ?_
        refine lv_imul hx hb dL_bears_121 ?_
        refine lv_topE (z := nI (8 * i)) (m8 (a := 8) (b := i)) ?_
        refine lv_bipush (v := 6) hx hb dL_bears_122 (by decide) ?_
        refine lv_iadd hx hb dL_bears_124 ?_
        refine lv_topE (z := nI ((8 * i) + 6)) (nI_add (8 * i) 6) ?_
        refine ldI (f := w 1) hx hb hK hP 1 (ag_1 (B := [])) ((8 * i) + 6) rfl (by omega) (by decide) dL_bears_125 ?_
        refine lv_i2l hx hb dL_bears_126 rfl ?_
        refine lv_lmul hx hb dL_bears_127 ?_
        refine lv_lstore (lv' := [(6, .long ((gLeft w i t).toInt64 * (w 1 ((8 * i) + 6)).toInt64)), (8, .int 0), (5, .int (gLeft w i t)), (0, .int (nI i)), (1, .int x), (2, .ref (r 1)), (3, .ref (r 2)), (4, .ref (r 0))]) hx hb dL_bears_128 hl (by decide) rfl (fun ls hl => ?_)
        refine lv_lload hx hb dL_bears_130 (lv_at hl 0 rfl) ?_
        refine lv_ldc2 (v := 120000) hx hb hown (hts (.constantLong RL 36 120000) (by decide +kernel)) dL_bears_132 ?_
        refine lv_ldiv hx hb dL_bears_135 (by decide) ?_
        refine lv_l2i hx hb dL_bears_136 rfl ?_
        have ev : gBe w i t bo x = (((gLeft w i t).toInt64 * (w 1 ((8 * i) + 6)).toInt64) / 120000).toInt32 := by unfold gBe gSum; exact congrArg d12 ((if_neg c_69).trans ((if_neg c_90).trans ((if_pos c_107))))
        exact W.iret (v := (((gLeft w i t).toInt64 * (w 1 ((8 * i) + 6)).toInt64) / 120000).toInt32) hx hb hr (fun t ht hW => ⟨congrArg (fun z => Outcome.returned (some (.int z))) (ev.symm), ht⟩) t_nil dL_bears_137
      · refine lv_lconst (v := 0) hx hb dL_bears_110 (by decide) ?_
        refine lv_goto (tgt := 128) hx hb dL_bears_111 (by decide) ?_
        refine lv_lstore (lv' := [(6, .long (0 : Int64)), (8, .int 0), (5, .int (gLeft w i t)), (0, .int (nI i)), (1, .int x), (2, .ref (r 1)), (3, .ref (r 2)), (4, .ref (r 0))]) hx hb dL_bears_128 hl (by decide) rfl (fun ls hl => ?_)
        refine lv_lload hx hb dL_bears_130 (lv_at hl 0 rfl) ?_
        refine lv_ldc2 (v := 120000) hx hb hown (hts (.constantLong RL 36 120000) (by decide +kernel)) dL_bears_132 ?_
        refine lv_ldiv hx hb dL_bears_135 (by decide) ?_
        refine lv_l2i hx hb dL_bears_136 rfl ?_
        have ev : gBe w i t bo x = ((0 : Int64) / 120000).toInt32 := by unfold gBe gSum; exact congrArg d12 ((if_neg c_69).trans ((if_neg c_90).trans ((if_neg c_107))))
        exact W.iret (v := ((0 : Int64) / 120000).toInt32) hx hb hr (fun t ht hW => ⟨congrArg (fun z => Outcome.returned (some (.int z))) (ev.symm), ht⟩) t_nil dL_bears_137
    · have c_69 : x = 0 := c_69
      refine lv_iload hx hb dL_bears_72 (lv_at hl 2 rfl) ?_
      refine lv_i2l hx hb dL_bears_74 rfl ?_
      refine lv_aload_n hx hb dL_bears_75 rfl (lv_at hl 5 rfl) ?_
      refine lv_bipush (v := 8) hx hb dL_bears_76 (by decide) ?_
      refine lv_iload_n hx hb dL_bears_78 rfl (lv_at hl 3 rfl) ?_
      refine lv_imul hx hb dL_bears_79 ?_
      refine lv_topE (z := nI (8 * i)) (m8 (a := 8) (b := i)) ?_
      refine lv_iconst (v := 3) hx hb dL_bears_80 (by decide) ?_
      refine lv_iadd hx hb dL_bears_81 ?_
      refine lv_topE (z := nI ((8 * i) + 3)) (nI_add (8 * i) 3) ?_
      refine ldI (f := w 1) hx hb hK hP 1 (ag_1 (B := [])) ((8 * i) + 3) rfl (by omega) (by decide) dL_bears_82 ?_
      refine lv_i2l hx hb dL_bears_83 rfl ?_
      refine lv_lmul hx hb dL_bears_84 ?_
      refine lv_goto (tgt := 128) hx hb dL_bears_85 (by decide) ?_
      refine lv_lstore (lv' := [(6, .long ((gLeft w i t).toInt64 * (w 1 ((8 * i) + 3)).toInt64)), (8, .int 0), (5, .int (gLeft w i t)), (0, .int (nI i)), (1, .int x), (2, .ref (r 1)), (3, .ref (r 2)), (4, .ref (r 0))]) hx hb dL_bears_128 hl (by decide) rfl (fun ls hl => ?_)
      refine lv_lload hx hb dL_bears_130 (lv_at hl 0 rfl) ?_
      refine lv_ldc2 (v := 120000) hx hb hown (hts (.constantLong RL 36 120000) (by decide +kernel)) dL_bears_132 ?_
      refine lv_ldiv hx hb dL_bears_135 (by decide) ?_
      refine lv_l2i hx hb dL_bears_136 rfl ?_
      have ev : gBe w i t bo x = (((gLeft w i t).toInt64 * (w 1 ((8 * i) + 3)).toInt64) / 120000).toInt32 := by unfold gBe gSum; exact congrArg d12 ((if_pos c_69))
      exact W.iret (v := (((gLeft w i t).toInt64 * (w 1 ((8 * i) + 3)).toInt64) / 120000).toInt32) hx hb hr (fun t ht hW => ⟨congrArg (fun z => Outcome.returned (some (.int z))) (ev.symm), ht⟩) t_nil dL_bears_137
set_option maxHeartbeats 4000000 in
set_option maxRecDepth 100000 in
theorem c_L_rate (l : Launch) (G : va_G) (y : Nat → ClassId) (r : Nat → Nat) (w : MS)  : Met l yL_rate wsL_rate ({ frames := 0, cells := 0, slots := 0, locals := 0 }) (rP G y [.ref (r 3)] (lwA y r w)) (QcV (.int (gRate w))) 0 0 (fun _ => False) := by
  refine Met.ofW (cc := cL_rate) (maxL := 6) (ret := (some .int)) (by decide) rfl ?_
  intro p e s m args below meth c s₁ B hml hv
  obtain ⟨rfl, hP, hK⟩ := hv
  have hx := B.exec
  have hb := B.bytes
  have hr := B.returns
  have hts := atoms_spec (ws := wsL_rate) B.pre
  have hown : s.vm.findClass RL = some m.cls := findClass_of_methodNamed B.named
  have hlocks := B.notSynchronized
  have hl := lv_entry ([.ref (r 3)]) (n := 6) (Nat.le_of_ble_eq_true rfl)
  rw [lg_entry_eq]
  generalize (lg_sl ([.ref (r 3)]) ++ List.replicate (6 - (lg_sl ([.ref (r 3)])).length) Slot.unset).toArray = ls at hl ⊢
  have hl : lv_has ls 6 [(0, .ref (r 3))] := hl
  refine lv_lconst (v := 0) hx hb dL_rate_0 (by decide) ?_
  refine lv_lstore_n (lv' := [(1, .long 0), (0, .ref (r 3))]) hx hb dL_rate_1 rfl hl (by decide) rfl (fun ls hl => ?_)
  refine lv_lconst (v := 0) hx hb dL_rate_2 (by decide) ?_
  refine lv_lstore_n (lv' := [(3, .long 0), (1, .long 0), (0, .ref (r 3))]) hx hb dL_rate_3 rfl hl (by decide) rfl (fun ls hl => ?_)
  refine lv_iconst (v := 0) hx hb dL_rate_4 (by decide) ?_
  refine lv_istore (lv' := [(5, .int 0), (3, .long 0), (1, .long 0), (0, .ref (r 3))]) hx hb dL_rate_5 hl (by decide) rfl (fun ls hl => ?_)
  refine loopW (LV := fun k => [(0, .ref (r 3)), (1, .long (S64 (gWt w) k)), (3, .long (S64 (gAl w) k)), (5, .int (nI k))]) 6 (lv_sub hl [3, 2, 1, 0] rfl) (fun k ls hk_k hl ih_k => ?_) (fun ls hl => ?_)
  · have hl : lv_has ls 6 [(0, .ref (r 3)), (1, .long (S64 (gWt w) k)), (3, .long (S64 (gAl w) k)), (5, .int (nI k))] := hl
    refine lv_iload hx hb dL_rate_7 (lv_at hl 3 rfl) ?_
    refine lv_bipush (v := 6) hx hb dL_rate_9 (by decide) ?_
    refine lv_icmp_ge (tgt := 45) hx hb dL_rate_11 (by decide) (fun c_11 => absurd c_11 (nI_ge hk_k (by decide))) (fun c_11 => ?_)
    refine lv_lload_n hx hb dL_rate_14 rfl (lv_at hl 1 rfl) ?_
    refine lv_aload_n hx hb dL_rate_15 rfl (lv_at hl 0 rfl) ?_
    refine lv_bipush (v := 6) hx hb dL_rate_16 (by decide) ?_
    refine lv_iload hx hb dL_rate_18 (lv_at hl 3 rfl) ?_
    refine lv_iadd hx hb dL_rate_20 ?_
    refine lv_topE (z := nI (6 + k)) (nI_add 6 k) ?_
    refine ldI (f := w 3) hx hb hK hP 3 (ag_3 (B := [])) (6 + k) rfl (by omega) (by decide) dL_rate_21 ?_
    refine lv_i2l hx hb dL_rate_22 rfl ?_
    refine lv_aload_n hx hb dL_rate_23 rfl (lv_at hl 0 rfl) ?_
    refine lv_iload hx hb dL_rate_24 (lv_at hl 3 rfl) ?_
    refine ldI (f := w 3) hx hb hK hP 3 (ag_3 (B := [])) k rfl (by omega) (by decide) dL_rate_26 ?_
    refine lv_i2l hx hb dL_rate_27 rfl ?_
    refine lv_lmul hx hb dL_rate_28 ?_
    refine lv_ladd hx hb dL_rate_29 ?_
    refine lv_topEl (z := S64 (gWt w) (k + 1)) (rfl) ?_
    refine lv_lstore_n (lv' := [(1, .long (S64 (gWt w) (k + 1))), (0, .ref (r 3)), (3, .long (S64 (gAl w) k)), (5, .int (nI k))]) hx hb dL_rate_30 rfl hl (by decide) rfl (fun ls hl => ?_)
    refine lv_lload_n hx hb dL_rate_31 rfl (lv_at hl 2 rfl) ?_
    refine lv_aload_n hx hb dL_rate_32 rfl (lv_at hl 1 rfl) ?_
    refine lv_iload hx hb dL_rate_33 (lv_at hl 3 rfl) ?_
    refine ldI (f := w 3) hx hb hK hP 3 (ag_3 (B := [])) k rfl (by omega) (by decide) dL_rate_35 ?_
    refine lv_i2l hx hb dL_rate_36 rfl ?_
    refine lv_ladd hx hb dL_rate_37 ?_
    refine lv_topEl (z := S64 (gAl w) (k + 1)) (rfl) ?_
    refine lv_lstore_n (lv' := [(3, .long (S64 (gAl w) (k + 1))), (1, .long (S64 (gWt w) (k + 1))), (0, .ref (r 3)), (5, .int (nI k))]) hx hb dL_rate_38 rfl hl (by decide) rfl (fun ls hl => ?_)
    refine lv_iinc (v := (nI (k + 1))) (lv' := [(5, .int (nI (k + 1))), (3, .long (S64 (gAl w) (k + 1))), (1, .long (S64 (gWt w) (k + 1))), (0, .ref (r 3))]) hx hb dL_rate_39 hl (k := 3) rfl iinc1 (by decide) rfl (fun ls hl => ?_)
    refine lv_goto (tgt := 7) hx hb dL_rate_42 (by decide) ?_
    exact ih_k ls (lv_sub hl [3, 2, 1, 0] rfl)
  · have hl : lv_has ls 6 [(0, .ref (r 3)), (1, .long (S64 (gWt w) 6)), (3, .long (S64 (gAl w) 6)), (5, .int (nI 6))] := hl
    refine lv_iload hx hb dL_rate_7 (lv_at hl 3 rfl) ?_
    refine lv_bipush (v := 6) hx hb dL_rate_9 (by decide) ?_
    refine lv_icmp_ge (tgt := 45) hx hb dL_rate_11 (by decide) (fun c_11 => ?_) (fun c_11 => absurd (nI_le (Nat.le_refl 6) (by decide)) c_11)
    refine lv_lload_n hx hb dL_rate_45 rfl (lv_at hl 2 rfl) ?_
    refine lv_lconst (v := 0) hx hb dL_rate_46 (by decide) ?_
    refine W.lcmp hx hb dL_rate_47 ?_
    refine lv_if_le (tgt := 58) hx hb dL_rate_48 (by decide) (fun c_48 => ?_) (fun c_48 => ?_)
    · refine lv_iconst (v := 0) hx hb dL_rate_58 (by decide) ?_
      exact W.iret (v := 0) hx hb hr (fun t ht hW => ⟨congrArg (fun z => Outcome.returned (some (.int z))) (by unfold gRate; exact (if_pos c_48).symm), ht⟩) t_nil dL_rate_59
    · refine lv_lload_n hx hb dL_rate_51 rfl (lv_at hl 1 rfl) ?_
      refine lv_lload_n hx hb dL_rate_52 rfl (lv_at hl 2 rfl) ?_
      refine lv_ldiv hx hb dL_rate_53 (lcmp_ne (fun q => c_48 (by rw [q]; decide))) ?_
      refine lv_l2i hx hb dL_rate_54 rfl ?_
      refine lv_goto (tgt := 59) hx hb dL_rate_55 (by decide) ?_
      exact W.iret (v := (S64 (gWt w) 6 / S64 (gAl w) 6).toInt32) hx hb hr (fun t ht hW => ⟨congrArg (fun z => Outcome.returned (some (.int z))) (by unfold gRate; exact (if_neg c_48).symm), ht⟩) t_nil dL_rate_59
set_option maxHeartbeats 4000000 in
set_option maxRecDepth 100000 in
theorem c_L_lay (l : Launch) (G : va_G) (y : Nat → ClassId) (r : Nat → Nat) (w : MS) (sz : Nat) (i : Nat) (hi : i < 6) : Met l yL_lay wsL_lay ({ frames := 0, cells := 0, slots := 0, locals := 0 }) (mP G y [.int (nI i), .ref (r 3), .ref (r 0)] (lwA y r w) sz) (mQ G (fun _ : Unit => none) (fun _ => True) (fun _ => lwA y r (gLay w i)) (va_A (lwA y r w) sz)) 0 0 (va_A (lwA y r w) sz) := by
  refine Met.ofW (cc := cL_lay) (maxL := 5) (ret := none) (by decide) rfl ?_
  intro p e s m args below meth c s₁ B hml hv
  obtain ⟨rfl, hsz, hP, hK, hD0⟩ := hv
  have hx := B.exec
  have hb := B.bytes
  have hr := B.returns
  have hts := atoms_spec (ws := wsL_lay) B.pre
  have hown : s.vm.findClass RL = some m.cls := findClass_of_methodNamed B.named
  have hlocks := B.notSynchronized
  subst hsz
  have hD := hD0.self (sz := s.heap.size)
  generalize hAe : va_A (lwA y r w) s.heap.size = A at hD ⊢
  have hA : ∀ q : Nat, s.heap.size ≤ q → A q := fun q h => by rw [← hAe]; exact Or.inr h
  have hS : va_S A s.heap s.heap [] := va_S.rf
  have hP : va_P G vwCl (lwA y r w) s.heap := hP
  have hl := lv_entry ([.int (nI i), .ref (r 3), .ref (r 0)]) (n := 5) (Nat.le_of_ble_eq_true rfl)
  rw [lg_entry_eq]
  generalize (lg_sl ([.int (nI i), .ref (r 3), .ref (r 0)]) ++ List.replicate (5 - (lg_sl ([.int (nI i), .ref (r 3), .ref (r 0)])).length) Slot.unset).toArray = ls at hl ⊢
  have hl : lv_has ls 5 [(0, .int (nI i)), (1, .ref (r 3)), (2, .ref (r 0))] := hl
  refine lv_aload_n hx hb dL_lay_0 rfl (lv_at hl 2 rfl) ?_
  refine lv_iconst (v := 5) hx hb dL_lay_1 (by decide) ?_
  refine ldI (f := w 0) hx hb hK hP 0 (ag_0 (B := [])) 5 rfl (by decide) (by decide) dL_lay_2 ?_
  refine lv_i2l hx hb dL_lay_3 rfl ?_
  refine lv_aload_n hx hb dL_lay_4 rfl (lv_at hl 2 rfl) ?_
  refine lv_bipush (v := 6) hx hb dL_lay_5 (by decide) ?_
  refine ldI (f := w 0) hx hb hK hP 0 (ag_0 (B := [])) 6 rfl (by decide) (by decide) dL_lay_7 ?_
  refine lv_i2l hx hb dL_lay_8 rfl ?_
  refine lv_ladd hx hb dL_lay_9 ?_
  refine lv_aload_n hx hb dL_lay_10 rfl (lv_at hl 2 rfl) ?_
  refine lv_bipush (v := 7) hx hb dL_lay_11 (by decide) ?_
  refine ldI (f := w 0) hx hb hK hP 0 (ag_0 (B := [])) 7 rfl (by decide) (by decide) dL_lay_13 ?_
  refine lv_i2l hx hb dL_lay_14 rfl ?_
  refine lv_ladd hx hb dL_lay_15 ?_
  refine lv_lstore_n (lv' := [(3, .long (((w 0 5).toInt64 + (w 0 6).toInt64) + (w 0 7).toInt64)), (0, .int (nI i)), (1, .ref (r 3)), (2, .ref (r 0))]) hx hb dL_lay_16 rfl hl (by decide) rfl (fun ls hl => ?_)
  refine lv_aload_n hx hb dL_lay_17 rfl (lv_at hl 2 rfl) ?_
  refine lv_iload_n hx hb dL_lay_18 rfl (lv_at hl 1 rfl) ?_
  refine lv_lload_n hx hb dL_lay_19 rfl (lv_at hl 0 rfl) ?_
  refine lv_aload_n hx hb dL_lay_20 rfl (lv_at hl 3 rfl) ?_
  refine lv_iconst (v := 4) hx hb dL_lay_21 (by decide) ?_
  refine ldI (f := w 0) hx hb hK hP 0 (ag_0 (B := [])) 4 rfl (by decide) (by decide) dL_lay_22 ?_
  refine lv_i2l hx hb dL_lay_23 rfl ?_
  refine lv_lmul hx hb dL_lay_24 ?_
  refine lv_ldc2 (v := 100) hx hb hown (hts (.constantLong RL 38 100) (by decide +kernel)) dL_lay_25 ?_
  refine lv_ldiv hx hb dL_lay_28 (by decide) ?_
  refine lv_l2i hx hb dL_lay_29 rfl ?_
  refine lv_bipush (v := 6) hx hb dL_lay_30 (by decide) ?_
  refine lv_idiv hx hb dL_lay_32 (by decide) ?_
  refine lv_topE (z := gTA w) (rfl) ?_
  refine stI (f := w 3) (ws1 := lwA y r (u2 w 3 i (gTA w))) hx hb hK hP hD hS 3 (ag_3 (B := [])) i rfl (by omega) (by decide) (as_3 (B := [])) dL_lay_33 (fun H locs hP hD hS => ?_)
  refine lv_aload_n hx hb dL_lay_34 rfl (lv_at hl 2 rfl) ?_
  refine lv_bipush (v := 6) hx hb dL_lay_35 (by decide) ?_
  refine lv_iload_n hx hb dL_lay_37 rfl (lv_at hl 1 rfl) ?_
  refine lv_iadd hx hb dL_lay_38 ?_
  refine lv_topE (z := nI (6 + i)) (nI_add 6 i) ?_
  refine lv_aload_n hx hb dL_lay_39 rfl (lv_at hl 3 rfl) ?_
  refine lv_bipush (v := 13) hx hb dL_lay_40 (by decide) ?_
  refine ldI (f := (u2 w 3 i (gTA w)) 0) hx hb hK hP 0 (ag_0 (B := [])) 13 rfl (by decide) (by decide) dL_lay_42 ?_
  refine lv_topE (z := w 0 13) (rfl) ?_
  refine stI (f := (u2 w 3 i (gTA w)) 3) (ws1 := lwA y r (u2 (u2 w 3 i (gTA w)) 3 (6 + i) (w 0 13))) hx hb hK hP hD hS 3 (ag_3 (B := [])) (6 + i) rfl (by omega) (by decide) (as_3 (B := [])) dL_lay_43 (fun H locs hP hD hS => ?_)
  exact W.vret hx hb hr (fun t ht hW => ⟨⟨(), rfl, trivial, by rw [ht]; exact hP, by exact hD⟩, hS.F ht⟩) hS.2.2 dL_lay_44
set_option maxHeartbeats 4000000 in
set_option maxRecDepth 100000 in
theorem c_L_branch (l : Launch) (G : va_G) (y : Nat → ClassId) (r : Nat → Nat) (w : MS) (i : Nat) (hi : i < 3) : Met l yL_branch wsL_branch ({ frames := 1, cells := 0, slots := 0, locals := 25 }) (rP G y [.int (nI i), .ref (r 3), .ref (r 0)] (lwA y r w)) (QcV (.int (gBr w i))) 0 0 (fun _ => False) := by
  refine Met.ofW (cc := cL_branch) (maxL := 7) (ret := (some .int)) (by decide) rfl ?_
  intro p e s m args below meth c s₁ B hml hv
  obtain ⟨rfl, hP, hK⟩ := hv
  have hx := B.exec
  have hb := B.bytes
  have hr := B.returns
  have hts := atoms_spec (ws := wsL_branch) B.pre
  have hown : s.vm.findClass RL = some m.cls := findClass_of_methodNamed B.named
  have hlocks := B.notSynchronized
  have hl := lv_entry ([.int (nI i), .ref (r 3), .ref (r 0)]) (n := 7) (Nat.le_of_ble_eq_true rfl)
  rw [lg_entry_eq]
  generalize (lg_sl ([.int (nI i), .ref (r 3), .ref (r 0)]) ++ List.replicate (7 - (lg_sl ([.int (nI i), .ref (r 3), .ref (r 0)])).length) Slot.unset).toArray = ls at hl ⊢
  have hl : lv_has ls 7 [(0, .int (nI i)), (1, .ref (r 3)), (2, .ref (r 0))] := hl
  refine lv_aload_n hx hb dL_branch_0 rfl (lv_at hl 2 rfl) ?_
  refine lv_iconst (v := 5) hx hb dL_branch_1 (by decide) ?_
  refine lv_iload_n hx hb dL_branch_2 rfl (lv_at hl 0 rfl) ?_
  refine lv_iadd hx hb dL_branch_3 ?_
  refine lv_topE (z := nI (5 + i)) (nI_add 5 i) ?_
  refine ldI (f := w 0) hx hb hK hP 0 (ag_0 (B := [])) (5 + i) rfl (by omega) (by decide) dL_branch_4 ?_
  refine lv_i2l hx hb dL_branch_5 rfl ?_
  refine lv_lstore_n (lv' := [(3, .long ((w 0 (5 + i)).toInt64)), (0, .int (nI i)), (1, .ref (r 3)), (2, .ref (r 0))]) hx hb dL_branch_6 rfl hl (by decide) rfl (fun ls hl => ?_)
  refine lv_lload_n hx hb dL_branch_7 rfl (lv_at hl 0 rfl) ?_
  refine lv_aload_n hx hb dL_branch_8 rfl (lv_at hl 3 rfl) ?_
  refine lv_iconst (v := 4) hx hb dL_branch_9 (by decide) ?_
  refine ldI (f := w 0) hx hb hK hP 0 (ag_0 (B := [])) 4 rfl (by decide) (by decide) dL_branch_10 ?_
  refine lv_i2l hx hb dL_branch_11 rfl ?_
  refine lv_lmul hx hb dL_branch_12 ?_
  refine lv_ldc2 (v := 100) hx hb hown (hts (.constantLong RL 38 100) (by decide +kernel)) dL_branch_13 ?_
  refine lv_ldiv hx hb dL_branch_16 (by decide) ?_
  refine lv_lstore (lv' := [(5, .long (((w 0 (5 + i)).toInt64 * (w 0 4).toInt64) / 100)), (3, .long ((w 0 (5 + i)).toInt64)), (0, .int (nI i)), (1, .ref (r 3)), (2, .ref (r 0))]) hx hb dL_branch_17 hl (by decide) rfl (fun ls hl => ?_)
  refine lv_lload hx hb dL_branch_19 (lv_at hl 0 rfl) ?_
  refine lv_aload_n hx hb dL_branch_21 rfl (lv_at hl 3 rfl) ?_
  refine caR (r := .int (gRate w)) (va_runS (As := [.ref (r 3)]) (rest := [.long (((w 0 (5 + i)).toInt64 * (w 0 4).toInt64) / 100)]) ⟨hx, hb, hml, hown, hts⟩ (c_L_rate l G y r w ) (va_cwS 1 hts gL_branch_L_rate rfl rfl rfl (by decide +kernel) ⟨Nat.le_of_ble_eq_true rfl, Nat.le_of_ble_eq_true rfl⟩) ⟨rP_bl, fun U hU hW => ⟨rfl, by rw [hU]; exact hP, Kb.moved hW hK⟩⟩ rfl rfl hl.1 rfl (lv_room (Nat.le_of_ble_eq_true rfl)) dL_branch_22 ⟨Nat.le_of_ble_eq_true rfl, Nat.le_of_ble_eq_true rfl⟩) ?_
  refine lv_i2l hx hb dL_branch_25 rfl ?_
  refine lv_lmul hx hb dL_branch_26 ?_
  refine lv_lload_n hx hb dL_branch_27 rfl (lv_at hl 1 rfl) ?_
  refine lv_lload hx hb dL_branch_28 (lv_at hl 0 rfl) ?_
  refine lv_lsub hx hb dL_branch_30 ?_
  refine lv_aload_n hx hb dL_branch_31 rfl (lv_at hl 4 rfl) ?_
  refine lv_bipush (v := 8) hx hb dL_branch_32 (by decide) ?_
  refine ldI (f := w 0) hx hb hK hP 0 (ag_0 (B := [])) 8 rfl (by decide) (by decide) dL_branch_34 ?_
  refine lv_i2l hx hb dL_branch_35 rfl ?_
  refine lv_lmul hx hb dL_branch_36 ?_
  refine lv_ladd hx hb dL_branch_37 ?_
  refine lv_ldc2 (v := 120000) hx hb hown (hts (.constantLong RL 36 120000) (by decide +kernel)) dL_branch_38 ?_
  refine lv_ldiv hx hb dL_branch_41 (by decide) ?_
  refine lv_l2i hx hb dL_branch_42 rfl ?_
  exact W.iret (v := ((((((w 0 (5 + i)).toInt64 * (w 0 4).toInt64) / 100) * (gRate w).toInt64) + (((w 0 (5 + i)).toInt64 - (((w 0 (5 + i)).toInt64 * (w 0 4).toInt64) / 100)) * (w 0 8).toInt64)) / 120000).toInt32) hx hb hr (fun t ht hW => ⟨congrArg (fun z => Outcome.returned (some (.int z))) (rfl), ht⟩) t_nil dL_branch_43
set_option maxHeartbeats 4000000 in
set_option maxRecDepth 100000 in
theorem c_L_closes (l : Launch) (G : va_G) (y : Nat → ClassId) (r : Nat → Nat) (w : MS) (sz : Nat) (t : Nat) (ht : w 0 0 = nI t) (ht47 : t ≤ 47) (n : Nat) (hn : w 0 1 = nI n) (hn8 : n ≤ 8) (br pr bo : Nat → Nat) (hl0 : ∀ k, k < n → (w 1 (8 * k) = nI (br k) ∧ br k < 3) ∧ (w 1 ((8 * k) + 1) = nI (pr k) ∧ pr k < 3) ∧ (w 1 ((8 * k) + 5) = nI (bo k) ∧ bo k ≤ 47) ∧ ¬ w 1 ((8 * k) + 4) = 0) : Met l yL_closes wsL_closes ({ frames := 3, cells := 0, slots := 0, locals := 79 }) (mP G y [.ref (r 1), .ref (r 2), .ref (r 3), .ref (r 4), .ref (r 0)] (lwA y r w) sz) (mQ G (fun _ : Unit => none) (fun _ => True) (fun _ => lwA y r (gClose w t n br pr bo)) (va_A (lwA y r w) sz)) 0 0 (va_A (lwA y r w) sz) := by
  refine Met.ofW (cc := cL_closes) (maxL := 9) (ret := none) (by decide) rfl ?_
  intro p e s m args below meth c s₁ B hml hv
  obtain ⟨rfl, hsz, hP, hK, hD0⟩ := hv
  have hx := B.exec
  have hb := B.bytes
  have hr := B.returns
  have hts := atoms_spec (ws := wsL_closes) B.pre
  have hown : s.vm.findClass RL = some m.cls := findClass_of_methodNamed B.named
  have hlocks := B.notSynchronized
  subst hsz
  have hD := hD0.self (sz := s.heap.size)
  generalize hAe : va_A (lwA y r w) s.heap.size = A at hD ⊢
  have hA : ∀ q : Nat, s.heap.size ≤ q → A q := fun q h => by rw [← hAe]; exact Or.inr h
  have hS : va_S A s.heap s.heap [] := va_S.rf
  have hP : va_P G vwCl (lwA y r w) s.heap := hP
  have hl := lv_entry ([.ref (r 1), .ref (r 2), .ref (r 3), .ref (r 4), .ref (r 0)]) (n := 9) (Nat.le_of_ble_eq_true rfl)
  rw [lg_entry_eq]
  generalize (lg_sl ([.ref (r 1), .ref (r 2), .ref (r 3), .ref (r 4), .ref (r 0)]) ++ List.replicate (9 - (lg_sl ([.ref (r 1), .ref (r 2), .ref (r 3), .ref (r 4), .ref (r 0)])).length) Slot.unset).toArray = ls at hl ⊢
  have hl : lv_has ls 9 [(0, .ref (r 1)), (1, .ref (r 2)), (2, .ref (r 3)), (3, .ref (r 4)), (4, .ref (r 0))] := hl
  have hat := gA_lt t
  refine lv_bipush (v := 8) hx hb dL_closes_0 (by decide) ?_
  refine lv_aload hx hb dL_closes_2 (lv_at hl 4 rfl) ?_
  refine lv_iconst (v := 0) hx hb dL_closes_4 (by decide) ?_
  refine ldI (f := w 0) hx hb hK hP 0 (ag_0 (B := [])) 0 rfl (by decide) (by decide) dL_closes_5 ?_
  refine lv_topE (z := nI t) (ht) ?_
  refine lv_bipush (v := 8) hx hb dL_closes_6 (by decide) ?_
  refine lv_irem hx hb dL_closes_8 (by decide) ?_
  refine lv_topE (z := nI (t % 8)) (pk_rem (by omega) (by decide) (by decide)) ?_
  refine lv_imul hx hb dL_closes_9 ?_
  refine lv_topE (z := nI (8 * (t % 8))) (m8 (a := 8) (b := t % 8)) ?_
  refine lv_topE (z := nI (gA t)) (rfl) ?_
  refine lv_istore (lv' := [(5, .int (nI (gA t))), (0, .ref (r 1)), (1, .ref (r 2)), (2, .ref (r 3)), (3, .ref (r 4)), (4, .ref (r 0))]) hx hb dL_closes_10 hl (by decide) rfl (fun ls hl => ?_)
  refine lv_iconst (v := 0) hx hb dL_closes_12 (by decide) ?_
  refine lv_istore (lv' := [(6, .int 0), (5, .int (nI (gA t))), (0, .ref (r 1)), (1, .ref (r 2)), (2, .ref (r 3)), (3, .ref (r 4)), (4, .ref (r 0))]) hx hb dL_closes_13 hl (by decide) rfl (fun ls hl => ?_)
  refine loopM (LV := fun k => [(0, .ref (r 1)), (1, .ref (r 2)), (2, .ref (r 3)), (3, .ref (r 4)), (4, .ref (r 0)), (5, .int (nI (gA t))), (6, .int (nI k))]) (WS := fun k => lwA y r (gZ w t k)) 8 hP hD hS (lv_sub hl [2, 3, 4, 5, 6, 1, 0] rfl) (fun k H locs ls hk_k hP hD hS hl ih_k => ?_) (fun H locs ls hP hD hS hl => ?_)
  · have hl : lv_has ls 9 [(0, .ref (r 1)), (1, .ref (r 2)), (2, .ref (r 3)), (3, .ref (r 4)), (4, .ref (r 0)), (5, .int (nI (gA t))), (6, .int (nI k))] := hl
    have hP : va_P G vwCl (lwA y r (gZ w t k)) H := hP
    have hD : va_D A (lwA y r (gZ w t k)) := hD
    refine lv_iload hx hb dL_closes_15 (lv_at hl 6 rfl) ?_
    refine lv_bipush (v := 8) hx hb dL_closes_17 (by decide) ?_
    refine lv_icmp_ge (tgt := 36) hx hb dL_closes_19 (by decide) (fun c_19 => absurd c_19 (nI_ge hk_k (by decide))) (fun c_19 => ?_)
    refine lv_aload_n hx hb dL_closes_22 rfl (lv_at hl 3 rfl) ?_
    refine lv_iload hx hb dL_closes_23 (lv_at hl 5 rfl) ?_
    refine lv_iload hx hb dL_closes_25 (lv_at hl 6 rfl) ?_
    refine lv_iadd hx hb dL_closes_27 ?_
    refine lv_topE (z := nI ((gA t) + k)) (nI_add (gA t) k) ?_
    refine lv_iconst (v := 0) hx hb dL_closes_28 (by decide) ?_
    refine stI (f := (gZ w t k) 4) (ws1 := lwA y r (u2 (gZ w t k) 4 ((gA t) + k) 0)) hx hb hK hP hD hS 4 (ag_4 (B := [])) ((gA t) + k) rfl (by omega) (by decide) (as_4 (B := [])) dL_closes_29 (fun H locs hP hD hS => ?_)
    refine lv_iinc (v := (nI (k + 1))) (lv' := [(6, .int (nI (k + 1))), (0, .ref (r 1)), (1, .ref (r 2)), (2, .ref (r 3)), (3, .ref (r 4)), (4, .ref (r 0)), (5, .int (nI (gA t)))]) hx hb dL_closes_30 hl (k := 6) rfl iinc1 (by decide) rfl (fun ls hl => ?_)
    refine lv_goto (tgt := 15) hx hb dL_closes_33 (by decide) ?_
    have hP : va_P G vwCl (lwA y r (gZ w t (k + 1))) H := by rw [gZ]; exact hP
    have hD : va_D A (lwA y r (gZ w t (k + 1))) := by rw [gZ]; exact hD
    exact ih_k _ _ ls hP hD hS (lv_sub hl [1, 2, 3, 4, 5, 6, 0] rfl)
  · have hl : lv_has ls 9 [(0, .ref (r 1)), (1, .ref (r 2)), (2, .ref (r 3)), (3, .ref (r 4)), (4, .ref (r 0)), (5, .int (nI (gA t))), (6, .int (nI 8))] := hl
    have hP : va_P G vwCl (lwA y r (gZ w t 8)) H := hP
    have hD : va_D A (lwA y r (gZ w t 8)) := hD
    refine lv_iload hx hb dL_closes_15 (lv_at hl 6 rfl) ?_
    refine lv_bipush (v := 8) hx hb dL_closes_17 (by decide) ?_
    refine lv_icmp_ge (tgt := 36) hx hb dL_closes_19 (by decide) (fun c_19 => ?_) (fun c_19 => absurd (nI_le (Nat.le_refl 8) (by decide)) c_19)
    refine lv_iconst (v := 0) hx hb dL_closes_36 (by decide) ?_
    refine lv_istore (lv' := [(6, .int 0), (0, .ref (r 1)), (1, .ref (r 2)), (2, .ref (r 3)), (3, .ref (r 4)), (4, .ref (r 0)), (5, .int (nI (gA t)))]) hx hb dL_closes_37 hl (by decide) rfl (fun ls hl => ?_)
    refine loopM (LV := fun k => [(0, .ref (r 1)), (1, .ref (r 2)), (2, .ref (r 3)), (3, .ref (r 4)), (4, .ref (r 0)), (5, .int (nI (gA t))), (6, .int (nI k))]) (WS := fun k => lwA y r (gD (gZ w t 8) t k)) 3 hP hD hS (lv_sub hl [1, 2, 3, 4, 5, 6, 0] rfl) (fun k H locs ls hk_k hP hD hS hl ih_k => ?_) (fun H locs ls hP hD hS hl => ?_)
    · have hl : lv_has ls 9 [(0, .ref (r 1)), (1, .ref (r 2)), (2, .ref (r 3)), (3, .ref (r 4)), (4, .ref (r 0)), (5, .int (nI (gA t))), (6, .int (nI k))] := hl
      have hP : va_P G vwCl (lwA y r (gD (gZ w t 8) t k)) H := hP
      have hD : va_D A (lwA y r (gD (gZ w t 8) t k)) := hD
      refine lv_iload hx hb dL_closes_39 (lv_at hl 6 rfl) ?_
      refine lv_iconst (v := 3) hx hb dL_closes_41 (by decide) ?_
      refine lv_icmp_ge (tgt := 118) hx hb dL_closes_42 (by decide) (fun c_42 => absurd c_42 (nI_ge hk_k (by decide))) (fun c_42 => ?_)
      refine lv_iload hx hb dL_closes_45 (lv_at hl 6 rfl) ?_
      refine lv_aload_n hx hb dL_closes_47 rfl (lv_at hl 2 rfl) ?_
      refine lv_aload hx hb dL_closes_48 (lv_at hl 4 rfl) ?_
      refine caR (r := .int (gBr (gD (gZ w t 8) t k) k)) (va_runS (As := [.int (nI k), .ref (r 3), .ref (r 0)]) (rest := []) ⟨hx, hb, hml, hown, hts⟩ (c_L_branch l G y r (gD (gZ w t 8) t k) k hk_k) (va_cwS 3 hts gL_closes_L_branch rfl rfl rfl (by decide +kernel) ⟨Nat.le_of_ble_eq_true rfl, Nat.le_of_ble_eq_true rfl⟩) ⟨rP_bl, fun U hU hW => ⟨rfl, by rw [hU]; exact hP, Kb.moved hW hK⟩⟩ rfl rfl hl.1 rfl (lv_room (Nat.le_of_ble_eq_true rfl)) dL_closes_50 ⟨Nat.le_of_ble_eq_true rfl, Nat.le_of_ble_eq_true rfl⟩) ?_
      refine lv_istore (lv' := [(7, .int (gBr (gD (gZ w t 8) t k) k)), (0, .ref (r 1)), (1, .ref (r 2)), (2, .ref (r 3)), (3, .ref (r 4)), (4, .ref (r 0)), (5, .int (nI (gA t))), (6, .int (nI k))]) hx hb dL_closes_53 hl (by decide) rfl (fun ls hl => ?_)
      refine lv_aload hx hb dL_closes_55 (lv_at hl 5 rfl) ?_
      refine lv_iconst (v := 5) hx hb dL_closes_57 (by decide) ?_
      refine lv_iload hx hb dL_closes_58 (lv_at hl 7 rfl) ?_
      refine lv_iadd hx hb dL_closes_60 ?_
      refine lv_topE (z := nI (5 + k)) (nI_add 5 k) ?_
      refine ldI (f := (gD (gZ w t 8) t k) 0) hx hb hK hP 0 (ag_0 (B := [])) (5 + k) rfl (by omega) (by decide) dL_closes_61 ?_
      refine lv_i2l hx hb dL_closes_62 rfl ?_
      refine lv_aload hx hb dL_closes_63 (lv_at hl 5 rfl) ?_
      refine lv_iconst (v := 2) hx hb dL_closes_65 (by decide) ?_
      refine ldI (f := (gD (gZ w t 8) t k) 0) hx hb hK hP 0 (ag_0 (B := [])) 2 rfl (by decide) (by decide) dL_closes_66 ?_
      refine lv_i2l hx hb dL_closes_67 rfl ?_
      refine lv_lmul hx hb dL_closes_68 ?_
      refine lv_ldc2 (v := 120000) hx hb hown (hts (.constantLong RL 36 120000) (by decide +kernel)) dL_closes_69 ?_
      refine lv_ldiv hx hb dL_closes_72 (by decide) ?_
      refine lv_l2i hx hb dL_closes_73 rfl ?_
      refine lv_topE (z := gGv (gD (gZ w t 8) t k) k) (rfl) ?_
      refine lv_istore (lv' := [(8, .int (gGv (gD (gZ w t 8) t k) k)), (7, .int (gBr (gD (gZ w t 8) t k) k)), (0, .ref (r 1)), (1, .ref (r 2)), (2, .ref (r 3)), (3, .ref (r 4)), (4, .ref (r 0)), (5, .int (nI (gA t))), (6, .int (nI k))]) hx hb dL_closes_74 hl (by decide) rfl (fun ls hl => ?_)
      refine lv_aload_n hx hb dL_closes_76 rfl (lv_at hl 5 rfl) ?_
      refine lv_iload hx hb dL_closes_77 (lv_at hl 7 rfl) ?_
      refine lv_iload hx hb dL_closes_79 (lv_at hl 8 rfl) ?_
      refine lv_iadd hx hb dL_closes_81 ?_
      refine lv_topE (z := nI ((gA t) + k)) (nI_add (gA t) k) ?_
      refine lv_iload hx hb dL_closes_82 (lv_at hl 1 rfl) ?_
      refine lv_iload hx hb dL_closes_84 (lv_at hl 0 rfl) ?_
      refine lv_isub hx hb dL_closes_86 ?_
      refine stI (f := (gD (gZ w t 8) t k) 4) (ws1 := lwA y r (u2 (gD (gZ w t 8) t k) 4 ((gA t) + k) (gBr (gD (gZ w t 8) t k) k - gGv (gD (gZ w t 8) t k) k))) hx hb hK hP hD hS 4 (ag_4 (B := [])) ((gA t) + k) rfl (by omega) (by decide) (as_4 (B := [])) dL_closes_87 (fun H locs hP hD hS => ?_)
      refine lv_aload_n hx hb dL_closes_88 rfl (lv_at hl 5 rfl) ?_
      refine lv_iload hx hb dL_closes_89 (lv_at hl 7 rfl) ?_
      refine lv_bipush (v := 6) hx hb dL_closes_91 (by decide) ?_
      refine lv_iadd hx hb dL_closes_93 ?_
      refine lv_topE (z := nI ((gA t) + 6)) (nI_add (gA t) 6) ?_
      refine lv_dup2_11 hx hb dL_closes_94 rfl rfl ?_
      refine ldI (f := (u2 (gD (gZ w t 8) t k) 4 ((gA t) + k) (gBr (gD (gZ w t 8) t k) k - gGv (gD (gZ w t 8) t k) k)) 4) hx hb hK hP 4 (ag_4 (B := [])) ((gA t) + 6) rfl (by omega) (by decide) dL_closes_95 ?_
      refine lv_iload hx hb dL_closes_96 (lv_at hl 1 rfl) ?_
      refine lv_isub hx hb dL_closes_98 ?_
      refine stI (f := (u2 (gD (gZ w t 8) t k) 4 ((gA t) + k) (gBr (gD (gZ w t 8) t k) k - gGv (gD (gZ w t 8) t k) k)) 4) (ws1 := lwA y r (uS (u2 (gD (gZ w t 8) t k) 4 ((gA t) + k) (gBr (gD (gZ w t 8) t k) k - gGv (gD (gZ w t 8) t k) k)) ((gA t) + 6) (gBr (gD (gZ w t 8) t k) k))) hx hb hK hP hD hS 4 (ag_4 (B := [])) ((gA t) + 6) rfl (by omega) (by decide) (as_4 (B := [])) dL_closes_99 (fun H locs hP hD hS => ?_)
      refine lv_aload_n hx hb dL_closes_100 rfl (lv_at hl 5 rfl) ?_
      refine lv_iload hx hb dL_closes_101 (lv_at hl 7 rfl) ?_
      refine lv_bipush (v := 7) hx hb dL_closes_103 (by decide) ?_
      refine lv_iadd hx hb dL_closes_105 ?_
      refine lv_topE (z := nI ((gA t) + 7)) (nI_add (gA t) 7) ?_
      refine lv_dup2_11 hx hb dL_closes_106 rfl rfl ?_
      refine ldI (f := (uS (u2 (gD (gZ w t 8) t k) 4 ((gA t) + k) (gBr (gD (gZ w t 8) t k) k - gGv (gD (gZ w t 8) t k) k)) ((gA t) + 6) (gBr (gD (gZ w t 8) t k) k)) 4) hx hb hK hP 4 (ag_4 (B := [])) ((gA t) + 7) rfl (by omega) (by decide) dL_closes_107 ?_
      refine lv_iload hx hb dL_closes_108 (lv_at hl 0 rfl) ?_
      refine lv_isub hx hb dL_closes_110 ?_
      refine stI (f := (uS (u2 (gD (gZ w t 8) t k) 4 ((gA t) + k) (gBr (gD (gZ w t 8) t k) k - gGv (gD (gZ w t 8) t k) k)) ((gA t) + 6) (gBr (gD (gZ w t 8) t k) k)) 4) (ws1 := lwA y r (uS (uS (u2 (gD (gZ w t 8) t k) 4 ((gA t) + k) (gBr (gD (gZ w t 8) t k) k - gGv (gD (gZ w t 8) t k) k)) ((gA t) + 6) (gBr (gD (gZ w t 8) t k) k)) ((gA t) + 7) (gGv (gD (gZ w t 8) t k) k))) hx hb hK hP hD hS 4 (ag_4 (B := [])) ((gA t) + 7) rfl (by omega) (by decide) (as_4 (B := [])) dL_closes_111 (fun H locs hP hD hS => ?_)
      refine lv_iinc (v := (nI (k + 1))) (lv' := [(6, .int (nI (k + 1))), (8, .int (gGv (gD (gZ w t 8) t k) k)), (7, .int (gBr (gD (gZ w t 8) t k) k)), (0, .ref (r 1)), (1, .ref (r 2)), (2, .ref (r 3)), (3, .ref (r 4)), (4, .ref (r 0)), (5, .int (nI (gA t)))]) hx hb dL_closes_112 hl (k := 8) rfl iinc1 (by decide) rfl (fun ls hl => ?_)
      refine lv_goto (tgt := 39) hx hb dL_closes_115 (by decide) ?_
      have hP : va_P G vwCl (lwA y r (gD (gZ w t 8) t (k + 1))) H := by rw [gD]; exact hP
      have hD : va_D A (lwA y r (gD (gZ w t 8) t (k + 1))) := by rw [gD]; exact hD
      exact ih_k _ _ ls hP hD hS (lv_sub hl [3, 4, 5, 6, 7, 8, 0] rfl)
    · have hl : lv_has ls 9 [(0, .ref (r 1)), (1, .ref (r 2)), (2, .ref (r 3)), (3, .ref (r 4)), (4, .ref (r 0)), (5, .int (nI (gA t))), (6, .int (nI 3))] := hl
      have hP : va_P G vwCl (lwA y r (gD (gZ w t 8) t 3)) H := hP
      have hD : va_D A (lwA y r (gD (gZ w t 8) t 3)) := hD
      refine lv_iload hx hb dL_closes_39 (lv_at hl 6 rfl) ?_
      refine lv_iconst (v := 3) hx hb dL_closes_41 (by decide) ?_
      refine lv_icmp_ge (tgt := 118) hx hb dL_closes_42 (by decide) (fun c_42 => ?_) (fun c_42 => absurd (nI_le (Nat.le_refl 3) (by decide)) c_42)
      refine lv_iconst (v := 0) hx hb dL_closes_118 (by decide) ?_
      refine lv_istore (lv' := [(6, .int 0), (0, .ref (r 1)), (1, .ref (r 2)), (2, .ref (r 3)), (3, .ref (r 4)), (4, .ref (r 0)), (5, .int (nI (gA t)))]) hx hb dL_closes_119 hl (by decide) rfl (fun ls hl => ?_)
      refine loopM (LV := fun k => [(0, .ref (r 1)), (1, .ref (r 2)), (2, .ref (r 3)), (3, .ref (r 4)), (4, .ref (r 0)), (5, .int (nI (gA t))), (6, .int (nI k))]) (WS := fun k => lwA y r (gN (gD (gZ w t 8) t 3) t br pr bo k)) n hP hD hS (lv_sub hl [1, 2, 3, 4, 5, 6, 0] rfl) (fun k H locs ls hk_k hP hD hS hl ih_k => ?_) (fun H locs ls hP hD hS hl => ?_)
      · have hl : lv_has ls 9 [(0, .ref (r 1)), (1, .ref (r 2)), (2, .ref (r 3)), (3, .ref (r 4)), (4, .ref (r 0)), (5, .int (nI (gA t))), (6, .int (nI k))] := hl
        have hP : va_P G vwCl (lwA y r (gN (gD (gZ w t 8) t 3) t br pr bo k)) H := hP
        have hD : va_D A (lwA y r (gN (gD (gZ w t 8) t 3) t br pr bo k)) := hD
        have eN0 : (gN (gD (gZ w t 8) t 3) t br pr bo k) 0 = w 0 := (gN_o (by decide) k).trans ((gD_o (by decide) 3).trans (gZ_o (by decide) 8))
        have eN1 : (gN (gD (gZ w t 8) t 3) t br pr bo k) 1 = w 1 := (gN_o (by decide) k).trans ((gD_o (by decide) 3).trans (gZ_o (by decide) 8))
        refine lv_iload hx hb dL_closes_121 (lv_at hl 6 rfl) ?_
        refine lv_aload hx hb dL_closes_123 (lv_at hl 4 rfl) ?_
        refine lv_iconst (v := 1) hx hb dL_closes_125 (by decide) ?_
        refine ldI (f := (gN (gD (gZ w t 8) t 3) t br pr bo k) 0) hx hb hK hP 0 (ag_0 (B := [])) 1 rfl (by decide) (by decide) dL_closes_126 ?_
        refine lv_topE (z := nI n) (by rw [eN0]; exact hn) ?_
        refine lv_icmp_ge (tgt := 239) hx hb dL_closes_127 (by decide) (fun c_127 => absurd c_127 (nI_ge hk_k (by omega))) (fun c_127 => ?_)
        obtain ⟨⟨hb1, hb3⟩, ⟨hp1, hp3⟩, ⟨ho1, ho47⟩, hne⟩ := hl0 k hk_k
        have hne : ¬ (gN (gD (gZ w t 8) t 3) t br pr bo k) 1 ((8 * k) + 4) = 0 := by rw [eN1]; exact hne
        have ht2 : (gN (gD (gZ w t 8) t 3) t br pr bo k) 0 0 = nI t := by rw [eN0]; exact ht
        have ho2 : (gN (gD (gZ w t 8) t 3) t br pr bo k) 1 ((8 * k) + 5) = nI (bo k) := by rw [eN1]; exact ho1
        refine lv_iload hx hb dL_closes_130 (lv_at hl 6 rfl) ?_
        refine lv_iconst (v := 0) hx hb dL_closes_132 (by decide) ?_
        refine lv_aload_n hx hb dL_closes_133 rfl (lv_at hl 0 rfl) ?_
        refine lv_aload_n hx hb dL_closes_134 rfl (lv_at hl 1 rfl) ?_
        refine lv_aload hx hb dL_closes_135 (lv_at hl 4 rfl) ?_
        refine caR (r := .int (gBe (gN (gD (gZ w t 8) t 3) t br pr bo k) k t (bo k) 0)) (va_runS (As := [.int (nI k), .int 0, .ref (r 1), .ref (r 2), .ref (r 0)]) (rest := []) ⟨hx, hb, hml, hown, hts⟩ (c_L_bears l G y r (gN (gD (gZ w t 8) t 3) t br pr bo k) k (by omega) 0 t ht2 ht47 hne (bo k) ho2 ho47) (va_cwS 5 hts gL_closes_L_bears rfl rfl rfl (by decide +kernel) ⟨Nat.le_of_ble_eq_true rfl, Nat.le_of_ble_eq_true rfl⟩) ⟨rP_bl, fun U hU hW => ⟨rfl, by rw [hU]; exact hP, Kb.moved hW hK⟩⟩ rfl rfl hl.1 rfl (lv_room (Nat.le_of_ble_eq_true rfl)) dL_closes_137 ⟨Nat.le_of_ble_eq_true rfl, Nat.le_of_ble_eq_true rfl⟩) ?_
        refine lv_topE (z := gI (gN (gD (gZ w t 8) t 3) t br pr bo k) t bo k) (rfl) ?_
        refine lv_istore (lv' := [(7, .int (gI (gN (gD (gZ w t 8) t 3) t br pr bo k) t bo k)), (0, .ref (r 1)), (1, .ref (r 2)), (2, .ref (r 3)), (3, .ref (r 4)), (4, .ref (r 0)), (5, .int (nI (gA t))), (6, .int (nI k))]) hx hb dL_closes_140 hl (by decide) rfl (fun ls hl => ?_)
        refine lv_iload hx hb dL_closes_142 (lv_at hl 7 rfl) ?_
        refine lv_iconst (v := 1) hx hb dL_closes_144 (by decide) ?_
        refine lv_aload_n hx hb dL_closes_145 rfl (lv_at hl 1 rfl) ?_
        refine lv_aload_n hx hb dL_closes_146 rfl (lv_at hl 2 rfl) ?_
        refine lv_aload hx hb dL_closes_147 (lv_at hl 5 rfl) ?_
        refine caR (r := .int (gBe (gN (gD (gZ w t 8) t 3) t br pr bo k) k t (bo k) 1)) (va_runS (As := [.int (nI k), .int 1, .ref (r 1), .ref (r 2), .ref (r 0)]) (rest := []) ⟨hx, hb, hml, hown, hts⟩ (c_L_bears l G y r (gN (gD (gZ w t 8) t 3) t br pr bo k) k (by omega) 1 t ht2 ht47 hne (bo k) ho2 ho47) (va_cwS 5 hts gL_closes_L_bears rfl rfl rfl (by decide +kernel) ⟨Nat.le_of_ble_eq_true rfl, Nat.le_of_ble_eq_true rfl⟩) ⟨rP_bl, fun U hU hW => ⟨rfl, by rw [hU]; exact hP, Kb.moved hW hK⟩⟩ rfl rfl hl.1 rfl (lv_room (Nat.le_of_ble_eq_true rfl)) dL_closes_149 ⟨Nat.le_of_ble_eq_true rfl, Nat.le_of_ble_eq_true rfl⟩) ?_
        refine lv_iload hx hb dL_closes_152 (lv_at hl 7 rfl) ?_
        refine lv_iconst (v := 2) hx hb dL_closes_154 (by decide) ?_
        refine lv_aload_n hx hb dL_closes_155 rfl (lv_at hl 1 rfl) ?_
        refine lv_aload_n hx hb dL_closes_156 rfl (lv_at hl 2 rfl) ?_
        refine lv_aload hx hb dL_closes_157 (lv_at hl 5 rfl) ?_
        refine caR (r := .int (gBe (gN (gD (gZ w t 8) t 3) t br pr bo k) k t (bo k) 2)) (va_runS (As := [.int (nI k), .int 2, .ref (r 1), .ref (r 2), .ref (r 0)]) (rest := [.int (gBe (gN (gD (gZ w t 8) t 3) t br pr bo k) k t (bo k) 1)]) ⟨hx, hb, hml, hown, hts⟩ (c_L_bears l G y r (gN (gD (gZ w t 8) t 3) t br pr bo k) k (by omega) 2 t ht2 ht47 hne (bo k) ho2 ho47) (va_cwS 5 hts gL_closes_L_bears rfl rfl rfl (by decide +kernel) ⟨Nat.le_of_ble_eq_true rfl, Nat.le_of_ble_eq_true rfl⟩) ⟨rP_bl, fun U hU hW => ⟨rfl, by rw [hU]; exact hP, Kb.moved hW hK⟩⟩ rfl rfl hl.1 rfl (lv_room (Nat.le_of_ble_eq_true rfl)) dL_closes_159 ⟨Nat.le_of_ble_eq_true rfl, Nat.le_of_ble_eq_true rfl⟩) ?_
        refine lv_iadd hx hb dL_closes_162 ?_
        refine lv_topE (z := gV (gN (gD (gZ w t 8) t 3) t br pr bo k) t bo k) (rfl) ?_
        refine lv_istore (lv' := [(8, .int (gV (gN (gD (gZ w t 8) t 3) t br pr bo k) t bo k)), (7, .int (gI (gN (gD (gZ w t 8) t 3) t br pr bo k) t bo k)), (0, .ref (r 1)), (1, .ref (r 2)), (2, .ref (r 3)), (3, .ref (r 4)), (4, .ref (r 0)), (5, .int (nI (gA t))), (6, .int (nI k))]) hx hb dL_closes_163 hl (by decide) rfl (fun ls hl => ?_)
        refine lv_aload_n hx hb dL_closes_165 rfl (lv_at hl 5 rfl) ?_
        refine lv_iload hx hb dL_closes_166 (lv_at hl 7 rfl) ?_
        refine lv_aload_n hx hb dL_closes_168 rfl (lv_at hl 2 rfl) ?_
        refine lv_bipush (v := 8) hx hb dL_closes_169 (by decide) ?_
        refine lv_iload hx hb dL_closes_171 (lv_at hl 8 rfl) ?_
        refine lv_imul hx hb dL_closes_173 ?_
        refine lv_topE (z := nI (8 * k)) (m8 (a := 8) (b := k)) ?_
        refine ldI (f := (gN (gD (gZ w t 8) t 3) t br pr bo k) 1) hx hb hK hP 1 (ag_1 (B := [])) (8 * k) rfl (by omega) (by decide) dL_closes_174 ?_
        refine lv_topE (z := nI (br k)) (by rw [eN1]; exact hb1) ?_
        refine lv_iadd hx hb dL_closes_175 ?_
        refine lv_topE (z := nI ((gA t) + (br k))) (nI_add (gA t) (br k)) ?_
        refine lv_dup2_11 hx hb dL_closes_176 rfl rfl ?_
        refine ldI (f := (gN (gD (gZ w t 8) t 3) t br pr bo k) 4) hx hb hK hP 4 (ag_4 (B := [])) ((gA t) + (br k)) rfl (by omega) (by decide) dL_closes_177 ?_
        refine lv_iload hx hb dL_closes_178 (lv_at hl 1 rfl) ?_
        refine lv_iload hx hb dL_closes_180 (lv_at hl 0 rfl) ?_
        refine lv_isub hx hb dL_closes_182 ?_
        refine lv_iadd hx hb dL_closes_183 ?_
        refine stI (f := (gN (gD (gZ w t 8) t 3) t br pr bo k) 4) (ws1 := lwA y r (uA (gN (gD (gZ w t 8) t 3) t br pr bo k) ((gA t) + (br k)) (gI (gN (gD (gZ w t 8) t 3) t br pr bo k) t bo k - gV (gN (gD (gZ w t 8) t 3) t br pr bo k) t bo k))) hx hb hK hP hD hS 4 (ag_4 (B := [])) ((gA t) + (br k)) rfl (by omega) (by decide) (as_4 (B := [])) dL_closes_184 (fun H locs hP hD hS => ?_)
        refine lv_aload_n hx hb dL_closes_185 rfl (lv_at hl 5 rfl) ?_
        refine lv_iload hx hb dL_closes_186 (lv_at hl 7 rfl) ?_
        refine lv_iconst (v := 3) hx hb dL_closes_188 (by decide) ?_
        refine lv_iadd hx hb dL_closes_189 ?_
        refine lv_topE (z := nI ((gA t) + 3)) (nI_add (gA t) 3) ?_
        refine lv_aload_n hx hb dL_closes_190 rfl (lv_at hl 2 rfl) ?_
        refine lv_bipush (v := 8) hx hb dL_closes_191 (by decide) ?_
        refine lv_iload hx hb dL_closes_193 (lv_at hl 8 rfl) ?_
        refine lv_imul hx hb dL_closes_195 ?_
        refine lv_topE (z := nI (8 * k)) (m8 (a := 8) (b := k)) ?_
        refine lv_iconst (v := 1) hx hb dL_closes_196 (by decide) ?_
        refine lv_iadd hx hb dL_closes_197 ?_
        refine lv_topE (z := nI ((8 * k) + 1)) (nI_add (8 * k) 1) ?_
        refine ldI (f := (uA (gN (gD (gZ w t 8) t 3) t br pr bo k) ((gA t) + (br k)) (gI (gN (gD (gZ w t 8) t 3) t br pr bo k) t bo k - gV (gN (gD (gZ w t 8) t 3) t br pr bo k) t bo k)) 1) hx hb hK hP 1 (ag_1 (B := [])) ((8 * k) + 1) rfl (by omega) (by decide) dL_closes_198 ?_
        refine lv_topE (z := nI (pr k)) (by rw [uA_j (by decide), eN1]; exact hp1) ?_
        refine lv_iadd hx hb dL_closes_199 ?_
        refine lv_topE (z := nI (((gA t) + 3) + (pr k))) (nI_add ((gA t) + 3) (pr k)) ?_
        refine lv_dup2_11 hx hb dL_closes_200 rfl rfl ?_
        refine ldI (f := (uA (gN (gD (gZ w t 8) t 3) t br pr bo k) ((gA t) + (br k)) (gI (gN (gD (gZ w t 8) t 3) t br pr bo k) t bo k - gV (gN (gD (gZ w t 8) t 3) t br pr bo k) t bo k)) 4) hx hb hK hP 4 (ag_4 (B := [])) (((gA t) + 3) + (pr k)) rfl (by omega) (by decide) dL_closes_201 ?_
        refine lv_iload hx hb dL_closes_202 (lv_at hl 1 rfl) ?_
        refine lv_iload hx hb dL_closes_204 (lv_at hl 0 rfl) ?_
        refine lv_isub hx hb dL_closes_206 ?_
        refine lv_iadd hx hb dL_closes_207 ?_
        refine stI (f := (uA (gN (gD (gZ w t 8) t 3) t br pr bo k) ((gA t) + (br k)) (gI (gN (gD (gZ w t 8) t 3) t br pr bo k) t bo k - gV (gN (gD (gZ w t 8) t 3) t br pr bo k) t bo k)) 4) (ws1 := lwA y r (uA (uA (gN (gD (gZ w t 8) t 3) t br pr bo k) ((gA t) + (br k)) (gI (gN (gD (gZ w t 8) t 3) t br pr bo k) t bo k - gV (gN (gD (gZ w t 8) t 3) t br pr bo k) t bo k)) (((gA t) + 3) + (pr k)) (gI (gN (gD (gZ w t 8) t 3) t br pr bo k) t bo k - gV (gN (gD (gZ w t 8) t 3) t br pr bo k) t bo k))) hx hb hK hP hD hS 4 (ag_4 (B := [])) (((gA t) + 3) + (pr k)) rfl (by omega) (by decide) (as_4 (B := [])) dL_closes_208 (fun H locs hP hD hS => ?_)
        refine lv_aload_n hx hb dL_closes_209 rfl (lv_at hl 5 rfl) ?_
        refine lv_iload hx hb dL_closes_210 (lv_at hl 7 rfl) ?_
        refine lv_bipush (v := 6) hx hb dL_closes_212 (by decide) ?_
        refine lv_iadd hx hb dL_closes_214 ?_
        refine lv_topE (z := nI ((gA t) + 6)) (nI_add (gA t) 6) ?_
        refine lv_dup2_11 hx hb dL_closes_215 rfl rfl ?_
        refine ldI (f := (uA (uA (gN (gD (gZ w t 8) t 3) t br pr bo k) ((gA t) + (br k)) (gI (gN (gD (gZ w t 8) t 3) t br pr bo k) t bo k - gV (gN (gD (gZ w t 8) t 3) t br pr bo k) t bo k)) (((gA t) + 3) + (pr k)) (gI (gN (gD (gZ w t 8) t 3) t br pr bo k) t bo k - gV (gN (gD (gZ w t 8) t 3) t br pr bo k) t bo k)) 4) hx hb hK hP 4 (ag_4 (B := [])) ((gA t) + 6) rfl (by omega) (by decide) dL_closes_216 ?_
        refine lv_iload hx hb dL_closes_217 (lv_at hl 0 rfl) ?_
        refine lv_iadd hx hb dL_closes_219 ?_
        refine stI (f := (uA (uA (gN (gD (gZ w t 8) t 3) t br pr bo k) ((gA t) + (br k)) (gI (gN (gD (gZ w t 8) t 3) t br pr bo k) t bo k - gV (gN (gD (gZ w t 8) t 3) t br pr bo k) t bo k)) (((gA t) + 3) + (pr k)) (gI (gN (gD (gZ w t 8) t 3) t br pr bo k) t bo k - gV (gN (gD (gZ w t 8) t 3) t br pr bo k) t bo k)) 4) (ws1 := lwA y r (uA (uA (uA (gN (gD (gZ w t 8) t 3) t br pr bo k) ((gA t) + (br k)) (gI (gN (gD (gZ w t 8) t 3) t br pr bo k) t bo k - gV (gN (gD (gZ w t 8) t 3) t br pr bo k) t bo k)) (((gA t) + 3) + (pr k)) (gI (gN (gD (gZ w t 8) t 3) t br pr bo k) t bo k - gV (gN (gD (gZ w t 8) t 3) t br pr bo k) t bo k)) ((gA t) + 6) (gV (gN (gD (gZ w t 8) t 3) t br pr bo k) t bo k))) hx hb hK hP hD hS 4 (ag_4 (B := [])) ((gA t) + 6) rfl (by omega) (by decide) (as_4 (B := [])) dL_closes_220 (fun H locs hP hD hS => ?_)
        refine lv_aload_n hx hb dL_closes_221 rfl (lv_at hl 5 rfl) ?_
        refine lv_iload hx hb dL_closes_222 (lv_at hl 7 rfl) ?_
        refine lv_bipush (v := 7) hx hb dL_closes_224 (by decide) ?_
        refine lv_iadd hx hb dL_closes_226 ?_
        refine lv_topE (z := nI ((gA t) + 7)) (nI_add (gA t) 7) ?_
        refine lv_dup2_11 hx hb dL_closes_227 rfl rfl ?_
        refine ldI (f := (uA (uA (uA (gN (gD (gZ w t 8) t 3) t br pr bo k) ((gA t) + (br k)) (gI (gN (gD (gZ w t 8) t 3) t br pr bo k) t bo k - gV (gN (gD (gZ w t 8) t 3) t br pr bo k) t bo k)) (((gA t) + 3) + (pr k)) (gI (gN (gD (gZ w t 8) t 3) t br pr bo k) t bo k - gV (gN (gD (gZ w t 8) t 3) t br pr bo k) t bo k)) ((gA t) + 6) (gV (gN (gD (gZ w t 8) t 3) t br pr bo k) t bo k)) 4) hx hb hK hP 4 (ag_4 (B := [])) ((gA t) + 7) rfl (by omega) (by decide) dL_closes_228 ?_
        refine lv_iload hx hb dL_closes_229 (lv_at hl 1 rfl) ?_
        refine lv_iadd hx hb dL_closes_231 ?_
        refine stI (f := (uA (uA (uA (gN (gD (gZ w t 8) t 3) t br pr bo k) ((gA t) + (br k)) (gI (gN (gD (gZ w t 8) t 3) t br pr bo k) t bo k - gV (gN (gD (gZ w t 8) t 3) t br pr bo k) t bo k)) (((gA t) + 3) + (pr k)) (gI (gN (gD (gZ w t 8) t 3) t br pr bo k) t bo k - gV (gN (gD (gZ w t 8) t 3) t br pr bo k) t bo k)) ((gA t) + 6) (gV (gN (gD (gZ w t 8) t 3) t br pr bo k) t bo k)) 4) (ws1 := lwA y r (uA (uA (uA (uA (gN (gD (gZ w t 8) t 3) t br pr bo k) ((gA t) + (br k)) (gI (gN (gD (gZ w t 8) t 3) t br pr bo k) t bo k - gV (gN (gD (gZ w t 8) t 3) t br pr bo k) t bo k)) (((gA t) + 3) + (pr k)) (gI (gN (gD (gZ w t 8) t 3) t br pr bo k) t bo k - gV (gN (gD (gZ w t 8) t 3) t br pr bo k) t bo k)) ((gA t) + 6) (gV (gN (gD (gZ w t 8) t 3) t br pr bo k) t bo k)) ((gA t) + 7) (gI (gN (gD (gZ w t 8) t 3) t br pr bo k) t bo k))) hx hb hK hP hD hS 4 (ag_4 (B := [])) ((gA t) + 7) rfl (by omega) (by decide) (as_4 (B := [])) dL_closes_232 (fun H locs hP hD hS => ?_)
        refine lv_iinc (v := (nI (k + 1))) (lv' := [(6, .int (nI (k + 1))), (8, .int (gV (gN (gD (gZ w t 8) t 3) t br pr bo k) t bo k)), (7, .int (gI (gN (gD (gZ w t 8) t 3) t br pr bo k) t bo k)), (0, .ref (r 1)), (1, .ref (r 2)), (2, .ref (r 3)), (3, .ref (r 4)), (4, .ref (r 0)), (5, .int (nI (gA t)))]) hx hb dL_closes_233 hl (k := 8) rfl iinc1 (by decide) rfl (fun ls hl => ?_)
        refine lv_goto (tgt := 121) hx hb dL_closes_236 (by decide) ?_
        have hP : va_P G vwCl (lwA y r (gN (gD (gZ w t 8) t 3) t br pr bo (k + 1))) H := by rw [gN]; exact hP
        have hD : va_D A (lwA y r (gN (gD (gZ w t 8) t 3) t br pr bo (k + 1))) := by rw [gN]; exact hD
        exact ih_k _ _ ls hP hD hS (lv_sub hl [3, 4, 5, 6, 7, 8, 0] rfl)
      · have hl : lv_has ls 9 [(0, .ref (r 1)), (1, .ref (r 2)), (2, .ref (r 3)), (3, .ref (r 4)), (4, .ref (r 0)), (5, .int (nI (gA t))), (6, .int (nI n))] := hl
        have hP : va_P G vwCl (lwA y r (gN (gD (gZ w t 8) t 3) t br pr bo n)) H := hP
        have hD : va_D A (lwA y r (gN (gD (gZ w t 8) t 3) t br pr bo n)) := hD
        have eN0 : (gN (gD (gZ w t 8) t 3) t br pr bo n) 0 = w 0 := (gN_o (by decide) n).trans ((gD_o (by decide) 3).trans (gZ_o (by decide) 8))
        refine lv_iload hx hb dL_closes_121 (lv_at hl 6 rfl) ?_
        refine lv_aload hx hb dL_closes_123 (lv_at hl 4 rfl) ?_
        refine lv_iconst (v := 1) hx hb dL_closes_125 (by decide) ?_
        refine ldI (f := (gN (gD (gZ w t 8) t 3) t br pr bo n) 0) hx hb hK hP 0 (ag_0 (B := [])) 1 rfl (by decide) (by decide) dL_closes_126 ?_
        refine lv_topE (z := nI n) (by rw [eN0]; exact hn) ?_
        refine lv_icmp_ge (tgt := 239) hx hb dL_closes_127 (by decide) (fun c_127 => ?_) (fun c_127 => absurd (nI_le (Nat.le_refl n) (by omega)) c_127)
        refine lv_aload hx hb dL_closes_239 (lv_at hl 4 rfl) ?_
        refine lv_iconst (v := 0) hx hb dL_closes_241 (by decide) ?_
        refine lv_dup2_11 hx hb dL_closes_242 rfl rfl ?_
        refine ldI (f := (gN (gD (gZ w t 8) t 3) t br pr bo n) 0) hx hb hK hP 0 (ag_0 (B := [])) 0 rfl (by decide) (by decide) dL_closes_243 ?_
        refine lv_topE (z := nI t) (by rw [eN0]; exact ht) ?_
        refine lv_iconst (v := 1) hx hb dL_closes_244 (by decide) ?_
        refine lv_iadd hx hb dL_closes_245 ?_
        refine lv_topE (z := nI (t + 1)) (nI_add t 1) ?_
        refine stI (f := (gN (gD (gZ w t 8) t 3) t br pr bo n) 0) (ws1 := lwA y r (u2 (gN (gD (gZ w t 8) t 3) t br pr bo n) 0 0 (nI (t + 1)))) hx hb hK hP hD hS 0 (ag_0 (B := [])) 0 rfl (by decide) (by decide) (as_0 (B := [])) dL_closes_246 (fun H locs hP hD hS => ?_)
        refine lv_aload hx hb dL_closes_247 (lv_at hl 4 rfl) ?_
        refine lv_iconst (v := 0) hx hb dL_closes_249 (by decide) ?_
        refine ldI (f := (u2 (gN (gD (gZ w t 8) t 3) t br pr bo n) 0 0 (nI (t + 1))) 0) hx hb hK hP 0 (ag_0 (B := [])) 0 rfl (by decide) (by decide) dL_closes_250 ?_
        refine lv_topE (z := nI (t + 1)) (u2_s) ?_
        refine lv_bipush (v := 6) hx hb dL_closes_251 (by decide) ?_
        refine lv_irem hx hb dL_closes_253 (by decide) ?_
        refine lv_topE (z := nI ((t + 1) % 6)) (pk_rem (by omega) (by decide) (by decide)) ?_
        refine lv_aload_n hx hb dL_closes_254 rfl (lv_at hl 2 rfl) ?_
        refine lv_aload hx hb dL_closes_255 (lv_at hl 4 rfl) ?_
        refine caM (va_runS (As := [.int (nI ((t + 1) % 6)), .ref (r 3), .ref (r 0)]) (rest := []) ⟨hx, hb, hml, hown, hts⟩ (c_L_lay l G y r (u2 (gN (gD (gZ w t 8) t 3) t br pr bo n) 0 0 (nI (t + 1))) H.size ((t + 1) % 6) (Nat.mod_lt _ (by decide))) (va_cwS 3 hts gL_closes_L_lay rfl rfl rfl (by decide +kernel) ⟨Nat.le_of_ble_eq_true rfl, Nat.le_of_ble_eq_true rfl⟩) ⟨mP_bl, fun U hU hW => ⟨rfl, by rw [hU], by rw [hU]; exact hP, Kb.moved hW hK, hD.weaken (fun _ _ _ _ => trivial)⟩⟩ rfl rfl hl.1 rfl (lv_room (Nat.le_of_ble_eq_true rfl)) dL_closes_257 ⟨Nat.le_of_ble_eq_true rfl, Nat.le_of_ble_eq_true rfl⟩) hS (freeW hD hS hA) (freeW hD hS hA) (fun _ H locs _ hP hD _ _ hS => ?_)
        refine W.eq (g2 := F0 m 260 ls []) rfl ?_
        have hP : va_P G vwCl (lwA y r (gClose w t n br pr bo)) H := hP
        have hD : va_D A (lwA y r (gClose w t n br pr bo)) := hD
        exact W.vret hx hb hr (fun t ht hW => ⟨⟨(), rfl, trivial, by rw [ht]; exact hP, by exact hD⟩, hS.F ht⟩) hS.2.2 dL_closes_260
