/-! ===== the law's look at the book: all is so (printed by a program of mine) ===== -/
set_option maxHeartbeats 4000000 in
set_option maxRecDepth 100000 in
theorem c_L_isSo (l : Launch) (G : va_G) (y : Nat → ClassId) (r : Nat → Nat) (w : MS) (a : Nat → Nat) (b : MS) (n : Nat) (la : Nat → Nat → Nat) (L : LNS) (t : Nat) (pd bo mo : Nat → Nat) (h : PR b w n L t pd bo mo) : Met l yL_isSo wsL_isSo ({ frames := 4, cells := 0, slots := 0, locals := 87 }) (rP G y [.ref (a 13), .ref (r 1), .ref (r 2), .ref (r 3), .ref (r 4), .ref (r 0)] (lwA y r w ++ bkW y a b n la L)) (QcV (.int 1)) 0 0 (fun _ => False) := by
  refine Met.ofW (cc := cL_isSo) (maxL := 11) (ret := (some .boolean)) (by decide) rfl ?_
  intro p e s m args below meth c s₁ B hml hv
  obtain ⟨rfl, hP, hK⟩ := hv
  have hx := B.exec
  have hb := B.bytes
  have hr := B.returns
  have hts := atoms_spec (ws := wsL_isSo) B.pre
  have hown : s.vm.findClass RL = some m.cls := findClass_of_methodNamed B.named
  have hlocks := B.notSynchronized
  have hl := lv_entry ([.ref (a 13), .ref (r 1), .ref (r 2), .ref (r 3), .ref (r 4), .ref (r 0)]) (n := 11) (Nat.le_of_ble_eq_true rfl)
  rw [lg_entry_eq]
  generalize (lg_sl ([.ref (a 13), .ref (r 1), .ref (r 2), .ref (r 3), .ref (r 4), .ref (r 0)]) ++ List.replicate (11 - (lg_sl ([.ref (a 13), .ref (r 1), .ref (r 2), .ref (r 3), .ref (r 4), .ref (r 0)])).length) Slot.unset).toArray = ls at hl ⊢
  have hl : lv_has ls 11 [(0, .ref (a 13)), (1, .ref (r 1)), (2, .ref (r 2)), (3, .ref (r 3)), (4, .ref (r 4)), (5, .ref (r 0))] := hl
  have hn8 : n ≤ 8 := h.1.1
  have hn24 : n ≤ 24 := by omega
  have ht47 : t ≤ 47 := h.1.2.1
  have hbn : b 13 6 = nI n := h.1.2.2.1
  have hw1 : w 0 1 = nI n := h.1.2.2.2.1
  have hbt : b 13 4 = nI t := h.1.2.2.2.2.1
  have hw0 : w 0 0 = nI t := h.1.2.2.2.2.2.1
  have hT := h.1.2.2.2.2.2.2.2.2.2.2.2.2.2
  have h7 := h.1.2.2.2.2.2.2.2.2.2.2.2.2.1
  have hM := h.2.1
  have hpd : ∀ k, k < n → L k 0 7 = nI (pd k) ∧ pd k ≤ 6 := fun k hk => (h.2.2 k hk).2.2.2.2.2.1
  have hmo : ∀ k, k < n → ¬ w 1 ((8 * k) + 4) = 0 := fun k hk q => by
    have h4 := (h.2.2 k hk).2.2.2.2.2.2.2.1
    rw [h4.1] at q
    exact nI_ne0 (by omega) (by omega) q
  have hbo : ∀ k, k < n → w 1 ((8 * k) + 5) = nI (bo k) ∧ bo k ≤ t := fun k hk => (h.2.2 k hk).2.2.2.2.2.2.1
  refine lv_aload_n hx hb dL_isSo_0 rfl (lv_at hl 0 rfl) ?_
  refine caR (r := .int (b 13 4)) (va_runV (As := []) (rest := []) ⟨hx, hb, hml, hown, hts⟩ (c_X2_month l G y a b n la L ) (cwV 0 hts gL_isSo_X2_month rfl rfl rfl (by decide +kernel) ⟨Nat.le_of_ble_eq_true rfl, Nat.le_of_ble_eq_true rfl⟩) ⟨rP_bl, va_recv hK.1 (wR hP) (ci := 2) (q0 := 0) rfl rfl, fun U hU hW => ⟨rfl, by rw [hU]; exact wR hP, Kb.moved hW hK⟩⟩ rfl rfl hl.1 rfl (lv_room (Nat.le_of_ble_eq_true rfl)) dL_isSo_1 ⟨Nat.le_of_ble_eq_true rfl, Nat.le_of_ble_eq_true rfl⟩) ?_
  refine lv_topE (z := nI t) (hbt) ?_
  refine lv_aload hx hb dL_isSo_4 (lv_at hl 5 rfl) ?_
  refine lv_iconst (v := 0) hx hb dL_isSo_6 (by decide) ?_
  refine ldI (f := w 0) hx hb hK hP 0 ag_0 0 rfl (by decide) (by decide) dL_isSo_7 ?_
  refine lv_topE (z := nI t) (hw0) ?_
  refine lv_icmp_ne (tgt := 37) hx hb dL_isSo_8 (by decide) (fun c_8 => absurd (rfl) c_8) (fun c_8 => ?_)
  refine lv_aload_n hx hb dL_isSo_11 rfl (lv_at hl 0 rfl) ?_
  refine caR (r := .int (b 13 6)) (va_runV (As := []) (rest := []) ⟨hx, hb, hml, hown, hts⟩ (c_X2_loans l G y a b n la L ) (cwV 0 hts gL_isSo_X2_loans rfl rfl rfl (by decide +kernel) ⟨Nat.le_of_ble_eq_true rfl, Nat.le_of_ble_eq_true rfl⟩) ⟨rP_bl, va_recv hK.1 (wR hP) (ci := 2) (q0 := 0) rfl rfl, fun U hU hW => ⟨rfl, by rw [hU]; exact wR hP, Kb.moved hW hK⟩⟩ rfl rfl hl.1 rfl (lv_room (Nat.le_of_ble_eq_true rfl)) dL_isSo_12 ⟨Nat.le_of_ble_eq_true rfl, Nat.le_of_ble_eq_true rfl⟩) ?_
  refine lv_topE (z := nI n) (hbn) ?_
  refine lv_aload hx hb dL_isSo_15 (lv_at hl 5 rfl) ?_
  refine lv_iconst (v := 1) hx hb dL_isSo_17 (by decide) ?_
  refine ldI (f := w 0) hx hb hK hP 0 ag_0 1 rfl (by decide) (by decide) dL_isSo_18 ?_
  refine lv_topE (z := nI n) (hw1) ?_
  refine lv_icmp_ne (tgt := 37) hx hb dL_isSo_19 (by decide) (fun c_19 => absurd (rfl) c_19) (fun c_19 => ?_)
  refine lv_aload_n hx hb dL_isSo_22 rfl (lv_at hl 0 rfl) ?_
  refine caR (r := .int (bAvg b)) (va_runV (As := []) (rest := []) ⟨hx, hb, hml, hown, hts⟩ (c_X2_replicaRate l G y a b n la L ) (cwV 0 hts gL_isSo_X2_replicaRate rfl rfl rfl (by decide +kernel) ⟨Nat.le_of_ble_eq_true rfl, Nat.le_of_ble_eq_true rfl⟩) ⟨rP_bl, va_recv hK.1 (wR hP) (ci := 2) (q0 := 0) rfl rfl, fun U hU hW => ⟨rfl, by rw [hU]; exact wR hP, Kb.moved hW hK⟩⟩ rfl rfl hl.1 rfl (lv_room (Nat.le_of_ble_eq_true rfl)) dL_isSo_23 ⟨Nat.le_of_ble_eq_true rfl, Nat.le_of_ble_eq_true rfl⟩) ?_
  refine lv_topE (z := gRate w) (q_rate h) ?_
  refine lv_aload_n hx hb dL_isSo_26 rfl (lv_at hl 3 rfl) ?_
  refine caR (r := .int (gRate w)) (va_runS (As := [.ref (r 3)]) (rest := [.int (gRate w)]) ⟨hx, hb, hml, hown, hts⟩ (c_L_rate l G y r w ) (va_cwS 1 hts gL_isSo_L_rate rfl rfl rfl (by decide +kernel) ⟨Nat.le_of_ble_eq_true rfl, Nat.le_of_ble_eq_true rfl⟩) ⟨rP_bl, fun U hU hW => ⟨rfl, by rw [hU]; exact (wL hP), Kb.moved hW hK⟩⟩ rfl rfl hl.1 rfl (lv_room (Nat.le_of_ble_eq_true rfl)) dL_isSo_27 ⟨Nat.le_of_ble_eq_true rfl, Nat.le_of_ble_eq_true rfl⟩) ?_
  refine lv_icmp_ne (tgt := 37) hx hb dL_isSo_30 (by decide) (fun c_30 => absurd (rfl) c_30) (fun c_30 => ?_)
  refine lv_iconst (v := 1) hx hb dL_isSo_33 (by decide) ?_
  refine lv_goto (tgt := 38) hx hb dL_isSo_34 (by decide) ?_
  refine lv_istore (lv' := [(6, .int 1), (0, .ref (a 13)), (1, .ref (r 1)), (2, .ref (r 2)), (3, .ref (r 3)), (4, .ref (r 4)), (5, .ref (r 0))]) hx hb dL_isSo_38 hl (by decide) rfl (fun ls hl => ?_)
  refine lv_iconst (v := 0) hx hb dL_isSo_40 (by decide) ?_
  refine lv_istore (lv' := [(7, .int 0), (6, .int 1), (0, .ref (a 13)), (1, .ref (r 1)), (2, .ref (r 2)), (3, .ref (r 3)), (4, .ref (r 4)), (5, .ref (r 0))]) hx hb dL_isSo_41 hl (by decide) rfl (fun ls hl => ?_)
  refine loopW (LV := fun k => [(0, .ref (a 13)), (1, .ref (r 1)), (2, .ref (r 2)), (3, .ref (r 3)), (4, .ref (r 4)), (5, .ref (r 0)), (6, .int 1), (7, .int (nI k))]) n (lv_sub hl [2, 3, 4, 5, 6, 7, 1, 0] rfl) (fun k ls hk_k hl ih_k => ?_) (fun ls hl => ?_)
  · have hl : lv_has ls 11 [(0, .ref (a 13)), (1, .ref (r 1)), (2, .ref (r 2)), (3, .ref (r 3)), (4, .ref (r 4)), (5, .ref (r 0)), (6, .int 1), (7, .int (nI k))] := hl
    refine lv_iload hx hb dL_isSo_43 (lv_at hl 7 rfl) ?_
    refine lv_aload hx hb dL_isSo_45 (lv_at hl 5 rfl) ?_
    refine lv_iconst (v := 1) hx hb dL_isSo_47 (by decide) ?_
    refine ldI (f := w 0) hx hb hK hP 0 ag_0 1 rfl (by decide) (by decide) dL_isSo_48 ?_
    refine lv_topE (z := nI n) (hw1) ?_
    refine lv_icmp_ge (tgt := 177) hx hb dL_isSo_49 (by decide) (fun c_49 => absurd c_49 (nI_ge hk_k (by omega))) (fun c_49 => ?_)
    refine lv_iload hx hb dL_isSo_52 (lv_at hl 6 rfl) ?_
    refine lv_if_eq (tgt := 177) hx hb dL_isSo_54 (by decide) (fun c_54 => absurd c_54 (by decide)) (fun c_54 => ?_)
    have hl9 := h.2.2 k hk_k
    have hB := gB_v hl9 hw0 ht47
    have ho47 : bo k ≤ 47 := by have := (hbo k hk_k).2; omega
    refine lv_iload hx hb dL_isSo_57 (lv_at hl 7 rfl) ?_
    refine lv_iconst (v := 0) hx hb dL_isSo_59 (by decide) ?_
    refine lv_aload_n hx hb dL_isSo_60 rfl (lv_at hl 1 rfl) ?_
    refine lv_aload_n hx hb dL_isSo_61 rfl (lv_at hl 2 rfl) ?_
    refine lv_aload hx hb dL_isSo_62 (lv_at hl 5 rfl) ?_
    refine caR (r := .int (gBe w k t (bo k) 0)) (va_runS (As := [.int (nI k), .int 0, .ref (r 1), .ref (r 2), .ref (r 0)]) (rest := []) ⟨hx, hb, hml, hown, hts⟩ (c_L_bears l G y r w k (by omega) 0 t hw0 ht47 (hmo k hk_k) (bo k) (hbo k hk_k).1 ho47) (va_cwS 5 hts gL_isSo_L_bears rfl rfl rfl (by decide +kernel) ⟨Nat.le_of_ble_eq_true rfl, Nat.le_of_ble_eq_true rfl⟩) ⟨rP_bl, fun U hU hW => ⟨rfl, by rw [hU]; exact (wL hP), Kb.moved hW hK⟩⟩ rfl rfl hl.1 rfl (lv_room (Nat.le_of_ble_eq_true rfl)) dL_isSo_64 ⟨Nat.le_of_ble_eq_true rfl, Nat.le_of_ble_eq_true rfl⟩) ?_
    refine lv_topE (z := lCust (L k) (pd k)) (hB.1) ?_
    refine lv_istore (lv' := [(8, .int (lCust (L k) (pd k))), (0, .ref (a 13)), (1, .ref (r 1)), (2, .ref (r 2)), (3, .ref (r 3)), (4, .ref (r 4)), (5, .ref (r 0)), (6, .int 1), (7, .int (nI k))]) hx hb dL_isSo_67 hl (by decide) rfl (fun ls hl => ?_)
    refine lv_iload hx hb dL_isSo_69 (lv_at hl 8 rfl) ?_
    refine lv_iconst (v := 1) hx hb dL_isSo_71 (by decide) ?_
    refine lv_aload_n hx hb dL_isSo_72 rfl (lv_at hl 2 rfl) ?_
    refine lv_aload_n hx hb dL_isSo_73 rfl (lv_at hl 3 rfl) ?_
    refine lv_aload hx hb dL_isSo_74 (lv_at hl 6 rfl) ?_
    refine caR (r := .int (gBe w k t (bo k) 1)) (va_runS (As := [.int (nI k), .int 1, .ref (r 1), .ref (r 2), .ref (r 0)]) (rest := []) ⟨hx, hb, hml, hown, hts⟩ (c_L_bears l G y r w k (by omega) 1 t hw0 ht47 (hmo k hk_k) (bo k) (hbo k hk_k).1 ho47) (va_cwS 5 hts gL_isSo_L_bears rfl rfl rfl (by decide +kernel) ⟨Nat.le_of_ble_eq_true rfl, Nat.le_of_ble_eq_true rfl⟩) ⟨rP_bl, fun U hU hW => ⟨rfl, by rw [hU]; exact (wL hP), Kb.moved hW hK⟩⟩ rfl rfl hl.1 rfl (lv_room (Nat.le_of_ble_eq_true rfl)) dL_isSo_76 ⟨Nat.le_of_ble_eq_true rfl, Nat.le_of_ble_eq_true rfl⟩) ?_
    refine lv_topE (z := lFund (L k) (pd k)) (hB.2.1) ?_
    refine lv_istore (lv' := [(9, .int (lFund (L k) (pd k))), (8, .int (lCust (L k) (pd k))), (0, .ref (a 13)), (1, .ref (r 1)), (2, .ref (r 2)), (3, .ref (r 3)), (4, .ref (r 4)), (5, .ref (r 0)), (6, .int 1), (7, .int (nI k))]) hx hb dL_isSo_79 hl (by decide) rfl (fun ls hl => ?_)
    refine lv_iload hx hb dL_isSo_81 (lv_at hl 9 rfl) ?_
    refine lv_iconst (v := 2) hx hb dL_isSo_83 (by decide) ?_
    refine lv_aload_n hx hb dL_isSo_84 rfl (lv_at hl 3 rfl) ?_
    refine lv_aload_n hx hb dL_isSo_85 rfl (lv_at hl 4 rfl) ?_
    refine lv_aload hx hb dL_isSo_86 (lv_at hl 7 rfl) ?_
    refine caR (r := .int (gBe w k t (bo k) 2)) (va_runS (As := [.int (nI k), .int 2, .ref (r 1), .ref (r 2), .ref (r 0)]) (rest := []) ⟨hx, hb, hml, hown, hts⟩ (c_L_bears l G y r w k (by omega) 2 t hw0 ht47 (hmo k hk_k) (bo k) (hbo k hk_k).1 ho47) (va_cwS 5 hts gL_isSo_L_bears rfl rfl rfl (by decide +kernel) ⟨Nat.le_of_ble_eq_true rfl, Nat.le_of_ble_eq_true rfl⟩) ⟨rP_bl, fun U hU hW => ⟨rfl, by rw [hU]; exact (wL hP), Kb.moved hW hK⟩⟩ rfl rfl hl.1 rfl (lv_room (Nat.le_of_ble_eq_true rfl)) dL_isSo_88 ⟨Nat.le_of_ble_eq_true rfl, Nat.le_of_ble_eq_true rfl⟩) ?_
    refine lv_topE (z := lOpt (L k) (pd k)) (hB.2.2) ?_
    refine lv_istore (lv' := [(10, .int (lOpt (L k) (pd k))), (9, .int (lFund (L k) (pd k))), (8, .int (lCust (L k) (pd k))), (0, .ref (a 13)), (1, .ref (r 1)), (2, .ref (r 2)), (3, .ref (r 3)), (4, .ref (r 4)), (5, .ref (r 0)), (6, .int 1), (7, .int (nI k))]) hx hb dL_isSo_91 hl (by decide) rfl (fun ls hl => ?_)
    refine lv_aload_n hx hb dL_isSo_93 rfl (lv_at hl 3 rfl) ?_
    refine lv_iload hx hb dL_isSo_94 (lv_at hl 10 rfl) ?_
    refine caR (r := .int (lUnp (L k) (pd k))) (va_runV (As := [.int (nI k)]) (rest := []) ⟨hx, hb, hml, hown, hts⟩ (cr_left l G y a b n la L hn24 pd hpd k hk_k) (cwV 1 hts gL_isSo_X2_left rfl rfl rfl (by decide +kernel) ⟨Nat.le_of_ble_eq_true rfl, Nat.le_of_ble_eq_true rfl⟩) ⟨rP_bl, va_recv hK.1 (wR hP) (ci := 2) (q0 := 0) rfl rfl, fun U hU hW => ⟨rfl, by rw [hU]; exact wR hP, Kb.moved hW hK⟩⟩ rfl rfl hl.1 rfl (lv_room (Nat.le_of_ble_eq_true rfl)) dL_isSo_96 ⟨Nat.le_of_ble_eq_true rfl, Nat.le_of_ble_eq_true rfl⟩) ?_
    refine lv_iload hx hb dL_isSo_99 (lv_at hl 10 rfl) ?_
    refine lv_aload_n hx hb dL_isSo_101 rfl (lv_at hl 4 rfl) ?_
    refine lv_aload hx hb dL_isSo_102 (lv_at hl 8 rfl) ?_
    refine caR (r := .int (gLeft w k t)) (va_runS (As := [.int (nI k), .ref (r 1), .ref (r 0)]) (rest := [.int (lUnp (L k) (pd k))]) ⟨hx, hb, hml, hown, hts⟩ (c_L_left l G y r w k (by omega) t hw0 ht47 (hmo k hk_k)) (va_cwS 3 hts gL_isSo_L_left rfl rfl rfl (by decide +kernel) ⟨Nat.le_of_ble_eq_true rfl, Nat.le_of_ble_eq_true rfl⟩) ⟨rP_bl, fun U hU hW => ⟨rfl, by rw [hU]; exact (wL hP), Kb.moved hW hK⟩⟩ rfl rfl hl.1 rfl (lv_room (Nat.le_of_ble_eq_true rfl)) dL_isSo_104 ⟨Nat.le_of_ble_eq_true rfl, Nat.le_of_ble_eq_true rfl⟩) ?_
    refine lv_topE (z := lUnp (L k) (pd k)) (gL_v hl9 hw0 ht47) ?_
    refine lv_icmp_ne (tgt := 168) hx hb dL_isSo_107 (by decide) (fun c_107 => absurd (rfl) c_107) (fun c_107 => ?_)
    refine lv_aload_n hx hb dL_isSo_110 rfl (lv_at hl 3 rfl) ?_
    refine lv_iload hx hb dL_isSo_111 (lv_at hl 10 rfl) ?_
    refine lv_iconst (v := 0) hx hb dL_isSo_113 (by decide) ?_
    refine caR (r := .int (bBear (L k) (pd k) (nI 0))) (va_runV (As := [.int (nI k), .int 0]) (rest := []) ⟨hx, hb, hml, hown, hts⟩ (cr_bears l G y a b n la L hn24 pd hpd k hk_k 0 (by decide)) (cwV 2 hts gL_isSo_X2_bears rfl rfl rfl (by decide +kernel) ⟨Nat.le_of_ble_eq_true rfl, Nat.le_of_ble_eq_true rfl⟩) ⟨rP_bl, va_recv hK.1 (wR hP) (ci := 2) (q0 := 0) rfl rfl, fun U hU hW => ⟨rfl, by rw [hU]; exact wR hP, Kb.moved hW hK⟩⟩ rfl rfl hl.1 rfl (lv_room (Nat.le_of_ble_eq_true rfl)) dL_isSo_114 ⟨Nat.le_of_ble_eq_true rfl, Nat.le_of_ble_eq_true rfl⟩) ?_
    refine lv_topE (z := lCust (L k) (pd k)) (rfl) ?_
    refine lv_iload hx hb dL_isSo_117 (lv_at hl 2 rfl) ?_
    refine lv_icmp_ne (tgt := 168) hx hb dL_isSo_119 (by decide) (fun c_119 => absurd (rfl) c_119) (fun c_119 => ?_)
    refine lv_aload_n hx hb dL_isSo_122 rfl (lv_at hl 3 rfl) ?_
    refine lv_iload hx hb dL_isSo_123 (lv_at hl 10 rfl) ?_
    refine lv_iconst (v := 1) hx hb dL_isSo_125 (by decide) ?_
    refine caR (r := .int (bBear (L k) (pd k) (nI 1))) (va_runV (As := [.int (nI k), .int 1]) (rest := []) ⟨hx, hb, hml, hown, hts⟩ (cr_bears l G y a b n la L hn24 pd hpd k hk_k 1 (by decide)) (cwV 2 hts gL_isSo_X2_bears rfl rfl rfl (by decide +kernel) ⟨Nat.le_of_ble_eq_true rfl, Nat.le_of_ble_eq_true rfl⟩) ⟨rP_bl, va_recv hK.1 (wR hP) (ci := 2) (q0 := 0) rfl rfl, fun U hU hW => ⟨rfl, by rw [hU]; exact wR hP, Kb.moved hW hK⟩⟩ rfl rfl hl.1 rfl (lv_room (Nat.le_of_ble_eq_true rfl)) dL_isSo_126 ⟨Nat.le_of_ble_eq_true rfl, Nat.le_of_ble_eq_true rfl⟩) ?_
    refine lv_topE (z := lFund (L k) (pd k)) (rfl) ?_
    refine lv_iload hx hb dL_isSo_129 (lv_at hl 1 rfl) ?_
    refine lv_icmp_ne (tgt := 168) hx hb dL_isSo_131 (by decide) (fun c_131 => absurd (rfl) c_131) (fun c_131 => ?_)
    refine lv_aload_n hx hb dL_isSo_134 rfl (lv_at hl 3 rfl) ?_
    refine lv_iload hx hb dL_isSo_135 (lv_at hl 10 rfl) ?_
    refine lv_iconst (v := 2) hx hb dL_isSo_137 (by decide) ?_
    refine caR (r := .int (bBear (L k) (pd k) (nI 2))) (va_runV (As := [.int (nI k), .int 2]) (rest := []) ⟨hx, hb, hml, hown, hts⟩ (cr_bears l G y a b n la L hn24 pd hpd k hk_k 2 (by decide)) (cwV 2 hts gL_isSo_X2_bears rfl rfl rfl (by decide +kernel) ⟨Nat.le_of_ble_eq_true rfl, Nat.le_of_ble_eq_true rfl⟩) ⟨rP_bl, va_recv hK.1 (wR hP) (ci := 2) (q0 := 0) rfl rfl, fun U hU hW => ⟨rfl, by rw [hU]; exact wR hP, Kb.moved hW hK⟩⟩ rfl rfl hl.1 rfl (lv_room (Nat.le_of_ble_eq_true rfl)) dL_isSo_138 ⟨Nat.le_of_ble_eq_true rfl, Nat.le_of_ble_eq_true rfl⟩) ?_
    refine lv_topE (z := lOpt (L k) (pd k)) (rfl) ?_
    refine lv_iload hx hb dL_isSo_141 (lv_at hl 0 rfl) ?_
    refine lv_icmp_ne (tgt := 168) hx hb dL_isSo_143 (by decide) (fun c_143 => absurd (rfl) c_143) (fun c_143 => ?_)
    refine lv_aload_n hx hb dL_isSo_146 rfl (lv_at hl 3 rfl) ?_
    refine lv_iload hx hb dL_isSo_147 (lv_at hl 10 rfl) ?_
    refine lv_iconst (v := 3) hx hb dL_isSo_149 (by decide) ?_
    refine caR (r := .int (bBear (L k) (pd k) (nI 3))) (va_runV (As := [.int (nI k), .int 3]) (rest := []) ⟨hx, hb, hml, hown, hts⟩ (cr_bears l G y a b n la L hn24 pd hpd k hk_k 3 (by decide)) (cwV 2 hts gL_isSo_X2_bears rfl rfl rfl (by decide +kernel) ⟨Nat.le_of_ble_eq_true rfl, Nat.le_of_ble_eq_true rfl⟩) ⟨rP_bl, va_recv hK.1 (wR hP) (ci := 2) (q0 := 0) rfl rfl, fun U hU hW => ⟨rfl, by rw [hU]; exact wR hP, Kb.moved hW hK⟩⟩ rfl rfl hl.1 rfl (lv_room (Nat.le_of_ble_eq_true rfl)) dL_isSo_150 ⟨Nat.le_of_ble_eq_true rfl, Nat.le_of_ble_eq_true rfl⟩) ?_
    refine lv_topE (z := lOwn (L k) (pd k)) (rfl) ?_
    refine lv_iload hx hb dL_isSo_153 (lv_at hl 2 rfl) ?_
    refine lv_iload hx hb dL_isSo_155 (lv_at hl 1 rfl) ?_
    refine lv_isub hx hb dL_isSo_157 ?_
    refine lv_iload hx hb dL_isSo_158 (lv_at hl 0 rfl) ?_
    refine lv_isub hx hb dL_isSo_160 ?_
    refine lv_icmp_ne (tgt := 168) hx hb dL_isSo_161 (by decide) (fun c_161 => absurd (rfl) c_161) (fun c_161 => ?_)
    refine lv_iconst (v := 1) hx hb dL_isSo_164 (by decide) ?_
    refine lv_goto (tgt := 169) hx hb dL_isSo_165 (by decide) ?_
    refine lv_istore (lv' := [(6, .int 1), (10, .int (lOpt (L k) (pd k))), (9, .int (lFund (L k) (pd k))), (8, .int (lCust (L k) (pd k))), (0, .ref (a 13)), (1, .ref (r 1)), (2, .ref (r 2)), (3, .ref (r 3)), (4, .ref (r 4)), (5, .ref (r 0)), (7, .int (nI k))]) hx hb dL_isSo_169 hl (by decide) rfl (fun ls hl => ?_)
    refine lv_iinc (v := (nI (k + 1))) (lv' := [(7, .int (nI (k + 1))), (6, .int 1), (10, .int (lOpt (L k) (pd k))), (9, .int (lFund (L k) (pd k))), (8, .int (lCust (L k) (pd k))), (0, .ref (a 13)), (1, .ref (r 1)), (2, .ref (r 2)), (3, .ref (r 3)), (4, .ref (r 4)), (5, .ref (r 0))]) hx hb dL_isSo_171 hl (k := 10) rfl iinc1 (by decide) rfl (fun ls hl => ?_)
    refine lv_goto (tgt := 43) hx hb dL_isSo_174 (by decide) ?_
    exact ih_k ls (lv_sub hl [5, 6, 7, 8, 9, 10, 1, 0] rfl)
  · have hl : lv_has ls 11 [(0, .ref (a 13)), (1, .ref (r 1)), (2, .ref (r 2)), (3, .ref (r 3)), (4, .ref (r 4)), (5, .ref (r 0)), (6, .int 1), (7, .int (nI n))] := hl
    refine lv_iload hx hb dL_isSo_43 (lv_at hl 7 rfl) ?_
    refine lv_aload hx hb dL_isSo_45 (lv_at hl 5 rfl) ?_
    refine lv_iconst (v := 1) hx hb dL_isSo_47 (by decide) ?_
    refine ldI (f := w 0) hx hb hK hP 0 ag_0 1 rfl (by decide) (by decide) dL_isSo_48 ?_
    refine lv_topE (z := nI n) (hw1) ?_
    refine lv_icmp_ge (tgt := 177) hx hb dL_isSo_49 (by decide) (fun c_49 => ?_) (fun c_49 => absurd (nI_le (Nat.le_refl n) (by omega)) c_49)
    refine lv_iconst (v := 0) hx hb dL_isSo_177 (by decide) ?_
    refine lv_istore (lv' := [(7, .int 0), (0, .ref (a 13)), (1, .ref (r 1)), (2, .ref (r 2)), (3, .ref (r 3)), (4, .ref (r 4)), (5, .ref (r 0)), (6, .int 1)]) hx hb dL_isSo_178 hl (by decide) rfl (fun ls hl => ?_)
    refine loopW (LV := fun k => [(0, .ref (a 13)), (1, .ref (r 1)), (2, .ref (r 2)), (3, .ref (r 3)), (4, .ref (r 4)), (5, .ref (r 0)), (6, .int 1), (7, .int (nI k))]) 6 (lv_sub hl [1, 2, 3, 4, 5, 6, 7, 0] rfl) (fun k ls hk_k hl ih_k => ?_) (fun ls hl => ?_)
    · have hl : lv_has ls 11 [(0, .ref (a 13)), (1, .ref (r 1)), (2, .ref (r 2)), (3, .ref (r 3)), (4, .ref (r 4)), (5, .ref (r 0)), (6, .int 1), (7, .int (nI k))] := hl
      refine lv_iload hx hb dL_isSo_180 (lv_at hl 7 rfl) ?_
      refine lv_bipush (v := 6) hx hb dL_isSo_182 (by decide) ?_
      refine lv_icmp_ge (tgt := 292) hx hb dL_isSo_184 (by decide) (fun c_184 => absurd c_184 (nI_ge hk_k (by decide))) (fun c_184 => ?_)
      refine lv_iload hx hb dL_isSo_187 (lv_at hl 6 rfl) ?_
      refine lv_if_eq (tgt := 292) hx hb dL_isSo_189 (by decide) (fun c_189 => absurd c_189 (by decide)) (fun c_189 => ?_)
      refine lv_iconst (v := 0) hx hb dL_isSo_192 (by decide) ?_
      refine lv_istore (lv' := [(8, .int 0), (0, .ref (a 13)), (1, .ref (r 1)), (2, .ref (r 2)), (3, .ref (r 3)), (4, .ref (r 4)), (5, .ref (r 0)), (6, .int 1), (7, .int (nI k))]) hx hb dL_isSo_193 hl (by decide) rfl (fun ls hl => ?_)
      refine lv_iconst (v := 0) hx hb dL_isSo_195 (by decide) ?_
      refine lv_istore (lv' := [(9, .int 0), (8, .int 0), (0, .ref (a 13)), (1, .ref (r 1)), (2, .ref (r 2)), (3, .ref (r 3)), (4, .ref (r 4)), (5, .ref (r 0)), (6, .int 1), (7, .int (nI k))]) hx hb dL_isSo_196 hl (by decide) rfl (fun ls hl => ?_)
      refine loopW (LV := fun i => [(0, .ref (a 13)), (1, .ref (r 1)), (2, .ref (r 2)), (3, .ref (r 3)), (4, .ref (r 4)), (5, .ref (r 0)), (6, .int 1), (7, .int (nI k)), (8, .int (S32 (fun q => gPart w q (t + k)) i)), (9, .int (nI i))]) n (lv_sub hl [2, 3, 4, 5, 6, 7, 8, 9, 1, 0] rfl) (fun i ls hk_i hl ih_i => ?_) (fun ls hl => ?_)
      · have hl : lv_has ls 11 [(0, .ref (a 13)), (1, .ref (r 1)), (2, .ref (r 2)), (3, .ref (r 3)), (4, .ref (r 4)), (5, .ref (r 0)), (6, .int 1), (7, .int (nI k)), (8, .int (S32 (fun q => gPart w q (t + k)) i)), (9, .int (nI i))] := hl
        refine lv_iload hx hb dL_isSo_198 (lv_at hl 9 rfl) ?_
        refine lv_aload hx hb dL_isSo_200 (lv_at hl 5 rfl) ?_
        refine lv_iconst (v := 1) hx hb dL_isSo_202 (by decide) ?_
        refine ldI (f := w 0) hx hb hK hP 0 ag_0 1 rfl (by decide) (by decide) dL_isSo_203 ?_
        refine lv_topE (z := nI n) (hw1) ?_
        refine lv_icmp_ge (tgt := 233) hx hb dL_isSo_204 (by decide) (fun c_204 => absurd c_204 (nI_ge hk_i (by omega))) (fun c_204 => ?_)
        refine lv_iload hx hb dL_isSo_207 (lv_at hl 8 rfl) ?_
        refine lv_iload hx hb dL_isSo_209 (lv_at hl 9 rfl) ?_
        refine lv_aload hx hb dL_isSo_211 (lv_at hl 5 rfl) ?_
        refine lv_iconst (v := 0) hx hb dL_isSo_213 (by decide) ?_
        refine ldI (f := w 0) hx hb hK hP 0 ag_0 0 rfl (by decide) (by decide) dL_isSo_214 ?_
        refine lv_topE (z := nI t) (hw0) ?_
        refine lv_iload hx hb dL_isSo_215 (lv_at hl 7 rfl) ?_
        refine lv_iadd hx hb dL_isSo_217 ?_
        refine lv_topE (z := nI (t + k)) (nI_add t k) ?_
        refine lv_aload_n hx hb dL_isSo_218 rfl (lv_at hl 1 rfl) ?_
        refine lv_aload hx hb dL_isSo_219 (lv_at hl 5 rfl) ?_
        refine caR (r := .int (gPart w i (t + k))) (va_runS (As := [.int (nI i), .int (nI (t + k)), .ref (r 1), .ref (r 0)]) (rest := [.int (S32 (fun q => gPart w q (t + k)) i)]) ⟨hx, hb, hml, hown, hts⟩ (c_L_part l G y r w i (by omega) (t + k) (hmo i hk_i)) (va_cwS 4 hts gL_isSo_L_part rfl rfl rfl (by decide +kernel) ⟨Nat.le_of_ble_eq_true rfl, Nat.le_of_ble_eq_true rfl⟩) ⟨rP_bl, fun U hU hW => ⟨rfl, by rw [hU]; exact (wL hP), Kb.moved hW hK⟩⟩ rfl rfl hl.1 rfl (lv_room (Nat.le_of_ble_eq_true rfl)) dL_isSo_221 ⟨Nat.le_of_ble_eq_true rfl, Nat.le_of_ble_eq_true rfl⟩) ?_
        refine lv_iadd hx hb dL_isSo_224 ?_
        refine lv_topE (z := S32 (fun q => gPart w q (t + k)) (i + 1)) (rfl) ?_
        refine lv_istore (lv' := [(8, .int (S32 (fun q => gPart w q (t + k)) (i + 1))), (0, .ref (a 13)), (1, .ref (r 1)), (2, .ref (r 2)), (3, .ref (r 3)), (4, .ref (r 4)), (5, .ref (r 0)), (6, .int 1), (7, .int (nI k)), (9, .int (nI i))]) hx hb dL_isSo_225 hl (by decide) rfl (fun ls hl => ?_)
        refine lv_iinc (v := (nI (i + 1))) (lv' := [(9, .int (nI (i + 1))), (8, .int (S32 (fun q => gPart w q (t + k)) (i + 1))), (0, .ref (a 13)), (1, .ref (r 1)), (2, .ref (r 2)), (3, .ref (r 3)), (4, .ref (r 4)), (5, .ref (r 0)), (6, .int 1), (7, .int (nI k))]) hx hb dL_isSo_227 hl (k := 9) rfl iinc1 (by decide) rfl (fun ls hl => ?_)
        refine lv_goto (tgt := 198) hx hb dL_isSo_230 (by decide) ?_
        exact ih_i ls (lv_sub hl [2, 3, 4, 5, 6, 7, 8, 9, 1, 0] rfl)
      · have hl : lv_has ls 11 [(0, .ref (a 13)), (1, .ref (r 1)), (2, .ref (r 2)), (3, .ref (r 3)), (4, .ref (r 4)), (5, .ref (r 0)), (6, .int 1), (7, .int (nI k)), (8, .int (S32 (fun q => gPart w q (t + k)) n)), (9, .int (nI n))] := hl
        refine lv_iload hx hb dL_isSo_198 (lv_at hl 9 rfl) ?_
        refine lv_aload hx hb dL_isSo_200 (lv_at hl 5 rfl) ?_
        refine lv_iconst (v := 1) hx hb dL_isSo_202 (by decide) ?_
        refine ldI (f := w 0) hx hb hK hP 0 ag_0 1 rfl (by decide) (by decide) dL_isSo_203 ?_
        refine lv_topE (z := nI n) (hw1) ?_
        refine lv_icmp_ge (tgt := 233) hx hb dL_isSo_204 (by decide) (fun c_204 => ?_) (fun c_204 => absurd (nI_le (Nat.le_refl n) (by omega)) c_204)
        refine lv_aload_n hx hb dL_isSo_233 rfl (lv_at hl 0 rfl) ?_
        refine lv_iload hx hb dL_isSo_234 (lv_at hl 7 rfl) ?_
        refine caR (r := .int (S32 (bSm n (bDu L pd k)) 24)) (va_runV (As := [.int (nI k)]) (rest := []) ⟨hx, hb, hml, hown, hts⟩ (cr_due l G y a b n la L pd hpd k hk_k) (cwV 1 hts gL_isSo_X2_due rfl rfl rfl (by decide +kernel) ⟨Nat.le_of_ble_eq_true rfl, Nat.le_of_ble_eq_true rfl⟩) ⟨rP_bl, va_recv hK.1 (wR hP) (ci := 2) (q0 := 0) rfl rfl, fun U hU hW => ⟨rfl, by rw [hU]; exact wR hP, Kb.moved hW hK⟩⟩ rfl rfl hl.1 rfl (lv_room (Nat.le_of_ble_eq_true rfl)) dL_isSo_236 ⟨Nat.le_of_ble_eq_true rfl, Nat.le_of_ble_eq_true rfl⟩) ?_
        refine lv_topE (z := S32 (fun q => gPart w q (t + k)) n) (q_due h hk_k) ?_
        refine lv_iload hx hb dL_isSo_239 (lv_at hl 8 rfl) ?_
        refine lv_icmp_ne (tgt := 283) hx hb dL_isSo_241 (by decide) (fun c_241 => absurd (rfl) c_241) (fun c_241 => ?_)
        refine lv_aload_n hx hb dL_isSo_244 rfl (lv_at hl 0 rfl) ?_
        refine lv_iload hx hb dL_isSo_245 (lv_at hl 7 rfl) ?_
        refine caR (r := .int (b 14 k)) (va_runV (As := [.int (nI k)]) (rest := []) ⟨hx, hb, hml, hown, hts⟩ (cr_tranche l G y a b n la L k hk_k) (cwV 1 hts gL_isSo_X2_tranche rfl rfl rfl (by decide +kernel) ⟨Nat.le_of_ble_eq_true rfl, Nat.le_of_ble_eq_true rfl⟩) ⟨rP_bl, va_recv hK.1 (wR hP) (ci := 2) (q0 := 0) rfl rfl, fun U hU hW => ⟨rfl, by rw [hU]; exact wR hP, Kb.moved hW hK⟩⟩ rfl rfl hl.1 rfl (lv_room (Nat.le_of_ble_eq_true rfl)) dL_isSo_247 ⟨Nat.le_of_ble_eq_true rfl, Nat.le_of_ble_eq_true rfl⟩) ?_
        refine lv_aload_n hx hb dL_isSo_250 rfl (lv_at hl 3 rfl) ?_
        refine lv_iload hx hb dL_isSo_251 (lv_at hl 7 rfl) ?_
        refine ldI (f := w 3) hx hb hK hP 3 ag_3 k rfl (by omega) (by decide) dL_isSo_253 ?_
        refine lv_icmp_ne (tgt := 283) hx hb dL_isSo_254 (by decide) (fun c_254 => absurd ((hT k hk_k).1) c_254) (fun c_254 => ?_)
        refine lv_iload hx hb dL_isSo_257 (lv_at hl 7 rfl) ?_
        refine lv_iconst (v := 2) hx hb dL_isSo_259 (by decide) ?_
        refine lv_icmp_gt (tgt := 279) hx hb dL_isSo_260 (by decide) (fun c_260 => ?_) (fun c_260 => ?_)
        · refine lv_iconst (v := 1) hx hb dL_isSo_279 (by decide) ?_
          refine lv_goto (tgt := 284) hx hb dL_isSo_280 (by decide) ?_
          refine lv_istore (lv' := [(6, .int 1), (0, .ref (a 13)), (1, .ref (r 1)), (2, .ref (r 2)), (3, .ref (r 3)), (4, .ref (r 4)), (5, .ref (r 0)), (7, .int (nI k)), (8, .int (S32 (fun q => gPart w q (t + k)) n)), (9, .int (nI n))]) hx hb dL_isSo_284 hl (by decide) rfl (fun ls hl => ?_)
          refine lv_iinc (v := (nI (k + 1))) (lv' := [(7, .int (nI (k + 1))), (6, .int 1), (0, .ref (a 13)), (1, .ref (r 1)), (2, .ref (r 2)), (3, .ref (r 3)), (4, .ref (r 4)), (5, .ref (r 0)), (8, .int (S32 (fun q => gPart w q (t + k)) n)), (9, .int (nI n))]) hx hb dL_isSo_286 hl (k := 7) rfl iinc1 (by decide) rfl (fun ls hl => ?_)
          refine lv_goto (tgt := 180) hx hb dL_isSo_289 (by decide) ?_
          exact ih_k ls (lv_sub hl [2, 3, 4, 5, 6, 7, 1, 0] rfl)
        · have hk3 : k < 3 := Nat.not_le.mp (fun q => c_260 (nI_lt (a := 2) (by omega) (by omega)))
          refine lv_aload_n hx hb dL_isSo_263 rfl (lv_at hl 0 rfl) ?_
          refine lv_iload hx hb dL_isSo_264 (lv_at hl 7 rfl) ?_
          refine caR (r := .int (b 7 k)) (va_runV (As := [.int (nI k)]) (rest := []) ⟨hx, hb, hml, hown, hts⟩ (cr_balance l G y a b n la L k hk3) (cwV 1 hts gL_isSo_X2_balance rfl rfl rfl (by decide +kernel) ⟨Nat.le_of_ble_eq_true rfl, Nat.le_of_ble_eq_true rfl⟩) ⟨rP_bl, va_recv hK.1 (wR hP) (ci := 2) (q0 := 0) rfl rfl, fun U hU hW => ⟨rfl, by rw [hU]; exact wR hP, Kb.moved hW hK⟩⟩ rfl rfl hl.1 rfl (lv_room (Nat.le_of_ble_eq_true rfl)) dL_isSo_266 ⟨Nat.le_of_ble_eq_true rfl, Nat.le_of_ble_eq_true rfl⟩) ?_
          refine lv_aload hx hb dL_isSo_269 (lv_at hl 5 rfl) ?_
          refine lv_iconst (v := 5) hx hb dL_isSo_271 (by decide) ?_
          refine lv_iload hx hb dL_isSo_272 (lv_at hl 7 rfl) ?_
          refine lv_iadd hx hb dL_isSo_274 ?_
          refine lv_topE (z := nI (5 + k)) (nI_add 5 k) ?_
          refine ldI (f := w 0) hx hb hK hP 0 ag_0 (5 + k) rfl (by omega) (by decide) dL_isSo_275 ?_
          refine lv_icmp_ne (tgt := 283) hx hb dL_isSo_276 (by decide) (fun c_276 => absurd ((h7 k hk3).1) c_276) (fun c_276 => ?_)
          refine lv_iconst (v := 1) hx hb dL_isSo_279 (by decide) ?_
          refine lv_goto (tgt := 284) hx hb dL_isSo_280 (by decide) ?_
          refine lv_istore (lv' := [(6, .int 1), (0, .ref (a 13)), (1, .ref (r 1)), (2, .ref (r 2)), (3, .ref (r 3)), (4, .ref (r 4)), (5, .ref (r 0)), (7, .int (nI k)), (8, .int (S32 (fun q => gPart w q (t + k)) n)), (9, .int (nI n))]) hx hb dL_isSo_284 hl (by decide) rfl (fun ls hl => ?_)
          refine lv_iinc (v := (nI (k + 1))) (lv' := [(7, .int (nI (k + 1))), (6, .int 1), (0, .ref (a 13)), (1, .ref (r 1)), (2, .ref (r 2)), (3, .ref (r 3)), (4, .ref (r 4)), (5, .ref (r 0)), (8, .int (S32 (fun q => gPart w q (t + k)) n)), (9, .int (nI n))]) hx hb dL_isSo_286 hl (k := 7) rfl iinc1 (by decide) rfl (fun ls hl => ?_)
          refine lv_goto (tgt := 180) hx hb dL_isSo_289 (by decide) ?_
          exact ih_k ls (lv_sub hl [2, 3, 4, 5, 6, 7, 1, 0] rfl)
    · have hl : lv_has ls 11 [(0, .ref (a 13)), (1, .ref (r 1)), (2, .ref (r 2)), (3, .ref (r 3)), (4, .ref (r 4)), (5, .ref (r 0)), (6, .int 1), (7, .int (nI 6))] := hl
      refine lv_iload hx hb dL_isSo_180 (lv_at hl 7 rfl) ?_
      refine lv_bipush (v := 6) hx hb dL_isSo_182 (by decide) ?_
      refine lv_icmp_ge (tgt := 292) hx hb dL_isSo_184 (by decide) (fun c_184 => ?_) (fun c_184 => absurd (nI_le (Nat.le_refl 6) (by decide)) c_184)
      refine lv_aload hx hb dL_isSo_292 (lv_at hl 5 rfl) ?_
      refine lv_iconst (v := 0) hx hb dL_isSo_294 (by decide) ?_
      refine ldI (f := w 0) hx hb hK hP 0 ag_0 0 rfl (by decide) (by decide) dL_isSo_295 ?_
      refine lv_topE (z := nI t) (hw0) ?_
      refine lv_bipush (v := 8) hx hb dL_isSo_296 (by decide) ?_
      refine lv_icmp_ge (tgt := 305) hx hb dL_isSo_298 (by decide) (fun c_298 => ?_) (fun c_298 => ?_)
      · have h8 : 8 ≤ t := Nat.not_lt.mp (fun q => nI_ge q (by decide) c_298)
        refine lv_aload hx hb dL_isSo_305 (lv_at hl 5 rfl) ?_
        refine lv_iconst (v := 0) hx hb dL_isSo_307 (by decide) ?_
        refine ldI (f := w 0) hx hb hK hP 0 ag_0 0 rfl (by decide) (by decide) dL_isSo_308 ?_
        refine lv_topE (z := nI t) (hw0) ?_
        refine lv_bipush (v := 8) hx hb dL_isSo_309 (by decide) ?_
        refine lv_isub hx hb dL_isSo_311 ?_
        refine lv_topE (z := nI (t - 8)) (nSB h8) ?_
        refine lv_istore (lv' := [(7, .int (nI (t - 8))), (0, .ref (a 13)), (1, .ref (r 1)), (2, .ref (r 2)), (3, .ref (r 3)), (4, .ref (r 4)), (5, .ref (r 0)), (6, .int 1)]) hx hb dL_isSo_312 hl (by decide) rfl (fun ls hl => ?_)
        refine loopF (LV := fun k => [(0, .ref (a 13)), (1, .ref (r 1)), (2, .ref (r 2)), (3, .ref (r 3)), (4, .ref (r 4)), (5, .ref (r 0)), (6, .int 1), (7, .int (nI k))]) (t - 8) t (by omega) (lv_sub hl [1, 2, 3, 4, 5, 6, 7, 0] rfl) (fun k ls hk0 hk_k hl ih_k => ?_) (fun ls hl => ?_)
        · have hl : lv_has ls 11 [(0, .ref (a 13)), (1, .ref (r 1)), (2, .ref (r 2)), (3, .ref (r 3)), (4, .ref (r 4)), (5, .ref (r 0)), (6, .int 1), (7, .int (nI k))] := hl
          have hm9 := hM k hk_k (by omega)
          have hat := gA_lt k
          refine lv_iload hx hb dL_isSo_314 (lv_at hl 7 rfl) ?_
          refine lv_aload hx hb dL_isSo_316 (lv_at hl 5 rfl) ?_
          refine lv_iconst (v := 0) hx hb dL_isSo_318 (by decide) ?_
          refine ldI (f := w 0) hx hb hK hP 0 ag_0 0 rfl (by decide) (by decide) dL_isSo_319 ?_
          refine lv_topE (z := nI t) (hw0) ?_
          refine lv_icmp_ge (tgt := 457) hx hb dL_isSo_320 (by decide) (fun c_320 => absurd c_320 (nI_ge hk_k (by omega))) (fun c_320 => ?_)
          refine lv_iload hx hb dL_isSo_323 (lv_at hl 6 rfl) ?_
          refine lv_if_eq (tgt := 457) hx hb dL_isSo_325 (by decide) (fun c_325 => absurd c_325 (by decide)) (fun c_325 => ?_)
          refine lv_bipush (v := 8) hx hb dL_isSo_328 (by decide) ?_
          refine lv_iload hx hb dL_isSo_330 (lv_at hl 7 rfl) ?_
          refine lv_bipush (v := 8) hx hb dL_isSo_332 (by decide) ?_
          refine lv_irem hx hb dL_isSo_334 (by decide) ?_
          refine lv_topE (z := nI (k % 8)) (pk_rem (by omega) (by decide) (by decide)) ?_
          refine lv_imul hx hb dL_isSo_335 ?_
          refine lv_topE (z := nI (8 * (k % 8))) (m8 (a := 8) (b := k % 8)) ?_
          refine lv_topE (z := nI (gA k)) (rfl) ?_
          refine lv_istore (lv' := [(8, .int (nI (gA k))), (0, .ref (a 13)), (1, .ref (r 1)), (2, .ref (r 2)), (3, .ref (r 3)), (4, .ref (r 4)), (5, .ref (r 0)), (6, .int 1), (7, .int (nI k))]) hx hb dL_isSo_336 hl (by decide) rfl (fun ls hl => ?_)
          refine lv_iconst (v := 0) hx hb dL_isSo_338 (by decide) ?_
          refine lv_istore (lv' := [(9, .int 0), (8, .int (nI (gA k))), (0, .ref (a 13)), (1, .ref (r 1)), (2, .ref (r 2)), (3, .ref (r 3)), (4, .ref (r 4)), (5, .ref (r 0)), (6, .int 1), (7, .int (nI k))]) hx hb dL_isSo_339 hl (by decide) rfl (fun ls hl => ?_)
          refine loopW (LV := fun i => [(0, .ref (a 13)), (1, .ref (r 1)), (2, .ref (r 2)), (3, .ref (r 3)), (4, .ref (r 4)), (5, .ref (r 0)), (6, .int 1), (7, .int (nI k)), (8, .int (nI (gA k))), (9, .int (nI i))]) 3 (lv_sub hl [2, 3, 4, 5, 6, 7, 8, 9, 1, 0] rfl) (fun i ls hk_i hl ih_i => ?_) (fun ls hl => ?_)
          · have hl : lv_has ls 11 [(0, .ref (a 13)), (1, .ref (r 1)), (2, .ref (r 2)), (3, .ref (r 3)), (4, .ref (r 4)), (5, .ref (r 0)), (6, .int 1), (7, .int (nI k)), (8, .int (nI (gA k))), (9, .int (nI i))] := hl
            refine lv_iload hx hb dL_isSo_341 (lv_at hl 9 rfl) ?_
            refine lv_iconst (v := 3) hx hb dL_isSo_343 (by decide) ?_
            refine lv_icmp_ge (tgt := 405) hx hb dL_isSo_344 (by decide) (fun c_344 => absurd c_344 (nI_ge hk_i (by decide))) (fun c_344 => ?_)
            refine lv_iload hx hb dL_isSo_347 (lv_at hl 6 rfl) ?_
            refine lv_if_eq (tgt := 405) hx hb dL_isSo_349 (by decide) (fun c_349 => absurd c_349 (by decide)) (fun c_349 => ?_)
            refine lv_aload_n hx hb dL_isSo_352 rfl (lv_at hl 0 rfl) ?_
            refine lv_iload hx hb dL_isSo_353 (lv_at hl 9 rfl) ?_
            refine lv_iload hx hb dL_isSo_355 (lv_at hl 7 rfl) ?_
            refine caR (r := .int (b (16 + i) k)) (va_runV (As := [.int (nI i), .int (nI k)]) (rest := []) ⟨hx, hb, hml, hown, hts⟩ (cr_margin l G y a b n la L t hbt ht47 i hk_i k hk_k) (cwV 2 hts gL_isSo_X2_margin rfl rfl rfl (by decide +kernel) ⟨Nat.le_of_ble_eq_true rfl, Nat.le_of_ble_eq_true rfl⟩) ⟨rP_bl, va_recv hK.1 (wR hP) (ci := 2) (q0 := 0) rfl rfl, fun U hU hW => ⟨rfl, by rw [hU]; exact wR hP, Kb.moved hW hK⟩⟩ rfl rfl hl.1 rfl (lv_room (Nat.le_of_ble_eq_true rfl)) dL_isSo_357 ⟨Nat.le_of_ble_eq_true rfl, Nat.le_of_ble_eq_true rfl⟩) ?_
            refine lv_aload hx hb dL_isSo_360 (lv_at hl 4 rfl) ?_
            refine lv_iload hx hb dL_isSo_362 (lv_at hl 8 rfl) ?_
            refine lv_iload hx hb dL_isSo_364 (lv_at hl 9 rfl) ?_
            refine lv_iadd hx hb dL_isSo_366 ?_
            refine lv_topE (z := nI ((gA k) + i)) (nI_add (gA k) i) ?_
            refine ldI (f := w 4) hx hb hK hP 4 ag_4 ((gA k) + i) rfl (by omega) (by decide) dL_isSo_367 ?_
            refine lv_icmp_ne (tgt := 396) hx hb dL_isSo_368 (by decide) (fun c_368 => absurd ((hm9.1 i hk_i).1) c_368) (fun c_368 => ?_)
            refine lv_aload_n hx hb dL_isSo_371 rfl (lv_at hl 0 rfl) ?_
            refine lv_iload hx hb dL_isSo_372 (lv_at hl 9 rfl) ?_
            refine lv_iload hx hb dL_isSo_374 (lv_at hl 7 rfl) ?_
            refine caR (r := .int (b (19 + i) k)) (va_runV (As := [.int (nI i), .int (nI k)]) (rest := []) ⟨hx, hb, hml, hown, hts⟩ (cr_byProduct l G y a b n la L t hbt ht47 i hk_i k hk_k) (cwV 2 hts gL_isSo_X2_byProduct rfl rfl rfl (by decide +kernel) ⟨Nat.le_of_ble_eq_true rfl, Nat.le_of_ble_eq_true rfl⟩) ⟨rP_bl, va_recv hK.1 (wR hP) (ci := 2) (q0 := 0) rfl rfl, fun U hU hW => ⟨rfl, by rw [hU]; exact wR hP, Kb.moved hW hK⟩⟩ rfl rfl hl.1 rfl (lv_room (Nat.le_of_ble_eq_true rfl)) dL_isSo_376 ⟨Nat.le_of_ble_eq_true rfl, Nat.le_of_ble_eq_true rfl⟩) ?_
            refine lv_aload hx hb dL_isSo_379 (lv_at hl 4 rfl) ?_
            refine lv_iload hx hb dL_isSo_381 (lv_at hl 8 rfl) ?_
            refine lv_iconst (v := 3) hx hb dL_isSo_383 (by decide) ?_
            refine lv_iadd hx hb dL_isSo_384 ?_
            refine lv_topE (z := nI ((gA k) + 3)) (nI_add (gA k) 3) ?_
            refine lv_iload hx hb dL_isSo_385 (lv_at hl 9 rfl) ?_
            refine lv_iadd hx hb dL_isSo_387 ?_
            refine lv_topE (z := nI (((gA k) + 3) + i)) (nI_add ((gA k) + 3) i) ?_
            refine ldI (f := w 4) hx hb hK hP 4 ag_4 (((gA k) + 3) + i) rfl (by omega) (by decide) dL_isSo_388 ?_
            refine lv_icmp_ne (tgt := 396) hx hb dL_isSo_389 (by decide) (fun c_389 => absurd ((hm9.1 i hk_i).2) c_389) (fun c_389 => ?_)
            refine lv_iconst (v := 1) hx hb dL_isSo_392 (by decide) ?_
            refine lv_goto (tgt := 397) hx hb dL_isSo_393 (by decide) ?_
            refine lv_istore (lv' := [(6, .int 1), (0, .ref (a 13)), (1, .ref (r 1)), (2, .ref (r 2)), (3, .ref (r 3)), (4, .ref (r 4)), (5, .ref (r 0)), (7, .int (nI k)), (8, .int (nI (gA k))), (9, .int (nI i))]) hx hb dL_isSo_397 hl (by decide) rfl (fun ls hl => ?_)
            refine lv_iinc (v := (nI (i + 1))) (lv' := [(9, .int (nI (i + 1))), (6, .int 1), (0, .ref (a 13)), (1, .ref (r 1)), (2, .ref (r 2)), (3, .ref (r 3)), (4, .ref (r 4)), (5, .ref (r 0)), (7, .int (nI k)), (8, .int (nI (gA k)))]) hx hb dL_isSo_399 hl (k := 9) rfl iinc1 (by decide) rfl (fun ls hl => ?_)
            refine lv_goto (tgt := 341) hx hb dL_isSo_402 (by decide) ?_
            exact ih_i ls (lv_sub hl [2, 3, 4, 5, 6, 7, 1, 8, 9, 0] rfl)
          · have hl : lv_has ls 11 [(0, .ref (a 13)), (1, .ref (r 1)), (2, .ref (r 2)), (3, .ref (r 3)), (4, .ref (r 4)), (5, .ref (r 0)), (6, .int 1), (7, .int (nI k)), (8, .int (nI (gA k))), (9, .int (nI 3))] := hl
            refine lv_iload hx hb dL_isSo_341 (lv_at hl 9 rfl) ?_
            refine lv_iconst (v := 3) hx hb dL_isSo_343 (by decide) ?_
            refine lv_icmp_ge (tgt := 405) hx hb dL_isSo_344 (by decide) (fun c_344 => ?_) (fun c_344 => absurd (nI_le (Nat.le_refl 3) (by decide)) c_344)
            refine lv_iload hx hb dL_isSo_405 (lv_at hl 6 rfl) ?_
            refine lv_if_eq (tgt := 448) hx hb dL_isSo_407 (by decide) (fun c_407 => absurd c_407 (by decide)) (fun c_407 => ?_)
            refine lv_aload_n hx hb dL_isSo_410 rfl (lv_at hl 0 rfl) ?_
            refine lv_iload hx hb dL_isSo_411 (lv_at hl 7 rfl) ?_
            refine caR (r := .int (b 11 k)) (va_runV (As := [.int (nI k)]) (rest := []) ⟨hx, hb, hml, hown, hts⟩ (cr_treasury l G y a b n la L t hbt ht47 k hk_k) (cwV 1 hts gL_isSo_X2_treasury rfl rfl rfl (by decide +kernel) ⟨Nat.le_of_ble_eq_true rfl, Nat.le_of_ble_eq_true rfl⟩) ⟨rP_bl, va_recv hK.1 (wR hP) (ci := 2) (q0 := 0) rfl rfl, fun U hU hW => ⟨rfl, by rw [hU]; exact wR hP, Kb.moved hW hK⟩⟩ rfl rfl hl.1 rfl (lv_room (Nat.le_of_ble_eq_true rfl)) dL_isSo_413 ⟨Nat.le_of_ble_eq_true rfl, Nat.le_of_ble_eq_true rfl⟩) ?_
            refine lv_aload hx hb dL_isSo_416 (lv_at hl 4 rfl) ?_
            refine lv_iload hx hb dL_isSo_418 (lv_at hl 8 rfl) ?_
            refine lv_bipush (v := 6) hx hb dL_isSo_420 (by decide) ?_
            refine lv_iadd hx hb dL_isSo_422 ?_
            refine lv_topE (z := nI ((gA k) + 6)) (nI_add (gA k) 6) ?_
            refine ldI (f := w 4) hx hb hK hP 4 ag_4 ((gA k) + 6) rfl (by omega) (by decide) dL_isSo_423 ?_
            refine lv_icmp_ne (tgt := 448) hx hb dL_isSo_424 (by decide) (fun c_424 => absurd (hm9.2.1) c_424) (fun c_424 => ?_)
            refine lv_aload_n hx hb dL_isSo_427 rfl (lv_at hl 0 rfl) ?_
            refine lv_iload hx hb dL_isSo_428 (lv_at hl 7 rfl) ?_
            refine caR (r := .int (b 12 k)) (va_runV (As := [.int (nI k)]) (rest := []) ⟨hx, hb, hml, hown, hts⟩ (cr_interest l G y a b n la L t hbt ht47 k hk_k) (cwV 1 hts gL_isSo_X2_interest rfl rfl rfl (by decide +kernel) ⟨Nat.le_of_ble_eq_true rfl, Nat.le_of_ble_eq_true rfl⟩) ⟨rP_bl, va_recv hK.1 (wR hP) (ci := 2) (q0 := 0) rfl rfl, fun U hU hW => ⟨rfl, by rw [hU]; exact wR hP, Kb.moved hW hK⟩⟩ rfl rfl hl.1 rfl (lv_room (Nat.le_of_ble_eq_true rfl)) dL_isSo_430 ⟨Nat.le_of_ble_eq_true rfl, Nat.le_of_ble_eq_true rfl⟩) ?_
            refine lv_aload hx hb dL_isSo_433 (lv_at hl 4 rfl) ?_
            refine lv_iload hx hb dL_isSo_435 (lv_at hl 8 rfl) ?_
            refine lv_bipush (v := 7) hx hb dL_isSo_437 (by decide) ?_
            refine lv_iadd hx hb dL_isSo_439 ?_
            refine lv_topE (z := nI ((gA k) + 7)) (nI_add (gA k) 7) ?_
            refine ldI (f := w 4) hx hb hK hP 4 ag_4 ((gA k) + 7) rfl (by omega) (by decide) dL_isSo_440 ?_
            refine lv_icmp_ne (tgt := 448) hx hb dL_isSo_441 (by decide) (fun c_441 => absurd (hm9.2.2) c_441) (fun c_441 => ?_)
            refine lv_iconst (v := 1) hx hb dL_isSo_444 (by decide) ?_
            refine lv_goto (tgt := 449) hx hb dL_isSo_445 (by decide) ?_
            refine lv_istore (lv' := [(6, .int 1), (0, .ref (a 13)), (1, .ref (r 1)), (2, .ref (r 2)), (3, .ref (r 3)), (4, .ref (r 4)), (5, .ref (r 0)), (7, .int (nI k)), (8, .int (nI (gA k))), (9, .int (nI 3))]) hx hb dL_isSo_449 hl (by decide) rfl (fun ls hl => ?_)
            refine lv_iinc (v := (nI (k + 1))) (lv' := [(7, .int (nI (k + 1))), (6, .int 1), (0, .ref (a 13)), (1, .ref (r 1)), (2, .ref (r 2)), (3, .ref (r 3)), (4, .ref (r 4)), (5, .ref (r 0)), (8, .int (nI (gA k))), (9, .int (nI 3))]) hx hb dL_isSo_451 hl (k := 7) rfl iinc1 (by decide) rfl (fun ls hl => ?_)
            refine lv_goto (tgt := 314) hx hb dL_isSo_454 (by decide) ?_
            exact ih_k ls (lv_sub hl [2, 3, 4, 5, 6, 7, 1, 0] rfl)
        · have hl : lv_has ls 11 [(0, .ref (a 13)), (1, .ref (r 1)), (2, .ref (r 2)), (3, .ref (r 3)), (4, .ref (r 4)), (5, .ref (r 0)), (6, .int 1), (7, .int (nI t))] := hl
          refine lv_iload hx hb dL_isSo_314 (lv_at hl 7 rfl) ?_
          refine lv_aload hx hb dL_isSo_316 (lv_at hl 5 rfl) ?_
          refine lv_iconst (v := 0) hx hb dL_isSo_318 (by decide) ?_
          refine ldI (f := w 0) hx hb hK hP 0 ag_0 0 rfl (by decide) (by decide) dL_isSo_319 ?_
          refine lv_topE (z := nI t) (hw0) ?_
          refine lv_icmp_ge (tgt := 457) hx hb dL_isSo_320 (by decide) (fun c_320 => ?_) (fun c_320 => absurd (nI_le (Nat.le_refl t) (by omega)) c_320)
          refine lv_iload hx hb dL_isSo_457 (lv_at hl 6 rfl) ?_
          exact W.zret (v := 1) hx hb hr rfl (fun t ht hW => ⟨congrArg (fun z => Outcome.returned (some (.int z))) (rfl), ht⟩) t_nil dL_isSo_459
      · have h8 : t < 8 := Nat.not_le.mp (fun q => c_298 (nI_le q (by omega)))
        refine lv_iconst (v := 0) hx hb dL_isSo_301 (by decide) ?_
        refine lv_goto (tgt := 312) hx hb dL_isSo_302 (by decide) ?_
        refine lv_topE (z := nI (t - 8)) (by rw [show t - 8 = 0 by omega]; rfl) ?_
        refine lv_istore (lv' := [(7, .int (nI (t - 8))), (0, .ref (a 13)), (1, .ref (r 1)), (2, .ref (r 2)), (3, .ref (r 3)), (4, .ref (r 4)), (5, .ref (r 0)), (6, .int 1)]) hx hb dL_isSo_312 hl (by decide) rfl (fun ls hl => ?_)
        refine loopF (LV := fun k => [(0, .ref (a 13)), (1, .ref (r 1)), (2, .ref (r 2)), (3, .ref (r 3)), (4, .ref (r 4)), (5, .ref (r 0)), (6, .int 1), (7, .int (nI k))]) (t - 8) t (by omega) (lv_sub hl [1, 2, 3, 4, 5, 6, 7, 0] rfl) (fun k ls hk0 hk_k hl ih_k => ?_) (fun ls hl => ?_)
        · have hl : lv_has ls 11 [(0, .ref (a 13)), (1, .ref (r 1)), (2, .ref (r 2)), (3, .ref (r 3)), (4, .ref (r 4)), (5, .ref (r 0)), (6, .int 1), (7, .int (nI k))] := hl
          have hm9 := hM k hk_k (by omega)
          have hat := gA_lt k
          refine lv_iload hx hb dL_isSo_314 (lv_at hl 7 rfl) ?_
          refine lv_aload hx hb dL_isSo_316 (lv_at hl 5 rfl) ?_
          refine lv_iconst (v := 0) hx hb dL_isSo_318 (by decide) ?_
          refine ldI (f := w 0) hx hb hK hP 0 ag_0 0 rfl (by decide) (by decide) dL_isSo_319 ?_
          refine lv_topE (z := nI t) (hw0) ?_
          refine lv_icmp_ge (tgt := 457) hx hb dL_isSo_320 (by decide) (fun c_320 => absurd c_320 (nI_ge hk_k (by omega))) (fun c_320 => ?_)
          refine lv_iload hx hb dL_isSo_323 (lv_at hl 6 rfl) ?_
          refine lv_if_eq (tgt := 457) hx hb dL_isSo_325 (by decide) (fun c_325 => absurd c_325 (by decide)) (fun c_325 => ?_)
          refine lv_bipush (v := 8) hx hb dL_isSo_328 (by decide) ?_
          refine lv_iload hx hb dL_isSo_330 (lv_at hl 7 rfl) ?_
          refine lv_bipush (v := 8) hx hb dL_isSo_332 (by decide) ?_
          refine lv_irem hx hb dL_isSo_334 (by decide) ?_
          refine lv_topE (z := nI (k % 8)) (pk_rem (by omega) (by decide) (by decide)) ?_
          refine lv_imul hx hb dL_isSo_335 ?_
          refine lv_topE (z := nI (8 * (k % 8))) (m8 (a := 8) (b := k % 8)) ?_
          refine lv_topE (z := nI (gA k)) (rfl) ?_
          refine lv_istore (lv' := [(8, .int (nI (gA k))), (0, .ref (a 13)), (1, .ref (r 1)), (2, .ref (r 2)), (3, .ref (r 3)), (4, .ref (r 4)), (5, .ref (r 0)), (6, .int 1), (7, .int (nI k))]) hx hb dL_isSo_336 hl (by decide) rfl (fun ls hl => ?_)
          refine lv_iconst (v := 0) hx hb dL_isSo_338 (by decide) ?_
          refine lv_istore (lv' := [(9, .int 0), (8, .int (nI (gA k))), (0, .ref (a 13)), (1, .ref (r 1)), (2, .ref (r 2)), (3, .ref (r 3)), (4, .ref (r 4)), (5, .ref (r 0)), (6, .int 1), (7, .int (nI k))]) hx hb dL_isSo_339 hl (by decide) rfl (fun ls hl => ?_)
          refine loopW (LV := fun i => [(0, .ref (a 13)), (1, .ref (r 1)), (2, .ref (r 2)), (3, .ref (r 3)), (4, .ref (r 4)), (5, .ref (r 0)), (6, .int 1), (7, .int (nI k)), (8, .int (nI (gA k))), (9, .int (nI i))]) 3 (lv_sub hl [2, 3, 4, 5, 6, 7, 8, 9, 1, 0] rfl) (fun i ls hk_i hl ih_i => ?_) (fun ls hl => ?_)
          · have hl : lv_has ls 11 [(0, .ref (a 13)), (1, .ref (r 1)), (2, .ref (r 2)), (3, .ref (r 3)), (4, .ref (r 4)), (5, .ref (r 0)), (6, .int 1), (7, .int (nI k)), (8, .int (nI (gA k))), (9, .int (nI i))] := hl
            refine lv_iload hx hb dL_isSo_341 (lv_at hl 9 rfl) ?_
            refine lv_iconst (v := 3) hx hb dL_isSo_343 (by decide) ?_
            refine lv_icmp_ge (tgt := 405) hx hb dL_isSo_344 (by decide) (fun c_344 => absurd c_344 (nI_ge hk_i (by decide))) (fun c_344 => ?_)
            refine lv_iload hx hb dL_isSo_347 (lv_at hl 6 rfl) ?_
            refine lv_if_eq (tgt := 405) hx hb dL_isSo_349 (by decide) (fun c_349 => absurd c_349 (by decide)) (fun c_349 => ?_)
            refine lv_aload_n hx hb dL_isSo_352 rfl (lv_at hl 0 rfl) ?_
            refine lv_iload hx hb dL_isSo_353 (lv_at hl 9 rfl) ?_
            refine lv_iload hx hb dL_isSo_355 (lv_at hl 7 rfl) ?_
            refine caR (r := .int (b (16 + i) k)) (va_runV (As := [.int (nI i), .int (nI k)]) (rest := []) ⟨hx, hb, hml, hown, hts⟩ (cr_margin l G y a b n la L t hbt ht47 i hk_i k hk_k) (cwV 2 hts gL_isSo_X2_margin rfl rfl rfl (by decide +kernel) ⟨Nat.le_of_ble_eq_true rfl, Nat.le_of_ble_eq_true rfl⟩) ⟨rP_bl, va_recv hK.1 (wR hP) (ci := 2) (q0 := 0) rfl rfl, fun U hU hW => ⟨rfl, by rw [hU]; exact wR hP, Kb.moved hW hK⟩⟩ rfl rfl hl.1 rfl (lv_room (Nat.le_of_ble_eq_true rfl)) dL_isSo_357 ⟨Nat.le_of_ble_eq_true rfl, Nat.le_of_ble_eq_true rfl⟩) ?_
            refine lv_aload hx hb dL_isSo_360 (lv_at hl 4 rfl) ?_
            refine lv_iload hx hb dL_isSo_362 (lv_at hl 8 rfl) ?_
            refine lv_iload hx hb dL_isSo_364 (lv_at hl 9 rfl) ?_
            refine lv_iadd hx hb dL_isSo_366 ?_
            refine lv_topE (z := nI ((gA k) + i)) (nI_add (gA k) i) ?_
            refine ldI (f := w 4) hx hb hK hP 4 ag_4 ((gA k) + i) rfl (by omega) (by decide) dL_isSo_367 ?_
            refine lv_icmp_ne (tgt := 396) hx hb dL_isSo_368 (by decide) (fun c_368 => absurd ((hm9.1 i hk_i).1) c_368) (fun c_368 => ?_)
            refine lv_aload_n hx hb dL_isSo_371 rfl (lv_at hl 0 rfl) ?_
            refine lv_iload hx hb dL_isSo_372 (lv_at hl 9 rfl) ?_
            refine lv_iload hx hb dL_isSo_374 (lv_at hl 7 rfl) ?_
            refine caR (r := .int (b (19 + i) k)) (va_runV (As := [.int (nI i), .int (nI k)]) (rest := []) ⟨hx, hb, hml, hown, hts⟩ (cr_byProduct l G y a b n la L t hbt ht47 i hk_i k hk_k) (cwV 2 hts gL_isSo_X2_byProduct rfl rfl rfl (by decide +kernel) ⟨Nat.le_of_ble_eq_true rfl, Nat.le_of_ble_eq_true rfl⟩) ⟨rP_bl, va_recv hK.1 (wR hP) (ci := 2) (q0 := 0) rfl rfl, fun U hU hW => ⟨rfl, by rw [hU]; exact wR hP, Kb.moved hW hK⟩⟩ rfl rfl hl.1 rfl (lv_room (Nat.le_of_ble_eq_true rfl)) dL_isSo_376 ⟨Nat.le_of_ble_eq_true rfl, Nat.le_of_ble_eq_true rfl⟩) ?_
            refine lv_aload hx hb dL_isSo_379 (lv_at hl 4 rfl) ?_
            refine lv_iload hx hb dL_isSo_381 (lv_at hl 8 rfl) ?_
            refine lv_iconst (v := 3) hx hb dL_isSo_383 (by decide) ?_
            refine lv_iadd hx hb dL_isSo_384 ?_
            refine lv_topE (z := nI ((gA k) + 3)) (nI_add (gA k) 3) ?_
            refine lv_iload hx hb dL_isSo_385 (lv_at hl 9 rfl) ?_
            refine lv_iadd hx hb dL_isSo_387 ?_
            refine lv_topE (z := nI (((gA k) + 3) + i)) (nI_add ((gA k) + 3) i) ?_
            refine ldI (f := w 4) hx hb hK hP 4 ag_4 (((gA k) + 3) + i) rfl (by omega) (by decide) dL_isSo_388 ?_
            refine lv_icmp_ne (tgt := 396) hx hb dL_isSo_389 (by decide) (fun c_389 => absurd ((hm9.1 i hk_i).2) c_389) (fun c_389 => ?_)
            refine lv_iconst (v := 1) hx hb dL_isSo_392 (by decide) ?_
            refine lv_goto (tgt := 397) hx hb dL_isSo_393 (by decide) ?_
            refine lv_istore (lv' := [(6, .int 1), (0, .ref (a 13)), (1, .ref (r 1)), (2, .ref (r 2)), (3, .ref (r 3)), (4, .ref (r 4)), (5, .ref (r 0)), (7, .int (nI k)), (8, .int (nI (gA k))), (9, .int (nI i))]) hx hb dL_isSo_397 hl (by decide) rfl (fun ls hl => ?_)
            refine lv_iinc (v := (nI (i + 1))) (lv' := [(9, .int (nI (i + 1))), (6, .int 1), (0, .ref (a 13)), (1, .ref (r 1)), (2, .ref (r 2)), (3, .ref (r 3)), (4, .ref (r 4)), (5, .ref (r 0)), (7, .int (nI k)), (8, .int (nI (gA k)))]) hx hb dL_isSo_399 hl (k := 9) rfl iinc1 (by decide) rfl (fun ls hl => ?_)
            refine lv_goto (tgt := 341) hx hb dL_isSo_402 (by decide) ?_
            exact ih_i ls (lv_sub hl [2, 3, 4, 5, 6, 7, 1, 8, 9, 0] rfl)
          · have hl : lv_has ls 11 [(0, .ref (a 13)), (1, .ref (r 1)), (2, .ref (r 2)), (3, .ref (r 3)), (4, .ref (r 4)), (5, .ref (r 0)), (6, .int 1), (7, .int (nI k)), (8, .int (nI (gA k))), (9, .int (nI 3))] := hl
            refine lv_iload hx hb dL_isSo_341 (lv_at hl 9 rfl) ?_
            refine lv_iconst (v := 3) hx hb dL_isSo_343 (by decide) ?_
            refine lv_icmp_ge (tgt := 405) hx hb dL_isSo_344 (by decide) (fun c_344 => ?_) (fun c_344 => absurd (nI_le (Nat.le_refl 3) (by decide)) c_344)
            refine lv_iload hx hb dL_isSo_405 (lv_at hl 6 rfl) ?_
            refine lv_if_eq (tgt := 448) hx hb dL_isSo_407 (by decide) (fun c_407 => absurd c_407 (by decide)) (fun c_407 => ?_)
            refine lv_aload_n hx hb dL_isSo_410 rfl (lv_at hl 0 rfl) ?_
            refine lv_iload hx hb dL_isSo_411 (lv_at hl 7 rfl) ?_
            refine caR (r := .int (b 11 k)) (va_runV (As := [.int (nI k)]) (rest := []) ⟨hx, hb, hml, hown, hts⟩ (cr_treasury l G y a b n la L t hbt ht47 k hk_k) (cwV 1 hts gL_isSo_X2_treasury rfl rfl rfl (by decide +kernel) ⟨Nat.le_of_ble_eq_true rfl, Nat.le_of_ble_eq_true rfl⟩) ⟨rP_bl, va_recv hK.1 (wR hP) (ci := 2) (q0 := 0) rfl rfl, fun U hU hW => ⟨rfl, by rw [hU]; exact wR hP, Kb.moved hW hK⟩⟩ rfl rfl hl.1 rfl (lv_room (Nat.le_of_ble_eq_true rfl)) dL_isSo_413 ⟨Nat.le_of_ble_eq_true rfl, Nat.le_of_ble_eq_true rfl⟩) ?_
            refine lv_aload hx hb dL_isSo_416 (lv_at hl 4 rfl) ?_
            refine lv_iload hx hb dL_isSo_418 (lv_at hl 8 rfl) ?_
            refine lv_bipush (v := 6) hx hb dL_isSo_420 (by decide) ?_
            refine lv_iadd hx hb dL_isSo_422 ?_
            refine lv_topE (z := nI ((gA k) + 6)) (nI_add (gA k) 6) ?_
            refine ldI (f := w 4) hx hb hK hP 4 ag_4 ((gA k) + 6) rfl (by omega) (by decide) dL_isSo_423 ?_
            refine lv_icmp_ne (tgt := 448) hx hb dL_isSo_424 (by decide) (fun c_424 => absurd (hm9.2.1) c_424) (fun c_424 => ?_)
            refine lv_aload_n hx hb dL_isSo_427 rfl (lv_at hl 0 rfl) ?_
            refine lv_iload hx hb dL_isSo_428 (lv_at hl 7 rfl) ?_
            refine caR (r := .int (b 12 k)) (va_runV (As := [.int (nI k)]) (rest := []) ⟨hx, hb, hml, hown, hts⟩ (cr_interest l G y a b n la L t hbt ht47 k hk_k) (cwV 1 hts gL_isSo_X2_interest rfl rfl rfl (by decide +kernel) ⟨Nat.le_of_ble_eq_true rfl, Nat.le_of_ble_eq_true rfl⟩) ⟨rP_bl, va_recv hK.1 (wR hP) (ci := 2) (q0 := 0) rfl rfl, fun U hU hW => ⟨rfl, by rw [hU]; exact wR hP, Kb.moved hW hK⟩⟩ rfl rfl hl.1 rfl (lv_room (Nat.le_of_ble_eq_true rfl)) dL_isSo_430 ⟨Nat.le_of_ble_eq_true rfl, Nat.le_of_ble_eq_true rfl⟩) ?_
            refine lv_aload hx hb dL_isSo_433 (lv_at hl 4 rfl) ?_
            refine lv_iload hx hb dL_isSo_435 (lv_at hl 8 rfl) ?_
            refine lv_bipush (v := 7) hx hb dL_isSo_437 (by decide) ?_
            refine lv_iadd hx hb dL_isSo_439 ?_
            refine lv_topE (z := nI ((gA k) + 7)) (nI_add (gA k) 7) ?_
            refine ldI (f := w 4) hx hb hK hP 4 ag_4 ((gA k) + 7) rfl (by omega) (by decide) dL_isSo_440 ?_
            refine lv_icmp_ne (tgt := 448) hx hb dL_isSo_441 (by decide) (fun c_441 => absurd (hm9.2.2) c_441) (fun c_441 => ?_)
            refine lv_iconst (v := 1) hx hb dL_isSo_444 (by decide) ?_
            refine lv_goto (tgt := 449) hx hb dL_isSo_445 (by decide) ?_
            refine lv_istore (lv' := [(6, .int 1), (0, .ref (a 13)), (1, .ref (r 1)), (2, .ref (r 2)), (3, .ref (r 3)), (4, .ref (r 4)), (5, .ref (r 0)), (7, .int (nI k)), (8, .int (nI (gA k))), (9, .int (nI 3))]) hx hb dL_isSo_449 hl (by decide) rfl (fun ls hl => ?_)
            refine lv_iinc (v := (nI (k + 1))) (lv' := [(7, .int (nI (k + 1))), (6, .int 1), (0, .ref (a 13)), (1, .ref (r 1)), (2, .ref (r 2)), (3, .ref (r 3)), (4, .ref (r 4)), (5, .ref (r 0)), (8, .int (nI (gA k))), (9, .int (nI 3))]) hx hb dL_isSo_451 hl (k := 7) rfl iinc1 (by decide) rfl (fun ls hl => ?_)
            refine lv_goto (tgt := 314) hx hb dL_isSo_454 (by decide) ?_
            exact ih_k ls (lv_sub hl [2, 3, 4, 5, 6, 7, 1, 0] rfl)
        · have hl : lv_has ls 11 [(0, .ref (a 13)), (1, .ref (r 1)), (2, .ref (r 2)), (3, .ref (r 3)), (4, .ref (r 4)), (5, .ref (r 0)), (6, .int 1), (7, .int (nI t))] := hl
          refine lv_iload hx hb dL_isSo_314 (lv_at hl 7 rfl) ?_
          refine lv_aload hx hb dL_isSo_316 (lv_at hl 5 rfl) ?_
          refine lv_iconst (v := 0) hx hb dL_isSo_318 (by decide) ?_
          refine ldI (f := w 0) hx hb hK hP 0 ag_0 0 rfl (by decide) (by decide) dL_isSo_319 ?_
          refine lv_topE (z := nI t) (hw0) ?_
          refine lv_icmp_ge (tgt := 457) hx hb dL_isSo_320 (by decide) (fun c_320 => ?_) (fun c_320 => absurd (nI_le (Nat.le_refl t) (by omega)) c_320)
          refine lv_iload hx hb dL_isSo_457 (lv_at hl 6 rfl) ?_
          exact W.zret (v := 1) hx hb hr rfl (fun t ht hW => ⟨congrArg (fun z => Outcome.returned (some (.int z))) (rfl), ht⟩) t_nil dL_isSo_459
