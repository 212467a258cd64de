/-! ===== the book's calls that may throw (printed by a program of mine) ===== -/
set_option maxHeartbeats 4000000 in
set_option maxRecDepth 100000 in
theorem c_X2_setCurve (l : Launch) (hlt : l.stackTraces = false) (G : va_G) (y : Nat → ClassId) (a : Nat → Nat) (b : MS) (n : Nat) (la : Nat → Nat → Nat) (L : LNS) (sz : Nat) (x r : Int32) : vx_Met l yX2_setCurve wsX2_setCurve ({ frames := 6, cells := 1, slots := 6, locals := 82 }) (xP G y [.ref (a 13), .int x, .int r] (bkW y a b n la L) sz) (mQ G (fun _ : Unit => some (.int (b 0 (cn x - 1)))) (fun _ => (xSetCurve x r) = 0) (fun _ => bkW y a (u2 b 0 (cn x - 1) r) n la L) (va_A (bkW y a b n la L) sz)) (xX G (fun E => E = exN ((xSetCurve x r)) ∧ ¬ (xSetCurve x r) = 0) (bkW y a b n la L) (va_A (bkW y a b n la L) sz)) 1 6 (va_A (bkW y a b n la L) sz) := by
  refine vx_ofW (cc := cX2_setCurve) (maxL := 4) (ret := (some .int)) (by decide) rfl ?_
  intro p e s m args below meth c s₁ B hml hout hv
  obtain ⟨rfl, hsz, hP, hK, hD0, hZ⟩ := hv
  have hx := B.exec
  have hb := B.bytes
  have hr := B.returns
  have hts := atoms_spec (ws := wsX2_setCurve) B.pre
  have hown : s.vm.findClass RX2 = some m.cls := findClass_of_methodNamed B.named
  have hlocks := B.notSynchronized
  subst hsz
  have hD := hD0.self (sz := s.heap.size)
  generalize hAe : va_A (bkW y a b n la L) s.heap.size = A at hD hZ ⊢
  have hA : ∀ q : Nat, s.heap.size ≤ q → A q := fun q h => by rw [← hAe]; exact Or.inr h
  have hS : va_S A s.heap s.heap [] := va_S.rf
  have hP : va_P G vwCl (bkW y a b n la L) s.heap := hP
  have hl := lv_entry ([.ref (a 13), .int x, .int r]) (n := 4) (Nat.le_of_ble_eq_true rfl)
  rw [lg_entry_eq]
  generalize (lg_sl ([.ref (a 13), .int x, .int r]) ++ List.replicate (4 - (lg_sl ([.ref (a 13), .int x, .int r])).length) Slot.unset).toArray = ls at hl ⊢
  have hin2 : ∀ w ∈ wsX20, w ∈ wsX2_setCurve := by decide +kernel
  have hl : lv_has ls 4 [(0, .ref (a 13)), (1, .int x), (2, .int r)] := hl
  refine lv_iload_n hx hb dX2_setCurve_0 rfl (lv_at hl 1 rfl) ?_
  refine lv_iconst (v := 1) hx hb dX2_setCurve_1 (by decide) ?_
  refine lv_icmp_lt (tgt := 11) hx hb dX2_setCurve_2 (by decide) (fun c_2 => ?_) (fun c_2 => ?_)
  · have ev : (xSetCurve x r) = 1 := by unfold xSetCurve; exact (if_pos c_2)
    obtain ⟨sa, hsa⟩ := hK.2.2.2.1 (61, "no such term") (by decide +kernel)
    exact vx_throwS (names := ["java/lang/RuntimeException", "java/lang/Exception"]) (cls := "java/lang/IndexOutOfBoundsException") (text := "no such term") hx hb hlt hown (by decide +kernel) (by decide +kernel) (hts (.classLink RX2 59 "java/lang/IndexOutOfBoundsException") (by decide +kernel)) (hts (.initialized "java/lang/IndexOutOfBoundsException") (by decide +kernel)) hsa (vx_hat (B := .castable "java/lang/IndexOutOfBoundsException" "java/lang/IndexOutOfBoundsException" :: twD.map Cond.declares) (fun w hw => hts w (List.mem_cons_of_mem _ (List.mem_append_left _ (List.mem_append_right _ hw)))) (by decide +kernel) (hK.2.thrB (by decide +kernel))) (by decide +kernel) hZ.1 hZ.2 hS (by rw [hml]; exact hl.1) dX2_setCurve_11 dX2_setCurve_14 dX2_setCurve_15 dX2_setCurve_17 dX2_setCurve_20 (fun x hx => (hout x hx).elim) (Nat.le_of_ble_eq_true rfl) (Nat.le_of_ble_eq_true rfl) (Nat.le_of_ble_eq_true rfl) (Nat.le_of_ble_eq_true rfl) hlocks (fun t _ h1 h2 => ⟨(), trivial, ⟨⟨by rw [ev]; rfl, by rw [ev]; decide⟩, hP.kept (fun k q hk => h2 q.1 (hP k q hk).lt), hD⟩, ⟨h1, fun q hq _ => h2 q hq⟩⟩) t_nil (Nat.le_of_ble_eq_true rfl) (Nat.le_of_ble_eq_true rfl)
  · refine lv_iload_n hx hb dX2_setCurve_5 rfl (lv_at hl 1 rfl) ?_
    refine lv_bipush (v := 6) hx hb dX2_setCurve_6 (by decide) ?_
    refine lv_icmp_le (tgt := 21) hx hb dX2_setCurve_8 (by decide) (fun c_8 => ?_) (fun c_8 => ?_)
    · refine lv_iload_n hx hb dX2_setCurve_21 rfl (lv_at hl 2 rfl) ?_
      refine lv_if_lt (tgt := 32) hx hb dX2_setCurve_22 (by decide) (fun c_22 => ?_) (fun c_22 => ?_)
      · have ev : (xSetCurve x r) = 2 := by unfold xSetCurve; exact (if_neg c_2).trans ((if_neg (Int32.not_lt.mpr c_8)).trans ((if_pos c_22)))
        obtain ⟨sa, hsa⟩ := hK.2.2.2.1 (68, "rate out of range") (by decide +kernel)
        exact vx_throwS (names := ["java/lang/RuntimeException", "java/lang/Exception"]) (cls := "java/lang/IllegalArgumentException") (text := "rate out of range") hx hb hlt hown (by decide +kernel) (by decide +kernel) (hts (.classLink RX2 66 "java/lang/IllegalArgumentException") (by decide +kernel)) (hts (.initialized "java/lang/IllegalArgumentException") (by decide +kernel)) hsa (vx_hat (B := .castable "java/lang/IllegalArgumentException" "java/lang/IllegalArgumentException" :: twD.map Cond.declares) (fun w hw => hts w (List.mem_cons_of_mem _ (List.mem_append_right _ hw))) (by decide +kernel) (hK.2.thrB (by decide +kernel))) (by decide +kernel) hZ.1 hZ.2 hS (by rw [hml]; exact hl.1) dX2_setCurve_32 dX2_setCurve_35 dX2_setCurve_36 dX2_setCurve_38 dX2_setCurve_41 (fun x hx => (hout x hx).elim) (Nat.le_of_ble_eq_true rfl) (Nat.le_of_ble_eq_true rfl) (Nat.le_of_ble_eq_true rfl) (Nat.le_of_ble_eq_true rfl) hlocks (fun t _ h1 h2 => ⟨(), trivial, ⟨⟨by rw [ev]; rfl, by rw [ev]; decide⟩, hP.kept (fun k q hk => h2 q.1 (hP k q hk).lt), hD⟩, ⟨h1, fun q hq _ => h2 q hq⟩⟩) t_nil (Nat.le_of_ble_eq_true rfl) (Nat.le_of_ble_eq_true rfl)
      · refine lv_iload_n hx hb dX2_setCurve_25 rfl (lv_at hl 2 rfl) ?_
        refine lv_sipush (v := 5000) hx hb dX2_setCurve_26 (by decide) ?_
        refine lv_icmp_le (tgt := 42) hx hb dX2_setCurve_29 (by decide) (fun c_29 => ?_) (fun c_29 => ?_)
        · have ev : xSetCurve x r = 0 := by unfold xSetCurve; exact (if_neg c_2).trans ((if_neg (Int32.not_lt.mpr c_8)).trans ((if_neg c_22).trans ((if_neg (Int32.not_lt.mpr c_29)))))
          obtain ⟨i, hi, rfl⟩ := inS c_2 (Int32.not_lt.mpr c_8)
          have e1 : cn (nI (i + 1)) - 1 = i := by rw [cnI (by omega)]; rfl
          refine lv_aload_n hx hb dX2_setCurve_42 rfl (lv_at hl 0 rfl) ?_
          refine bkG (b := b) (val := .ref (a 0)) hx hb hts hin2 hown hK hP 0 (by decide) (hts (.fieldLink RX2 9 "FundBook" "curve" "[I") (by decide +kernel)) rfl dX2_setCurve_43 ?_
          refine lv_iload_n hx hb dX2_setCurve_46 rfl (lv_at hl 1 rfl) ?_
          refine lv_iconst (v := 1) hx hb dX2_setCurve_47 (by decide) ?_
          refine lv_isub hx hb dX2_setCurve_48 ?_
          refine lv_topE (z := nI i) (nI_pred i) ?_
          refine ldI (f := b 0) hx hb hK hP 1 bg_0 i rfl (by omega) (by decide) dX2_setCurve_49 ?_
          refine lv_istore_n (lv' := [(3, .int (b 0 i)), (0, .ref (a 13)), (1, .int (nI (i + 1))), (2, .int r)]) hx hb dX2_setCurve_50 rfl hl (by decide) rfl (fun ls hl => ?_)
          refine lv_aload_n hx hb dX2_setCurve_51 rfl (lv_at hl 1 rfl) ?_
          refine bkG (b := b) (val := .ref (a 0)) hx hb hts hin2 hown hK hP 0 (by decide) (hts (.fieldLink RX2 9 "FundBook" "curve" "[I") (by decide +kernel)) rfl dX2_setCurve_52 ?_
          refine lv_iload_n hx hb dX2_setCurve_55 rfl (lv_at hl 2 rfl) ?_
          refine lv_iconst (v := 1) hx hb dX2_setCurve_56 (by decide) ?_
          refine lv_isub hx hb dX2_setCurve_57 ?_
          refine lv_topE (z := nI i) (nI_pred i) ?_
          refine lv_iload_n hx hb dX2_setCurve_58 rfl (lv_at hl 3 rfl) ?_
          refine stI (f := b 0) (ws1 := bkW y a (u2 b 0 i r) n la L) hx hb hK hP hD hS 1 bg_0 i rfl (by omega) (by decide) bs_0 dX2_setCurve_59 (fun H locs hP hD hS => ?_)
          refine lv_iload_n hx hb dX2_setCurve_60 rfl (lv_at hl 0 rfl) ?_
          refine vx_ret ?_
          refine W.widen (k := 1) (n := 6) (Nat.le_of_ble_eq_true rfl) (Nat.le_of_ble_eq_true rfl) ?_
          exact W.iret (v := b 0 i) hx hb hr (fun t ht hW => ⟨⟨(), congrArg (fun z => Outcome.returned (some (.int z))) (by rw [e1]), ev, by rw [ht]; rw [e1]; exact hP, by rw [e1]; exact hD⟩, hS.F ht⟩) hS.2.2 dX2_setCurve_61
        · have ev : (xSetCurve x r) = 2 := by unfold xSetCurve; exact (if_neg c_2).trans ((if_neg (Int32.not_lt.mpr c_8)).trans ((if_neg c_22).trans ((if_pos (Int32.not_le.mp c_29)))))
          obtain ⟨sa, hsa⟩ := hK.2.2.2.1 (68, "rate out of range") (by decide +kernel)
          exact vx_throwS (names := ["java/lang/RuntimeException", "java/lang/Exception"]) (cls := "java/lang/IllegalArgumentException") (text := "rate out of range") hx hb hlt hown (by decide +kernel) (by decide +kernel) (hts (.classLink RX2 66 "java/lang/IllegalArgumentException") (by decide +kernel)) (hts (.initialized "java/lang/IllegalArgumentException") (by decide +kernel)) hsa (vx_hat (B := .castable "java/lang/IllegalArgumentException" "java/lang/IllegalArgumentException" :: twD.map Cond.declares) (fun w hw => hts w (List.mem_cons_of_mem _ (List.mem_append_right _ hw))) (by decide +kernel) (hK.2.thrB (by decide +kernel))) (by decide +kernel) hZ.1 hZ.2 hS (by rw [hml]; exact hl.1) dX2_setCurve_32 dX2_setCurve_35 dX2_setCurve_36 dX2_setCurve_38 dX2_setCurve_41 (fun x hx => (hout x hx).elim) (Nat.le_of_ble_eq_true rfl) (Nat.le_of_ble_eq_true rfl) (Nat.le_of_ble_eq_true rfl) (Nat.le_of_ble_eq_true rfl) hlocks (fun t _ h1 h2 => ⟨(), trivial, ⟨⟨by rw [ev]; rfl, by rw [ev]; decide⟩, hP.kept (fun k q hk => h2 q.1 (hP k q hk).lt), hD⟩, ⟨h1, fun q hq _ => h2 q hq⟩⟩) t_nil (Nat.le_of_ble_eq_true rfl) (Nat.le_of_ble_eq_true rfl)
    · have ev : (xSetCurve x r) = 1 := by unfold xSetCurve; exact (if_neg c_2).trans ((if_pos (Int32.not_le.mp c_8)))
      obtain ⟨sa, hsa⟩ := hK.2.2.2.1 (61, "no such term") (by decide +kernel)
      exact vx_throwS (names := ["java/lang/RuntimeException", "java/lang/Exception"]) (cls := "java/lang/IndexOutOfBoundsException") (text := "no such term") hx hb hlt hown (by decide +kernel) (by decide +kernel) (hts (.classLink RX2 59 "java/lang/IndexOutOfBoundsException") (by decide +kernel)) (hts (.initialized "java/lang/IndexOutOfBoundsException") (by decide +kernel)) hsa (vx_hat (B := .castable "java/lang/IndexOutOfBoundsException" "java/lang/IndexOutOfBoundsException" :: twD.map Cond.declares) (fun w hw => hts w (List.mem_cons_of_mem _ (List.mem_append_left _ (List.mem_append_right _ hw)))) (by decide +kernel) (hK.2.thrB (by decide +kernel))) (by decide +kernel) hZ.1 hZ.2 hS (by rw [hml]; exact hl.1) dX2_setCurve_11 dX2_setCurve_14 dX2_setCurve_15 dX2_setCurve_17 dX2_setCurve_20 (fun x hx => (hout x hx).elim) (Nat.le_of_ble_eq_true rfl) (Nat.le_of_ble_eq_true rfl) (Nat.le_of_ble_eq_true rfl) (Nat.le_of_ble_eq_true rfl) hlocks (fun t _ h1 h2 => ⟨(), trivial, ⟨⟨by rw [ev]; rfl, by rw [ev]; decide⟩, hP.kept (fun k q hk => h2 q.1 (hP k q hk).lt), hD⟩, ⟨h1, fun q hq _ => h2 q hq⟩⟩) t_nil (Nat.le_of_ble_eq_true rfl) (Nat.le_of_ble_eq_true rfl)
set_option maxHeartbeats 4000000 in
set_option maxRecDepth 100000 in
theorem c_X2_setRates (l : Launch) (hlt : l.stackTraces = false) (G : va_G) (y : Nat → ClassId) (a : Nat → Nat) (b : MS) (n : Nat) (la : Nat → Nat → Nat) (L : LNS) (sz : Nat) (d o c0 : Int32) : vx_Met l yX2_setRates wsX2_setRates ({ frames := 6, cells := 1, slots := 6, locals := 82 }) (xP G y [.ref (a 13), .int d, .int o, .int c0] (bkW y a b n la L) sz) (mQ G (fun _ : Unit => none) (fun _ => (xSetRates d o c0) = 0) (fun _ => bkW y a (bSetRates b d o c0) n la L) (va_A (bkW y a b n la L) sz)) (xX G (fun E => E = exN ((xSetRates d o c0)) ∧ ¬ (xSetRates d o c0) = 0) (bkW y a b n la L) (va_A (bkW y a b n la L) sz)) 1 6 (va_A (bkW y a b n la L) sz) := by
  refine vx_ofW (cc := cX2_setRates) (maxL := 4) (ret := none) (by decide) rfl ?_
  intro p e s m args below meth c s₁ B hml hout hv
  obtain ⟨rfl, hsz, hP, hK, hD0, hZ⟩ := hv
  have hx := B.exec
  have hb := B.bytes
  have hr := B.returns
  have hts := atoms_spec (ws := wsX2_setRates) B.pre
  have hown : s.vm.findClass RX2 = some m.cls := findClass_of_methodNamed B.named
  have hlocks := B.notSynchronized
  subst hsz
  have hD := hD0.self (sz := s.heap.size)
  generalize hAe : va_A (bkW y a b n la L) s.heap.size = A at hD hZ ⊢
  have hA : ∀ q : Nat, s.heap.size ≤ q → A q := fun q h => by rw [← hAe]; exact Or.inr h
  have hS : va_S A s.heap s.heap [] := va_S.rf
  have hP : va_P G vwCl (bkW y a b n la L) s.heap := hP
  have hl := lv_entry ([.ref (a 13), .int d, .int o, .int c0]) (n := 4) (Nat.le_of_ble_eq_true rfl)
  rw [lg_entry_eq]
  generalize (lg_sl ([.ref (a 13), .int d, .int o, .int c0]) ++ List.replicate (4 - (lg_sl ([.ref (a 13), .int d, .int o, .int c0])).length) Slot.unset).toArray = ls at hl ⊢
  have hin2 : ∀ w ∈ wsX20, w ∈ wsX2_setRates := by decide +kernel
  have hl : lv_has ls 4 [(0, .ref (a 13)), (1, .int d), (2, .int o), (3, .int c0)] := hl
  refine lv_iload_n hx hb dX2_setRates_0 rfl (lv_at hl 1 rfl) ?_
  refine lv_if_lt (tgt := 11) hx hb dX2_setRates_1 (by decide) (fun c_1 => ?_) (fun c_1 => ?_)
  · have ev : (xSetRates d o c0) = 2 := by unfold xSetRates; exact (if_pos c_1)
    obtain ⟨sa, hsa⟩ := hK.2.2.2.1 (71, "deposit rate out of range") (by decide +kernel)
    exact vx_throwS (names := ["java/lang/RuntimeException", "java/lang/Exception"]) (cls := "java/lang/IllegalArgumentException") (text := "deposit rate out of range") hx hb hlt hown (by decide +kernel) (by decide +kernel) (hts (.classLink RX2 66 "java/lang/IllegalArgumentException") (by decide +kernel)) (hts (.initialized "java/lang/IllegalArgumentException") (by decide +kernel)) hsa (vx_hat (B := .castable "java/lang/IllegalArgumentException" "java/lang/IllegalArgumentException" :: twD.map Cond.declares) (fun w hw => hts w (List.mem_cons_of_mem _ (List.mem_append_right _ hw))) (by decide +kernel) (hK.2.thrB (by decide +kernel))) (by decide +kernel) hZ.1 hZ.2 hS (by rw [hml]; exact hl.1) dX2_setRates_11 dX2_setRates_14 dX2_setRates_15 dX2_setRates_17 dX2_setRates_20 (fun x hx => (hout x hx).elim) (Nat.le_of_ble_eq_true rfl) (Nat.le_of_ble_eq_true rfl) (Nat.le_of_ble_eq_true rfl) (Nat.le_of_ble_eq_true rfl) hlocks (fun t _ h1 h2 => ⟨(), trivial, ⟨⟨by rw [ev]; rfl, by rw [ev]; decide⟩, hP.kept (fun k q hk => h2 q.1 (hP k q hk).lt), hD⟩, ⟨h1, fun q hq _ => h2 q hq⟩⟩) t_nil (Nat.le_of_ble_eq_true rfl) (Nat.le_of_ble_eq_true rfl)
  · refine lv_iload_n hx hb dX2_setRates_4 rfl (lv_at hl 1 rfl) ?_
    refine lv_sipush (v := 5000) hx hb dX2_setRates_5 (by decide) ?_
    refine lv_icmp_le (tgt := 21) hx hb dX2_setRates_8 (by decide) (fun c_8 => ?_) (fun c_8 => ?_)
    · refine lv_iload_n hx hb dX2_setRates_21 rfl (lv_at hl 2 rfl) ?_
      refine lv_if_lt (tgt := 32) hx hb dX2_setRates_22 (by decide) (fun c_22 => ?_) (fun c_22 => ?_)
      · have ev : (xSetRates d o c0) = 2 := by unfold xSetRates; exact (if_neg c_1).trans ((if_neg (Int32.not_lt.mpr c_8)).trans ((if_pos c_22)))
        obtain ⟨sa, hsa⟩ := hK.2.2.2.1 (73, "option rate out of range") (by decide +kernel)
        exact vx_throwS (names := ["java/lang/RuntimeException", "java/lang/Exception"]) (cls := "java/lang/IllegalArgumentException") (text := "option rate out of range") hx hb hlt hown (by decide +kernel) (by decide +kernel) (hts (.classLink RX2 66 "java/lang/IllegalArgumentException") (by decide +kernel)) (hts (.initialized "java/lang/IllegalArgumentException") (by decide +kernel)) hsa (vx_hat (B := .castable "java/lang/IllegalArgumentException" "java/lang/IllegalArgumentException" :: twD.map Cond.declares) (fun w hw => hts w (List.mem_cons_of_mem _ (List.mem_append_right _ hw))) (by decide +kernel) (hK.2.thrB (by decide +kernel))) (by decide +kernel) hZ.1 hZ.2 hS (by rw [hml]; exact hl.1) dX2_setRates_32 dX2_setRates_35 dX2_setRates_36 dX2_setRates_38 dX2_setRates_41 (fun x hx => (hout x hx).elim) (Nat.le_of_ble_eq_true rfl) (Nat.le_of_ble_eq_true rfl) (Nat.le_of_ble_eq_true rfl) (Nat.le_of_ble_eq_true rfl) hlocks (fun t _ h1 h2 => ⟨(), trivial, ⟨⟨by rw [ev]; rfl, by rw [ev]; decide⟩, hP.kept (fun k q hk => h2 q.1 (hP k q hk).lt), hD⟩, ⟨h1, fun q hq _ => h2 q hq⟩⟩) t_nil (Nat.le_of_ble_eq_true rfl) (Nat.le_of_ble_eq_true rfl)
      · refine lv_iload_n hx hb dX2_setRates_25 rfl (lv_at hl 2 rfl) ?_
        refine lv_sipush (v := 5000) hx hb dX2_setRates_26 (by decide) ?_
        refine lv_icmp_le (tgt := 42) hx hb dX2_setRates_29 (by decide) (fun c_29 => ?_) (fun c_29 => ?_)
        · refine lv_iload_n hx hb dX2_setRates_42 rfl (lv_at hl 3 rfl) ?_
          refine lv_if_lt (tgt := 52) hx hb dX2_setRates_43 (by decide) (fun c_43 => ?_) (fun c_43 => ?_)
          · have ev : (xSetRates d o c0) = 2 := by unfold xSetRates; exact (if_neg c_1).trans ((if_neg (Int32.not_lt.mpr c_8)).trans ((if_neg c_22).trans ((if_neg (Int32.not_lt.mpr c_29)).trans ((if_pos c_43)))))
            obtain ⟨sa, hsa⟩ := hK.2.2.2.1 (75, "core share out of range") (by decide +kernel)
            exact vx_throwS (names := ["java/lang/RuntimeException", "java/lang/Exception"]) (cls := "java/lang/IllegalArgumentException") (text := "core share out of range") hx hb hlt hown (by decide +kernel) (by decide +kernel) (hts (.classLink RX2 66 "java/lang/IllegalArgumentException") (by decide +kernel)) (hts (.initialized "java/lang/IllegalArgumentException") (by decide +kernel)) hsa (vx_hat (B := .castable "java/lang/IllegalArgumentException" "java/lang/IllegalArgumentException" :: twD.map Cond.declares) (fun w hw => hts w (List.mem_cons_of_mem _ (List.mem_append_right _ hw))) (by decide +kernel) (hK.2.thrB (by decide +kernel))) (by decide +kernel) hZ.1 hZ.2 hS (by rw [hml]; exact hl.1) dX2_setRates_52 dX2_setRates_55 dX2_setRates_56 dX2_setRates_58 dX2_setRates_61 (fun x hx => (hout x hx).elim) (Nat.le_of_ble_eq_true rfl) (Nat.le_of_ble_eq_true rfl) (Nat.le_of_ble_eq_true rfl) (Nat.le_of_ble_eq_true rfl) hlocks (fun t _ h1 h2 => ⟨(), trivial, ⟨⟨by rw [ev]; rfl, by rw [ev]; decide⟩, hP.kept (fun k q hk => h2 q.1 (hP k q hk).lt), hD⟩, ⟨h1, fun q hq _ => h2 q hq⟩⟩) t_nil (Nat.le_of_ble_eq_true rfl) (Nat.le_of_ble_eq_true rfl)
          · refine lv_iload_n hx hb dX2_setRates_46 rfl (lv_at hl 3 rfl) ?_
            refine lv_bipush (v := 100) hx hb dX2_setRates_47 (by decide) ?_
            refine lv_icmp_le (tgt := 62) hx hb dX2_setRates_49 (by decide) (fun c_49 => ?_) (fun c_49 => ?_)
            · have ev : xSetRates d o c0 = 0 := by unfold xSetRates; exact (if_neg c_1).trans ((if_neg (Int32.not_lt.mpr c_8)).trans ((if_neg c_22).trans ((if_neg (Int32.not_lt.mpr c_29)).trans ((if_neg c_43).trans ((if_neg (Int32.not_lt.mpr c_49)))))))
              refine lv_aload_n hx hb dX2_setRates_62 rfl (lv_at hl 0 rfl) ?_
              refine lv_iload_n hx hb dX2_setRates_63 rfl (lv_at hl 1 rfl) ?_
              refine bkS (b := b) (x := d) hx hb hts hin2 hown hK hP hD hS 1 (by decide) (hts (.fieldLink RX2 13 "FundBook" "depositRate" "I") (by decide +kernel)) dX2_setRates_64 (fun H locs hP hD hS => ?_)
              refine lv_aload_n hx hb dX2_setRates_67 rfl (lv_at hl 0 rfl) ?_
              refine lv_iload_n hx hb dX2_setRates_68 rfl (lv_at hl 2 rfl) ?_
              refine bkS (b := (u2 b 13 1 d)) (x := o) hx hb hts hin2 hown hK hP hD hS 2 (by decide) (hts (.fieldLink RX2 17 "FundBook" "optionRate" "I") (by decide +kernel)) dX2_setRates_69 (fun H locs hP hD hS => ?_)
              refine lv_aload_n hx hb dX2_setRates_72 rfl (lv_at hl 0 rfl) ?_
              refine lv_iload_n hx hb dX2_setRates_73 rfl (lv_at hl 3 rfl) ?_
              refine bkS (b := (u2 (u2 b 13 1 d) 13 2 o)) (x := c0) hx hb hts hin2 hown hK hP hD hS 3 (by decide) (hts (.fieldLink RX2 20 "FundBook" "coreShare" "I") (by decide +kernel)) dX2_setRates_74 (fun H locs hP hD hS => ?_)
              refine vx_ret ?_
              refine W.widen (k := 1) (n := 6) (Nat.le_of_ble_eq_true rfl) (Nat.le_of_ble_eq_true rfl) ?_
              exact W.vret hx hb hr (fun t ht hW => ⟨⟨(), rfl, ev, by rw [ht]; exact hP, by exact hD⟩, hS.F ht⟩) hS.2.2 dX2_setRates_77
            · have ev : (xSetRates d o c0) = 2 := by unfold xSetRates; exact (if_neg c_1).trans ((if_neg (Int32.not_lt.mpr c_8)).trans ((if_neg c_22).trans ((if_neg (Int32.not_lt.mpr c_29)).trans ((if_neg c_43).trans ((if_pos (Int32.not_le.mp c_49)))))))
              obtain ⟨sa, hsa⟩ := hK.2.2.2.1 (75, "core share out of range") (by decide +kernel)
              exact vx_throwS (names := ["java/lang/RuntimeException", "java/lang/Exception"]) (cls := "java/lang/IllegalArgumentException") (text := "core share out of range") hx hb hlt hown (by decide +kernel) (by decide +kernel) (hts (.classLink RX2 66 "java/lang/IllegalArgumentException") (by decide +kernel)) (hts (.initialized "java/lang/IllegalArgumentException") (by decide +kernel)) hsa (vx_hat (B := .castable "java/lang/IllegalArgumentException" "java/lang/IllegalArgumentException" :: twD.map Cond.declares) (fun w hw => hts w (List.mem_cons_of_mem _ (List.mem_append_right _ hw))) (by decide +kernel) (hK.2.thrB (by decide +kernel))) (by decide +kernel) hZ.1 hZ.2 hS (by rw [hml]; exact hl.1) dX2_setRates_52 dX2_setRates_55 dX2_setRates_56 dX2_setRates_58 dX2_setRates_61 (fun x hx => (hout x hx).elim) (Nat.le_of_ble_eq_true rfl) (Nat.le_of_ble_eq_true rfl) (Nat.le_of_ble_eq_true rfl) (Nat.le_of_ble_eq_true rfl) hlocks (fun t _ h1 h2 => ⟨(), trivial, ⟨⟨by rw [ev]; rfl, by rw [ev]; decide⟩, hP.kept (fun k q hk => h2 q.1 (hP k q hk).lt), hD⟩, ⟨h1, fun q hq _ => h2 q hq⟩⟩) t_nil (Nat.le_of_ble_eq_true rfl) (Nat.le_of_ble_eq_true rfl)
        · have ev : (xSetRates d o c0) = 2 := by unfold xSetRates; exact (if_neg c_1).trans ((if_neg (Int32.not_lt.mpr c_8)).trans ((if_neg c_22).trans ((if_pos (Int32.not_le.mp c_29)))))
          obtain ⟨sa, hsa⟩ := hK.2.2.2.1 (73, "option rate out of range") (by decide +kernel)
          exact vx_throwS (names := ["java/lang/RuntimeException", "java/lang/Exception"]) (cls := "java/lang/IllegalArgumentException") (text := "option rate out of range") hx hb hlt hown (by decide +kernel) (by decide +kernel) (hts (.classLink RX2 66 "java/lang/IllegalArgumentException") (by decide +kernel)) (hts (.initialized "java/lang/IllegalArgumentException") (by decide +kernel)) hsa (vx_hat (B := .castable "java/lang/IllegalArgumentException" "java/lang/IllegalArgumentException" :: twD.map Cond.declares) (fun w hw => hts w (List.mem_cons_of_mem _ (List.mem_append_right _ hw))) (by decide +kernel) (hK.2.thrB (by decide +kernel))) (by decide +kernel) hZ.1 hZ.2 hS (by rw [hml]; exact hl.1) dX2_setRates_32 dX2_setRates_35 dX2_setRates_36 dX2_setRates_38 dX2_setRates_41 (fun x hx => (hout x hx).elim) (Nat.le_of_ble_eq_true rfl) (Nat.le_of_ble_eq_true rfl) (Nat.le_of_ble_eq_true rfl) (Nat.le_of_ble_eq_true rfl) hlocks (fun t _ h1 h2 => ⟨(), trivial, ⟨⟨by rw [ev]; rfl, by rw [ev]; decide⟩, hP.kept (fun k q hk => h2 q.1 (hP k q hk).lt), hD⟩, ⟨h1, fun q hq _ => h2 q hq⟩⟩) t_nil (Nat.le_of_ble_eq_true rfl) (Nat.le_of_ble_eq_true rfl)
    · have ev : (xSetRates d o c0) = 2 := by unfold xSetRates; exact (if_neg c_1).trans ((if_pos (Int32.not_le.mp c_8)))
      obtain ⟨sa, hsa⟩ := hK.2.2.2.1 (71, "deposit rate out of range") (by decide +kernel)
      exact vx_throwS (names := ["java/lang/RuntimeException", "java/lang/Exception"]) (cls := "java/lang/IllegalArgumentException") (text := "deposit rate out of range") hx hb hlt hown (by decide +kernel) (by decide +kernel) (hts (.classLink RX2 66 "java/lang/IllegalArgumentException") (by decide +kernel)) (hts (.initialized "java/lang/IllegalArgumentException") (by decide +kernel)) hsa (vx_hat (B := .castable "java/lang/IllegalArgumentException" "java/lang/IllegalArgumentException" :: twD.map Cond.declares) (fun w hw => hts w (List.mem_cons_of_mem _ (List.mem_append_right _ hw))) (by decide +kernel) (hK.2.thrB (by decide +kernel))) (by decide +kernel) hZ.1 hZ.2 hS (by rw [hml]; exact hl.1) dX2_setRates_11 dX2_setRates_14 dX2_setRates_15 dX2_setRates_17 dX2_setRates_20 (fun x hx => (hout x hx).elim) (Nat.le_of_ble_eq_true rfl) (Nat.le_of_ble_eq_true rfl) (Nat.le_of_ble_eq_true rfl) (Nat.le_of_ble_eq_true rfl) hlocks (fun t _ h1 h2 => ⟨(), trivial, ⟨⟨by rw [ev]; rfl, by rw [ev]; decide⟩, hP.kept (fun k q hk => h2 q.1 (hP k q hk).lt), hD⟩, ⟨h1, fun q hq _ => h2 q hq⟩⟩) t_nil (Nat.le_of_ble_eq_true rfl) (Nat.le_of_ble_eq_true rfl)
set_option maxHeartbeats 4000000 in
set_option maxRecDepth 100000 in
theorem c_X2_repay (l : Launch) (hlt : l.stackTraces = false) (G : va_G) (y : Nat → ClassId) (a : Nat → Nat) (b : MS) (n : Nat) (la : Nat → Nat → Nat) (L : LNS) (sz : Nat) (hn24 : n ≤ 24) (pd : Nat → Nat) (hpd : ∀ k, k < n → L k 0 7 = nI (pd k) ∧ pd k ≤ 6) (x : Int32) : vx_Met l yX2_repay wsX2_repay ({ frames := 6, cells := 1, slots := 6, locals := 82 }) (xP G y [.ref (a 13), .int x] (bkW y a b n la L) sz) (mQ G (fun _ : Unit => some (.int (lUnp (L (cn x)) (pd (cn x))))) (fun _ => (xRepay n L pd x) = 0) (fun _ => bkW y a b n la (u3 L (cn x) (nI 6))) (va_A (bkW y a b n la L) sz)) (xX G (fun E => E = exN ((xRepay n L pd x)) ∧ ¬ (xRepay n L pd x) = 0) (bkW y a b n la L) (va_A (bkW y a b n la L) sz)) 1 6 (va_A (bkW y a b n la L) sz) := by
  refine vx_ofW (cc := cX2_repay) (maxL := 4) (ret := (some .int)) (by decide) rfl ?_
  intro p e s m args below meth c s₁ B hml hout hv
  obtain ⟨rfl, hsz, hP, hK, hD0, hZ⟩ := hv
  have hx := B.exec
  have hb := B.bytes
  have hr := B.returns
  have hts := atoms_spec (ws := wsX2_repay) B.pre
  have hown : s.vm.findClass RX2 = some m.cls := findClass_of_methodNamed B.named
  have hlocks := B.notSynchronized
  subst hsz
  have hD := hD0.self (sz := s.heap.size)
  generalize hAe : va_A (bkW y a b n la L) s.heap.size = A at hD hZ ⊢
  have hA : ∀ q : Nat, s.heap.size ≤ q → A q := fun q h => by rw [← hAe]; exact Or.inr h
  have hS : va_S A s.heap s.heap [] := va_S.rf
  have hP : va_P G vwCl (bkW y a b n la L) s.heap := hP
  have hl := lv_entry ([.ref (a 13), .int x]) (n := 4) (Nat.le_of_ble_eq_true rfl)
  rw [lg_entry_eq]
  generalize (lg_sl ([.ref (a 13), .int x]) ++ List.replicate (4 - (lg_sl ([.ref (a 13), .int x])).length) Slot.unset).toArray = ls at hl ⊢
  have hin0 : ∀ w ∈ wsX00, w ∈ wsX2_repay := by decide +kernel
  have hl : lv_has ls 4 [(0, .ref (a 13)), (1, .int x)] := hl
  refine lv_aload_n hx hb dX2_repay_0 rfl (lv_at hl 0 rfl) ?_
  refine lv_iload_n hx hb dX2_repay_1 rfl (lv_at hl 1 rfl) ?_
  refine caR (r := va_rf (bFind n la x)) (va_runV (As := [.int x]) (rest := []) ⟨hx, hb, hml, hown, hts⟩ (c_X2_findLoan l G y a b n la L x) (cwV 1 hts gX2_repay_X2_findLoan rfl rfl rfl (by decide +kernel) ⟨Nat.le_of_ble_eq_true rfl, Nat.le_of_ble_eq_true rfl⟩) ⟨rP_bl, va_recv hK.1 hP (ci := 2) (q0 := 0) rfl rfl, fun U hU hW => ⟨rfl, by rw [hU]; exact hP, Kb.moved hW hK⟩⟩ rfl rfl hl.1 rfl (lv_room (Nat.le_of_ble_eq_true rfl)) dX2_repay_2 ⟨Nat.le_of_ble_eq_true rfl, Nat.le_of_ble_eq_true rfl⟩) ?_
  by_cases hxx : mIn x 0 (nI n - 1) = 0
  · refine lv_optN (bFind_N hxx hn24) ?_
    refine lv_astore_nN (lv' := [(2, .null), (0, .ref (a 13)), (1, .int x)]) hx hb dX2_repay_5 rfl hl (by decide) rfl (fun ls hl => ?_)
    refine lv_aload_nN hx hb dX2_repay_6 rfl (lv_at hl 0 rfl) ?_
    refine lv_ifnonnullN hx hb dX2_repay_7 ?_
    have ev : (xRepay n L pd x) = 1 := by unfold xRepay; exact if_pos hxx
    obtain ⟨sa, hsa⟩ := hK.2.2.2.1 (105, "no such loan") (by decide +kernel)
    exact vx_throwS (names := ["java/lang/RuntimeException", "java/lang/Exception"]) (cls := "java/lang/IndexOutOfBoundsException") (text := "no such loan") hx hb hlt hown (by decide +kernel) (by decide +kernel) (hts (.classLink RX2 59 "java/lang/IndexOutOfBoundsException") (by decide +kernel)) (hts (.initialized "java/lang/IndexOutOfBoundsException") (by decide +kernel)) hsa (vx_hat (B := .castable "java/lang/IndexOutOfBoundsException" "java/lang/IndexOutOfBoundsException" :: twD.map Cond.declares) (fun w hw => hts w (List.mem_cons_of_mem _ (List.mem_append_left _ (List.mem_append_right _ hw)))) (by decide +kernel) (hK.2.thrB (by decide +kernel))) (by decide +kernel) hZ.1 hZ.2 hS (by rw [hml]; exact hl.1) dX2_repay_10 dX2_repay_13 dX2_repay_14 dX2_repay_16 dX2_repay_19 (fun x hx => (hout x hx).elim) (Nat.le_of_ble_eq_true rfl) (Nat.le_of_ble_eq_true rfl) (Nat.le_of_ble_eq_true rfl) (Nat.le_of_ble_eq_true rfl) hlocks (fun t _ h1 h2 => ⟨(), trivial, ⟨⟨by rw [ev]; rfl, by rw [ev]; decide⟩, hP.kept (fun k q hk => h2 q.1 (hP k q hk).lt), hD⟩, ⟨h1, fun q hq _ => h2 q hq⟩⟩) t_nil (Nat.le_of_ble_eq_true rfl) (Nat.le_of_ble_eq_true rfl)
  · obtain ⟨i, hi, rfl⟩ := inL hxx (by omega)
    refine lv_optS (bFind_S hi hn24) ?_
    refine lv_astore_n (lv' := [(2, .ref (la i 0)), (0, .ref (a 13)), (1, .int (nI i))]) hx hb dX2_repay_5 rfl hl (by decide) rfl (fun ls hl => ?_)
    refine lv_aload_n hx hb dX2_repay_6 rfl (lv_at hl 0 rfl) ?_
    refine lv_ifnonnull (tgt := 20) hx hb dX2_repay_7 (by decide) ?_
    refine lv_aload_n hx hb dX2_repay_20 rfl (lv_at hl 0 rfl) ?_
    refine caR (r := .int (lUnp (L i) (pd i))) (va_runVN (As := []) (rest := []) ⟨hx, hb, hml, hown, hts⟩ (c_X0_unpaid l G y la L i (pd i) (hpd i hi).1 (hpd i hi).2) ⟨va_cnB (host := "FundBook") 0 hts gX2_repay_X0_unpaid_n107 rfl rfl rfl (hK.nw (by decide +kernel)) (hts (.initialized RX0) (by decide +kernel)) (by decide +kernel) ⟨Nat.le_of_ble_eq_true rfl, Nat.le_of_ble_eq_true rfl⟩, hts (.instanceMethod yX0_unpaid) (by decide +kernel), hts (.selects RX0 yX0_unpaid yX0_unpaid) (by decide +kernel)⟩ ⟨rP_bl, va_recv hK.1 (bk_ln hP hi) (ci := 0) (q0 := 0) rfl rfl, fun U hU hW => ⟨rfl, by rw [hU]; exact (bk_ln hP hi), Kb.moved hW hK⟩⟩ rfl rfl hl.1 rfl (lv_room (Nat.le_of_ble_eq_true rfl)) dX2_repay_21 ⟨Nat.le_of_ble_eq_true rfl, Nat.le_of_ble_eq_true rfl⟩) ?_
    refine lv_istore_n (lv' := [(3, .int (lUnp (L i) (pd i))), (2, .ref (la i 0)), (0, .ref (a 13)), (1, .int (nI i))]) hx hb dX2_repay_24 rfl hl (by decide) rfl (fun ls hl => ?_)
    refine lv_aload_n hx hb dX2_repay_25 rfl (lv_at hl 1 rfl) ?_
    refine lnGN (i := i) (val := .int (L i 0 3)) hx hb hts hin0 hown hK (bk_ln hP hi) 3 (by decide) (by decide +kernel) rfl dX2_repay_26 ?_
    refine lv_if_eq (tgt := 36) hx hb dX2_repay_29 (by decide) (fun c_29 => ?_) (fun c_29 => ?_)
    · have ev : (xRepay n L pd (nI i)) = 3 := by unfold xRepay; rw [cnI (by omega)]; exact (if_neg hxx).trans ((if_pos c_29))
      obtain ⟨sa, hsa⟩ := hK.2.2.2.1 (115, "it has no option, or is paid back") (by decide +kernel)
      exact vx_throwS (names := ["java/lang/RuntimeException", "java/lang/Exception"]) (cls := "java/lang/IllegalStateException") (text := "it has no option, or is paid back") hx hb hlt hown (by decide +kernel) (by decide +kernel) (hts (.classLink RX2 84 "java/lang/IllegalStateException") (by decide +kernel)) (hts (.initialized "java/lang/IllegalStateException") (by decide +kernel)) hsa (vx_hat (B := .castable "java/lang/IllegalStateException" "java/lang/IllegalStateException" :: twD.map Cond.declares) (fun w hw => hts w (List.mem_cons_of_mem _ (List.mem_append_right _ hw))) (by decide +kernel) (hK.2.thrB (by decide +kernel))) (by decide +kernel) hZ.1 hZ.2 hS (by rw [hml]; exact hl.1) dX2_repay_36 dX2_repay_39 dX2_repay_40 dX2_repay_42 dX2_repay_45 (fun x hx => (hout x hx).elim) (Nat.le_of_ble_eq_true rfl) (Nat.le_of_ble_eq_true rfl) (Nat.le_of_ble_eq_true rfl) (Nat.le_of_ble_eq_true rfl) hlocks (fun t _ h1 h2 => ⟨(), trivial, ⟨⟨by rw [ev]; rfl, by rw [ev]; decide⟩, hP.kept (fun k q hk => h2 q.1 (hP k q hk).lt), hD⟩, ⟨h1, fun q hq _ => h2 q hq⟩⟩) t_nil (Nat.le_of_ble_eq_true rfl) (Nat.le_of_ble_eq_true rfl)
    · refine lv_iload_n hx hb dX2_repay_32 rfl (lv_at hl 0 rfl) ?_
      refine lv_if_ne (tgt := 46) hx hb dX2_repay_33 (by decide) (fun c_33 => ?_) (fun c_33 => ?_)
      · refine lv_aload_n hx hb dX2_repay_46 rfl (lv_at hl 1 rfl) ?_
        refine caM (va_runVN (As := []) (rest := []) ⟨hx, hb, hml, hown, hts⟩ (c_X0_settle l G y a b n la L s.heap.size i hi (pd i) (hpd i hi).1 (hpd i hi).2) ⟨va_cnB (host := "FundBook") 0 hts gX2_repay_X0_settle_n117 rfl rfl rfl (hK.nw (by decide +kernel)) (hts (.initialized RX0) (by decide +kernel)) (by decide +kernel) ⟨Nat.le_of_ble_eq_true rfl, Nat.le_of_ble_eq_true rfl⟩, hts (.instanceMethod yX0_settle) (by decide +kernel), hts (.selects RX0 yX0_settle yX0_settle) (by decide +kernel)⟩ ⟨mP_bl, va_recv hK.1 hP (ci := 0) (q0 := 17 + 3 * i) rfl ((bkW_get hi 0 (by decide)).trans rfl), fun U hU hW => ⟨rfl, by rw [hU], by rw [hU]; exact hP, Kb.moved hW hK, hD.weaken (fun _ _ _ _ => trivial)⟩⟩ rfl rfl hl.1 rfl (lv_room (Nat.le_of_ble_eq_true rfl)) dX2_repay_47 ⟨Nat.le_of_ble_eq_true rfl, Nat.le_of_ble_eq_true rfl⟩) hS (freeW hD hS hA) (freeW hD hS hA) (fun _ H locs _ hP hD _ _ hS => ?_)
        refine W.eq (g2 := F0 m 50 ls []) rfl ?_
        have hP : va_P G vwCl (bkW y a b n la (u3 L i (nI 6))) H := hP
        have hD : va_D A (bkW y a b n la (u3 L i (nI 6))) := hD
        refine lv_iload_n hx hb dX2_repay_50 rfl (lv_at hl 0 rfl) ?_
        have ev : (xRepay n L pd (nI i)) = 0 := by unfold xRepay; rw [cnI (by omega)]; exact (if_neg hxx).trans ((if_neg c_29).trans ((if_neg c_33)))
        refine vx_ret ?_
        refine W.widen (k := 1) (n := 6) (Nat.le_of_ble_eq_true rfl) (Nat.le_of_ble_eq_true rfl) ?_
        exact W.iret (v := lUnp (L i) (pd i)) hx hb hr (fun t ht hW => ⟨⟨(), congrArg (fun z => Outcome.returned (some (.int z))) (by rw [cnI (by omega)]), ev, by rw [ht]; rw [cnI (by omega)]; exact hP, by rw [cnI (by omega)]; exact hD⟩, hS.F ht⟩) hS.2.2 dX2_repay_51
      · have ev : (xRepay n L pd (nI i)) = 3 := by unfold xRepay; rw [cnI (by omega)]; exact (if_neg hxx).trans ((if_neg c_29).trans ((if_pos c_33)))
        obtain ⟨sa, hsa⟩ := hK.2.2.2.1 (115, "it has no option, or is paid back") (by decide +kernel)
        exact vx_throwS (names := ["java/lang/RuntimeException", "java/lang/Exception"]) (cls := "java/lang/IllegalStateException") (text := "it has no option, or is paid back") hx hb hlt hown (by decide +kernel) (by decide +kernel) (hts (.classLink RX2 84 "java/lang/IllegalStateException") (by decide +kernel)) (hts (.initialized "java/lang/IllegalStateException") (by decide +kernel)) hsa (vx_hat (B := .castable "java/lang/IllegalStateException" "java/lang/IllegalStateException" :: twD.map Cond.declares) (fun w hw => hts w (List.mem_cons_of_mem _ (List.mem_append_right _ hw))) (by decide +kernel) (hK.2.thrB (by decide +kernel))) (by decide +kernel) hZ.1 hZ.2 hS (by rw [hml]; exact hl.1) dX2_repay_36 dX2_repay_39 dX2_repay_40 dX2_repay_42 dX2_repay_45 (fun x hx => (hout x hx).elim) (Nat.le_of_ble_eq_true rfl) (Nat.le_of_ble_eq_true rfl) (Nat.le_of_ble_eq_true rfl) (Nat.le_of_ble_eq_true rfl) hlocks (fun t _ h1 h2 => ⟨(), trivial, ⟨⟨by rw [ev]; rfl, by rw [ev]; decide⟩, hP.kept (fun k q hk => h2 q.1 (hP k q hk).lt), hD⟩, ⟨h1, fun q hq _ => h2 q hq⟩⟩) t_nil (Nat.le_of_ble_eq_true rfl) (Nat.le_of_ble_eq_true rfl)
set_option maxHeartbeats 4000000 in
set_option maxRecDepth 100000 in
theorem c_X2_deposit (l : Launch) (hlt : l.stackTraces = false) (G : va_G) (y : Nat → ClassId) (a : Nat → Nat) (b : MS) (n : Nat) (la : Nat → Nat → Nat) (L : LNS) (sz : Nat) (x ch : Int32) : vx_Met l yX2_deposit wsX2_deposit ({ frames := 6, cells := 1, slots := 6, locals := 82 }) (xP G y [.ref (a 13), .int x, .int ch] (bkW y a b n la L) sz) (mQ G (fun _ : Unit => some (.int (b 7 (cn x) + ch))) (fun _ => (xDep b x ch) = 0) (fun _ => bkW y a (bDep b (cn x) ch) n la L) (va_A (bkW y a b n la L) sz)) (xX G (fun E => E = exN ((xDep b x ch)) ∧ ¬ (xDep b x ch) = 0) (bkW y a b n la L) (va_A (bkW y a b n la L) sz)) 1 6 (va_A (bkW y a b n la L) sz) := by
  refine vx_ofW (cc := cX2_deposit) (maxL := 4) (ret := (some .int)) (by decide) rfl ?_
  intro p e s m args below meth c s₁ B hml hout hv
  obtain ⟨rfl, hsz, hP, hK, hD0, hZ⟩ := hv
  have hx := B.exec
  have hb := B.bytes
  have hr := B.returns
  have hts := atoms_spec (ws := wsX2_deposit) B.pre
  have hown : s.vm.findClass RX2 = some m.cls := findClass_of_methodNamed B.named
  have hlocks := B.notSynchronized
  subst hsz
  have hD := hD0.self (sz := s.heap.size)
  generalize hAe : va_A (bkW y a b n la L) s.heap.size = A at hD hZ ⊢
  have hA : ∀ q : Nat, s.heap.size ≤ q → A q := fun q h => by rw [← hAe]; exact Or.inr h
  have hS : va_S A s.heap s.heap [] := va_S.rf
  have hP : va_P G vwCl (bkW y a b n la L) s.heap := hP
  have hl := lv_entry ([.ref (a 13), .int x, .int ch]) (n := 4) (Nat.le_of_ble_eq_true rfl)
  rw [lg_entry_eq]
  generalize (lg_sl ([.ref (a 13), .int x, .int ch]) ++ List.replicate (4 - (lg_sl ([.ref (a 13), .int x, .int ch])).length) Slot.unset).toArray = ls at hl ⊢
  have hin2 : ∀ w ∈ wsX20, w ∈ wsX2_deposit := by decide +kernel
  have hl : lv_has ls 4 [(0, .ref (a 13)), (1, .int x), (2, .int ch)] := hl
  refine lv_iload_n hx hb dX2_deposit_0 rfl (lv_at hl 1 rfl) ?_
  refine lv_if_lt (tgt := 9) hx hb dX2_deposit_1 (by decide) (fun c_1 => ?_) (fun c_1 => ?_)
  · have ev : (xDep b x ch) = 1 := by unfold xDep; exact (if_pos c_1)
    obtain ⟨sa, hsa⟩ := hK.2.2.2.1 (120, "no such branch") (by decide +kernel)
    exact vx_throwS (names := ["java/lang/RuntimeException", "java/lang/Exception"]) (cls := "java/lang/IndexOutOfBoundsException") (text := "no such branch") hx hb hlt hown (by decide +kernel) (by decide +kernel) (hts (.classLink RX2 59 "java/lang/IndexOutOfBoundsException") (by decide +kernel)) (hts (.initialized "java/lang/IndexOutOfBoundsException") (by decide +kernel)) hsa (vx_hat (B := .castable "java/lang/IndexOutOfBoundsException" "java/lang/IndexOutOfBoundsException" :: twD.map Cond.declares) (fun w hw => hts w (List.mem_cons_of_mem _ (List.mem_append_left _ (List.mem_append_left _ (List.mem_append_right _ hw))))) (by decide +kernel) (hK.2.thrB (by decide +kernel))) (by decide +kernel) hZ.1 hZ.2 hS (by rw [hml]; exact hl.1) dX2_deposit_9 dX2_deposit_12 dX2_deposit_13 dX2_deposit_15 dX2_deposit_18 (fun x hx => (hout x hx).elim) (Nat.le_of_ble_eq_true rfl) (Nat.le_of_ble_eq_true rfl) (Nat.le_of_ble_eq_true rfl) (Nat.le_of_ble_eq_true rfl) hlocks (fun t _ h1 h2 => ⟨(), trivial, ⟨⟨by rw [ev]; rfl, by rw [ev]; decide⟩, hP.kept (fun k q hk => h2 q.1 (hP k q hk).lt), hD⟩, ⟨h1, fun q hq _ => h2 q hq⟩⟩) t_nil (Nat.le_of_ble_eq_true rfl) (Nat.le_of_ble_eq_true rfl)
  · refine lv_iload_n hx hb dX2_deposit_4 rfl (lv_at hl 1 rfl) ?_
    refine lv_iconst (v := 3) hx hb dX2_deposit_5 (by decide) ?_
    refine lv_icmp_lt (tgt := 19) hx hb dX2_deposit_6 (by decide) (fun c_6 => ?_) (fun c_6 => ?_)
    · refine lv_iload_n hx hb dX2_deposit_19 rfl (lv_at hl 2 rfl) ?_
      refine lv_ldc (v := (-10000000)) hx hb hown (hts (.constant RX2 122 (-10000000)) (by decide +kernel)) dX2_deposit_20 ?_
      refine lv_icmp_lt (tgt := 31) hx hb dX2_deposit_22 (by decide) (fun c_22 => ?_) (fun c_22 => ?_)
      · have ev : (xDep b x ch) = 2 := by unfold xDep; exact (if_neg c_1).trans ((if_neg (Int32.not_le.mpr c_6)).trans ((if_pos c_22)))
        obtain ⟨sa, hsa⟩ := hK.2.2.2.1 (123, "change out of range") (by decide +kernel)
        exact vx_throwS (names := ["java/lang/RuntimeException", "java/lang/Exception"]) (cls := "java/lang/IllegalArgumentException") (text := "change out of range") hx hb hlt hown (by decide +kernel) (by decide +kernel) (hts (.classLink RX2 66 "java/lang/IllegalArgumentException") (by decide +kernel)) (hts (.initialized "java/lang/IllegalArgumentException") (by decide +kernel)) hsa (vx_hat (B := .castable "java/lang/IllegalArgumentException" "java/lang/IllegalArgumentException" :: twD.map Cond.declares) (fun w hw => hts w (List.mem_cons_of_mem _ (List.mem_append_left _ (List.mem_append_right _ hw)))) (by decide +kernel) (hK.2.thrB (by decide +kernel))) (by decide +kernel) hZ.1 hZ.2 hS (by rw [hml]; exact hl.1) dX2_deposit_31 dX2_deposit_34 dX2_deposit_35 dX2_deposit_37 dX2_deposit_40 (fun x hx => (hout x hx).elim) (Nat.le_of_ble_eq_true rfl) (Nat.le_of_ble_eq_true rfl) (Nat.le_of_ble_eq_true rfl) (Nat.le_of_ble_eq_true rfl) hlocks (fun t _ h1 h2 => ⟨(), trivial, ⟨⟨by rw [ev]; rfl, by rw [ev]; decide⟩, hP.kept (fun k q hk => h2 q.1 (hP k q hk).lt), hD⟩, ⟨h1, fun q hq _ => h2 q hq⟩⟩) t_nil (Nat.le_of_ble_eq_true rfl) (Nat.le_of_ble_eq_true rfl)
      · refine lv_iload_n hx hb dX2_deposit_25 rfl (lv_at hl 2 rfl) ?_
        refine lv_ldc (v := 10000000) hx hb hown (hts (.constant RX2 79 10000000) (by decide +kernel)) dX2_deposit_26 ?_
        refine lv_icmp_le (tgt := 41) hx hb dX2_deposit_28 (by decide) (fun c_28 => ?_) (fun c_28 => ?_)
        · obtain ⟨i, hi, rfl⟩ := inR (M := 3) c_1 (Int32.not_le.mpr c_6) (by decide)
          refine lv_aload_n hx hb dX2_deposit_41 rfl (lv_at hl 0 rfl) ?_
          refine bkG (b := b) (val := .ref (a 7)) hx hb hts hin2 hown hK hP 7 (by decide) (hts (.fieldLink RX2 35 "FundBook" "balances" "[I") (by decide +kernel)) rfl dX2_deposit_42 ?_
          refine lv_iload_n hx hb dX2_deposit_45 rfl (lv_at hl 1 rfl) ?_
          refine ldI (f := b 7) hx hb hK hP 3 bg_7 i rfl (by omega) (by decide) dX2_deposit_46 ?_
          refine lv_iload_n hx hb dX2_deposit_47 rfl (lv_at hl 2 rfl) ?_
          refine lv_iadd hx hb dX2_deposit_48 ?_
          refine lv_istore_n (lv' := [(3, .int (b 7 i + ch)), (0, .ref (a 13)), (1, .int (nI i)), (2, .int ch)]) hx hb dX2_deposit_49 rfl hl (by decide) rfl (fun ls hl => ?_)
          refine lv_iload_n hx hb dX2_deposit_50 rfl (lv_at hl 0 rfl) ?_
          refine lv_if_lt (tgt := 60) hx hb dX2_deposit_51 (by decide) (fun c_51 => ?_) (fun c_51 => ?_)
          · have ev : (xDep b (nI i) ch) = 3 := by unfold xDep; rw [cnI (by omega)]; exact (if_neg c_1).trans ((if_neg (Int32.not_le.mpr c_6)).trans ((if_neg c_22).trans ((if_neg (Int32.not_lt.mpr c_28)).trans ((if_pos c_51)))))
            obtain ⟨sa, hsa⟩ := hK.2.2.2.1 (125, "balance out of range") (by decide +kernel)
            exact vx_throwS (names := ["java/lang/RuntimeException", "java/lang/Exception"]) (cls := "java/lang/IllegalStateException") (text := "balance out of range") hx hb hlt hown (by decide +kernel) (by decide +kernel) (hts (.classLink RX2 84 "java/lang/IllegalStateException") (by decide +kernel)) (hts (.initialized "java/lang/IllegalStateException") (by decide +kernel)) hsa (vx_hat (B := .castable "java/lang/IllegalStateException" "java/lang/IllegalStateException" :: twD.map Cond.declares) (fun w hw => hts w (List.mem_cons_of_mem _ (List.mem_append_right _ hw))) (by decide +kernel) (hK.2.thrB (by decide +kernel))) (by decide +kernel) hZ.1 hZ.2 hS (by rw [hml]; exact hl.1) dX2_deposit_60 dX2_deposit_63 dX2_deposit_64 dX2_deposit_66 dX2_deposit_69 (fun x hx => (hout x hx).elim) (Nat.le_of_ble_eq_true rfl) (Nat.le_of_ble_eq_true rfl) (Nat.le_of_ble_eq_true rfl) (Nat.le_of_ble_eq_true rfl) hlocks (fun t _ h1 h2 => ⟨(), trivial, ⟨⟨by rw [ev]; rfl, by rw [ev]; decide⟩, hP.kept (fun k q hk => h2 q.1 (hP k q hk).lt), hD⟩, ⟨h1, fun q hq _ => h2 q hq⟩⟩) t_nil (Nat.le_of_ble_eq_true rfl) (Nat.le_of_ble_eq_true rfl)
          · refine lv_iload_n hx hb dX2_deposit_54 rfl (lv_at hl 0 rfl) ?_
            refine lv_ldc (v := 10000000) hx hb hown (hts (.constant RX2 79 10000000) (by decide +kernel)) dX2_deposit_55 ?_
            refine lv_icmp_le (tgt := 70) hx hb dX2_deposit_57 (by decide) (fun c_57 => ?_) (fun c_57 => ?_)
            · have ev : xDep b (nI i) ch = 0 := by unfold xDep; rw [cnI (by omega)]; exact (if_neg c_1).trans ((if_neg (Int32.not_le.mpr c_6)).trans ((if_neg c_22).trans ((if_neg (Int32.not_lt.mpr c_28)).trans ((if_neg c_51).trans ((if_neg (Int32.not_lt.mpr c_57)))))))
              refine lv_aload_n hx hb dX2_deposit_70 rfl (lv_at hl 1 rfl) ?_
              refine bkG (b := b) (val := .ref (a 7)) hx hb hts hin2 hown hK hP 7 (by decide) (hts (.fieldLink RX2 35 "FundBook" "balances" "[I") (by decide +kernel)) rfl dX2_deposit_71 ?_
              refine lv_iload_n hx hb dX2_deposit_74 rfl (lv_at hl 2 rfl) ?_
              refine lv_iload_n hx hb dX2_deposit_75 rfl (lv_at hl 0 rfl) ?_
              refine stI (f := b 7) (ws1 := bkW y a (u2 b 7 i (b 7 i + ch)) n la L) hx hb hK hP hD hS 3 bg_7 i rfl (by omega) (by decide) bs_7 dX2_deposit_76 (fun H locs hP hD hS => ?_)
              refine lv_aload_n hx hb dX2_deposit_77 rfl (lv_at hl 1 rfl) ?_
              refine bkG (b := (u2 b 7 i (b 7 i + ch))) (val := .int (b 13 4)) hx hb hts hin2 hown hK hP 4 (by decide) (hts (.fieldLink RX2 23 "FundBook" "now" "I") (by decide +kernel)) rfl dX2_deposit_78 ?_
              refine lv_if_ne (tgt := 105) hx hb dX2_deposit_81 (by decide) (fun c_81 => ?_) (fun c_81 => ?_)
              · refine lv_iload_n hx hb dX2_deposit_105 rfl (lv_at hl 0 rfl) ?_
                have e2 : bDep b i ch = (u2 b 7 i (b 7 i + ch)) := by unfold bDep; exact if_neg (fun q => c_81 q.1)
                refine vx_ret ?_
                refine W.widen (k := 1) (n := 6) (Nat.le_of_ble_eq_true rfl) (Nat.le_of_ble_eq_true rfl) ?_
                exact W.iret (v := (b 7 i + ch)) hx hb hr (fun t ht hW => ⟨⟨(), congrArg (fun z => Outcome.returned (some (.int z))) (by rw [cnI (by omega)]), ev, by rw [ht]; rw [cnI (by omega), e2]; exact hP, by rw [cnI (by omega), e2]; exact hD⟩, hS.F ht⟩) hS.2.2 dX2_deposit_106
              · refine lv_iload_n hx hb dX2_deposit_84 rfl (lv_at hl 3 rfl) ?_
                refine lv_if_eq (tgt := 105) hx hb dX2_deposit_85 (by decide) (fun c_85 => ?_) (fun c_85 => ?_)
                · refine lv_iload_n hx hb dX2_deposit_105 rfl (lv_at hl 0 rfl) ?_
                  have e2 : bDep b i ch = (u2 b 7 i (b 7 i + ch)) := by unfold bDep; exact if_neg (fun q => q.2 c_85)
                  refine vx_ret ?_
                  refine W.widen (k := 1) (n := 6) (Nat.le_of_ble_eq_true rfl) (Nat.le_of_ble_eq_true rfl) ?_
                  exact W.iret (v := (b 7 i + ch)) hx hb hr (fun t ht hW => ⟨⟨(), congrArg (fun z => Outcome.returned (some (.int z))) (by rw [cnI (by omega)]), ev, by rw [ht]; rw [cnI (by omega), e2]; exact hP, by rw [cnI (by omega), e2]; exact hD⟩, hS.F ht⟩) hS.2.2 dX2_deposit_106
                · refine lv_aload_n hx hb dX2_deposit_88 rfl (lv_at hl 1 rfl) ?_
                  refine bkG (b := (u2 b 7 i (b 7 i + ch))) (val := .ref (a 8)) hx hb hts hin2 hown hK hP 8 (by decide) (hts (.fieldLink RX2 41 "FundBook" "replica" "LFundBook$Replica;") (by decide +kernel)) rfl dX2_deposit_89 ?_
                  refine lv_aload_n hx hb dX2_deposit_92 rfl (lv_at hl 1 rfl) ?_
                  refine caR (r := .int (bTA (u2 b 7 i (b 7 i + ch)))) (va_runV (As := []) (rest := [.ref (a 8)]) ⟨hx, hb, hml, hown, hts⟩ (c_X2_trancheAmount l G y a (u2 b 7 i (b 7 i + ch)) n la L) (cwV 0 hts gX2_deposit_X2_trancheAmount rfl rfl rfl (by decide +kernel) ⟨Nat.le_of_ble_eq_true rfl, Nat.le_of_ble_eq_true rfl⟩) ⟨rP_bl, va_recv hK.1 hP (ci := 2) (q0 := 0) rfl rfl, fun U hU hW => ⟨rfl, by rw [hU]; exact hP, Kb.moved hW hK⟩⟩ rfl rfl hl.1 rfl (lv_room (Nat.le_of_ble_eq_true rfl)) dX2_deposit_93 ⟨Nat.le_of_ble_eq_true rfl, Nat.le_of_ble_eq_true rfl⟩) ?_
                  refine lv_aload_n hx hb dX2_deposit_96 rfl (lv_at hl 1 rfl) ?_
                  refine bkG (b := (u2 b 7 i (b 7 i + ch))) (val := .ref (a 0)) hx hb hts hin2 hown hK hP 0 (by decide) (hts (.fieldLink RX2 9 "FundBook" "curve" "[I") (by decide +kernel)) rfl dX2_deposit_97 ?_
                  refine lv_iconst (v := 5) hx hb dX2_deposit_100 (by decide) ?_
                  refine ldI (f := b 0) hx hb hK hP 1 rfl 5 rfl (by decide) (by decide) dX2_deposit_101 ?_
                  refine caM (va_runVN (As := [.int (bTA (u2 b 7 i (b 7 i + ch))), .int (b 0 5)]) (rest := []) ⟨hx, hb, hml, hown, hts⟩ (c_X1_layAll l G y a (u2 b 7 i (b 7 i + ch)) n la L H.size (bTA (u2 b 7 i (b 7 i + ch))) (b 0 5)) ⟨va_cnB (host := "FundBook") 2 hts gX2_deposit_X1_layAll_n130 rfl rfl rfl (hK.nw (by decide +kernel)) (hts (.initialized RX1) (by decide +kernel)) (by decide +kernel) ⟨Nat.le_of_ble_eq_true rfl, Nat.le_of_ble_eq_true rfl⟩, hts (.instanceMethod yX1_layAll) (by decide +kernel), hts (.selects RX1 yX1_layAll yX1_layAll) (by decide +kernel)⟩ ⟨mP_bl, va_recv hK.1 hP (ci := 1) (q0 := 4) rfl rfl, fun U hU hW => ⟨rfl, by rw [hU], by rw [hU]; exact hP, Kb.moved hW hK, hD.weaken (fun _ _ _ _ => trivial)⟩⟩ rfl rfl hl.1 rfl (lv_room (Nat.le_of_ble_eq_true rfl)) dX2_deposit_102 ⟨Nat.le_of_ble_eq_true rfl, Nat.le_of_ble_eq_true rfl⟩) hS (freeW hD hS hA) (freeW hD hS hA) (fun _ H locs _ hP hD _ _ hS => ?_)
                  refine W.eq (g2 := F0 m 105 ls []) rfl ?_
                  have hP : va_P G vwCl (bkW y a (bLA (u2 b 7 i (b 7 i + ch)) (bTA (u2 b 7 i (b 7 i + ch))) (b 0 5) 6) n la L) H := hP
                  have hD : va_D A (bkW y a (bLA (u2 b 7 i (b 7 i + ch)) (bTA (u2 b 7 i (b 7 i + ch))) (b 0 5) 6) n la L) := hD
                  refine lv_iload_n hx hb dX2_deposit_105 rfl (lv_at hl 0 rfl) ?_
                  have e2 : bDep b i ch = (bLA (u2 b 7 i (b 7 i + ch)) (bTA (u2 b 7 i (b 7 i + ch))) (b 0 5) 6) := by unfold bDep; exact if_pos ⟨c_81, c_85⟩
                  refine vx_ret ?_
                  refine W.widen (k := 1) (n := 6) (Nat.le_of_ble_eq_true rfl) (Nat.le_of_ble_eq_true rfl) ?_
                  exact W.iret (v := (b 7 i + ch)) hx hb hr (fun t ht hW => ⟨⟨(), congrArg (fun z => Outcome.returned (some (.int z))) (by rw [cnI (by omega)]), ev, by rw [ht]; rw [cnI (by omega), e2]; exact hP, by rw [cnI (by omega), e2]; exact hD⟩, hS.F ht⟩) hS.2.2 dX2_deposit_106
            · have ev : (xDep b (nI i) ch) = 3 := by unfold xDep; rw [cnI (by omega)]; exact (if_neg c_1).trans ((if_neg (Int32.not_le.mpr c_6)).trans ((if_neg c_22).trans ((if_neg (Int32.not_lt.mpr c_28)).trans ((if_neg c_51).trans ((if_pos (Int32.not_le.mp c_57)))))))
              obtain ⟨sa, hsa⟩ := hK.2.2.2.1 (125, "balance out of range") (by decide +kernel)
              exact vx_throwS (names := ["java/lang/RuntimeException", "java/lang/Exception"]) (cls := "java/lang/IllegalStateException") (text := "balance out of range") hx hb hlt hown (by decide +kernel) (by decide +kernel) (hts (.classLink RX2 84 "java/lang/IllegalStateException") (by decide +kernel)) (hts (.initialized "java/lang/IllegalStateException") (by decide +kernel)) hsa (vx_hat (B := .castable "java/lang/IllegalStateException" "java/lang/IllegalStateException" :: twD.map Cond.declares) (fun w hw => hts w (List.mem_cons_of_mem _ (List.mem_append_right _ hw))) (by decide +kernel) (hK.2.thrB (by decide +kernel))) (by decide +kernel) hZ.1 hZ.2 hS (by rw [hml]; exact hl.1) dX2_deposit_60 dX2_deposit_63 dX2_deposit_64 dX2_deposit_66 dX2_deposit_69 (fun x hx => (hout x hx).elim) (Nat.le_of_ble_eq_true rfl) (Nat.le_of_ble_eq_true rfl) (Nat.le_of_ble_eq_true rfl) (Nat.le_of_ble_eq_true rfl) hlocks (fun t _ h1 h2 => ⟨(), trivial, ⟨⟨by rw [ev]; rfl, by rw [ev]; decide⟩, hP.kept (fun k q hk => h2 q.1 (hP k q hk).lt), hD⟩, ⟨h1, fun q hq _ => h2 q hq⟩⟩) t_nil (Nat.le_of_ble_eq_true rfl) (Nat.le_of_ble_eq_true rfl)
        · have ev : (xDep b x ch) = 2 := by unfold xDep; exact (if_neg c_1).trans ((if_neg (Int32.not_le.mpr c_6)).trans ((if_neg c_22).trans ((if_pos (Int32.not_le.mp c_28)))))
          obtain ⟨sa, hsa⟩ := hK.2.2.2.1 (123, "change out of range") (by decide +kernel)
          exact vx_throwS (names := ["java/lang/RuntimeException", "java/lang/Exception"]) (cls := "java/lang/IllegalArgumentException") (text := "change out of range") hx hb hlt hown (by decide +kernel) (by decide +kernel) (hts (.classLink RX2 66 "java/lang/IllegalArgumentException") (by decide +kernel)) (hts (.initialized "java/lang/IllegalArgumentException") (by decide +kernel)) hsa (vx_hat (B := .castable "java/lang/IllegalArgumentException" "java/lang/IllegalArgumentException" :: twD.map Cond.declares) (fun w hw => hts w (List.mem_cons_of_mem _ (List.mem_append_left _ (List.mem_append_right _ hw)))) (by decide +kernel) (hK.2.thrB (by decide +kernel))) (by decide +kernel) hZ.1 hZ.2 hS (by rw [hml]; exact hl.1) dX2_deposit_31 dX2_deposit_34 dX2_deposit_35 dX2_deposit_37 dX2_deposit_40 (fun x hx => (hout x hx).elim) (Nat.le_of_ble_eq_true rfl) (Nat.le_of_ble_eq_true rfl) (Nat.le_of_ble_eq_true rfl) (Nat.le_of_ble_eq_true rfl) hlocks (fun t _ h1 h2 => ⟨(), trivial, ⟨⟨by rw [ev]; rfl, by rw [ev]; decide⟩, hP.kept (fun k q hk => h2 q.1 (hP k q hk).lt), hD⟩, ⟨h1, fun q hq _ => h2 q hq⟩⟩) t_nil (Nat.le_of_ble_eq_true rfl) (Nat.le_of_ble_eq_true rfl)
    · have ev : (xDep b x ch) = 1 := by unfold xDep; exact (if_neg c_1).trans ((if_pos (Int32.not_lt.mp c_6)))
      obtain ⟨sa, hsa⟩ := hK.2.2.2.1 (120, "no such branch") (by decide +kernel)
      exact vx_throwS (names := ["java/lang/RuntimeException", "java/lang/Exception"]) (cls := "java/lang/IndexOutOfBoundsException") (text := "no such branch") hx hb hlt hown (by decide +kernel) (by decide +kernel) (hts (.classLink RX2 59 "java/lang/IndexOutOfBoundsException") (by decide +kernel)) (hts (.initialized "java/lang/IndexOutOfBoundsException") (by decide +kernel)) hsa (vx_hat (B := .castable "java/lang/IndexOutOfBoundsException" "java/lang/IndexOutOfBoundsException" :: twD.map Cond.declares) (fun w hw => hts w (List.mem_cons_of_mem _ (List.mem_append_left _ (List.mem_append_left _ (List.mem_append_right _ hw))))) (by decide +kernel) (hK.2.thrB (by decide +kernel))) (by decide +kernel) hZ.1 hZ.2 hS (by rw [hml]; exact hl.1) dX2_deposit_9 dX2_deposit_12 dX2_deposit_13 dX2_deposit_15 dX2_deposit_18 (fun x hx => (hout x hx).elim) (Nat.le_of_ble_eq_true rfl) (Nat.le_of_ble_eq_true rfl) (Nat.le_of_ble_eq_true rfl) (Nat.le_of_ble_eq_true rfl) hlocks (fun t _ h1 h2 => ⟨(), trivial, ⟨⟨by rw [ev]; rfl, by rw [ev]; decide⟩, hP.kept (fun k q hk => h2 q.1 (hP k q hk).lt), hD⟩, ⟨h1, fun q hq _ => h2 q hq⟩⟩) t_nil (Nat.le_of_ble_eq_true rfl) (Nat.le_of_ble_eq_true rfl)
set_option maxHeartbeats 4000000 in
set_option maxRecDepth 100000 in
theorem c_X2_left (l : Launch) (hlt : l.stackTraces = false) (G : va_G) (y : Nat → ClassId) (a : Nat → Nat) (b : MS) (n : Nat) (la : Nat → Nat → Nat) (L : LNS) (sz : Nat) (hn24 : n ≤ 24) (pd : Nat → Nat) (hpd : ∀ k, k < n → L k 0 7 = nI (pd k) ∧ pd k ≤ 6) (x : Int32) : vx_Met l yX2_left wsX2_left ({ frames := 6, cells := 1, slots := 6, locals := 82 }) (xP G y [.ref (a 13), .int x] (bkW y a b n la L) sz) (mQ G (fun _ : Unit => some (.int (lUnp (L (cn x)) (pd (cn x))))) (fun _ => (if mIn x 0 (nI n - 1) = 0 then 1 else 0) = 0) (fun _ => bkW y a b n la L) (va_A (bkW y a b n la L) sz)) (xX G (fun E => E = exN ((if mIn x 0 (nI n - 1) = 0 then 1 else 0)) ∧ ¬ (if mIn x 0 (nI n - 1) = 0 then 1 else 0) = 0) (bkW y a b n la L) (va_A (bkW y a b n la L) sz)) 1 6 (va_A (bkW y a b n la L) sz) := by
  refine vx_ofW (cc := cX2_left) (maxL := 3) (ret := (some .int)) (by decide) rfl ?_
  intro p e s m args below meth c s₁ B hml hout hv
  obtain ⟨rfl, hsz, hP, hK, hD0, hZ⟩ := hv
  have hx := B.exec
  have hb := B.bytes
  have hr := B.returns
  have hts := atoms_spec (ws := wsX2_left) B.pre
  have hown : s.vm.findClass RX2 = some m.cls := findClass_of_methodNamed B.named
  have hlocks := B.notSynchronized
  subst hsz
  have hD := hD0.self (sz := s.heap.size)
  generalize hAe : va_A (bkW y a b n la L) s.heap.size = A at hD hZ ⊢
  have hA : ∀ q : Nat, s.heap.size ≤ q → A q := fun q h => by rw [← hAe]; exact Or.inr h
  have hS : va_S A s.heap s.heap [] := va_S.rf
  have hP : va_P G vwCl (bkW y a b n la L) s.heap := hP
  have hl := lv_entry ([.ref (a 13), .int x]) (n := 3) (Nat.le_of_ble_eq_true rfl)
  rw [lg_entry_eq]
  generalize (lg_sl ([.ref (a 13), .int x]) ++ List.replicate (3 - (lg_sl ([.ref (a 13), .int x])).length) Slot.unset).toArray = ls at hl ⊢
  have hl : lv_has ls 3 [(0, .ref (a 13)), (1, .int x)] := hl
  refine lv_aload_n hx hb dX2_left_0 rfl (lv_at hl 0 rfl) ?_
  refine lv_iload_n hx hb dX2_left_1 rfl (lv_at hl 1 rfl) ?_
  refine caR (r := va_rf (bFind n la x)) (va_runV (As := [.int x]) (rest := []) ⟨hx, hb, hml, hown, hts⟩ (c_X2_findLoan l G y a b n la L x) (cwV 1 hts gX2_left_X2_findLoan rfl rfl rfl (by decide +kernel) ⟨Nat.le_of_ble_eq_true rfl, Nat.le_of_ble_eq_true rfl⟩) ⟨rP_bl, va_recv hK.1 hP (ci := 2) (q0 := 0) rfl rfl, fun U hU hW => ⟨rfl, by rw [hU]; exact hP, Kb.moved hW hK⟩⟩ rfl rfl hl.1 rfl (lv_room (Nat.le_of_ble_eq_true rfl)) dX2_left_2 ⟨Nat.le_of_ble_eq_true rfl, Nat.le_of_ble_eq_true rfl⟩) ?_
  by_cases hxx : mIn x 0 (nI n - 1) = 0
  · refine lv_optN (bFind_N hxx hn24) ?_
    refine lv_astore_nN (lv' := [(2, .null), (0, .ref (a 13)), (1, .int x)]) hx hb dX2_left_5 rfl hl (by decide) rfl (fun ls hl => ?_)
    refine lv_aload_nN hx hb dX2_left_6 rfl (lv_at hl 0 rfl) ?_
    refine lv_ifnonnullN hx hb dX2_left_7 ?_
    have ev : (if mIn x 0 (nI n - 1) = 0 then 1 else 0) = 1 := by exact if_pos hxx
    obtain ⟨sa, hsa⟩ := hK.2.2.2.1 (105, "no such loan") (by decide +kernel)
    exact vx_throwS (names := ["java/lang/RuntimeException", "java/lang/Exception"]) (cls := "java/lang/IndexOutOfBoundsException") (text := "no such loan") hx hb hlt hown (by decide +kernel) (by decide +kernel) (hts (.classLink RX2 59 "java/lang/IndexOutOfBoundsException") (by decide +kernel)) (hts (.initialized "java/lang/IndexOutOfBoundsException") (by decide +kernel)) hsa (vx_hat (B := .castable "java/lang/IndexOutOfBoundsException" "java/lang/IndexOutOfBoundsException" :: twD.map Cond.declares) (fun w hw => hts w (List.mem_cons_of_mem _ (List.mem_append_right _ hw))) (by decide +kernel) (hK.2.thrB (by decide +kernel))) (by decide +kernel) hZ.1 hZ.2 hS (by rw [hml]; exact hl.1) dX2_left_10 dX2_left_13 dX2_left_14 dX2_left_16 dX2_left_19 (fun x hx => (hout x hx).elim) (Nat.le_of_ble_eq_true rfl) (Nat.le_of_ble_eq_true rfl) (Nat.le_of_ble_eq_true rfl) (Nat.le_of_ble_eq_true rfl) hlocks (fun t _ h1 h2 => ⟨(), trivial, ⟨⟨by rw [ev]; rfl, by rw [ev]; decide⟩, hP.kept (fun k q hk => h2 q.1 (hP k q hk).lt), hD⟩, ⟨h1, fun q hq _ => h2 q hq⟩⟩) t_nil (Nat.le_of_ble_eq_true rfl) (Nat.le_of_ble_eq_true rfl)
  · obtain ⟨i, hi, rfl⟩ := inL hxx (by omega)
    refine lv_optS (bFind_S hi hn24) ?_
    refine lv_astore_n (lv' := [(2, .ref (la i 0)), (0, .ref (a 13)), (1, .int (nI i))]) hx hb dX2_left_5 rfl hl (by decide) rfl (fun ls hl => ?_)
    refine lv_aload_n hx hb dX2_left_6 rfl (lv_at hl 0 rfl) ?_
    refine lv_ifnonnull (tgt := 20) hx hb dX2_left_7 (by decide) ?_
    refine lv_aload_n hx hb dX2_left_20 rfl (lv_at hl 0 rfl) ?_
    refine caR (r := .int (lUnp (L i) (pd i))) (va_runVN (As := []) (rest := []) ⟨hx, hb, hml, hown, hts⟩ (c_X0_unpaid l G y la L i (pd i) (hpd i hi).1 (hpd i hi).2) ⟨va_cnB (host := "FundBook") 0 hts gX2_left_X0_unpaid_n107 rfl rfl rfl (hK.nw (by decide +kernel)) (hts (.initialized RX0) (by decide +kernel)) (by decide +kernel) ⟨Nat.le_of_ble_eq_true rfl, Nat.le_of_ble_eq_true rfl⟩, hts (.instanceMethod yX0_unpaid) (by decide +kernel), hts (.selects RX0 yX0_unpaid yX0_unpaid) (by decide +kernel)⟩ ⟨rP_bl, va_recv hK.1 (bk_ln hP hi) (ci := 0) (q0 := 0) rfl rfl, fun U hU hW => ⟨rfl, by rw [hU]; exact (bk_ln hP hi), Kb.moved hW hK⟩⟩ rfl rfl hl.1 rfl (lv_room (Nat.le_of_ble_eq_true rfl)) dX2_left_21 ⟨Nat.le_of_ble_eq_true rfl, Nat.le_of_ble_eq_true rfl⟩) ?_
    refine vx_ret ?_
    refine W.widen (k := 1) (n := 6) (Nat.le_of_ble_eq_true rfl) (Nat.le_of_ble_eq_true rfl) ?_
    exact W.iret (v := lUnp (L i) (pd i)) hx hb hr (fun t ht hW => ⟨⟨(), congrArg (fun z => Outcome.returned (some (.int z))) (by rw [cnI (by omega)]), if_neg hxx, by rw [ht]; exact hP, by exact hD⟩, hS.F ht⟩) hS.2.2 dX2_left_24
set_option maxHeartbeats 4000000 in
set_option maxRecDepth 100000 in
theorem c_X2_bears (l : Launch) (hlt : l.stackTraces = false) (G : va_G) (y : Nat → ClassId) (a : Nat → Nat) (b : MS) (n : Nat) (la : Nat → Nat → Nat) (L : LNS) (sz : Nat) (hn24 : n ≤ 24) (pd : Nat → Nat) (hpd : ∀ k, k < n → L k 0 7 = nI (pd k) ∧ pd k ≤ 6) (x w : Int32) : vx_Met l yX2_bears wsX2_bears ({ frames := 6, cells := 1, slots := 6, locals := 82 }) (xP G y [.ref (a 13), .int x, .int w] (bkW y a b n la L) sz) (mQ G (fun _ : Unit => some (.int (bBear (L (cn x)) (pd (cn x)) w))) (fun _ => (xBears n x w) = 0) (fun _ => bkW y a b n la L) (va_A (bkW y a b n la L) sz)) (xX G (fun E => E = exN ((xBears n x w)) ∧ ¬ (xBears n x w) = 0) (bkW y a b n la L) (va_A (bkW y a b n la L) sz)) 1 6 (va_A (bkW y a b n la L) sz) := by
  refine vx_ofW (cc := cX2_bears) (maxL := 4) (ret := (some .int)) (by decide) rfl ?_
  intro p e s m args below meth c s₁ B hml hout hv
  obtain ⟨rfl, hsz, hP, hK, hD0, hZ⟩ := hv
  have hx := B.exec
  have hb := B.bytes
  have hr := B.returns
  have hts := atoms_spec (ws := wsX2_bears) B.pre
  have hown : s.vm.findClass RX2 = some m.cls := findClass_of_methodNamed B.named
  have hlocks := B.notSynchronized
  subst hsz
  have hD := hD0.self (sz := s.heap.size)
  generalize hAe : va_A (bkW y a b n la L) s.heap.size = A at hD hZ ⊢
  have hA : ∀ q : Nat, s.heap.size ≤ q → A q := fun q h => by rw [← hAe]; exact Or.inr h
  have hS : va_S A s.heap s.heap [] := va_S.rf
  have hP : va_P G vwCl (bkW y a b n la L) s.heap := hP
  have hl := lv_entry ([.ref (a 13), .int x, .int w]) (n := 4) (Nat.le_of_ble_eq_true rfl)
  rw [lg_entry_eq]
  generalize (lg_sl ([.ref (a 13), .int x, .int w]) ++ List.replicate (4 - (lg_sl ([.ref (a 13), .int x, .int w])).length) Slot.unset).toArray = ls at hl ⊢
  have hl : lv_has ls 4 [(0, .ref (a 13)), (1, .int x), (2, .int w)] := hl
  refine lv_aload_n hx hb dX2_bears_0 rfl (lv_at hl 0 rfl) ?_
  refine lv_iload_n hx hb dX2_bears_1 rfl (lv_at hl 1 rfl) ?_
  refine caR (r := va_rf (bFind n la x)) (va_runV (As := [.int x]) (rest := []) ⟨hx, hb, hml, hown, hts⟩ (c_X2_findLoan l G y a b n la L x) (cwV 1 hts gX2_bears_X2_findLoan rfl rfl rfl (by decide +kernel) ⟨Nat.le_of_ble_eq_true rfl, Nat.le_of_ble_eq_true rfl⟩) ⟨rP_bl, va_recv hK.1 hP (ci := 2) (q0 := 0) rfl rfl, fun U hU hW => ⟨rfl, by rw [hU]; exact hP, Kb.moved hW hK⟩⟩ rfl rfl hl.1 rfl (lv_room (Nat.le_of_ble_eq_true rfl)) dX2_bears_2 ⟨Nat.le_of_ble_eq_true rfl, Nat.le_of_ble_eq_true rfl⟩) ?_
  by_cases hxx : mIn x 0 (nI n - 1) = 0
  · refine lv_optN (bFind_N hxx hn24) ?_
    refine lv_astore_nN (lv' := [(3, .null), (0, .ref (a 13)), (1, .int x), (2, .int w)]) hx hb dX2_bears_5 rfl hl (by decide) rfl (fun ls hl => ?_)
    refine lv_aload_nN hx hb dX2_bears_6 rfl (lv_at hl 0 rfl) ?_
    refine lv_ifnonnullN hx hb dX2_bears_7 ?_
    have ev : (xBears n x w) = 1 := by unfold xBears; exact if_pos hxx
    obtain ⟨sa, hsa⟩ := hK.2.2.2.1 (105, "no such loan") (by decide +kernel)
    exact vx_throwS (names := ["java/lang/RuntimeException", "java/lang/Exception"]) (cls := "java/lang/IndexOutOfBoundsException") (text := "no such loan") hx hb hlt hown (by decide +kernel) (by decide +kernel) (hts (.classLink RX2 59 "java/lang/IndexOutOfBoundsException") (by decide +kernel)) (hts (.initialized "java/lang/IndexOutOfBoundsException") (by decide +kernel)) hsa (vx_hat (B := .castable "java/lang/IndexOutOfBoundsException" "java/lang/IndexOutOfBoundsException" :: twD.map Cond.declares) (fun w hw => hts w (List.mem_cons_of_mem _ (List.mem_append_left _ (List.mem_append_right _ hw)))) (by decide +kernel) (hK.2.thrB (by decide +kernel))) (by decide +kernel) hZ.1 hZ.2 hS (by rw [hml]; exact hl.1) dX2_bears_10 dX2_bears_13 dX2_bears_14 dX2_bears_16 dX2_bears_19 (fun x hx => (hout x hx).elim) (Nat.le_of_ble_eq_true rfl) (Nat.le_of_ble_eq_true rfl) (Nat.le_of_ble_eq_true rfl) (Nat.le_of_ble_eq_true rfl) hlocks (fun t _ h1 h2 => ⟨(), trivial, ⟨⟨by rw [ev]; rfl, by rw [ev]; decide⟩, hP.kept (fun k q hk => h2 q.1 (hP k q hk).lt), hD⟩, ⟨h1, fun q hq _ => h2 q hq⟩⟩) t_nil (Nat.le_of_ble_eq_true rfl) (Nat.le_of_ble_eq_true rfl)
  · obtain ⟨i, hi, rfl⟩ := inL hxx (by omega)
    refine lv_optS (bFind_S hi hn24) ?_
    refine lv_astore_n (lv' := [(3, .ref (la i 0)), (0, .ref (a 13)), (1, .int (nI i)), (2, .int w)]) hx hb dX2_bears_5 rfl hl (by decide) rfl (fun ls hl => ?_)
    refine lv_aload_n hx hb dX2_bears_6 rfl (lv_at hl 0 rfl) ?_
    refine lv_ifnonnull (tgt := 20) hx hb dX2_bears_7 (by decide) ?_
    refine lv_iload_n hx hb dX2_bears_20 rfl (lv_at hl 3 rfl) ?_
    by_cases hw : mIn w 0 3 = 0
    · have hw2 : w.toInt < 0 ∨ 3 < w.toInt := mIn_F3 hw
      refine lv_tableOut (tgt := 72) hx hb dX2_bears_21 hw2 (by decide) ?_
      have ev : (xBears n (nI i) w) = 2 := by unfold xBears; exact (if_neg hxx).trans ((if_pos hw))
      obtain ⟨sa, hsa⟩ := hK.2.2.2.1 (161, "what out of range") (by decide +kernel)
      exact vx_throwS (names := ["java/lang/RuntimeException", "java/lang/Exception"]) (cls := "java/lang/IllegalArgumentException") (text := "what out of range") hx hb hlt hown (by decide +kernel) (by decide +kernel) (hts (.classLink RX2 66 "java/lang/IllegalArgumentException") (by decide +kernel)) (hts (.initialized "java/lang/IllegalArgumentException") (by decide +kernel)) hsa (vx_hat (B := .castable "java/lang/IllegalArgumentException" "java/lang/IllegalArgumentException" :: twD.map Cond.declares) (fun w hw => hts w (List.mem_cons_of_mem _ (List.mem_append_right _ hw))) (by decide +kernel) (hK.2.thrB (by decide +kernel))) (by decide +kernel) hZ.1 hZ.2 hS (by rw [hml]; exact hl.1) dX2_bears_72 dX2_bears_75 dX2_bears_76 dX2_bears_78 dX2_bears_81 (fun x hx => (hout x hx).elim) (Nat.le_of_ble_eq_true rfl) (Nat.le_of_ble_eq_true rfl) (Nat.le_of_ble_eq_true rfl) (Nat.le_of_ble_eq_true rfl) hlocks (fun t _ h1 h2 => ⟨(), trivial, ⟨⟨by rw [ev]; rfl, by rw [ev]; decide⟩, hP.kept (fun k q hk => h2 q.1 (hP k q hk).lt), hD⟩, ⟨h1, fun q hq _ => h2 q hq⟩⟩) t_nil (Nat.le_of_ble_eq_true rfl) (Nat.le_of_ble_eq_true rfl)
    · have ev : xBears n (nI i) w = 0 := by unfold xBears; exact (if_neg hxx).trans ((if_neg hw))
      obtain ⟨j, hj, rfl⟩ := inN (M := 3) hw (by decide)
      rcases (show j = 0 ∨ j = 1 ∨ j = 2 ∨ j = 3 by omega) with rfl | rfl | rfl | rfl
      · refine lv_tableIn (tgt := 52) (off := 31) hx hb dX2_bears_21 (by decide) (by decide) (by decide) (by decide) ?_
        refine lv_aload_n hx hb dX2_bears_52 rfl (lv_at hl 0 rfl) ?_
        refine caR (r := .int (lCust (L i) (pd i))) (va_runVN (As := []) (rest := []) ⟨hx, hb, hml, hown, hts⟩ (c_X0_customerInterest l G y la L i (pd i) (hpd i hi).1 (hpd i hi).2) ⟨va_cnB (host := "FundBook") 0 hts gX2_bears_X0_customerInterest_n149 rfl rfl rfl (hK.nw (by decide +kernel)) (hts (.initialized RX0) (by decide +kernel)) (by decide +kernel) ⟨Nat.le_of_ble_eq_true rfl, Nat.le_of_ble_eq_true rfl⟩, hts (.instanceMethod yX0_customerInterest) (by decide +kernel), hts (.selects RX0 yX0_customerInterest yX0_customerInterest) (by decide +kernel)⟩ ⟨rP_bl, va_recv hK.1 (bk_ln hP hi) (ci := 0) (q0 := 0) rfl rfl, fun U hU hW => ⟨rfl, by rw [hU]; exact (bk_ln hP hi), Kb.moved hW hK⟩⟩ rfl rfl hl.1 rfl (lv_room (Nat.le_of_ble_eq_true rfl)) dX2_bears_53 ⟨Nat.le_of_ble_eq_true rfl, Nat.le_of_ble_eq_true rfl⟩) ?_
        refine vx_ret ?_
        refine W.widen (k := 1) (n := 6) (Nat.le_of_ble_eq_true rfl) (Nat.le_of_ble_eq_true rfl) ?_
        exact W.iret (v := lCust (L i) (pd i)) hx hb hr (fun t ht hW => ⟨⟨(), congrArg (fun z => Outcome.returned (some (.int z))) (by rw [cnI (by omega)]; rfl), ev, by rw [ht]; exact hP, by exact hD⟩, hS.F ht⟩) hS.2.2 dX2_bears_56
      · refine lv_tableIn (tgt := 57) (off := 36) hx hb dX2_bears_21 (by decide) (by decide) (by decide) (by decide) ?_
        refine lv_aload_n hx hb dX2_bears_57 rfl (lv_at hl 0 rfl) ?_
        refine caR (r := .int (lFund (L i) (pd i))) (va_runVN (As := []) (rest := []) ⟨hx, hb, hml, hown, hts⟩ (c_X0_funding l G y la L i (pd i) (hpd i hi).1 (hpd i hi).2) ⟨va_cnB (host := "FundBook") 0 hts gX2_bears_X0_funding_n152 rfl rfl rfl (hK.nw (by decide +kernel)) (hts (.initialized RX0) (by decide +kernel)) (by decide +kernel) ⟨Nat.le_of_ble_eq_true rfl, Nat.le_of_ble_eq_true rfl⟩, hts (.instanceMethod yX0_funding) (by decide +kernel), hts (.selects RX0 yX0_funding yX0_funding) (by decide +kernel)⟩ ⟨rP_bl, va_recv hK.1 (bk_ln hP hi) (ci := 0) (q0 := 0) rfl rfl, fun U hU hW => ⟨rfl, by rw [hU]; exact (bk_ln hP hi), Kb.moved hW hK⟩⟩ rfl rfl hl.1 rfl (lv_room (Nat.le_of_ble_eq_true rfl)) dX2_bears_58 ⟨Nat.le_of_ble_eq_true rfl, Nat.le_of_ble_eq_true rfl⟩) ?_
        refine vx_ret ?_
        refine W.widen (k := 1) (n := 6) (Nat.le_of_ble_eq_true rfl) (Nat.le_of_ble_eq_true rfl) ?_
        exact W.iret (v := lFund (L i) (pd i)) hx hb hr (fun t ht hW => ⟨⟨(), congrArg (fun z => Outcome.returned (some (.int z))) (by rw [cnI (by omega)]; rfl), ev, by rw [ht]; exact hP, by exact hD⟩, hS.F ht⟩) hS.2.2 dX2_bears_61
      · refine lv_tableIn (tgt := 62) (off := 41) hx hb dX2_bears_21 (by decide) (by decide) (by decide) (by decide) ?_
        refine lv_aload_n hx hb dX2_bears_62 rfl (lv_at hl 0 rfl) ?_
        refine caR (r := .int (lOpt (L i) (pd i))) (va_runVN (As := []) (rest := []) ⟨hx, hb, hml, hown, hts⟩ (c_X0_optionCharge l G y la L i (pd i) (hpd i hi).1 (hpd i hi).2) ⟨va_cnB (host := "FundBook") 0 hts gX2_bears_X0_optionCharge_n155 rfl rfl rfl (hK.nw (by decide +kernel)) (hts (.initialized RX0) (by decide +kernel)) (by decide +kernel) ⟨Nat.le_of_ble_eq_true rfl, Nat.le_of_ble_eq_true rfl⟩, hts (.instanceMethod yX0_optionCharge) (by decide +kernel), hts (.selects RX0 yX0_optionCharge yX0_optionCharge) (by decide +kernel)⟩ ⟨rP_bl, va_recv hK.1 (bk_ln hP hi) (ci := 0) (q0 := 0) rfl rfl, fun U hU hW => ⟨rfl, by rw [hU]; exact (bk_ln hP hi), Kb.moved hW hK⟩⟩ rfl rfl hl.1 rfl (lv_room (Nat.le_of_ble_eq_true rfl)) dX2_bears_63 ⟨Nat.le_of_ble_eq_true rfl, Nat.le_of_ble_eq_true rfl⟩) ?_
        refine vx_ret ?_
        refine W.widen (k := 1) (n := 6) (Nat.le_of_ble_eq_true rfl) (Nat.le_of_ble_eq_true rfl) ?_
        exact W.iret (v := lOpt (L i) (pd i)) hx hb hr (fun t ht hW => ⟨⟨(), congrArg (fun z => Outcome.returned (some (.int z))) (by rw [cnI (by omega)]; rfl), ev, by rw [ht]; exact hP, by exact hD⟩, hS.F ht⟩) hS.2.2 dX2_bears_66
      · refine lv_tableIn (tgt := 67) (off := 46) hx hb dX2_bears_21 (by decide) (by decide) (by decide) (by decide) ?_
        refine lv_aload_n hx hb dX2_bears_67 rfl (lv_at hl 0 rfl) ?_
        refine caR (r := .int (lOwn (L i) (pd i))) (va_runVN (As := []) (rest := []) ⟨hx, hb, hml, hown, hts⟩ (c_X0_ownMargin l G y la L i (pd i) (hpd i hi).1 (hpd i hi).2) ⟨va_cnB (host := "FundBook") 0 hts gX2_bears_X0_ownMargin_n158 rfl rfl rfl (hK.nw (by decide +kernel)) (hts (.initialized RX0) (by decide +kernel)) (by decide +kernel) ⟨Nat.le_of_ble_eq_true rfl, Nat.le_of_ble_eq_true rfl⟩, hts (.instanceMethod yX0_ownMargin) (by decide +kernel), hts (.selects RX0 yX0_ownMargin yX0_ownMargin) (by decide +kernel)⟩ ⟨rP_bl, va_recv hK.1 (bk_ln hP hi) (ci := 0) (q0 := 0) rfl rfl, fun U hU hW => ⟨rfl, by rw [hU]; exact (bk_ln hP hi), Kb.moved hW hK⟩⟩ rfl rfl hl.1 rfl (lv_room (Nat.le_of_ble_eq_true rfl)) dX2_bears_68 ⟨Nat.le_of_ble_eq_true rfl, Nat.le_of_ble_eq_true rfl⟩) ?_
        refine vx_ret ?_
        refine W.widen (k := 1) (n := 6) (Nat.le_of_ble_eq_true rfl) (Nat.le_of_ble_eq_true rfl) ?_
        exact W.iret (v := lOwn (L i) (pd i)) hx hb hr (fun t ht hW => ⟨⟨(), congrArg (fun z => Outcome.returned (some (.int z))) (by rw [cnI (by omega)]; rfl), ev, by rw [ht]; exact hP, by exact hD⟩, hS.F ht⟩) hS.2.2 dX2_bears_71
set_option maxHeartbeats 4000000 in
set_option maxRecDepth 100000 in
theorem c_X2_due (l : Launch) (hlt : l.stackTraces = false) (G : va_G) (y : Nat → ClassId) (a : Nat → Nat) (b : MS) (n : Nat) (la : Nat → Nat → Nat) (L : LNS) (sz : Nat) (pd : Nat → Nat) (hpd : ∀ k, k < n → L k 0 7 = nI (pd k) ∧ pd k ≤ 6) (x : Int32) : vx_Met l yX2_due wsX2_due ({ frames := 6, cells := 1, slots := 6, locals := 82 }) (xP G y [.ref (a 13), .int x] (bkW y a b n la L) sz) (mQ G (fun _ : Unit => some (.int (S32 (bSm n (bDu L pd (cn x))) 24))) (fun _ => (xDue x) = 0) (fun _ => bkW y a b n la L) (va_A (bkW y a b n la L) sz)) (xX G (fun E => E = exN ((xDue x)) ∧ ¬ (xDue x) = 0) (bkW y a b n la L) (va_A (bkW y a b n la L) sz)) 1 6 (va_A (bkW y a b n la L) sz) := by
  refine vx_ofW (cc := cX2_due) (maxL := 7) (ret := (some .int)) (by decide) rfl ?_
  intro p e s m args below meth c s₁ B hml hout hv
  obtain ⟨rfl, hsz, hP, hK, hD0, hZ⟩ := hv
  have hx := B.exec
  have hb := B.bytes
  have hr := B.returns
  have hts := atoms_spec (ws := wsX2_due) B.pre
  have hown : s.vm.findClass RX2 = some m.cls := findClass_of_methodNamed B.named
  have hlocks := B.notSynchronized
  subst hsz
  have hD := hD0.self (sz := s.heap.size)
  generalize hAe : va_A (bkW y a b n la L) s.heap.size = A at hD hZ ⊢
  have hA : ∀ q : Nat, s.heap.size ≤ q → A q := fun q h => by rw [← hAe]; exact Or.inr h
  have hS : va_S A s.heap s.heap [] := va_S.rf
  have hP : va_P G vwCl (bkW y a b n la L) s.heap := hP
  have hl := lv_entry ([.ref (a 13), .int x]) (n := 7) (Nat.le_of_ble_eq_true rfl)
  rw [lg_entry_eq]
  generalize (lg_sl ([.ref (a 13), .int x]) ++ List.replicate (7 - (lg_sl ([.ref (a 13), .int x])).length) Slot.unset).toArray = ls at hl ⊢
  have hin2 : ∀ w ∈ wsX20, w ∈ wsX2_due := by decide +kernel
  have hl : lv_has ls 7 [(0, .ref (a 13)), (1, .int x)] := hl
  refine lv_iload_n hx hb dX2_due_0 rfl (lv_at hl 1 rfl) ?_
  refine lv_if_lt (tgt := 10) hx hb dX2_due_1 (by decide) (fun c_1 => ?_) (fun c_1 => ?_)
  · have ev : (xDue x) = 2 := by unfold xDue; exact (if_pos c_1)
    obtain ⟨sa, hsa⟩ := hK.2.2.2.1 (163, "ahead out of range") (by decide +kernel)
    exact vx_throwS (names := ["java/lang/RuntimeException", "java/lang/Exception"]) (cls := "java/lang/IllegalArgumentException") (text := "ahead out of range") hx hb hlt hown (by decide +kernel) (by decide +kernel) (hts (.classLink RX2 66 "java/lang/IllegalArgumentException") (by decide +kernel)) (hts (.initialized "java/lang/IllegalArgumentException") (by decide +kernel)) hsa (vx_hat (B := .castable "java/lang/IllegalArgumentException" "java/lang/IllegalArgumentException" :: twD.map Cond.declares) (fun w hw => hts w (List.mem_cons_of_mem _ (List.mem_append_right _ hw))) (by decide +kernel) (hK.2.thrB (by decide +kernel))) (by decide +kernel) hZ.1 hZ.2 hS (by rw [hml]; exact hl.1) dX2_due_10 dX2_due_13 dX2_due_14 dX2_due_16 dX2_due_19 (fun x hx => (hout x hx).elim) (Nat.le_of_ble_eq_true rfl) (Nat.le_of_ble_eq_true rfl) (Nat.le_of_ble_eq_true rfl) (Nat.le_of_ble_eq_true rfl) hlocks (fun t _ h1 h2 => ⟨(), trivial, ⟨⟨by rw [ev]; rfl, by rw [ev]; decide⟩, hP.kept (fun k q hk => h2 q.1 (hP k q hk).lt), hD⟩, ⟨h1, fun q hq _ => h2 q hq⟩⟩) t_nil (Nat.le_of_ble_eq_true rfl) (Nat.le_of_ble_eq_true rfl)
  · refine lv_iload_n hx hb dX2_due_4 rfl (lv_at hl 1 rfl) ?_
    refine lv_bipush (v := 6) hx hb dX2_due_5 (by decide) ?_
    refine lv_icmp_lt (tgt := 20) hx hb dX2_due_7 (by decide) (fun c_7 => ?_) (fun c_7 => ?_)
    · have ev : xDue x = 0 := by unfold xDue; exact (if_neg c_1).trans ((if_neg (Int32.not_le.mpr c_7)))
      obtain ⟨i, hi, rfl⟩ := inR (M := 6) c_1 (Int32.not_le.mpr c_7) (by decide)
      refine lv_iconst (v := 0) hx hb dX2_due_20 (by decide) ?_
      refine lv_istore_n (lv' := [(2, .int 0), (0, .ref (a 13)), (1, .int (nI i))]) hx hb dX2_due_21 rfl hl (by decide) rfl (fun ls hl => ?_)
      refine lv_aload_n hx hb dX2_due_22 rfl (lv_at hl 1 rfl) ?_
      refine bkG (b := b) (val := .ref (a 5)) hx hb hts hin2 hown hK hP 5 (by decide) (hts (.fieldLink RX2 28 "FundBook" "loanRows" "[LFundBook$Loan;") (by decide +kernel)) rfl dX2_due_23 ?_
      refine lv_astore_n (lv' := [(3, .ref (a 5)), (2, .int 0), (0, .ref (a 13)), (1, .int (nI i))]) hx hb dX2_due_26 rfl hl (by decide) rfl (fun ls hl => ?_)
      refine lv_aload_n hx hb dX2_due_27 rfl (lv_at hl 0 rfl) ?_
      refine va_alen (v := 24) hx hb hK.1 hP 2 2 bg_5 rfl rfl dX2_due_28 ?_
      refine lv_istore (lv' := [(4, .int 24), (3, .ref (a 5)), (2, .int 0), (0, .ref (a 13)), (1, .int (nI i))]) hx hb dX2_due_29 hl (by decide) rfl (fun ls hl => ?_)
      refine lv_iconst (v := 0) hx hb dX2_due_31 (by decide) ?_
      refine lv_istore (lv' := [(5, .int 0), (4, .int 24), (3, .ref (a 5)), (2, .int 0), (0, .ref (a 13)), (1, .int (nI i))]) hx hb dX2_due_32 hl (by decide) rfl (fun ls hl => ?_)
      refine loopW (LV := fun k => [(0, .ref (a 13)), (1, .int (nI i)), (3, .ref (a 5)), (4, .int 24), (2, .int (S32 (bSm n (bDu L pd i)) k)), (5, .int (nI k))]) 24 (lv_sub hl [4, 5, 2, 1, 3, 0] rfl) (fun k ls hk_k hl ih_k => ?_) (fun ls hl => ?_)
      · have hl : lv_has ls 7 [(0, .ref (a 13)), (1, .int (nI i)), (3, .ref (a 5)), (4, .int 24), (2, .int (S32 (bSm n (bDu L pd i)) k)), (5, .int (nI k))] := hl
        refine lv_iload hx hb dX2_due_34 (lv_at hl 5 rfl) ?_
        refine lv_iload hx hb dX2_due_36 (lv_at hl 3 rfl) ?_
        refine lv_icmp_ge (tgt := 67) hx hb dX2_due_38 (by decide) (fun c_38 => absurd c_38 (nI_ge hk_k (by decide))) (fun c_38 => ?_)
        refine lv_aload_n hx hb dX2_due_41 rfl (lv_at hl 2 rfl) ?_
        refine lv_iload hx hb dX2_due_42 (lv_at hl 5 rfl) ?_
        refine ldQ (f := lrF n la) hx hb hK hP 2 bg_5 k rfl (by omega) (by decide) dX2_due_44 ?_
        rcases Nat.lt_or_ge k n with hkn | hkn
        · refine lv_optS (if_pos hkn) ?_
          refine lv_astore (lv' := [(6, .ref (la k 0)), (0, .ref (a 13)), (1, .int (nI i)), (3, .ref (a 5)), (4, .int 24), (2, .int (S32 (bSm n (bDu L pd i)) k)), (5, .int (nI k))]) hx hb dX2_due_45 hl (by decide) rfl (fun ls hl => ?_)
          refine lv_aload hx hb dX2_due_47 (lv_at hl 0 rfl) ?_
          refine lv_ifnull hx hb dX2_due_49 ?_
          refine lv_iload_n hx hb dX2_due_52 rfl (lv_at hl 5 rfl) ?_
          refine lv_aload hx hb dX2_due_53 (lv_at hl 0 rfl) ?_
          refine lv_iload_n hx hb dX2_due_55 rfl (lv_at hl 2 rfl) ?_
          refine caR (r := .int (lAh (L k) (pd k) i)) (va_runVN (As := [.int (nI i)]) (rest := [.int (S32 (bSm n (bDu L pd i)) k)]) ⟨hx, hb, hml, hown, hts⟩ (c_X0_partAhead l G y la L k (pd k) (hpd k hkn).1 (hpd k hkn).2 i (by omega)) ⟨va_cnB (host := "FundBook") 1 hts gX2_due_X0_partAhead_n165 rfl rfl rfl (hK.nw (by decide +kernel)) (hts (.initialized RX0) (by decide +kernel)) (by decide +kernel) ⟨Nat.le_of_ble_eq_true rfl, Nat.le_of_ble_eq_true rfl⟩, hts (.instanceMethod yX0_partAhead) (by decide +kernel), hts (.selects RX0 yX0_partAhead yX0_partAhead) (by decide +kernel)⟩ ⟨rP_bl, va_recv hK.1 (bk_ln hP hkn) (ci := 0) (q0 := 0) rfl rfl, fun U hU hW => ⟨rfl, by rw [hU]; exact (bk_ln hP hkn), Kb.moved hW hK⟩⟩ rfl rfl hl.1 rfl (lv_room (Nat.le_of_ble_eq_true rfl)) dX2_due_56 ⟨Nat.le_of_ble_eq_true rfl, Nat.le_of_ble_eq_true rfl⟩) ?_
          refine lv_iadd hx hb dX2_due_59 ?_
          refine lv_topE (z := S32 (bSm n (bDu L pd i)) (k + 1)) (bSm_s (F := bDu L pd i) hkn) ?_
          refine lv_istore_n (lv' := [(2, .int (S32 (bSm n (bDu L pd i)) (k + 1))), (6, .ref (la k 0)), (0, .ref (a 13)), (1, .int (nI i)), (3, .ref (a 5)), (4, .int 24), (5, .int (nI k))]) hx hb dX2_due_60 rfl hl (by decide) rfl (fun ls hl => ?_)
          refine lv_iinc (v := (nI (k + 1))) (lv' := [(5, .int (nI (k + 1))), (2, .int (S32 (bSm n (bDu L pd i)) (k + 1))), (6, .ref (la k 0)), (0, .ref (a 13)), (1, .int (nI i)), (3, .ref (a 5)), (4, .int 24)]) hx hb dX2_due_61 hl (k := 6) rfl iinc1 (by decide) rfl (fun ls hl => ?_)
          refine lv_goto (tgt := 34) hx hb dX2_due_64 (by decide) ?_
          exact ih_k ls (lv_sub hl [3, 4, 5, 6, 1, 0] rfl)
        · refine lv_optN (if_neg (Nat.not_lt.mpr hkn)) ?_
          refine lv_astoreN (lv' := [(6, .null), (0, .ref (a 13)), (1, .int (nI i)), (3, .ref (a 5)), (4, .int 24), (2, .int (S32 (bSm n (bDu L pd i)) k)), (5, .int (nI k))]) hx hb dX2_due_45 hl (by decide) rfl (fun ls hl => ?_)
          refine lv_aloadN hx hb dX2_due_47 (lv_at hl 0 rfl) ?_
          refine lv_ifnullN (tgt := 61) hx hb dX2_due_49 (by decide) ?_
          refine lv_iinc (v := (nI (k + 1))) (lv' := [(5, .int (nI (k + 1))), (6, .null), (0, .ref (a 13)), (1, .int (nI i)), (3, .ref (a 5)), (4, .int 24), (2, .int (S32 (bSm n (bDu L pd i)) k))]) hx hb dX2_due_61 hl (k := 6) rfl iinc1 (by decide) rfl (fun ls hl => ?_)
          refine lv_goto (tgt := 34) hx hb dX2_due_64 (by decide) ?_
          exact ih_k ls (by show lv_has ls 7 _; rw [bSm_k hkn]; exact lv_sub hl [2, 3, 4, 5, 6, 0] rfl)
      · have hl : lv_has ls 7 [(0, .ref (a 13)), (1, .int (nI i)), (3, .ref (a 5)), (4, .int 24), (2, .int (S32 (bSm n (bDu L pd i)) 24)), (5, .int (nI 24))] := hl
        refine lv_iload hx hb dX2_due_34 (lv_at hl 5 rfl) ?_
        refine lv_iload hx hb dX2_due_36 (lv_at hl 3 rfl) ?_
        refine lv_icmp_ge (tgt := 67) hx hb dX2_due_38 (by decide) (fun c_38 => ?_) (fun c_38 => absurd (nI_le (Nat.le_refl 24) (by decide)) c_38)
        refine lv_iload_n hx hb dX2_due_67 rfl (lv_at hl 4 rfl) ?_
        refine vx_ret ?_
        refine W.widen (k := 1) (n := 6) (Nat.le_of_ble_eq_true rfl) (Nat.le_of_ble_eq_true rfl) ?_
        exact W.iret (v := S32 (bSm n (bDu L pd i)) 24) hx hb hr (fun t ht hW => ⟨⟨(), congrArg (fun z => Outcome.returned (some (.int z))) (by rw [cnI (by omega)]), ev, by rw [ht]; exact hP, by exact hD⟩, hS.F ht⟩) hS.2.2 dX2_due_68
    · have ev : (xDue x) = 2 := by unfold xDue; exact (if_neg c_1).trans ((if_pos (Int32.not_lt.mp c_7)))
      obtain ⟨sa, hsa⟩ := hK.2.2.2.1 (163, "ahead out of range") (by decide +kernel)
      exact vx_throwS (names := ["java/lang/RuntimeException", "java/lang/Exception"]) (cls := "java/lang/IllegalArgumentException") (text := "ahead out of range") hx hb hlt hown (by decide +kernel) (by decide +kernel) (hts (.classLink RX2 66 "java/lang/IllegalArgumentException") (by decide +kernel)) (hts (.initialized "java/lang/IllegalArgumentException") (by decide +kernel)) hsa (vx_hat (B := .castable "java/lang/IllegalArgumentException" "java/lang/IllegalArgumentException" :: twD.map Cond.declares) (fun w hw => hts w (List.mem_cons_of_mem _ (List.mem_append_right _ hw))) (by decide +kernel) (hK.2.thrB (by decide +kernel))) (by decide +kernel) hZ.1 hZ.2 hS (by rw [hml]; exact hl.1) dX2_due_10 dX2_due_13 dX2_due_14 dX2_due_16 dX2_due_19 (fun x hx => (hout x hx).elim) (Nat.le_of_ble_eq_true rfl) (Nat.le_of_ble_eq_true rfl) (Nat.le_of_ble_eq_true rfl) (Nat.le_of_ble_eq_true rfl) hlocks (fun t _ h1 h2 => ⟨(), trivial, ⟨⟨by rw [ev]; rfl, by rw [ev]; decide⟩, hP.kept (fun k q hk => h2 q.1 (hP k q hk).lt), hD⟩, ⟨h1, fun q hq _ => h2 q hq⟩⟩) t_nil (Nat.le_of_ble_eq_true rfl) (Nat.le_of_ble_eq_true rfl)
set_option maxHeartbeats 4000000 in
set_option maxRecDepth 100000 in
theorem c_X2_balance (l : Launch) (hlt : l.stackTraces = false) (G : va_G) (y : Nat → ClassId) (a : Nat → Nat) (b : MS) (n : Nat) (la : Nat → Nat → Nat) (L : LNS) (sz : Nat) (x : Int32) : vx_Met l yX2_balance wsX2_balance ({ frames := 6, cells := 1, slots := 6, locals := 82 }) (xP G y [.ref (a 13), .int x] (bkW y a b n la L) sz) (mQ G (fun _ : Unit => some (.int (b 7 (cn x)))) (fun _ => (x3 x) = 0) (fun _ => bkW y a b n la L) (va_A (bkW y a b n la L) sz)) (xX G (fun E => E = exN ((x3 x)) ∧ ¬ (x3 x) = 0) (bkW y a b n la L) (va_A (bkW y a b n la L) sz)) 1 6 (va_A (bkW y a b n la L) sz) := by
  refine vx_ofW (cc := cX2_balance) (maxL := 2) (ret := (some .int)) (by decide) rfl ?_
  intro p e s m args below meth c s₁ B hml hout hv
  obtain ⟨rfl, hsz, hP, hK, hD0, hZ⟩ := hv
  have hx := B.exec
  have hb := B.bytes
  have hr := B.returns
  have hts := atoms_spec (ws := wsX2_balance) B.pre
  have hown : s.vm.findClass RX2 = some m.cls := findClass_of_methodNamed B.named
  have hlocks := B.notSynchronized
  subst hsz
  have hD := hD0.self (sz := s.heap.size)
  generalize hAe : va_A (bkW y a b n la L) s.heap.size = A at hD hZ ⊢
  have hA : ∀ q : Nat, s.heap.size ≤ q → A q := fun q h => by rw [← hAe]; exact Or.inr h
  have hS : va_S A s.heap s.heap [] := va_S.rf
  have hP : va_P G vwCl (bkW y a b n la L) s.heap := hP
  have hl := lv_entry ([.ref (a 13), .int x]) (n := 2) (Nat.le_of_ble_eq_true rfl)
  rw [lg_entry_eq]
  generalize (lg_sl ([.ref (a 13), .int x]) ++ List.replicate (2 - (lg_sl ([.ref (a 13), .int x])).length) Slot.unset).toArray = ls at hl ⊢
  have hin2 : ∀ w ∈ wsX20, w ∈ wsX2_balance := by decide +kernel
  have hl : lv_has ls 2 [(0, .ref (a 13)), (1, .int x)] := hl
  refine lv_iload_n hx hb dX2_balance_0 rfl (lv_at hl 1 rfl) ?_
  refine lv_if_lt (tgt := 9) hx hb dX2_balance_1 (by decide) (fun c_1 => ?_) (fun c_1 => ?_)
  · have ev : (x3 x) = 1 := by unfold x3; exact (if_pos c_1)
    obtain ⟨sa, hsa⟩ := hK.2.2.2.1 (120, "no such branch") (by decide +kernel)
    exact vx_throwS (names := ["java/lang/RuntimeException", "java/lang/Exception"]) (cls := "java/lang/IndexOutOfBoundsException") (text := "no such branch") hx hb hlt hown (by decide +kernel) (by decide +kernel) (hts (.classLink RX2 59 "java/lang/IndexOutOfBoundsException") (by decide +kernel)) (hts (.initialized "java/lang/IndexOutOfBoundsException") (by decide +kernel)) hsa (vx_hat (B := .castable "java/lang/IndexOutOfBoundsException" "java/lang/IndexOutOfBoundsException" :: twD.map Cond.declares) (fun w hw => hts w (List.mem_cons_of_mem _ (List.mem_append_right _ hw))) (by decide +kernel) (hK.2.thrB (by decide +kernel))) (by decide +kernel) hZ.1 hZ.2 hS (by rw [hml]; exact hl.1) dX2_balance_9 dX2_balance_12 dX2_balance_13 dX2_balance_15 dX2_balance_18 (fun x hx => (hout x hx).elim) (Nat.le_of_ble_eq_true rfl) (Nat.le_of_ble_eq_true rfl) (Nat.le_of_ble_eq_true rfl) (Nat.le_of_ble_eq_true rfl) hlocks (fun t _ h1 h2 => ⟨(), trivial, ⟨⟨by rw [ev]; rfl, by rw [ev]; decide⟩, hP.kept (fun k q hk => h2 q.1 (hP k q hk).lt), hD⟩, ⟨h1, fun q hq _ => h2 q hq⟩⟩) t_nil (Nat.le_of_ble_eq_true rfl) (Nat.le_of_ble_eq_true rfl)
  · refine lv_iload_n hx hb dX2_balance_4 rfl (lv_at hl 1 rfl) ?_
    refine lv_iconst (v := 3) hx hb dX2_balance_5 (by decide) ?_
    refine lv_icmp_lt (tgt := 19) hx hb dX2_balance_6 (by decide) (fun c_6 => ?_) (fun c_6 => ?_)
    · have ev : x3 x = 0 := by unfold x3; exact (if_neg c_1).trans ((if_neg (Int32.not_le.mpr c_6)))
      obtain ⟨i, hi, rfl⟩ := inR (M := 3) c_1 (Int32.not_le.mpr c_6) (by decide)
      refine lv_aload_n hx hb dX2_balance_19 rfl (lv_at hl 0 rfl) ?_
      refine bkG (b := b) (val := .ref (a 7)) hx hb hts hin2 hown hK hP 7 (by decide) (hts (.fieldLink RX2 35 "FundBook" "balances" "[I") (by decide +kernel)) rfl dX2_balance_20 ?_
      refine lv_iload_n hx hb dX2_balance_23 rfl (lv_at hl 1 rfl) ?_
      refine ldI (f := b 7) hx hb hK hP 3 bg_7 i rfl (by omega) (by decide) dX2_balance_24 ?_
      refine vx_ret ?_
      refine W.widen (k := 1) (n := 6) (Nat.le_of_ble_eq_true rfl) (Nat.le_of_ble_eq_true rfl) ?_
      exact W.iret (v := b 7 i) hx hb hr (fun t ht hW => ⟨⟨(), congrArg (fun z => Outcome.returned (some (.int z))) (by rw [cnI (by omega)]), ev, by rw [ht]; exact hP, by exact hD⟩, hS.F ht⟩) hS.2.2 dX2_balance_25
    · have ev : (x3 x) = 1 := by unfold x3; exact (if_neg c_1).trans ((if_pos (Int32.not_lt.mp c_6)))
      obtain ⟨sa, hsa⟩ := hK.2.2.2.1 (120, "no such branch") (by decide +kernel)
      exact vx_throwS (names := ["java/lang/RuntimeException", "java/lang/Exception"]) (cls := "java/lang/IndexOutOfBoundsException") (text := "no such branch") hx hb hlt hown (by decide +kernel) (by decide +kernel) (hts (.classLink RX2 59 "java/lang/IndexOutOfBoundsException") (by decide +kernel)) (hts (.initialized "java/lang/IndexOutOfBoundsException") (by decide +kernel)) hsa (vx_hat (B := .castable "java/lang/IndexOutOfBoundsException" "java/lang/IndexOutOfBoundsException" :: twD.map Cond.declares) (fun w hw => hts w (List.mem_cons_of_mem _ (List.mem_append_right _ hw))) (by decide +kernel) (hK.2.thrB (by decide +kernel))) (by decide +kernel) hZ.1 hZ.2 hS (by rw [hml]; exact hl.1) dX2_balance_9 dX2_balance_12 dX2_balance_13 dX2_balance_15 dX2_balance_18 (fun x hx => (hout x hx).elim) (Nat.le_of_ble_eq_true rfl) (Nat.le_of_ble_eq_true rfl) (Nat.le_of_ble_eq_true rfl) (Nat.le_of_ble_eq_true rfl) hlocks (fun t _ h1 h2 => ⟨(), trivial, ⟨⟨by rw [ev]; rfl, by rw [ev]; decide⟩, hP.kept (fun k q hk => h2 q.1 (hP k q hk).lt), hD⟩, ⟨h1, fun q hq _ => h2 q hq⟩⟩) t_nil (Nat.le_of_ble_eq_true rfl) (Nat.le_of_ble_eq_true rfl)
set_option maxHeartbeats 4000000 in
set_option maxRecDepth 100000 in
theorem c_X2_tranche (l : Launch) (hlt : l.stackTraces = false) (G : va_G) (y : Nat → ClassId) (a : Nat → Nat) (b : MS) (n : Nat) (la : Nat → Nat → Nat) (L : LNS) (sz : Nat) (x : Int32) : vx_Met l yX2_tranche wsX2_tranche ({ frames := 6, cells := 1, slots := 6, locals := 82 }) (xP G y [.ref (a 13), .int x] (bkW y a b n la L) sz) (mQ G (fun _ : Unit => some (.int (b 14 (cn x)))) (fun _ => (x6 x) = 0) (fun _ => bkW y a b n la L) (va_A (bkW y a b n la L) sz)) (xX G (fun E => E = exN ((x6 x)) ∧ ¬ (x6 x) = 0) (bkW y a b n la L) (va_A (bkW y a b n la L) sz)) 1 6 (va_A (bkW y a b n la L) sz) := by
  refine vx_ofW (cc := cX2_tranche) (maxL := 2) (ret := (some .int)) (by decide) rfl ?_
  intro p e s m args below meth c s₁ B hml hout hv
  obtain ⟨rfl, hsz, hP, hK, hD0, hZ⟩ := hv
  have hx := B.exec
  have hb := B.bytes
  have hr := B.returns
  have hts := atoms_spec (ws := wsX2_tranche) B.pre
  have hown : s.vm.findClass RX2 = some m.cls := findClass_of_methodNamed B.named
  have hlocks := B.notSynchronized
  subst hsz
  have hD := hD0.self (sz := s.heap.size)
  generalize hAe : va_A (bkW y a b n la L) s.heap.size = A at hD hZ ⊢
  have hA : ∀ q : Nat, s.heap.size ≤ q → A q := fun q h => by rw [← hAe]; exact Or.inr h
  have hS : va_S A s.heap s.heap [] := va_S.rf
  have hP : va_P G vwCl (bkW y a b n la L) s.heap := hP
  have hl := lv_entry ([.ref (a 13), .int x]) (n := 2) (Nat.le_of_ble_eq_true rfl)
  rw [lg_entry_eq]
  generalize (lg_sl ([.ref (a 13), .int x]) ++ List.replicate (2 - (lg_sl ([.ref (a 13), .int x])).length) Slot.unset).toArray = ls at hl ⊢
  have hin1 : ∀ w ∈ wsX10, w ∈ wsX2_tranche := by decide +kernel
  have hin2 : ∀ w ∈ wsX20, w ∈ wsX2_tranche := by decide +kernel
  have hl : lv_has ls 2 [(0, .ref (a 13)), (1, .int x)] := hl
  refine lv_iload_n hx hb dX2_tranche_0 rfl (lv_at hl 1 rfl) ?_
  refine lv_if_lt (tgt := 10) hx hb dX2_tranche_1 (by decide) (fun c_1 => ?_) (fun c_1 => ?_)
  · have ev : (x6 x) = 1 := by unfold x6; exact (if_pos c_1)
    obtain ⟨sa, hsa⟩ := hK.2.2.2.1 (169, "no such tranche") (by decide +kernel)
    exact vx_throwS (names := ["java/lang/RuntimeException", "java/lang/Exception"]) (cls := "java/lang/IndexOutOfBoundsException") (text := "no such tranche") hx hb hlt hown (by decide +kernel) (by decide +kernel) (hts (.classLink RX2 59 "java/lang/IndexOutOfBoundsException") (by decide +kernel)) (hts (.initialized "java/lang/IndexOutOfBoundsException") (by decide +kernel)) hsa (vx_hat (B := .castable "java/lang/IndexOutOfBoundsException" "java/lang/IndexOutOfBoundsException" :: twD.map Cond.declares) (fun w hw => hts w (List.mem_cons_of_mem _ (List.mem_append_right _ hw))) (by decide +kernel) (hK.2.thrB (by decide +kernel))) (by decide +kernel) hZ.1 hZ.2 hS (by rw [hml]; exact hl.1) dX2_tranche_10 dX2_tranche_13 dX2_tranche_14 dX2_tranche_16 dX2_tranche_19 (fun x hx => (hout x hx).elim) (Nat.le_of_ble_eq_true rfl) (Nat.le_of_ble_eq_true rfl) (Nat.le_of_ble_eq_true rfl) (Nat.le_of_ble_eq_true rfl) hlocks (fun t _ h1 h2 => ⟨(), trivial, ⟨⟨by rw [ev]; rfl, by rw [ev]; decide⟩, hP.kept (fun k q hk => h2 q.1 (hP k q hk).lt), hD⟩, ⟨h1, fun q hq _ => h2 q hq⟩⟩) t_nil (Nat.le_of_ble_eq_true rfl) (Nat.le_of_ble_eq_true rfl)
  · refine lv_iload_n hx hb dX2_tranche_4 rfl (lv_at hl 1 rfl) ?_
    refine lv_bipush (v := 6) hx hb dX2_tranche_5 (by decide) ?_
    refine lv_icmp_lt (tgt := 20) hx hb dX2_tranche_7 (by decide) (fun c_7 => ?_) (fun c_7 => ?_)
    · have ev : x6 x = 0 := by unfold x6; exact (if_neg c_1).trans ((if_neg (Int32.not_le.mpr c_7)))
      obtain ⟨i, hi, rfl⟩ := inR (M := 6) c_1 (Int32.not_le.mpr c_7) (by decide)
      refine lv_aload_n hx hb dX2_tranche_20 rfl (lv_at hl 0 rfl) ?_
      refine bkG (b := b) (val := .ref (a 8)) hx hb hts hin2 hown hK hP 8 (by decide) (hts (.fieldLink RX2 41 "FundBook" "replica" "LFundBook$Replica;") (by decide +kernel)) rfl dX2_tranche_21 ?_
      refine rpGN (val := .ref (a 14)) hx hb hts hin1 hown hK (bk_rp hP) 0 (by decide) (by decide +kernel) rfl dX2_tranche_24 ?_
      refine lv_iload_n hx hb dX2_tranche_27 rfl (lv_at hl 1 rfl) ?_
      refine ldI (f := b 14) hx hb hK hP 5 bg_14 i rfl (by omega) (by decide) dX2_tranche_28 ?_
      refine vx_ret ?_
      refine W.widen (k := 1) (n := 6) (Nat.le_of_ble_eq_true rfl) (Nat.le_of_ble_eq_true rfl) ?_
      exact W.iret (v := b 14 i) hx hb hr (fun t ht hW => ⟨⟨(), congrArg (fun z => Outcome.returned (some (.int z))) (by rw [cnI (by omega)]), ev, by rw [ht]; exact hP, by exact hD⟩, hS.F ht⟩) hS.2.2 dX2_tranche_29
    · have ev : (x6 x) = 1 := by unfold x6; exact (if_neg c_1).trans ((if_pos (Int32.not_lt.mp c_7)))
      obtain ⟨sa, hsa⟩ := hK.2.2.2.1 (169, "no such tranche") (by decide +kernel)
      exact vx_throwS (names := ["java/lang/RuntimeException", "java/lang/Exception"]) (cls := "java/lang/IndexOutOfBoundsException") (text := "no such tranche") hx hb hlt hown (by decide +kernel) (by decide +kernel) (hts (.classLink RX2 59 "java/lang/IndexOutOfBoundsException") (by decide +kernel)) (hts (.initialized "java/lang/IndexOutOfBoundsException") (by decide +kernel)) hsa (vx_hat (B := .castable "java/lang/IndexOutOfBoundsException" "java/lang/IndexOutOfBoundsException" :: twD.map Cond.declares) (fun w hw => hts w (List.mem_cons_of_mem _ (List.mem_append_right _ hw))) (by decide +kernel) (hK.2.thrB (by decide +kernel))) (by decide +kernel) hZ.1 hZ.2 hS (by rw [hml]; exact hl.1) dX2_tranche_10 dX2_tranche_13 dX2_tranche_14 dX2_tranche_16 dX2_tranche_19 (fun x hx => (hout x hx).elim) (Nat.le_of_ble_eq_true rfl) (Nat.le_of_ble_eq_true rfl) (Nat.le_of_ble_eq_true rfl) (Nat.le_of_ble_eq_true rfl) hlocks (fun t _ h1 h2 => ⟨(), trivial, ⟨⟨by rw [ev]; rfl, by rw [ev]; decide⟩, hP.kept (fun k q hk => h2 q.1 (hP k q hk).lt), hD⟩, ⟨h1, fun q hq _ => h2 q hq⟩⟩) t_nil (Nat.le_of_ble_eq_true rfl) (Nat.le_of_ble_eq_true rfl)
set_option maxHeartbeats 4000000 in
set_option maxRecDepth 100000 in
theorem c_X2_margin (l : Launch) (hlt : l.stackTraces = false) (G : va_G) (y : Nat → ClassId) (a : Nat → Nat) (b : MS) (n : Nat) (la : Nat → Nat → Nat) (L : LNS) (sz : Nat) (t : Nat) (ht : b 13 4 = nI t) (ht47 : t ≤ 47) (x mo : Int32) : vx_Met l yX2_margin wsX2_margin ({ frames := 6, cells := 1, slots := 6, locals := 82 }) (xP G y [.ref (a 13), .int x, .int mo] (bkW y a b n la L) sz) (mQ G (fun _ : Unit => some (.int (b (16 + cn x) (cn mo)))) (fun _ => (xMar t x mo) = 0) (fun _ => bkW y a b n la L) (va_A (bkW y a b n la L) sz)) (xX G (fun E => E = exN ((xMar t x mo)) ∧ ¬ (xMar t x mo) = 0) (bkW y a b n la L) (va_A (bkW y a b n la L) sz)) 1 6 (va_A (bkW y a b n la L) sz) := by
  refine vx_ofW (cc := cX2_margin) (maxL := 3) (ret := (some .int)) (by decide) rfl ?_
  intro p e s m args below meth c s₁ B hml hout hv
  obtain ⟨rfl, hsz, hP, hK, hD0, hZ⟩ := hv
  have hx := B.exec
  have hb := B.bytes
  have hr := B.returns
  have hts := atoms_spec (ws := wsX2_margin) B.pre
  have hown : s.vm.findClass RX2 = some m.cls := findClass_of_methodNamed B.named
  have hlocks := B.notSynchronized
  subst hsz
  have hD := hD0.self (sz := s.heap.size)
  generalize hAe : va_A (bkW y a b n la L) s.heap.size = A at hD hZ ⊢
  have hA : ∀ q : Nat, s.heap.size ≤ q → A q := fun q h => by rw [← hAe]; exact Or.inr h
  have hS : va_S A s.heap s.heap [] := va_S.rf
  have hP : va_P G vwCl (bkW y a b n la L) s.heap := hP
  have hl := lv_entry ([.ref (a 13), .int x, .int mo]) (n := 3) (Nat.le_of_ble_eq_true rfl)
  rw [lg_entry_eq]
  generalize (lg_sl ([.ref (a 13), .int x, .int mo]) ++ List.replicate (3 - (lg_sl ([.ref (a 13), .int x, .int mo])).length) Slot.unset).toArray = ls at hl ⊢
  have hin2 : ∀ w ∈ wsX20, w ∈ wsX2_margin := by decide +kernel
  have hl : lv_has ls 3 [(0, .ref (a 13)), (1, .int x), (2, .int mo)] := hl
  refine lv_iload_n hx hb dX2_margin_0 rfl (lv_at hl 1 rfl) ?_
  refine lv_if_lt (tgt := 17) hx hb dX2_margin_1 (by decide) (fun c_1 => ?_) (fun c_1 => ?_)
  · have ev : (xMar t x mo) = 1 := by unfold xMar; exact (if_pos c_1)
    obtain ⟨sa, hsa⟩ := hK.2.2.2.1 (181, "no such branch, or the month has not ended") (by decide +kernel)
    exact vx_throwS (names := ["java/lang/RuntimeException", "java/lang/Exception"]) (cls := "java/lang/IndexOutOfBoundsException") (text := "no such branch, or the month has not ended") hx hb hlt hown (by decide +kernel) (by decide +kernel) (hts (.classLink RX2 59 "java/lang/IndexOutOfBoundsException") (by decide +kernel)) (hts (.initialized "java/lang/IndexOutOfBoundsException") (by decide +kernel)) hsa (vx_hat (B := .castable "java/lang/IndexOutOfBoundsException" "java/lang/IndexOutOfBoundsException" :: twD.map Cond.declares) (fun w hw => hts w (List.mem_cons_of_mem _ (List.mem_append_right _ hw))) (by decide +kernel) (hK.2.thrB (by decide +kernel))) (by decide +kernel) hZ.1 hZ.2 hS (by rw [hml]; exact hl.1) dX2_margin_17 dX2_margin_20 dX2_margin_21 dX2_margin_23 dX2_margin_26 (fun x hx => (hout x hx).elim) (Nat.le_of_ble_eq_true rfl) (Nat.le_of_ble_eq_true rfl) (Nat.le_of_ble_eq_true rfl) (Nat.le_of_ble_eq_true rfl) hlocks (fun t _ h1 h2 => ⟨(), trivial, ⟨⟨by rw [ev]; rfl, by rw [ev]; decide⟩, hP.kept (fun k q hk => h2 q.1 (hP k q hk).lt), hD⟩, ⟨h1, fun q hq _ => h2 q hq⟩⟩) t_nil (Nat.le_of_ble_eq_true rfl) (Nat.le_of_ble_eq_true rfl)
  · refine lv_iload_n hx hb dX2_margin_4 rfl (lv_at hl 1 rfl) ?_
    refine lv_iconst (v := 3) hx hb dX2_margin_5 (by decide) ?_
    refine lv_icmp_ge (tgt := 17) hx hb dX2_margin_6 (by decide) (fun c_6 => ?_) (fun c_6 => ?_)
    · have ev : (xMar t x mo) = 1 := by unfold xMar; exact (if_neg c_1).trans ((if_pos c_6))
      obtain ⟨sa, hsa⟩ := hK.2.2.2.1 (181, "no such branch, or the month has not ended") (by decide +kernel)
      exact vx_throwS (names := ["java/lang/RuntimeException", "java/lang/Exception"]) (cls := "java/lang/IndexOutOfBoundsException") (text := "no such branch, or the month has not ended") hx hb hlt hown (by decide +kernel) (by decide +kernel) (hts (.classLink RX2 59 "java/lang/IndexOutOfBoundsException") (by decide +kernel)) (hts (.initialized "java/lang/IndexOutOfBoundsException") (by decide +kernel)) hsa (vx_hat (B := .castable "java/lang/IndexOutOfBoundsException" "java/lang/IndexOutOfBoundsException" :: twD.map Cond.declares) (fun w hw => hts w (List.mem_cons_of_mem _ (List.mem_append_right _ hw))) (by decide +kernel) (hK.2.thrB (by decide +kernel))) (by decide +kernel) hZ.1 hZ.2 hS (by rw [hml]; exact hl.1) dX2_margin_17 dX2_margin_20 dX2_margin_21 dX2_margin_23 dX2_margin_26 (fun x hx => (hout x hx).elim) (Nat.le_of_ble_eq_true rfl) (Nat.le_of_ble_eq_true rfl) (Nat.le_of_ble_eq_true rfl) (Nat.le_of_ble_eq_true rfl) hlocks (fun t _ h1 h2 => ⟨(), trivial, ⟨⟨by rw [ev]; rfl, by rw [ev]; decide⟩, hP.kept (fun k q hk => h2 q.1 (hP k q hk).lt), hD⟩, ⟨h1, fun q hq _ => h2 q hq⟩⟩) t_nil (Nat.le_of_ble_eq_true rfl) (Nat.le_of_ble_eq_true rfl)
    · refine lv_aload_n hx hb dX2_margin_9 rfl (lv_at hl 0 rfl) ?_
      refine lv_iload_n hx hb dX2_margin_10 rfl (lv_at hl 2 rfl) ?_
      refine caR (r := .int (bEn t mo)) (va_runV (As := [.int mo]) (rest := []) ⟨hx, hb, hml, hown, hts⟩ (c_X2_hasEnded l G y a b n la L t ht ht47 mo) (cwV 1 hts gX2_margin_X2_hasEnded rfl rfl rfl (by decide +kernel) ⟨Nat.le_of_ble_eq_true rfl, Nat.le_of_ble_eq_true rfl⟩) ⟨rP_bl, va_recv hK.1 hP (ci := 2) (q0 := 0) rfl rfl, fun U hU hW => ⟨rfl, by rw [hU]; exact hP, Kb.moved hW hK⟩⟩ rfl rfl hl.1 rfl (lv_room (Nat.le_of_ble_eq_true rfl)) dX2_margin_11 ⟨Nat.le_of_ble_eq_true rfl, Nat.le_of_ble_eq_true rfl⟩) ?_
      refine lv_if_ne (tgt := 27) hx hb dX2_margin_14 (by decide) (fun c_14 => ?_) (fun c_14 => ?_)
      · have ev : xMar t x mo = 0 := by unfold xMar; exact (if_neg c_1).trans ((if_neg c_6).trans ((if_neg c_14)))
        obtain ⟨i, hi, rfl⟩ := inR (M := 3) c_1 c_6 (by decide)
        obtain ⟨j, hj, rfl⟩ := bEn_T c_14 ht47
        refine lv_aload_n hx hb dX2_margin_27 rfl (lv_at hl 0 rfl) ?_
        refine bkG (b := b) (val := .ref (a 9)) hx hb hts hin2 hown hK hP 9 (by decide) (hts (.fieldLink RX2 47 "FundBook" "branchMargins" "[[I") (by decide +kernel)) rfl dX2_margin_28 ?_
        refine lv_iload_n hx hb dX2_margin_31 rfl (lv_at hl 1 rfl) ?_
        refine ldA (f := fun i => if i < 3 then some (a (16 + i)) else none) hx hb hK hP 7 bg_9 i rfl (by omega) (by decide) dX2_margin_32 ?_
        refine lv_optS (x := a (16 + i)) (if_pos (by omega)) ?_
        refine lv_iload_n hx hb dX2_margin_33 rfl (lv_at hl 2 rfl) ?_
        refine ldI (f := (b (16 + i))) hx hb hK hP (8 + i) (bg_M (by omega)) j rfl (by omega) (by decide) dX2_margin_34 ?_
        refine vx_ret ?_
        refine W.widen (k := 1) (n := 6) (Nat.le_of_ble_eq_true rfl) (Nat.le_of_ble_eq_true rfl) ?_
        exact W.iret (v := (b (16 + i)) j) hx hb hr (fun t ht hW => ⟨⟨(), congrArg (fun z => Outcome.returned (some (.int z))) (by rw [cnI (show i < 2 ^ 31 by omega), cnI (show j < 2 ^ 31 by omega)]), ev, by rw [ht]; exact hP, by exact hD⟩, hS.F ht⟩) hS.2.2 dX2_margin_35
      · have ev : (xMar t x mo) = 1 := by unfold xMar; exact (if_neg c_1).trans ((if_neg c_6).trans ((if_pos c_14)))
        obtain ⟨sa, hsa⟩ := hK.2.2.2.1 (181, "no such branch, or the month has not ended") (by decide +kernel)
        exact vx_throwS (names := ["java/lang/RuntimeException", "java/lang/Exception"]) (cls := "java/lang/IndexOutOfBoundsException") (text := "no such branch, or the month has not ended") hx hb hlt hown (by decide +kernel) (by decide +kernel) (hts (.classLink RX2 59 "java/lang/IndexOutOfBoundsException") (by decide +kernel)) (hts (.initialized "java/lang/IndexOutOfBoundsException") (by decide +kernel)) hsa (vx_hat (B := .castable "java/lang/IndexOutOfBoundsException" "java/lang/IndexOutOfBoundsException" :: twD.map Cond.declares) (fun w hw => hts w (List.mem_cons_of_mem _ (List.mem_append_right _ hw))) (by decide +kernel) (hK.2.thrB (by decide +kernel))) (by decide +kernel) hZ.1 hZ.2 hS (by rw [hml]; exact hl.1) dX2_margin_17 dX2_margin_20 dX2_margin_21 dX2_margin_23 dX2_margin_26 (fun x hx => (hout x hx).elim) (Nat.le_of_ble_eq_true rfl) (Nat.le_of_ble_eq_true rfl) (Nat.le_of_ble_eq_true rfl) (Nat.le_of_ble_eq_true rfl) hlocks (fun t _ h1 h2 => ⟨(), trivial, ⟨⟨by rw [ev]; rfl, by rw [ev]; decide⟩, hP.kept (fun k q hk => h2 q.1 (hP k q hk).lt), hD⟩, ⟨h1, fun q hq _ => h2 q hq⟩⟩) t_nil (Nat.le_of_ble_eq_true rfl) (Nat.le_of_ble_eq_true rfl)
set_option maxHeartbeats 4000000 in
set_option maxRecDepth 100000 in
theorem c_X2_byProduct (l : Launch) (hlt : l.stackTraces = false) (G : va_G) (y : Nat → ClassId) (a : Nat → Nat) (b : MS) (n : Nat) (la : Nat → Nat → Nat) (L : LNS) (sz : Nat) (t : Nat) (ht : b 13 4 = nI t) (ht47 : t ≤ 47) (x mo : Int32) : vx_Met l yX2_byProduct wsX2_byProduct ({ frames := 6, cells := 1, slots := 6, locals := 82 }) (xP G y [.ref (a 13), .int x, .int mo] (bkW y a b n la L) sz) (mQ G (fun _ : Unit => some (.int (b (19 + cn x) (cn mo)))) (fun _ => (xMar t x mo) = 0) (fun _ => bkW y a b n la L) (va_A (bkW y a b n la L) sz)) (xX G (fun E => E = exN ((xMar t x mo)) ∧ ¬ (xMar t x mo) = 0) (bkW y a b n la L) (va_A (bkW y a b n la L) sz)) 1 6 (va_A (bkW y a b n la L) sz) := by
  refine vx_ofW (cc := cX2_byProduct) (maxL := 3) (ret := (some .int)) (by decide) rfl ?_
  intro p e s m args below meth c s₁ B hml hout hv
  obtain ⟨rfl, hsz, hP, hK, hD0, hZ⟩ := hv
  have hx := B.exec
  have hb := B.bytes
  have hr := B.returns
  have hts := atoms_spec (ws := wsX2_byProduct) B.pre
  have hown : s.vm.findClass RX2 = some m.cls := findClass_of_methodNamed B.named
  have hlocks := B.notSynchronized
  subst hsz
  have hD := hD0.self (sz := s.heap.size)
  generalize hAe : va_A (bkW y a b n la L) s.heap.size = A at hD hZ ⊢
  have hA : ∀ q : Nat, s.heap.size ≤ q → A q := fun q h => by rw [← hAe]; exact Or.inr h
  have hS : va_S A s.heap s.heap [] := va_S.rf
  have hP : va_P G vwCl (bkW y a b n la L) s.heap := hP
  have hl := lv_entry ([.ref (a 13), .int x, .int mo]) (n := 3) (Nat.le_of_ble_eq_true rfl)
  rw [lg_entry_eq]
  generalize (lg_sl ([.ref (a 13), .int x, .int mo]) ++ List.replicate (3 - (lg_sl ([.ref (a 13), .int x, .int mo])).length) Slot.unset).toArray = ls at hl ⊢
  have hin2 : ∀ w ∈ wsX20, w ∈ wsX2_byProduct := by decide +kernel
  have hl : lv_has ls 3 [(0, .ref (a 13)), (1, .int x), (2, .int mo)] := hl
  refine lv_iload_n hx hb dX2_byProduct_0 rfl (lv_at hl 1 rfl) ?_
  refine lv_if_lt (tgt := 17) hx hb dX2_byProduct_1 (by decide) (fun c_1 => ?_) (fun c_1 => ?_)
  · have ev : (xMar t x mo) = 1 := by unfold xMar; exact (if_pos c_1)
    obtain ⟨sa, hsa⟩ := hK.2.2.2.1 (183, "no such product, or the month has not ended") (by decide +kernel)
    exact vx_throwS (names := ["java/lang/RuntimeException", "java/lang/Exception"]) (cls := "java/lang/IndexOutOfBoundsException") (text := "no such product, or the month has not ended") hx hb hlt hown (by decide +kernel) (by decide +kernel) (hts (.classLink RX2 59 "java/lang/IndexOutOfBoundsException") (by decide +kernel)) (hts (.initialized "java/lang/IndexOutOfBoundsException") (by decide +kernel)) hsa (vx_hat (B := .castable "java/lang/IndexOutOfBoundsException" "java/lang/IndexOutOfBoundsException" :: twD.map Cond.declares) (fun w hw => hts w (List.mem_cons_of_mem _ (List.mem_append_right _ hw))) (by decide +kernel) (hK.2.thrB (by decide +kernel))) (by decide +kernel) hZ.1 hZ.2 hS (by rw [hml]; exact hl.1) dX2_byProduct_17 dX2_byProduct_20 dX2_byProduct_21 dX2_byProduct_23 dX2_byProduct_26 (fun x hx => (hout x hx).elim) (Nat.le_of_ble_eq_true rfl) (Nat.le_of_ble_eq_true rfl) (Nat.le_of_ble_eq_true rfl) (Nat.le_of_ble_eq_true rfl) hlocks (fun t _ h1 h2 => ⟨(), trivial, ⟨⟨by rw [ev]; rfl, by rw [ev]; decide⟩, hP.kept (fun k q hk => h2 q.1 (hP k q hk).lt), hD⟩, ⟨h1, fun q hq _ => h2 q hq⟩⟩) t_nil (Nat.le_of_ble_eq_true rfl) (Nat.le_of_ble_eq_true rfl)
  · refine lv_iload_n hx hb dX2_byProduct_4 rfl (lv_at hl 1 rfl) ?_
    refine lv_iconst (v := 3) hx hb dX2_byProduct_5 (by decide) ?_
    refine lv_icmp_ge (tgt := 17) hx hb dX2_byProduct_6 (by decide) (fun c_6 => ?_) (fun c_6 => ?_)
    · have ev : (xMar t x mo) = 1 := by unfold xMar; exact (if_neg c_1).trans ((if_pos c_6))
      obtain ⟨sa, hsa⟩ := hK.2.2.2.1 (183, "no such product, or the month has not ended") (by decide +kernel)
      exact vx_throwS (names := ["java/lang/RuntimeException", "java/lang/Exception"]) (cls := "java/lang/IndexOutOfBoundsException") (text := "no such product, or the month has not ended") hx hb hlt hown (by decide +kernel) (by decide +kernel) (hts (.classLink RX2 59 "java/lang/IndexOutOfBoundsException") (by decide +kernel)) (hts (.initialized "java/lang/IndexOutOfBoundsException") (by decide +kernel)) hsa (vx_hat (B := .castable "java/lang/IndexOutOfBoundsException" "java/lang/IndexOutOfBoundsException" :: twD.map Cond.declares) (fun w hw => hts w (List.mem_cons_of_mem _ (List.mem_append_right _ hw))) (by decide +kernel) (hK.2.thrB (by decide +kernel))) (by decide +kernel) hZ.1 hZ.2 hS (by rw [hml]; exact hl.1) dX2_byProduct_17 dX2_byProduct_20 dX2_byProduct_21 dX2_byProduct_23 dX2_byProduct_26 (fun x hx => (hout x hx).elim) (Nat.le_of_ble_eq_true rfl) (Nat.le_of_ble_eq_true rfl) (Nat.le_of_ble_eq_true rfl) (Nat.le_of_ble_eq_true rfl) hlocks (fun t _ h1 h2 => ⟨(), trivial, ⟨⟨by rw [ev]; rfl, by rw [ev]; decide⟩, hP.kept (fun k q hk => h2 q.1 (hP k q hk).lt), hD⟩, ⟨h1, fun q hq _ => h2 q hq⟩⟩) t_nil (Nat.le_of_ble_eq_true rfl) (Nat.le_of_ble_eq_true rfl)
    · refine lv_aload_n hx hb dX2_byProduct_9 rfl (lv_at hl 0 rfl) ?_
      refine lv_iload_n hx hb dX2_byProduct_10 rfl (lv_at hl 2 rfl) ?_
      refine caR (r := .int (bEn t mo)) (va_runV (As := [.int mo]) (rest := []) ⟨hx, hb, hml, hown, hts⟩ (c_X2_hasEnded l G y a b n la L t ht ht47 mo) (cwV 1 hts gX2_byProduct_X2_hasEnded rfl rfl rfl (by decide +kernel) ⟨Nat.le_of_ble_eq_true rfl, Nat.le_of_ble_eq_true rfl⟩) ⟨rP_bl, va_recv hK.1 hP (ci := 2) (q0 := 0) rfl rfl, fun U hU hW => ⟨rfl, by rw [hU]; exact hP, Kb.moved hW hK⟩⟩ rfl rfl hl.1 rfl (lv_room (Nat.le_of_ble_eq_true rfl)) dX2_byProduct_11 ⟨Nat.le_of_ble_eq_true rfl, Nat.le_of_ble_eq_true rfl⟩) ?_
      refine lv_if_ne (tgt := 27) hx hb dX2_byProduct_14 (by decide) (fun c_14 => ?_) (fun c_14 => ?_)
      · have ev : xMar t x mo = 0 := by unfold xMar; exact (if_neg c_1).trans ((if_neg c_6).trans ((if_neg c_14)))
        obtain ⟨i, hi, rfl⟩ := inR (M := 3) c_1 c_6 (by decide)
        obtain ⟨j, hj, rfl⟩ := bEn_T c_14 ht47
        refine lv_aload_n hx hb dX2_byProduct_27 rfl (lv_at hl 0 rfl) ?_
        refine bkG (b := b) (val := .ref (a 10)) hx hb hts hin2 hown hK hP 10 (by decide) (hts (.fieldLink RX2 50 "FundBook" "productMargins" "[[I") (by decide +kernel)) rfl dX2_byProduct_28 ?_
        refine lv_iload_n hx hb dX2_byProduct_31 rfl (lv_at hl 1 rfl) ?_
        refine ldA (f := fun i => if i < 3 then some (a (19 + i)) else none) hx hb hK hP 11 bg_10 i rfl (by omega) (by decide) dX2_byProduct_32 ?_
        refine lv_optS (x := a (19 + i)) (if_pos (by omega)) ?_
        refine lv_iload_n hx hb dX2_byProduct_33 rfl (lv_at hl 2 rfl) ?_
        refine ldI (f := (b (19 + i))) hx hb hK hP (12 + i) (bg_P (by omega)) j rfl (by omega) (by decide) dX2_byProduct_34 ?_
        refine vx_ret ?_
        refine W.widen (k := 1) (n := 6) (Nat.le_of_ble_eq_true rfl) (Nat.le_of_ble_eq_true rfl) ?_
        exact W.iret (v := (b (19 + i)) j) hx hb hr (fun t ht hW => ⟨⟨(), congrArg (fun z => Outcome.returned (some (.int z))) (by rw [cnI (show i < 2 ^ 31 by omega), cnI (show j < 2 ^ 31 by omega)]), ev, by rw [ht]; exact hP, by exact hD⟩, hS.F ht⟩) hS.2.2 dX2_byProduct_35
      · have ev : (xMar t x mo) = 1 := by unfold xMar; exact (if_neg c_1).trans ((if_neg c_6).trans ((if_pos c_14)))
        obtain ⟨sa, hsa⟩ := hK.2.2.2.1 (183, "no such product, or the month has not ended") (by decide +kernel)
        exact vx_throwS (names := ["java/lang/RuntimeException", "java/lang/Exception"]) (cls := "java/lang/IndexOutOfBoundsException") (text := "no such product, or the month has not ended") hx hb hlt hown (by decide +kernel) (by decide +kernel) (hts (.classLink RX2 59 "java/lang/IndexOutOfBoundsException") (by decide +kernel)) (hts (.initialized "java/lang/IndexOutOfBoundsException") (by decide +kernel)) hsa (vx_hat (B := .castable "java/lang/IndexOutOfBoundsException" "java/lang/IndexOutOfBoundsException" :: twD.map Cond.declares) (fun w hw => hts w (List.mem_cons_of_mem _ (List.mem_append_right _ hw))) (by decide +kernel) (hK.2.thrB (by decide +kernel))) (by decide +kernel) hZ.1 hZ.2 hS (by rw [hml]; exact hl.1) dX2_byProduct_17 dX2_byProduct_20 dX2_byProduct_21 dX2_byProduct_23 dX2_byProduct_26 (fun x hx => (hout x hx).elim) (Nat.le_of_ble_eq_true rfl) (Nat.le_of_ble_eq_true rfl) (Nat.le_of_ble_eq_true rfl) (Nat.le_of_ble_eq_true rfl) hlocks (fun t _ h1 h2 => ⟨(), trivial, ⟨⟨by rw [ev]; rfl, by rw [ev]; decide⟩, hP.kept (fun k q hk => h2 q.1 (hP k q hk).lt), hD⟩, ⟨h1, fun q hq _ => h2 q hq⟩⟩) t_nil (Nat.le_of_ble_eq_true rfl) (Nat.le_of_ble_eq_true rfl)
set_option maxHeartbeats 4000000 in
set_option maxRecDepth 100000 in
theorem c_X2_treasury (l : Launch) (hlt : l.stackTraces = false) (G : va_G) (y : Nat → ClassId) (a : Nat → Nat) (b : MS) (n : Nat) (la : Nat → Nat → Nat) (L : LNS) (sz : Nat) (t : Nat) (ht : b 13 4 = nI t) (ht47 : t ≤ 47) (mo : Int32) : vx_Met l yX2_treasury wsX2_treasury ({ frames := 6, cells := 1, slots := 6, locals := 82 }) (xP G y [.ref (a 13), .int mo] (bkW y a b n la L) sz) (mQ G (fun _ : Unit => some (.int (b 11 (cn mo)))) (fun _ => (xMo t mo) = 0) (fun _ => bkW y a b n la L) (va_A (bkW y a b n la L) sz)) (xX G (fun E => E = exN ((xMo t mo)) ∧ ¬ (xMo t mo) = 0) (bkW y a b n la L) (va_A (bkW y a b n la L) sz)) 1 6 (va_A (bkW y a b n la L) sz) := by
  refine vx_ofW (cc := cX2_treasury) (maxL := 2) (ret := (some .int)) (by decide) rfl ?_
  intro p e s m args below meth c s₁ B hml hout hv
  obtain ⟨rfl, hsz, hP, hK, hD0, hZ⟩ := hv
  have hx := B.exec
  have hb := B.bytes
  have hr := B.returns
  have hts := atoms_spec (ws := wsX2_treasury) B.pre
  have hown : s.vm.findClass RX2 = some m.cls := findClass_of_methodNamed B.named
  have hlocks := B.notSynchronized
  subst hsz
  have hD := hD0.self (sz := s.heap.size)
  generalize hAe : va_A (bkW y a b n la L) s.heap.size = A at hD hZ ⊢
  have hA : ∀ q : Nat, s.heap.size ≤ q → A q := fun q h => by rw [← hAe]; exact Or.inr h
  have hS : va_S A s.heap s.heap [] := va_S.rf
  have hP : va_P G vwCl (bkW y a b n la L) s.heap := hP
  have hl := lv_entry ([.ref (a 13), .int mo]) (n := 2) (Nat.le_of_ble_eq_true rfl)
  rw [lg_entry_eq]
  generalize (lg_sl ([.ref (a 13), .int mo]) ++ List.replicate (2 - (lg_sl ([.ref (a 13), .int mo])).length) Slot.unset).toArray = ls at hl ⊢
  have hin2 : ∀ w ∈ wsX20, w ∈ wsX2_treasury := by decide +kernel
  have hl : lv_has ls 2 [(0, .ref (a 13)), (1, .int mo)] := hl
  refine lv_aload_n hx hb dX2_treasury_0 rfl (lv_at hl 0 rfl) ?_
  refine lv_iload_n hx hb dX2_treasury_1 rfl (lv_at hl 1 rfl) ?_
  refine caR (r := .int (bEn t mo)) (va_runV (As := [.int mo]) (rest := []) ⟨hx, hb, hml, hown, hts⟩ (c_X2_hasEnded l G y a b n la L t ht ht47 mo) (cwV 1 hts gX2_treasury_X2_hasEnded rfl rfl rfl (by decide +kernel) ⟨Nat.le_of_ble_eq_true rfl, Nat.le_of_ble_eq_true rfl⟩) ⟨rP_bl, va_recv hK.1 hP (ci := 2) (q0 := 0) rfl rfl, fun U hU hW => ⟨rfl, by rw [hU]; exact hP, Kb.moved hW hK⟩⟩ rfl rfl hl.1 rfl (lv_room (Nat.le_of_ble_eq_true rfl)) dX2_treasury_2 ⟨Nat.le_of_ble_eq_true rfl, Nat.le_of_ble_eq_true rfl⟩) ?_
  refine lv_if_ne (tgt := 18) hx hb dX2_treasury_5 (by decide) (fun c_5 => ?_) (fun c_5 => ?_)
  · have ev : xMo t mo = 0 := by unfold xMo; exact if_neg c_5
    obtain ⟨j, hj, rfl⟩ := bEn_T c_5 ht47
    refine lv_aload_n hx hb dX2_treasury_18 rfl (lv_at hl 0 rfl) ?_
    refine bkG (b := b) (val := .ref (a 11)) hx hb hts hin2 hown hK hP 11 (by decide) (hts (.fieldLink RX2 53 "FundBook" "treasuryMargins" "[I") (by decide +kernel)) rfl dX2_treasury_19 ?_
    refine lv_iload_n hx hb dX2_treasury_22 rfl (lv_at hl 1 rfl) ?_
    refine ldI (f := b 11) hx hb hK hP 15 bg_11 j rfl (by omega) (by decide) dX2_treasury_23 ?_
    refine vx_ret ?_
    refine W.widen (k := 1) (n := 6) (Nat.le_of_ble_eq_true rfl) (Nat.le_of_ble_eq_true rfl) ?_
    exact W.iret (v := b 11 j) hx hb hr (fun t ht hW => ⟨⟨(), congrArg (fun z => Outcome.returned (some (.int z))) (by rw [cnI (by omega)]), ev, by rw [ht]; exact hP, by exact hD⟩, hS.F ht⟩) hS.2.2 dX2_treasury_24
  · have ev : (xMo t mo) = 1 := by unfold xMo; exact if_pos c_5
    obtain ⟨sa, hsa⟩ := hK.2.2.2.1 (185, "the month has not ended") (by decide +kernel)
    exact vx_throwS (names := ["java/lang/RuntimeException", "java/lang/Exception"]) (cls := "java/lang/IndexOutOfBoundsException") (text := "the month has not ended") hx hb hlt hown (by decide +kernel) (by decide +kernel) (hts (.classLink RX2 59 "java/lang/IndexOutOfBoundsException") (by decide +kernel)) (hts (.initialized "java/lang/IndexOutOfBoundsException") (by decide +kernel)) hsa (vx_hat (B := .castable "java/lang/IndexOutOfBoundsException" "java/lang/IndexOutOfBoundsException" :: twD.map Cond.declares) (fun w hw => hts w (List.mem_cons_of_mem _ (List.mem_append_right _ hw))) (by decide +kernel) (hK.2.thrB (by decide +kernel))) (by decide +kernel) hZ.1 hZ.2 hS (by rw [hml]; exact hl.1) dX2_treasury_8 dX2_treasury_11 dX2_treasury_12 dX2_treasury_14 dX2_treasury_17 (fun x hx => (hout x hx).elim) (Nat.le_of_ble_eq_true rfl) (Nat.le_of_ble_eq_true rfl) (Nat.le_of_ble_eq_true rfl) (Nat.le_of_ble_eq_true rfl) hlocks (fun t _ h1 h2 => ⟨(), trivial, ⟨⟨by rw [ev]; rfl, by rw [ev]; decide⟩, hP.kept (fun k q hk => h2 q.1 (hP k q hk).lt), hD⟩, ⟨h1, fun q hq _ => h2 q hq⟩⟩) t_nil (Nat.le_of_ble_eq_true rfl) (Nat.le_of_ble_eq_true rfl)
set_option maxHeartbeats 4000000 in
set_option maxRecDepth 100000 in
theorem c_X2_interest (l : Launch) (hlt : l.stackTraces = false) (G : va_G) (y : Nat → ClassId) (a : Nat → Nat) (b : MS) (n : Nat) (la : Nat → Nat → Nat) (L : LNS) (sz : Nat) (t : Nat) (ht : b 13 4 = nI t) (ht47 : t ≤ 47) (mo : Int32) : vx_Met l yX2_interest wsX2_interest ({ frames := 6, cells := 1, slots := 6, locals := 82 }) (xP G y [.ref (a 13), .int mo] (bkW y a b n la L) sz) (mQ G (fun _ : Unit => some (.int (b 12 (cn mo)))) (fun _ => (xMo t mo) = 0) (fun _ => bkW y a b n la L) (va_A (bkW y a b n la L) sz)) (xX G (fun E => E = exN ((xMo t mo)) ∧ ¬ (xMo t mo) = 0) (bkW y a b n la L) (va_A (bkW y a b n la L) sz)) 1 6 (va_A (bkW y a b n la L) sz) := by
  refine vx_ofW (cc := cX2_interest) (maxL := 2) (ret := (some .int)) (by decide) rfl ?_
  intro p e s m args below meth c s₁ B hml hout hv
  obtain ⟨rfl, hsz, hP, hK, hD0, hZ⟩ := hv
  have hx := B.exec
  have hb := B.bytes
  have hr := B.returns
  have hts := atoms_spec (ws := wsX2_interest) B.pre
  have hown : s.vm.findClass RX2 = some m.cls := findClass_of_methodNamed B.named
  have hlocks := B.notSynchronized
  subst hsz
  have hD := hD0.self (sz := s.heap.size)
  generalize hAe : va_A (bkW y a b n la L) s.heap.size = A at hD hZ ⊢
  have hA : ∀ q : Nat, s.heap.size ≤ q → A q := fun q h => by rw [← hAe]; exact Or.inr h
  have hS : va_S A s.heap s.heap [] := va_S.rf
  have hP : va_P G vwCl (bkW y a b n la L) s.heap := hP
  have hl := lv_entry ([.ref (a 13), .int mo]) (n := 2) (Nat.le_of_ble_eq_true rfl)
  rw [lg_entry_eq]
  generalize (lg_sl ([.ref (a 13), .int mo]) ++ List.replicate (2 - (lg_sl ([.ref (a 13), .int mo])).length) Slot.unset).toArray = ls at hl ⊢
  have hin2 : ∀ w ∈ wsX20, w ∈ wsX2_interest := by decide +kernel
  have hl : lv_has ls 2 [(0, .ref (a 13)), (1, .int mo)] := hl
  refine lv_aload_n hx hb dX2_interest_0 rfl (lv_at hl 0 rfl) ?_
  refine lv_iload_n hx hb dX2_interest_1 rfl (lv_at hl 1 rfl) ?_
  refine caR (r := .int (bEn t mo)) (va_runV (As := [.int mo]) (rest := []) ⟨hx, hb, hml, hown, hts⟩ (c_X2_hasEnded l G y a b n la L t ht ht47 mo) (cwV 1 hts gX2_interest_X2_hasEnded rfl rfl rfl (by decide +kernel) ⟨Nat.le_of_ble_eq_true rfl, Nat.le_of_ble_eq_true rfl⟩) ⟨rP_bl, va_recv hK.1 hP (ci := 2) (q0 := 0) rfl rfl, fun U hU hW => ⟨rfl, by rw [hU]; exact hP, Kb.moved hW hK⟩⟩ rfl rfl hl.1 rfl (lv_room (Nat.le_of_ble_eq_true rfl)) dX2_interest_2 ⟨Nat.le_of_ble_eq_true rfl, Nat.le_of_ble_eq_true rfl⟩) ?_
  refine lv_if_ne (tgt := 18) hx hb dX2_interest_5 (by decide) (fun c_5 => ?_) (fun c_5 => ?_)
  · have ev : xMo t mo = 0 := by unfold xMo; exact if_neg c_5
    obtain ⟨j, hj, rfl⟩ := bEn_T c_5 ht47
    refine lv_aload_n hx hb dX2_interest_18 rfl (lv_at hl 0 rfl) ?_
    refine bkG (b := b) (val := .ref (a 12)) hx hb hts hin2 hown hK hP 12 (by decide) (hts (.fieldLink RX2 56 "FundBook" "bankInterests" "[I") (by decide +kernel)) rfl dX2_interest_19 ?_
    refine lv_iload_n hx hb dX2_interest_22 rfl (lv_at hl 1 rfl) ?_
    refine ldI (f := b 12) hx hb hK hP 16 bg_12 j rfl (by omega) (by decide) dX2_interest_23 ?_
    refine vx_ret ?_
    refine W.widen (k := 1) (n := 6) (Nat.le_of_ble_eq_true rfl) (Nat.le_of_ble_eq_true rfl) ?_
    exact W.iret (v := b 12 j) hx hb hr (fun t ht hW => ⟨⟨(), congrArg (fun z => Outcome.returned (some (.int z))) (by rw [cnI (by omega)]), ev, by rw [ht]; exact hP, by exact hD⟩, hS.F ht⟩) hS.2.2 dX2_interest_24
  · have ev : (xMo t mo) = 1 := by unfold xMo; exact if_pos c_5
    obtain ⟨sa, hsa⟩ := hK.2.2.2.1 (185, "the month has not ended") (by decide +kernel)
    exact vx_throwS (names := ["java/lang/RuntimeException", "java/lang/Exception"]) (cls := "java/lang/IndexOutOfBoundsException") (text := "the month has not ended") hx hb hlt hown (by decide +kernel) (by decide +kernel) (hts (.classLink RX2 59 "java/lang/IndexOutOfBoundsException") (by decide +kernel)) (hts (.initialized "java/lang/IndexOutOfBoundsException") (by decide +kernel)) hsa (vx_hat (B := .castable "java/lang/IndexOutOfBoundsException" "java/lang/IndexOutOfBoundsException" :: twD.map Cond.declares) (fun w hw => hts w (List.mem_cons_of_mem _ (List.mem_append_right _ hw))) (by decide +kernel) (hK.2.thrB (by decide +kernel))) (by decide +kernel) hZ.1 hZ.2 hS (by rw [hml]; exact hl.1) dX2_interest_8 dX2_interest_11 dX2_interest_12 dX2_interest_14 dX2_interest_17 (fun x hx => (hout x hx).elim) (Nat.le_of_ble_eq_true rfl) (Nat.le_of_ble_eq_true rfl) (Nat.le_of_ble_eq_true rfl) (Nat.le_of_ble_eq_true rfl) hlocks (fun t _ h1 h2 => ⟨(), trivial, ⟨⟨by rw [ev]; rfl, by rw [ev]; decide⟩, hP.kept (fun k q hk => h2 q.1 (hP k q hk).lt), hD⟩, ⟨h1, fun q hq _ => h2 q hq⟩⟩) t_nil (Nat.le_of_ble_eq_true rfl) (Nat.le_of_ble_eq_true rfl)
set_option maxHeartbeats 4000000 in
set_option maxRecDepth 100000 in
theorem c_X2_closeMonth (l : Launch) (hlt : l.stackTraces = false) (G : va_G) (y : Nat → ClassId) (a : Nat → Nat) (b : MS) (n : Nat) (la : Nat → Nat → Nat) (L : LNS) (sz : Nat) (pd : Nat → Nat) (hpd : ∀ k, k < n → L k 0 7 = nI (pd k) ∧ pd k ≤ 6) (t : Nat) (ht : b 13 4 = nI t) (ht47 : t ≤ 47) : vx_Met l yX2_closeMonth wsX2_closeMonth ({ frames := 6, cells := 1, slots := 6, locals := 116 }) (xP G y [.ref (a 13)] (bkW y a b n la L) sz) (mQ G (fun _ : Unit => some (.int (nI (t + 1)))) (fun _ => (xClose t) = 0) (fun _ => bkW y a (bClose b t n L pd) n la (bPA L n pd 24)) (va_A (bkW y a b n la L) sz)) (xX G (fun E => E = exN ((xClose t)) ∧ ¬ (xClose t) = 0) (bkW y a b n la L) (va_A (bkW y a b n la L) sz)) 1 6 (va_A (bkW y a b n la L) sz) := by
  refine vx_ofW (cc := cX2_closeMonth) (maxL := 1) (ret := (some .int)) (by decide) rfl ?_
  intro p e s m args below meth c s₁ B hml hout hv
  obtain ⟨rfl, hsz, hP, hK, hD0, hZ⟩ := hv
  have hx := B.exec
  have hb := B.bytes
  have hr := B.returns
  have hts := atoms_spec (ws := wsX2_closeMonth) B.pre
  have hown : s.vm.findClass RX2 = some m.cls := findClass_of_methodNamed B.named
  have hlocks := B.notSynchronized
  subst hsz
  have hD := hD0.self (sz := s.heap.size)
  generalize hAe : va_A (bkW y a b n la L) s.heap.size = A at hD hZ ⊢
  have hA : ∀ q : Nat, s.heap.size ≤ q → A q := fun q h => by rw [← hAe]; exact Or.inr h
  have hS : va_S A s.heap s.heap [] := va_S.rf
  have hP : va_P G vwCl (bkW y a b n la L) s.heap := hP
  have hl := lv_entry ([.ref (a 13)]) (n := 1) (Nat.le_of_ble_eq_true rfl)
  rw [lg_entry_eq]
  generalize (lg_sl ([.ref (a 13)]) ++ List.replicate (1 - (lg_sl ([.ref (a 13)])).length) Slot.unset).toArray = ls at hl ⊢
  have hin2 : ∀ w ∈ wsX20, w ∈ wsX2_closeMonth := by decide +kernel
  have hl : lv_has ls 1 [(0, .ref (a 13))] := hl
  refine lv_aload_n hx hb dX2_closeMonth_0 rfl (lv_at hl 0 rfl) ?_
  refine bkG (b := b) (val := .int (b 13 4)) hx hb hts hin2 hown hK hP 4 (by decide) (hts (.fieldLink RX2 23 "FundBook" "now" "I") (by decide +kernel)) rfl dX2_closeMonth_1 ?_
  refine lv_topE (z := nI t) (ht) ?_
  refine lv_bipush (v := 47) hx hb dX2_closeMonth_4 (by decide) ?_
  refine lv_icmp_lt (tgt := 19) hx hb dX2_closeMonth_6 (by decide) (fun c_6 => ?_) (fun c_6 => ?_)
  · have ht46 : t < 47 := (nI_ltI (by omega) (by decide)).mp c_6
    have ev : xClose t = 0 := if_neg (by omega)
    refine lv_aload_n hx hb dX2_closeMonth_19 rfl (lv_at hl 0 rfl) ?_
    refine caM (va_runV (As := []) (rest := []) ⟨hx, hb, hml, hown, hts⟩ (c_X2_reckonLoans l G y a b n la L s.heap.size pd hpd t ht ht46) (cwV 0 hts gX2_closeMonth_X2_reckonLoans rfl rfl rfl (by decide +kernel) ⟨Nat.le_of_ble_eq_true rfl, Nat.le_of_ble_eq_true rfl⟩) ⟨mP_bl, va_recv hK.1 hP (ci := 2) (q0 := 0) rfl rfl, fun U hU hW => ⟨rfl, by rw [hU], by rw [hU]; exact hP, Kb.moved hW hK, hD.weaken (fun _ _ _ _ => trivial)⟩⟩ rfl rfl hl.1 rfl (lv_room (Nat.le_of_ble_eq_true rfl)) dX2_closeMonth_20 ⟨Nat.le_of_ble_eq_true rfl, Nat.le_of_ble_eq_true rfl⟩) hS (freeW hD hS hA) (freeW hD hS hA) (fun _ H locs _ hP hD _ _ hS => ?_)
    refine W.eq (g2 := F0 m 23 ls []) rfl ?_
    have hP : va_P G vwCl (bkW y a (bR3 b t n L pd) n la L) H := hP
    have hD : va_D A (bkW y a (bR3 b t n L pd) n la L) := hD
    have ht2 : bR3 b t n L pd 13 4 = nI t := by rw [bR3, u2_j (by omega), u2_j (by omega), bR2_o _ (by omega) (by omega), bR1_o _ (by omega) (by omega)]; exact ht
    refine lv_aload_n hx hb dX2_closeMonth_23 rfl (lv_at hl 0 rfl) ?_
    refine caM (va_runV (As := []) (rest := []) ⟨hx, hb, hml, hown, hts⟩ (c_X2_reckonDeposits l G y a (bR3 b t n L pd) n la L H.size t ht2 ht46) (cwV 0 hts gX2_closeMonth_X2_reckonDeposits rfl rfl rfl (by decide +kernel) ⟨Nat.le_of_ble_eq_true rfl, Nat.le_of_ble_eq_true rfl⟩) ⟨mP_bl, va_recv hK.1 hP (ci := 2) (q0 := 0) rfl rfl, fun U hU hW => ⟨rfl, by rw [hU], by rw [hU]; exact hP, Kb.moved hW hK, hD.weaken (fun _ _ _ _ => trivial)⟩⟩ rfl rfl hl.1 rfl (lv_room (Nat.le_of_ble_eq_true rfl)) dX2_closeMonth_24 ⟨Nat.le_of_ble_eq_true rfl, Nat.le_of_ble_eq_true rfl⟩) hS (freeW hD hS hA) (freeW hD hS hA) (fun _ H locs _ hP hD _ _ hS => ?_)
    refine W.eq (g2 := F0 m 27 ls []) rfl ?_
    have hP : va_P G vwCl (bkW y a (bD1 (bR3 b t n L pd) t 3) n la L) H := hP
    have hD : va_D A (bkW y a (bD1 (bR3 b t n L pd) t 3) n la L) := hD
    refine lv_aload_n hx hb dX2_closeMonth_27 rfl (lv_at hl 0 rfl) ?_
    refine caM (va_runV (As := []) (rest := []) ⟨hx, hb, hml, hown, hts⟩ (c_X2_payParts l G y a (bD1 (bR3 b t n L pd) t 3) n la L H.size pd hpd) (cwV 0 hts gX2_closeMonth_X2_payParts rfl rfl rfl (by decide +kernel) ⟨Nat.le_of_ble_eq_true rfl, Nat.le_of_ble_eq_true rfl⟩) ⟨mP_bl, va_recv hK.1 hP (ci := 2) (q0 := 0) rfl rfl, fun U hU hW => ⟨rfl, by rw [hU], by rw [hU]; exact hP, Kb.moved hW hK, hD.weaken (fun _ _ _ _ => trivial)⟩⟩ rfl rfl hl.1 rfl (lv_room (Nat.le_of_ble_eq_true rfl)) dX2_closeMonth_28 ⟨Nat.le_of_ble_eq_true rfl, Nat.le_of_ble_eq_true rfl⟩) hS (freeW hD hS hA) (freeW hD hS hA) (fun _ H locs _ hP hD _ _ hS => ?_)
    refine W.eq (g2 := F0 m 31 ls []) rfl ?_
    have hP : va_P G vwCl (bkW y a (bD1 (bR3 b t n L pd) t 3) n la (bPA L n pd 24)) H := hP
    have hD : va_D A (bkW y a (bD1 (bR3 b t n L pd) t 3) n la (bPA L n pd 24)) := hD
    refine lv_aload_n hx hb dX2_closeMonth_31 rfl (lv_at hl 0 rfl) ?_
    refine lv_aload_n hx hb dX2_closeMonth_32 rfl (lv_at hl 0 rfl) ?_
    refine bkG (b := (bD1 (bR3 b t n L pd) t 3)) (val := .int ((bD1 (bR3 b t n L pd) t 3) 13 4)) hx hb hts hin2 hown hK hP 4 (by decide) (hts (.fieldLink RX2 23 "FundBook" "now" "I") (by decide +kernel)) rfl dX2_closeMonth_33 ?_
    refine lv_topE (z := nI t) (by rw [bD1_o _ (by omega) (by omega) (by omega)]; exact ht2) ?_
    refine lv_iconst (v := 1) hx hb dX2_closeMonth_36 (by decide) ?_
    refine lv_iadd hx hb dX2_closeMonth_37 ?_
    refine lv_topE (z := nI (t + 1)) (nI_1 t) ?_
    refine bkS (b := (bD1 (bR3 b t n L pd) t 3)) (x := nI (t + 1)) hx hb hts hin2 hown hK hP hD hS 4 (by decide) (hts (.fieldLink RX2 23 "FundBook" "now" "I") (by decide +kernel)) dX2_closeMonth_38 (fun H locs hP hD hS => ?_)
    refine lv_aload_n hx hb dX2_closeMonth_41 rfl (lv_at hl 0 rfl) ?_
    refine bkG (b := (u2 (bD1 (bR3 b t n L pd) t 3) 13 4 (nI (t + 1)))) (val := .ref (a 8)) hx hb hts hin2 hown hK hP 8 (by decide) (hts (.fieldLink RX2 41 "FundBook" "replica" "LFundBook$Replica;") (by decide +kernel)) rfl dX2_closeMonth_42 ?_
    refine lv_aload_n hx hb dX2_closeMonth_45 rfl (lv_at hl 0 rfl) ?_
    refine bkG (b := (u2 (bD1 (bR3 b t n L pd) t 3) 13 4 (nI (t + 1)))) (val := .int (nI (t + 1))) hx hb hts hin2 hown hK hP 4 (by decide) (hts (.fieldLink RX2 23 "FundBook" "now" "I") (by decide +kernel)) rfl dX2_closeMonth_46 ?_
    refine lv_bipush (v := 6) hx hb dX2_closeMonth_49 (by decide) ?_
    refine lv_irem hx hb dX2_closeMonth_51 (by decide) ?_
    refine lv_topE (z := nI ((t + 1) % 6)) (pk_rem (by omega) (by decide) (by decide)) ?_
    refine lv_aload_n hx hb dX2_closeMonth_52 rfl (lv_at hl 0 rfl) ?_
    refine caR (r := .int (bTA (bCl b t n L pd))) (va_runV (As := []) (rest := [.int (nI ((t + 1) % 6)), .ref (a 8)]) ⟨hx, hb, hml, hown, hts⟩ (c_X2_trancheAmount l G y a (u2 (bD1 (bR3 b t n L pd) t 3) 13 4 (nI (t + 1))) n la (bPA L n pd 24)) (cwV 0 hts gX2_closeMonth_X2_trancheAmount rfl rfl rfl (by decide +kernel) ⟨Nat.le_of_ble_eq_true rfl, Nat.le_of_ble_eq_true rfl⟩) ⟨rP_bl, va_recv hK.1 hP (ci := 2) (q0 := 0) rfl rfl, fun U hU hW => ⟨rfl, by rw [hU]; exact hP, Kb.moved hW hK⟩⟩ rfl rfl hl.1 rfl (lv_room (Nat.le_of_ble_eq_true rfl)) dX2_closeMonth_53 ⟨Nat.le_of_ble_eq_true rfl, Nat.le_of_ble_eq_true rfl⟩) ?_
    refine lv_aload_n hx hb dX2_closeMonth_56 rfl (lv_at hl 0 rfl) ?_
    refine bkG (b := (u2 (bD1 (bR3 b t n L pd) t 3) 13 4 (nI (t + 1)))) (val := .ref (a 0)) hx hb hts hin2 hown hK hP 0 (by decide) (hts (.fieldLink RX2 9 "FundBook" "curve" "[I") (by decide +kernel)) rfl dX2_closeMonth_57 ?_
    refine lv_iconst (v := 5) hx hb dX2_closeMonth_60 (by decide) ?_
    refine ldI (f := ((u2 (bD1 (bR3 b t n L pd) t 3) 13 4 (nI (t + 1))) 0)) hx hb hK hP 1 bg_0 5 rfl (by decide) (by decide) dX2_closeMonth_61 ?_
    refine lv_topE (z := bCl b t n L pd 0 5) (rfl) ?_
    refine caM (va_runVN (As := [.int (nI ((t + 1) % 6)), .int (bTA (bCl b t n L pd)), .int (bCl b t n L pd 0 5)]) (rest := []) ⟨hx, hb, hml, hown, hts⟩ (c_X1_lay l G y a (u2 (bD1 (bR3 b t n L pd) t 3) 13 4 (nI (t + 1))) n la (bPA L n pd 24) H.size ((t + 1) % 6) (Nat.mod_lt _ (by decide)) (bTA (bCl b t n L pd)) (bCl b t n L pd 0 5)) ⟨va_cnB (host := "FundBook") 3 hts gX2_closeMonth_X1_lay_n145 rfl rfl rfl (hK.nw (by decide +kernel)) (hts (.initialized RX1) (by decide +kernel)) (by decide +kernel) ⟨Nat.le_of_ble_eq_true rfl, Nat.le_of_ble_eq_true rfl⟩, hts (.instanceMethod yX1_lay) (by decide +kernel), hts (.selects RX1 yX1_lay yX1_lay) (by decide +kernel)⟩ ⟨mP_bl, va_recv hK.1 hP (ci := 1) (q0 := 4) rfl rfl, fun U hU hW => ⟨rfl, by rw [hU], by rw [hU]; exact hP, Kb.moved hW hK, hD.weaken (fun _ _ _ _ => trivial)⟩⟩ rfl rfl hl.1 rfl (lv_room (Nat.le_of_ble_eq_true rfl)) dX2_closeMonth_62 ⟨Nat.le_of_ble_eq_true rfl, Nat.le_of_ble_eq_true rfl⟩) hS (freeW hD hS hA) (freeW hD hS hA) (fun _ H locs _ hP hD _ _ hS => ?_)
    refine W.eq (g2 := F0 m 65 ls []) rfl ?_
    have hP : va_P G vwCl (bkW y a (bClose b t n L pd) n la (bPA L n pd 24)) H := hP
    have hD : va_D A (bkW y a (bClose b t n L pd) n la (bPA L n pd 24)) := hD
    refine lv_aload_n hx hb dX2_closeMonth_65 rfl (lv_at hl 0 rfl) ?_
    refine bkG (b := (bClose b t n L pd)) (val := .int ((bClose b t n L pd) 13 4)) hx hb hts hin2 hown hK hP 4 (by decide) (hts (.fieldLink RX2 23 "FundBook" "now" "I") (by decide +kernel)) rfl dX2_closeMonth_66 ?_
    refine lv_topE (z := nI (t + 1)) (rfl) ?_
    refine vx_ret ?_
    refine W.widen (k := 1) (n := 6) (Nat.le_of_ble_eq_true rfl) (Nat.le_of_ble_eq_true rfl) ?_
    exact W.iret (v := nI (t + 1)) hx hb hr (fun t ht hW => ⟨⟨(), congrArg (fun z => Outcome.returned (some (.int z))) (rfl), ev, by rw [ht]; exact hP, by exact hD⟩, hS.F ht⟩) hS.2.2 dX2_closeMonth_69
  · have ev : (xClose t) = 3 := by unfold xClose; exact if_pos (by have h9 : ¬ t < 47 := fun q => c_6 ((nI_ltI (by omega) (by decide)).mpr q); omega)
    obtain ⟨sa, hsa⟩ := hK.2.2.2.1 (134, "it is the last month") (by decide +kernel)
    exact vx_throwS (names := ["java/lang/RuntimeException", "java/lang/Exception"]) (cls := "java/lang/IllegalStateException") (text := "it is the last month") hx hb hlt hown (by decide +kernel) (by decide +kernel) (hts (.classLink RX2 84 "java/lang/IllegalStateException") (by decide +kernel)) (hts (.initialized "java/lang/IllegalStateException") (by decide +kernel)) hsa (vx_hat (B := .castable "java/lang/IllegalStateException" "java/lang/IllegalStateException" :: twD.map Cond.declares) (fun w hw => hts w (List.mem_cons_of_mem _ (List.mem_append_right _ hw))) (by decide +kernel) (hK.2.thrB (by decide +kernel))) (by decide +kernel) hZ.1 hZ.2 hS (by rw [hml]; exact hl.1) dX2_closeMonth_9 dX2_closeMonth_12 dX2_closeMonth_13 dX2_closeMonth_15 dX2_closeMonth_18 (fun x hx => (hout x hx).elim) (Nat.le_of_ble_eq_true rfl) (Nat.le_of_ble_eq_true rfl) (Nat.le_of_ble_eq_true rfl) (Nat.le_of_ble_eq_true rfl) hlocks (fun t _ h1 h2 => ⟨(), trivial, ⟨⟨by rw [ev]; rfl, by rw [ev]; decide⟩, hP.kept (fun k q hk => h2 q.1 (hP k q hk).lt), hD⟩, ⟨h1, fun q hq _ => h2 q hq⟩⟩) t_nil (Nat.le_of_ble_eq_true rfl) (Nat.le_of_ble_eq_true rfl)
