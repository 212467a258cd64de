/-! ===== Loan(), cutIntoParts, lend (printed by a program of mine) ===== -/
set_option maxHeartbeats 4000000 in
set_option maxRecDepth 100000 in
theorem c_X0_init (l : Launch) (G : va_G) (y : Nat → ClassId) (ws : va_W) (k h0 sz : Nat) (hk : ws[k]? = some (h0, .inr (0, lz0))) (br pr rt op opr : Int32) (q1 q2 : Nat) (hop : op = 0 ∨ op = 1) : Met l yX0_init wsX0_init ({ frames := 1, cells := 0, slots := 0, locals := 12 }) (mP G y [.ref h0, .int br, .int pr, .int rt, .int op, .int opr, .ref q1, .ref q2] ws sz) (mQ G (fun _ : Unit => none) (fun _ => True) (fun _ => ws.set k (h0, .inr (0, [.int br, .int pr, .int rt, .int op, .int opr, .ref q1, .ref q2, .int 0]))) (va_A ws sz)) 0 0 (va_A ws sz) := by
  refine Met.ofW (cc := cX0_init) (maxL := 8) (ret := none) (by decide) rfl ?_
  intro p e s m args below meth c s₁ B hml hv
  obtain ⟨rfl, hsz, hP, hK, hD0⟩ := hv
  have hx := B.exec
  have hb := B.bytes
  have hr := B.returns
  have hts := atoms_spec (ws := wsX0_init) B.pre
  have hown : s.vm.findClass RX0 = some m.cls := findClass_of_methodNamed B.named
  have hlocks := B.notSynchronized
  subst hsz
  have hD := hD0.self (sz := s.heap.size)
  generalize hAe : va_A ws s.heap.size = A at hD ⊢
  have hA : ∀ q : Nat, s.heap.size ≤ q → A q := fun q h => by rw [← hAe]; exact Or.inr h
  have hS : va_S A s.heap s.heap [] := va_S.rf
  have hP : va_P G vwCl ws s.heap := hP
  have hl := lv_entry ([.ref h0, .int br, .int pr, .int rt, .int op, .int opr, .ref q1, .ref q2]) (n := 8) (Nat.le_of_ble_eq_true rfl)
  rw [lg_entry_eq]
  generalize (lg_sl ([.ref h0, .int br, .int pr, .int rt, .int op, .int opr, .ref q1, .ref q2]) ++ List.replicate (8 - (lg_sl ([.ref h0, .int br, .int pr, .int rt, .int op, .int opr, .ref q1, .ref q2])).length) Slot.unset).toArray = ls at hl ⊢
  have hin0 : ∀ w ∈ wsX00, w ∈ wsX0_init := by decide +kernel
  have hl : lv_has ls 8 [(0, .ref h0), (1, .int br), (2, .int pr), (3, .int rt), (4, .int op), (5, .int opr), (6, .ref q1), (7, .ref q2)] := hl
  have hin : meth.name = "<init>" := (name_of_methodNamed B.named B.method).1
  refine lv_aload_n hx hb dX0_init_0 rfl (lv_at hl 0 rfl) ?_
  refine W.objInit hx hb hown (hts (.methodLink RX0 3 objectInit) (by decide +kernel)) (hts (.instanceMethod objectInit) (by decide +kernel)) (hts (.code objectInit ⟨#[0xb1]⟩ 1 none) (by decide +kernel)) rfl (by rw [hml]; exact hl.1) rfl dX0_init_1 (Nat.le_of_ble_eq_true rfl) (Nat.le_of_ble_eq_true rfl) ?_
  refine W.eq (g2 := F0 m 4 ls []) rfl ?_
  have hkk : ∀ e9, (ws.set k e9)[k]? = some e9 := fun e9 => List.getElem?_set_self (List.getElem?_eq_some_iff.mp hk).1
  refine lv_aload_n hx hb dX0_init_4 rfl (lv_at hl 0 rfl) ?_
  refine lv_iload_n hx hb dX0_init_5 rfl (lv_at hl 1 rfl) ?_
  refine va_putF (D := G) (ci := 0) (v := .int br) (ty := .int) (C := RX0) (T := TX0) (N := 8) hx hb hts hin0 tyX0 tyX0_ok nmX0 hown hK.1 hP hD hS k hk rfl 0 (by decide) (hts (.fieldLink RX0 9 "FundBook$Loan" "branch" "I") (by decide +kernel)) (fun _ h9 => h9) rfl hin rfl (by decide +kernel) rfl rfl (Nat.le_of_ble_eq_true rfl) dX0_init_6 (fun H locs hP hD hS => ?_)
  have hP : va_P G vwCl (ws.set k (h0, .inr (0, [.int br, .int 0, .int 0, .int 0, .int 0, .null, .null, .int 0]))) H := hP
  have hD : va_D A (ws.set k (h0, .inr (0, [.int br, .int 0, .int 0, .int 0, .int 0, .null, .null, .int 0]))) := hD
  refine lv_aload_n hx hb dX0_init_9 rfl (lv_at hl 0 rfl) ?_
  refine lv_iload_n hx hb dX0_init_10 rfl (lv_at hl 2 rfl) ?_
  refine va_putF (D := G) (ci := 0) (v := .int pr) (ty := .int) (C := RX0) (T := TX0) (N := 8) hx hb hts hin0 tyX0 tyX0_ok nmX0 hown hK.1 hP hD hS k (hkk _) rfl 1 (by decide) (hts (.fieldLink RX0 15 "FundBook$Loan" "product" "I") (by decide +kernel)) (fun _ h9 => h9) rfl hin rfl (by decide +kernel) rfl rfl (Nat.le_of_ble_eq_true rfl) dX0_init_11 (fun H locs hP hD hS => ?_)
  rw [List.set_set] at hP hD
  have hP : va_P G vwCl (ws.set k (h0, .inr (0, [.int br, .int pr, .int 0, .int 0, .int 0, .null, .null, .int 0]))) H := hP
  have hD : va_D A (ws.set k (h0, .inr (0, [.int br, .int pr, .int 0, .int 0, .int 0, .null, .null, .int 0]))) := hD
  refine lv_aload_n hx hb dX0_init_14 rfl (lv_at hl 0 rfl) ?_
  refine lv_iload_n hx hb dX0_init_15 rfl (lv_at hl 3 rfl) ?_
  refine va_putF (D := G) (ci := 0) (v := .int rt) (ty := .int) (C := RX0) (T := TX0) (N := 8) hx hb hts hin0 tyX0 tyX0_ok nmX0 hown hK.1 hP hD hS k (hkk _) rfl 2 (by decide) (hts (.fieldLink RX0 18 "FundBook$Loan" "rate" "I") (by decide +kernel)) (fun _ h9 => h9) rfl hin rfl (by decide +kernel) rfl rfl (Nat.le_of_ble_eq_true rfl) dX0_init_16 (fun H locs hP hD hS => ?_)
  rw [List.set_set] at hP hD
  have hP : va_P G vwCl (ws.set k (h0, .inr (0, [.int br, .int pr, .int rt, .int 0, .int 0, .null, .null, .int 0]))) H := hP
  have hD : va_D A (ws.set k (h0, .inr (0, [.int br, .int pr, .int rt, .int 0, .int 0, .null, .null, .int 0]))) := hD
  refine lv_aload_n hx hb dX0_init_19 rfl (lv_at hl 0 rfl) ?_
  refine lv_iload hx hb dX0_init_20 (lv_at hl 4 rfl) ?_
  refine va_putF (D := G) (ci := 0) (v := .int op) (ty := .boolean) (C := RX0) (T := TX0) (N := 8) hx hb hts hin0 tyX0 tyX0_ok nmX0 hown hK.1 hP hD hS k (hkk _) rfl 3 (by decide) (hts (.fieldLink RX0 21 "FundBook$Loan" "hasOption" "Z") (by decide +kernel)) (fun _ h9 => h9) rfl hin rfl (by decide +kernel) (by rcases hop with rfl | rfl <;> rfl) (by rcases hop with rfl | rfl <;> rfl) (Nat.le_of_ble_eq_true rfl) dX0_init_22 (fun H locs hP hD hS => ?_)
  rw [List.set_set] at hP hD
  have hP : va_P G vwCl (ws.set k (h0, .inr (0, [.int br, .int pr, .int rt, .int op, .int 0, .null, .null, .int 0]))) H := hP
  have hD : va_D A (ws.set k (h0, .inr (0, [.int br, .int pr, .int rt, .int op, .int 0, .null, .null, .int 0]))) := hD
  refine lv_aload_n hx hb dX0_init_25 rfl (lv_at hl 0 rfl) ?_
  refine lv_iload hx hb dX0_init_26 (lv_at hl 5 rfl) ?_
  refine va_putF (D := G) (ci := 0) (v := .int opr) (ty := .int) (C := RX0) (T := TX0) (N := 8) hx hb hts hin0 tyX0 tyX0_ok nmX0 hown hK.1 hP hD hS k (hkk _) rfl 4 (by decide) (hts (.fieldLink RX0 25 "FundBook$Loan" "optionRate" "I") (by decide +kernel)) (fun _ h9 => h9) rfl hin rfl (by decide +kernel) rfl rfl (Nat.le_of_ble_eq_true rfl) dX0_init_28 (fun H locs hP hD hS => ?_)
  rw [List.set_set] at hP hD
  have hP : va_P G vwCl (ws.set k (h0, .inr (0, [.int br, .int pr, .int rt, .int op, .int opr, .null, .null, .int 0]))) H := hP
  have hD : va_D A (ws.set k (h0, .inr (0, [.int br, .int pr, .int rt, .int op, .int opr, .null, .null, .int 0]))) := hD
  refine lv_aload_n hx hb dX0_init_31 rfl (lv_at hl 0 rfl) ?_
  refine lv_aload hx hb dX0_init_32 (lv_at hl 6 rfl) ?_
  refine va_putF (D := G) (ci := 0) (v := .ref q1) (ty := (.array .int)) (C := RX0) (T := TX0) (N := 8) hx hb hts hin0 tyX0 tyX0_ok nmX0 hown hK.1 hP hD hS k (hkk _) rfl 5 (by decide) (hts (.fieldLink RX0 28 "FundBook$Loan" "parts" "[I") (by decide +kernel)) (fun _ h9 => h9) rfl hin rfl (by decide +kernel) rfl rfl (Nat.le_of_ble_eq_true rfl) dX0_init_34 (fun H locs hP hD hS => ?_)
  rw [List.set_set] at hP hD
  have hP : va_P G vwCl (ws.set k (h0, .inr (0, [.int br, .int pr, .int rt, .int op, .int opr, .ref q1, .null, .int 0]))) H := hP
  have hD : va_D A (ws.set k (h0, .inr (0, [.int br, .int pr, .int rt, .int op, .int opr, .ref q1, .null, .int 0]))) := hD
  refine lv_aload_n hx hb dX0_init_37 rfl (lv_at hl 0 rfl) ?_
  refine lv_aload hx hb dX0_init_38 (lv_at hl 7 rfl) ?_
  refine va_putF (D := G) (ci := 0) (v := .ref q2) (ty := (.array .int)) (C := RX0) (T := TX0) (N := 8) hx hb hts hin0 tyX0 tyX0_ok nmX0 hown hK.1 hP hD hS k (hkk _) rfl 6 (by decide) (hts (.fieldLink RX0 32 "FundBook$Loan" "fundingRates" "[I") (by decide +kernel)) (fun _ h9 => h9) rfl hin rfl (by decide +kernel) rfl rfl (Nat.le_of_ble_eq_true rfl) dX0_init_40 (fun H locs hP hD hS => ?_)
  rw [List.set_set] at hP hD
  have hP : va_P G vwCl (ws.set k (h0, .inr (0, [.int br, .int pr, .int rt, .int op, .int opr, .ref q1, .ref q2, .int 0]))) H := hP
  have hD : va_D A (ws.set k (h0, .inr (0, [.int br, .int pr, .int rt, .int op, .int opr, .ref q1, .ref q2, .int 0]))) := hD
  refine lv_aload_n hx hb dX0_init_43 rfl (lv_at hl 0 rfl) ?_
  refine lv_iconst (v := 0) hx hb dX0_init_44 (by decide) ?_
  refine va_put (D := G) (ci := 0) (v := .int 0) (ty := .int) (C := RX0) (T := TX0) (N := 8) hx hb hts hin0 tyX0 tyX0_ok nmX0 hown hK.1 hP hD hS k (hkk _) rfl 7 (by decide) (hts (.fieldLink RX0 35 "FundBook$Loan" "paidParts" "I") (by decide +kernel)) (fun _ h9 => h9) rfl (by decide +kernel) rfl rfl (Nat.le_of_ble_eq_true rfl) dX0_init_45 (fun H locs hP hD hS => ?_)
  rw [List.set_set] at hP hD
  have hP : va_P G vwCl (ws.set k (h0, .inr (0, [.int br, .int pr, .int rt, .int op, .int opr, .ref q1, .ref q2, .int 0]))) H := hP
  have hD : va_D A (ws.set k (h0, .inr (0, [.int br, .int pr, .int rt, .int op, .int opr, .ref q1, .ref q2, .int 0]))) := hD
  exact W.vret hx hb hr (fun t ht hW => ⟨⟨(), rfl, trivial, by rw [ht]; exact hP, hD⟩, hS.F ht⟩) hS.2.2 dX0_init_48
set_option maxHeartbeats 4000000 in
set_option maxRecDepth 100000 in
theorem c_X2_cutIntoParts (l : Launch) (G : va_G) (y : Nat → ClassId) (am pt : Int32) (M sz : Nat) (hM : M ≤ 6) : Met l yX2_cutIntoParts wsX2_cutIntoParts ({ frames := 0, cells := 1, slots := 6, locals := 0 }) (mP G y [.int am, .int pt, .int (nI M)] [] sz) (mQ G (fun q : Nat => some (.ref q)) (fun _ => True) (fun q => [(q, .inl (y 0, 6, .inl (cR am pt M 6)))]) (va_A [] sz)) 1 6 (va_A [] sz) := by
  refine Met.ofW (cc := cX2_cutIntoParts) (maxL := 5) (ret := (some (.array .int))) (by decide) rfl ?_
  intro p e s m args below meth c s₁ B hml hv
  obtain ⟨rfl, hsz, hP, hK, hD0⟩ := hv
  have hx := B.exec
  have hb := B.bytes
  have hr := B.returns
  have hts := atoms_spec (ws := wsX2_cutIntoParts) B.pre
  have hown : s.vm.findClass RX2 = some m.cls := findClass_of_methodNamed B.named
  have hlocks := B.notSynchronized
  subst hsz
  have hD := hD0.self (sz := s.heap.size)
  generalize hAe : va_A ([]) s.heap.size = A at hD ⊢
  have hA : ∀ q : Nat, s.heap.size ≤ q → A q := fun q h => by rw [← hAe]; exact Or.inr h
  have hS : va_S A s.heap s.heap [] := va_S.rf
  have hP : va_P G vwCl ([]) s.heap := hP
  have hl := lv_entry ([.int am, .int pt, .int (nI M)]) (n := 5) (Nat.le_of_ble_eq_true rfl)
  rw [lg_entry_eq]
  generalize (lg_sl ([.int am, .int pt, .int (nI M)]) ++ List.replicate (5 - (lg_sl ([.int am, .int pt, .int (nI M)])).length) Slot.unset).toArray = ls at hl ⊢
  have hl : lv_has ls 5 [(0, .int am), (1, .int pt), (2, .int (nI M))] := hl
  refine lv_bipush (v := 6) hx hb dX2_cutIntoParts_0 (by decide) ?_
  refine nwI (N := 6) hx hb (hts (.arrayClass .int) (by decide +kernel)) hK hP hD hS hA rfl (by decide) (Nat.le_of_ble_eq_true rfl) (Nat.le_of_ble_eq_true rfl) dX2_cutIntoParts_2 (fun q H hP hD hS => ?_)
  refine W.widen (k := 1) (n := 6) (Nat.le_refl _) (Nat.le_refl _) ?_
  refine lv_astore_n (lv' := [(3, .ref q), (0, .int am), (1, .int pt), (2, .int (nI M))]) hx hb dX2_cutIntoParts_4 rfl hl (by decide) rfl (fun ls hl => ?_)
  refine lv_iconst (v := 0) hx hb dX2_cutIntoParts_5 (by decide) ?_
  refine lv_istore (lv' := [(4, .int 0), (3, .ref q), (0, .int am), (1, .int pt), (2, .int (nI M))]) hx hb dX2_cutIntoParts_6 hl (by decide) rfl (fun ls hl => ?_)
  refine loopM (LV := fun k => [(0, .int am), (1, .int pt), (2, .int (nI M)), (3, .ref q), (4, .int (nI k))]) (WS := fun k => [(q, .inl (y 0, 6, .inl (cR am pt M k)))]) 6 hP hD hS (lv_sub hl [2, 3, 4, 1, 0] rfl) (fun k H locs ls hk_k hP hD hS hl ih_k => ?_) (fun H locs ls hP hD hS hl => ?_)
  · have hl : lv_has ls 5 [(0, .int am), (1, .int pt), (2, .int (nI M)), (3, .ref q), (4, .int (nI k))] := hl
    have hP : va_P G vwCl ([(q, .inl (y 0, 6, .inl (cR am pt M k)))]) H := hP
    have hD : va_D A ([(q, .inl (y 0, 6, .inl (cR am pt M k)))]) := hD
    refine lv_iload hx hb dX2_cutIntoParts_8 (lv_at hl 4 rfl) ?_
    refine lv_bipush (v := 6) hx hb dX2_cutIntoParts_10 (by decide) ?_
    refine lv_icmp_ge (tgt := 56) hx hb dX2_cutIntoParts_12 (by decide) (fun c_12 => absurd c_12 (nI_ge hk_k (by decide))) (fun c_12 => ?_)
    refine lv_iload hx hb dX2_cutIntoParts_15 (lv_at hl 4 rfl) ?_
    refine lv_iload_n hx hb dX2_cutIntoParts_17 rfl (lv_at hl 2 rfl) ?_
    refine lv_iconst (v := 1) hx hb dX2_cutIntoParts_18 (by decide) ?_
    refine lv_isub hx hb dX2_cutIntoParts_19 ?_
    refine lv_icmp_ge (tgt := 31) hx hb dX2_cutIntoParts_20 (by decide) (fun c_20 => ?_) (fun c_20 => ?_)
    · refine lv_iload hx hb dX2_cutIntoParts_31 (lv_at hl 4 rfl) ?_
      refine lv_iload_n hx hb dX2_cutIntoParts_33 rfl (lv_at hl 2 rfl) ?_
      refine lv_iconst (v := 1) hx hb dX2_cutIntoParts_34 (by decide) ?_
      refine lv_isub hx hb dX2_cutIntoParts_35 ?_
      refine lv_icmp_ne (tgt := 50) hx hb dX2_cutIntoParts_36 (by decide) (fun c_36 => ?_) (fun c_36 => ?_)
      · have hP : va_P G vwCl [(q, .inl (y 0, 6, .inl (cR am pt M (k + 1))))] H := by rw [cR, if_pos c_20, if_neg c_36]; exact hP
        have hD : va_D A [(q, .inl (y 0, 6, .inl (cR am pt M (k + 1))))] := by rw [cR, if_pos c_20, if_neg c_36]; exact hD
        refine lv_iinc (v := (nI (k + 1))) (lv' := [(4, .int (nI (k + 1))), (0, .int am), (1, .int pt), (2, .int (nI M)), (3, .ref q)]) hx hb dX2_cutIntoParts_50 hl (k := 4) rfl iinc1 (by decide) rfl (fun ls hl => ?_)
        refine lv_goto (tgt := 8) hx hb dX2_cutIntoParts_53 (by decide) ?_
        exact ih_k _ _ ls hP hD hS (lv_sub hl [1, 2, 3, 4, 0] rfl)
      · refine lv_aload_n hx hb dX2_cutIntoParts_39 rfl (lv_at hl 3 rfl) ?_
        refine lv_iload hx hb dX2_cutIntoParts_40 (lv_at hl 4 rfl) ?_
        refine lv_iload_n hx hb dX2_cutIntoParts_42 rfl (lv_at hl 0 rfl) ?_
        refine lv_iload_n hx hb dX2_cutIntoParts_43 rfl (lv_at hl 1 rfl) ?_
        refine lv_iload_n hx hb dX2_cutIntoParts_44 rfl (lv_at hl 2 rfl) ?_
        refine lv_iconst (v := 1) hx hb dX2_cutIntoParts_45 (by decide) ?_
        refine lv_isub hx hb dX2_cutIntoParts_46 ?_
        refine lv_imul hx hb dX2_cutIntoParts_47 ?_
        refine lv_isub hx hb dX2_cutIntoParts_48 ?_
        refine stI (f := cR am pt M k) (ws1 := [(q, .inl (y 0, 6, .inl (upd (cR am pt M k) k ((am - (pt * (nI M - 1)))))))]) hx hb hK hP hD hS 0 rfl k rfl hk_k (by decide) rfl dX2_cutIntoParts_49 (fun H locs hP hD hS => ?_)
        have hP : va_P G vwCl [(q, .inl (y 0, 6, .inl (cR am pt M (k + 1))))] H := by rw [cR, if_pos c_20, if_pos c_36]; exact hP
        have hD : va_D A [(q, .inl (y 0, 6, .inl (cR am pt M (k + 1))))] := by rw [cR, if_pos c_20, if_pos c_36]; exact hD
        refine lv_iinc (v := (nI (k + 1))) (lv' := [(4, .int (nI (k + 1))), (0, .int am), (1, .int pt), (2, .int (nI M)), (3, .ref q)]) hx hb dX2_cutIntoParts_50 hl (k := 4) rfl iinc1 (by decide) rfl (fun ls hl => ?_)
        refine lv_goto (tgt := 8) hx hb dX2_cutIntoParts_53 (by decide) ?_
        exact ih_k _ _ ls hP hD hS (lv_sub hl [1, 2, 3, 4, 0] rfl)
    · refine lv_aload_n hx hb dX2_cutIntoParts_23 rfl (lv_at hl 3 rfl) ?_
      refine lv_iload hx hb dX2_cutIntoParts_24 (lv_at hl 4 rfl) ?_
      refine lv_iload_n hx hb dX2_cutIntoParts_26 rfl (lv_at hl 1 rfl) ?_
      refine stI (f := cR am pt M k) (ws1 := [(q, .inl (y 0, 6, .inl (upd (cR am pt M k) k (pt))))]) hx hb hK hP hD hS 0 rfl k rfl hk_k (by decide) rfl dX2_cutIntoParts_27 (fun H locs hP hD hS => ?_)
      refine lv_goto (tgt := 50) hx hb dX2_cutIntoParts_28 (by decide) ?_
      have hP : va_P G vwCl [(q, .inl (y 0, 6, .inl (cR am pt M (k + 1))))] H := by rw [cR, if_neg c_20]; exact hP
      have hD : va_D A [(q, .inl (y 0, 6, .inl (cR am pt M (k + 1))))] := by rw [cR, if_neg c_20]; exact hD
      refine lv_iinc (v := (nI (k + 1))) (lv' := [(4, .int (nI (k + 1))), (0, .int am), (1, .int pt), (2, .int (nI M)), (3, .ref q)]) hx hb dX2_cutIntoParts_50 hl (k := 4) rfl iinc1 (by decide) rfl (fun ls hl => ?_)
      refine lv_goto (tgt := 8) hx hb dX2_cutIntoParts_53 (by decide) ?_
      exact ih_k _ _ ls hP hD hS (lv_sub hl [1, 2, 3, 4, 0] rfl)
  · have hl : lv_has ls 5 [(0, .int am), (1, .int pt), (2, .int (nI M)), (3, .ref q), (4, .int (nI 6))] := hl
    have hP : va_P G vwCl ([(q, .inl (y 0, 6, .inl (cR am pt M 6)))]) H := hP
    have hD : va_D A ([(q, .inl (y 0, 6, .inl (cR am pt M 6)))]) := hD
    refine lv_iload hx hb dX2_cutIntoParts_8 (lv_at hl 4 rfl) ?_
    refine lv_bipush (v := 6) hx hb dX2_cutIntoParts_10 (by decide) ?_
    refine lv_icmp_ge (tgt := 56) hx hb dX2_cutIntoParts_12 (by decide) (fun c_12 => ?_) (fun c_12 => absurd (nI_le (Nat.le_refl 6) (by decide)) c_12)
    refine lv_aload_n hx hb dX2_cutIntoParts_56 rfl (lv_at hl 3 rfl) ?_
    exact W.aret (v := .ref q) hx hb hr (Or.inr ⟨_, rfl⟩) (Or.inr ⟨q, rfl⟩) (fun t ht hW => ⟨⟨q, rfl, trivial, by rw [ht]; exact hP, hD⟩, hS.F ht⟩) hS.2.2 dX2_cutIntoParts_57
set_option maxHeartbeats 4000000 in
set_option maxRecDepth 100000 in
theorem c_X2_lend (l : Launch) (hlt : l.stackTraces = false) (G : va_G) (y : Nat → ClassId) (a : Nat → Nat) (b : MS) (n : Nat) (la : Nat → Nat → Nat) (L : LNS) (sz : Nat) (br pr am rt mo op : Int32) (hn : b 13 6 = nI n) (hn24 : n ≤ 24) (hop : op = 0 ∨ op = 1) : vx_Met l yX2_lend wsX2_lend ({ frames := 6, cells := 3, slots := 20, locals := 82 }) (xP G y [.ref (a 13), .int br, .int pr, .int am, .int rt, .int mo, .int op] (bkW y a b n la L) sz) (mQ G (fun _ : Nat → Nat => some (.int (nI n))) (fun _ => (xLend n br pr am rt mo) = 0) (fun u => bkW y a (u2 b 13 6 (nI (n + 1))) (n + 1) (fun i j => if i = n then u j else la i j) (fun i => if i = n then lNew br pr rt op (bOr b op) (cR am (am / mo) (cn mo) 6) (b 0) else L i)) (va_A (bkW y a b n la L) sz)) (xX G (fun E => E = exN (xLend n br pr am rt mo) ∧ ¬ (xLend n br pr am rt mo) = 0) (bkW y a b n la L) (va_A (bkW y a b n la L) sz)) 3 20 (va_A (bkW y a b n la L) sz) := by
  refine vx_ofW (cc := cX2_lend) (maxL := 10) (ret := (some .int)) (by decide) rfl ?_
  intro p e s m args below meth c s₁ B hml hout hv
  obtain ⟨rfl, hsz, hP, hK, hD0, hZ⟩ := hv
  have hx := B.exec
  have hb := B.bytes
  have hr := B.returns
  have hts := atoms_spec (ws := wsX2_lend) B.pre
  have hown : s.vm.findClass RX2 = some m.cls := findClass_of_methodNamed B.named
  have hlocks := B.notSynchronized
  subst hsz
  have hD := hD0.self (sz := s.heap.size)
  generalize hAe : va_A (bkW y a b n la L) s.heap.size = A at hD hZ ⊢
  have hA : ∀ q : Nat, s.heap.size ≤ q → A q := fun q h => by rw [← hAe]; exact Or.inr h
  have hS : va_S A s.heap s.heap [] := va_S.rf
  have hP : va_P G vwCl (bkW y a b n la L) s.heap := hP
  have hl := lv_entry ([.ref (a 13), .int br, .int pr, .int am, .int rt, .int mo, .int op]) (n := 10) (Nat.le_of_ble_eq_true rfl)
  rw [lg_entry_eq]
  generalize (lg_sl ([.ref (a 13), .int br, .int pr, .int am, .int rt, .int mo, .int op]) ++ List.replicate (10 - (lg_sl ([.ref (a 13), .int br, .int pr, .int am, .int rt, .int mo, .int op])).length) Slot.unset).toArray = ls at hl ⊢
  have hin0 : ∀ w ∈ wsX00, w ∈ wsX2_lend := by decide +kernel
  have hin2 : ∀ w ∈ wsX20, w ∈ wsX2_lend := by decide +kernel
  have hl : lv_has ls 10 [(0, .ref (a 13)), (1, .int br), (2, .int pr), (3, .int am), (4, .int rt), (5, .int mo), (6, .int op)] := hl
  refine lv_iload_n hx hb dX2_lend_0 rfl (lv_at hl 1 rfl) ?_
  refine lv_if_lt (tgt := 18) hx hb dX2_lend_1 (by decide) (fun c_1 => ?_) (fun c_1 => ?_)
  · have ev : (xLend n br pr am rt mo) = 1 := by unfold xLend; exact (if_pos c_1)
    obtain ⟨sa, hsa⟩ := hK.2.2.2.1 (77, "no such branch or product") (by decide +kernel)
    exact vx_throwS (names := ["java/lang/RuntimeException", "java/lang/Exception"]) (cls := "java/lang/IndexOutOfBoundsException") (text := "no such branch or product") hx hb hlt hown (by decide +kernel) (by decide +kernel) (hts (.classLink RX2 59 "java/lang/IndexOutOfBoundsException") (by decide +kernel)) (hts (.initialized "java/lang/IndexOutOfBoundsException") (by decide +kernel)) hsa (vx_hat (B := .castable "java/lang/IndexOutOfBoundsException" "java/lang/IndexOutOfBoundsException" :: twD.map Cond.declares) (fun w hw => hts w (List.mem_cons_of_mem _ (List.mem_append_left _ (List.mem_append_left _ (List.mem_append_right _ hw))))) (by decide +kernel) (hK.2.thrB (by decide +kernel))) (by decide +kernel) hZ.1 hZ.2 hS (by rw [hml]; exact hl.1) dX2_lend_18 dX2_lend_21 dX2_lend_22 dX2_lend_24 dX2_lend_27 (fun x hx => (hout x hx).elim) (Nat.le_of_ble_eq_true rfl) (Nat.le_of_ble_eq_true rfl) (Nat.le_of_ble_eq_true rfl) (Nat.le_of_ble_eq_true rfl) hlocks (fun t _ h1 h2 => ⟨(), trivial, ⟨⟨by rw [ev]; rfl, by rw [ev]; decide⟩, hP.kept (fun k q hk => h2 q.1 (hP k q hk).lt), hD⟩, ⟨h1, fun q hq _ => h2 q hq⟩⟩) t_nil (Nat.le_of_ble_eq_true rfl) (Nat.le_of_ble_eq_true rfl)
  · refine lv_iload_n hx hb dX2_lend_4 rfl (lv_at hl 1 rfl) ?_
    refine lv_iconst (v := 3) hx hb dX2_lend_5 (by decide) ?_
    refine lv_icmp_ge (tgt := 18) hx hb dX2_lend_6 (by decide) (fun c_6 => ?_) (fun c_6 => ?_)
    · have ev : (xLend n br pr am rt mo) = 1 := by unfold xLend; exact (if_neg c_1).trans ((if_pos c_6))
      obtain ⟨sa, hsa⟩ := hK.2.2.2.1 (77, "no such branch or product") (by decide +kernel)
      exact vx_throwS (names := ["java/lang/RuntimeException", "java/lang/Exception"]) (cls := "java/lang/IndexOutOfBoundsException") (text := "no such branch or product") hx hb hlt hown (by decide +kernel) (by decide +kernel) (hts (.classLink RX2 59 "java/lang/IndexOutOfBoundsException") (by decide +kernel)) (hts (.initialized "java/lang/IndexOutOfBoundsException") (by decide +kernel)) hsa (vx_hat (B := .castable "java/lang/IndexOutOfBoundsException" "java/lang/IndexOutOfBoundsException" :: twD.map Cond.declares) (fun w hw => hts w (List.mem_cons_of_mem _ (List.mem_append_left _ (List.mem_append_left _ (List.mem_append_right _ hw))))) (by decide +kernel) (hK.2.thrB (by decide +kernel))) (by decide +kernel) hZ.1 hZ.2 hS (by rw [hml]; exact hl.1) dX2_lend_18 dX2_lend_21 dX2_lend_22 dX2_lend_24 dX2_lend_27 (fun x hx => (hout x hx).elim) (Nat.le_of_ble_eq_true rfl) (Nat.le_of_ble_eq_true rfl) (Nat.le_of_ble_eq_true rfl) (Nat.le_of_ble_eq_true rfl) hlocks (fun t _ h1 h2 => ⟨(), trivial, ⟨⟨by rw [ev]; rfl, by rw [ev]; decide⟩, hP.kept (fun k q hk => h2 q.1 (hP k q hk).lt), hD⟩, ⟨h1, fun q hq _ => h2 q hq⟩⟩) t_nil (Nat.le_of_ble_eq_true rfl) (Nat.le_of_ble_eq_true rfl)
    · refine lv_iload_n hx hb dX2_lend_9 rfl (lv_at hl 2 rfl) ?_
      refine lv_if_lt (tgt := 18) hx hb dX2_lend_10 (by decide) (fun c_10 => ?_) (fun c_10 => ?_)
      · have ev : (xLend n br pr am rt mo) = 1 := by unfold xLend; exact (if_neg c_1).trans ((if_neg c_6).trans ((if_pos c_10)))
        obtain ⟨sa, hsa⟩ := hK.2.2.2.1 (77, "no such branch or product") (by decide +kernel)
        exact vx_throwS (names := ["java/lang/RuntimeException", "java/lang/Exception"]) (cls := "java/lang/IndexOutOfBoundsException") (text := "no such branch or product") hx hb hlt hown (by decide +kernel) (by decide +kernel) (hts (.classLink RX2 59 "java/lang/IndexOutOfBoundsException") (by decide +kernel)) (hts (.initialized "java/lang/IndexOutOfBoundsException") (by decide +kernel)) hsa (vx_hat (B := .castable "java/lang/IndexOutOfBoundsException" "java/lang/IndexOutOfBoundsException" :: twD.map Cond.declares) (fun w hw => hts w (List.mem_cons_of_mem _ (List.mem_append_left _ (List.mem_append_left _ (List.mem_append_right _ hw))))) (by decide +kernel) (hK.2.thrB (by decide +kernel))) (by decide +kernel) hZ.1 hZ.2 hS (by rw [hml]; exact hl.1) dX2_lend_18 dX2_lend_21 dX2_lend_22 dX2_lend_24 dX2_lend_27 (fun x hx => (hout x hx).elim) (Nat.le_of_ble_eq_true rfl) (Nat.le_of_ble_eq_true rfl) (Nat.le_of_ble_eq_true rfl) (Nat.le_of_ble_eq_true rfl) hlocks (fun t _ h1 h2 => ⟨(), trivial, ⟨⟨by rw [ev]; rfl, by rw [ev]; decide⟩, hP.kept (fun k q hk => h2 q.1 (hP k q hk).lt), hD⟩, ⟨h1, fun q hq _ => h2 q hq⟩⟩) t_nil (Nat.le_of_ble_eq_true rfl) (Nat.le_of_ble_eq_true rfl)
      · refine lv_iload_n hx hb dX2_lend_13 rfl (lv_at hl 2 rfl) ?_
        refine lv_iconst (v := 3) hx hb dX2_lend_14 (by decide) ?_
        refine lv_icmp_lt (tgt := 28) hx hb dX2_lend_15 (by decide) (fun c_15 => ?_) (fun c_15 => ?_)
        · refine lv_iload_n hx hb dX2_lend_28 rfl (lv_at hl 3 rfl) ?_
          refine lv_iconst (v := 1) hx hb dX2_lend_29 (by decide) ?_
          refine lv_icmp_lt (tgt := 39) hx hb dX2_lend_30 (by decide) (fun c_30 => ?_) (fun c_30 => ?_)
          · have ev : (xLend n br pr am rt mo) = 2 := by unfold xLend; exact (if_neg c_1).trans ((if_neg c_6).trans ((if_neg c_10).trans ((if_neg (Int32.not_le.mpr c_15)).trans ((if_pos c_30)))))
            obtain ⟨sa, hsa⟩ := hK.2.2.2.1 (80, "amount out of range") (by decide +kernel)
            exact vx_throwS (names := ["java/lang/RuntimeException", "java/lang/Exception"]) (cls := "java/lang/IllegalArgumentException") (text := "amount out of range") hx hb hlt hown (by decide +kernel) (by decide +kernel) (hts (.classLink RX2 66 "java/lang/IllegalArgumentException") (by decide +kernel)) (hts (.initialized "java/lang/IllegalArgumentException") (by decide +kernel)) hsa (vx_hat (B := .castable "java/lang/IllegalArgumentException" "java/lang/IllegalArgumentException" :: twD.map Cond.declares) (fun w hw => hts w (List.mem_cons_of_mem _ (List.mem_append_left _ (List.mem_append_right _ hw)))) (by decide +kernel) (hK.2.thrB (by decide +kernel))) (by decide +kernel) hZ.1 hZ.2 hS (by rw [hml]; exact hl.1) dX2_lend_39 dX2_lend_42 dX2_lend_43 dX2_lend_45 dX2_lend_48 (fun x hx => (hout x hx).elim) (Nat.le_of_ble_eq_true rfl) (Nat.le_of_ble_eq_true rfl) (Nat.le_of_ble_eq_true rfl) (Nat.le_of_ble_eq_true rfl) hlocks (fun t _ h1 h2 => ⟨(), trivial, ⟨⟨by rw [ev]; rfl, by rw [ev]; decide⟩, hP.kept (fun k q hk => h2 q.1 (hP k q hk).lt), hD⟩, ⟨h1, fun q hq _ => h2 q hq⟩⟩) t_nil (Nat.le_of_ble_eq_true rfl) (Nat.le_of_ble_eq_true rfl)
          · refine lv_iload_n hx hb dX2_lend_33 rfl (lv_at hl 3 rfl) ?_
            refine lv_ldc (v := 10000000) hx hb hown (hts (.constant RX2 79 10000000) (by decide +kernel)) dX2_lend_34 ?_
            refine lv_icmp_le (tgt := 49) hx hb dX2_lend_36 (by decide) (fun c_36 => ?_) (fun c_36 => ?_)
            · refine lv_iload hx hb dX2_lend_49 (lv_at hl 4 rfl) ?_
              refine lv_if_lt (tgt := 62) hx hb dX2_lend_51 (by decide) (fun c_51 => ?_) (fun c_51 => ?_)
              · have ev : (xLend n br pr am rt mo) = 2 := by unfold xLend; exact (if_neg c_1).trans ((if_neg c_6).trans ((if_neg c_10).trans ((if_neg (Int32.not_le.mpr c_15)).trans ((if_neg c_30).trans ((if_neg (Int32.not_lt.mpr c_36)).trans ((if_pos c_51)))))))
                obtain ⟨sa, hsa⟩ := hK.2.2.2.1 (68, "rate out of range") (by decide +kernel)
                exact vx_throwS (names := ["java/lang/RuntimeException", "java/lang/Exception"]) (cls := "java/lang/IllegalArgumentException") (text := "rate out of range") hx hb hlt hown (by decide +kernel) (by decide +kernel) (hts (.classLink RX2 66 "java/lang/IllegalArgumentException") (by decide +kernel)) (hts (.initialized "java/lang/IllegalArgumentException") (by decide +kernel)) hsa (vx_hat (B := .castable "java/lang/IllegalArgumentException" "java/lang/IllegalArgumentException" :: twD.map Cond.declares) (fun w hw => hts w (List.mem_cons_of_mem _ (List.mem_append_left _ (List.mem_append_right _ hw)))) (by decide +kernel) (hK.2.thrB (by decide +kernel))) (by decide +kernel) hZ.1 hZ.2 hS (by rw [hml]; exact hl.1) dX2_lend_62 dX2_lend_65 dX2_lend_66 dX2_lend_68 dX2_lend_71 (fun x hx => (hout x hx).elim) (Nat.le_of_ble_eq_true rfl) (Nat.le_of_ble_eq_true rfl) (Nat.le_of_ble_eq_true rfl) (Nat.le_of_ble_eq_true rfl) hlocks (fun t _ h1 h2 => ⟨(), trivial, ⟨⟨by rw [ev]; rfl, by rw [ev]; decide⟩, hP.kept (fun k q hk => h2 q.1 (hP k q hk).lt), hD⟩, ⟨h1, fun q hq _ => h2 q hq⟩⟩) t_nil (Nat.le_of_ble_eq_true rfl) (Nat.le_of_ble_eq_true rfl)
              · refine lv_iload hx hb dX2_lend_54 (lv_at hl 4 rfl) ?_
                refine lv_sipush (v := 5000) hx hb dX2_lend_56 (by decide) ?_
                refine lv_icmp_le (tgt := 72) hx hb dX2_lend_59 (by decide) (fun c_59 => ?_) (fun c_59 => ?_)
                · refine lv_iload hx hb dX2_lend_72 (lv_at hl 5 rfl) ?_
                  refine lv_iconst (v := 1) hx hb dX2_lend_74 (by decide) ?_
                  refine lv_icmp_lt (tgt := 85) hx hb dX2_lend_75 (by decide) (fun c_75 => ?_) (fun c_75 => ?_)
                  · have ev : (xLend n br pr am rt mo) = 2 := by unfold xLend; exact (if_neg c_1).trans ((if_neg c_6).trans ((if_neg c_10).trans ((if_neg (Int32.not_le.mpr c_15)).trans ((if_neg c_30).trans ((if_neg (Int32.not_lt.mpr c_36)).trans ((if_neg c_51).trans ((if_neg (Int32.not_lt.mpr c_59)).trans ((if_pos c_75)))))))))
                    obtain ⟨sa, hsa⟩ := hK.2.2.2.1 (82, "months out of range") (by decide +kernel)
                    exact vx_throwS (names := ["java/lang/RuntimeException", "java/lang/Exception"]) (cls := "java/lang/IllegalArgumentException") (text := "months out of range") hx hb hlt hown (by decide +kernel) (by decide +kernel) (hts (.classLink RX2 66 "java/lang/IllegalArgumentException") (by decide +kernel)) (hts (.initialized "java/lang/IllegalArgumentException") (by decide +kernel)) hsa (vx_hat (B := .castable "java/lang/IllegalArgumentException" "java/lang/IllegalArgumentException" :: twD.map Cond.declares) (fun w hw => hts w (List.mem_cons_of_mem _ (List.mem_append_left _ (List.mem_append_right _ hw)))) (by decide +kernel) (hK.2.thrB (by decide +kernel))) (by decide +kernel) hZ.1 hZ.2 hS (by rw [hml]; exact hl.1) dX2_lend_85 dX2_lend_88 dX2_lend_89 dX2_lend_91 dX2_lend_94 (fun x hx => (hout x hx).elim) (Nat.le_of_ble_eq_true rfl) (Nat.le_of_ble_eq_true rfl) (Nat.le_of_ble_eq_true rfl) (Nat.le_of_ble_eq_true rfl) hlocks (fun t _ h1 h2 => ⟨(), trivial, ⟨⟨by rw [ev]; rfl, by rw [ev]; decide⟩, hP.kept (fun k q hk => h2 q.1 (hP k q hk).lt), hD⟩, ⟨h1, fun q hq _ => h2 q hq⟩⟩) t_nil (Nat.le_of_ble_eq_true rfl) (Nat.le_of_ble_eq_true rfl)
                  · refine lv_iload hx hb dX2_lend_78 (lv_at hl 5 rfl) ?_
                    refine lv_bipush (v := 6) hx hb dX2_lend_80 (by decide) ?_
                    refine lv_icmp_le (tgt := 95) hx hb dX2_lend_82 (by decide) (fun c_82 => ?_) (fun c_82 => ?_)
                    · refine lv_aload_n hx hb dX2_lend_95 rfl (lv_at hl 0 rfl) ?_
                      refine bkG (b := b) (val := .int (b 13 6)) hx hb hts hin2 hown hK hP 6 (by decide) (hts (.fieldLink RX2 32 "FundBook" "loanCount" "I") (by decide +kernel)) rfl dX2_lend_96 ?_
                      refine lv_topE (z := nI n) (hn) ?_
                      refine lv_bipush (v := 24) hx hb dX2_lend_99 (by decide) ?_
                      refine lv_icmp_lt (tgt := 114) hx hb dX2_lend_101 (by decide) (fun c_101 => ?_) (fun c_101 => ?_)
                      · have ev : xLend n br pr am rt mo = 0 := by unfold xLend; exact (if_neg c_1).trans ((if_neg c_6).trans ((if_neg c_10).trans ((if_neg (Int32.not_le.mpr c_15)).trans ((if_neg c_30).trans ((if_neg (Int32.not_lt.mpr c_36)).trans ((if_neg c_51).trans ((if_neg (Int32.not_lt.mpr c_59)).trans ((if_neg c_75).trans ((if_neg (Int32.not_lt.mpr c_82)).trans ((if_neg (Int32.not_le.mpr c_101))))))))))))
                        have hln : n < 24 := by
                          have h9 : nI n < nI 24 := c_101
                          exact (nI_ltI (by omega) (by decide)).mp h9
                        obtain ⟨i, hi, rfl⟩ := inS c_75 (Int32.not_lt.mpr c_82)
                        refine lv_iload_n hx hb dX2_lend_114 rfl (lv_at hl 3 rfl) ?_
                        refine lv_iload_n hx hb dX2_lend_115 rfl (lv_at hl 3 rfl) ?_
                        refine lv_iload hx hb dX2_lend_116 (lv_at hl 5 rfl) ?_
                        refine lv_idiv hx hb dX2_lend_118 (nI_ne0 (by omega) (by omega)) ?_
                        refine lv_iload hx hb dX2_lend_119 (lv_at hl 5 rfl) ?_
                        have hP0 : va_P G vwCl ((bkW y a b n la L) ++ []) s.heap := by rw [List.append_nil]; exact hP
                        have hD0 : va_D A ((bkW y a b n la L) ++ []) := by rw [List.append_nil]; exact hD
                        have hFc : ∀ q, va_A [] s.heap.size q → A q := fun q h => hA q (A_nil h)
                        refine caN (va_runS (As := [.int am, .int (am / (nI (i + 1))), .int (nI (i + 1))]) (rest := []) ⟨hx, hb, hml, hown, hts⟩ (c_X2_cutIntoParts l G y am (am / (nI (i + 1))) (i + 1) s.heap.size (by omega)) (va_cwS 3 hts gX2_lend_X2_cutIntoParts rfl rfl rfl (by decide +kernel) ⟨Nat.le_of_ble_eq_true rfl, Nat.le_of_ble_eq_true rfl⟩) ⟨mP_bl, fun U hU hW => ⟨rfl, by rw [hU], vaP_nil, Kb.moved hW hK, vaD_nil⟩⟩ rfl rfl hl.1 rfl (lv_room (Nat.le_of_ble_eq_true rfl)) dX2_lend_121 ⟨Nat.le_of_ble_eq_true rfl, Nat.le_of_ble_eq_true rfl⟩) hS hFc hFc (fun q1 H locs _ hP1 hD1 hk1 hS => ?_)
                        refine W.eq (g2 := F0 m 124 ls [.ref q1]) rfl ?_
                        obtain ⟨hP, hD⟩ := joinW hP0 hD0 hk1 hP1 hD1 hFc
                        have hP : va_P G vwCl ((bkW y a b n la L) ++ [(q1, .inl (y 0, 6, .inl (cR am (am / (nI (i + 1))) (i + 1) 6)))]) H := hP
                        have hD : va_D A ((bkW y a b n la L) ++ [(q1, .inl (y 0, 6, .inl (cR am (am / (nI (i + 1))) (i + 1) 6)))]) := hD
                        refine W.widen (k := 1) (n := 6) (Nat.le_of_ble_eq_true rfl) (Nat.le_of_ble_eq_true rfl) ?_
                        refine lv_astore (lv' := [(7, .ref q1), (0, .ref (a 13)), (1, .int br), (2, .int pr), (3, .int am), (4, .int rt), (5, .int (nI (i + 1))), (6, .int op)]) hx hb dX2_lend_124 hl (by decide) rfl (fun ls hl => ?_)
                        refine lv_iload hx hb dX2_lend_126 (lv_at hl 7 rfl) ?_
                        refine lv_if_eq (tgt := 138) hx hb dX2_lend_128 (by decide) (fun c_128 => ?_) (fun c_128 => ?_)
                        · refine lv_iconst (v := 0) hx hb dX2_lend_138 (by decide) ?_
                          refine lv_topE (z := bOr b op) (by unfold bOr; exact (if_pos c_128).symm) ?_
                          refine lv_istore (lv' := [(8, .int (bOr b op)), (7, .ref q1), (0, .ref (a 13)), (1, .int br), (2, .int pr), (3, .int am), (4, .int rt), (5, .int (nI (i + 1))), (6, .int op)]) hx hb dX2_lend_139 hl (by decide) rfl (fun ls hl => ?_)
                          refine lv_aload_n hx hb dX2_lend_141 rfl (lv_at hl 2 rfl) ?_
                          refine bkG (b := b) (val := .int (b 13 6)) hx hb hts hin2 hown hK (appL hP) 6 (by decide) (hts (.fieldLink RX2 32 "FundBook" "loanCount" "I") (by decide +kernel)) rfl dX2_lend_142 ?_
                          refine lv_topE (z := nI n) (hn) ?_
                          refine lv_istore (lv' := [(9, .int (nI n)), (8, .int (bOr b op)), (7, .ref q1), (0, .ref (a 13)), (1, .int br), (2, .int pr), (3, .int am), (4, .int rt), (5, .int (nI (i + 1))), (6, .int op)]) hx hb dX2_lend_145 hl (by decide) rfl (fun ls hl => ?_)
                          refine lv_aload_n hx hb dX2_lend_147 rfl (lv_at hl 3 rfl) ?_
                          refine bkG (b := b) (val := .ref (a 5)) hx hb hts hin2 hown hK (appL hP) 5 (by decide) (hts (.fieldLink RX2 28 "FundBook" "loanRows" "[LFundBook$Loan;") (by decide +kernel)) rfl dX2_lend_148 ?_
                          refine lv_iload hx hb dX2_lend_151 (lv_at hl 0 rfl) ?_
                          refine va_new (ci := 0) (fs := lz0) (C := RX0) (T := TX0) (N := 8) hx hb hts hin0 tyX0 tyX0_ok hown (hts (.classLink RX2 26 RX0) (by decide +kernel)) (hts (.instantiable RX0 8) (by decide +kernel)) (hts (.initialized RX0) (by decide +kernel)) hK.1 hP hD hS hA rfl (fun j hj => by rcases (show j = 0 ∨ j = 1 ∨ j = 2 ∨ j = 3 ∨ j = 4 ∨ j = 5 ∨ j = 6 ∨ j = 7 by omega) with rfl | rfl | rfl | rfl | rfl | rfl | rfl | rfl <;> rfl) (Nat.le_of_ble_eq_true rfl) (Nat.le_of_ble_eq_true rfl) dX2_lend_153 (fun q0 H hP hD hS => ?_)
                          refine W.widen (k := 2) (n := 14) (Nat.le_of_ble_eq_true rfl) (Nat.le_of_ble_eq_true rfl) ?_
                          refine lv_dup hx hb dX2_lend_156 rfl ?_
                          refine lv_iload_n hx hb dX2_lend_157 rfl (lv_at hl 4 rfl) ?_
                          refine lv_iload_n hx hb dX2_lend_158 rfl (lv_at hl 5 rfl) ?_
                          refine lv_iload hx hb dX2_lend_159 (lv_at hl 7 rfl) ?_
                          refine lv_iload hx hb dX2_lend_161 (lv_at hl 9 rfl) ?_
                          refine lv_iload hx hb dX2_lend_163 (lv_at hl 1 rfl) ?_
                          refine lv_aload hx hb dX2_lend_165 (lv_at hl 2 rfl) ?_
                          refine lv_aload_n hx hb dX2_lend_167 rfl (lv_at hl 3 rfl) ?_
                          refine bkG (b := b) (val := .ref (a 0)) hx hb hts hin2 hown hK (appL (appL hP)) 0 (by decide) (hts (.fieldLink RX2 9 "FundBook" "curve" "[I") (by decide +kernel)) rfl dX2_lend_168 ?_
                          refine va_clone (own := RX2) (ad := "[I") hx hb (by rw [hml]; exact hl.1.symm) hown (hts (.methodLink RX2 93 ⟨"[I", "clone", "()Ljava/lang/Object;"⟩) (by decide +kernel)) (hts (.sameMethod "[I" "java/lang/Object" "clone" "()Ljava/lang/Object;") (by decide +kernel)) (hts (.native ⟨"java/lang/Object", "clone", "()Ljava/lang/Object;"⟩) (by decide +kernel)) (hts (.instanceMethod ⟨"java/lang/Object", "clone", "()Ljava/lang/Object;"⟩) (by decide +kernel)) (hts (.selects "[I" ⟨"[I", "clone", "()Ljava/lang/Object;"⟩ ⟨"java/lang/Object", "clone", "()Ljava/lang/Object;"⟩) (by decide +kernel)) (hK.2.2.1 ("[I", "java/lang/Cloneable") (by decide +kernel)) hK.1 hP hD hS hA 1 0 (cA := y 0) (x := (6, .inl (b 0))) (ty := .int) rfl rfl (hK.1.2 0 _ rfl).2 (va_fit (fun _ _ => rfl)) (Nat.le_of_ble_eq_true rfl) (Nat.le_of_ble_eq_true rfl) (Nat.le_of_ble_eq_true rfl) (Nat.le_of_ble_eq_true rfl) dX2_lend_171 (fun q2 H _ hP hD hS => ?_)
                          refine W.widen (k := 3) (n := 20) (Nat.le_of_ble_eq_true rfl) (Nat.le_of_ble_eq_true rfl) ?_
                          have hP := pm3P hP
                          have hD := pm3D hD
                          refine va_castA (nm := "[I") (own := RX2) hx hb hown (hts (.classLink RX2 94 "[I") (by decide +kernel)) hP ((bkW y a b n la L).length + 2) (cA := y 0) (x := (6, .inl (b 0))) (by rw [List.getElem?_append_right (by omega), Nat.add_sub_cancel_left]; rfl) (hK.1.2 0 _ rfl).2 dX2_lend_174 ?_
                          refine caM (va_runIN (host := "FundBook") (As := [.int br, .int pr, .int rt, .int op, .int (bOr b op), .ref q1, .ref q2]) (rest := [.ref q0, .int (nI n), .ref (a 5)]) ⟨hx, hb, hml, hown, hts⟩ (c_X0_init l G y ((bkW y a b n la L) ++ [(q0, .inr (0, lz0)), (q1, .inl (y 0, 6, .inl (cR am (am / (nI (i + 1))) (i + 1) 6))), (q2, .inl (y 0, 6, .inl (b 0)))]) (bkW y a b n la L).length q0 H.size pm3g br pr rt op (bOr b op) q1 q2 hop) ⟨va_cnB 7 hts gX2_lend_X0_init_n98 rfl rfl rfl (hK.nw (by decide +kernel)) (hts (.initialized RX0) (by decide +kernel)) (by decide +kernel) ⟨Nat.le_of_ble_eq_true rfl, Nat.le_of_ble_eq_true rfl⟩, rfl, hts (.instanceMethod yX0_init) (by decide +kernel)⟩ ⟨mP_bl, fun U hU hW => ⟨rfl, by rw [hU], by rw [hU]; exact hP, Kb.moved hW hK, hD.weaken (fun _ _ _ _ => trivial)⟩⟩ rfl rfl hl.1 rfl (lv_room (Nat.le_of_ble_eq_true rfl)) dX2_lend_177 ⟨Nat.le_of_ble_eq_true rfl, Nat.le_of_ble_eq_true rfl⟩) hS (freeW hD hS hA) (freeW hD hS hA) (fun _ H locs _ hP hD _ _ hS => ?_)
                          refine W.eq (g2 := F0 m 180 ls [.ref q0, .int (nI n), .ref (a 5)]) rfl ?_
                          rw [pm3s] at hP hD
                          refine va_astq (D := G) (cl := vwCl) (r := (RX0, TX0, 8)) hx hb hK.1 hP hD hS 2 2 (bkW y a b n la L).length 0 (cA := y 2) (n := 24) (f := lrF n la) (vs := [.int br, .int pr, .int rt, .int op, .int (bOr b op), .ref q1, .ref q2, .int 0]) rfl rfl pm3g rfl (vp_in_nI hln (by decide)) dX2_lend_180 (fun H locs hP hD hS => ?_)
                          rw [nI_clamp (show n < 2 ^ 31 by omega)] at hP hD
                          have hq := bk_add (y := y) (a := a) (b := b) (n := n) (la := la) (L := L) (u := u012 q0 q1 q2) (w := lNew br pr rt op (bOr b op) (cR am (am / (nI (i + 1))) (i + 1) 6) (b 0))
                          have hP : va_P G vwCl (bkW y a b (n + 1) (fun i j => if i = n then u012 q0 q1 q2 j else la i j) (fun i9 => if i9 = n then lNew br pr rt op (bOr b op) (cR am (am / (nI (i + 1))) (i + 1) 6) (b 0) else L i9)) H := by rw [← hq]; exact hP
                          have hD : va_D A (bkW y a b (n + 1) (fun i j => if i = n then u012 q0 q1 q2 j else la i j) (fun i9 => if i9 = n then lNew br pr rt op (bOr b op) (cR am (am / (nI (i + 1))) (i + 1) 6) (b 0) else L i9)) := by rw [← hq]; exact hD
                          refine lv_aload_n hx hb dX2_lend_181 rfl (lv_at hl 3 rfl) ?_
                          refine lv_iload hx hb dX2_lend_182 (lv_at hl 0 rfl) ?_
                          refine lv_iconst (v := 1) hx hb dX2_lend_184 (by decide) ?_
                          refine lv_iadd hx hb dX2_lend_185 ?_
                          refine lv_topE (z := nI (n + 1)) (nI_1 n) ?_
                          refine bkS (b := b) (x := nI (n + 1)) hx hb hts hin2 hown hK hP hD hS 6 (by decide) (hts (.fieldLink RX2 32 "FundBook" "loanCount" "I") (by decide +kernel)) dX2_lend_186 (fun H locs hP hD hS => ?_)
                          refine lv_iload hx hb dX2_lend_189 (lv_at hl 0 rfl) ?_
                          refine vx_ret ?_
                          exact W.iret (v := nI n) hx hb hr (fun t ht hW => ⟨⟨u012 q0 q1 q2, rfl, ev, by rw [ht, cnI (by omega)]; exact hP, by rw [cnI (by omega)]; exact hD⟩, hS.F ht⟩) hS.2.2 dX2_lend_191
                        · refine lv_aload_n hx hb dX2_lend_131 rfl (lv_at hl 1 rfl) ?_
                          refine bkG (b := b) (val := .int (b 13 2)) hx hb hts hin2 hown hK (appL hP) 2 (by decide) (hts (.fieldLink RX2 17 "FundBook" "optionRate" "I") (by decide +kernel)) rfl dX2_lend_132 ?_
                          refine lv_goto (tgt := 139) hx hb dX2_lend_135 (by decide) ?_
                          refine lv_topE (z := bOr b op) (by unfold bOr; exact (if_neg c_128).symm) ?_
                          refine lv_istore (lv' := [(8, .int (bOr b op)), (7, .ref q1), (0, .ref (a 13)), (1, .int br), (2, .int pr), (3, .int am), (4, .int rt), (5, .int (nI (i + 1))), (6, .int op)]) hx hb dX2_lend_139 hl (by decide) rfl (fun ls hl => ?_)
                          refine lv_aload_n hx hb dX2_lend_141 rfl (lv_at hl 2 rfl) ?_
                          refine bkG (b := b) (val := .int (b 13 6)) hx hb hts hin2 hown hK (appL hP) 6 (by decide) (hts (.fieldLink RX2 32 "FundBook" "loanCount" "I") (by decide +kernel)) rfl dX2_lend_142 ?_
                          refine lv_topE (z := nI n) (hn) ?_
                          refine lv_istore (lv' := [(9, .int (nI n)), (8, .int (bOr b op)), (7, .ref q1), (0, .ref (a 13)), (1, .int br), (2, .int pr), (3, .int am), (4, .int rt), (5, .int (nI (i + 1))), (6, .int op)]) hx hb dX2_lend_145 hl (by decide) rfl (fun ls hl => ?_)
                          refine lv_aload_n hx hb dX2_lend_147 rfl (lv_at hl 3 rfl) ?_
                          refine bkG (b := b) (val := .ref (a 5)) hx hb hts hin2 hown hK (appL hP) 5 (by decide) (hts (.fieldLink RX2 28 "FundBook" "loanRows" "[LFundBook$Loan;") (by decide +kernel)) rfl dX2_lend_148 ?_
                          refine lv_iload hx hb dX2_lend_151 (lv_at hl 0 rfl) ?_
                          refine va_new (ci := 0) (fs := lz0) (C := RX0) (T := TX0) (N := 8) hx hb hts hin0 tyX0 tyX0_ok hown (hts (.classLink RX2 26 RX0) (by decide +kernel)) (hts (.instantiable RX0 8) (by decide +kernel)) (hts (.initialized RX0) (by decide +kernel)) hK.1 hP hD hS hA rfl (fun j hj => by rcases (show j = 0 ∨ j = 1 ∨ j = 2 ∨ j = 3 ∨ j = 4 ∨ j = 5 ∨ j = 6 ∨ j = 7 by omega) with rfl | rfl | rfl | rfl | rfl | rfl | rfl | rfl <;> rfl) (Nat.le_of_ble_eq_true rfl) (Nat.le_of_ble_eq_true rfl) dX2_lend_153 (fun q0 H hP hD hS => ?_)
                          refine W.widen (k := 2) (n := 14) (Nat.le_of_ble_eq_true rfl) (Nat.le_of_ble_eq_true rfl) ?_
                          refine lv_dup hx hb dX2_lend_156 rfl ?_
                          refine lv_iload_n hx hb dX2_lend_157 rfl (lv_at hl 4 rfl) ?_
                          refine lv_iload_n hx hb dX2_lend_158 rfl (lv_at hl 5 rfl) ?_
                          refine lv_iload hx hb dX2_lend_159 (lv_at hl 7 rfl) ?_
                          refine lv_iload hx hb dX2_lend_161 (lv_at hl 9 rfl) ?_
                          refine lv_iload hx hb dX2_lend_163 (lv_at hl 1 rfl) ?_
                          refine lv_aload hx hb dX2_lend_165 (lv_at hl 2 rfl) ?_
                          refine lv_aload_n hx hb dX2_lend_167 rfl (lv_at hl 3 rfl) ?_
                          refine bkG (b := b) (val := .ref (a 0)) hx hb hts hin2 hown hK (appL (appL hP)) 0 (by decide) (hts (.fieldLink RX2 9 "FundBook" "curve" "[I") (by decide +kernel)) rfl dX2_lend_168 ?_
                          refine va_clone (own := RX2) (ad := "[I") hx hb (by rw [hml]; exact hl.1.symm) hown (hts (.methodLink RX2 93 ⟨"[I", "clone", "()Ljava/lang/Object;"⟩) (by decide +kernel)) (hts (.sameMethod "[I" "java/lang/Object" "clone" "()Ljava/lang/Object;") (by decide +kernel)) (hts (.native ⟨"java/lang/Object", "clone", "()Ljava/lang/Object;"⟩) (by decide +kernel)) (hts (.instanceMethod ⟨"java/lang/Object", "clone", "()Ljava/lang/Object;"⟩) (by decide +kernel)) (hts (.selects "[I" ⟨"[I", "clone", "()Ljava/lang/Object;"⟩ ⟨"java/lang/Object", "clone", "()Ljava/lang/Object;"⟩) (by decide +kernel)) (hK.2.2.1 ("[I", "java/lang/Cloneable") (by decide +kernel)) hK.1 hP hD hS hA 1 0 (cA := y 0) (x := (6, .inl (b 0))) (ty := .int) rfl rfl (hK.1.2 0 _ rfl).2 (va_fit (fun _ _ => rfl)) (Nat.le_of_ble_eq_true rfl) (Nat.le_of_ble_eq_true rfl) (Nat.le_of_ble_eq_true rfl) (Nat.le_of_ble_eq_true rfl) dX2_lend_171 (fun q2 H _ hP hD hS => ?_)
                          refine W.widen (k := 3) (n := 20) (Nat.le_of_ble_eq_true rfl) (Nat.le_of_ble_eq_true rfl) ?_
                          have hP := pm3P hP
                          have hD := pm3D hD
                          refine va_castA (nm := "[I") (own := RX2) hx hb hown (hts (.classLink RX2 94 "[I") (by decide +kernel)) hP ((bkW y a b n la L).length + 2) (cA := y 0) (x := (6, .inl (b 0))) (by rw [List.getElem?_append_right (by omega), Nat.add_sub_cancel_left]; rfl) (hK.1.2 0 _ rfl).2 dX2_lend_174 ?_
                          refine caM (va_runIN (host := "FundBook") (As := [.int br, .int pr, .int rt, .int op, .int (bOr b op), .ref q1, .ref q2]) (rest := [.ref q0, .int (nI n), .ref (a 5)]) ⟨hx, hb, hml, hown, hts⟩ (c_X0_init l G y ((bkW y a b n la L) ++ [(q0, .inr (0, lz0)), (q1, .inl (y 0, 6, .inl (cR am (am / (nI (i + 1))) (i + 1) 6))), (q2, .inl (y 0, 6, .inl (b 0)))]) (bkW y a b n la L).length q0 H.size pm3g br pr rt op (bOr b op) q1 q2 hop) ⟨va_cnB 7 hts gX2_lend_X0_init_n98 rfl rfl rfl (hK.nw (by decide +kernel)) (hts (.initialized RX0) (by decide +kernel)) (by decide +kernel) ⟨Nat.le_of_ble_eq_true rfl, Nat.le_of_ble_eq_true rfl⟩, rfl, hts (.instanceMethod yX0_init) (by decide +kernel)⟩ ⟨mP_bl, fun U hU hW => ⟨rfl, by rw [hU], by rw [hU]; exact hP, Kb.moved hW hK, hD.weaken (fun _ _ _ _ => trivial)⟩⟩ rfl rfl hl.1 rfl (lv_room (Nat.le_of_ble_eq_true rfl)) dX2_lend_177 ⟨Nat.le_of_ble_eq_true rfl, Nat.le_of_ble_eq_true rfl⟩) hS (freeW hD hS hA) (freeW hD hS hA) (fun _ H locs _ hP hD _ _ hS => ?_)
                          refine W.eq (g2 := F0 m 180 ls [.ref q0, .int (nI n), .ref (a 5)]) rfl ?_
                          rw [pm3s] at hP hD
                          refine va_astq (D := G) (cl := vwCl) (r := (RX0, TX0, 8)) hx hb hK.1 hP hD hS 2 2 (bkW y a b n la L).length 0 (cA := y 2) (n := 24) (f := lrF n la) (vs := [.int br, .int pr, .int rt, .int op, .int (bOr b op), .ref q1, .ref q2, .int 0]) rfl rfl pm3g rfl (vp_in_nI hln (by decide)) dX2_lend_180 (fun H locs hP hD hS => ?_)
                          rw [nI_clamp (show n < 2 ^ 31 by omega)] at hP hD
                          have hq := bk_add (y := y) (a := a) (b := b) (n := n) (la := la) (L := L) (u := u012 q0 q1 q2) (w := lNew br pr rt op (bOr b op) (cR am (am / (nI (i + 1))) (i + 1) 6) (b 0))
                          have hP : va_P G vwCl (bkW y a b (n + 1) (fun i j => if i = n then u012 q0 q1 q2 j else la i j) (fun i9 => if i9 = n then lNew br pr rt op (bOr b op) (cR am (am / (nI (i + 1))) (i + 1) 6) (b 0) else L i9)) H := by rw [← hq]; exact hP
                          have hD : va_D A (bkW y a b (n + 1) (fun i j => if i = n then u012 q0 q1 q2 j else la i j) (fun i9 => if i9 = n then lNew br pr rt op (bOr b op) (cR am (am / (nI (i + 1))) (i + 1) 6) (b 0) else L i9)) := by rw [← hq]; exact hD
                          refine lv_aload_n hx hb dX2_lend_181 rfl (lv_at hl 3 rfl) ?_
                          refine lv_iload hx hb dX2_lend_182 (lv_at hl 0 rfl) ?_
                          refine lv_iconst (v := 1) hx hb dX2_lend_184 (by decide) ?_
                          refine lv_iadd hx hb dX2_lend_185 ?_
                          refine lv_topE (z := nI (n + 1)) (nI_1 n) ?_
                          refine bkS (b := b) (x := nI (n + 1)) hx hb hts hin2 hown hK hP hD hS 6 (by decide) (hts (.fieldLink RX2 32 "FundBook" "loanCount" "I") (by decide +kernel)) dX2_lend_186 (fun H locs hP hD hS => ?_)
                          refine lv_iload hx hb dX2_lend_189 (lv_at hl 0 rfl) ?_
                          refine vx_ret ?_
                          exact W.iret (v := nI n) hx hb hr (fun t ht hW => ⟨⟨u012 q0 q1 q2, rfl, ev, by rw [ht, cnI (by omega)]; exact hP, by rw [cnI (by omega)]; exact hD⟩, hS.F ht⟩) hS.2.2 dX2_lend_191
                      · have ev : (xLend n br pr am rt mo) = 3 := by unfold xLend; exact (if_neg c_1).trans ((if_neg c_6).trans ((if_neg c_10).trans ((if_neg (Int32.not_le.mpr c_15)).trans ((if_neg c_30).trans ((if_neg (Int32.not_lt.mpr c_36)).trans ((if_neg c_51).trans ((if_neg (Int32.not_lt.mpr c_59)).trans ((if_neg c_75).trans ((if_neg (Int32.not_lt.mpr c_82)).trans ((if_pos (Int32.not_lt.mp c_101))))))))))))
                        obtain ⟨sa, hsa⟩ := hK.2.2.2.1 (86, "there are 24 loans") (by decide +kernel)
                        exact vx_throwS (names := ["java/lang/RuntimeException", "java/lang/Exception"]) (cls := "java/lang/IllegalStateException") (text := "there are 24 loans") hx hb hlt hown (by decide +kernel) (by decide +kernel) (hts (.classLink RX2 84 "java/lang/IllegalStateException") (by decide +kernel)) (hts (.initialized "java/lang/IllegalStateException") (by decide +kernel)) hsa (vx_hat (B := .castable "java/lang/IllegalStateException" "java/lang/IllegalStateException" :: twD.map Cond.declares) (fun w hw => hts w (List.mem_cons_of_mem _ (List.mem_append_right _ hw))) (by decide +kernel) (hK.2.thrB (by decide +kernel))) (by decide +kernel) hZ.1 hZ.2 hS (by rw [hml]; exact hl.1) dX2_lend_104 dX2_lend_107 dX2_lend_108 dX2_lend_110 dX2_lend_113 (fun x hx => (hout x hx).elim) (Nat.le_of_ble_eq_true rfl) (Nat.le_of_ble_eq_true rfl) (Nat.le_of_ble_eq_true rfl) (Nat.le_of_ble_eq_true rfl) hlocks (fun t _ h1 h2 => ⟨(), trivial, ⟨⟨by rw [ev]; rfl, by rw [ev]; decide⟩, hP.kept (fun k q hk => h2 q.1 (hP k q hk).lt), hD⟩, ⟨h1, fun q hq _ => h2 q hq⟩⟩) t_nil (Nat.le_of_ble_eq_true rfl) (Nat.le_of_ble_eq_true rfl)
                    · have ev : (xLend n br pr am rt mo) = 2 := by unfold xLend; exact (if_neg c_1).trans ((if_neg c_6).trans ((if_neg c_10).trans ((if_neg (Int32.not_le.mpr c_15)).trans ((if_neg c_30).trans ((if_neg (Int32.not_lt.mpr c_36)).trans ((if_neg c_51).trans ((if_neg (Int32.not_lt.mpr c_59)).trans ((if_neg c_75).trans ((if_pos (Int32.not_le.mp c_82)))))))))))
                      obtain ⟨sa, hsa⟩ := hK.2.2.2.1 (82, "months out of range") (by decide +kernel)
                      exact vx_throwS (names := ["java/lang/RuntimeException", "java/lang/Exception"]) (cls := "java/lang/IllegalArgumentException") (text := "months out of range") hx hb hlt hown (by decide +kernel) (by decide +kernel) (hts (.classLink RX2 66 "java/lang/IllegalArgumentException") (by decide +kernel)) (hts (.initialized "java/lang/IllegalArgumentException") (by decide +kernel)) hsa (vx_hat (B := .castable "java/lang/IllegalArgumentException" "java/lang/IllegalArgumentException" :: twD.map Cond.declares) (fun w hw => hts w (List.mem_cons_of_mem _ (List.mem_append_left _ (List.mem_append_right _ hw)))) (by decide +kernel) (hK.2.thrB (by decide +kernel))) (by decide +kernel) hZ.1 hZ.2 hS (by rw [hml]; exact hl.1) dX2_lend_85 dX2_lend_88 dX2_lend_89 dX2_lend_91 dX2_lend_94 (fun x hx => (hout x hx).elim) (Nat.le_of_ble_eq_true rfl) (Nat.le_of_ble_eq_true rfl) (Nat.le_of_ble_eq_true rfl) (Nat.le_of_ble_eq_true rfl) hlocks (fun t _ h1 h2 => ⟨(), trivial, ⟨⟨by rw [ev]; rfl, by rw [ev]; decide⟩, hP.kept (fun k q hk => h2 q.1 (hP k q hk).lt), hD⟩, ⟨h1, fun q hq _ => h2 q hq⟩⟩) t_nil (Nat.le_of_ble_eq_true rfl) (Nat.le_of_ble_eq_true rfl)
                · have ev : (xLend n br pr am rt mo) = 2 := by unfold xLend; exact (if_neg c_1).trans ((if_neg c_6).trans ((if_neg c_10).trans ((if_neg (Int32.not_le.mpr c_15)).trans ((if_neg c_30).trans ((if_neg (Int32.not_lt.mpr c_36)).trans ((if_neg c_51).trans ((if_pos (Int32.not_le.mp c_59)))))))))
                  obtain ⟨sa, hsa⟩ := hK.2.2.2.1 (68, "rate out of range") (by decide +kernel)
                  exact vx_throwS (names := ["java/lang/RuntimeException", "java/lang/Exception"]) (cls := "java/lang/IllegalArgumentException") (text := "rate out of range") hx hb hlt hown (by decide +kernel) (by decide +kernel) (hts (.classLink RX2 66 "java/lang/IllegalArgumentException") (by decide +kernel)) (hts (.initialized "java/lang/IllegalArgumentException") (by decide +kernel)) hsa (vx_hat (B := .castable "java/lang/IllegalArgumentException" "java/lang/IllegalArgumentException" :: twD.map Cond.declares) (fun w hw => hts w (List.mem_cons_of_mem _ (List.mem_append_left _ (List.mem_append_right _ hw)))) (by decide +kernel) (hK.2.thrB (by decide +kernel))) (by decide +kernel) hZ.1 hZ.2 hS (by rw [hml]; exact hl.1) dX2_lend_62 dX2_lend_65 dX2_lend_66 dX2_lend_68 dX2_lend_71 (fun x hx => (hout x hx).elim) (Nat.le_of_ble_eq_true rfl) (Nat.le_of_ble_eq_true rfl) (Nat.le_of_ble_eq_true rfl) (Nat.le_of_ble_eq_true rfl) hlocks (fun t _ h1 h2 => ⟨(), trivial, ⟨⟨by rw [ev]; rfl, by rw [ev]; decide⟩, hP.kept (fun k q hk => h2 q.1 (hP k q hk).lt), hD⟩, ⟨h1, fun q hq _ => h2 q hq⟩⟩) t_nil (Nat.le_of_ble_eq_true rfl) (Nat.le_of_ble_eq_true rfl)
            · have ev : (xLend n br pr am rt mo) = 2 := by unfold xLend; exact (if_neg c_1).trans ((if_neg c_6).trans ((if_neg c_10).trans ((if_neg (Int32.not_le.mpr c_15)).trans ((if_neg c_30).trans ((if_pos (Int32.not_le.mp c_36)))))))
              obtain ⟨sa, hsa⟩ := hK.2.2.2.1 (80, "amount out of range") (by decide +kernel)
              exact vx_throwS (names := ["java/lang/RuntimeException", "java/lang/Exception"]) (cls := "java/lang/IllegalArgumentException") (text := "amount out of range") hx hb hlt hown (by decide +kernel) (by decide +kernel) (hts (.classLink RX2 66 "java/lang/IllegalArgumentException") (by decide +kernel)) (hts (.initialized "java/lang/IllegalArgumentException") (by decide +kernel)) hsa (vx_hat (B := .castable "java/lang/IllegalArgumentException" "java/lang/IllegalArgumentException" :: twD.map Cond.declares) (fun w hw => hts w (List.mem_cons_of_mem _ (List.mem_append_left _ (List.mem_append_right _ hw)))) (by decide +kernel) (hK.2.thrB (by decide +kernel))) (by decide +kernel) hZ.1 hZ.2 hS (by rw [hml]; exact hl.1) dX2_lend_39 dX2_lend_42 dX2_lend_43 dX2_lend_45 dX2_lend_48 (fun x hx => (hout x hx).elim) (Nat.le_of_ble_eq_true rfl) (Nat.le_of_ble_eq_true rfl) (Nat.le_of_ble_eq_true rfl) (Nat.le_of_ble_eq_true rfl) hlocks (fun t _ h1 h2 => ⟨(), trivial, ⟨⟨by rw [ev]; rfl, by rw [ev]; decide⟩, hP.kept (fun k q hk => h2 q.1 (hP k q hk).lt), hD⟩, ⟨h1, fun q hq _ => h2 q hq⟩⟩) t_nil (Nat.le_of_ble_eq_true rfl) (Nat.le_of_ble_eq_true rfl)
        · have ev : (xLend n br pr am rt mo) = 1 := by unfold xLend; exact (if_neg c_1).trans ((if_neg c_6).trans ((if_neg c_10).trans ((if_pos (Int32.not_lt.mp c_15)))))
          obtain ⟨sa, hsa⟩ := hK.2.2.2.1 (77, "no such branch or product") (by decide +kernel)
          exact vx_throwS (names := ["java/lang/RuntimeException", "java/lang/Exception"]) (cls := "java/lang/IndexOutOfBoundsException") (text := "no such branch or product") hx hb hlt hown (by decide +kernel) (by decide +kernel) (hts (.classLink RX2 59 "java/lang/IndexOutOfBoundsException") (by decide +kernel)) (hts (.initialized "java/lang/IndexOutOfBoundsException") (by decide +kernel)) hsa (vx_hat (B := .castable "java/lang/IndexOutOfBoundsException" "java/lang/IndexOutOfBoundsException" :: twD.map Cond.declares) (fun w hw => hts w (List.mem_cons_of_mem _ (List.mem_append_left _ (List.mem_append_left _ (List.mem_append_right _ hw))))) (by decide +kernel) (hK.2.thrB (by decide +kernel))) (by decide +kernel) hZ.1 hZ.2 hS (by rw [hml]; exact hl.1) dX2_lend_18 dX2_lend_21 dX2_lend_22 dX2_lend_24 dX2_lend_27 (fun x hx => (hout x hx).elim) (Nat.le_of_ble_eq_true rfl) (Nat.le_of_ble_eq_true rfl) (Nat.le_of_ble_eq_true rfl) (Nat.le_of_ble_eq_true rfl) hlocks (fun t _ h1 h2 => ⟨(), trivial, ⟨⟨by rw [ev]; rfl, by rw [ev]; decide⟩, hP.kept (fun k q hk => h2 q.1 (hP k q hk).lt), hD⟩, ⟨h1, fun q hq _ => h2 q hq⟩⟩) t_nil (Nat.le_of_ble_eq_true rfl) (Nat.le_of_ble_eq_true rfl)
