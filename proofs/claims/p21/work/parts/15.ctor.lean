/-! ===== the constructors (printed by a program of mine) ===== -/
theorem freeR {A : Nat → Prop} {wr wc : va_W} {H0 H : Heap} {locs : List Loc} (hD : va_D A (wr ++ wc)) (hS : va_S A H0 H locs) (hA : ∀ q, H0.size ≤ q → A q) : ∀ q, va_A wc H.size q → A q := by
  intro q h
  rcases h with ⟨k, e, h⟩ | h
  · exact hD.2 (wr.length + k) (q, e) (by rw [List.getElem?_append_right (Nat.le_add_right _ _), Nat.add_sub_cancel_left]; exact h)
  · exact hA q (Nat.le_trans hS.1 h)
def b00 : MS := u2 (fun _ _ => 0) 13 3 50
/-- a start that knows the arrays over loans and over rows, too -/
def oP (G : va_G) (y : Nat → ClassId) (av : List Value) (ws : va_W) (sz : Nat) : Array Value → State → Prop := va_Pc av (fun U => (U.heap.size = sz ∧ va_P G vwCl ws U.heap ∧ Kb G y U ∧ va_D (fun _ => True) ws) ∧ va_AO RX0 U ∧ va_AOA .int U)
set_option maxHeartbeats 4000000 in
set_option maxRecDepth 100000 in
theorem c_X1_init (l : Launch) (G : va_G) (y : Nat → ClassId) (h0 sz : Nat)  : Met l yX1_init wsX1_init ({ frames := 1, cells := 2, slots := 12, locals := 12 }) (mP G y [.ref h0] [(h0, .inr (1, [.null, .null]))] sz) (mQ G (fun _ : Nat × Nat => none) (fun _ => True) (fun u => [(h0, .inr (1, [.ref u.1, .ref u.2])), (u.1, .inl (y 0, 6, .inl (fun _ => 0))), (u.2, .inl (y 0, 6, .inl (fun _ => 0)))]) (va_A [(h0, .inr (1, [.null, .null]))] sz)) 2 12 (va_A [(h0, .inr (1, [.null, .null]))] sz) := by
  refine Met.ofW (cc := cX1_init) (maxL := 1) (ret := none) (by decide) rfl ?_
  intro p e s m args below meth c s₁ B hml hv
  obtain ⟨rfl, hsz, hP, hK, hD0⟩ := hv
  have hx := B.exec
  have hb := B.bytes
  have hr := B.returns
  have hts := atoms_spec (ws := wsX1_init) B.pre
  have hown : s.vm.findClass RX1 = some m.cls := findClass_of_methodNamed B.named
  have hlocks := B.notSynchronized
  subst hsz
  have hD := hD0.self (sz := s.heap.size)
  generalize hAe : va_A ([(h0, .inr (1, [.null, .null]))]) s.heap.size = A at hD ⊢
  have hA : ∀ q : Nat, s.heap.size ≤ q → A q := fun q h => by rw [← hAe]; exact Or.inr h
  have hS : va_S A s.heap s.heap [] := va_S.rf
  have hP : va_P G vwCl ([(h0, .inr (1, [.null, .null]))]) s.heap := hP
  have hl := lv_entry ([.ref h0]) (n := 1) (Nat.le_of_ble_eq_true rfl)
  rw [lg_entry_eq]
  generalize (lg_sl ([.ref h0]) ++ List.replicate (1 - (lg_sl ([.ref h0])).length) Slot.unset).toArray = ls at hl ⊢
  have hin1 : ∀ w ∈ wsX10, w ∈ wsX1_init := by decide +kernel
  have hl : lv_has ls 1 [(0, .ref h0)] := hl
  have hin : meth.name = "<init>" := (name_of_methodNamed B.named B.method).1
  refine lv_aload_n hx hb dX1_init_0 rfl (lv_at hl 0 rfl) ?_
  refine W.objInit hx hb hown (hts (.methodLink RX1 3 objectInit) (by decide +kernel)) (hts (.instanceMethod objectInit) (by decide +kernel)) (hts (.code objectInit ⟨#[0xb1]⟩ 1 none) (by decide +kernel)) rfl (by rw [hml]; exact hl.1) rfl dX1_init_1 (Nat.le_of_ble_eq_true rfl) (Nat.le_of_ble_eq_true rfl) ?_
  refine W.eq (g2 := F0 m 4 ls []) rfl ?_
  refine lv_aload_n hx hb dX1_init_4 rfl (lv_at hl 0 rfl) ?_
  refine lv_bipush (v := 6) hx hb dX1_init_5 (by decide) ?_
  refine nwI (N := 6) hx hb (hts (.arrayClass .int) (by decide +kernel)) hK hP hD hS hA rfl (by decide) (Nat.le_of_ble_eq_true rfl) (Nat.le_of_ble_eq_true rfl) dX1_init_7 (fun q1 H hP hD hS => ?_)
  have hP : va_P G vwCl [(h0, .inr (1, [.null, .null])), (q1, .inl (y 0, 6, .inl (fun _ => 0)))] H := hP
  have hD : va_D A [(h0, .inr (1, [.null, .null])), (q1, .inl (y 0, 6, .inl (fun _ => 0)))] := hD
  refine W.widen (k := 1) (n := 6) (Nat.le_of_ble_eq_true rfl) (Nat.le_of_ble_eq_true rfl) ?_
  refine va_putF (D := G) (ci := 1) (v := .ref q1) (ty := (tyX1 0)) (C := RX1) (T := TX1) (N := 2) hx hb hts hin1 tyX1 tyX1_ok nmX1 hown hK.1 hP hD hS 0 rfl rfl 0 (by decide) (hts (.fieldLink RX1 9 "FundBook$Replica" "amounts" "[I") (by decide +kernel)) (fun _ h9 => h9) rfl hin rfl (by decide +kernel) rfl rfl (Nat.le_of_ble_eq_true rfl) dX1_init_9 (fun H locs hP hD hS => ?_)
  have hP : va_P G vwCl [(h0, .inr (1, [.ref q1, .null])), (q1, .inl (y 0, 6, .inl (fun _ => 0)))] H := hP
  have hD : va_D A [(h0, .inr (1, [.ref q1, .null])), (q1, .inl (y 0, 6, .inl (fun _ => 0)))] := hD
  refine lv_aload_n hx hb dX1_init_12 rfl (lv_at hl 0 rfl) ?_
  refine lv_bipush (v := 6) hx hb dX1_init_13 (by decide) ?_
  refine nwI (N := 6) hx hb (hts (.arrayClass .int) (by decide +kernel)) hK hP hD hS hA rfl (by decide) (Nat.le_of_ble_eq_true rfl) (Nat.le_of_ble_eq_true rfl) dX1_init_15 (fun q2 H hP hD hS => ?_)
  have hP : va_P G vwCl [(h0, .inr (1, [.ref q1, .null])), (q1, .inl (y 0, 6, .inl (fun _ => 0))), (q2, .inl (y 0, 6, .inl (fun _ => 0)))] H := hP
  have hD : va_D A [(h0, .inr (1, [.ref q1, .null])), (q1, .inl (y 0, 6, .inl (fun _ => 0))), (q2, .inl (y 0, 6, .inl (fun _ => 0)))] := hD
  refine W.widen (k := 2) (n := 12) (Nat.le_of_ble_eq_true rfl) (Nat.le_of_ble_eq_true rfl) ?_
  refine va_putF (D := G) (ci := 1) (v := .ref q2) (ty := (tyX1 1)) (C := RX1) (T := TX1) (N := 2) hx hb hts hin1 tyX1 tyX1_ok nmX1 hown hK.1 hP hD hS 0 rfl rfl 1 (by decide) (hts (.fieldLink RX1 15 "FundBook$Replica" "rates" "[I") (by decide +kernel)) (fun _ h9 => h9) rfl hin rfl (by decide +kernel) rfl rfl (Nat.le_of_ble_eq_true rfl) dX1_init_17 (fun H locs hP hD hS => ?_)
  have hP : va_P G vwCl [(h0, .inr (1, [.ref q1, .ref q2])), (q1, .inl (y 0, 6, .inl (fun _ => 0))), (q2, .inl (y 0, 6, .inl (fun _ => 0)))] H := hP
  have hD : va_D A [(h0, .inr (1, [.ref q1, .ref q2])), (q1, .inl (y 0, 6, .inl (fun _ => 0))), (q2, .inl (y 0, 6, .inl (fun _ => 0)))] := hD
  exact W.vret hx hb hr (fun t ht hW => ⟨⟨(q1, q2), rfl, trivial, by rw [ht]; exact hP, hD⟩, hS.F ht⟩) hS.2.2 dX1_init_20
set_option maxHeartbeats 4000000 in
set_option maxRecDepth 100000 in
theorem c_X2_init (l : Launch) (G : va_G) (y : Nat → ClassId) (h0 sz : Nat) (la : Nat → Nat → Nat) (L : LNS) : Met l yX2_init wsX2_init ({ frames := 2, cells := 16, slots := 429, locals := 32 }) (oP G y [.ref h0] [(h0, .inr (2, [.null, .int 0, .int 0, .int 0, .int 0, .null, .int 0, .null, .null, .null, .null, .null, .null]))] sz) (mQ G (fun _ : Nat → Nat => none) (fun a => a 13 = h0) (fun a => bkW y a b00 0 la L) (va_A [(h0, .inr (2, [.null, .int 0, .int 0, .int 0, .int 0, .null, .int 0, .null, .null, .null, .null, .null, .null]))] sz)) 16 429 (va_A [(h0, .inr (2, [.null, .int 0, .int 0, .int 0, .int 0, .null, .int 0, .null, .null, .null, .null, .null, .null]))] sz) := by
  refine Met.ofW (cc := cX2_init) (maxL := 1) (ret := none) (by decide) rfl ?_
  intro p e s m args below meth c s₁ B hml hv
  obtain ⟨rfl, ⟨hsz, hP, hK, hD0⟩, hOa, hOb⟩ := hv
  have hx := B.exec
  have hb := B.bytes
  have hr := B.returns
  have hts := atoms_spec (ws := wsX2_init) B.pre
  have hown : s.vm.findClass RX2 = some m.cls := findClass_of_methodNamed B.named
  have hlocks := B.notSynchronized
  subst hsz
  have hD := hD0.self (sz := s.heap.size)
  generalize hAe : va_A ([(h0, .inr (2, [.null, .int 0, .int 0, .int 0, .int 0, .null, .int 0, .null, .null, .null, .null, .null, .null]))]) s.heap.size = A at hD ⊢
  have hA : ∀ q : Nat, s.heap.size ≤ q → A q := fun q h => by rw [← hAe]; exact Or.inr h
  have hS : va_S A s.heap s.heap [] := va_S.rf
  have hP : va_P G vwCl ([(h0, .inr (2, [.null, .int 0, .int 0, .int 0, .int 0, .null, .int 0, .null, .null, .null, .null, .null, .null]))]) s.heap := hP
  have hl := lv_entry ([.ref h0]) (n := 1) (Nat.le_of_ble_eq_true rfl)
  rw [lg_entry_eq]
  generalize (lg_sl ([.ref h0]) ++ List.replicate (1 - (lg_sl ([.ref h0])).length) Slot.unset).toArray = ls at hl ⊢
  have hin1 : ∀ w ∈ wsX10, w ∈ wsX2_init := by decide +kernel
  have hin2 : ∀ w ∈ wsX20, w ∈ wsX2_init := by decide +kernel
  have hl : lv_has ls 1 [(0, .ref h0)] := hl
  have hin : meth.name = "<init>" := (name_of_methodNamed B.named B.method).1
  refine lv_aload_n hx hb dX2_init_0 rfl (lv_at hl 0 rfl) ?_
  refine W.objInit hx hb hown (hts (.methodLink RX2 1 objectInit) (by decide +kernel)) (hts (.instanceMethod objectInit) (by decide +kernel)) (hts (.code objectInit ⟨#[0xb1]⟩ 1 none) (by decide +kernel)) rfl (by rw [hml]; exact hl.1) rfl dX2_init_1 (Nat.le_of_ble_eq_true rfl) (Nat.le_of_ble_eq_true rfl) ?_
  refine W.eq (g2 := F0 m 4 ls []) rfl ?_
  refine lv_aload_n hx hb dX2_init_4 rfl (lv_at hl 0 rfl) ?_
  refine lv_bipush (v := 6) hx hb dX2_init_5 (by decide) ?_
  refine nwI (N := 6) hx hb (hts (.arrayClass .int) (by decide +kernel)) hK hP hD hS hA rfl (by decide) (Nat.le_of_ble_eq_true rfl) (Nat.le_of_ble_eq_true rfl) dX2_init_7 (fun q1 H hP hD hS => ?_)
  have hP : va_P G vwCl [(h0, .inr (2, [.null, .int 0, .int 0, .int 0, .int 0, .null, .int 0, .null, .null, .null, .null, .null, .null])), (q1, .inl (y 0, 6, .inl (fun _ => 0)))] H := hP
  have hD : va_D A [(h0, .inr (2, [.null, .int 0, .int 0, .int 0, .int 0, .null, .int 0, .null, .null, .null, .null, .null, .null])), (q1, .inl (y 0, 6, .inl (fun _ => 0)))] := hD
  refine W.widen (k := 1) (n := 6) (Nat.le_of_ble_eq_true rfl) (Nat.le_of_ble_eq_true rfl) ?_
  refine va_putF (D := G) (ci := 2) (v := .ref q1) (ty := (tyX2 0)) (C := RX2) (T := TX2) (N := 13) hx hb hts hin2 tyX2 tyX2_ok nmX2 hown hK.1 hP hD hS 0 rfl rfl 0 (by decide) (hts (.fieldLink RX2 9 "FundBook" "curve" "[I") (by decide +kernel)) (fun _ h9 => h9) rfl hin rfl (by decide +kernel) rfl rfl (Nat.le_of_ble_eq_true rfl) dX2_init_9 (fun H locs hP hD hS => ?_)
  have hP : va_P G vwCl [(h0, .inr (2, [.ref q1, .int 0, .int 0, .int 0, .int 0, .null, .int 0, .null, .null, .null, .null, .null, .null])), (q1, .inl (y 0, 6, .inl (fun _ => 0)))] H := hP
  have hD : va_D A [(h0, .inr (2, [.ref q1, .int 0, .int 0, .int 0, .int 0, .null, .int 0, .null, .null, .null, .null, .null, .null])), (q1, .inl (y 0, 6, .inl (fun _ => 0)))] := hD
  refine lv_aload_n hx hb dX2_init_12 rfl (lv_at hl 0 rfl) ?_
  refine lv_iconst (v := 0) hx hb dX2_init_13 (by decide) ?_
  refine va_put (D := G) (ci := 2) (v := .int 0) (ty := (tyX2 1)) (C := RX2) (T := TX2) (N := 13) hx hb hts hin2 tyX2 tyX2_ok nmX2 hown hK.1 hP hD hS 0 rfl rfl 1 (by decide) (hts (.fieldLink RX2 13 "FundBook" "depositRate" "I") (by decide +kernel)) (fun _ h9 => h9) rfl (by decide +kernel) rfl rfl (Nat.le_of_ble_eq_true rfl) dX2_init_14 (fun H locs hP hD hS => ?_)
  have hP : va_P G vwCl [(h0, .inr (2, [.ref q1, .int 0, .int 0, .int 0, .int 0, .null, .int 0, .null, .null, .null, .null, .null, .null])), (q1, .inl (y 0, 6, .inl (fun _ => 0)))] H := hP
  have hD : va_D A [(h0, .inr (2, [.ref q1, .int 0, .int 0, .int 0, .int 0, .null, .int 0, .null, .null, .null, .null, .null, .null])), (q1, .inl (y 0, 6, .inl (fun _ => 0)))] := hD
  refine lv_aload_n hx hb dX2_init_17 rfl (lv_at hl 0 rfl) ?_
  refine lv_iconst (v := 0) hx hb dX2_init_18 (by decide) ?_
  refine va_put (D := G) (ci := 2) (v := .int 0) (ty := (tyX2 2)) (C := RX2) (T := TX2) (N := 13) hx hb hts hin2 tyX2 tyX2_ok nmX2 hown hK.1 hP hD hS 0 rfl rfl 2 (by decide) (hts (.fieldLink RX2 17 "FundBook" "optionRate" "I") (by decide +kernel)) (fun _ h9 => h9) rfl (by decide +kernel) rfl rfl (Nat.le_of_ble_eq_true rfl) dX2_init_19 (fun H locs hP hD hS => ?_)
  have hP : va_P G vwCl [(h0, .inr (2, [.ref q1, .int 0, .int 0, .int 0, .int 0, .null, .int 0, .null, .null, .null, .null, .null, .null])), (q1, .inl (y 0, 6, .inl (fun _ => 0)))] H := hP
  have hD : va_D A [(h0, .inr (2, [.ref q1, .int 0, .int 0, .int 0, .int 0, .null, .int 0, .null, .null, .null, .null, .null, .null])), (q1, .inl (y 0, 6, .inl (fun _ => 0)))] := hD
  refine lv_aload_n hx hb dX2_init_22 rfl (lv_at hl 0 rfl) ?_
  refine lv_bipush (v := 50) hx hb dX2_init_23 (by decide) ?_
  refine va_put (D := G) (ci := 2) (v := .int 50) (ty := (tyX2 3)) (C := RX2) (T := TX2) (N := 13) hx hb hts hin2 tyX2 tyX2_ok nmX2 hown hK.1 hP hD hS 0 rfl rfl 3 (by decide) (hts (.fieldLink RX2 20 "FundBook" "coreShare" "I") (by decide +kernel)) (fun _ h9 => h9) rfl (by decide +kernel) rfl rfl (Nat.le_of_ble_eq_true rfl) dX2_init_25 (fun H locs hP hD hS => ?_)
  have hP : va_P G vwCl [(h0, .inr (2, [.ref q1, .int 0, .int 0, .int 50, .int 0, .null, .int 0, .null, .null, .null, .null, .null, .null])), (q1, .inl (y 0, 6, .inl (fun _ => 0)))] H := hP
  have hD : va_D A [(h0, .inr (2, [.ref q1, .int 0, .int 0, .int 50, .int 0, .null, .int 0, .null, .null, .null, .null, .null, .null])), (q1, .inl (y 0, 6, .inl (fun _ => 0)))] := hD
  refine lv_aload_n hx hb dX2_init_28 rfl (lv_at hl 0 rfl) ?_
  refine lv_iconst (v := 0) hx hb dX2_init_29 (by decide) ?_
  refine va_put (D := G) (ci := 2) (v := .int 0) (ty := (tyX2 4)) (C := RX2) (T := TX2) (N := 13) hx hb hts hin2 tyX2 tyX2_ok nmX2 hown hK.1 hP hD hS 0 rfl rfl 4 (by decide) (hts (.fieldLink RX2 23 "FundBook" "now" "I") (by decide +kernel)) (fun _ h9 => h9) rfl (by decide +kernel) rfl rfl (Nat.le_of_ble_eq_true rfl) dX2_init_30 (fun H locs hP hD hS => ?_)
  have hP : va_P G vwCl [(h0, .inr (2, [.ref q1, .int 0, .int 0, .int 50, .int 0, .null, .int 0, .null, .null, .null, .null, .null, .null])), (q1, .inl (y 0, 6, .inl (fun _ => 0)))] H := hP
  have hD : va_D A [(h0, .inr (2, [.ref q1, .int 0, .int 0, .int 50, .int 0, .null, .int 0, .null, .null, .null, .null, .null, .null])), (q1, .inl (y 0, 6, .inl (fun _ => 0)))] := hD
  refine lv_aload_n hx hb dX2_init_33 rfl (lv_at hl 0 rfl) ?_
  refine lv_bipush (v := 24) hx hb dX2_init_34 (by decide) ?_
  refine va_newq (C := RX0) (own := RX2) (N' := 24) hx hb hown (hts (.classLink RX2 26 RX0) (by decide +kernel)) hOa hK.1 hP hD hS hA (nI_pos (n := 24) (by decide)) (nI_clamp (n := 24) (by decide)) (by decide) (Nat.le_of_ble_eq_true rfl) (Nat.le_of_ble_eq_true rfl) dX2_init_36 (fun q2 cA H hk hP hD hS => ?_)
  obtain rfl : cA = y 2 := by
    obtain ⟨-, -, -, -, -, e1⟩ := last_ty hk
    obtain ⟨-, -, -, -, -, e2⟩ := (hK.1.2 2 (y 2, .object RX0) rfl).2
    exact Option.some.inj (e1.symm.trans e2)
  have hP : va_P G vwCl [(h0, .inr (2, [.ref q1, .int 0, .int 0, .int 50, .int 0, .null, .int 0, .null, .null, .null, .null, .null, .null])), (q1, .inl (y 0, 6, .inl (fun _ => 0))), (q2, .inl (y 2, 24, .inr (.inr (.inr (.inr (fun _ => none))))))] H := hP
  have hD : va_D A [(h0, .inr (2, [.ref q1, .int 0, .int 0, .int 50, .int 0, .null, .int 0, .null, .null, .null, .null, .null, .null])), (q1, .inl (y 0, 6, .inl (fun _ => 0))), (q2, .inl (y 2, 24, .inr (.inr (.inr (.inr (fun _ => none))))))] := hD
  refine W.widen (k := 2) (n := 30) (Nat.le_of_ble_eq_true rfl) (Nat.le_of_ble_eq_true rfl) ?_
  refine va_putF (D := G) (ci := 2) (v := .ref q2) (ty := (tyX2 5)) (C := RX2) (T := TX2) (N := 13) hx hb hts hin2 tyX2 tyX2_ok nmX2 hown hK.1 hP hD hS 0 rfl rfl 5 (by decide) (hts (.fieldLink RX2 28 "FundBook" "loanRows" "[LFundBook$Loan;") (by decide +kernel)) (fun _ h9 => h9) rfl hin rfl (by decide +kernel) rfl rfl (Nat.le_of_ble_eq_true rfl) dX2_init_39 (fun H locs hP hD hS => ?_)
  have hP : va_P G vwCl [(h0, .inr (2, [.ref q1, .int 0, .int 0, .int 50, .int 0, .ref q2, .int 0, .null, .null, .null, .null, .null, .null])), (q1, .inl (y 0, 6, .inl (fun _ => 0))), (q2, .inl (y 2, 24, .inr (.inr (.inr (.inr (fun _ => none))))))] H := hP
  have hD : va_D A [(h0, .inr (2, [.ref q1, .int 0, .int 0, .int 50, .int 0, .ref q2, .int 0, .null, .null, .null, .null, .null, .null])), (q1, .inl (y 0, 6, .inl (fun _ => 0))), (q2, .inl (y 2, 24, .inr (.inr (.inr (.inr (fun _ => none))))))] := hD
  refine lv_aload_n hx hb dX2_init_42 rfl (lv_at hl 0 rfl) ?_
  refine lv_iconst (v := 0) hx hb dX2_init_43 (by decide) ?_
  refine va_put (D := G) (ci := 2) (v := .int 0) (ty := (tyX2 6)) (C := RX2) (T := TX2) (N := 13) hx hb hts hin2 tyX2 tyX2_ok nmX2 hown hK.1 hP hD hS 0 rfl rfl 6 (by decide) (hts (.fieldLink RX2 32 "FundBook" "loanCount" "I") (by decide +kernel)) (fun _ h9 => h9) rfl (by decide +kernel) rfl rfl (Nat.le_of_ble_eq_true rfl) dX2_init_44 (fun H locs hP hD hS => ?_)
  have hP : va_P G vwCl [(h0, .inr (2, [.ref q1, .int 0, .int 0, .int 50, .int 0, .ref q2, .int 0, .null, .null, .null, .null, .null, .null])), (q1, .inl (y 0, 6, .inl (fun _ => 0))), (q2, .inl (y 2, 24, .inr (.inr (.inr (.inr (fun _ => none))))))] H := hP
  have hD : va_D A [(h0, .inr (2, [.ref q1, .int 0, .int 0, .int 50, .int 0, .ref q2, .int 0, .null, .null, .null, .null, .null, .null])), (q1, .inl (y 0, 6, .inl (fun _ => 0))), (q2, .inl (y 2, 24, .inr (.inr (.inr (.inr (fun _ => none))))))] := hD
  refine lv_aload_n hx hb dX2_init_47 rfl (lv_at hl 0 rfl) ?_
  refine lv_iconst (v := 3) hx hb dX2_init_48 (by decide) ?_
  refine nwI (N := 3) hx hb (hts (.arrayClass .int) (by decide +kernel)) hK hP hD hS hA rfl (by decide) (Nat.le_of_ble_eq_true rfl) (Nat.le_of_ble_eq_true rfl) dX2_init_49 (fun q3 H hP hD hS => ?_)
  have hP : va_P G vwCl [(h0, .inr (2, [.ref q1, .int 0, .int 0, .int 50, .int 0, .ref q2, .int 0, .null, .null, .null, .null, .null, .null])), (q1, .inl (y 0, 6, .inl (fun _ => 0))), (q2, .inl (y 2, 24, .inr (.inr (.inr (.inr (fun _ => none)))))), (q3, .inl (y 0, 3, .inl (fun _ => 0)))] H := hP
  have hD : va_D A [(h0, .inr (2, [.ref q1, .int 0, .int 0, .int 50, .int 0, .ref q2, .int 0, .null, .null, .null, .null, .null, .null])), (q1, .inl (y 0, 6, .inl (fun _ => 0))), (q2, .inl (y 2, 24, .inr (.inr (.inr (.inr (fun _ => none)))))), (q3, .inl (y 0, 3, .inl (fun _ => 0)))] := hD
  refine W.widen (k := 3) (n := 33) (Nat.le_of_ble_eq_true rfl) (Nat.le_of_ble_eq_true rfl) ?_
  refine va_putF (D := G) (ci := 2) (v := .ref q3) (ty := (tyX2 7)) (C := RX2) (T := TX2) (N := 13) hx hb hts hin2 tyX2 tyX2_ok nmX2 hown hK.1 hP hD hS 0 rfl rfl 7 (by decide) (hts (.fieldLink RX2 35 "FundBook" "balances" "[I") (by decide +kernel)) (fun _ h9 => h9) rfl hin rfl (by decide +kernel) rfl rfl (Nat.le_of_ble_eq_true rfl) dX2_init_51 (fun H locs hP hD hS => ?_)
  have hP : va_P G vwCl [(h0, .inr (2, [.ref q1, .int 0, .int 0, .int 50, .int 0, .ref q2, .int 0, .ref q3, .null, .null, .null, .null, .null])), (q1, .inl (y 0, 6, .inl (fun _ => 0))), (q2, .inl (y 2, 24, .inr (.inr (.inr (.inr (fun _ => none)))))), (q3, .inl (y 0, 3, .inl (fun _ => 0)))] H := hP
  have hD : va_D A [(h0, .inr (2, [.ref q1, .int 0, .int 0, .int 50, .int 0, .ref q2, .int 0, .ref q3, .null, .null, .null, .null, .null])), (q1, .inl (y 0, 6, .inl (fun _ => 0))), (q2, .inl (y 2, 24, .inr (.inr (.inr (.inr (fun _ => none)))))), (q3, .inl (y 0, 3, .inl (fun _ => 0)))] := hD
  refine lv_aload_n hx hb dX2_init_54 rfl (lv_at hl 0 rfl) ?_
  refine va_new (ci := 1) (fs := [.null, .null]) (C := RX1) (T := TX1) (N := 2) hx hb hts hin1 tyX1 tyX1_ok hown (hts (.classLink RX2 38 RX1) (by decide +kernel)) (hts (.instantiable RX1 2) (by decide +kernel)) (hts (.initialized RX1) (by decide +kernel)) hK.1 hP hD hS hA rfl (fun j hj => by rcases (show j = 0 ∨ j = 1 by omega) with rfl | rfl <;> rfl) (Nat.le_of_ble_eq_true rfl) (Nat.le_of_ble_eq_true rfl) dX2_init_55 (fun q4 H hP hD hS => ?_)
  have hPj : va_P G vwCl ([(h0, .inr (2, [.ref q1, .int 0, .int 0, .int 50, .int 0, .ref q2, .int 0, .ref q3, .null, .null, .null, .null, .null])), (q1, .inl (y 0, 6, .inl (fun _ => 0))), (q2, .inl (y 2, 24, .inr (.inr (.inr (.inr (fun _ => none)))))), (q3, .inl (y 0, 3, .inl (fun _ => 0)))] ++ [(q4, .inr (1, [.null, .null]))]) H := hP
  have hDj : va_D A ([(h0, .inr (2, [.ref q1, .int 0, .int 0, .int 50, .int 0, .ref q2, .int 0, .ref q3, .null, .null, .null, .null, .null])), (q1, .inl (y 0, 6, .inl (fun _ => 0))), (q2, .inl (y 2, 24, .inr (.inr (.inr (.inr (fun _ => none)))))), (q3, .inl (y 0, 3, .inl (fun _ => 0)))] ++ [(q4, .inr (1, [.null, .null]))]) := hD
  refine W.widen (k := 4) (n := 35) (Nat.le_of_ble_eq_true rfl) (Nat.le_of_ble_eq_true rfl) ?_
  refine lv_dup hx hb dX2_init_58 rfl ?_
  have hFc : ∀ q, va_A [(q4, .inr (1, [.null, .null]))] H.size q → A q := freeR hDj hS hA
  have hPc : va_P G vwCl [(q4, .inr (1, [.null, .null]))] H := hP.sub [4] rfl
  have hDc : va_D (fun _ => True) [(q4, .inr (1, [.null, .null]))] := (hD.weaken (fun _ _ _ _ => trivial)).sub [4] (by decide) rfl
  refine caN (va_runIN (host := "FundBook") (As := []) (rest := [.ref q4, .ref h0]) ⟨hx, hb, hml, hown, hts⟩ (c_X1_init l G y q4 H.size) ⟨va_cnB 0 hts gX2_init_X1_init_n40 rfl rfl rfl (hK.nw (by decide +kernel)) (hts (.initialized RX1) (by decide +kernel)) (by decide +kernel) ⟨Nat.le_of_ble_eq_true rfl, Nat.le_of_ble_eq_true rfl⟩, rfl, hts (.instanceMethod yX1_init) (by decide +kernel)⟩ ⟨mP_bl, fun U hU hW => ⟨rfl, by rw [hU], by rw [hU]; exact hPc, Kb.moved hW hK, hDc⟩⟩ rfl rfl hl.1 rfl (lv_room (Nat.le_of_ble_eq_true rfl)) dX2_init_59 ⟨Nat.le_of_ble_eq_true rfl, Nat.le_of_ble_eq_true rfl⟩) hS hFc hFc (fun u H locs _ hP1 hD1 hk1 hS => ?_)
  refine W.eq (g2 := F0 m 62 ls [.ref q4, .ref h0]) rfl ?_
  obtain ⟨q5, q6⟩ := u
  obtain ⟨hP, hD⟩ := joinW hPj hDj hk1 hP1 hD1 hFc
  have hP : va_P G vwCl [(h0, .inr (2, [.ref q1, .int 0, .int 0, .int 50, .int 0, .ref q2, .int 0, .ref q3, .null, .null, .null, .null, .null])), (q1, .inl (y 0, 6, .inl (fun _ => 0))), (q2, .inl (y 2, 24, .inr (.inr (.inr (.inr (fun _ => none)))))), (q3, .inl (y 0, 3, .inl (fun _ => 0))), (q4, .inr (1, [.ref q5, .ref q6])), (q5, .inl (y 0, 6, .inl (fun _ => 0))), (q6, .inl (y 0, 6, .inl (fun _ => 0)))] H := hP
  have hD : va_D A [(h0, .inr (2, [.ref q1, .int 0, .int 0, .int 50, .int 0, .ref q2, .int 0, .ref q3, .null, .null, .null, .null, .null])), (q1, .inl (y 0, 6, .inl (fun _ => 0))), (q2, .inl (y 2, 24, .inr (.inr (.inr (.inr (fun _ => none)))))), (q3, .inl (y 0, 3, .inl (fun _ => 0))), (q4, .inr (1, [.ref q5, .ref q6])), (q5, .inl (y 0, 6, .inl (fun _ => 0))), (q6, .inl (y 0, 6, .inl (fun _ => 0)))] := hD
  refine W.widen (k := 6) (n := 47) (Nat.le_of_ble_eq_true rfl) (Nat.le_of_ble_eq_true rfl) ?_
  refine va_putF (D := G) (ci := 2) (v := .ref q4) (ty := (tyX2 8)) (C := RX2) (T := TX2) (N := 13) hx hb hts hin2 tyX2 tyX2_ok nmX2 hown hK.1 hP hD hS 0 rfl rfl 8 (by decide) (hts (.fieldLink RX2 41 "FundBook" "replica" "LFundBook$Replica;") (by decide +kernel)) (fun _ h9 => h9) rfl hin rfl (by decide +kernel) rfl rfl (Nat.le_of_ble_eq_true rfl) dX2_init_62 (fun H locs hP hD hS => ?_)
  have hP : va_P G vwCl [(h0, .inr (2, [.ref q1, .int 0, .int 0, .int 50, .int 0, .ref q2, .int 0, .ref q3, .ref q4, .null, .null, .null, .null])), (q1, .inl (y 0, 6, .inl (fun _ => 0))), (q2, .inl (y 2, 24, .inr (.inr (.inr (.inr (fun _ => none)))))), (q3, .inl (y 0, 3, .inl (fun _ => 0))), (q4, .inr (1, [.ref q5, .ref q6])), (q5, .inl (y 0, 6, .inl (fun _ => 0))), (q6, .inl (y 0, 6, .inl (fun _ => 0)))] H := hP
  have hD : va_D A [(h0, .inr (2, [.ref q1, .int 0, .int 0, .int 50, .int 0, .ref q2, .int 0, .ref q3, .ref q4, .null, .null, .null, .null])), (q1, .inl (y 0, 6, .inl (fun _ => 0))), (q2, .inl (y 2, 24, .inr (.inr (.inr (.inr (fun _ => none)))))), (q3, .inl (y 0, 3, .inl (fun _ => 0))), (q4, .inr (1, [.ref q5, .ref q6])), (q5, .inl (y 0, 6, .inl (fun _ => 0))), (q6, .inl (y 0, 6, .inl (fun _ => 0)))] := hD
  refine lv_aload_n hx hb dX2_init_65 rfl (lv_at hl 0 rfl) ?_
  refine lv_iconst (v := 3) hx hb dX2_init_66 (by decide) ?_
  refine lv_bipush (v := 47) hx hb dX2_init_67 (by decide) ?_
  have hPx : va_P G vwCl ([(h0, .inr (2, [.ref q1, .int 0, .int 0, .int 50, .int 0, .ref q2, .int 0, .ref q3, .ref q4, .null, .null, .null, .null])), (q1, .inl (y 0, 6, .inl (fun _ => 0))), (q2, .inl (y 2, 24, .inr (.inr (.inr (.inr (fun _ => none)))))), (q3, .inl (y 0, 3, .inl (fun _ => 0))), (q4, .inr (1, [.ref q5, .ref q6])), (q5, .inl (y 0, 6, .inl (fun _ => 0))), (q6, .inl (y 0, 6, .inl (fun _ => 0)))] ++ va_pl [] (fun _ => .inr (0, []))) H := hP
  have hDx : va_D A ([(h0, .inr (2, [.ref q1, .int 0, .int 0, .int 50, .int 0, .ref q2, .int 0, .ref q3, .ref q4, .null, .null, .null, .null])), (q1, .inl (y 0, 6, .inl (fun _ => 0))), (q2, .inl (y 2, 24, .inr (.inr (.inr (.inr (fun _ => none)))))), (q3, .inl (y 0, 3, .inl (fun _ => 0))), (q4, .inr (1, [.ref q5, .ref q6])), (q5, .inl (y 0, 6, .inl (fun _ => 0))), (q6, .inl (y 0, 6, .inl (fun _ => 0)))] ++ va_pl [] (fun _ => .inr (0, []))) := hD
  refine va_mna (own := RX2) (ty := .int) (cy := y 0) (N' := 3) (K' := 47) (z := (47, .inl (fun _ => 0))) hx hb hown (hts (.classLink RX2 45 "[[I") (by decide +kernel)) hOb (hts (.arrayClass .int) (by decide +kernel)) (hK.1.2 0 _ rfl).2 hK.1 hPx hDx hS hA (nI_pos (n := 3) (by decide)) (nI_pos (n := 47) (by decide)) (nI_clamp (n := 3) (by decide)) (nI_clamp (n := 47) (by decide)) (by decide) (by decide) (by decide) rfl rfl (Nat.le_of_ble_eq_true rfl) (Nat.le_of_ble_eq_true rfl) (fun c9 => arrV_new c9 47 (.int 0)) dX2_init_69 (fun pr r cA H hinj hnl hk hP hD hS => ?_)
  obtain rfl : cA = y 3 := Option.some.inj ((last_ty hk).symm.trans (hK.1.2 3 (y 3, .array .int) rfl).2)
  rw [← vr_rows (L := []) (fun _ _ h => nomatch h)] at hP hD
  have hP : va_P G vwCl [(h0, .inr (2, [.ref q1, .int 0, .int 0, .int 50, .int 0, .ref q2, .int 0, .ref q3, .ref q4, .null, .null, .null, .null])), (q1, .inl (y 0, 6, .inl (fun _ => 0))), (q2, .inl (y 2, 24, .inr (.inr (.inr (.inr (fun _ => none)))))), (q3, .inl (y 0, 3, .inl (fun _ => 0))), (q4, .inr (1, [.ref q5, .ref q6])), (q5, .inl (y 0, 6, .inl (fun _ => 0))), (q6, .inl (y 0, 6, .inl (fun _ => 0))), (pr, .inl (y 3, 3, .inr (.inr (.inr (.inr (fun i => if i < 3 then some (r i) else none)))))), ((r 0), .inl (y 0, 47, .inl (fun _ => 0))), ((r 1), .inl (y 0, 47, .inl (fun _ => 0))), ((r 2), .inl (y 0, 47, .inl (fun _ => 0)))] H := hP
  have hD : va_D A [(h0, .inr (2, [.ref q1, .int 0, .int 0, .int 50, .int 0, .ref q2, .int 0, .ref q3, .ref q4, .null, .null, .null, .null])), (q1, .inl (y 0, 6, .inl (fun _ => 0))), (q2, .inl (y 2, 24, .inr (.inr (.inr (.inr (fun _ => none)))))), (q3, .inl (y 0, 3, .inl (fun _ => 0))), (q4, .inr (1, [.ref q5, .ref q6])), (q5, .inl (y 0, 6, .inl (fun _ => 0))), (q6, .inl (y 0, 6, .inl (fun _ => 0))), (pr, .inl (y 3, 3, .inr (.inr (.inr (.inr (fun i => if i < 3 then some (r i) else none)))))), ((r 0), .inl (y 0, 47, .inl (fun _ => 0))), ((r 1), .inl (y 0, 47, .inl (fun _ => 0))), ((r 2), .inl (y 0, 47, .inl (fun _ => 0)))] := hD
  refine W.widen (k := 10) (n := 191) (Nat.le_of_ble_eq_true rfl) (Nat.le_of_ble_eq_true rfl) ?_
  refine va_putF (D := G) (ci := 2) (v := .ref pr) (ty := (tyX2 9)) (C := RX2) (T := TX2) (N := 13) hx hb hts hin2 tyX2 tyX2_ok nmX2 hown hK.1 hP hD hS 0 rfl rfl 9 (by decide) (hts (.fieldLink RX2 47 "FundBook" "branchMargins" "[[I") (by decide +kernel)) (fun _ h9 => h9) rfl hin rfl (by decide +kernel) rfl rfl (Nat.le_of_ble_eq_true rfl) dX2_init_73 (fun H locs hP hD hS => ?_)
  have hP : va_P G vwCl [(h0, .inr (2, [.ref q1, .int 0, .int 0, .int 50, .int 0, .ref q2, .int 0, .ref q3, .ref q4, .ref pr, .null, .null, .null])), (q1, .inl (y 0, 6, .inl (fun _ => 0))), (q2, .inl (y 2, 24, .inr (.inr (.inr (.inr (fun _ => none)))))), (q3, .inl (y 0, 3, .inl (fun _ => 0))), (q4, .inr (1, [.ref q5, .ref q6])), (q5, .inl (y 0, 6, .inl (fun _ => 0))), (q6, .inl (y 0, 6, .inl (fun _ => 0))), (pr, .inl (y 3, 3, .inr (.inr (.inr (.inr (fun i => if i < 3 then some (r i) else none)))))), ((r 0), .inl (y 0, 47, .inl (fun _ => 0))), ((r 1), .inl (y 0, 47, .inl (fun _ => 0))), ((r 2), .inl (y 0, 47, .inl (fun _ => 0)))] H := hP
  have hD : va_D A [(h0, .inr (2, [.ref q1, .int 0, .int 0, .int 50, .int 0, .ref q2, .int 0, .ref q3, .ref q4, .ref pr, .null, .null, .null])), (q1, .inl (y 0, 6, .inl (fun _ => 0))), (q2, .inl (y 2, 24, .inr (.inr (.inr (.inr (fun _ => none)))))), (q3, .inl (y 0, 3, .inl (fun _ => 0))), (q4, .inr (1, [.ref q5, .ref q6])), (q5, .inl (y 0, 6, .inl (fun _ => 0))), (q6, .inl (y 0, 6, .inl (fun _ => 0))), (pr, .inl (y 3, 3, .inr (.inr (.inr (.inr (fun i => if i < 3 then some (r i) else none)))))), ((r 0), .inl (y 0, 47, .inl (fun _ => 0))), ((r 1), .inl (y 0, 47, .inl (fun _ => 0))), ((r 2), .inl (y 0, 47, .inl (fun _ => 0)))] := hD
  refine lv_aload_n hx hb dX2_init_76 rfl (lv_at hl 0 rfl) ?_
  refine lv_iconst (v := 3) hx hb dX2_init_77 (by decide) ?_
  refine lv_bipush (v := 47) hx hb dX2_init_78 (by decide) ?_
  have hPx : va_P G vwCl ([(h0, .inr (2, [.ref q1, .int 0, .int 0, .int 50, .int 0, .ref q2, .int 0, .ref q3, .ref q4, .ref pr, .null, .null, .null])), (q1, .inl (y 0, 6, .inl (fun _ => 0))), (q2, .inl (y 2, 24, .inr (.inr (.inr (.inr (fun _ => none)))))), (q3, .inl (y 0, 3, .inl (fun _ => 0))), (q4, .inr (1, [.ref q5, .ref q6])), (q5, .inl (y 0, 6, .inl (fun _ => 0))), (q6, .inl (y 0, 6, .inl (fun _ => 0))), (pr, .inl (y 3, 3, .inr (.inr (.inr (.inr (fun i => if i < 3 then some (r i) else none)))))), ((r 0), .inl (y 0, 47, .inl (fun _ => 0))), ((r 1), .inl (y 0, 47, .inl (fun _ => 0))), ((r 2), .inl (y 0, 47, .inl (fun _ => 0)))] ++ va_pl [] (fun _ => .inr (0, []))) H := hP
  have hDx : va_D A ([(h0, .inr (2, [.ref q1, .int 0, .int 0, .int 50, .int 0, .ref q2, .int 0, .ref q3, .ref q4, .ref pr, .null, .null, .null])), (q1, .inl (y 0, 6, .inl (fun _ => 0))), (q2, .inl (y 2, 24, .inr (.inr (.inr (.inr (fun _ => none)))))), (q3, .inl (y 0, 3, .inl (fun _ => 0))), (q4, .inr (1, [.ref q5, .ref q6])), (q5, .inl (y 0, 6, .inl (fun _ => 0))), (q6, .inl (y 0, 6, .inl (fun _ => 0))), (pr, .inl (y 3, 3, .inr (.inr (.inr (.inr (fun i => if i < 3 then some (r i) else none)))))), ((r 0), .inl (y 0, 47, .inl (fun _ => 0))), ((r 1), .inl (y 0, 47, .inl (fun _ => 0))), ((r 2), .inl (y 0, 47, .inl (fun _ => 0)))] ++ va_pl [] (fun _ => .inr (0, []))) := hD
  refine va_mna (own := RX2) (ty := .int) (cy := y 0) (N' := 3) (K' := 47) (z := (47, .inl (fun _ => 0))) hx hb hown (hts (.classLink RX2 45 "[[I") (by decide +kernel)) hOb (hts (.arrayClass .int) (by decide +kernel)) (hK.1.2 0 _ rfl).2 hK.1 hPx hDx hS hA (nI_pos (n := 3) (by decide)) (nI_pos (n := 47) (by decide)) (nI_clamp (n := 3) (by decide)) (nI_clamp (n := 47) (by decide)) (by decide) (by decide) (by decide) rfl rfl (Nat.le_of_ble_eq_true rfl) (Nat.le_of_ble_eq_true rfl) (fun c9 => arrV_new c9 47 (.int 0)) dX2_init_80 (fun pw w cA H hinj hnl hk hP hD hS => ?_)
  obtain rfl : cA = y 3 := Option.some.inj ((last_ty hk).symm.trans (hK.1.2 3 (y 3, .array .int) rfl).2)
  rw [← vr_rows (L := []) (fun _ _ h => nomatch h)] at hP hD
  have hP : va_P G vwCl [(h0, .inr (2, [.ref q1, .int 0, .int 0, .int 50, .int 0, .ref q2, .int 0, .ref q3, .ref q4, .ref pr, .null, .null, .null])), (q1, .inl (y 0, 6, .inl (fun _ => 0))), (q2, .inl (y 2, 24, .inr (.inr (.inr (.inr (fun _ => none)))))), (q3, .inl (y 0, 3, .inl (fun _ => 0))), (q4, .inr (1, [.ref q5, .ref q6])), (q5, .inl (y 0, 6, .inl (fun _ => 0))), (q6, .inl (y 0, 6, .inl (fun _ => 0))), (pr, .inl (y 3, 3, .inr (.inr (.inr (.inr (fun i => if i < 3 then some (r i) else none)))))), ((r 0), .inl (y 0, 47, .inl (fun _ => 0))), ((r 1), .inl (y 0, 47, .inl (fun _ => 0))), ((r 2), .inl (y 0, 47, .inl (fun _ => 0))), (pw, .inl (y 3, 3, .inr (.inr (.inr (.inr (fun i => if i < 3 then some (w i) else none)))))), ((w 0), .inl (y 0, 47, .inl (fun _ => 0))), ((w 1), .inl (y 0, 47, .inl (fun _ => 0))), ((w 2), .inl (y 0, 47, .inl (fun _ => 0)))] H := hP
  have hD : va_D A [(h0, .inr (2, [.ref q1, .int 0, .int 0, .int 50, .int 0, .ref q2, .int 0, .ref q3, .ref q4, .ref pr, .null, .null, .null])), (q1, .inl (y 0, 6, .inl (fun _ => 0))), (q2, .inl (y 2, 24, .inr (.inr (.inr (.inr (fun _ => none)))))), (q3, .inl (y 0, 3, .inl (fun _ => 0))), (q4, .inr (1, [.ref q5, .ref q6])), (q5, .inl (y 0, 6, .inl (fun _ => 0))), (q6, .inl (y 0, 6, .inl (fun _ => 0))), (pr, .inl (y 3, 3, .inr (.inr (.inr (.inr (fun i => if i < 3 then some (r i) else none)))))), ((r 0), .inl (y 0, 47, .inl (fun _ => 0))), ((r 1), .inl (y 0, 47, .inl (fun _ => 0))), ((r 2), .inl (y 0, 47, .inl (fun _ => 0))), (pw, .inl (y 3, 3, .inr (.inr (.inr (.inr (fun i => if i < 3 then some (w i) else none)))))), ((w 0), .inl (y 0, 47, .inl (fun _ => 0))), ((w 1), .inl (y 0, 47, .inl (fun _ => 0))), ((w 2), .inl (y 0, 47, .inl (fun _ => 0)))] := hD
  refine W.widen (k := 14) (n := 335) (Nat.le_of_ble_eq_true rfl) (Nat.le_of_ble_eq_true rfl) ?_
  refine va_putF (D := G) (ci := 2) (v := .ref pw) (ty := (tyX2 10)) (C := RX2) (T := TX2) (N := 13) hx hb hts hin2 tyX2 tyX2_ok nmX2 hown hK.1 hP hD hS 0 rfl rfl 10 (by decide) (hts (.fieldLink RX2 50 "FundBook" "productMargins" "[[I") (by decide +kernel)) (fun _ h9 => h9) rfl hin rfl (by decide +kernel) rfl rfl (Nat.le_of_ble_eq_true rfl) dX2_init_84 (fun H locs hP hD hS => ?_)
  have hP : va_P G vwCl [(h0, .inr (2, [.ref q1, .int 0, .int 0, .int 50, .int 0, .ref q2, .int 0, .ref q3, .ref q4, .ref pr, .ref pw, .null, .null])), (q1, .inl (y 0, 6, .inl (fun _ => 0))), (q2, .inl (y 2, 24, .inr (.inr (.inr (.inr (fun _ => none)))))), (q3, .inl (y 0, 3, .inl (fun _ => 0))), (q4, .inr (1, [.ref q5, .ref q6])), (q5, .inl (y 0, 6, .inl (fun _ => 0))), (q6, .inl (y 0, 6, .inl (fun _ => 0))), (pr, .inl (y 3, 3, .inr (.inr (.inr (.inr (fun i => if i < 3 then some (r i) else none)))))), ((r 0), .inl (y 0, 47, .inl (fun _ => 0))), ((r 1), .inl (y 0, 47, .inl (fun _ => 0))), ((r 2), .inl (y 0, 47, .inl (fun _ => 0))), (pw, .inl (y 3, 3, .inr (.inr (.inr (.inr (fun i => if i < 3 then some (w i) else none)))))), ((w 0), .inl (y 0, 47, .inl (fun _ => 0))), ((w 1), .inl (y 0, 47, .inl (fun _ => 0))), ((w 2), .inl (y 0, 47, .inl (fun _ => 0)))] H := hP
  have hD : va_D A [(h0, .inr (2, [.ref q1, .int 0, .int 0, .int 50, .int 0, .ref q2, .int 0, .ref q3, .ref q4, .ref pr, .ref pw, .null, .null])), (q1, .inl (y 0, 6, .inl (fun _ => 0))), (q2, .inl (y 2, 24, .inr (.inr (.inr (.inr (fun _ => none)))))), (q3, .inl (y 0, 3, .inl (fun _ => 0))), (q4, .inr (1, [.ref q5, .ref q6])), (q5, .inl (y 0, 6, .inl (fun _ => 0))), (q6, .inl (y 0, 6, .inl (fun _ => 0))), (pr, .inl (y 3, 3, .inr (.inr (.inr (.inr (fun i => if i < 3 then some (r i) else none)))))), ((r 0), .inl (y 0, 47, .inl (fun _ => 0))), ((r 1), .inl (y 0, 47, .inl (fun _ => 0))), ((r 2), .inl (y 0, 47, .inl (fun _ => 0))), (pw, .inl (y 3, 3, .inr (.inr (.inr (.inr (fun i => if i < 3 then some (w i) else none)))))), ((w 0), .inl (y 0, 47, .inl (fun _ => 0))), ((w 1), .inl (y 0, 47, .inl (fun _ => 0))), ((w 2), .inl (y 0, 47, .inl (fun _ => 0)))] := hD
  refine lv_aload_n hx hb dX2_init_87 rfl (lv_at hl 0 rfl) ?_
  refine lv_bipush (v := 47) hx hb dX2_init_88 (by decide) ?_
  refine nwI (N := 47) hx hb (hts (.arrayClass .int) (by decide +kernel)) hK hP hD hS hA rfl (by decide) (Nat.le_of_ble_eq_true rfl) (Nat.le_of_ble_eq_true rfl) dX2_init_90 (fun q15 H hP hD hS => ?_)
  have hP : va_P G vwCl [(h0, .inr (2, [.ref q1, .int 0, .int 0, .int 50, .int 0, .ref q2, .int 0, .ref q3, .ref q4, .ref pr, .ref pw, .null, .null])), (q1, .inl (y 0, 6, .inl (fun _ => 0))), (q2, .inl (y 2, 24, .inr (.inr (.inr (.inr (fun _ => none)))))), (q3, .inl (y 0, 3, .inl (fun _ => 0))), (q4, .inr (1, [.ref q5, .ref q6])), (q5, .inl (y 0, 6, .inl (fun _ => 0))), (q6, .inl (y 0, 6, .inl (fun _ => 0))), (pr, .inl (y 3, 3, .inr (.inr (.inr (.inr (fun i => if i < 3 then some (r i) else none)))))), ((r 0), .inl (y 0, 47, .inl (fun _ => 0))), ((r 1), .inl (y 0, 47, .inl (fun _ => 0))), ((r 2), .inl (y 0, 47, .inl (fun _ => 0))), (pw, .inl (y 3, 3, .inr (.inr (.inr (.inr (fun i => if i < 3 then some (w i) else none)))))), ((w 0), .inl (y 0, 47, .inl (fun _ => 0))), ((w 1), .inl (y 0, 47, .inl (fun _ => 0))), ((w 2), .inl (y 0, 47, .inl (fun _ => 0))), (q15, .inl (y 0, 47, .inl (fun _ => 0)))] H := hP
  have hD : va_D A [(h0, .inr (2, [.ref q1, .int 0, .int 0, .int 50, .int 0, .ref q2, .int 0, .ref q3, .ref q4, .ref pr, .ref pw, .null, .null])), (q1, .inl (y 0, 6, .inl (fun _ => 0))), (q2, .inl (y 2, 24, .inr (.inr (.inr (.inr (fun _ => none)))))), (q3, .inl (y 0, 3, .inl (fun _ => 0))), (q4, .inr (1, [.ref q5, .ref q6])), (q5, .inl (y 0, 6, .inl (fun _ => 0))), (q6, .inl (y 0, 6, .inl (fun _ => 0))), (pr, .inl (y 3, 3, .inr (.inr (.inr (.inr (fun i => if i < 3 then some (r i) else none)))))), ((r 0), .inl (y 0, 47, .inl (fun _ => 0))), ((r 1), .inl (y 0, 47, .inl (fun _ => 0))), ((r 2), .inl (y 0, 47, .inl (fun _ => 0))), (pw, .inl (y 3, 3, .inr (.inr (.inr (.inr (fun i => if i < 3 then some (w i) else none)))))), ((w 0), .inl (y 0, 47, .inl (fun _ => 0))), ((w 1), .inl (y 0, 47, .inl (fun _ => 0))), ((w 2), .inl (y 0, 47, .inl (fun _ => 0))), (q15, .inl (y 0, 47, .inl (fun _ => 0)))] := hD
  refine W.widen (k := 15) (n := 382) (Nat.le_of_ble_eq_true rfl) (Nat.le_of_ble_eq_true rfl) ?_
  refine va_putF (D := G) (ci := 2) (v := .ref q15) (ty := (tyX2 11)) (C := RX2) (T := TX2) (N := 13) hx hb hts hin2 tyX2 tyX2_ok nmX2 hown hK.1 hP hD hS 0 rfl rfl 11 (by decide) (hts (.fieldLink RX2 53 "FundBook" "treasuryMargins" "[I") (by decide +kernel)) (fun _ h9 => h9) rfl hin rfl (by decide +kernel) rfl rfl (Nat.le_of_ble_eq_true rfl) dX2_init_92 (fun H locs hP hD hS => ?_)
  have hP : va_P G vwCl [(h0, .inr (2, [.ref q1, .int 0, .int 0, .int 50, .int 0, .ref q2, .int 0, .ref q3, .ref q4, .ref pr, .ref pw, .ref q15, .null])), (q1, .inl (y 0, 6, .inl (fun _ => 0))), (q2, .inl (y 2, 24, .inr (.inr (.inr (.inr (fun _ => none)))))), (q3, .inl (y 0, 3, .inl (fun _ => 0))), (q4, .inr (1, [.ref q5, .ref q6])), (q5, .inl (y 0, 6, .inl (fun _ => 0))), (q6, .inl (y 0, 6, .inl (fun _ => 0))), (pr, .inl (y 3, 3, .inr (.inr (.inr (.inr (fun i => if i < 3 then some (r i) else none)))))), ((r 0), .inl (y 0, 47, .inl (fun _ => 0))), ((r 1), .inl (y 0, 47, .inl (fun _ => 0))), ((r 2), .inl (y 0, 47, .inl (fun _ => 0))), (pw, .inl (y 3, 3, .inr (.inr (.inr (.inr (fun i => if i < 3 then some (w i) else none)))))), ((w 0), .inl (y 0, 47, .inl (fun _ => 0))), ((w 1), .inl (y 0, 47, .inl (fun _ => 0))), ((w 2), .inl (y 0, 47, .inl (fun _ => 0))), (q15, .inl (y 0, 47, .inl (fun _ => 0)))] H := hP
  have hD : va_D A [(h0, .inr (2, [.ref q1, .int 0, .int 0, .int 50, .int 0, .ref q2, .int 0, .ref q3, .ref q4, .ref pr, .ref pw, .ref q15, .null])), (q1, .inl (y 0, 6, .inl (fun _ => 0))), (q2, .inl (y 2, 24, .inr (.inr (.inr (.inr (fun _ => none)))))), (q3, .inl (y 0, 3, .inl (fun _ => 0))), (q4, .inr (1, [.ref q5, .ref q6])), (q5, .inl (y 0, 6, .inl (fun _ => 0))), (q6, .inl (y 0, 6, .inl (fun _ => 0))), (pr, .inl (y 3, 3, .inr (.inr (.inr (.inr (fun i => if i < 3 then some (r i) else none)))))), ((r 0), .inl (y 0, 47, .inl (fun _ => 0))), ((r 1), .inl (y 0, 47, .inl (fun _ => 0))), ((r 2), .inl (y 0, 47, .inl (fun _ => 0))), (pw, .inl (y 3, 3, .inr (.inr (.inr (.inr (fun i => if i < 3 then some (w i) else none)))))), ((w 0), .inl (y 0, 47, .inl (fun _ => 0))), ((w 1), .inl (y 0, 47, .inl (fun _ => 0))), ((w 2), .inl (y 0, 47, .inl (fun _ => 0))), (q15, .inl (y 0, 47, .inl (fun _ => 0)))] := hD
  refine lv_aload_n hx hb dX2_init_95 rfl (lv_at hl 0 rfl) ?_
  refine lv_bipush (v := 47) hx hb dX2_init_96 (by decide) ?_
  refine nwI (N := 47) hx hb (hts (.arrayClass .int) (by decide +kernel)) hK hP hD hS hA rfl (by decide) (Nat.le_of_ble_eq_true rfl) (Nat.le_of_ble_eq_true rfl) dX2_init_98 (fun q16 H hP hD hS => ?_)
  have hP : va_P G vwCl [(h0, .inr (2, [.ref q1, .int 0, .int 0, .int 50, .int 0, .ref q2, .int 0, .ref q3, .ref q4, .ref pr, .ref pw, .ref q15, .null])), (q1, .inl (y 0, 6, .inl (fun _ => 0))), (q2, .inl (y 2, 24, .inr (.inr (.inr (.inr (fun _ => none)))))), (q3, .inl (y 0, 3, .inl (fun _ => 0))), (q4, .inr (1, [.ref q5, .ref q6])), (q5, .inl (y 0, 6, .inl (fun _ => 0))), (q6, .inl (y 0, 6, .inl (fun _ => 0))), (pr, .inl (y 3, 3, .inr (.inr (.inr (.inr (fun i => if i < 3 then some (r i) else none)))))), ((r 0), .inl (y 0, 47, .inl (fun _ => 0))), ((r 1), .inl (y 0, 47, .inl (fun _ => 0))), ((r 2), .inl (y 0, 47, .inl (fun _ => 0))), (pw, .inl (y 3, 3, .inr (.inr (.inr (.inr (fun i => if i < 3 then some (w i) else none)))))), ((w 0), .inl (y 0, 47, .inl (fun _ => 0))), ((w 1), .inl (y 0, 47, .inl (fun _ => 0))), ((w 2), .inl (y 0, 47, .inl (fun _ => 0))), (q15, .inl (y 0, 47, .inl (fun _ => 0))), (q16, .inl (y 0, 47, .inl (fun _ => 0)))] H := hP
  have hD : va_D A [(h0, .inr (2, [.ref q1, .int 0, .int 0, .int 50, .int 0, .ref q2, .int 0, .ref q3, .ref q4, .ref pr, .ref pw, .ref q15, .null])), (q1, .inl (y 0, 6, .inl (fun _ => 0))), (q2, .inl (y 2, 24, .inr (.inr (.inr (.inr (fun _ => none)))))), (q3, .inl (y 0, 3, .inl (fun _ => 0))), (q4, .inr (1, [.ref q5, .ref q6])), (q5, .inl (y 0, 6, .inl (fun _ => 0))), (q6, .inl (y 0, 6, .inl (fun _ => 0))), (pr, .inl (y 3, 3, .inr (.inr (.inr (.inr (fun i => if i < 3 then some (r i) else none)))))), ((r 0), .inl (y 0, 47, .inl (fun _ => 0))), ((r 1), .inl (y 0, 47, .inl (fun _ => 0))), ((r 2), .inl (y 0, 47, .inl (fun _ => 0))), (pw, .inl (y 3, 3, .inr (.inr (.inr (.inr (fun i => if i < 3 then some (w i) else none)))))), ((w 0), .inl (y 0, 47, .inl (fun _ => 0))), ((w 1), .inl (y 0, 47, .inl (fun _ => 0))), ((w 2), .inl (y 0, 47, .inl (fun _ => 0))), (q15, .inl (y 0, 47, .inl (fun _ => 0))), (q16, .inl (y 0, 47, .inl (fun _ => 0)))] := hD
  refine W.widen (k := 16) (n := 429) (Nat.le_of_ble_eq_true rfl) (Nat.le_of_ble_eq_true rfl) ?_
  refine va_putF (D := G) (ci := 2) (v := .ref q16) (ty := (tyX2 12)) (C := RX2) (T := TX2) (N := 13) hx hb hts hin2 tyX2 tyX2_ok nmX2 hown hK.1 hP hD hS 0 rfl rfl 12 (by decide) (hts (.fieldLink RX2 56 "FundBook" "bankInterests" "[I") (by decide +kernel)) (fun _ h9 => h9) rfl hin rfl (by decide +kernel) rfl rfl (Nat.le_of_ble_eq_true rfl) dX2_init_100 (fun H locs hP hD hS => ?_)
  have hP : va_P G vwCl [(h0, .inr (2, [.ref q1, .int 0, .int 0, .int 50, .int 0, .ref q2, .int 0, .ref q3, .ref q4, .ref pr, .ref pw, .ref q15, .ref q16])), (q1, .inl (y 0, 6, .inl (fun _ => 0))), (q2, .inl (y 2, 24, .inr (.inr (.inr (.inr (fun _ => none)))))), (q3, .inl (y 0, 3, .inl (fun _ => 0))), (q4, .inr (1, [.ref q5, .ref q6])), (q5, .inl (y 0, 6, .inl (fun _ => 0))), (q6, .inl (y 0, 6, .inl (fun _ => 0))), (pr, .inl (y 3, 3, .inr (.inr (.inr (.inr (fun i => if i < 3 then some (r i) else none)))))), ((r 0), .inl (y 0, 47, .inl (fun _ => 0))), ((r 1), .inl (y 0, 47, .inl (fun _ => 0))), ((r 2), .inl (y 0, 47, .inl (fun _ => 0))), (pw, .inl (y 3, 3, .inr (.inr (.inr (.inr (fun i => if i < 3 then some (w i) else none)))))), ((w 0), .inl (y 0, 47, .inl (fun _ => 0))), ((w 1), .inl (y 0, 47, .inl (fun _ => 0))), ((w 2), .inl (y 0, 47, .inl (fun _ => 0))), (q15, .inl (y 0, 47, .inl (fun _ => 0))), (q16, .inl (y 0, 47, .inl (fun _ => 0)))] H := hP
  have hD : va_D A [(h0, .inr (2, [.ref q1, .int 0, .int 0, .int 50, .int 0, .ref q2, .int 0, .ref q3, .ref q4, .ref pr, .ref pw, .ref q15, .ref q16])), (q1, .inl (y 0, 6, .inl (fun _ => 0))), (q2, .inl (y 2, 24, .inr (.inr (.inr (.inr (fun _ => none)))))), (q3, .inl (y 0, 3, .inl (fun _ => 0))), (q4, .inr (1, [.ref q5, .ref q6])), (q5, .inl (y 0, 6, .inl (fun _ => 0))), (q6, .inl (y 0, 6, .inl (fun _ => 0))), (pr, .inl (y 3, 3, .inr (.inr (.inr (.inr (fun i => if i < 3 then some (r i) else none)))))), ((r 0), .inl (y 0, 47, .inl (fun _ => 0))), ((r 1), .inl (y 0, 47, .inl (fun _ => 0))), ((r 2), .inl (y 0, 47, .inl (fun _ => 0))), (pw, .inl (y 3, 3, .inr (.inr (.inr (.inr (fun i => if i < 3 then some (w i) else none)))))), ((w 0), .inl (y 0, 47, .inl (fun _ => 0))), ((w 1), .inl (y 0, 47, .inl (fun _ => 0))), ((w 2), .inl (y 0, 47, .inl (fun _ => 0))), (q15, .inl (y 0, 47, .inl (fun _ => 0))), (q16, .inl (y 0, 47, .inl (fun _ => 0)))] := hD
  obtain ⟨ad, had⟩ : ∃ ad : Nat → Nat, ad = (fun k => if k = 0 then q1 else if k = 5 then q2 else if k = 7 then q3 else if k = 8 then q4 else if k = 14 then q5 else if k = 15 then q6 else if k = 9 then pr else if k = 10 then pw else if k = 11 then q15 else if k = 12 then q16 else if k < 16 then h0 else if k < 19 then r (k - 16) else w (k - 19)) := ⟨_, rfl⟩
  have e1 : (fun i => if i < 3 then some (r i) else none) = (fun i => if i < 3 then some (ad (16 + i)) else none) := by
    funext i
    by_cases h : i < 3
    · rw [if_pos h, if_pos h]
      rcases (show i = 0 ∨ i = 1 ∨ i = 2 by omega) with rfl | rfl | rfl <;> (subst had; rfl)
    · rw [if_neg h, if_neg h]
  have e2 : (fun i => if i < 3 then some (w i) else none) = (fun i => if i < 3 then some (ad (19 + i)) else none) := by
    funext i
    by_cases h : i < 3
    · rw [if_pos h, if_pos h]
      rcases (show i = 0 ∨ i = 1 ∨ i = 2 by omega) with rfl | rfl | rfl <;> (subst had; rfl)
    · rw [if_neg h, if_neg h]
  have e3 : (fun _ : Nat => (none : Option Nat)) = lrF 0 la := by
    funext i
    exact (if_neg (Nat.not_lt_zero i)).symm
  rw [e1, e2, e3] at hP hD
  have hP : va_P G vwCl (bkW y ad b00 0 la L) H := by subst had; exact hP
  have hD : va_D A (bkW y ad b00 0 la L) := by subst had; exact hD
  exact W.vret hx hb hr (fun t ht hW => ⟨⟨ad, rfl, by subst had; rfl, by rw [ht]; exact hP, hD⟩, hS.F ht⟩) hS.2.2 dX2_init_103

