/-! ===== the law's body (printed by a program of mine) ===== -/
def cE (N : Nat) (xs : Nat → Int32) (k : Nat) : Int32 := if k < N then xs k else 52859 * (nI k + 19) + 2048981
def cP (b0 N : Nat) (xs : Nat → Int32) (k : Nat) : Array Value → State → Prop := va_Pc [.ref b0, .int (nI k)] (fun U => va_X b0 N xs U U.heap ∧ b0 < U.heap.size)
theorem cP_bl {b0 N k : Nat} {xs : Nat → Int32} : FrameBlind (cP b0 N xs k) := fun _ U _ _ q => ⟨q.1, va_X.moved (Vm.Alike.refl U.vm) q.2.1, q.2.2⟩
set_option maxHeartbeats 4000000 in
set_option maxRecDepth 100000 in
theorem c_L_cell (l : Launch) (b0 N : Nat) (xs : Nat → Int32) (k : Nat) (hN : N ≤ 260) (hk : k < 110) : Met l yL_cell wsL_cell ({ frames := 0, cells := 0, slots := 0, locals := 0 }) (cP b0 N xs k) (QcV (.int (cE N xs k))) 0 0 (fun _ => False) := by
  refine Met.ofW (cc := cL_cell) (maxL := 2) (ret := (some .int)) (by decide) rfl ?_
  intro p e s m args below meth c s₁ B hml hv
  obtain ⟨rfl, hX, hbl⟩ := hv
  have hx := B.exec
  have hb := B.bytes
  have hr := B.returns
  have hts := atoms_spec (ws := wsL_cell) B.pre
  have hown : s.vm.findClass RL = some m.cls := findClass_of_methodNamed B.named
  have hS : va_S (fun q => s.heap.size ≤ q) s.heap s.heap [] := va_S.rf
  have hbA : ¬ (fun q => s.heap.size ≤ q) b0 := Nat.not_le.mpr hbl
  have hl := lv_entry ([.ref b0, .int (nI k)]) (n := 2) (Nat.le_of_ble_eq_true rfl)
  rw [lg_entry_eq]
  generalize (lg_sl ([.ref b0, .int (nI k)]) ++ List.replicate (2 - (lg_sl ([.ref b0, .int (nI k)])).length) Slot.unset).toArray = ls at hl ⊢
  have hl : lv_has ls 2 [(0, .ref b0), (1, .int (nI k))] := hl
  refine lv_iload_n hx hb dL_cell_0 rfl (lv_at hl 1 rfl) ?_
  refine lv_aload_n hx hb dL_cell_1 rfl (lv_at hl 0 rfl) ?_
  refine va_slen hx hb hX hbl hbA hS dL_cell_2 ?_
  refine lv_icmp_ge (tgt := 12) hx hb dL_cell_3 (by decide) (fun c_3 => ?_) (fun c_3 => ?_)
  · have hkN : ¬ k < N := fun q => nI_ge q (by omega) c_3
    refine lv_ldc (v := 52859) hx hb hown (hts (.constant RL 7 52859) (by decide +kernel)) dL_cell_12 ?_
    refine lv_iload_n hx hb dL_cell_14 rfl (lv_at hl 1 rfl) ?_
    refine lv_bipush (v := 19) hx hb dL_cell_15 (by decide) ?_
    refine lv_iadd hx hb dL_cell_17 ?_
    refine lv_imul hx hb dL_cell_18 ?_
    refine lv_ldc (v := 2048981) hx hb hown (hts (.constant RL 8 2048981) (by decide +kernel)) dL_cell_19 ?_
    refine lv_iadd hx hb dL_cell_21 ?_
    exact W.iret (v := 52859 * (nI k + 19) + 2048981) hx hb hr (fun t ht hW => ⟨congrArg (fun z => Outcome.returned (some (.int z))) (if_neg hkN).symm, ht⟩) t_nil dL_cell_22
  · have hkN : k < N := Nat.not_le.mp (fun q => c_3 (nI_le q (by omega)))
    refine lv_aload_n hx hb dL_cell_6 rfl (lv_at hl 0 rfl) ?_
    refine lv_iload_n hx hb dL_cell_7 rfl (lv_at hl 1 rfl) ?_
    refine va_sld hx hb hX hbl hbA hS (vp_in_nI hkN (by omega)) dL_cell_8 ?_
    rw [nI_clamp (show k < 2 ^ 31 by omega)]
    refine lv_goto (tgt := 22) hx hb dL_cell_9 (by decide) ?_
    exact W.iret (v := xs k) hx hb hr (fun t ht hW => ⟨congrArg (fun z => Outcome.returned (some (.int z))) (if_pos hkN).symm, ht⟩) t_nil dL_cell_22
def Inv (G : va_G) (y : Nat → ClassId) (r a : Nat → Nat) (A : Nat → Prop) (H0 H : Heap) (locs : List Loc) : Prop := ∃ u : UT, uR u ∧ va_P G vwCl (uW y r a u) H ∧ va_D A (uW y r a u) ∧ va_S A H0 H locs
def LF (p : Program) (s : State) (m : MethodId) (c : Code) (args : Array Value) (G : va_G) (y : Nat → ClassId) (A : Nat → Prop) (b0 N : Nat) (xs : Nat → Int32) : Prop := p.tables.exec = Jvm.exec ∧ c.code = cL_law ∧ c.maxLocals = 14 ∧ s.vm.findClass RL = some m.cls ∧ (∀ w ∈ wsL_law, w.before args s = true) ∧ Kb G y s ∧ Zs A s s.heap ∧ va_X b0 N xs s s.heap ∧ b0 < s.heap.size ∧ ¬ A b0 ∧ (∀ q, s.heap.size ≤ q → A q) ∧ N ≤ 260
abbrev lvB (b0 : Nat) (a r : Nat → Nat) (k : Nat) : List (Nat × Value) := [(0, .ref b0), (1, .ref (a 13)), (2, .ref (r 0)), (3, .ref (r 1)), (4, .ref (r 2)), (5, .ref (r 3)), (6, .ref (r 4)), (7, .int (nI k))]
theorem rp_ok {b w : MS} {n : Nat} {L : LNS} {t : Nat} {pd bo mo : Nat → Nat} (h : PR b w n L t pd bo mo) {i : Nat} (hi : i < n) : (xRepay n L pd (nI i) = 0 ∧ gDue w i t = lUnp (L i) (pd i) ∧ ¬ gDue w i t ≤ 0) ∨ (xRepay n L pd (nI i) = 3 ∧ gDue w i t = -3) := by
  have hx := xRp h hi
  have hu := un_b h hi
  have hg := gL_v (h.2.2 i hi) h.1.2.2.2.2.2.1 h.1.2.1
  by_cases e : 0 ≤ w 1 ((8 * i) + 6) ∧ ¬ gLeft w i t = 0
  · rw [if_pos e] at hx
    have e1 : gDue w i t = lUnp (L i) (pd i) := by unfold gDue; rw [if_pos e, hg]
    refine Or.inl ⟨hx, e1, fun q => e.2 ?_⟩
    rw [e1] at q
    rw [hg]
    rw [(i32 (z := 0) (q := 0) rfl).2.2.2] at q
    exact Int32.toInt_inj.mp (by rw [show (0 : Int32).toInt = 0 from rfl]; omega)
  · rw [if_neg e] at hx
    exact Or.inr ⟨hx, by unfold gDue; rw [if_neg e]⟩
section LB
variable {p : Program} {l : Launch} {e : Env} {s : State} {m : MethodId} {args : Array Value} {below : List Frame} {meth : Method} {c : Code} {H : Heap} {locs : List Loc} {cells slots : Nat} {Q : State → Prop} {ls : Array Slot}
variable {G : va_G} {y : Nat → ClassId} {A : Nat → Prop} {r a : Nat → Nat} {b0 N k : Nat} {xs : Nat → Int32} {w b : MS} {n : Nat} {la : Nat → Nat → Nat} {L : LNS} {t : Nat} {pd bo mo : Nat → Nat}
set_option maxHeartbeats 4000000 in
set_option maxRecDepth 100000 in
theorem lw_so (hlt : l.stackTraces = false) (F : LF p s m c args G y A b0 N xs) (hk : k < 110) (hc : cells + 3 ≤ 600074) (hs : slots + 20 ≤ 7301550) {u : UT} (hu : uR u) (hP : va_P G vwCl (uW y r a u) H) (hD : va_D A (uW y r a u)) (hS : va_S A s.heap H locs) (hl : lv_has ls 14 [(0, .ref b0), (1, .ref (a 13)), (2, .ref (r 0)), (3, .ref (r 1)), (4, .ref (r 2)), (5, .ref (r 3)), (6, .ref (r 4)), (7, .int (nI k)), (10, .int 1)]) (hend : ∀ (H : Heap) (locs : List Loc) (ls : Array Slot), Inv G y r a A s.heap H locs → lv_has ls 14 (lvB b0 a r k) → W p l e room_1 s m args below meth c H locs (cells + 3) (slots + 20) Q (F0 m 345 ls [])) : W p l e room_1 s m args below meth c H locs (cells + 3) (slots + 20) Q (F0 m 323 ls []) := by
  obtain ⟨hx, hb, hml, hown, hts, hK, hZ, hX, hbl, hbA, hA, hN⟩ := F
  have hu9 := hu
  obtain ⟨t, pd, bo, mo, h⟩ := hu
  refine lv_iload hx hb dL_law_323 (lv_at hl 8 rfl) ?_
  refine lv_if_eq (tgt := 343) hx hb dL_law_325 (by decide) (fun c_325 => absurd c_325 (by decide)) (fun c_325 => ?_)
  refine lv_aload_n hx hb dL_law_328 rfl (lv_at hl 1 rfl) ?_
  refine lv_aload_n hx hb dL_law_329 rfl (lv_at hl 3 rfl) ?_
  refine lv_aload hx hb dL_law_330 (lv_at hl 4 rfl) ?_
  refine lv_aload hx hb dL_law_332 (lv_at hl 5 rfl) ?_
  refine lv_aload hx hb dL_law_334 (lv_at hl 6 rfl) ?_
  refine lv_aload_n hx hb dL_law_336 rfl (lv_at hl 2 rfl) ?_
  refine caR (r := .int 1) (va_runS (As := [.ref (a 13), .ref (r 1), .ref (r 2), .ref (r 3), .ref (r 4), .ref (r 0)]) (rest := []) ⟨hx, hb, hml, hown, hts⟩ (c_L_isSo l G y r u.1 a u.2.1 u.2.2.1 u.2.2.2.1 u.2.2.2.2 t pd bo mo h) (va_cwS 6 hts gL_law_L_isSo rfl rfl rfl (by decide +kernel) ⟨Nat.le_of_ble_eq_true rfl, Nat.le_of_ble_eq_true rfl⟩) ⟨rP_bl, fun U hU hW => ⟨rfl, by rw [hU]; exact hP, Kb.moved hW hK⟩⟩ rfl rfl hl.1 rfl (lv_room (Nat.le_of_ble_eq_true rfl)) dL_law_337 ⟨by show (cells + 3) + 0 ≤ 600074; omega, by show (slots + 20) + 0 ≤ 7301550; omega⟩) ?_
  refine lv_if_ne (tgt := 345) hx hb dL_law_340 (by decide) (fun c_340 => ?_) (fun c_340 => absurd c_340 (by decide))
  exact hend H locs ls ⟨u, hu9, hP, hD, hS⟩ (lv_sub hl [0, 1, 2, 3, 4, 5, 6, 7] rfl)
set_option maxHeartbeats 4000000 in
set_option maxRecDepth 100000 in
theorem lw_lends {z : Int32} {act : Nat} (hlt : l.stackTraces = false) (F : LF p s m c args G y A b0 N xs) (hk : k < 110) (hc : cells + 3 ≤ 600074) (hs : slots + 20 ≤ 7301550) (h : PR b w n L t pd bo mo)  (hP : va_P G vwCl (lwA y r w ++ bkW y a b n la L) H) (hD : va_D A (lwA y r w ++ bkW y a b n la L)) (hS : va_S A s.heap H locs) (hl : lv_has ls 14 [(0, .ref b0), (1, .ref (a 13)), (2, .ref (r 0)), (3, .ref (r 1)), (4, .ref (r 2)), (5, .ref (r 3)), (6, .ref (r 4)), (7, .int (nI k)), (8, .int z), (9, .int (nI act)), (10, .int 1)]) (hend : ∀ (H : Heap) (locs : List Loc) (ls : Array Slot), Inv G y r a A s.heap H locs → lv_has ls 14 (lvB b0 a r k) → W p l e room_1 s m args below meth c H locs (cells + 3) (slots + 20) Q (F0 m 345 ls [])) : W p l e room_1 s m args below meth c H locs cells slots Q (F0 m 88 ls []) := by
  have F9 := F
  obtain ⟨hx, hb, hml, hown, hts, hK, hZ, hX, hbl, hbA, hA, hN⟩ := F
  refine lv_aload_n hx hb dL_law_88 rfl (lv_at hl 1 rfl) ?_
  refine lv_iload hx hb dL_law_89 (lv_at hl 8 rfl) ?_
  refine lv_iconst (v := 3) hx hb dL_law_91 (by decide) ?_
  refine lv_ishr hx hb dL_law_92 ?_
  refine lv_aload_n hx hb dL_law_93 rfl (lv_at hl 3 rfl) ?_
  refine lv_aload hx hb dL_law_94 (lv_at hl 4 rfl) ?_
  refine lv_aload_n hx hb dL_law_96 rfl (lv_at hl 2 rfl) ?_
  have hFc : ∀ q, va_A (lwA y r w ++ bkW y a b n la L) H.size q → A q := freeW hD hS hA
  have hPc := hP
  have hDc : va_D (fun _ => True) (lwA y r w ++ bkW y a b n la L) := hD.weaken (fun _ _ _ _ => trivial)
  refine caN (va_runS (As := [.ref (a 13), .int (z >>> (3 &&& 31)), .ref (r 1), .ref (r 2), .ref (r 0)]) (rest := []) ⟨hx, hb, hml, hown, hts⟩ (c_L_lends l hlt G y r w a b n la L H.size (z >>> (3 &&& 31)) t pd bo mo h) (va_cwS 5 hts gL_law_L_lends rfl rfl rfl (by decide +kernel) ⟨Nat.le_of_ble_eq_true rfl, Nat.le_of_ble_eq_true rfl⟩) ⟨xP_bl, fun U hU hW => ⟨rfl, by rw [hU], by rw [hU]; exact hPc, Kb.moved hW hK, hDc, by rw [hU]; exact Zs.moved hW.alike ((hZ.kept hS.2.1).narrow hFc)⟩⟩ rfl rfl hl.1 rfl (lv_room (Nat.le_of_ble_eq_true rfl)) dL_law_97 ⟨by show cells + 3 ≤ 600074; omega, by show slots + 20 ≤ 7301550; omega⟩) hS hFc hFc (fun u H locs hu hP1 hD1 hk1 hS => ?_)
  have hP := hP1
  have hD := hD1.weaken (fun _ _ _ h => hFc _ h)
  refine lv_istore (lv' := [(10, .int 1), (0, .ref b0), (1, .ref (a 13)), (2, .ref (r 0)), (3, .ref (r 1)), (4, .ref (r 2)), (5, .ref (r 3)), (6, .ref (r 4)), (7, .int (nI k)), (8, .int z), (9, .int (nI act))]) hx hb dL_law_100 hl (by decide) rfl (fun ls hl => ?_)
  refine lv_goto (tgt := 323) hx hb dL_law_102 (by decide) ?_
  exact lw_so hlt F9 hk hc hs (u := u) (hu) hP hD hS (lv_sub hl [1, 2, 3, 4, 5, 6, 7, 8, 0] rfl) hend
set_option maxHeartbeats 4000000 in
set_option maxRecDepth 100000 in
theorem lw_sets {z : Int32} {act : Nat} (hlt : l.stackTraces = false) (F : LF p s m c args G y A b0 N xs) (hk : k < 110) (hc : cells + 3 ≤ 600074) (hs : slots + 20 ≤ 7301550) (h : PR b w n L t pd bo mo)  (hP : va_P G vwCl (lwA y r w ++ bkW y a b n la L) H) (hD : va_D A (lwA y r w ++ bkW y a b n la L)) (hS : va_S A s.heap H locs) (hl : lv_has ls 14 [(0, .ref b0), (1, .ref (a 13)), (2, .ref (r 0)), (3, .ref (r 1)), (4, .ref (r 2)), (5, .ref (r 3)), (6, .ref (r 4)), (7, .int (nI k)), (8, .int z), (9, .int (nI act)), (10, .int 1)]) (hend : ∀ (H : Heap) (locs : List Loc) (ls : Array Slot), Inv G y r a A s.heap H locs → lv_has ls 14 (lvB b0 a r k) → W p l e room_1 s m args below meth c H locs (cells + 3) (slots + 20) Q (F0 m 345 ls [])) : W p l e room_1 s m args below meth c H locs cells slots Q (F0 m 111 ls []) := by
  have F9 := F
  obtain ⟨hx, hb, hml, hown, hts, hK, hZ, hX, hbl, hbA, hA, hN⟩ := F
  refine lv_aload_n hx hb dL_law_111 rfl (lv_at hl 1 rfl) ?_
  refine lv_iload hx hb dL_law_112 (lv_at hl 8 rfl) ?_
  refine lv_iconst (v := 3) hx hb dL_law_114 (by decide) ?_
  refine lv_ishr hx hb dL_law_115 ?_
  refine lv_aload_n hx hb dL_law_116 rfl (lv_at hl 2 rfl) ?_
  have hFc : ∀ q, va_A (lwA y r w ++ bkW y a b n la L) H.size q → A q := freeW hD hS hA
  have hPc := hP
  have hDc : va_D (fun _ => True) (lwA y r w ++ bkW y a b n la L) := hD.weaken (fun _ _ _ _ => trivial)
  refine caN (va_runS (As := [.ref (a 13), .int (z >>> (3 &&& 31)), .ref (r 0)]) (rest := []) ⟨hx, hb, hml, hown, hts⟩ (c_L_sets l hlt G y r w a b n la L H.size (z >>> (3 &&& 31)) t pd bo mo h) (va_cwS 3 hts gL_law_L_sets rfl rfl rfl (by decide +kernel) ⟨Nat.le_of_ble_eq_true rfl, Nat.le_of_ble_eq_true rfl⟩) ⟨xP_bl, fun U hU hW => ⟨rfl, by rw [hU], by rw [hU]; exact hPc, Kb.moved hW hK, hDc, by rw [hU]; exact Zs.moved hW.alike ((hZ.kept hS.2.1).narrow hFc)⟩⟩ rfl rfl hl.1 rfl (lv_room (Nat.le_of_ble_eq_true rfl)) dL_law_117 ⟨by show cells + 1 ≤ 600074; omega, by show slots + 6 ≤ 7301550; omega⟩) hS hFc hFc (fun u H locs hu hP1 hD1 hk1 hS => ?_)
  have hP := hP1
  have hD := hD1.weaken (fun _ _ _ h => hFc _ h)
  refine lv_istore (lv' := [(10, .int 1), (0, .ref b0), (1, .ref (a 13)), (2, .ref (r 0)), (3, .ref (r 1)), (4, .ref (r 2)), (5, .ref (r 3)), (6, .ref (r 4)), (7, .int (nI k)), (8, .int z), (9, .int (nI act))]) hx hb dL_law_120 hl (by decide) rfl (fun ls hl => ?_)
  refine lv_goto (tgt := 323) hx hb dL_law_122 (by decide) ?_
  refine W.widen (k := cells + 3) (n := slots + 20) (by omega) (by omega) ?_
  exact lw_so hlt F9 hk hc hs (u := u) (hu) hP hD hS (lv_sub hl [1, 2, 3, 4, 5, 6, 7, 8, 0] rfl) hend
set_option maxHeartbeats 4000000 in
set_option maxRecDepth 100000 in
theorem lw_deposits {z : Int32} {act : Nat} (hlt : l.stackTraces = false) (F : LF p s m c args G y A b0 N xs) (hk : k < 110) (hc : cells + 3 ≤ 600074) (hs : slots + 20 ≤ 7301550) (h : PR b w n L t pd bo mo)  (hP : va_P G vwCl (lwA y r w ++ bkW y a b n la L) H) (hD : va_D A (lwA y r w ++ bkW y a b n la L)) (hS : va_S A s.heap H locs) (hl : lv_has ls 14 [(0, .ref b0), (1, .ref (a 13)), (2, .ref (r 0)), (3, .ref (r 1)), (4, .ref (r 2)), (5, .ref (r 3)), (6, .ref (r 4)), (7, .int (nI k)), (8, .int z), (9, .int (nI act)), (10, .int 1)]) (hend : ∀ (H : Heap) (locs : List Loc) (ls : Array Slot), Inv G y r a A s.heap H locs → lv_has ls 14 (lvB b0 a r k) → W p l e room_1 s m args below meth c H locs (cells + 3) (slots + 20) Q (F0 m 345 ls [])) : W p l e room_1 s m args below meth c H locs cells slots Q (F0 m 132 ls []) := by
  have F9 := F
  obtain ⟨hx, hb, hml, hown, hts, hK, hZ, hX, hbl, hbA, hA, hN⟩ := F
  refine lv_aload_n hx hb dL_law_132 rfl (lv_at hl 1 rfl) ?_
  refine lv_iload hx hb dL_law_133 (lv_at hl 8 rfl) ?_
  refine lv_iconst (v := 3) hx hb dL_law_135 (by decide) ?_
  refine lv_ishr hx hb dL_law_136 ?_
  refine lv_aload hx hb dL_law_137 (lv_at hl 5 rfl) ?_
  refine lv_aload_n hx hb dL_law_139 rfl (lv_at hl 2 rfl) ?_
  have hFc : ∀ q, va_A (lwA y r w ++ bkW y a b n la L) H.size q → A q := freeW hD hS hA
  have hPc := hP
  have hDc : va_D (fun _ => True) (lwA y r w ++ bkW y a b n la L) := hD.weaken (fun _ _ _ _ => trivial)
  refine caN (va_runS (As := [.ref (a 13), .int (z >>> (3 &&& 31)), .ref (r 3), .ref (r 0)]) (rest := []) ⟨hx, hb, hml, hown, hts⟩ (c_L_deposits l hlt G y r w a b n la L H.size (z >>> (3 &&& 31)) t pd bo mo h) (va_cwS 4 hts gL_law_L_deposits rfl rfl rfl (by decide +kernel) ⟨Nat.le_of_ble_eq_true rfl, Nat.le_of_ble_eq_true rfl⟩) ⟨xP_bl, fun U hU hW => ⟨rfl, by rw [hU], by rw [hU]; exact hPc, Kb.moved hW hK, hDc, by rw [hU]; exact Zs.moved hW.alike ((hZ.kept hS.2.1).narrow hFc)⟩⟩ rfl rfl hl.1 rfl (lv_room (Nat.le_of_ble_eq_true rfl)) dL_law_140 ⟨by show cells + 1 ≤ 600074; omega, by show slots + 6 ≤ 7301550; omega⟩) hS hFc hFc (fun u H locs hu hP1 hD1 hk1 hS => ?_)
  have hP := hP1
  have hD := hD1.weaken (fun _ _ _ h => hFc _ h)
  refine lv_istore (lv' := [(10, .int 1), (0, .ref b0), (1, .ref (a 13)), (2, .ref (r 0)), (3, .ref (r 1)), (4, .ref (r 2)), (5, .ref (r 3)), (6, .ref (r 4)), (7, .int (nI k)), (8, .int z), (9, .int (nI act))]) hx hb dL_law_143 hl (by decide) rfl (fun ls hl => ?_)
  refine lv_goto (tgt := 323) hx hb dL_law_145 (by decide) ?_
  refine W.widen (k := cells + 3) (n := slots + 20) (by omega) (by omega) ?_
  exact lw_so hlt F9 hk hc hs (u := u) (hu) hP hD hS (lv_sub hl [1, 2, 3, 4, 5, 6, 7, 8, 0] rfl) hend
set_option maxHeartbeats 4000000 in
set_option maxRecDepth 100000 in
theorem lw_repay {z : Int32} {act : Nat} (hlt : l.stackTraces = false) (F : LF p s m c args G y A b0 N xs) (hk : k < 110) (hc : cells + 3 ≤ 600074) (hs : slots + 20 ≤ 7301550) (h : PR b w n L t pd bo mo) (hn0 : 0 < n) (hP : va_P G vwCl (lwA y r w ++ bkW y a b n la L) H) (hD : va_D A (lwA y r w ++ bkW y a b n la L)) (hS : va_S A s.heap H locs) (hl : lv_has ls 14 [(0, .ref b0), (1, .ref (a 13)), (2, .ref (r 0)), (3, .ref (r 1)), (4, .ref (r 2)), (5, .ref (r 3)), (6, .ref (r 4)), (7, .int (nI k)), (8, .int z), (9, .int (nI act)), (10, .int 1)]) (hend : ∀ (H : Heap) (locs : List Loc) (ls : Array Slot), Inv G y r a A s.heap H locs → lv_has ls 14 (lvB b0 a r k) → W p l e room_1 s m args below meth c H locs (cells + 3) (slots + 20) Q (F0 m 345 ls [])) : W p l e room_1 s m args below meth c H locs cells slots Q (F0 m 161 ls []) := by
  have F9 := F
  obtain ⟨hx, hb, hml, hown, hts, hK, hZ, hX, hbl, hbA, hA, hN⟩ := F
  have hn8 : n ≤ 8 := h.1.1
  have hn24 : n ≤ 24 := by omega
  have ht47 : t ≤ 47 := h.1.2.1
  have hbn : b 13 6 = nI n := h.1.2.2.1
  have hw1 : w 0 1 = nI n := h.1.2.2.2.1
  have hbt : b 13 4 = nI t := h.1.2.2.2.2.1
  have hw0 : w 0 0 = nI t := h.1.2.2.2.2.2.1
  have hT := h.1.2.2.2.2.2.2.2.2.2.2.2.2.2
  have h7 := h.1.2.2.2.2.2.2.2.2.2.2.2.2.1
  have hM := h.2.1
  have hpd : ∀ k, k < n → L k 0 7 = nI (pd k) ∧ pd k ≤ 6 := fun k hk => (h.2.2 k hk).2.2.2.2.2.1
  have hmo : ∀ k, k < n → ¬ w 1 ((8 * k) + 4) = 0 := fun k hk q => by
    have h4 := (h.2.2 k hk).2.2.2.2.2.2.2.1
    rw [h4.1] at q
    exact nI_ne0 (by omega) (by omega) q
  have hbo : ∀ k, k < n → w 1 ((8 * k) + 5) = nI (bo k) ∧ bo k ≤ t := fun k hk => (h.2.2 k hk).2.2.2.2.2.2.1
  refine lv_iload hx hb dL_law_161 (lv_at hl 8 rfl) ?_
  refine lv_iconst (v := 4) hx hb dL_law_163 (by decide) ?_
  refine lv_ishr hx hb dL_law_164 ?_
  refine lv_aload_n hx hb dL_law_165 rfl (lv_at hl 2 rfl) ?_
  refine lv_iconst (v := 1) hx hb dL_law_166 (by decide) ?_
  refine ldI (f := w 0) hx hb hK hP 0 ag_0 1 rfl (by decide) (by decide) dL_law_167 ?_
  refine lv_topE (z := nI n) (hw1) ?_
  refine caR (r := .int (nI (lo (z >>> (4 &&& 31)) n))) (va_runS (As := [.int (z >>> (4 &&& 31)), .int (nI n)]) (rest := []) ⟨hx, hb, hml, hown, hts⟩ (c_L_low l (z >>> (4 &&& 31)) n hn0 (by omega)) (va_cwS 2 hts gL_law_L_low rfl rfl rfl (by decide +kernel) ⟨Nat.le_of_ble_eq_true rfl, Nat.le_of_ble_eq_true rfl⟩) ⟨nP_bl, fun _ _ _ => ⟨rfl, trivial⟩⟩ rfl rfl hl.1 rfl (lv_room (Nat.le_of_ble_eq_true rfl)) dL_law_168 ⟨by show cells + 0 ≤ 600074; omega, by show slots + 0 ≤ 7301550; omega⟩) ?_
  have h_i := lo_lt (v := (z >>> (4 &&& 31))) (M := n) hn0
  generalize lo (z >>> (4 &&& 31)) n = i at h_i ⊢
  refine lv_istore (lv' := [(11, .int (nI i)), (0, .ref b0), (1, .ref (a 13)), (2, .ref (r 0)), (3, .ref (r 1)), (4, .ref (r 2)), (5, .ref (r 3)), (6, .ref (r 4)), (7, .int (nI k)), (8, .int z), (9, .int (nI act)), (10, .int 1)]) hx hb dL_law_171 hl (by decide) rfl (fun ls hl => ?_)
  refine lv_iload hx hb dL_law_173 (lv_at hl 0 rfl) ?_
  refine lv_aload_n hx hb dL_law_175 rfl (lv_at hl 4 rfl) ?_
  refine lv_aload_n hx hb dL_law_176 rfl (lv_at hl 3 rfl) ?_
  refine caR (r := .int (gLeft w i t)) (va_runS (As := [.int (nI i), .ref (r 1), .ref (r 0)]) (rest := []) ⟨hx, hb, hml, hown, hts⟩ (c_L_left l G y r w i (by omega) t hw0 ht47 (hmo i h_i)) (va_cwS 3 hts gL_law_L_left rfl rfl rfl (by decide +kernel) ⟨Nat.le_of_ble_eq_true rfl, Nat.le_of_ble_eq_true rfl⟩) ⟨rP_bl, fun U hU hW => ⟨rfl, by rw [hU]; exact (wL hP), Kb.moved hW hK⟩⟩ rfl rfl hl.1 rfl (lv_room (Nat.le_of_ble_eq_true rfl)) dL_law_177 ⟨by show cells + 0 ≤ 600074; omega, by show slots + 0 ≤ 7301550; omega⟩) ?_
  refine lv_istore (lv' := [(12, .int (gLeft w i t)), (11, .int (nI i)), (0, .ref b0), (1, .ref (a 13)), (2, .ref (r 0)), (3, .ref (r 1)), (4, .ref (r 2)), (5, .ref (r 3)), (6, .ref (r 4)), (7, .int (nI k)), (8, .int z), (9, .int (nI act)), (10, .int 1)]) hx hb dL_law_180 hl (by decide) rfl (fun ls hl => ?_)
  refine lv_aload_n hx hb dL_law_182 rfl (lv_at hl 5 rfl) ?_
  refine lv_bipush (v := 8) hx hb dL_law_183 (by decide) ?_
  refine lv_iload hx hb dL_law_185 (lv_at hl 1 rfl) ?_
  refine lv_imul hx hb dL_law_187 ?_
  refine lv_topE (z := nI (8 * i)) (m8 (a := 8) (b := i)) ?_
  refine lv_bipush (v := 6) hx hb dL_law_188 (by decide) ?_
  refine lv_iadd hx hb dL_law_190 ?_
  refine lv_topE (z := nI ((8 * i) + 6)) (nI_add (8 * i) 6) ?_
  refine ldI (f := w 1) hx hb hK hP 1 ag_1 ((8 * i) + 6) rfl (by omega) (by decide) dL_law_191 ?_
  refine W.pick (tgt := 207) (st := fun d : Int32 => [.int d]) (P := fun d => d = gDue w i t) (fun d hd => ?_) (fun key => ?_)
  · refine lv_istore (lv' := [(13, .int d), (12, .int (gLeft w i t)), (11, .int (nI i)), (0, .ref b0), (1, .ref (a 13)), (2, .ref (r 0)), (3, .ref (r 1)), (4, .ref (r 2)), (5, .ref (r 3)), (6, .ref (r 4)), (7, .int (nI k)), (8, .int z), (9, .int (nI act)), (10, .int 1)]) hx hb dL_law_207 hl (by decide) rfl (fun ls hl => ?_)
    refine lv_aload_n hx hb dL_law_209 rfl (lv_at hl 6 rfl) ?_
    refine lv_bipush (v := 8) hx hb dL_law_210 (by decide) ?_
    refine lv_iload hx hb dL_law_212 (lv_at hl 2 rfl) ?_
    refine lv_imul hx hb dL_law_214 ?_
    refine lv_topE (z := nI (8 * i)) (m8 (a := 8) (b := i)) ?_
    refine lv_bipush (v := 7) hx hb dL_law_215 (by decide) ?_
    refine lv_iadd hx hb dL_law_217 ?_
    refine lv_topE (z := nI ((8 * i) + 7)) (nI_add (8 * i) 7) ?_
    refine lv_iload hx hb dL_law_218 (lv_at hl 0 rfl) ?_
    refine W.pick (tgt := 237) (st := fun v9 : Int32 => [.int v9, .int (nI ((8 * i) + 7)), .ref (r 1)]) (P := fun v9 => v9 = if d ≤ 0 then w 1 ((8 * i) + 7) else 1) (fun v9 hv9 => ?_) (fun key => ?_)
    · refine stI (f := w 1) (ws1 := lwA y r (u2 w 1 ((8 * i) + 7) v9) ++ bkW y a b n la L) hx hb hK hP hD hS 1 ag_1 ((8 * i) + 7) rfl (by omega) (by decide) as_1 dL_law_237 (fun H locs hP hD hS => ?_)
      refine lv_aload_n hx hb dL_law_238 rfl (lv_at hl 4 rfl) ?_
      refine lv_iconst (v := 0) hx hb dL_law_239 (by decide) ?_
      refine lv_iload hx hb dL_law_240 (lv_at hl 2 rfl) ?_
      refine lv_iconst (v := 0) hx hb dL_law_242 (by decide) ?_
      have hPj := hP
      have hDj := hD
      have hFc : ∀ q, va_A (bkW y a b n la L) H.size q → A q := freeR hDj hS hA
      have hPc : va_P G vwCl (bkW y a b n la L) H := wR hPj
      have hDc : va_D (fun _ => True) (bkW y a b n la L) := (wRD hDj).weaken (fun _ _ _ _ => trivial)
      refine caN (vx_runSW (As := [.ref (a 13), .int 0, .int (nI i), .int 0]) (rest := []) ⟨hx, hb, hml, hown, hts⟩ (c_L_calls0 l hlt G y a b n la L H.size hn24 pd hpd (nI i) 0 ((rp_ok h h_i).elim (fun q => Or.inl q.1) (fun q => Or.inr q.1))) (vx_cwSW 4 hts gL_law_L_calls rfl rfl rfl (by decide +kernel) ⟨Nat.le_of_ble_eq_true rfl, Nat.le_of_ble_eq_true rfl⟩) ⟨xP_bl, fun U hU hW => ⟨rfl, by rw [hU], by rw [hU]; exact hPc, Kb.moved hW hK, hDc, by rw [hU]; exact Zs.moved hW.alike ((hZ.kept hS.2.1).narrow hFc)⟩⟩ rfl rfl hl.1 rfl (lv_room (Nat.le_of_ble_eq_true rfl)) dL_law_243 ⟨by show cells + 1 ≤ 600074; omega, by show slots + 6 ≤ 7301550; omega⟩) hS hFc hFc (fun _ H locs _ hP1 hD1 hk1 hS => ?_)
      obtain ⟨hP, hD⟩ := joinW hPj hDj hk1 hP1 hD1 hFc
      refine lv_topE (z := d) (by rw [hd, cnI (by omega)]; rcases rp_ok h h_i with ⟨q1, q2, q3⟩ | ⟨q1, q2⟩ <;> rw [q1, q2] <;> rfl) ?_
      refine lv_iload hx hb dL_law_246 (lv_at hl 0 rfl) ?_
      refine lv_icmp_ne (tgt := 255) hx hb dL_law_248 (by decide) (fun c_248 => absurd rfl c_248) (fun c_248 => ?_)
      refine lv_iconst (v := 1) hx hb dL_law_251 (by decide) ?_
      refine lv_goto (tgt := 256) hx hb dL_law_252 (by decide) ?_
      refine lv_istore (lv' := [(10, .int 1), (13, .int d), (12, .int (gLeft w i t)), (11, .int (nI i)), (0, .ref b0), (1, .ref (a 13)), (2, .ref (r 0)), (3, .ref (r 1)), (4, .ref (r 2)), (5, .ref (r 3)), (6, .ref (r 4)), (7, .int (nI k)), (8, .int z), (9, .int (nI act))]) hx hb dL_law_256 hl (by decide) rfl (fun ls hl => ?_)
      refine lv_goto (tgt := 323) hx hb dL_law_258 (by decide) ?_
      rcases rp_ok h h_i with ⟨q1, q2, q3⟩ | ⟨q1, q2⟩
      · rw [if_pos q1, cnI (by omega)] at hP hD
        have e9 : v9 = 1 := by rw [hv9, hd]; exact if_neg q3
        rw [e9] at hP hD
        refine W.widen (k := cells + 3) (n := slots + 20) (by omega) (by omega) ?_
        exact lw_so hlt F9 hk hc hs (u := (u2 w 1 ((8 * i) + 7) 1, b, n, la, u3 L i (nI 6))) (⟨t, _, bo, mo, s_repay h h_i⟩) hP hD hS (lv_sub hl [4, 5, 6, 7, 8, 9, 10, 11, 0] rfl) hend
      · rw [if_neg (by rw [q1]; decide)] at hP hD
        have e9 : v9 = w 1 ((8 * i) + 7) := by rw [hv9, hd, q2]; exact if_pos (by decide)
        rw [u2_id e9.symm] at hP hD
        refine W.widen (k := cells + 3) (n := slots + 20) (by omega) (by omega) ?_
        exact lw_so hlt F9 hk hc hs (u := (w, b, n, la, L)) (⟨t, pd, bo, mo, h⟩) hP hD hS (lv_sub hl [4, 5, 6, 7, 8, 9, 10, 11, 0] rfl) hend
    · refine lv_if_le (tgt := 227) hx hb dL_law_220 (by decide) (fun c_220 => ?_) (fun c_220 => ?_)
      · refine lv_aload_n hx hb dL_law_227 rfl (lv_at hl 6 rfl) ?_
        refine lv_bipush (v := 8) hx hb dL_law_228 (by decide) ?_
        refine lv_iload hx hb dL_law_230 (lv_at hl 2 rfl) ?_
        refine lv_imul hx hb dL_law_232 ?_
        refine lv_topE (z := nI (8 * i)) (m8 (a := 8) (b := i)) ?_
        refine lv_bipush (v := 7) hx hb dL_law_233 (by decide) ?_
        refine lv_iadd hx hb dL_law_235 ?_
        refine lv_topE (z := nI ((8 * i) + 7)) (nI_add (8 * i) 7) ?_
        refine ldI (f := w 1) hx hb hK hP 1 ag_1 ((8 * i) + 7) rfl (by omega) (by decide) dL_law_236 ?_
        exact key _ (if_pos c_220).symm
      · refine lv_iconst (v := 1) hx hb dL_law_223 (by decide) ?_
        refine lv_goto (tgt := 237) hx hb dL_law_224 (by decide) ?_
        exact key _ (if_neg c_220).symm
  · refine lv_if_lt (tgt := 200) hx hb dL_law_192 (by decide) (fun c_192 => ?_) (fun c_192 => ?_)
    · refine lv_bipush (v := (-3)) hx hb dL_law_200 (by decide) ?_
      refine lv_goto (tgt := 207) hx hb dL_law_202 (by decide) ?_
      exact key _ (by unfold gDue; exact (if_neg (fun q => Int32.not_le.mpr c_192 q.1)).symm)
    · refine lv_iload hx hb dL_law_195 (lv_at hl 0 rfl) ?_
      refine lv_if_ne (tgt := 205) hx hb dL_law_197 (by decide) (fun c_197 => ?_) (fun c_197 => ?_)
      · refine lv_iload hx hb dL_law_205 (lv_at hl 0 rfl) ?_
        exact key _ (by unfold gDue; exact (if_pos ⟨Int32.not_lt.mp c_192, c_197⟩).symm)
      · refine lv_bipush (v := (-3)) hx hb dL_law_200 (by decide) ?_
        refine lv_goto (tgt := 207) hx hb dL_law_202 (by decide) ?_
        exact key _ (by unfold gDue; exact (if_neg (fun q => q.2 c_197)).symm)
set_option maxHeartbeats 4000000 in
set_option maxRecDepth 100000 in
theorem lw_close {z : Int32} {act : Nat} (hlt : l.stackTraces = false) (F : LF p s m c args G y A b0 N xs) (hk : k < 110) (hc : cells + 3 ≤ 600074) (hs : slots + 20 ≤ 7301550) (h : PR b w n L t pd bo mo)  (hP : va_P G vwCl (lwA y r w ++ bkW y a b n la L) H) (hD : va_D A (lwA y r w ++ bkW y a b n la L)) (hS : va_S A s.heap H locs) (hl : lv_has ls 14 [(0, .ref b0), (1, .ref (a 13)), (2, .ref (r 0)), (3, .ref (r 1)), (4, .ref (r 2)), (5, .ref (r 3)), (6, .ref (r 4)), (7, .int (nI k)), (8, .int z), (9, .int (nI act)), (10, .int 1)]) (hend : ∀ (H : Heap) (locs : List Loc) (ls : Array Slot), Inv G y r a A s.heap H locs → lv_has ls 14 (lvB b0 a r k) → W p l e room_1 s m args below meth c H locs (cells + 3) (slots + 20) Q (F0 m 345 ls [])) : W p l e room_1 s m args below meth c H locs cells slots Q (F0 m 268 ls []) := by
  have F9 := F
  obtain ⟨hx, hb, hml, hown, hts, hK, hZ, hX, hbl, hbA, hA, hN⟩ := F
  have hn8 : n ≤ 8 := h.1.1
  have hn24 : n ≤ 24 := by omega
  have ht47 : t ≤ 47 := h.1.2.1
  have hbn : b 13 6 = nI n := h.1.2.2.1
  have hw1 : w 0 1 = nI n := h.1.2.2.2.1
  have hbt : b 13 4 = nI t := h.1.2.2.2.2.1
  have hw0 : w 0 0 = nI t := h.1.2.2.2.2.2.1
  have hT := h.1.2.2.2.2.2.2.2.2.2.2.2.2.2
  have h7 := h.1.2.2.2.2.2.2.2.2.2.2.2.2.1
  have hM := h.2.1
  have hpd : ∀ k, k < n → L k 0 7 = nI (pd k) ∧ pd k ≤ 6 := fun k hk => (h.2.2 k hk).2.2.2.2.2.1
  have hmo : ∀ k, k < n → ¬ w 1 ((8 * k) + 4) = 0 := fun k hk q => by
    have h4 := (h.2.2 k hk).2.2.2.2.2.2.2.1
    rw [h4.1] at q
    exact nI_ne0 (by omega) (by omega) q
  have hbo : ∀ k, k < n → w 1 ((8 * k) + 5) = nI (bo k) ∧ bo k ≤ t := fun k hk => (h.2.2 k hk).2.2.2.2.2.2.1
  by_cases h47 : t = 47
  · have hX3 : xClose t = 3 := if_pos h47
    refine lv_aload_n hx hb dL_law_268 rfl (lv_at hl 2 rfl) ?_
    refine lv_iconst (v := 0) hx hb dL_law_269 (by decide) ?_
    refine ldI (f := w 0) hx hb hK hP 0 ag_0 0 rfl (by decide) (by decide) dL_law_270 ?_
    refine lv_topE (z := nI t) (hw0) ?_
    refine lv_bipush (v := 47) hx hb dL_law_271 (by decide) ?_
    refine lv_icmp_ne (tgt := 281) hx hb dL_law_273 (by decide) (fun c_273 => absurd (by rw [h47]; rfl) c_273) (fun c_273 => ?_)
    refine lv_bipush (v := (-3)) hx hb dL_law_276 (by decide) ?_
    refine lv_goto (tgt := 286) hx hb dL_law_278 (by decide) ?_
    refine lv_istore (lv' := [(11, .int (-3)), (0, .ref b0), (1, .ref (a 13)), (2, .ref (r 0)), (3, .ref (r 1)), (4, .ref (r 2)), (5, .ref (r 3)), (6, .ref (r 4)), (7, .int (nI k)), (8, .int z), (9, .int (nI act)), (10, .int 1)]) hx hb dL_law_286 hl (by decide) rfl (fun ls hl => ?_)
    refine lv_iload hx hb dL_law_288 (lv_at hl 0 rfl) ?_
    refine lv_if_le (tgt := 304) hx hb dL_law_290 (by decide) (fun c_290 => ?_) (fun c_290 => absurd (by decide) c_290)
    refine lv_aload_n hx hb dL_law_304 rfl (lv_at hl 2 rfl) ?_
    refine lv_iconst (v := 2) hx hb dL_law_305 (by decide) ?_
    refine lv_iconst (v := 0) hx hb dL_law_306 (by decide) ?_
    refine lv_iconst (v := 0) hx hb dL_law_307 (by decide) ?_
    have hPj := hP
    have hDj := hD
    have hFc : ∀ q, va_A (bkW y a b n la L) H.size q → A q := freeR hDj hS hA
    have hPc : va_P G vwCl (bkW y a b n la L) H := wR hPj
    have hDc : va_D (fun _ => True) (bkW y a b n la L) := (wRD hDj).weaken (fun _ _ _ _ => trivial)
    refine caN (vx_runSW (As := [.ref (a 13), .int 2, .int 0, .int 0]) (rest := []) ⟨hx, hb, hml, hown, hts⟩ (c_L_calls2 l hlt G y a b n la L H.size pd hpd t hbt ht47 0 0 (Or.inr hX3)) (vx_cwSW 4 hts gL_law_L_calls rfl rfl rfl (by decide +kernel) ⟨Nat.le_of_ble_eq_true rfl, Nat.le_of_ble_eq_true rfl⟩) ⟨xP_bl, fun U hU hW => ⟨rfl, by rw [hU], by rw [hU]; exact hPc, Kb.moved hW hK, hDc, by rw [hU]; exact Zs.moved hW.alike ((hZ.kept hS.2.1).narrow hFc)⟩⟩ rfl rfl hl.1 rfl (lv_room (Nat.le_of_ble_eq_true rfl)) dL_law_308 ⟨by show cells + 1 ≤ 600074; omega, by show slots + 6 ≤ 7301550; omega⟩) hS hFc hFc (fun _ H locs _ hP1 hD1 hk1 hS => ?_)
    obtain ⟨hP, hD⟩ := joinW hPj hDj hk1 hP1 hD1 hFc
    rw [if_neg (by rw [hX3]; decide)] at hP hD
    refine lv_topE (z := (-3)) (by rw [hX3]; rfl) ?_
    refine lv_iload hx hb dL_law_311 (lv_at hl 0 rfl) ?_
    refine lv_icmp_ne (tgt := 320) hx hb dL_law_313 (by decide) (fun c_313 => absurd rfl c_313) (fun c_313 => ?_)
    refine lv_iconst (v := 1) hx hb dL_law_316 (by decide) ?_
    refine lv_goto (tgt := 321) hx hb dL_law_317 (by decide) ?_
    refine lv_istore (lv' := [(10, .int 1), (11, .int (-3)), (0, .ref b0), (1, .ref (a 13)), (2, .ref (r 0)), (3, .ref (r 1)), (4, .ref (r 2)), (5, .ref (r 3)), (6, .ref (r 4)), (7, .int (nI k)), (8, .int z), (9, .int (nI act))]) hx hb dL_law_321 hl (by decide) rfl (fun ls hl => ?_)
    refine W.widen (k := cells + 3) (n := slots + 20) (by omega) (by omega) ?_
    exact lw_so hlt F9 hk hc hs (u := (w, b, n, la, L)) (⟨t, pd, bo, mo, h⟩) hP hD hS (lv_sub hl [2, 3, 4, 5, 6, 7, 8, 9, 0] rfl) hend
  · have hX0 : xClose t = 0 := if_neg h47
    refine lv_aload_n hx hb dL_law_268 rfl (lv_at hl 2 rfl) ?_
    refine lv_iconst (v := 0) hx hb dL_law_269 (by decide) ?_
    refine ldI (f := w 0) hx hb hK hP 0 ag_0 0 rfl (by decide) (by decide) dL_law_270 ?_
    refine lv_topE (z := nI t) (hw0) ?_
    refine lv_bipush (v := 47) hx hb dL_law_271 (by decide) ?_
    refine lv_icmp_ne (tgt := 281) hx hb dL_law_273 (by decide) (fun c_273 => ?_) (fun c_273 => absurd ((nI_eq (b := 47) (by omega) (by decide)).mp c_273) h47)
    refine lv_aload_n hx hb dL_law_281 rfl (lv_at hl 2 rfl) ?_
    refine lv_iconst (v := 0) hx hb dL_law_282 (by decide) ?_
    refine ldI (f := w 0) hx hb hK hP 0 ag_0 0 rfl (by decide) (by decide) dL_law_283 ?_
    refine lv_topE (z := nI t) (hw0) ?_
    refine lv_iconst (v := 1) hx hb dL_law_284 (by decide) ?_
    refine lv_iadd hx hb dL_law_285 ?_
    refine lv_topE (z := nI (t + 1)) (nI_add t 1) ?_
    refine lv_istore (lv' := [(11, .int (nI (t + 1))), (0, .ref b0), (1, .ref (a 13)), (2, .ref (r 0)), (3, .ref (r 1)), (4, .ref (r 2)), (5, .ref (r 3)), (6, .ref (r 4)), (7, .int (nI k)), (8, .int z), (9, .int (nI act)), (10, .int 1)]) hx hb dL_law_286 hl (by decide) rfl (fun ls hl => ?_)
    refine lv_iload hx hb dL_law_288 (lv_at hl 0 rfl) ?_
    refine lv_if_le (tgt := 304) hx hb dL_law_290 (by decide) (fun c_290 => absurd c_290 (nI_nle (by omega) (by omega))) (fun c_290 => ?_)
    refine lv_aload_n hx hb dL_law_293 rfl (lv_at hl 4 rfl) ?_
    refine lv_aload hx hb dL_law_294 (lv_at hl 5 rfl) ?_
    refine lv_aload hx hb dL_law_296 (lv_at hl 6 rfl) ?_
    refine lv_aload hx hb dL_law_298 (lv_at hl 7 rfl) ?_
    refine lv_aload_n hx hb dL_law_300 rfl (lv_at hl 3 rfl) ?_
    have hPj := swP hP
    have hDj := swD hD
    have hFc : ∀ q, va_A (lwA y r w) H.size q → A q := freeR hDj hS hA
    have hPc : va_P G vwCl (lwA y r w) H := wR hPj
    have hDc : va_D (fun _ => True) (lwA y r w) := (wRD hDj).weaken (fun _ _ _ _ => trivial)
    refine caN (va_runS (As := [.ref (r 1), .ref (r 2), .ref (r 3), .ref (r 4), .ref (r 0)]) (rest := []) ⟨hx, hb, hml, hown, hts⟩ (c_L_closes l G y r w H.size t hw0 ht47 n hw1 hn8 (wBr w) (wPr w) bo (cl_h h)) (va_cwS 5 hts gL_law_L_closes rfl rfl rfl (by decide +kernel) ⟨Nat.le_of_ble_eq_true rfl, Nat.le_of_ble_eq_true rfl⟩) ⟨mP_bl, fun U hU hW => ⟨rfl, by rw [hU], by rw [hU]; exact hPc, Kb.moved hW hK, hDc⟩⟩ rfl rfl hl.1 rfl (lv_room (Nat.le_of_ble_eq_true rfl)) dL_law_301 ⟨by show cells + 0 ≤ 600074; omega, by show slots + 0 ≤ 7301550; omega⟩) hS hFc hFc (fun _ H locs _ hP1 hD1 hk1 hS => ?_)
    obtain ⟨hPz, hDz⟩ := joinW hPj hDj hk1 hP1 hD1 hFc
    have hP : va_P G vwCl (lwA y r (gClose w t n (wBr w) (wPr w) bo) ++ bkW y a b n la L) H := swP hPz
    have hD : va_D A (lwA y r (gClose w t n (wBr w) (wPr w) bo) ++ bkW y a b n la L) := swD hDz
    refine lv_aload_n hx hb dL_law_304 rfl (lv_at hl 2 rfl) ?_
    refine lv_iconst (v := 2) hx hb dL_law_305 (by decide) ?_
    refine lv_iconst (v := 0) hx hb dL_law_306 (by decide) ?_
    refine lv_iconst (v := 0) hx hb dL_law_307 (by decide) ?_
    have hPj := hP
    have hDj := hD
    have hFc : ∀ q, va_A (bkW y a b n la L) H.size q → A q := freeR hDj hS hA
    have hPc : va_P G vwCl (bkW y a b n la L) H := wR hPj
    have hDc : va_D (fun _ => True) (bkW y a b n la L) := (wRD hDj).weaken (fun _ _ _ _ => trivial)
    refine caN (vx_runSW (As := [.ref (a 13), .int 2, .int 0, .int 0]) (rest := []) ⟨hx, hb, hml, hown, hts⟩ (c_L_calls2 l hlt G y a b n la L H.size pd hpd t hbt ht47 0 0 (Or.inl hX0)) (vx_cwSW 4 hts gL_law_L_calls rfl rfl rfl (by decide +kernel) ⟨Nat.le_of_ble_eq_true rfl, Nat.le_of_ble_eq_true rfl⟩) ⟨xP_bl, fun U hU hW => ⟨rfl, by rw [hU], by rw [hU]; exact hPc, Kb.moved hW hK, hDc, by rw [hU]; exact Zs.moved hW.alike ((hZ.kept hS.2.1).narrow hFc)⟩⟩ rfl rfl hl.1 rfl (lv_room (Nat.le_of_ble_eq_true rfl)) dL_law_308 ⟨by show cells + 1 ≤ 600074; omega, by show slots + 6 ≤ 7301550; omega⟩) hS hFc hFc (fun _ H locs _ hP1 hD1 hk1 hS => ?_)
    obtain ⟨hP, hD⟩ := joinW hPj hDj hk1 hP1 hD1 hFc
    rw [if_pos hX0] at hP hD
    refine lv_topE (z := nI (t + 1)) (by rw [hX0]; rfl) ?_
    refine lv_iload hx hb dL_law_311 (lv_at hl 0 rfl) ?_
    refine lv_icmp_ne (tgt := 320) hx hb dL_law_313 (by decide) (fun c_313 => absurd rfl c_313) (fun c_313 => ?_)
    refine lv_iconst (v := 1) hx hb dL_law_316 (by decide) ?_
    refine lv_goto (tgt := 321) hx hb dL_law_317 (by decide) ?_
    refine lv_istore (lv' := [(10, .int 1), (11, .int (nI (t + 1))), (0, .ref b0), (1, .ref (a 13)), (2, .ref (r 0)), (3, .ref (r 1)), (4, .ref (r 2)), (5, .ref (r 3)), (6, .ref (r 4)), (7, .int (nI k)), (8, .int z), (9, .int (nI act))]) hx hb dL_law_321 hl (by decide) rfl (fun ls hl => ?_)
    refine W.widen (k := cells + 3) (n := slots + 20) (by omega) (by omega) ?_
    exact lw_so hlt F9 hk hc hs (u := ((gClose w t n (wBr w) (wPr w) bo), bClose b t n L pd, n, la, bPA L n pd 24)) (⟨t + 1, _, bo, mo, s_close h (by omega)⟩) hP hD hS (lv_sub hl [2, 3, 4, 5, 6, 7, 8, 9, 0] rfl) hend
set_option maxHeartbeats 4000000 in
set_option maxRecDepth 100000 in
theorem lw_turn  (hlt : l.stackTraces = false) (F : LF p s m c args G y A b0 N xs) (hk : k < 110) (hc : cells + 3 ≤ 600074) (hs : slots + 20 ≤ 7301550) (h : PR b w n L t pd bo mo)  (hP : va_P G vwCl (lwA y r w ++ bkW y a b n la L) H) (hD : va_D A (lwA y r w ++ bkW y a b n la L)) (hS : va_S A s.heap H locs) (hl : lv_has ls 14 [(0, .ref b0), (1, .ref (a 13)), (2, .ref (r 0)), (3, .ref (r 1)), (4, .ref (r 2)), (5, .ref (r 3)), (6, .ref (r 4)), (7, .int (nI k))]) (hend : ∀ (H : Heap) (locs : List Loc) (ls : Array Slot), Inv G y r a A s.heap H locs → lv_has ls 14 (lvB b0 a r k) → W p l e room_1 s m args below meth c H locs (cells + 3) (slots + 20) Q (F0 m 345 ls [])) : W p l e room_1 s m args below meth c H locs cells slots Q (F0 m 51 ls []) := by
  have F9 := F
  obtain ⟨hx, hb, hml, hown, hts, hK, hZ, hX, hbl, hbA, hA, hN⟩ := F
  have hn8 : n ≤ 8 := h.1.1
  have hn24 : n ≤ 24 := by omega
  have ht47 : t ≤ 47 := h.1.2.1
  have hbn : b 13 6 = nI n := h.1.2.2.1
  have hw1 : w 0 1 = nI n := h.1.2.2.2.1
  have hbt : b 13 4 = nI t := h.1.2.2.2.2.1
  have hw0 : w 0 0 = nI t := h.1.2.2.2.2.2.1
  have hT := h.1.2.2.2.2.2.2.2.2.2.2.2.2.2
  have h7 := h.1.2.2.2.2.2.2.2.2.2.2.2.2.1
  have hM := h.2.1
  have hpd : ∀ k, k < n → L k 0 7 = nI (pd k) ∧ pd k ≤ 6 := fun k hk => (h.2.2 k hk).2.2.2.2.2.1
  have hmo : ∀ k, k < n → ¬ w 1 ((8 * k) + 4) = 0 := fun k hk q => by
    have h4 := (h.2.2 k hk).2.2.2.2.2.2.2.1
    rw [h4.1] at q
    exact nI_ne0 (by omega) (by omega) q
  have hbo : ∀ k, k < n → w 1 ((8 * k) + 5) = nI (bo k) ∧ bo k ≤ t := fun k hk => (h.2.2 k hk).2.2.2.2.2.2.1
  refine lv_aload_n hx hb dL_law_51 rfl (lv_at hl 0 rfl) ?_
  refine lv_iload hx hb dL_law_52 (lv_at hl 7 rfl) ?_
  refine caR (r := .int (cE N xs k)) (va_runS (As := [.ref b0, .int (nI k)]) (rest := []) ⟨hx, hb, hml, hown, hts⟩ (c_L_cell l b0 N xs k hN hk) (va_cwS 2 hts gL_law_L_cell rfl rfl rfl (by decide +kernel) ⟨Nat.le_of_ble_eq_true rfl, Nat.le_of_ble_eq_true rfl⟩) ⟨cP_bl, fun U hU hW => ⟨rfl, by rw [hU]; exact (hX.kept (hS.2.1 b0 hbl hbA)).moved hW.alike, by rw [hU]; exact Nat.lt_of_lt_of_le hbl hS.1⟩⟩ rfl rfl hl.1 rfl (lv_room (Nat.le_of_ble_eq_true rfl)) dL_law_54 ⟨by show cells + 0 ≤ 600074; omega, by show slots + 0 ≤ 7301550; omega⟩) ?_
  generalize cE N xs k = z
  refine lv_istore (lv' := [(8, .int z), (0, .ref b0), (1, .ref (a 13)), (2, .ref (r 0)), (3, .ref (r 1)), (4, .ref (r 2)), (5, .ref (r 3)), (6, .ref (r 4)), (7, .int (nI k))]) hx hb dL_law_57 hl (by decide) rfl (fun ls hl => ?_)
  refine lv_iload hx hb dL_law_59 (lv_at hl 8 rfl) ?_
  refine lv_bipush (v := 6) hx hb dL_law_61 (by decide) ?_
  refine W.pick (tgt := 77) (st := fun act : Nat => [.int (nI act)]) (P := fun act => act < 16) (fun act hact => ?_) (fun key => ?_)
  · refine lv_istore (lv' := [(9, .int (nI act)), (8, .int z), (0, .ref b0), (1, .ref (a 13)), (2, .ref (r 0)), (3, .ref (r 1)), (4, .ref (r 2)), (5, .ref (r 3)), (6, .ref (r 4)), (7, .int (nI k))]) hx hb dL_law_77 hl (by decide) rfl (fun ls hl => ?_)
    refine lv_iconst (v := 1) hx hb dL_law_79 (by decide) ?_
    refine lv_istore (lv' := [(10, .int 1), (9, .int (nI act)), (8, .int z), (0, .ref b0), (1, .ref (a 13)), (2, .ref (r 0)), (3, .ref (r 1)), (4, .ref (r 2)), (5, .ref (r 3)), (6, .ref (r 4)), (7, .int (nI k))]) hx hb dL_law_80 hl (by decide) rfl (fun ls hl => ?_)
    refine lv_iload hx hb dL_law_82 (lv_at hl 1 rfl) ?_
    refine lv_iconst (v := 2) hx hb dL_law_84 (by decide) ?_
    refine lv_icmp_ge (tgt := 105) hx hb dL_law_85 (by decide) (fun c_85 => ?_) (fun c_85 => ?_)
    · refine lv_iload hx hb dL_law_105 (lv_at hl 1 rfl) ?_
      refine lv_iconst (v := 5) hx hb dL_law_107 (by decide) ?_
      refine lv_icmp_ge (tgt := 125) hx hb dL_law_108 (by decide) (fun c_108 => ?_) (fun c_108 => ?_)
      · refine lv_iload hx hb dL_law_125 (lv_at hl 1 rfl) ?_
        refine lv_bipush (v := 9) hx hb dL_law_127 (by decide) ?_
        refine lv_icmp_ge (tgt := 148) hx hb dL_law_129 (by decide) (fun c_129 => ?_) (fun c_129 => ?_)
        · refine lv_iload hx hb dL_law_148 (lv_at hl 1 rfl) ?_
          refine lv_bipush (v := 9) hx hb dL_law_150 (by decide) ?_
          refine lv_icmp_ne (tgt := 261) hx hb dL_law_152 (by decide) (fun c_152 => ?_) (fun c_152 => ?_)
          · refine lv_iload hx hb dL_law_261 (lv_at hl 1 rfl) ?_
            refine lv_bipush (v := 10) hx hb dL_law_263 (by decide) ?_
            refine lv_icmp_le (tgt := 323) hx hb dL_law_265 (by decide) (fun c_265 => ?_) (fun c_265 => ?_)
            · refine W.widen (k := cells + 3) (n := slots + 20) (by omega) (by omega) ?_
              exact lw_so hlt F9 hk hc hs (u := (w, b, n, la, L)) (⟨t, pd, bo, mo, h⟩) hP hD hS (lv_sub hl [3, 4, 5, 6, 7, 8, 9, 10, 0] rfl) hend
            · exact lw_close hlt F9 hk hc hs h  hP hD hS (lv_sub hl [3, 4, 5, 6, 7, 8, 9, 10, 2, 1, 0] rfl) hend
          · refine lv_aload_n hx hb dL_law_155 rfl (lv_at hl 5 rfl) ?_
            refine lv_iconst (v := 1) hx hb dL_law_156 (by decide) ?_
            refine ldI (f := w 0) hx hb hK hP 0 ag_0 1 rfl (by decide) (by decide) dL_law_157 ?_
            refine lv_topE (z := nI n) (hw1) ?_
            refine lv_if_le (tgt := 261) hx hb dL_law_158 (by decide) (fun c_158 => ?_) (fun c_158 => ?_)
            · refine lv_iload hx hb dL_law_261 (lv_at hl 1 rfl) ?_
              refine lv_bipush (v := 10) hx hb dL_law_263 (by decide) ?_
              refine lv_icmp_le (tgt := 323) hx hb dL_law_265 (by decide) (fun c_265 => ?_) (fun c_265 => ?_)
              · refine W.widen (k := cells + 3) (n := slots + 20) (by omega) (by omega) ?_
                exact lw_so hlt F9 hk hc hs (u := (w, b, n, la, L)) (⟨t, pd, bo, mo, h⟩) hP hD hS (lv_sub hl [3, 4, 5, 6, 7, 8, 9, 10, 0] rfl) hend
              · exact lw_close hlt F9 hk hc hs h  hP hD hS (lv_sub hl [3, 4, 5, 6, 7, 8, 9, 10, 2, 1, 0] rfl) hend
            · have hn0 : 0 < n := Nat.pos_of_ne_zero (fun q => c_158 (by rw [q]; decide))
              exact lw_repay hlt F9 hk hc hs h hn0 hP hD hS (lv_sub hl [3, 4, 5, 6, 7, 8, 9, 10, 2, 1, 0] rfl) hend
        · exact lw_deposits hlt F9 hk hc hs h  hP hD hS (lv_sub hl [3, 4, 5, 6, 7, 8, 9, 10, 2, 1, 0] rfl) hend
      · exact lw_sets hlt F9 hk hc hs h  hP hD hS (lv_sub hl [3, 4, 5, 6, 7, 8, 9, 10, 2, 1, 0] rfl) hend
    · exact lw_lends hlt F9 hk hc hs h  hP hD hS (lv_sub hl [3, 4, 5, 6, 7, 8, 9, 10, 2, 1, 0] rfl) hend
  · refine lv_icmp_ge (tgt := 70) hx hb dL_law_63 (by decide) (fun c_63 => ?_) (fun c_63 => ?_)
    · refine lv_iload hx hb dL_law_70 (lv_at hl 0 rfl) ?_
      refine lv_bipush (v := 16) hx hb dL_law_72 (by decide) ?_
      refine caR (r := .int (nI (lo z 16))) (va_runS (As := [.int z, .int 16]) (rest := []) ⟨hx, hb, hml, hown, hts⟩ (c_L_low l z 16 (by decide) (by decide)) (va_cwS 2 hts gL_law_L_low rfl rfl rfl (by decide +kernel) ⟨Nat.le_of_ble_eq_true rfl, Nat.le_of_ble_eq_true rfl⟩) ⟨nP_bl, fun _ _ _ => ⟨rfl, trivial⟩⟩ rfl rfl hl.1 rfl (lv_room (Nat.le_of_ble_eq_true rfl)) dL_law_74 ⟨by show cells + 0 ≤ 600074; omega, by show slots + 0 ≤ 7301550; omega⟩) ?_
      have h_q := lo_lt (v := z) (M := 16) (by decide)
      generalize lo z 16 = q at h_q ⊢
      exact key q h_q
    · refine lv_iconst (v := 3) hx hb dL_law_66 (by decide) ?_
      refine lv_goto (tgt := 77) hx hb dL_law_67 (by decide) ?_
      exact key 3 (by decide)
set_option maxHeartbeats 4000000 in
set_option maxRecDepth 100000 in
theorem lw_loop (hlt : l.stackTraces = false) (F : LF p s m c args G y A b0 N xs)
    (hdone : ∀ (H : Heap) (locs : List Loc) (ls : Array Slot) (cells slots : Nat), cells ≤ 600074 → slots ≤ 7301550 → va_S A s.heap H locs → W p l e room_1 s m args below meth c H locs cells slots Q (F0 m 351 ls [])) :
    ∀ (j k cells slots : Nat), k + j = 110 → cells + 3 * j ≤ 600074 → slots + 20 * j ≤ 7301550 → ∀ (H : Heap) (locs : List Loc) (ls : Array Slot), Inv G y r a A s.heap H locs → lv_has ls 14 (lvB b0 a r k) → W p l e room_1 s m args below meth c H locs cells slots Q (F0 m 44 ls []) := by
  have F9 := F
  obtain ⟨hx, hb, hml, hown, hts, hK, hZ, hX, hbl, hbA, hA, hN⟩ := F
  intro j
  induction j with
  | zero =>
    intro k cells slots hkj hc hs H locs ls hI hl
    have hk : k = 110 := by omega
    subst hk
    refine lv_iload hx hb dL_law_44 (lv_at hl 7 rfl) ?_
    refine lv_bipush (v := 110) hx hb dL_law_46 (by decide) ?_
    refine lv_icmp_ge (tgt := 351) hx hb dL_law_48 (by decide) (fun _ => hdone H locs ls cells slots (by omega) (by omega) hI.choose_spec.2.2.2) (fun h => absurd (nI_le (Nat.le_refl 110) (by decide)) h)
  | succ j ih =>
    intro k cells slots hkj hc hs H locs ls hI hl
    refine lv_iload hx hb dL_law_44 (lv_at hl 7 rfl) ?_
    refine lv_bipush (v := 110) hx hb dL_law_46 (by decide) ?_
    refine lv_icmp_ge (tgt := 351) hx hb dL_law_48 (by decide) (fun h => absurd h (nI_ge (show k < 110 by omega) (by decide))) (fun _ => ?_)
    obtain ⟨⟨w, b, n, la, L⟩, ⟨t, pd, bo, mo, h⟩, hP, hD, hS⟩ := hI
    refine lw_turn hlt F9 (show k < 110 by omega) (by omega) (by omega) h hP hD hS hl (fun H locs ls hI hl => ?_)
    refine lv_iinc (v := nI (k + 1)) (lv' := [(7, .int (nI (k + 1))), (0, .ref b0), (1, .ref (a 13)), (2, .ref (r 0)), (3, .ref (r 1)), (4, .ref (r 2)), (5, .ref (r 3)), (6, .ref (r 4))]) hx hb dL_law_345 hl (k := 7) rfl iinc1 (by decide) rfl (fun ls hl => ?_)
    refine lv_goto (tgt := 44) hx hb dL_law_348 (by decide) ?_
    exact ih (k + 1) (cells + 3) (slots + 20) (by omega) (by omega) (by omega) H locs ls hI (lv_sub hl [1, 2, 3, 4, 5, 6, 7, 0] rfl)
end LB
