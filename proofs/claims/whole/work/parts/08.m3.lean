/-! ===== the model's closeMonth (printed by a program of mine) ===== -/
set_option maxHeartbeats 4000000 in
set_option maxRecDepth 100000 in
theorem c_X3_closeMonth_1c (l : Launch) (G : va_G) (y : Nat → ClassId) (a : Nat → Nat) (v : MS) (n : Nat) (hn : v 0 6 = nI n) (hn24 : n ≤ 24) (t : Nat) (ht : v 0 1 = nI t) (ht47 : t ≤ 47) (bo : Nat → Nat) (hbo : ∀ l, l < n → v 12 l = nI (bo l) ∧ bo l ≤ t) (ht46 : t < 47) (hbr : ∀ l, l < n → v 7 l = nI (cn (v 7 l)) ∧ cn (v 7 l) < 3) (hpr : ∀ l, l < n → v 8 l = nI (cn (v 8 l)) ∧ cn (v 8 l) < 3) (k : Nat) (hk_k : k < n) (hb1 : cn (v 7 k) < 3) (hp1 : cn (v 8 k) < 3) {p : Program} {e : Env} {s : State} {m : MethodId} {args : Array Value} {below : List Frame} {meth : Method} {c : Code} {A : Nat → Prop} {H : Heap} {locs : List Loc} {ls : Array Slot} (hx : p.tables.exec = Jvm.exec) (hb : c.code = cX3_closeMonth) (hr : meth.sig.returnType = (some .int)) (hml : c.maxLocals = 4) (hown : s.vm.findClass RX3 = some m.cls) (hlocks : meth.locks = false) (hts : ∀ w ∈ wsX3_closeMonth, w.before args s = true) (hin3 : ∀ w ∈ wsX30, w ∈ wsX3_closeMonth) (hK : Kb G y s) (hA : ∀ q : Nat, s.heap.size ≤ q → A q) (hS : va_S A s.heap H locs) (hP : va_P G vwCl (mdW y a (u2 (u2 (mC1 (mT v 0) t k) 18 (3 * t + cn (v 7 k)) (((mC1 (mT v 0) t k) 18) (3 * t + cn (v 7 k)) + mBear v k 3)) 19 (3 * t + cn (v 8 k)) ((mC1 (mT v 0) t k) 19 (3 * t + cn (v 8 k)) + mBear v k 3))) H) (hD : va_D A (mdW y a (u2 (u2 (mC1 (mT v 0) t k) 18 (3 * t + cn (v 7 k)) (((mC1 (mT v 0) t k) 18) (3 * t + cn (v 7 k)) + mBear v k 3)) 19 (3 * t + cn (v 8 k)) ((mC1 (mT v 0) t k) 19 (3 * t + cn (v 8 k)) + mBear v k 3)))) (hl : lv_has ls 4 [(0, .ref (a 0)), (1, .int (S32 (fun j => mBear v j 1 + mBear v j 2) k)), (2, .int (S32 (fun j => mBear v j 0) k)), (3, .int (nI k))]) (ih_k : ∀ (H : Heap) (locs : List Loc) (ls : Array Slot), va_P G vwCl (mdW y a (mC1 (mT v 0) t (k + 1))) H → va_D A (mdW y a (mC1 (mT v 0) t (k + 1))) → va_S A s.heap H locs → lv_has ls 4 [(0, .ref (a 0)), (1, .int (S32 (fun j => mBear v j 1 + mBear v j 2) (k + 1))), (2, .int (S32 (fun j => mBear v j 0) (k + 1))), (3, .int (nI (k + 1)))] → W p l e (headSpec wsX3_closeMonth ({ frames := 2, cells := 0, slots := 0, locals := 52 })).room s m args below meth c H locs 0 0 (MQ below (mQ G (fun _ : Unit => some (.int (mClose v bo n t).2)) (fun _ => True) (fun _ => mdW y a (mClose v bo n t).1) A) args s 0 0 A) (F0 m 26 ls [])) : W p l e (headSpec wsX3_closeMonth ({ frames := 2, cells := 0, slots := 0, locals := 52 })).room s m args below meth c H locs 0 0 (MQ below (mQ G (fun _ : Unit => some (.int (mClose v bo n t).2)) (fun _ => True) (fun _ => mdW y a (mClose v bo n t).1) A) args s 0 0 A) (F0 m 88 ls []) := by
  refine lv_iload_n hx hb dX3_closeMonth_88 rfl (lv_at hl 1 rfl) ?_
  refine lv_aload_n hx hb dX3_closeMonth_89 rfl (lv_at hl 0 rfl) ?_
  refine lv_iload_n hx hb dX3_closeMonth_90 rfl (lv_at hl 3 rfl) ?_
  refine lv_iconst (v := 1) hx hb dX3_closeMonth_91 (by decide) ?_
  refine caR (r := .int (mBear (u2 (u2 (mC1 (mT v 0) t k) 18 (3 * t + cn (v 7 k)) (((mC1 (mT v 0) t k) 18) (3 * t + cn (v 7 k)) + mBear v k 3)) 19 (3 * t + cn (v 8 k)) ((mC1 (mT v 0) t k) 19 (3 * t + cn (v 8 k)) + mBear v k 3)) k 1)) (va_runV (As := [.int (nI k), .int 1]) (rest := [.int (S32 (fun j => mBear v j 1 + mBear v j 2) k)]) ⟨hx, hb, hml, hown, hts⟩ (c_X3_bear l G y a (u2 (u2 (mC1 (mT v 0) t k) 18 (3 * t + cn (v 7 k)) (((mC1 (mT v 0) t k) 18) (3 * t + cn (v 7 k)) + mBear v k 3)) 19 (3 * t + cn (v 8 k)) ((mC1 (mT v 0) t k) 19 (3 * t + cn (v 8 k)) + mBear v k 3)) k (by omega) 1) (cwV 2 hts gX3_closeMonth_X3_bear rfl rfl rfl (by decide +kernel) ⟨Nat.le_of_ble_eq_true rfl, Nat.le_of_ble_eq_true rfl⟩) ⟨rP_bl, va_recv hK.1 hP (ci := 3) (q0 := 0) rfl rfl, fun U hU hW => ⟨rfl, by rw [hU]; exact hP, Kb.moved hW hK⟩⟩ rfl rfl hl.1 rfl (lv_room (Nat.le_of_ble_eq_true rfl)) dX3_closeMonth_92 ⟨Nat.le_of_ble_eq_true rfl, Nat.le_of_ble_eq_true rfl⟩) ?_
  refine lv_topE (z := mBear v k 1) (mBear_c (by rw [u2_j (by decide), u2_j (by decide), mC1_o (by decide) (by decide)]; rfl) (by rw [u2_j (by decide), u2_j (by decide), mC1_o (by decide) (by decide)]; rfl) (by rw [u2_j (by decide), u2_j (by decide), mC1_o (by decide) (by decide)]; rfl) (by rw [u2_j (by decide), u2_j (by decide), mC1_o (by decide) (by decide)]; rfl) (by rw [u2_j (by decide), u2_j (by decide), mC1_o (by decide) (by decide)]; rfl)) ?_
  refine lv_aload_n hx hb dX3_closeMonth_95 rfl (lv_at hl 0 rfl) ?_
  refine lv_iload_n hx hb dX3_closeMonth_96 rfl (lv_at hl 3 rfl) ?_
  refine lv_iconst (v := 2) hx hb dX3_closeMonth_97 (by decide) ?_
  refine caR (r := .int (mBear (u2 (u2 (mC1 (mT v 0) t k) 18 (3 * t + cn (v 7 k)) (((mC1 (mT v 0) t k) 18) (3 * t + cn (v 7 k)) + mBear v k 3)) 19 (3 * t + cn (v 8 k)) ((mC1 (mT v 0) t k) 19 (3 * t + cn (v 8 k)) + mBear v k 3)) k 2)) (va_runV (As := [.int (nI k), .int 2]) (rest := [.int (mBear v k 1), .int (S32 (fun j => mBear v j 1 + mBear v j 2) k)]) ⟨hx, hb, hml, hown, hts⟩ (c_X3_bear l G y a (u2 (u2 (mC1 (mT v 0) t k) 18 (3 * t + cn (v 7 k)) (((mC1 (mT v 0) t k) 18) (3 * t + cn (v 7 k)) + mBear v k 3)) 19 (3 * t + cn (v 8 k)) ((mC1 (mT v 0) t k) 19 (3 * t + cn (v 8 k)) + mBear v k 3)) k (by omega) 2) (cwV 2 hts gX3_closeMonth_X3_bear rfl rfl rfl (by decide +kernel) ⟨Nat.le_of_ble_eq_true rfl, Nat.le_of_ble_eq_true rfl⟩) ⟨rP_bl, va_recv hK.1 hP (ci := 3) (q0 := 0) rfl rfl, fun U hU hW => ⟨rfl, by rw [hU]; exact hP, Kb.moved hW hK⟩⟩ rfl rfl hl.1 rfl (lv_room (Nat.le_of_ble_eq_true rfl)) dX3_closeMonth_98 ⟨Nat.le_of_ble_eq_true rfl, Nat.le_of_ble_eq_true rfl⟩) ?_
  refine lv_topE (z := mBear v k 2) (mBear_c (by rw [u2_j (by decide), u2_j (by decide), mC1_o (by decide) (by decide)]; rfl) (by rw [u2_j (by decide), u2_j (by decide), mC1_o (by decide) (by decide)]; rfl) (by rw [u2_j (by decide), u2_j (by decide), mC1_o (by decide) (by decide)]; rfl) (by rw [u2_j (by decide), u2_j (by decide), mC1_o (by decide) (by decide)]; rfl) (by rw [u2_j (by decide), u2_j (by decide), mC1_o (by decide) (by decide)]; rfl)) ?_
  refine lv_iadd hx hb dX3_closeMonth_101 ?_
  refine lv_iadd hx hb dX3_closeMonth_102 ?_
  refine lv_topE (z := S32 (fun j => mBear v j 1 + mBear v j 2) (k + 1)) (S32_s (f := fun j => mBear v j 1 + mBear v j 2)) ?_
  refine lv_istore_n (lv' := [(1, .int (S32 (fun j => mBear v j 1 + mBear v j 2) (k + 1))), (0, .ref (a 0)), (2, .int (S32 (fun j => mBear v j 0) k)), (3, .int (nI k))]) hx hb dX3_closeMonth_103 rfl hl (by decide) rfl (fun ls hl => ?_)
  refine lv_iload_n hx hb dX3_closeMonth_104 rfl (lv_at hl 2 rfl) ?_
  refine lv_aload_n hx hb dX3_closeMonth_105 rfl (lv_at hl 1 rfl) ?_
  refine lv_iload_n hx hb dX3_closeMonth_106 rfl (lv_at hl 3 rfl) ?_
  refine lv_iconst (v := 0) hx hb dX3_closeMonth_107 (by decide) ?_
  refine caR (r := .int (mBear (u2 (u2 (mC1 (mT v 0) t k) 18 (3 * t + cn (v 7 k)) (((mC1 (mT v 0) t k) 18) (3 * t + cn (v 7 k)) + mBear v k 3)) 19 (3 * t + cn (v 8 k)) ((mC1 (mT v 0) t k) 19 (3 * t + cn (v 8 k)) + mBear v k 3)) k 0)) (va_runV (As := [.int (nI k), .int 0]) (rest := [.int (S32 (fun j => mBear v j 0) k)]) ⟨hx, hb, hml, hown, hts⟩ (c_X3_bear l G y a (u2 (u2 (mC1 (mT v 0) t k) 18 (3 * t + cn (v 7 k)) (((mC1 (mT v 0) t k) 18) (3 * t + cn (v 7 k)) + mBear v k 3)) 19 (3 * t + cn (v 8 k)) ((mC1 (mT v 0) t k) 19 (3 * t + cn (v 8 k)) + mBear v k 3)) k (by omega) 0) (cwV 2 hts gX3_closeMonth_X3_bear rfl rfl rfl (by decide +kernel) ⟨Nat.le_of_ble_eq_true rfl, Nat.le_of_ble_eq_true rfl⟩) ⟨rP_bl, va_recv hK.1 hP (ci := 3) (q0 := 0) rfl rfl, fun U hU hW => ⟨rfl, by rw [hU]; exact hP, Kb.moved hW hK⟩⟩ rfl rfl hl.1 rfl (lv_room (Nat.le_of_ble_eq_true rfl)) dX3_closeMonth_108 ⟨Nat.le_of_ble_eq_true rfl, Nat.le_of_ble_eq_true rfl⟩) ?_
  refine lv_topE (z := mBear v k 0) (mBear_c (by rw [u2_j (by decide), u2_j (by decide), mC1_o (by decide) (by decide)]; rfl) (by rw [u2_j (by decide), u2_j (by decide), mC1_o (by decide) (by decide)]; rfl) (by rw [u2_j (by decide), u2_j (by decide), mC1_o (by decide) (by decide)]; rfl) (by rw [u2_j (by decide), u2_j (by decide), mC1_o (by decide) (by decide)]; rfl) (by rw [u2_j (by decide), u2_j (by decide), mC1_o (by decide) (by decide)]; rfl)) ?_
  refine lv_iadd hx hb dX3_closeMonth_111 ?_
  refine lv_topE (z := S32 (fun j => mBear v j 0) (k + 1)) (S32_s (f := fun j => mBear v j 0)) ?_
  refine lv_istore_n (lv' := [(2, .int (S32 (fun j => mBear v j 0) (k + 1))), (1, .int (S32 (fun j => mBear v j 1 + mBear v j 2) (k + 1))), (0, .ref (a 0)), (3, .int (nI k))]) hx hb dX3_closeMonth_112 rfl hl (by decide) rfl (fun ls hl => ?_)
  refine lv_iinc (v := (nI (k + 1))) (lv' := [(3, .int (nI (k + 1))), (2, .int (S32 (fun j => mBear v j 0) (k + 1))), (1, .int (S32 (fun j => mBear v j 1 + mBear v j 2) (k + 1))), (0, .ref (a 0))]) hx hb dX3_closeMonth_113 hl (k := 3) rfl iinc1 (by decide) rfl (fun ls hl => ?_)
  refine lv_goto (tgt := 26) hx hb dX3_closeMonth_116 (by decide) ?_
  have hP : va_P G vwCl (mdW y a (mC1 (mT v 0) t (k + 1))) H := by rw [mC1_T]; exact hP
  have hD : va_D A (mdW y a (mC1 (mT v 0) t (k + 1))) := by rw [mC1_T]; exact hD
  exact ih_k _ _ ls hP hD hS (lv_sub hl [3, 2, 1, 0] rfl)
set_option maxHeartbeats 4000000 in
set_option maxRecDepth 100000 in
theorem c_X3_closeMonth_1b (l : Launch) (G : va_G) (y : Nat → ClassId) (a : Nat → Nat) (v : MS) (n : Nat) (hn : v 0 6 = nI n) (hn24 : n ≤ 24) (t : Nat) (ht : v 0 1 = nI t) (ht47 : t ≤ 47) (bo : Nat → Nat) (hbo : ∀ l, l < n → v 12 l = nI (bo l) ∧ bo l ≤ t) (ht46 : t < 47) (hbr : ∀ l, l < n → v 7 l = nI (cn (v 7 l)) ∧ cn (v 7 l) < 3) (hpr : ∀ l, l < n → v 8 l = nI (cn (v 8 l)) ∧ cn (v 8 l) < 3) (k : Nat) (hk_k : k < n) (hb1 : cn (v 7 k) < 3) (hp1 : cn (v 8 k) < 3) {p : Program} {e : Env} {s : State} {m : MethodId} {args : Array Value} {below : List Frame} {meth : Method} {c : Code} {A : Nat → Prop} {H : Heap} {locs : List Loc} {ls : Array Slot} (hx : p.tables.exec = Jvm.exec) (hb : c.code = cX3_closeMonth) (hr : meth.sig.returnType = (some .int)) (hml : c.maxLocals = 4) (hown : s.vm.findClass RX3 = some m.cls) (hlocks : meth.locks = false) (hts : ∀ w ∈ wsX3_closeMonth, w.before args s = true) (hin3 : ∀ w ∈ wsX30, w ∈ wsX3_closeMonth) (hK : Kb G y s) (hA : ∀ q : Nat, s.heap.size ≤ q → A q) (hS : va_S A s.heap H locs) (hP : va_P G vwCl (mdW y a (u2 (mC1 (mT v 0) t k) 18 (3 * t + cn (v 7 k)) (((mC1 (mT v 0) t k) 18) (3 * t + cn (v 7 k)) + mBear v k 3))) H) (hD : va_D A (mdW y a (u2 (mC1 (mT v 0) t k) 18 (3 * t + cn (v 7 k)) (((mC1 (mT v 0) t k) 18) (3 * t + cn (v 7 k)) + mBear v k 3)))) (hl : lv_has ls 4 [(0, .ref (a 0)), (1, .int (S32 (fun j => mBear v j 1 + mBear v j 2) k)), (2, .int (S32 (fun j => mBear v j 0) k)), (3, .int (nI k))]) (ih_k : ∀ (H : Heap) (locs : List Loc) (ls : Array Slot), va_P G vwCl (mdW y a (mC1 (mT v 0) t (k + 1))) H → va_D A (mdW y a (mC1 (mT v 0) t (k + 1))) → va_S A s.heap H locs → lv_has ls 4 [(0, .ref (a 0)), (1, .int (S32 (fun j => mBear v j 1 + mBear v j 2) (k + 1))), (2, .int (S32 (fun j => mBear v j 0) (k + 1))), (3, .int (nI (k + 1)))] → W p l e (headSpec wsX3_closeMonth ({ frames := 2, cells := 0, slots := 0, locals := 52 })).room s m args below meth c H locs 0 0 (MQ below (mQ G (fun _ : Unit => some (.int (mClose v bo n t).2)) (fun _ => True) (fun _ => mdW y a (mClose v bo n t).1) A) args s 0 0 A) (F0 m 26 ls [])) : W p l e (headSpec wsX3_closeMonth ({ frames := 2, cells := 0, slots := 0, locals := 52 })).room s m args below meth c H locs 0 0 (MQ below (mQ G (fun _ : Unit => some (.int (mClose v bo n t).2)) (fun _ => True) (fun _ => mdW y a (mClose v bo n t).1) A) args s 0 0 A) (F0 m 61 ls []) := by
  refine lv_aload_n hx hb dX3_closeMonth_61 rfl (lv_at hl 0 rfl) ?_
  refine mdG (v := (u2 (mC1 (mT v 0) t k) 18 (3 * t + cn (v 7 k)) (((mC1 (mT v 0) t k) 18) (3 * t + cn (v 7 k)) + mBear v k 3))) (val := .ref (a 19)) hx hb hts hin3 hown hK hP 19 (by decide) (hts (.fieldLink RX3 54 "FundBookModel" "products" "[I") (by decide +kernel)) rfl dX3_closeMonth_62 ?_
  refine lv_iconst (v := 3) hx hb dX3_closeMonth_65 (by decide) ?_
  refine lv_aload_n hx hb dX3_closeMonth_66 rfl (lv_at hl 0 rfl) ?_
  refine mdG (v := (u2 (mC1 (mT v 0) t k) 18 (3 * t + cn (v 7 k)) (((mC1 (mT v 0) t k) 18) (3 * t + cn (v 7 k)) + mBear v k 3))) (val := .int ((u2 (mC1 (mT v 0) t k) 18 (3 * t + cn (v 7 k)) (((mC1 (mT v 0) t k) 18) (3 * t + cn (v 7 k)) + mBear v k 3)) 0 1)) hx hb hts hin3 hown hK hP 1 (by decide) (hts (.fieldLink RX3 73 "FundBookModel" "now" "I") (by decide +kernel)) rfl dX3_closeMonth_67 ?_
  refine lv_topE (z := nI t) (by rw [u2_j (by decide), mC1_o (by decide) (by decide)]; exact ht) ?_
  refine lv_imul hx hb dX3_closeMonth_70 ?_
  refine lv_aload_n hx hb dX3_closeMonth_71 rfl (lv_at hl 0 rfl) ?_
  refine mdG (v := (u2 (mC1 (mT v 0) t k) 18 (3 * t + cn (v 7 k)) (((mC1 (mT v 0) t k) 18) (3 * t + cn (v 7 k)) + mBear v k 3))) (val := .ref (a 8)) hx hb hts hin3 hown hK hP 8 (by decide) (hts (.fieldLink RX3 20 "FundBookModel" "product" "[I") (by decide +kernel)) rfl dX3_closeMonth_72 ?_
  refine lv_iload_n hx hb dX3_closeMonth_75 rfl (lv_at hl 3 rfl) ?_
  refine ldI (f := ((u2 (mC1 (mT v 0) t k) 18 (3 * t + cn (v 7 k)) (((mC1 (mT v 0) t k) 18) (3 * t + cn (v 7 k)) + mBear v k 3)) 8)) hx hb hK hP 3 mg_8 k rfl (by omega) (by decide) dX3_closeMonth_76 ?_
  refine lv_topE (z := nI (cn (v 8 k))) (by rw [u2_j (by decide), mC1_o (by decide) (by decide)]; exact (hpr k hk_k).1) ?_
  refine lv_iadd hx hb dX3_closeMonth_77 ?_
  refine lv_topE (z := nI (3 * t + cn (v 8 k))) (ix3) ?_
  refine lv_dup2_11 hx hb dX3_closeMonth_78 rfl rfl ?_
  refine ldI (f := ((u2 (mC1 (mT v 0) t k) 18 (3 * t + cn (v 7 k)) (((mC1 (mT v 0) t k) 18) (3 * t + cn (v 7 k)) + mBear v k 3)) 19)) hx hb hK hP 14 mg_19 (3 * t + cn (v 8 k)) rfl (by omega) (by decide) dX3_closeMonth_79 ?_
  refine lv_topE (z := (mC1 (mT v 0) t k) 19 (3 * t + cn (v 8 k))) (by rw [u2_j (by decide)]) ?_
  refine lv_aload_n hx hb dX3_closeMonth_80 rfl (lv_at hl 0 rfl) ?_
  refine lv_iload_n hx hb dX3_closeMonth_81 rfl (lv_at hl 3 rfl) ?_
  refine lv_iconst (v := 3) hx hb dX3_closeMonth_82 (by decide) ?_
  refine caR (r := .int (mBear (u2 (mC1 (mT v 0) t k) 18 (3 * t + cn (v 7 k)) (((mC1 (mT v 0) t k) 18) (3 * t + cn (v 7 k)) + mBear v k 3)) k 3)) (va_runV (As := [.int (nI k), .int 3]) (rest := [.int ((mC1 (mT v 0) t k) 19 (3 * t + cn (v 8 k))), .int (nI (3 * t + cn (v 8 k))), .ref (a 19)]) ⟨hx, hb, hml, hown, hts⟩ (c_X3_bear l G y a (u2 (mC1 (mT v 0) t k) 18 (3 * t + cn (v 7 k)) (((mC1 (mT v 0) t k) 18) (3 * t + cn (v 7 k)) + mBear v k 3)) k (by omega) 3) (cwV 2 hts gX3_closeMonth_X3_bear rfl rfl rfl (by decide +kernel) ⟨Nat.le_of_ble_eq_true rfl, Nat.le_of_ble_eq_true rfl⟩) ⟨rP_bl, va_recv hK.1 hP (ci := 3) (q0 := 0) rfl rfl, fun U hU hW => ⟨rfl, by rw [hU]; exact hP, Kb.moved hW hK⟩⟩ rfl rfl hl.1 rfl (lv_room (Nat.le_of_ble_eq_true rfl)) dX3_closeMonth_83 ⟨Nat.le_of_ble_eq_true rfl, Nat.le_of_ble_eq_true rfl⟩) ?_
  refine lv_topE (z := mBear v k 3) (mBear_c (by rw [u2_j (by decide), mC1_o (by decide) (by decide)]; rfl) (by rw [u2_j (by decide), mC1_o (by decide) (by decide)]; rfl) (by rw [u2_j (by decide), mC1_o (by decide) (by decide)]; rfl) (by rw [u2_j (by decide), mC1_o (by decide) (by decide)]; rfl) (by rw [u2_j (by decide), mC1_o (by decide) (by decide)]; rfl)) ?_
  refine lv_iadd hx hb dX3_closeMonth_86 ?_
  refine stI (f := (u2 (mC1 (mT v 0) t k) 18 (3 * t + cn (v 7 k)) (((mC1 (mT v 0) t k) 18) (3 * t + cn (v 7 k)) + mBear v k 3)) 19) (ws1 := mdW y a (u2 (u2 (mC1 (mT v 0) t k) 18 (3 * t + cn (v 7 k)) (((mC1 (mT v 0) t k) 18) (3 * t + cn (v 7 k)) + mBear v k 3)) 19 (3 * t + cn (v 8 k)) ((mC1 (mT v 0) t k) 19 (3 * t + cn (v 8 k)) + mBear v k 3))) hx hb hK hP hD hS 14 mg_19 (3 * t + cn (v 8 k)) rfl (by omega) (by decide) ms_19 dX3_closeMonth_87 (fun H locs hP hD hS => ?_)
  exact c_X3_closeMonth_1c l G y a v n hn hn24 t ht ht47 bo hbo ht46 hbr hpr k hk_k hb1 hp1 hx hb hr hml hown hlocks hts hin3 hK hA hS hP hD (lv_sub hl [0, 1, 2, 3] rfl) ih_k
set_option maxHeartbeats 4000000 in
set_option maxRecDepth 100000 in
theorem c_X3_closeMonth_1a (l : Launch) (G : va_G) (y : Nat → ClassId) (a : Nat → Nat) (v : MS) (n : Nat) (hn : v 0 6 = nI n) (hn24 : n ≤ 24) (t : Nat) (ht : v 0 1 = nI t) (ht47 : t ≤ 47) (bo : Nat → Nat) (hbo : ∀ l, l < n → v 12 l = nI (bo l) ∧ bo l ≤ t) (ht46 : t < 47) (hbr : ∀ l, l < n → v 7 l = nI (cn (v 7 l)) ∧ cn (v 7 l) < 3) (hpr : ∀ l, l < n → v 8 l = nI (cn (v 8 l)) ∧ cn (v 8 l) < 3) (k : Nat) (hk_k : k < n) (hb1 : cn (v 7 k) < 3) (hp1 : cn (v 8 k) < 3) {p : Program} {e : Env} {s : State} {m : MethodId} {args : Array Value} {below : List Frame} {meth : Method} {c : Code} {A : Nat → Prop} {H : Heap} {locs : List Loc} {ls : Array Slot} (hx : p.tables.exec = Jvm.exec) (hb : c.code = cX3_closeMonth) (hr : meth.sig.returnType = (some .int)) (hml : c.maxLocals = 4) (hown : s.vm.findClass RX3 = some m.cls) (hlocks : meth.locks = false) (hts : ∀ w ∈ wsX3_closeMonth, w.before args s = true) (hin3 : ∀ w ∈ wsX30, w ∈ wsX3_closeMonth) (hK : Kb G y s) (hA : ∀ q : Nat, s.heap.size ≤ q → A q) (hS : va_S A s.heap H locs) (hP : va_P G vwCl (mdW y a (mC1 (mT v 0) t k)) H) (hD : va_D A (mdW y a (mC1 (mT v 0) t k))) (hl : lv_has ls 4 [(0, .ref (a 0)), (1, .int (S32 (fun j => mBear v j 1 + mBear v j 2) k)), (2, .int (S32 (fun j => mBear v j 0) k)), (3, .int (nI k))]) (ih_k : ∀ (H : Heap) (locs : List Loc) (ls : Array Slot), va_P G vwCl (mdW y a (mC1 (mT v 0) t (k + 1))) H → va_D A (mdW y a (mC1 (mT v 0) t (k + 1))) → va_S A s.heap H locs → lv_has ls 4 [(0, .ref (a 0)), (1, .int (S32 (fun j => mBear v j 1 + mBear v j 2) (k + 1))), (2, .int (S32 (fun j => mBear v j 0) (k + 1))), (3, .int (nI (k + 1)))] → W p l e (headSpec wsX3_closeMonth ({ frames := 2, cells := 0, slots := 0, locals := 52 })).room s m args below meth c H locs 0 0 (MQ below (mQ G (fun _ : Unit => some (.int (mClose v bo n t).2)) (fun _ => True) (fun _ => mdW y a (mClose v bo n t).1) A) args s 0 0 A) (F0 m 26 ls [])) : W p l e (headSpec wsX3_closeMonth ({ frames := 2, cells := 0, slots := 0, locals := 52 })).room s m args below meth c H locs 0 0 (MQ below (mQ G (fun _ : Unit => some (.int (mClose v bo n t).2)) (fun _ => True) (fun _ => mdW y a (mClose v bo n t).1) A) args s 0 0 A) (F0 m 34 ls []) := by
  refine lv_aload_n hx hb dX3_closeMonth_34 rfl (lv_at hl 0 rfl) ?_
  refine mdG (v := (mC1 (mT v 0) t k)) (val := .ref (a 18)) hx hb hts hin3 hown hK hP 18 (by decide) (hts (.fieldLink RX3 51 "FundBookModel" "margins" "[I") (by decide +kernel)) rfl dX3_closeMonth_35 ?_
  refine lv_iconst (v := 3) hx hb dX3_closeMonth_38 (by decide) ?_
  refine lv_aload_n hx hb dX3_closeMonth_39 rfl (lv_at hl 0 rfl) ?_
  refine mdG (v := (mC1 (mT v 0) t k)) (val := .int ((mC1 (mT v 0) t k) 0 1)) hx hb hts hin3 hown hK hP 1 (by decide) (hts (.fieldLink RX3 73 "FundBookModel" "now" "I") (by decide +kernel)) rfl dX3_closeMonth_40 ?_
  refine lv_topE (z := nI t) (by rw [mC1_o (by decide) (by decide)]; exact ht) ?_
  refine lv_imul hx hb dX3_closeMonth_43 ?_
  refine lv_aload_n hx hb dX3_closeMonth_44 rfl (lv_at hl 0 rfl) ?_
  refine mdG (v := (mC1 (mT v 0) t k)) (val := .ref (a 7)) hx hb hts hin3 hown hK hP 7 (by decide) (hts (.fieldLink RX3 17 "FundBookModel" "branch" "[I") (by decide +kernel)) rfl dX3_closeMonth_45 ?_
  refine lv_iload_n hx hb dX3_closeMonth_48 rfl (lv_at hl 3 rfl) ?_
  refine ldI (f := ((mC1 (mT v 0) t k) 7)) hx hb hK hP 2 mg_7 k rfl (by omega) (by decide) dX3_closeMonth_49 ?_
  refine lv_topE (z := nI (cn (v 7 k))) (by rw [mC1_o (by decide) (by decide)]; exact (hbr k hk_k).1) ?_
  refine lv_iadd hx hb dX3_closeMonth_50 ?_
  refine lv_topE (z := nI (3 * t + cn (v 7 k))) (ix3) ?_
  refine lv_dup2_11 hx hb dX3_closeMonth_51 rfl rfl ?_
  refine ldI (f := ((mC1 (mT v 0) t k) 18)) hx hb hK hP 13 mg_18 (3 * t + cn (v 7 k)) rfl (by omega) (by decide) dX3_closeMonth_52 ?_
  refine lv_aload_n hx hb dX3_closeMonth_53 rfl (lv_at hl 0 rfl) ?_
  refine lv_iload_n hx hb dX3_closeMonth_54 rfl (lv_at hl 3 rfl) ?_
  refine lv_iconst (v := 3) hx hb dX3_closeMonth_55 (by decide) ?_
  refine caR (r := .int (mBear (mC1 (mT v 0) t k) k 3)) (va_runV (As := [.int (nI k), .int 3]) (rest := [.int (((mC1 (mT v 0) t k) 18) (3 * t + cn (v 7 k))), .int (nI (3 * t + cn (v 7 k))), .ref (a 18)]) ⟨hx, hb, hml, hown, hts⟩ (c_X3_bear l G y a (mC1 (mT v 0) t k) k (by omega) 3) (cwV 2 hts gX3_closeMonth_X3_bear rfl rfl rfl (by decide +kernel) ⟨Nat.le_of_ble_eq_true rfl, Nat.le_of_ble_eq_true rfl⟩) ⟨rP_bl, va_recv hK.1 hP (ci := 3) (q0 := 0) rfl rfl, fun U hU hW => ⟨rfl, by rw [hU]; exact hP, Kb.moved hW hK⟩⟩ rfl rfl hl.1 rfl (lv_room (Nat.le_of_ble_eq_true rfl)) dX3_closeMonth_56 ⟨Nat.le_of_ble_eq_true rfl, Nat.le_of_ble_eq_true rfl⟩) ?_
  refine lv_topE (z := mBear v k 3) (mBear_c (by rw [mC1_o (by decide) (by decide)]; rfl) (by rw [mC1_o (by decide) (by decide)]; rfl) (by rw [mC1_o (by decide) (by decide)]; rfl) (by rw [mC1_o (by decide) (by decide)]; rfl) (by rw [mC1_o (by decide) (by decide)]; rfl)) ?_
  refine lv_iadd hx hb dX3_closeMonth_59 ?_
  refine stI (f := (mC1 (mT v 0) t k) 18) (ws1 := mdW y a (u2 (mC1 (mT v 0) t k) 18 (3 * t + cn (v 7 k)) (((mC1 (mT v 0) t k) 18) (3 * t + cn (v 7 k)) + mBear v k 3))) hx hb hK hP hD hS 13 mg_18 (3 * t + cn (v 7 k)) rfl (by omega) (by decide) ms_18 dX3_closeMonth_60 (fun H locs hP hD hS => ?_)
  exact c_X3_closeMonth_1b l G y a v n hn hn24 t ht ht47 bo hbo ht46 hbr hpr k hk_k hb1 hp1 hx hb hr hml hown hlocks hts hin3 hK hA hS hP hD (lv_sub hl [0, 1, 2, 3] rfl) ih_k
set_option maxHeartbeats 4000000 in
set_option maxRecDepth 100000 in
theorem c_X3_closeMonth_2b (l : Launch) (G : va_G) (y : Nat → ClassId) (a : Nat → Nat) (v : MS) (n : Nat) (hn : v 0 6 = nI n) (hn24 : n ≤ 24) (t : Nat) (ht : v 0 1 = nI t) (ht47 : t ≤ 47) (bo : Nat → Nat) (hbo : ∀ l, l < n → v 12 l = nI (bo l) ∧ bo l ≤ t) (ht46 : t < 47) (b : Nat) (hk_b : b < 3) {p : Program} {e : Env} {s : State} {m : MethodId} {args : Array Value} {below : List Frame} {meth : Method} {c : Code} {A : Nat → Prop} {H : Heap} {locs : List Loc} {ls : Array Slot} (hx : p.tables.exec = Jvm.exec) (hb : c.code = cX3_closeMonth) (hr : meth.sig.returnType = (some .int)) (hml : c.maxLocals = 4) (hown : s.vm.findClass RX3 = some m.cls) (hlocks : meth.locks = false) (hts : ∀ w ∈ wsX3_closeMonth, w.before args s = true) (hin3 : ∀ w ∈ wsX30, w ∈ wsX3_closeMonth) (hK : Kb G y s) (hA : ∀ q : Nat, s.heap.size ≤ q → A q) (hS : va_S A s.heap H locs) (hP : va_P G vwCl (mdW y a (u2 (mC2 (mC1 (mT v 0) t n) v t b) 18 (3 * t + b) (((mC2 (mC1 (mT v 0) t n) v t b) 18) (3 * t + b) + (mPaid v b - mPays v b)))) H) (hD : va_D A (mdW y a (u2 (mC2 (mC1 (mT v 0) t n) v t b) 18 (3 * t + b) (((mC2 (mC1 (mT v 0) t n) v t b) 18) (3 * t + b) + (mPaid v b - mPays v b))))) (hl : lv_has ls 4 [(0, .ref (a 0)), (1, .int (D32 (S32 (fun j => mBear v j 1 + mBear v j 2) n) (fun j => mPaid v j) b)), (2, .int (D32 (S32 (fun j => mBear v j 0) n) (fun j => mPays v j) b)), (3, .int (nI b))]) (ih_b : ∀ (H : Heap) (locs : List Loc) (ls : Array Slot), va_P G vwCl (mdW y a (mC2 (mC1 (mT v 0) t n) v t (b + 1))) H → va_D A (mdW y a (mC2 (mC1 (mT v 0) t n) v t (b + 1))) → va_S A s.heap H locs → lv_has ls 4 [(0, .ref (a 0)), (1, .int (D32 (S32 (fun j => mBear v j 1 + mBear v j 2) n) (fun j => mPaid v j) (b + 1))), (2, .int (D32 (S32 (fun j => mBear v j 0) n) (fun j => mPays v j) (b + 1))), (3, .int (nI (b + 1)))] → W p l e (headSpec wsX3_closeMonth ({ frames := 2, cells := 0, slots := 0, locals := 52 })).room s m args below meth c H locs 0 0 (MQ below (mQ G (fun _ : Unit => some (.int (mClose v bo n t).2)) (fun _ => True) (fun _ => mdW y a (mClose v bo n t).1) A) args s 0 0 A) (F0 m 121 ls [])) : W p l e (headSpec wsX3_closeMonth ({ frames := 2, cells := 0, slots := 0, locals := 52 })).room s m args below meth c H locs 0 0 (MQ below (mQ G (fun _ : Unit => some (.int (mClose v bo n t).2)) (fun _ => True) (fun _ => mdW y a (mClose v bo n t).1) A) args s 0 0 A) (F0 m 153 ls []) := by
  refine lv_iload_n hx hb dX3_closeMonth_153 rfl (lv_at hl 1 rfl) ?_
  refine lv_aload_n hx hb dX3_closeMonth_154 rfl (lv_at hl 0 rfl) ?_
  refine lv_iload_n hx hb dX3_closeMonth_155 rfl (lv_at hl 3 rfl) ?_
  refine caR (r := .int (mPaid (u2 (mC2 (mC1 (mT v 0) t n) v t b) 18 (3 * t + b) (((mC2 (mC1 (mT v 0) t n) v t b) 18) (3 * t + b) + (mPaid v b - mPays v b))) b)) (va_runV (As := [.int (nI b)]) (rest := [.int (D32 (S32 (fun j => mBear v j 1 + mBear v j 2) n) (fun j => mPaid v j) b)]) ⟨hx, hb, hml, hown, hts⟩ (c_X3_isPaid l G y a (u2 (mC2 (mC1 (mT v 0) t n) v t b) 18 (3 * t + b) (((mC2 (mC1 (mT v 0) t n) v t b) 18) (3 * t + b) + (mPaid v b - mPays v b))) b hk_b) (cwV 1 hts gX3_closeMonth_X3_isPaid rfl rfl rfl (by decide +kernel) ⟨Nat.le_of_ble_eq_true rfl, Nat.le_of_ble_eq_true rfl⟩) ⟨rP_bl, va_recv hK.1 hP (ci := 3) (q0 := 0) rfl rfl, fun U hU hW => ⟨rfl, by rw [hU]; exact hP, Kb.moved hW hK⟩⟩ rfl rfl hl.1 rfl (lv_room (Nat.le_of_ble_eq_true rfl)) dX3_closeMonth_156 ⟨Nat.le_of_ble_eq_true rfl, Nat.le_of_ble_eq_true rfl⟩) ?_
  refine lv_topE (z := mPaid v b) (mPaid_c (by rw [u2_j (by decide), mC2_o (by decide), mC1_o (by decide) (by decide)]; rfl) (by rw [u2_j (by decide), mC2_o (by decide), mC1_o (by decide) (by decide)]; rfl) (by rw [u2_j (by decide), mC2_o (by decide), mC1_o (by decide) (by decide)]; rfl) (by rw [u2_j (by decide), mC2_o (by decide), mC1_o (by decide) (by decide)]; rfl) (by rw [u2_j (by decide), mC2_o (by decide), mC1_o (by decide) (by decide)]; rfl)) ?_
  refine lv_isub hx hb dX3_closeMonth_159 ?_
  refine lv_topE (z := D32 (S32 (fun j => mBear v j 1 + mBear v j 2) n) (fun j => mPaid v j) (b + 1)) (D32_s (f := fun j => mPaid v j)) ?_
  refine lv_istore_n (lv' := [(1, .int (D32 (S32 (fun j => mBear v j 1 + mBear v j 2) n) (fun j => mPaid v j) (b + 1))), (0, .ref (a 0)), (2, .int (D32 (S32 (fun j => mBear v j 0) n) (fun j => mPays v j) b)), (3, .int (nI b))]) hx hb dX3_closeMonth_160 rfl hl (by decide) rfl (fun ls hl => ?_)
  refine lv_iload_n hx hb dX3_closeMonth_161 rfl (lv_at hl 2 rfl) ?_
  refine lv_aload_n hx hb dX3_closeMonth_162 rfl (lv_at hl 1 rfl) ?_
  refine lv_iload_n hx hb dX3_closeMonth_163 rfl (lv_at hl 3 rfl) ?_
  refine caR (r := .int (mPays (u2 (mC2 (mC1 (mT v 0) t n) v t b) 18 (3 * t + b) (((mC2 (mC1 (mT v 0) t n) v t b) 18) (3 * t + b) + (mPaid v b - mPays v b))) b)) (va_runV (As := [.int (nI b)]) (rest := [.int (D32 (S32 (fun j => mBear v j 0) n) (fun j => mPays v j) b)]) ⟨hx, hb, hml, hown, hts⟩ (c_X3_pays l G y a (u2 (mC2 (mC1 (mT v 0) t n) v t b) 18 (3 * t + b) (((mC2 (mC1 (mT v 0) t n) v t b) 18) (3 * t + b) + (mPaid v b - mPays v b))) b hk_b) (cwV 1 hts gX3_closeMonth_X3_pays rfl rfl rfl (by decide +kernel) ⟨Nat.le_of_ble_eq_true rfl, Nat.le_of_ble_eq_true rfl⟩) ⟨rP_bl, va_recv hK.1 hP (ci := 3) (q0 := 0) rfl rfl, fun U hU hW => ⟨rfl, by rw [hU]; exact hP, Kb.moved hW hK⟩⟩ rfl rfl hl.1 rfl (lv_room (Nat.le_of_ble_eq_true rfl)) dX3_closeMonth_164 ⟨Nat.le_of_ble_eq_true rfl, Nat.le_of_ble_eq_true rfl⟩) ?_
  refine lv_topE (z := mPays v b) (mPays_c (by rw [u2_j (by decide), mC2_o (by decide), mC1_o (by decide) (by decide)]; rfl) (by rw [u2_j (by decide), mC2_o (by decide), mC1_o (by decide) (by decide)]; rfl)) ?_
  refine lv_isub hx hb dX3_closeMonth_167 ?_
  refine lv_topE (z := D32 (S32 (fun j => mBear v j 0) n) (fun j => mPays v j) (b + 1)) (D32_s (f := fun j => mPays v j)) ?_
  refine lv_istore_n (lv' := [(2, .int (D32 (S32 (fun j => mBear v j 0) n) (fun j => mPays v j) (b + 1))), (1, .int (D32 (S32 (fun j => mBear v j 1 + mBear v j 2) n) (fun j => mPaid v j) (b + 1))), (0, .ref (a 0)), (3, .int (nI b))]) hx hb dX3_closeMonth_168 rfl hl (by decide) rfl (fun ls hl => ?_)
  refine lv_iinc (v := (nI (b + 1))) (lv' := [(3, .int (nI (b + 1))), (2, .int (D32 (S32 (fun j => mBear v j 0) n) (fun j => mPays v j) (b + 1))), (1, .int (D32 (S32 (fun j => mBear v j 1 + mBear v j 2) n) (fun j => mPaid v j) (b + 1))), (0, .ref (a 0))]) hx hb dX3_closeMonth_169 hl (k := 3) rfl iinc1 (by decide) rfl (fun ls hl => ?_)
  refine lv_goto (tgt := 121) hx hb dX3_closeMonth_172 (by decide) ?_
  have hP : va_P G vwCl (mdW y a (mC2 (mC1 (mT v 0) t n) v t (b + 1))) H := by rw [mC2]; exact hP
  have hD : va_D A (mdW y a (mC2 (mC1 (mT v 0) t n) v t (b + 1))) := by rw [mC2]; exact hD
  exact ih_b _ _ ls hP hD hS (lv_sub hl [3, 2, 1, 0] rfl)
set_option maxHeartbeats 4000000 in
set_option maxRecDepth 100000 in
theorem c_X3_closeMonth_2a (l : Launch) (G : va_G) (y : Nat → ClassId) (a : Nat → Nat) (v : MS) (n : Nat) (hn : v 0 6 = nI n) (hn24 : n ≤ 24) (t : Nat) (ht : v 0 1 = nI t) (ht47 : t ≤ 47) (bo : Nat → Nat) (hbo : ∀ l, l < n → v 12 l = nI (bo l) ∧ bo l ≤ t) (ht46 : t < 47) (b : Nat) (hk_b : b < 3) {p : Program} {e : Env} {s : State} {m : MethodId} {args : Array Value} {below : List Frame} {meth : Method} {c : Code} {A : Nat → Prop} {H : Heap} {locs : List Loc} {ls : Array Slot} (hx : p.tables.exec = Jvm.exec) (hb : c.code = cX3_closeMonth) (hr : meth.sig.returnType = (some .int)) (hml : c.maxLocals = 4) (hown : s.vm.findClass RX3 = some m.cls) (hlocks : meth.locks = false) (hts : ∀ w ∈ wsX3_closeMonth, w.before args s = true) (hin3 : ∀ w ∈ wsX30, w ∈ wsX3_closeMonth) (hK : Kb G y s) (hA : ∀ q : Nat, s.heap.size ≤ q → A q) (hS : va_S A s.heap H locs) (hP : va_P G vwCl (mdW y a (mC2 (mC1 (mT v 0) t n) v t b)) H) (hD : va_D A (mdW y a (mC2 (mC1 (mT v 0) t n) v t b))) (hl : lv_has ls 4 [(0, .ref (a 0)), (1, .int (D32 (S32 (fun j => mBear v j 1 + mBear v j 2) n) (fun j => mPaid v j) b)), (2, .int (D32 (S32 (fun j => mBear v j 0) n) (fun j => mPays v j) b)), (3, .int (nI b))]) (ih_b : ∀ (H : Heap) (locs : List Loc) (ls : Array Slot), va_P G vwCl (mdW y a (mC2 (mC1 (mT v 0) t n) v t (b + 1))) H → va_D A (mdW y a (mC2 (mC1 (mT v 0) t n) v t (b + 1))) → va_S A s.heap H locs → lv_has ls 4 [(0, .ref (a 0)), (1, .int (D32 (S32 (fun j => mBear v j 1 + mBear v j 2) n) (fun j => mPaid v j) (b + 1))), (2, .int (D32 (S32 (fun j => mBear v j 0) n) (fun j => mPays v j) (b + 1))), (3, .int (nI (b + 1)))] → W p l e (headSpec wsX3_closeMonth ({ frames := 2, cells := 0, slots := 0, locals := 52 })).room s m args below meth c H locs 0 0 (MQ below (mQ G (fun _ : Unit => some (.int (mClose v bo n t).2)) (fun _ => True) (fun _ => mdW y a (mClose v bo n t).1) A) args s 0 0 A) (F0 m 121 ls [])) : W p l e (headSpec wsX3_closeMonth ({ frames := 2, cells := 0, slots := 0, locals := 52 })).room s m args below meth c H locs 0 0 (MQ below (mQ G (fun _ : Unit => some (.int (mClose v bo n t).2)) (fun _ => True) (fun _ => mdW y a (mClose v bo n t).1) A) args s 0 0 A) (F0 m 126 ls []) := by
  refine lv_aload_n hx hb dX3_closeMonth_126 rfl (lv_at hl 0 rfl) ?_
  refine mdG (v := (mC2 (mC1 (mT v 0) t n) v t b)) (val := .ref (a 18)) hx hb hts hin3 hown hK hP 18 (by decide) (hts (.fieldLink RX3 51 "FundBookModel" "margins" "[I") (by decide +kernel)) rfl dX3_closeMonth_127 ?_
  refine lv_iconst (v := 3) hx hb dX3_closeMonth_130 (by decide) ?_
  refine lv_aload_n hx hb dX3_closeMonth_131 rfl (lv_at hl 0 rfl) ?_
  refine mdG (v := (mC2 (mC1 (mT v 0) t n) v t b)) (val := .int ((mC2 (mC1 (mT v 0) t n) v t b) 0 1)) hx hb hts hin3 hown hK hP 1 (by decide) (hts (.fieldLink RX3 73 "FundBookModel" "now" "I") (by decide +kernel)) rfl dX3_closeMonth_132 ?_
  refine lv_topE (z := nI t) (by rw [mC2_o (by decide), mC1_o (by decide) (by decide)]; exact ht) ?_
  refine lv_imul hx hb dX3_closeMonth_135 ?_
  refine lv_iload_n hx hb dX3_closeMonth_136 rfl (lv_at hl 3 rfl) ?_
  refine lv_iadd hx hb dX3_closeMonth_137 ?_
  refine lv_topE (z := nI (3 * t + b)) (ix3) ?_
  refine lv_dup2_11 hx hb dX3_closeMonth_138 rfl rfl ?_
  refine ldI (f := ((mC2 (mC1 (mT v 0) t n) v t b) 18)) hx hb hK hP 13 mg_18 (3 * t + b) rfl (by omega) (by decide) dX3_closeMonth_139 ?_
  refine lv_aload_n hx hb dX3_closeMonth_140 rfl (lv_at hl 0 rfl) ?_
  refine lv_iload_n hx hb dX3_closeMonth_141 rfl (lv_at hl 3 rfl) ?_
  refine caR (r := .int (mPaid (mC2 (mC1 (mT v 0) t n) v t b) b)) (va_runV (As := [.int (nI b)]) (rest := [.int (((mC2 (mC1 (mT v 0) t n) v t b) 18) (3 * t + b)), .int (nI (3 * t + b)), .ref (a 18)]) ⟨hx, hb, hml, hown, hts⟩ (c_X3_isPaid l G y a (mC2 (mC1 (mT v 0) t n) v t b) b hk_b) (cwV 1 hts gX3_closeMonth_X3_isPaid rfl rfl rfl (by decide +kernel) ⟨Nat.le_of_ble_eq_true rfl, Nat.le_of_ble_eq_true rfl⟩) ⟨rP_bl, va_recv hK.1 hP (ci := 3) (q0 := 0) rfl rfl, fun U hU hW => ⟨rfl, by rw [hU]; exact hP, Kb.moved hW hK⟩⟩ rfl rfl hl.1 rfl (lv_room (Nat.le_of_ble_eq_true rfl)) dX3_closeMonth_142 ⟨Nat.le_of_ble_eq_true rfl, Nat.le_of_ble_eq_true rfl⟩) ?_
  refine lv_topE (z := mPaid v b) (mPaid_c (by rw [mC2_o (by decide), mC1_o (by decide) (by decide)]; rfl) (by rw [mC2_o (by decide), mC1_o (by decide) (by decide)]; rfl) (by rw [mC2_o (by decide), mC1_o (by decide) (by decide)]; rfl) (by rw [mC2_o (by decide), mC1_o (by decide) (by decide)]; rfl) (by rw [mC2_o (by decide), mC1_o (by decide) (by decide)]; rfl)) ?_
  refine lv_aload_n hx hb dX3_closeMonth_145 rfl (lv_at hl 0 rfl) ?_
  refine lv_iload_n hx hb dX3_closeMonth_146 rfl (lv_at hl 3 rfl) ?_
  refine caR (r := .int (mPays (mC2 (mC1 (mT v 0) t n) v t b) b)) (va_runV (As := [.int (nI b)]) (rest := [.int (mPaid v b), .int (((mC2 (mC1 (mT v 0) t n) v t b) 18) (3 * t + b)), .int (nI (3 * t + b)), .ref (a 18)]) ⟨hx, hb, hml, hown, hts⟩ (c_X3_pays l G y a (mC2 (mC1 (mT v 0) t n) v t b) b hk_b) (cwV 1 hts gX3_closeMonth_X3_pays rfl rfl rfl (by decide +kernel) ⟨Nat.le_of_ble_eq_true rfl, Nat.le_of_ble_eq_true rfl⟩) ⟨rP_bl, va_recv hK.1 hP (ci := 3) (q0 := 0) rfl rfl, fun U hU hW => ⟨rfl, by rw [hU]; exact hP, Kb.moved hW hK⟩⟩ rfl rfl hl.1 rfl (lv_room (Nat.le_of_ble_eq_true rfl)) dX3_closeMonth_147 ⟨Nat.le_of_ble_eq_true rfl, Nat.le_of_ble_eq_true rfl⟩) ?_
  refine lv_topE (z := mPays v b) (mPays_c (by rw [mC2_o (by decide), mC1_o (by decide) (by decide)]; rfl) (by rw [mC2_o (by decide), mC1_o (by decide) (by decide)]; rfl)) ?_
  refine lv_isub hx hb dX3_closeMonth_150 ?_
  refine lv_iadd hx hb dX3_closeMonth_151 ?_
  refine stI (f := (mC2 (mC1 (mT v 0) t n) v t b) 18) (ws1 := mdW y a (u2 (mC2 (mC1 (mT v 0) t n) v t b) 18 (3 * t + b) (((mC2 (mC1 (mT v 0) t n) v t b) 18) (3 * t + b) + (mPaid v b - mPays v b)))) hx hb hK hP hD hS 13 mg_18 (3 * t + b) rfl (by omega) (by decide) ms_18 dX3_closeMonth_152 (fun H locs hP hD hS => ?_)
  exact c_X3_closeMonth_2b l G y a v n hn hn24 t ht ht47 bo hbo ht46 b hk_b hx hb hr hml hown hlocks hts hin3 hK hA hS hP hD (lv_sub hl [0, 1, 2, 3] rfl) ih_b
set_option maxHeartbeats 4000000 in
set_option maxRecDepth 100000 in
theorem c_X3_closeMonth_3 (l : Launch) (G : va_G) (y : Nat → ClassId) (a : Nat → Nat) (v : MS) (n : Nat) (hn : v 0 6 = nI n) (hn24 : n ≤ 24) (t : Nat) (ht : v 0 1 = nI t) (ht47 : t ≤ 47) (bo : Nat → Nat) (hbo : ∀ l, l < n → v 12 l = nI (bo l) ∧ bo l ≤ t) (ht46 : t < 47) {p : Program} {e : Env} {s : State} {m : MethodId} {args : Array Value} {below : List Frame} {meth : Method} {c : Code} {A : Nat → Prop} {H : Heap} {locs : List Loc} {ls : Array Slot} (hx : p.tables.exec = Jvm.exec) (hb : c.code = cX3_closeMonth) (hr : meth.sig.returnType = (some .int)) (hml : c.maxLocals = 4) (hown : s.vm.findClass RX3 = some m.cls) (hlocks : meth.locks = false) (hts : ∀ w ∈ wsX3_closeMonth, w.before args s = true) (hin3 : ∀ w ∈ wsX30, w ∈ wsX3_closeMonth) (hK : Kb G y s) (hA : ∀ q : Nat, s.heap.size ≤ q → A q) (hS : va_S A s.heap H locs) (hP : va_P G vwCl (mdW y a (u2 (u2 (mC2 (mC1 (mT v 0) t n) v t 3) 20 t (D32 (S32 (fun j => mBear v j 1 + mBear v j 2) n) (fun j => mPaid v j) 3)) 21 t (D32 (S32 (fun j => mBear v j 0) n) (fun j => mPays v j) 3))) H) (hD : va_D A (mdW y a (u2 (u2 (mC2 (mC1 (mT v 0) t n) v t 3) 20 t (D32 (S32 (fun j => mBear v j 1 + mBear v j 2) n) (fun j => mPaid v j) 3)) 21 t (D32 (S32 (fun j => mBear v j 0) n) (fun j => mPays v j) 3)))) (hl : lv_has ls 4 [(0, .ref (a 0)), (1, .int (D32 (S32 (fun j => mBear v j 1 + mBear v j 2) n) (fun j => mPaid v j) 3)), (2, .int (D32 (S32 (fun j => mBear v j 0) n) (fun j => mPays v j) 3)), (3, .int 0)]) : W p l e (headSpec wsX3_closeMonth ({ frames := 2, cells := 0, slots := 0, locals := 52 })).room s m args below meth c H locs 0 0 (MQ below (mQ G (fun _ : Unit => some (.int (mClose v bo n t).2)) (fun _ => True) (fun _ => mdW y a (mClose v bo n t).1) A) args s 0 0 A) (F0 m 197 ls []) := by
  refine loopM (LV := fun k => [(0, .ref (a 0)), (1, .int (D32 (S32 (fun j => mBear v j 1 + mBear v j 2) n) (fun j => mPaid v j) 3)), (2, .int (D32 (S32 (fun j => mBear v j 0) n) (fun j => mPays v j) 3)), (3, .int (nI k))]) (WS := fun k => mdW y a (mC3 (u2 (u2 (mC2 (mC1 (mT v 0) t n) v t 3) 20 t (mTr v n)) 21 t (mIt v n)) bo t k)) n hP hD hS (lv_sub hl [0, 1, 2, 3] rfl) (fun k H locs ls hk_k hP hD hS hl ih_k => ?_) (fun H locs ls hP hD hS hl => ?_)
  · have hl : lv_has ls 4 [(0, .ref (a 0)), (1, .int (D32 (S32 (fun j => mBear v j 1 + mBear v j 2) n) (fun j => mPaid v j) 3)), (2, .int (D32 (S32 (fun j => mBear v j 0) n) (fun j => mPays v j) 3)), (3, .int (nI k))] := hl
    have hP : va_P G vwCl (mdW y a (mC3 (u2 (u2 (mC2 (mC1 (mT v 0) t n) v t 3) 20 t (mTr v n)) 21 t (mIt v n)) bo t k)) H := hP
    have hD : va_D A (mdW y a (mC3 (u2 (u2 (mC2 (mC1 (mT v 0) t n) v t 3) 20 t (mTr v n)) 21 t (mIt v n)) bo t k)) := hD
    have hb3 := (hbo k hk_k).2
    refine lv_iload_n hx hb dX3_closeMonth_197 rfl (lv_at hl 3 rfl) ?_
    refine lv_aload_n hx hb dX3_closeMonth_198 rfl (lv_at hl 0 rfl) ?_
    refine mdG (v := (mC3 (u2 (u2 (mC2 (mC1 (mT v 0) t n) v t 3) 20 t (mTr v n)) 21 t (mIt v n)) bo t k)) (val := .int ((mC3 (u2 (u2 (mC2 (mC1 (mT v 0) t n) v t 3) 20 t (mTr v n)) 21 t (mIt v n)) bo t k) 0 6)) hx hb hts hin3 hown hK hP 6 (by decide) (hts (.fieldLink RX3 66 "FundBookModel" "loans" "I") (by decide +kernel)) rfl dX3_closeMonth_199 ?_
    refine lv_topE (z := nI n) (by rw [mC3_o (by decide), u2_j (by decide), u2_j (by decide), mC2_o (by decide), mC1_o (by decide) (by decide)]; exact hn) ?_
    refine lv_icmp_ge (tgt := 249) hx hb dX3_closeMonth_202 (by decide) (fun c_202 => absurd c_202 (nI_ge hk_k (by omega))) (fun c_202 => ?_)
    refine lv_aload_n hx hb dX3_closeMonth_205 rfl (lv_at hl 0 rfl) ?_
    refine mdG (v := (mC3 (u2 (u2 (mC2 (mC1 (mT v 0) t n) v t 3) 20 t (mTr v n)) 21 t (mIt v n)) bo t k)) (val := .int ((mC3 (u2 (u2 (mC2 (mC1 (mT v 0) t n) v t 3) 20 t (mTr v n)) 21 t (mIt v n)) bo t k) 0 1)) hx hb hts hin3 hown hK hP 1 (by decide) (hts (.fieldLink RX3 73 "FundBookModel" "now" "I") (by decide +kernel)) rfl dX3_closeMonth_206 ?_
    refine lv_topE (z := nI t) (by rw [mC3_o (by decide), u2_j (by decide), u2_j (by decide), mC2_o (by decide), mC1_o (by decide) (by decide)]; exact ht) ?_
    refine lv_aload_n hx hb dX3_closeMonth_209 rfl (lv_at hl 0 rfl) ?_
    refine mdG (v := (mC3 (u2 (u2 (mC2 (mC1 (mT v 0) t n) v t 3) 20 t (mTr v n)) 21 t (mIt v n)) bo t k)) (val := .ref (a 12)) hx hb hts hin3 hown hK hP 12 (by decide) (hts (.fieldLink RX3 33 "FundBookModel" "born" "[I") (by decide +kernel)) rfl dX3_closeMonth_210 ?_
    refine lv_iload_n hx hb dX3_closeMonth_213 rfl (lv_at hl 3 rfl) ?_
    refine ldI (f := ((mC3 (u2 (u2 (mC2 (mC1 (mT v 0) t n) v t 3) 20 t (mTr v n)) 21 t (mIt v n)) bo t k) 12)) hx hb hK hP 7 mg_12 k rfl (by omega) (by decide) dX3_closeMonth_214 ?_
    refine lv_topE (z := nI (bo k)) (by rw [mC3_o (by decide), u2_j (by decide), u2_j (by decide), mC2_o (by decide), mC1_o (by decide) (by decide)]; exact (hbo k hk_k).1) ?_
    refine lv_isub hx hb dX3_closeMonth_215 ?_
    refine lv_topE (z := nI (t - bo k)) (pk_sub (hbo k hk_k).2) ?_
    refine lv_bipush (v := 6) hx hb dX3_closeMonth_216 (by decide) ?_
    refine lv_icmp_ge (tgt := 243) hx hb dX3_closeMonth_218 (by decide) (fun c_218 => ?_) (fun c_218 => ?_)
    · have h6 : ¬ t - bo k < 6 := fun q => nI_ge q (by decide) c_218
      have hP : va_P G vwCl (mdW y a (mC3 (u2 (u2 (mC2 (mC1 (mT v 0) t n) v t 3) 20 t (mTr v n)) 21 t (mIt v n)) bo t (k + 1))) H := by rw [mC3, if_neg h6]; exact hP
      have hD : va_D A (mdW y a (mC3 (u2 (u2 (mC2 (mC1 (mT v 0) t n) v t 3) 20 t (mTr v n)) 21 t (mIt v n)) bo t (k + 1))) := by rw [mC3, if_neg h6]; exact hD
      refine lv_iinc (v := (nI (k + 1))) (lv' := [(3, .int (nI (k + 1))), (0, .ref (a 0)), (1, .int (D32 (S32 (fun j => mBear v j 1 + mBear v j 2) n) (fun j => mPaid v j) 3)), (2, .int (D32 (S32 (fun j => mBear v j 0) n) (fun j => mPays v j) 3))]) hx hb dX3_closeMonth_243 hl (k := 3) rfl iinc1 (by decide) rfl (fun ls hl => ?_)
      refine lv_goto (tgt := 197) hx hb dX3_closeMonth_246 (by decide) ?_
      exact ih_k _ _ ls hP hD hS (lv_sub hl [1, 2, 3, 0] rfl)
    · have h6 : t - bo k < 6 := n6lt c_218 (by omega)
      refine lv_aload_n hx hb dX3_closeMonth_221 rfl (lv_at hl 0 rfl) ?_
      refine mdG (v := (mC3 (u2 (u2 (mC2 (mC1 (mT v 0) t n) v t 3) 20 t (mTr v n)) 21 t (mIt v n)) bo t k)) (val := .ref (a 13)) hx hb hts hin3 hown hK hP 13 (by decide) (hts (.fieldLink RX3 36 "FundBookModel" "part" "[I") (by decide +kernel)) rfl dX3_closeMonth_222 ?_
      refine lv_bipush (v := 6) hx hb dX3_closeMonth_225 (by decide) ?_
      refine lv_iload_n hx hb dX3_closeMonth_227 rfl (lv_at hl 3 rfl) ?_
      refine lv_imul hx hb dX3_closeMonth_228 ?_
      refine lv_aload_n hx hb dX3_closeMonth_229 rfl (lv_at hl 0 rfl) ?_
      refine mdG (v := (mC3 (u2 (u2 (mC2 (mC1 (mT v 0) t n) v t 3) 20 t (mTr v n)) 21 t (mIt v n)) bo t k)) (val := .int ((mC3 (u2 (u2 (mC2 (mC1 (mT v 0) t n) v t 3) 20 t (mTr v n)) 21 t (mIt v n)) bo t k) 0 1)) hx hb hts hin3 hown hK hP 1 (by decide) (hts (.fieldLink RX3 73 "FundBookModel" "now" "I") (by decide +kernel)) rfl dX3_closeMonth_230 ?_
      refine lv_topE (z := nI t) (by rw [mC3_o (by decide), u2_j (by decide), u2_j (by decide), mC2_o (by decide), mC1_o (by decide) (by decide)]; exact ht) ?_
      refine lv_iadd hx hb dX3_closeMonth_233 ?_
      refine lv_topE (z := nI (6 * k + t)) (ix6) ?_
      refine lv_aload_n hx hb dX3_closeMonth_234 rfl (lv_at hl 0 rfl) ?_
      refine mdG (v := (mC3 (u2 (u2 (mC2 (mC1 (mT v 0) t n) v t 3) 20 t (mTr v n)) 21 t (mIt v n)) bo t k)) (val := .ref (a 12)) hx hb hts hin3 hown hK hP 12 (by decide) (hts (.fieldLink RX3 33 "FundBookModel" "born" "[I") (by decide +kernel)) rfl dX3_closeMonth_235 ?_
      refine lv_iload_n hx hb dX3_closeMonth_238 rfl (lv_at hl 3 rfl) ?_
      refine ldI (f := ((mC3 (u2 (u2 (mC2 (mC1 (mT v 0) t n) v t 3) 20 t (mTr v n)) 21 t (mIt v n)) bo t k) 12)) hx hb hK hP 7 mg_12 k rfl (by omega) (by decide) dX3_closeMonth_239 ?_
      refine lv_topE (z := nI (bo k)) (by rw [mC3_o (by decide), u2_j (by decide), u2_j (by decide), mC2_o (by decide), mC1_o (by decide) (by decide)]; exact (hbo k hk_k).1) ?_
      refine lv_isub hx hb dX3_closeMonth_240 ?_
      refine lv_topE (z := nI (6 * k + (t - bo k))) (by rw [pk_sub (by omega), Nat.add_sub_assoc (hbo k hk_k).2]) ?_
      refine lv_iconst (v := 0) hx hb dX3_closeMonth_241 (by decide) ?_
      refine stI (f := (mC3 (u2 (u2 (mC2 (mC1 (mT v 0) t n) v t 3) 20 t (mTr v n)) 21 t (mIt v n)) bo t k) 13) (ws1 := mdW y a (u2 (mC3 (u2 (u2 (mC2 (mC1 (mT v 0) t n) v t 3) 20 t (mTr v n)) 21 t (mIt v n)) bo t k) 13 (6 * k + (t - bo k)) 0)) hx hb hK hP hD hS 8 mg_13 (6 * k + (t - bo k)) rfl (by omega) (by decide) ms_13 dX3_closeMonth_242 (fun H locs hP hD hS => ?_)
      have hP : va_P G vwCl (mdW y a (mC3 (u2 (u2 (mC2 (mC1 (mT v 0) t n) v t 3) 20 t (mTr v n)) 21 t (mIt v n)) bo t (k + 1))) H := by rw [mC3, if_pos h6]; exact hP
      have hD : va_D A (mdW y a (mC3 (u2 (u2 (mC2 (mC1 (mT v 0) t n) v t 3) 20 t (mTr v n)) 21 t (mIt v n)) bo t (k + 1))) := by rw [mC3, if_pos h6]; exact hD
      refine lv_iinc (v := (nI (k + 1))) (lv' := [(3, .int (nI (k + 1))), (0, .ref (a 0)), (1, .int (D32 (S32 (fun j => mBear v j 1 + mBear v j 2) n) (fun j => mPaid v j) 3)), (2, .int (D32 (S32 (fun j => mBear v j 0) n) (fun j => mPays v j) 3))]) hx hb dX3_closeMonth_243 hl (k := 3) rfl iinc1 (by decide) rfl (fun ls hl => ?_)
      refine lv_goto (tgt := 197) hx hb dX3_closeMonth_246 (by decide) ?_
      exact ih_k _ _ ls hP hD hS (lv_sub hl [1, 2, 3, 0] rfl)
  · have hl : lv_has ls 4 [(0, .ref (a 0)), (1, .int (D32 (S32 (fun j => mBear v j 1 + mBear v j 2) n) (fun j => mPaid v j) 3)), (2, .int (D32 (S32 (fun j => mBear v j 0) n) (fun j => mPays v j) 3)), (3, .int (nI n))] := hl
    have hP : va_P G vwCl (mdW y a (mC3 (u2 (u2 (mC2 (mC1 (mT v 0) t n) v t 3) 20 t (mTr v n)) 21 t (mIt v n)) bo t n)) H := hP
    have hD : va_D A (mdW y a (mC3 (u2 (u2 (mC2 (mC1 (mT v 0) t n) v t 3) 20 t (mTr v n)) 21 t (mIt v n)) bo t n)) := hD
    refine lv_iload_n hx hb dX3_closeMonth_197 rfl (lv_at hl 3 rfl) ?_
    refine lv_aload_n hx hb dX3_closeMonth_198 rfl (lv_at hl 0 rfl) ?_
    refine mdG (v := (mC3 (u2 (u2 (mC2 (mC1 (mT v 0) t n) v t 3) 20 t (mTr v n)) 21 t (mIt v n)) bo t n)) (val := .int ((mC3 (u2 (u2 (mC2 (mC1 (mT v 0) t n) v t 3) 20 t (mTr v n)) 21 t (mIt v n)) bo t n) 0 6)) hx hb hts hin3 hown hK hP 6 (by decide) (hts (.fieldLink RX3 66 "FundBookModel" "loans" "I") (by decide +kernel)) rfl dX3_closeMonth_199 ?_
    refine lv_topE (z := nI n) (by rw [mC3_o (by decide), u2_j (by decide), u2_j (by decide), mC2_o (by decide), mC1_o (by decide) (by decide)]; exact hn) ?_
    refine lv_icmp_ge (tgt := 249) hx hb dX3_closeMonth_202 (by decide) (fun c_202 => ?_) (fun c_202 => absurd (nI_le (Nat.le_refl n) (by omega)) c_202)
    refine lv_aload_n hx hb dX3_closeMonth_249 rfl (lv_at hl 0 rfl) ?_
    refine lv_dup hx hb dX3_closeMonth_250 rfl ?_
    refine mdG (v := (mC3 (u2 (u2 (mC2 (mC1 (mT v 0) t n) v t 3) 20 t (mTr v n)) 21 t (mIt v n)) bo t n)) (val := .int ((mC3 (u2 (u2 (mC2 (mC1 (mT v 0) t n) v t 3) 20 t (mTr v n)) 21 t (mIt v n)) bo t n) 0 1)) hx hb hts hin3 hown hK hP 1 (by decide) (hts (.fieldLink RX3 73 "FundBookModel" "now" "I") (by decide +kernel)) rfl dX3_closeMonth_251 ?_
    refine lv_topE (z := nI t) (by rw [mC3_o (by decide), u2_j (by decide), u2_j (by decide), mC2_o (by decide), mC1_o (by decide) (by decide)]; exact ht) ?_
    refine lv_iconst (v := 1) hx hb dX3_closeMonth_254 (by decide) ?_
    refine lv_iadd hx hb dX3_closeMonth_255 ?_
    refine lv_topE (z := nI (t + 1)) (nI_1 t) ?_
    refine mdS (v := (mC3 (u2 (u2 (mC2 (mC1 (mT v 0) t n) v t 3) 20 t (mTr v n)) 21 t (mIt v n)) bo t n)) (x := nI (t + 1)) hx hb hts hin3 hown hK hP hD hS 1 (by decide) (hts (.fieldLink RX3 73 "FundBookModel" "now" "I") (by decide +kernel)) dX3_closeMonth_256 (fun H locs hP hD hS => ?_)
    refine lv_aload_n hx hb dX3_closeMonth_259 rfl (lv_at hl 0 rfl) ?_
    refine lv_aload_n hx hb dX3_closeMonth_260 rfl (lv_at hl 0 rfl) ?_
    refine mdG (v := (u2 (mC3 (u2 (u2 (mC2 (mC1 (mT v 0) t n) v t 3) 20 t (mTr v n)) 21 t (mIt v n)) bo t n) 0 1 (nI (t + 1)))) (val := .int (nI (t + 1))) hx hb hts hin3 hown hK hP 1 (by decide) (hts (.fieldLink RX3 73 "FundBookModel" "now" "I") (by decide +kernel)) rfl dX3_closeMonth_261 ?_
    refine lv_bipush (v := 6) hx hb dX3_closeMonth_264 (by decide) ?_
    refine lv_irem hx hb dX3_closeMonth_266 (by decide) ?_
    refine lv_topE (z := nI ((t + 1) % 6)) (pk_rem (by omega) (by decide) (by decide)) ?_
    refine caM (va_runV (As := [.int (nI ((t + 1) % 6))]) (rest := []) ⟨hx, hb, hml, hown, hts⟩ (c_X3_lays l G y a (u2 (mC3 (u2 (u2 (mC2 (mC1 (mT v 0) t n) v t 3) 20 t (mTr v n)) 21 t (mIt v n)) bo t n) 0 1 (nI (t + 1))) H.size ((t + 1) % 6) (Nat.mod_lt _ (by decide))) (cwV 1 hts gX3_closeMonth_X3_lays rfl rfl rfl (by decide +kernel) ⟨Nat.le_of_ble_eq_true rfl, Nat.le_of_ble_eq_true rfl⟩) ⟨mP_bl, va_recv hK.1 hP (ci := 3) (q0 := 0) rfl rfl, fun U hU hW => ⟨rfl, by rw [hU], by rw [hU]; exact hP, Kb.moved hW hK, hD.weaken (fun _ _ _ _ => trivial)⟩⟩ rfl rfl hl.1 rfl (lv_room (Nat.le_of_ble_eq_true rfl)) dX3_closeMonth_267 ⟨Nat.le_of_ble_eq_true rfl, Nat.le_of_ble_eq_true rfl⟩) hS (freeW hD hS hA) (freeW hD hS hA) (fun _ H locs _ hP hD _ _ hS => ?_)
    refine W.eq (g2 := F0 m 270 ls []) rfl ?_
    have hP : va_P G vwCl (mdW y a (mLay (mCw v bo n t) ((t + 1) % 6))) H := hP
    have hD : va_D A (mdW y a (mLay (mCw v bo n t) ((t + 1) % 6))) := hD
    refine lv_aload_n hx hb dX3_closeMonth_270 rfl (lv_at hl 0 rfl) ?_
    refine mdG (v := (mLay (mCw v bo n t) ((t + 1) % 6))) (val := .int ((mLay (mCw v bo n t) ((t + 1) % 6)) 0 1)) hx hb hts hin3 hown hK hP 1 (by decide) (hts (.fieldLink RX3 73 "FundBookModel" "now" "I") (by decide +kernel)) rfl dX3_closeMonth_271 ?_
    refine lv_topE (z := nI (t + 1)) (rfl) ?_
    have ev : mClose v bo n t = ((mLay (mCw v bo n t) ((t + 1) % 6)), nI (t + 1)) := by unfold mClose; exact (if_neg (show ¬ t = 47 by omega))
    exact W.iret (v := nI (t + 1)) hx hb hr (fun t ht hW => ⟨⟨(), by rw [ev], trivial, by rw [ht, ev]; exact hP, by rw [ev]; exact hD⟩, hS.F ht⟩) hS.2.2 dX3_closeMonth_274
set_option maxHeartbeats 4000000 in
set_option maxRecDepth 100000 in
theorem c_X3_closeMonth_2 (l : Launch) (G : va_G) (y : Nat → ClassId) (a : Nat → Nat) (v : MS) (n : Nat) (hn : v 0 6 = nI n) (hn24 : n ≤ 24) (t : Nat) (ht : v 0 1 = nI t) (ht47 : t ≤ 47) (bo : Nat → Nat) (hbo : ∀ l, l < n → v 12 l = nI (bo l) ∧ bo l ≤ t) (ht46 : t < 47) {p : Program} {e : Env} {s : State} {m : MethodId} {args : Array Value} {below : List Frame} {meth : Method} {c : Code} {A : Nat → Prop} {H : Heap} {locs : List Loc} {ls : Array Slot} (hx : p.tables.exec = Jvm.exec) (hb : c.code = cX3_closeMonth) (hr : meth.sig.returnType = (some .int)) (hml : c.maxLocals = 4) (hown : s.vm.findClass RX3 = some m.cls) (hlocks : meth.locks = false) (hts : ∀ w ∈ wsX3_closeMonth, w.before args s = true) (hin3 : ∀ w ∈ wsX30, w ∈ wsX3_closeMonth) (hK : Kb G y s) (hA : ∀ q : Nat, s.heap.size ≤ q → A q) (hS : va_S A s.heap H locs) (hP : va_P G vwCl (mdW y a (mC1 (mT v 0) t n)) H) (hD : va_D A (mdW y a (mC1 (mT v 0) t n))) (hl : lv_has ls 4 [(0, .ref (a 0)), (1, .int (S32 (fun j => mBear v j 1 + mBear v j 2) n)), (2, .int (S32 (fun j => mBear v j 0) n)), (3, .int 0)]) : W p l e (headSpec wsX3_closeMonth ({ frames := 2, cells := 0, slots := 0, locals := 52 })).room s m args below meth c H locs 0 0 (MQ below (mQ G (fun _ : Unit => some (.int (mClose v bo n t).2)) (fun _ => True) (fun _ => mdW y a (mClose v bo n t).1) A) args s 0 0 A) (F0 m 121 ls []) := by
  refine loopM (LV := fun b => [(0, .ref (a 0)), (1, .int (D32 (S32 (fun j => mBear v j 1 + mBear v j 2) n) (fun j => mPaid v j) b)), (2, .int (D32 (S32 (fun j => mBear v j 0) n) (fun j => mPays v j) b)), (3, .int (nI b))]) (WS := fun b => mdW y a (mC2 (mC1 (mT v 0) t n) v t b)) 3 hP hD hS (lv_sub hl [0, 1, 2, 3] rfl) (fun b H locs ls hk_b hP hD hS hl ih_b => ?_) (fun H locs ls hP hD hS hl => ?_)
  · have hl : lv_has ls 4 [(0, .ref (a 0)), (1, .int (D32 (S32 (fun j => mBear v j 1 + mBear v j 2) n) (fun j => mPaid v j) b)), (2, .int (D32 (S32 (fun j => mBear v j 0) n) (fun j => mPays v j) b)), (3, .int (nI b))] := hl
    have hP : va_P G vwCl (mdW y a (mC2 (mC1 (mT v 0) t n) v t b)) H := hP
    have hD : va_D A (mdW y a (mC2 (mC1 (mT v 0) t n) v t b)) := hD
    refine lv_iload_n hx hb dX3_closeMonth_121 rfl (lv_at hl 3 rfl) ?_
    refine lv_iconst (v := 3) hx hb dX3_closeMonth_122 (by decide) ?_
    refine lv_icmp_ge (tgt := 175) hx hb dX3_closeMonth_123 (by decide) (fun c_123 => absurd c_123 (nI_ge hk_b (by decide))) (fun c_123 => ?_)
    exact c_X3_closeMonth_2a l G y a v n hn hn24 t ht ht47 bo hbo ht46 b hk_b hx hb hr hml hown hlocks hts hin3 hK hA hS hP hD (lv_sub hl [0, 1, 2, 3] rfl) ih_b
  · have hl : lv_has ls 4 [(0, .ref (a 0)), (1, .int (D32 (S32 (fun j => mBear v j 1 + mBear v j 2) n) (fun j => mPaid v j) 3)), (2, .int (D32 (S32 (fun j => mBear v j 0) n) (fun j => mPays v j) 3)), (3, .int (nI 3))] := hl
    have hP : va_P G vwCl (mdW y a (mC2 (mC1 (mT v 0) t n) v t 3)) H := hP
    have hD : va_D A (mdW y a (mC2 (mC1 (mT v 0) t n) v t 3)) := hD
    refine lv_iload_n hx hb dX3_closeMonth_121 rfl (lv_at hl 3 rfl) ?_
    refine lv_iconst (v := 3) hx hb dX3_closeMonth_122 (by decide) ?_
    refine lv_icmp_ge (tgt := 175) hx hb dX3_closeMonth_123 (by decide) (fun c_123 => ?_) (fun c_123 => absurd (nI_le (Nat.le_refl 3) (by decide)) c_123)
    refine lv_aload_n hx hb dX3_closeMonth_175 rfl (lv_at hl 0 rfl) ?_
    refine mdG (v := (mC2 (mC1 (mT v 0) t n) v t 3)) (val := .ref (a 20)) hx hb hts hin3 hown hK hP 20 (by decide) (hts (.fieldLink RX3 57 "FundBookModel" "treasuries" "[I") (by decide +kernel)) rfl dX3_closeMonth_176 ?_
    refine lv_aload_n hx hb dX3_closeMonth_179 rfl (lv_at hl 0 rfl) ?_
    refine mdG (v := (mC2 (mC1 (mT v 0) t n) v t 3)) (val := .int ((mC2 (mC1 (mT v 0) t n) v t 3) 0 1)) hx hb hts hin3 hown hK hP 1 (by decide) (hts (.fieldLink RX3 73 "FundBookModel" "now" "I") (by decide +kernel)) rfl dX3_closeMonth_180 ?_
    refine lv_topE (z := nI t) (by rw [mC2_o (by decide), mC1_o (by decide) (by decide)]; exact ht) ?_
    refine lv_iload_n hx hb dX3_closeMonth_183 rfl (lv_at hl 1 rfl) ?_
    refine stI (f := (mC2 (mC1 (mT v 0) t n) v t 3) 20) (ws1 := mdW y a (u2 (mC2 (mC1 (mT v 0) t n) v t 3) 20 t (D32 (S32 (fun j => mBear v j 1 + mBear v j 2) n) (fun j => mPaid v j) 3))) hx hb hK hP hD hS 15 mg_20 t rfl (by omega) (by decide) ms_20 dX3_closeMonth_184 (fun H locs hP hD hS => ?_)
    refine lv_aload_n hx hb dX3_closeMonth_185 rfl (lv_at hl 0 rfl) ?_
    refine mdG (v := (u2 (mC2 (mC1 (mT v 0) t n) v t 3) 20 t (D32 (S32 (fun j => mBear v j 1 + mBear v j 2) n) (fun j => mPaid v j) 3))) (val := .ref (a 21)) hx hb hts hin3 hown hK hP 21 (by decide) (hts (.fieldLink RX3 60 "FundBookModel" "interests" "[I") (by decide +kernel)) rfl dX3_closeMonth_186 ?_
    refine lv_aload_n hx hb dX3_closeMonth_189 rfl (lv_at hl 0 rfl) ?_
    refine mdG (v := (u2 (mC2 (mC1 (mT v 0) t n) v t 3) 20 t (D32 (S32 (fun j => mBear v j 1 + mBear v j 2) n) (fun j => mPaid v j) 3))) (val := .int ((u2 (mC2 (mC1 (mT v 0) t n) v t 3) 20 t (D32 (S32 (fun j => mBear v j 1 + mBear v j 2) n) (fun j => mPaid v j) 3)) 0 1)) hx hb hts hin3 hown hK hP 1 (by decide) (hts (.fieldLink RX3 73 "FundBookModel" "now" "I") (by decide +kernel)) rfl dX3_closeMonth_190 ?_
    refine lv_topE (z := nI t) (by rw [u2_j (by decide), mC2_o (by decide), mC1_o (by decide) (by decide)]; exact ht) ?_
    refine lv_iload_n hx hb dX3_closeMonth_193 rfl (lv_at hl 2 rfl) ?_
    refine stI (f := (u2 (mC2 (mC1 (mT v 0) t n) v t 3) 20 t (D32 (S32 (fun j => mBear v j 1 + mBear v j 2) n) (fun j => mPaid v j) 3)) 21) (ws1 := mdW y a (u2 (u2 (mC2 (mC1 (mT v 0) t n) v t 3) 20 t (D32 (S32 (fun j => mBear v j 1 + mBear v j 2) n) (fun j => mPaid v j) 3)) 21 t (D32 (S32 (fun j => mBear v j 0) n) (fun j => mPays v j) 3))) hx hb hK hP hD hS 16 mg_21 t rfl (by omega) (by decide) ms_21 dX3_closeMonth_194 (fun H locs hP hD hS => ?_)
    refine lv_iconst (v := 0) hx hb dX3_closeMonth_195 (by decide) ?_
    refine lv_istore_n (lv' := [(3, .int 0), (0, .ref (a 0)), (1, .int (D32 (S32 (fun j => mBear v j 1 + mBear v j 2) n) (fun j => mPaid v j) 3)), (2, .int (D32 (S32 (fun j => mBear v j 0) n) (fun j => mPays v j) 3))]) hx hb dX3_closeMonth_196 rfl hl (by decide) rfl (fun ls hl => ?_)
    exact c_X3_closeMonth_3 l G y a v n hn hn24 t ht ht47 bo hbo ht46 hx hb hr hml hown hlocks hts hin3 hK hA hS hP hD (lv_sub hl [1, 2, 3, 0] rfl)
set_option maxHeartbeats 4000000 in
set_option maxRecDepth 100000 in
theorem c_X3_closeMonth (l : Launch) (G : va_G) (y : Nat → ClassId) (a : Nat → Nat) (v : MS) (sz : Nat) (n : Nat) (hn : v 0 6 = nI n) (hn24 : n ≤ 24) (t : Nat) (ht : v 0 1 = nI t) (ht47 : t ≤ 47) (bo : Nat → Nat) (hbo : ∀ l, l < n → v 12 l = nI (bo l) ∧ bo l ≤ t) (hbr : ∀ l, l < n → v 7 l = nI (cn (v 7 l)) ∧ cn (v 7 l) < 3) (hpr : ∀ l, l < n → v 8 l = nI (cn (v 8 l)) ∧ cn (v 8 l) < 3) : Met l yX3_closeMonth wsX3_closeMonth ({ frames := 2, cells := 0, slots := 0, locals := 52 }) (mP G y [.ref (a 0)] (mdW y a v) sz) (mQ G (fun _ : Unit => some (.int (mClose v bo n t).2)) (fun _ => True) (fun _ => mdW y a (mClose v bo n t).1) (va_A (mdW y a v) sz)) 0 0 (va_A (mdW y a v) sz) := by
  refine Met.ofW (cc := cX3_closeMonth) (maxL := 4) (ret := (some .int)) (by decide) rfl ?_
  intro p e s m args below meth c s₁ B hml hv
  obtain ⟨rfl, hsz, hP, hK, hD0⟩ := hv
  have hx := B.exec
  have hb := B.bytes
  have hr := B.returns
  have hts := atoms_spec (ws := wsX3_closeMonth) B.pre
  have hown : s.vm.findClass RX3 = some m.cls := findClass_of_methodNamed B.named
  have hlocks := B.notSynchronized
  subst hsz
  have hD := hD0.self (sz := s.heap.size)
  generalize hAe : va_A (mdW y a v) s.heap.size = A at hD ⊢
  have hA : ∀ q : Nat, s.heap.size ≤ q → A q := fun q h => by rw [← hAe]; exact Or.inr h
  have hS : va_S A s.heap s.heap [] := va_S.rf
  have hP : va_P G vwCl (mdW y a v) s.heap := hP
  have hl := lv_entry ([.ref (a 0)]) (n := 4) (Nat.le_of_ble_eq_true rfl)
  rw [lg_entry_eq]
  generalize (lg_sl ([.ref (a 0)]) ++ List.replicate (4 - (lg_sl ([.ref (a 0)])).length) Slot.unset).toArray = ls at hl ⊢
  have hin3 : ∀ w ∈ wsX30, w ∈ wsX3_closeMonth := by decide +kernel
  have hl : lv_has ls 4 [(0, .ref (a 0))] := hl
  refine lv_aload_n hx hb dX3_closeMonth_0 rfl (lv_at hl 0 rfl) ?_
  refine lv_iconst (v := 0) hx hb dX3_closeMonth_1 (by decide) ?_
  refine mdS (v := v) (x := 0) hx hb hts hin3 hown hK hP hD hS 0 (by decide) (hts (.fieldLink RX3 63 "FundBookModel" "thrown" "I") (by decide +kernel)) dX3_closeMonth_2 (fun H locs hP hD hS => ?_)
  refine lv_aload_n hx hb dX3_closeMonth_5 rfl (lv_at hl 0 rfl) ?_
  refine mdG (v := (u2 v 0 0 0)) (val := .int (v 0 1)) hx hb hts hin3 hown hK hP 1 (by decide) (hts (.fieldLink RX3 73 "FundBookModel" "now" "I") (by decide +kernel)) rfl dX3_closeMonth_6 ?_
  refine lv_topE (z := nI t) (ht) ?_
  refine lv_bipush (v := 47) hx hb dX3_closeMonth_9 (by decide) ?_
  refine lv_icmp_ne (tgt := 20) hx hb dX3_closeMonth_11 (by decide) (fun c_11 => ?_) (fun c_11 => ?_)
  · have ht46 : t < 47 := by
      have h9 : ¬ t = 47 := fun q => c_11 (by rw [q]; rfl)
      omega
    refine lv_iconst (v := 0) hx hb dX3_closeMonth_20 (by decide) ?_
    refine lv_istore_n (lv' := [(1, .int 0), (0, .ref (a 0))]) hx hb dX3_closeMonth_21 rfl hl (by decide) rfl (fun ls hl => ?_)
    refine lv_iconst (v := 0) hx hb dX3_closeMonth_22 (by decide) ?_
    refine lv_istore_n (lv' := [(2, .int 0), (1, .int 0), (0, .ref (a 0))]) hx hb dX3_closeMonth_23 rfl hl (by decide) rfl (fun ls hl => ?_)
    refine lv_iconst (v := 0) hx hb dX3_closeMonth_24 (by decide) ?_
    refine lv_istore_n (lv' := [(3, .int 0), (2, .int 0), (1, .int 0), (0, .ref (a 0))]) hx hb dX3_closeMonth_25 rfl hl (by decide) rfl (fun ls hl => ?_)
    refine loopM (LV := fun k => [(0, .ref (a 0)), (1, .int (S32 (fun j => mBear v j 1 + mBear v j 2) k)), (2, .int (S32 (fun j => mBear v j 0) k)), (3, .int (nI k))]) (WS := fun k => mdW y a (mC1 (mT v 0) t k)) n hP hD hS (lv_sub hl [3, 2, 1, 0] rfl) (fun k H locs ls hk_k hP hD hS hl ih_k => ?_) (fun H locs ls hP hD hS hl => ?_)
    · have hl : lv_has ls 4 [(0, .ref (a 0)), (1, .int (S32 (fun j => mBear v j 1 + mBear v j 2) k)), (2, .int (S32 (fun j => mBear v j 0) k)), (3, .int (nI k))] := hl
      have hP : va_P G vwCl (mdW y a (mC1 (mT v 0) t k)) H := hP
      have hD : va_D A (mdW y a (mC1 (mT v 0) t k)) := hD
      have hb1 := (hbr k hk_k).2
      have hp1 := (hpr k hk_k).2
      refine lv_iload_n hx hb dX3_closeMonth_26 rfl (lv_at hl 3 rfl) ?_
      refine lv_aload_n hx hb dX3_closeMonth_27 rfl (lv_at hl 0 rfl) ?_
      refine mdG (v := (mC1 (mT v 0) t k)) (val := .int ((mC1 (mT v 0) t k) 0 6)) hx hb hts hin3 hown hK hP 6 (by decide) (hts (.fieldLink RX3 66 "FundBookModel" "loans" "I") (by decide +kernel)) rfl dX3_closeMonth_28 ?_
      refine lv_topE (z := nI n) (by rw [mC1_o (by decide) (by decide)]; exact hn) ?_
      refine lv_icmp_ge (tgt := 119) hx hb dX3_closeMonth_31 (by decide) (fun c_31 => absurd c_31 (nI_ge hk_k (by omega))) (fun c_31 => ?_)
      exact c_X3_closeMonth_1a l G y a v n hn hn24 t ht ht47 bo hbo ht46 hbr hpr k hk_k hb1 hp1 hx hb hr hml hown hlocks hts hin3 hK hA hS hP hD (lv_sub hl [0, 1, 2, 3] rfl) ih_k
    · have hl : lv_has ls 4 [(0, .ref (a 0)), (1, .int (S32 (fun j => mBear v j 1 + mBear v j 2) n)), (2, .int (S32 (fun j => mBear v j 0) n)), (3, .int (nI n))] := hl
      have hP : va_P G vwCl (mdW y a (mC1 (mT v 0) t n)) H := hP
      have hD : va_D A (mdW y a (mC1 (mT v 0) t n)) := hD
      refine lv_iload_n hx hb dX3_closeMonth_26 rfl (lv_at hl 3 rfl) ?_
      refine lv_aload_n hx hb dX3_closeMonth_27 rfl (lv_at hl 0 rfl) ?_
      refine mdG (v := (mC1 (mT v 0) t n)) (val := .int ((mC1 (mT v 0) t n) 0 6)) hx hb hts hin3 hown hK hP 6 (by decide) (hts (.fieldLink RX3 66 "FundBookModel" "loans" "I") (by decide +kernel)) rfl dX3_closeMonth_28 ?_
      refine lv_topE (z := nI n) (by rw [mC1_o (by decide) (by decide)]; exact hn) ?_
      refine lv_icmp_ge (tgt := 119) hx hb dX3_closeMonth_31 (by decide) (fun c_31 => ?_) (fun c_31 => absurd (nI_le (Nat.le_refl n) (by omega)) c_31)
      refine lv_iconst (v := 0) hx hb dX3_closeMonth_119 (by decide) ?_
      refine lv_istore_n (lv' := [(3, .int 0), (0, .ref (a 0)), (1, .int (S32 (fun j => mBear v j 1 + mBear v j 2) n)), (2, .int (S32 (fun j => mBear v j 0) n))]) hx hb dX3_closeMonth_120 rfl hl (by decide) rfl (fun ls hl => ?_)
      exact c_X3_closeMonth_2 l G y a v n hn hn24 t ht ht47 bo hbo ht46 hx hb hr hml hown hlocks hts hin3 hK hA hS hP hD (lv_sub hl [1, 2, 3, 0] rfl)
  · refine lv_aload_n hx hb dX3_closeMonth_14 rfl (lv_at hl 0 rfl) ?_
    refine lv_iconst (v := 1) hx hb dX3_closeMonth_15 (by decide) ?_
    refine caM (va_runV (As := [.int 1]) (rest := []) ⟨hx, hb, hml, hown, hts⟩ (c_X3_fails l G y a (u2 v 0 0 0) H.size 1) (cwV 1 hts gX3_closeMonth_X3_fails rfl rfl rfl (by decide +kernel) ⟨Nat.le_of_ble_eq_true rfl, Nat.le_of_ble_eq_true rfl⟩) ⟨mP_bl, va_recv hK.1 hP (ci := 3) (q0 := 0) rfl rfl, fun U hU hW => ⟨rfl, by rw [hU], by rw [hU]; exact hP, Kb.moved hW hK, hD.weaken (fun _ _ _ _ => trivial)⟩⟩ rfl rfl hl.1 rfl (lv_room (Nat.le_of_ble_eq_true rfl)) dX3_closeMonth_16 ⟨Nat.le_of_ble_eq_true rfl, Nat.le_of_ble_eq_true rfl⟩) hS (freeW hD hS hA) (freeW hD hS hA) (fun _ H locs _ hP hD _ _ hS => ?_)
    refine W.eq (g2 := F0 m 19 ls [.int 0]) rfl ?_
    have hP : va_P G vwCl (mdW y a (u2 (u2 v 0 0 0) 0 0 1)) H := hP
    have hD : va_D A (mdW y a (u2 (u2 v 0 0 0) 0 0 1)) := hD
    have ev : mClose v bo n t = ((u2 (u2 v 0 0 0) 0 0 1), 0) := by unfold mClose; exact (if_pos ((nI_eq (by omega) (by decide)).mp c_11))
    exact W.iret (v := 0) hx hb hr (fun t ht hW => ⟨⟨(), by rw [ev], trivial, by rw [ht, ev]; exact hP, by rw [ev]; exact hD⟩, hS.F ht⟩) hS.2.2 dX3_closeMonth_19
