/-! ===== the model's calls (printed by a program of mine) ===== -/
theorem cnI {i : Nat} (h : i < 2 ^ 31) : cn (nI i) = i := nI_clamp h
theorem n6lt {q : Nat} (h : ¬ (6 : Int32) ≤ nI q) (h2 : q < 2 ^ 31) : q < 6 := by
  rcases Nat.lt_or_ge q 6 with h1 | h1
  · exact h1
  · exact absurd (nI_le h1 h2) h
/-- an index that 'in' has let through -/
theorem inN {x : Int32} {M : Nat} (h : ¬ mIn x 0 (nI M) = 0) (hM : M < 2 ^ 31) : ∃ i, i ≤ M ∧ x = nI i :=
  ⟨cn x, cl_le (mIn_T h).1 (mIn_T h).2 hM, cl_nI (mIn_T h).1⟩
theorem in1N {x : Int32} {M : Nat} (h : ¬ mIn x 1 (nI M) = 0) (hM : M < 2 ^ 31) : ∃ i, i ≤ M ∧ 1 ≤ i ∧ x = nI i := by
  obtain ⟨h1, h2⟩ := mIn_T h
  have h0 := lt_1_0 h1
  refine ⟨cn x, cl_le h0 h2 hM, ?_, cl_nI h0⟩
  rcases Nat.eq_zero_or_pos (cn x) with q | q
  · have e := cl_nI h0
    rw [q] at e
    rw [e] at h1
    exact absurd (by decide) h1
  · exact q
theorem inL {x : Int32} {n : Nat} (h : ¬ mIn x 0 (nI n - 1) = 0) (hn : n < 2 ^ 31) : ∃ i, i < n ∧ x = nI i := by
  cases n with
  | zero =>
    obtain ⟨h1, h2⟩ := mIn_T h
    obtain ⟨j, hj, rfl⟩ := nI_of h1
    exfalso
    refine h2 ?_
    rw [Int32.lt_iff_toInt_lt, nI_toInt hj]
    have : (nI 0 - 1).toInt = -1 := by decide
    omega
  | succ k =>
    rw [nI_pred] at h
    obtain ⟨i, hi, e⟩ := inN h (by omega)
    exact ⟨i, by omega, e⟩
theorem mLp_o {w : MS} {n : Nat} {am : Int32} {mo : Nat} {j : Nat} (h1 : j ≠ 13) (h2 : j ≠ 14) : ∀ k, mLp w n am mo k j = w j
  | 0 => rfl
  | k + 1 => by rw [mLp, u2_j h2, u2_j h1, mLp_o h1 h2 k]
theorem mRz_o {w : MS} {i j : Nat} (h1 : j ≠ 13) : ∀ k, mRz w i k j = w j
  | 0 => rfl
  | k + 1 => by rw [mRz, u2_j h1, mRz_o h1 k]
theorem mLA_o {w : MS} {j : Nat} (h1 : j ≠ 16) (h2 : j ≠ 17) : ∀ k, mLA w k j = w j
  | 0 => rfl
  | k + 1 => by rw [mLA, mLay, u2_j h2, u2_j h1, mLA_o h1 h2 k]
theorem mC1_o {v : MS} {t j : Nat} (h1 : j ≠ 18) (h2 : j ≠ 19) : ∀ k, mC1 v t k j = v j
  | 0 => rfl
  | k + 1 => by rw [mC1, u2_j h2, u2_j h1, mC1_o h1 h2 k]
theorem mC2_o {w v : MS} {t j : Nat} (h1 : j ≠ 18) : ∀ k, mC2 w v t k j = w j
  | 0 => rfl
  | k + 1 => by rw [mC2, u2_j h1, mC2_o h1 k]
theorem mC3_o {w : MS} {bo : Nat → Nat} {t j : Nat} (h1 : j ≠ 13) : ∀ k, mC3 w bo t k j = w j
  | 0 => rfl
  | k + 1 => by
    rw [mC3]
    split
    · rw [u2_j h1, mC3_o h1 k]
    · exact mC3_o h1 k
theorem mBear_c {v w : MS} {i : Nat} {x : Int32} (h9 : w 9 = v 9) (h10 : w 10 = v 10) (h11 : w 11 = v 11) (h13 : w 13 = v 13) (h14 : w 14 = v 14) : mBear w i x = mBear v i x := by
  have e : mFnd w i = mFnd v i := by
    funext k
    simp only [mFnd, h13, h14]
  simp only [mBear, mCust, mFund, mOpt, mLeft, e, h9, h10, h11, h13]
theorem mC1_b {v : MS} {t k i : Nat} {x : Int32} : mBear (mC1 v t k) i x = mBear v i x :=
  mBear_c (mC1_o (by decide) (by decide) k) (mC1_o (by decide) (by decide) k) (mC1_o (by decide) (by decide) k) (mC1_o (by decide) (by decide) k) (mC1_o (by decide) (by decide) k)
theorem S32_s {f : Nat → Int32} {k : Nat} : S32 f k + f k = S32 f (k + 1) := rfl
theorem D32_s {x : Int32} {f : Nat → Int32} {k : Nat} : D32 x f k - f k = D32 x f (k + 1) := rfl
theorem mC1_T {v : MS} {t k : Nat} : mC1 (mT v 0) t (k + 1) = u2 (u2 (mC1 (mT v 0) t k) 18 (3 * t + cn (v 7 k)) (mC1 (mT v 0) t k 18 (3 * t + cn (v 7 k)) + mBear v k 3)) 19 (3 * t + cn (v 8 k)) (mC1 (mT v 0) t k 19 (3 * t + cn (v 8 k)) + mBear v k 3) := by
  have hb : mBear (mT v 0) k 3 = mBear v k 3 := mBear_c rfl rfl rfl rfl rfl
  have h7 : mT v 0 7 = v 7 := rfl
  have h8 : mT v 0 8 = v 8 := rfl
  rw [mC1, hb, h7, h8]
theorem mPaid_c {v w : MS} {k : Nat} (h0 : w 0 5 = v 0 5) (h2 : w 2 = v 2) (h15 : w 15 = v 15) (h16 : w 16 = v 16) (h17 : w 17 = v 17) : mPaid w k = mPaid v k := by
  have e1 : mRal w = mRal v := by
    funext k
    simp only [mRal, h16]
  have e2 : mRsm w = mRsm v := by
    funext k
    simp only [mRsm, h16, h17]
  simp only [mPaid, mOwn, mRep, e1, e2, h0, h2, h15]
theorem mPays_c {v w : MS} {k : Nat} (h0 : w 0 3 = v 0 3) (h15 : w 15 = v 15) : mPays w k = mPays v k := by
  simp only [mPays, h0, h15]
set_option maxHeartbeats 4000000 in
set_option maxRecDepth 100000 in
theorem c_X3_setCurve (l : Launch) (G : va_G) (y : Nat → ClassId) (a : Nat → Nat) (v : MS) (sz : Nat) (x r : Int32) : Met l yX3_setCurve wsX3_setCurve ({ frames := 1, cells := 0, slots := 0, locals := 22 }) (mP G y [.ref (a 0), .int x, .int r] (mdW y a v) sz) (mQ G (fun _ : Unit => some (.int (mSetCurve v x r).2)) (fun _ => True) (fun _ => mdW y a (mSetCurve v x r).1) (va_A (mdW y a v) sz)) 0 0 (va_A (mdW y a v) sz) := by
  refine Met.ofW (cc := cX3_setCurve) (maxL := 4) (ret := (some .int)) (by decide) rfl ?_
  intro p e s m args below meth c s₁ B hml hv
  obtain ⟨rfl, hsz, hP, hK, hD0⟩ := hv
  have hx := B.exec
  have hb := B.bytes
  have hr := B.returns
  have hts := atoms_spec (ws := wsX3_setCurve) B.pre
  have hown : s.vm.findClass RX3 = some m.cls := findClass_of_methodNamed B.named
  have hlocks := B.notSynchronized
  subst hsz
  have hD := hD0.self (sz := s.heap.size)
  generalize hAe : va_A (mdW y a v) s.heap.size = A at hD ⊢
  have hA : ∀ q : Nat, s.heap.size ≤ q → A q := fun q h => by rw [← hAe]; exact Or.inr h
  have hS : va_S A s.heap s.heap [] := va_S.rf
  have hP : va_P G vwCl (mdW y a v) s.heap := hP
  have hl := lv_entry ([.ref (a 0), .int x, .int r]) (n := 4) (Nat.le_of_ble_eq_true rfl)
  rw [lg_entry_eq]
  generalize (lg_sl ([.ref (a 0), .int x, .int r]) ++ List.replicate (4 - (lg_sl ([.ref (a 0), .int x, .int r])).length) Slot.unset).toArray = ls at hl ⊢
  have hin3 : ∀ w ∈ wsX30, w ∈ wsX3_setCurve := by decide +kernel
  have hl : lv_has ls 4 [(0, .ref (a 0)), (1, .int x), (2, .int r)] := hl
  refine lv_aload_n hx hb dX3_setCurve_0 rfl (lv_at hl 0 rfl) ?_
  refine lv_iconst (v := 0) hx hb dX3_setCurve_1 (by decide) ?_
  refine mdS (v := v) (x := 0) hx hb hts hin3 hown hK hP hD hS 0 (by decide) (hts (.fieldLink RX3 63 "FundBookModel" "thrown" "I") (by decide +kernel)) dX3_setCurve_2 (fun H locs hP hD hS => ?_)
  refine lv_iload_n hx hb dX3_setCurve_5 rfl (lv_at hl 1 rfl) ?_
  refine lv_iconst (v := 1) hx hb dX3_setCurve_6 (by decide) ?_
  refine lv_bipush (v := 6) hx hb dX3_setCurve_7 (by decide) ?_
  refine caR (r := .int (mIn x 1 6)) (va_runS (As := [.int x, .int 1, .int 6]) (rest := []) ⟨hx, hb, hml, hown, hts⟩ (c_X3_in l x 1 6) (va_cwS 3 hts gX3_setCurve_X3_in rfl rfl rfl (by decide +kernel) ⟨Nat.le_of_ble_eq_true rfl, Nat.le_of_ble_eq_true rfl⟩) ⟨nP_bl, fun _ _ _ => ⟨rfl, trivial⟩⟩ rfl rfl hl.1 rfl (lv_room (Nat.le_of_ble_eq_true rfl)) dX3_setCurve_9 ⟨Nat.le_of_ble_eq_true rfl, Nat.le_of_ble_eq_true rfl⟩) ?_
  refine lv_if_ne (tgt := 21) hx hb dX3_setCurve_12 (by decide) (fun c_12 => ?_) (fun c_12 => ?_)
  · refine lv_iload_n hx hb dX3_setCurve_21 rfl (lv_at hl 2 rfl) ?_
    refine lv_iconst (v := 0) hx hb dX3_setCurve_22 (by decide) ?_
    refine lv_sipush (v := 5000) hx hb dX3_setCurve_23 (by decide) ?_
    refine caR (r := .int (mIn r 0 5000)) (va_runS (As := [.int r, .int 0, .int 5000]) (rest := []) ⟨hx, hb, hml, hown, hts⟩ (c_X3_in l r 0 5000) (va_cwS 3 hts gX3_setCurve_X3_in rfl rfl rfl (by decide +kernel) ⟨Nat.le_of_ble_eq_true rfl, Nat.le_of_ble_eq_true rfl⟩) ⟨nP_bl, fun _ _ _ => ⟨rfl, trivial⟩⟩ rfl rfl hl.1 rfl (lv_room (Nat.le_of_ble_eq_true rfl)) dX3_setCurve_26 ⟨Nat.le_of_ble_eq_true rfl, Nat.le_of_ble_eq_true rfl⟩) ?_
    refine lv_if_ne (tgt := 38) hx hb dX3_setCurve_29 (by decide) (fun c_29 => ?_) (fun c_29 => ?_)
    · obtain ⟨i, hi, hi1, rfl⟩ := in1N (M := 6) c_12 (by decide)
      refine lv_aload_n hx hb dX3_setCurve_38 rfl (lv_at hl 0 rfl) ?_
      refine mdG (v := (u2 v 0 0 0)) (val := .ref (a 2)) hx hb hts hin3 hown hK hP 2 (by decide) (hts (.fieldLink RX3 7 "FundBookModel" "curve" "[I") (by decide +kernel)) rfl dX3_setCurve_39 ?_
      refine lv_iload_n hx hb dX3_setCurve_42 rfl (lv_at hl 1 rfl) ?_
      refine ldI (f := v 2) hx hb hK hP 1 rfl i rfl (by omega) (by decide) dX3_setCurve_43 ?_
      refine lv_istore_n (lv' := [(3, .int (v 2 i)), (0, .ref (a 0)), (1, .int (nI i)), (2, .int r)]) hx hb dX3_setCurve_44 rfl hl (by decide) rfl (fun ls hl => ?_)
      refine lv_aload_n hx hb dX3_setCurve_45 rfl (lv_at hl 1 rfl) ?_
      refine mdG (v := (u2 v 0 0 0)) (val := .ref (a 2)) hx hb hts hin3 hown hK hP 2 (by decide) (hts (.fieldLink RX3 7 "FundBookModel" "curve" "[I") (by decide +kernel)) rfl dX3_setCurve_46 ?_
      refine lv_iload_n hx hb dX3_setCurve_49 rfl (lv_at hl 2 rfl) ?_
      refine lv_iload_n hx hb dX3_setCurve_50 rfl (lv_at hl 3 rfl) ?_
      refine stI (f := (u2 v 0 0 0) 2) (ws1 := mdW y a (u2 (u2 v 0 0 0) 2 i r)) hx hb hK hP hD hS 1 mg_2 i rfl (by omega) (by decide) ms_2 dX3_setCurve_51 (fun H locs hP hD hS => ?_)
      refine lv_iload_n hx hb dX3_setCurve_52 rfl (lv_at hl 0 rfl) ?_
      have ev : mSetCurve v (nI i) r = ((u2 (u2 v 0 0 0) 2 i r), v 2 i) := by unfold mSetCurve; rw [cnI (by omega)]; exact (if_neg c_12).trans ((if_neg c_29))
      exact W.iret (v := v 2 i) hx hb hr (fun t ht hW => ⟨⟨(), by rw [ev], trivial, by rw [ht, ev]; exact hP, by rw [ev]; exact hD⟩, hS.F ht⟩) hS.2.2 dX3_setCurve_53
    · refine lv_aload_n hx hb dX3_setCurve_32 rfl (lv_at hl 0 rfl) ?_
      refine lv_iconst (v := 2) hx hb dX3_setCurve_33 (by decide) ?_
      refine caM (va_runV (As := [.int 2]) (rest := []) ⟨hx, hb, hml, hown, hts⟩ (c_X3_fails l G y a (u2 v 0 0 0) H.size 2) (cwV 1 hts gX3_setCurve_X3_fails rfl rfl rfl (by decide +kernel) ⟨Nat.le_of_ble_eq_true rfl, Nat.le_of_ble_eq_true rfl⟩) ⟨mP_bl, va_recv hK.1 hP (ci := 3) (q0 := 0) rfl rfl, fun U hU hW => ⟨rfl, by rw [hU], by rw [hU]; exact hP, Kb.moved hW hK, hD.weaken (fun _ _ _ _ => trivial)⟩⟩ rfl rfl hl.1 rfl (lv_room (Nat.le_of_ble_eq_true rfl)) dX3_setCurve_34 ⟨Nat.le_of_ble_eq_true rfl, Nat.le_of_ble_eq_true rfl⟩) hS (freeW hD hS hA) (freeW hD hS hA) (fun _ H locs _ hP hD _ _ hS => ?_)
      refine W.eq (g2 := F0 m 37 ls [.int 0]) rfl ?_
      have hP : va_P G vwCl (mdW y a (u2 (u2 v 0 0 0) 0 0 2)) H := hP
      have hD : va_D A (mdW y a (u2 (u2 v 0 0 0) 0 0 2)) := hD
      have ev : mSetCurve v x r = ((u2 (u2 v 0 0 0) 0 0 2), 0) := by unfold mSetCurve; exact (if_neg c_12).trans ((if_pos c_29))
      exact W.iret (v := 0) hx hb hr (fun t ht hW => ⟨⟨(), by rw [ev], trivial, by rw [ht, ev]; exact hP, by rw [ev]; exact hD⟩, hS.F ht⟩) hS.2.2 dX3_setCurve_37
  · refine lv_aload_n hx hb dX3_setCurve_15 rfl (lv_at hl 0 rfl) ?_
    refine lv_iconst (v := 1) hx hb dX3_setCurve_16 (by decide) ?_
    refine caM (va_runV (As := [.int 1]) (rest := []) ⟨hx, hb, hml, hown, hts⟩ (c_X3_fails l G y a (u2 v 0 0 0) H.size 1) (cwV 1 hts gX3_setCurve_X3_fails rfl rfl rfl (by decide +kernel) ⟨Nat.le_of_ble_eq_true rfl, Nat.le_of_ble_eq_true rfl⟩) ⟨mP_bl, va_recv hK.1 hP (ci := 3) (q0 := 0) rfl rfl, fun U hU hW => ⟨rfl, by rw [hU], by rw [hU]; exact hP, Kb.moved hW hK, hD.weaken (fun _ _ _ _ => trivial)⟩⟩ rfl rfl hl.1 rfl (lv_room (Nat.le_of_ble_eq_true rfl)) dX3_setCurve_17 ⟨Nat.le_of_ble_eq_true rfl, Nat.le_of_ble_eq_true rfl⟩) hS (freeW hD hS hA) (freeW hD hS hA) (fun _ H locs _ hP hD _ _ hS => ?_)
    refine W.eq (g2 := F0 m 20 ls [.int 0]) rfl ?_
    have hP : va_P G vwCl (mdW y a (u2 (u2 v 0 0 0) 0 0 1)) H := hP
    have hD : va_D A (mdW y a (u2 (u2 v 0 0 0) 0 0 1)) := hD
    have ev : mSetCurve v x r = ((u2 (u2 v 0 0 0) 0 0 1), 0) := by unfold mSetCurve; exact (if_pos c_12)
    exact W.iret (v := 0) hx hb hr (fun t ht hW => ⟨⟨(), by rw [ev], trivial, by rw [ht, ev]; exact hP, by rw [ev]; exact hD⟩, hS.F ht⟩) hS.2.2 dX3_setCurve_20
set_option maxHeartbeats 4000000 in
set_option maxRecDepth 100000 in
theorem c_X3_setRates (l : Launch) (G : va_G) (y : Nat → ClassId) (a : Nat → Nat) (v : MS) (sz : Nat) (d o c0 : Int32) : Met l yX3_setRates wsX3_setRates ({ frames := 1, cells := 0, slots := 0, locals := 22 }) (mP G y [.ref (a 0), .int d, .int o, .int c0] (mdW y a v) sz) (mQ G (fun _ : Unit => none) (fun _ => True) (fun _ => mdW y a (mSetRates v d o c0)) (va_A (mdW y a v) sz)) 0 0 (va_A (mdW y a v) sz) := by
  refine Met.ofW (cc := cX3_setRates) (maxL := 4) (ret := none) (by decide) rfl ?_
  intro p e s m args below meth c s₁ B hml hv
  obtain ⟨rfl, hsz, hP, hK, hD0⟩ := hv
  have hx := B.exec
  have hb := B.bytes
  have hr := B.returns
  have hts := atoms_spec (ws := wsX3_setRates) B.pre
  have hown : s.vm.findClass RX3 = some m.cls := findClass_of_methodNamed B.named
  have hlocks := B.notSynchronized
  subst hsz
  have hD := hD0.self (sz := s.heap.size)
  generalize hAe : va_A (mdW y a v) s.heap.size = A at hD ⊢
  have hA : ∀ q : Nat, s.heap.size ≤ q → A q := fun q h => by rw [← hAe]; exact Or.inr h
  have hS : va_S A s.heap s.heap [] := va_S.rf
  have hP : va_P G vwCl (mdW y a v) s.heap := hP
  have hl := lv_entry ([.ref (a 0), .int d, .int o, .int c0]) (n := 4) (Nat.le_of_ble_eq_true rfl)
  rw [lg_entry_eq]
  generalize (lg_sl ([.ref (a 0), .int d, .int o, .int c0]) ++ List.replicate (4 - (lg_sl ([.ref (a 0), .int d, .int o, .int c0])).length) Slot.unset).toArray = ls at hl ⊢
  have hin3 : ∀ w ∈ wsX30, w ∈ wsX3_setRates := by decide +kernel
  have hl : lv_has ls 4 [(0, .ref (a 0)), (1, .int d), (2, .int o), (3, .int c0)] := hl
  refine lv_aload_n hx hb dX3_setRates_0 rfl (lv_at hl 0 rfl) ?_
  refine lv_iload_n hx hb dX3_setRates_1 rfl (lv_at hl 1 rfl) ?_
  refine lv_iconst (v := 0) hx hb dX3_setRates_2 (by decide) ?_
  refine lv_sipush (v := 5000) hx hb dX3_setRates_3 (by decide) ?_
  refine caR (r := .int (mIn d 0 5000)) (va_runS (As := [.int d, .int 0, .int 5000]) (rest := [.ref (a 0)]) ⟨hx, hb, hml, hown, hts⟩ (c_X3_in l d 0 5000) (va_cwS 3 hts gX3_setRates_X3_in rfl rfl rfl (by decide +kernel) ⟨Nat.le_of_ble_eq_true rfl, Nat.le_of_ble_eq_true rfl⟩) ⟨nP_bl, fun _ _ _ => ⟨rfl, trivial⟩⟩ rfl rfl hl.1 rfl (lv_room (Nat.le_of_ble_eq_true rfl)) dX3_setRates_6 ⟨Nat.le_of_ble_eq_true rfl, Nat.le_of_ble_eq_true rfl⟩) ?_
  refine lv_if_eq (tgt := 37) hx hb dX3_setRates_9 (by decide) (fun c_9 => ?_) (fun c_9 => ?_)
  · refine lv_iconst (v := 1) hx hb dX3_setRates_37 (by decide) ?_
    refine mdS (v := v) (x := 1) hx hb hts hin3 hown hK hP hD hS 0 (by decide) (hts (.fieldLink RX3 63 "FundBookModel" "thrown" "I") (by decide +kernel)) dX3_setRates_38 (fun H locs hP hD hS => ?_)
    refine lv_aload_n hx hb dX3_setRates_41 rfl (lv_at hl 0 rfl) ?_
    refine mdG (v := (u2 v 0 0 1)) (val := .int 1) hx hb hts hin3 hown hK hP 0 (by decide) (hts (.fieldLink RX3 63 "FundBookModel" "thrown" "I") (by decide +kernel)) rfl dX3_setRates_42 ?_
    refine lv_if_ne (tgt := 63) hx hb dX3_setRates_45 (by decide) (fun c_45 => ?_) (fun c_45 => absurd c_45 (by decide))
    have ev : mSetRates v d o c0 = (u2 v 0 0 1) := by unfold mSetRates; exact if_pos (Or.inl c_9)
    exact W.vret hx hb hr (fun t ht hW => ⟨⟨(), rfl, trivial, by rw [ht, ev]; exact hP, by rw [ev]; exact hD⟩, hS.F ht⟩) hS.2.2 dX3_setRates_63
  · refine lv_iload_n hx hb dX3_setRates_12 rfl (lv_at hl 2 rfl) ?_
    refine lv_iconst (v := 0) hx hb dX3_setRates_13 (by decide) ?_
    refine lv_sipush (v := 5000) hx hb dX3_setRates_14 (by decide) ?_
    refine caR (r := .int (mIn o 0 5000)) (va_runS (As := [.int o, .int 0, .int 5000]) (rest := [.ref (a 0)]) ⟨hx, hb, hml, hown, hts⟩ (c_X3_in l o 0 5000) (va_cwS 3 hts gX3_setRates_X3_in rfl rfl rfl (by decide +kernel) ⟨Nat.le_of_ble_eq_true rfl, Nat.le_of_ble_eq_true rfl⟩) ⟨nP_bl, fun _ _ _ => ⟨rfl, trivial⟩⟩ rfl rfl hl.1 rfl (lv_room (Nat.le_of_ble_eq_true rfl)) dX3_setRates_17 ⟨Nat.le_of_ble_eq_true rfl, Nat.le_of_ble_eq_true rfl⟩) ?_
    refine lv_if_eq (tgt := 37) hx hb dX3_setRates_20 (by decide) (fun c_20 => ?_) (fun c_20 => ?_)
    · refine lv_iconst (v := 1) hx hb dX3_setRates_37 (by decide) ?_
      refine mdS (v := v) (x := 1) hx hb hts hin3 hown hK hP hD hS 0 (by decide) (hts (.fieldLink RX3 63 "FundBookModel" "thrown" "I") (by decide +kernel)) dX3_setRates_38 (fun H locs hP hD hS => ?_)
      refine lv_aload_n hx hb dX3_setRates_41 rfl (lv_at hl 0 rfl) ?_
      refine mdG (v := (u2 v 0 0 1)) (val := .int 1) hx hb hts hin3 hown hK hP 0 (by decide) (hts (.fieldLink RX3 63 "FundBookModel" "thrown" "I") (by decide +kernel)) rfl dX3_setRates_42 ?_
      refine lv_if_ne (tgt := 63) hx hb dX3_setRates_45 (by decide) (fun c_45 => ?_) (fun c_45 => absurd c_45 (by decide))
      have ev : mSetRates v d o c0 = (u2 v 0 0 1) := by unfold mSetRates; exact if_pos (Or.inr (Or.inl c_20))
      exact W.vret hx hb hr (fun t ht hW => ⟨⟨(), rfl, trivial, by rw [ht, ev]; exact hP, by rw [ev]; exact hD⟩, hS.F ht⟩) hS.2.2 dX3_setRates_63
    · refine lv_iload_n hx hb dX3_setRates_23 rfl (lv_at hl 3 rfl) ?_
      refine lv_iconst (v := 0) hx hb dX3_setRates_24 (by decide) ?_
      refine lv_bipush (v := 100) hx hb dX3_setRates_25 (by decide) ?_
      refine caR (r := .int (mIn c0 0 100)) (va_runS (As := [.int c0, .int 0, .int 100]) (rest := [.ref (a 0)]) ⟨hx, hb, hml, hown, hts⟩ (c_X3_in l c0 0 100) (va_cwS 3 hts gX3_setRates_X3_in rfl rfl rfl (by decide +kernel) ⟨Nat.le_of_ble_eq_true rfl, Nat.le_of_ble_eq_true rfl⟩) ⟨nP_bl, fun _ _ _ => ⟨rfl, trivial⟩⟩ rfl rfl hl.1 rfl (lv_room (Nat.le_of_ble_eq_true rfl)) dX3_setRates_27 ⟨Nat.le_of_ble_eq_true rfl, Nat.le_of_ble_eq_true rfl⟩) ?_
      refine lv_if_eq (tgt := 37) hx hb dX3_setRates_30 (by decide) (fun c_30 => ?_) (fun c_30 => ?_)
      · refine lv_iconst (v := 1) hx hb dX3_setRates_37 (by decide) ?_
        refine mdS (v := v) (x := 1) hx hb hts hin3 hown hK hP hD hS 0 (by decide) (hts (.fieldLink RX3 63 "FundBookModel" "thrown" "I") (by decide +kernel)) dX3_setRates_38 (fun H locs hP hD hS => ?_)
        refine lv_aload_n hx hb dX3_setRates_41 rfl (lv_at hl 0 rfl) ?_
        refine mdG (v := (u2 v 0 0 1)) (val := .int 1) hx hb hts hin3 hown hK hP 0 (by decide) (hts (.fieldLink RX3 63 "FundBookModel" "thrown" "I") (by decide +kernel)) rfl dX3_setRates_42 ?_
        refine lv_if_ne (tgt := 63) hx hb dX3_setRates_45 (by decide) (fun c_45 => ?_) (fun c_45 => absurd c_45 (by decide))
        have ev : mSetRates v d o c0 = (u2 v 0 0 1) := by unfold mSetRates; exact if_pos (Or.inr (Or.inr c_30))
        exact W.vret hx hb hr (fun t ht hW => ⟨⟨(), rfl, trivial, by rw [ht, ev]; exact hP, by rw [ev]; exact hD⟩, hS.F ht⟩) hS.2.2 dX3_setRates_63
      · refine lv_iconst (v := 0) hx hb dX3_setRates_33 (by decide) ?_
        refine lv_goto (tgt := 38) hx hb dX3_setRates_34 (by decide) ?_
        refine mdS (v := v) (x := 0) hx hb hts hin3 hown hK hP hD hS 0 (by decide) (hts (.fieldLink RX3 63 "FundBookModel" "thrown" "I") (by decide +kernel)) dX3_setRates_38 (fun H locs hP hD hS => ?_)
        refine lv_aload_n hx hb dX3_setRates_41 rfl (lv_at hl 0 rfl) ?_
        refine mdG (v := (u2 v 0 0 0)) (val := .int 0) hx hb hts hin3 hown hK hP 0 (by decide) (hts (.fieldLink RX3 63 "FundBookModel" "thrown" "I") (by decide +kernel)) rfl dX3_setRates_42 ?_
        refine lv_if_ne (tgt := 63) hx hb dX3_setRates_45 (by decide) (fun c_45 => absurd rfl c_45) (fun c_45 => ?_)
        refine lv_aload_n hx hb dX3_setRates_48 rfl (lv_at hl 0 rfl) ?_
        refine lv_iload_n hx hb dX3_setRates_49 rfl (lv_at hl 1 rfl) ?_
        refine mdS (v := (u2 v 0 0 0)) (x := d) hx hb hts hin3 hown hK hP hD hS 3 (by decide) (hts (.fieldLink RX3 80 "FundBookModel" "depositRate" "I") (by decide +kernel)) dX3_setRates_50 (fun H locs hP hD hS => ?_)
        refine lv_aload_n hx hb dX3_setRates_53 rfl (lv_at hl 0 rfl) ?_
        refine lv_iload_n hx hb dX3_setRates_54 rfl (lv_at hl 2 rfl) ?_
        refine mdS (v := (u2 (u2 v 0 0 0) 0 3 d)) (x := o) hx hb hts hin3 hown hK hP hD hS 4 (by decide) (hts (.fieldLink RX3 83 "FundBookModel" "optionRate" "I") (by decide +kernel)) dX3_setRates_55 (fun H locs hP hD hS => ?_)
        refine lv_aload_n hx hb dX3_setRates_58 rfl (lv_at hl 0 rfl) ?_
        refine lv_iload_n hx hb dX3_setRates_59 rfl (lv_at hl 3 rfl) ?_
        refine mdS (v := (u2 (u2 (u2 v 0 0 0) 0 3 d) 0 4 o)) (x := c0) hx hb hts hin3 hown hK hP hD hS 5 (by decide) (hts (.fieldLink RX3 13 "FundBookModel" "share" "I") (by decide +kernel)) dX3_setRates_60 (fun H locs hP hD hS => ?_)
        have ev : mSetRates v d o c0 = (u2 (u2 (u2 (u2 v 0 0 0) 0 3 d) 0 4 o) 0 5 c0) := by unfold mSetRates; exact if_neg (fun q => q.elim c_9 (fun q => q.elim c_20 c_30))
        exact W.vret hx hb hr (fun t ht hW => ⟨⟨(), rfl, trivial, by rw [ht, ev]; exact hP, by rw [ev]; exact hD⟩, hS.F ht⟩) hS.2.2 dX3_setRates_63
set_option maxHeartbeats 4000000 in
set_option maxRecDepth 100000 in
theorem c_X3_lend (l : Launch) (G : va_G) (y : Nat → ClassId) (a : Nat → Nat) (v : MS) (sz : Nat) (br pr am rt mo op : Int32) (n : Nat) (hn : v 0 6 = nI n) (hn24 : n ≤ 24) (hop : op = 0 ∨ op = 1) : Met l yX3_lend wsX3_lend ({ frames := 2, cells := 0, slots := 0, locals := 42 }) (mP G y [.ref (a 0), .int br, .int pr, .int am, .int rt, .int mo, .int op] (mdW y a v) sz) (mQ G (fun _ : Unit => some (.int (mLend v n br pr am rt mo op).2)) (fun _ => True) (fun _ => mdW y a (mLend v n br pr am rt mo op).1) (va_A (mdW y a v) sz)) 0 0 (va_A (mdW y a v) sz) := by
  refine Met.ofW (cc := cX3_lend) (maxL := 8) (ret := (some .int)) (by decide) rfl ?_
  intro p e s m args below meth c s₁ B hml hv
  obtain ⟨rfl, hsz, hP, hK, hD0⟩ := hv
  have hx := B.exec
  have hb := B.bytes
  have hr := B.returns
  have hts := atoms_spec (ws := wsX3_lend) B.pre
  have hown : s.vm.findClass RX3 = some m.cls := findClass_of_methodNamed B.named
  have hlocks := B.notSynchronized
  subst hsz
  have hD := hD0.self (sz := s.heap.size)
  generalize hAe : va_A (mdW y a v) s.heap.size = A at hD ⊢
  have hA : ∀ q : Nat, s.heap.size ≤ q → A q := fun q h => by rw [← hAe]; exact Or.inr h
  have hS : va_S A s.heap s.heap [] := va_S.rf
  have hP : va_P G vwCl (mdW y a v) s.heap := hP
  have hl := lv_entry ([.ref (a 0), .int br, .int pr, .int am, .int rt, .int mo, .int op]) (n := 8) (Nat.le_of_ble_eq_true rfl)
  rw [lg_entry_eq]
  generalize (lg_sl ([.ref (a 0), .int br, .int pr, .int am, .int rt, .int mo, .int op]) ++ List.replicate (8 - (lg_sl ([.ref (a 0), .int br, .int pr, .int am, .int rt, .int mo, .int op])).length) Slot.unset).toArray = ls at hl ⊢
  have hin3 : ∀ w ∈ wsX30, w ∈ wsX3_lend := by decide +kernel
  have hl : lv_has ls 8 [(0, .ref (a 0)), (1, .int br), (2, .int pr), (3, .int am), (4, .int rt), (5, .int mo), (6, .int op)] := hl
  refine lv_aload_n hx hb dX3_lend_0 rfl (lv_at hl 0 rfl) ?_
  refine lv_iconst (v := 0) hx hb dX3_lend_1 (by decide) ?_
  refine mdS (v := v) (x := 0) hx hb hts hin3 hown hK hP hD hS 0 (by decide) (hts (.fieldLink RX3 63 "FundBookModel" "thrown" "I") (by decide +kernel)) dX3_lend_2 (fun H locs hP hD hS => ?_)
  refine lv_iload_n hx hb dX3_lend_5 rfl (lv_at hl 1 rfl) ?_
  refine caR (r := .int (mIn br 0 2)) (va_runS (As := [.int br]) (rest := []) ⟨hx, hb, hml, hown, hts⟩ (c_X3_isBranch l br) (va_cwS 1 hts gX3_lend_X3_isBranch rfl rfl rfl (by decide +kernel) ⟨Nat.le_of_ble_eq_true rfl, Nat.le_of_ble_eq_true rfl⟩) ⟨nP_bl, fun _ _ _ => ⟨rfl, trivial⟩⟩ rfl rfl hl.1 rfl (lv_room (Nat.le_of_ble_eq_true rfl)) dX3_lend_6 ⟨Nat.le_of_ble_eq_true rfl, Nat.le_of_ble_eq_true rfl⟩) ?_
  refine lv_if_eq (tgt := 21) hx hb dX3_lend_9 (by decide) (fun c_9 => ?_) (fun c_9 => ?_)
  · refine lv_aload_n hx hb dX3_lend_21 rfl (lv_at hl 0 rfl) ?_
    refine lv_iconst (v := 1) hx hb dX3_lend_22 (by decide) ?_
    refine caM (va_runV (As := [.int 1]) (rest := []) ⟨hx, hb, hml, hown, hts⟩ (c_X3_fails l G y a (u2 v 0 0 0) H.size 1) (cwV 1 hts gX3_lend_X3_fails rfl rfl rfl (by decide +kernel) ⟨Nat.le_of_ble_eq_true rfl, Nat.le_of_ble_eq_true rfl⟩) ⟨mP_bl, va_recv hK.1 hP (ci := 3) (q0 := 0) rfl rfl, fun U hU hW => ⟨rfl, by rw [hU], by rw [hU]; exact hP, Kb.moved hW hK, hD.weaken (fun _ _ _ _ => trivial)⟩⟩ rfl rfl hl.1 rfl (lv_room (Nat.le_of_ble_eq_true rfl)) dX3_lend_23 ⟨Nat.le_of_ble_eq_true rfl, Nat.le_of_ble_eq_true rfl⟩) hS (freeW hD hS hA) (freeW hD hS hA) (fun _ H locs _ hP hD _ _ hS => ?_)
    refine W.eq (g2 := F0 m 26 ls [.int 0]) rfl ?_
    have hP : va_P G vwCl (mdW y a (u2 (u2 v 0 0 0) 0 0 1)) H := hP
    have hD : va_D A (mdW y a (u2 (u2 v 0 0 0) 0 0 1)) := hD
    have ev : mLend v n br pr am rt mo op = ((u2 (u2 v 0 0 0) 0 0 1), 0) := by unfold mLend; exact (if_pos (Or.inl c_9))
    exact W.iret (v := 0) hx hb hr (fun t ht hW => ⟨⟨(), by rw [ev], trivial, by rw [ht, ev]; exact hP, by rw [ev]; exact hD⟩, hS.F ht⟩) hS.2.2 dX3_lend_26
  · refine lv_iload_n hx hb dX3_lend_12 rfl (lv_at hl 2 rfl) ?_
    refine lv_iconst (v := 0) hx hb dX3_lend_13 (by decide) ?_
    refine lv_iconst (v := 2) hx hb dX3_lend_14 (by decide) ?_
    refine caR (r := .int (mIn pr 0 2)) (va_runS (As := [.int pr, .int 0, .int 2]) (rest := []) ⟨hx, hb, hml, hown, hts⟩ (c_X3_in l pr 0 2) (va_cwS 3 hts gX3_lend_X3_in rfl rfl rfl (by decide +kernel) ⟨Nat.le_of_ble_eq_true rfl, Nat.le_of_ble_eq_true rfl⟩) ⟨nP_bl, fun _ _ _ => ⟨rfl, trivial⟩⟩ rfl rfl hl.1 rfl (lv_room (Nat.le_of_ble_eq_true rfl)) dX3_lend_15 ⟨Nat.le_of_ble_eq_true rfl, Nat.le_of_ble_eq_true rfl⟩) ?_
    refine lv_if_ne (tgt := 27) hx hb dX3_lend_18 (by decide) (fun c_18 => ?_) (fun c_18 => ?_)
    · refine lv_iload_n hx hb dX3_lend_27 rfl (lv_at hl 3 rfl) ?_
      refine lv_iconst (v := 1) hx hb dX3_lend_28 (by decide) ?_
      refine lv_ldc (v := 10000000) hx hb hown (hts (.constant RX3 95 10000000) (by decide +kernel)) dX3_lend_29 ?_
      refine caR (r := .int (mIn am 1 10000000)) (va_runS (As := [.int am, .int 1, .int 10000000]) (rest := []) ⟨hx, hb, hml, hown, hts⟩ (c_X3_in l am 1 10000000) (va_cwS 3 hts gX3_lend_X3_in rfl rfl rfl (by decide +kernel) ⟨Nat.le_of_ble_eq_true rfl, Nat.le_of_ble_eq_true rfl⟩) ⟨nP_bl, fun _ _ _ => ⟨rfl, trivial⟩⟩ rfl rfl hl.1 rfl (lv_room (Nat.le_of_ble_eq_true rfl)) dX3_lend_31 ⟨Nat.le_of_ble_eq_true rfl, Nat.le_of_ble_eq_true rfl⟩) ?_
      refine lv_if_eq (tgt := 60) hx hb dX3_lend_34 (by decide) (fun c_34 => ?_) (fun c_34 => ?_)
      · refine lv_aload_n hx hb dX3_lend_60 rfl (lv_at hl 0 rfl) ?_
        refine lv_iconst (v := 2) hx hb dX3_lend_61 (by decide) ?_
        refine caM (va_runV (As := [.int 2]) (rest := []) ⟨hx, hb, hml, hown, hts⟩ (c_X3_fails l G y a (u2 v 0 0 0) H.size 2) (cwV 1 hts gX3_lend_X3_fails rfl rfl rfl (by decide +kernel) ⟨Nat.le_of_ble_eq_true rfl, Nat.le_of_ble_eq_true rfl⟩) ⟨mP_bl, va_recv hK.1 hP (ci := 3) (q0 := 0) rfl rfl, fun U hU hW => ⟨rfl, by rw [hU], by rw [hU]; exact hP, Kb.moved hW hK, hD.weaken (fun _ _ _ _ => trivial)⟩⟩ rfl rfl hl.1 rfl (lv_room (Nat.le_of_ble_eq_true rfl)) dX3_lend_62 ⟨Nat.le_of_ble_eq_true rfl, Nat.le_of_ble_eq_true rfl⟩) hS (freeW hD hS hA) (freeW hD hS hA) (fun _ H locs _ hP hD _ _ hS => ?_)
        refine W.eq (g2 := F0 m 65 ls [.int 0]) rfl ?_
        have hP : va_P G vwCl (mdW y a (u2 (u2 v 0 0 0) 0 0 2)) H := hP
        have hD : va_D A (mdW y a (u2 (u2 v 0 0 0) 0 0 2)) := hD
        have ev : mLend v n br pr am rt mo op = ((u2 (u2 v 0 0 0) 0 0 2), 0) := by unfold mLend; exact (if_neg (fun q => q.elim c_9 c_18)).trans ((if_pos (Or.inl c_34)))
        exact W.iret (v := 0) hx hb hr (fun t ht hW => ⟨⟨(), by rw [ev], trivial, by rw [ht, ev]; exact hP, by rw [ev]; exact hD⟩, hS.F ht⟩) hS.2.2 dX3_lend_65
      · refine lv_iload hx hb dX3_lend_37 (lv_at hl 4 rfl) ?_
        refine lv_iconst (v := 0) hx hb dX3_lend_39 (by decide) ?_
        refine lv_sipush (v := 5000) hx hb dX3_lend_40 (by decide) ?_
        refine caR (r := .int (mIn rt 0 5000)) (va_runS (As := [.int rt, .int 0, .int 5000]) (rest := []) ⟨hx, hb, hml, hown, hts⟩ (c_X3_in l rt 0 5000) (va_cwS 3 hts gX3_lend_X3_in rfl rfl rfl (by decide +kernel) ⟨Nat.le_of_ble_eq_true rfl, Nat.le_of_ble_eq_true rfl⟩) ⟨nP_bl, fun _ _ _ => ⟨rfl, trivial⟩⟩ rfl rfl hl.1 rfl (lv_room (Nat.le_of_ble_eq_true rfl)) dX3_lend_43 ⟨Nat.le_of_ble_eq_true rfl, Nat.le_of_ble_eq_true rfl⟩) ?_
        refine lv_if_eq (tgt := 60) hx hb dX3_lend_46 (by decide) (fun c_46 => ?_) (fun c_46 => ?_)
        · refine lv_aload_n hx hb dX3_lend_60 rfl (lv_at hl 0 rfl) ?_
          refine lv_iconst (v := 2) hx hb dX3_lend_61 (by decide) ?_
          refine caM (va_runV (As := [.int 2]) (rest := []) ⟨hx, hb, hml, hown, hts⟩ (c_X3_fails l G y a (u2 v 0 0 0) H.size 2) (cwV 1 hts gX3_lend_X3_fails rfl rfl rfl (by decide +kernel) ⟨Nat.le_of_ble_eq_true rfl, Nat.le_of_ble_eq_true rfl⟩) ⟨mP_bl, va_recv hK.1 hP (ci := 3) (q0 := 0) rfl rfl, fun U hU hW => ⟨rfl, by rw [hU], by rw [hU]; exact hP, Kb.moved hW hK, hD.weaken (fun _ _ _ _ => trivial)⟩⟩ rfl rfl hl.1 rfl (lv_room (Nat.le_of_ble_eq_true rfl)) dX3_lend_62 ⟨Nat.le_of_ble_eq_true rfl, Nat.le_of_ble_eq_true rfl⟩) hS (freeW hD hS hA) (freeW hD hS hA) (fun _ H locs _ hP hD _ _ hS => ?_)
          refine W.eq (g2 := F0 m 65 ls [.int 0]) rfl ?_
          have hP : va_P G vwCl (mdW y a (u2 (u2 v 0 0 0) 0 0 2)) H := hP
          have hD : va_D A (mdW y a (u2 (u2 v 0 0 0) 0 0 2)) := hD
          have ev : mLend v n br pr am rt mo op = ((u2 (u2 v 0 0 0) 0 0 2), 0) := by unfold mLend; exact (if_neg (fun q => q.elim c_9 c_18)).trans ((if_pos (Or.inr (Or.inl c_46))))
          exact W.iret (v := 0) hx hb hr (fun t ht hW => ⟨⟨(), by rw [ev], trivial, by rw [ht, ev]; exact hP, by rw [ev]; exact hD⟩, hS.F ht⟩) hS.2.2 dX3_lend_65
        · refine lv_iload hx hb dX3_lend_49 (lv_at hl 5 rfl) ?_
          refine lv_iconst (v := 1) hx hb dX3_lend_51 (by decide) ?_
          refine lv_bipush (v := 6) hx hb dX3_lend_52 (by decide) ?_
          refine caR (r := .int (mIn mo 1 6)) (va_runS (As := [.int mo, .int 1, .int 6]) (rest := []) ⟨hx, hb, hml, hown, hts⟩ (c_X3_in l mo 1 6) (va_cwS 3 hts gX3_lend_X3_in rfl rfl rfl (by decide +kernel) ⟨Nat.le_of_ble_eq_true rfl, Nat.le_of_ble_eq_true rfl⟩) ⟨nP_bl, fun _ _ _ => ⟨rfl, trivial⟩⟩ rfl rfl hl.1 rfl (lv_room (Nat.le_of_ble_eq_true rfl)) dX3_lend_54 ⟨Nat.le_of_ble_eq_true rfl, Nat.le_of_ble_eq_true rfl⟩) ?_
          refine lv_if_ne (tgt := 66) hx hb dX3_lend_57 (by decide) (fun c_57 => ?_) (fun c_57 => ?_)
          · refine lv_aload_n hx hb dX3_lend_66 rfl (lv_at hl 0 rfl) ?_
            refine mdG (v := (u2 v 0 0 0)) (val := .int (v 0 6)) hx hb hts hin3 hown hK hP 6 (by decide) (hts (.fieldLink RX3 66 "FundBookModel" "loans" "I") (by decide +kernel)) rfl dX3_lend_67 ?_
            refine lv_topE (z := nI n) (hn) ?_
            refine lv_bipush (v := 24) hx hb dX3_lend_70 (by decide) ?_
            refine lv_icmp_ne (tgt := 81) hx hb dX3_lend_72 (by decide) (fun c_72 => ?_) (fun c_72 => ?_)
            · have hlt : n < 24 := by
                have h9 : ¬ n = 24 := fun q => c_72 (by rw [q]; rfl)
                omega
              obtain ⟨M, hM, hM1, rfl⟩ := in1N (M := 6) c_57 (by decide)
              refine lv_aload_n hx hb dX3_lend_81 rfl (lv_at hl 0 rfl) ?_
              refine mdG (v := (u2 v 0 0 0)) (val := .ref (a 7)) hx hb hts hin3 hown hK hP 7 (by decide) (hts (.fieldLink RX3 17 "FundBookModel" "branch" "[I") (by decide +kernel)) rfl dX3_lend_82 ?_
              refine lv_aload_n hx hb dX3_lend_85 rfl (lv_at hl 0 rfl) ?_
              refine mdG (v := (u2 v 0 0 0)) (val := .int (v 0 6)) hx hb hts hin3 hown hK hP 6 (by decide) (hts (.fieldLink RX3 66 "FundBookModel" "loans" "I") (by decide +kernel)) rfl dX3_lend_86 ?_
              refine lv_topE (z := nI n) (hn) ?_
              refine lv_iload_n hx hb dX3_lend_89 rfl (lv_at hl 1 rfl) ?_
              refine stI (f := (u2 v 0 0 0) 7) (ws1 := mdW y a (u2 (u2 v 0 0 0) 7 n br)) hx hb hK hP hD hS 2 mg_7 n rfl (by omega) (by decide) ms_7 dX3_lend_90 (fun H locs hP hD hS => ?_)
              refine lv_aload_n hx hb dX3_lend_91 rfl (lv_at hl 0 rfl) ?_
              refine mdG (v := (u2 (u2 v 0 0 0) 7 n br)) (val := .ref (a 8)) hx hb hts hin3 hown hK hP 8 (by decide) (hts (.fieldLink RX3 20 "FundBookModel" "product" "[I") (by decide +kernel)) rfl dX3_lend_92 ?_
              refine lv_aload_n hx hb dX3_lend_95 rfl (lv_at hl 0 rfl) ?_
              refine mdG (v := (u2 (u2 v 0 0 0) 7 n br)) (val := .int (v 0 6)) hx hb hts hin3 hown hK hP 6 (by decide) (hts (.fieldLink RX3 66 "FundBookModel" "loans" "I") (by decide +kernel)) rfl dX3_lend_96 ?_
              refine lv_topE (z := nI n) (hn) ?_
              refine lv_iload_n hx hb dX3_lend_99 rfl (lv_at hl 2 rfl) ?_
              refine stI (f := (u2 (u2 v 0 0 0) 7 n br) 8) (ws1 := mdW y a (u2 (u2 (u2 v 0 0 0) 7 n br) 8 n pr)) hx hb hK hP hD hS 3 mg_8 n rfl (by omega) (by decide) ms_8 dX3_lend_100 (fun H locs hP hD hS => ?_)
              refine lv_aload_n hx hb dX3_lend_101 rfl (lv_at hl 0 rfl) ?_
              refine mdG (v := (u2 (u2 (u2 v 0 0 0) 7 n br) 8 n pr)) (val := .ref (a 9)) hx hb hts hin3 hown hK hP 9 (by decide) (hts (.fieldLink RX3 23 "FundBookModel" "customers" "[I") (by decide +kernel)) rfl dX3_lend_102 ?_
              refine lv_aload_n hx hb dX3_lend_105 rfl (lv_at hl 0 rfl) ?_
              refine mdG (v := (u2 (u2 (u2 v 0 0 0) 7 n br) 8 n pr)) (val := .int (v 0 6)) hx hb hts hin3 hown hK hP 6 (by decide) (hts (.fieldLink RX3 66 "FundBookModel" "loans" "I") (by decide +kernel)) rfl dX3_lend_106 ?_
              refine lv_topE (z := nI n) (hn) ?_
              refine lv_iload hx hb dX3_lend_109 (lv_at hl 4 rfl) ?_
              refine stI (f := (u2 (u2 (u2 v 0 0 0) 7 n br) 8 n pr) 9) (ws1 := mdW y a (u2 (u2 (u2 (u2 v 0 0 0) 7 n br) 8 n pr) 9 n rt)) hx hb hK hP hD hS 4 mg_9 n rfl (by omega) (by decide) ms_9 dX3_lend_111 (fun H locs hP hD hS => ?_)
              refine lv_aload_n hx hb dX3_lend_112 rfl (lv_at hl 0 rfl) ?_
              refine mdG (v := (u2 (u2 (u2 (u2 v 0 0 0) 7 n br) 8 n pr) 9 n rt)) (val := .ref (a 10)) hx hb hts hin3 hown hK hP 10 (by decide) (hts (.fieldLink RX3 26 "FundBookModel" "option" "[I") (by decide +kernel)) rfl dX3_lend_113 ?_
              refine lv_aload_n hx hb dX3_lend_116 rfl (lv_at hl 0 rfl) ?_
              refine mdG (v := (u2 (u2 (u2 (u2 v 0 0 0) 7 n br) 8 n pr) 9 n rt)) (val := .int (v 0 6)) hx hb hts hin3 hown hK hP 6 (by decide) (hts (.fieldLink RX3 66 "FundBookModel" "loans" "I") (by decide +kernel)) rfl dX3_lend_117 ?_
              refine lv_topE (z := nI n) (hn) ?_
              refine lv_aload_n hx hb dX3_lend_120 rfl (lv_at hl 0 rfl) ?_
              refine mdG (v := (u2 (u2 (u2 (u2 v 0 0 0) 7 n br) 8 n pr) 9 n rt)) (val := .int (v 0 4)) hx hb hts hin3 hown hK hP 4 (by decide) (hts (.fieldLink RX3 83 "FundBookModel" "optionRate" "I") (by decide +kernel)) rfl dX3_lend_121 ?_
              refine stI (f := (u2 (u2 (u2 (u2 v 0 0 0) 7 n br) 8 n pr) 9 n rt) 10) (ws1 := mdW y a (u2 (u2 (u2 (u2 (u2 v 0 0 0) 7 n br) 8 n pr) 9 n rt) 10 n (v 0 4))) hx hb hK hP hD hS 5 mg_10 n rfl (by omega) (by decide) ms_10 dX3_lend_124 (fun H locs hP hD hS => ?_)
              refine lv_aload_n hx hb dX3_lend_125 rfl (lv_at hl 0 rfl) ?_
              refine mdG (v := (u2 (u2 (u2 (u2 (u2 v 0 0 0) 7 n br) 8 n pr) 9 n rt) 10 n (v 0 4))) (val := .ref (a 11)) hx hb hts hin3 hown hK hP 11 (by decide) (hts (.fieldLink RX3 29 "FundBookModel" "hasOption" "[Z") (by decide +kernel)) rfl dX3_lend_126 ?_
              refine lv_aload_n hx hb dX3_lend_129 rfl (lv_at hl 0 rfl) ?_
              refine mdG (v := (u2 (u2 (u2 (u2 (u2 v 0 0 0) 7 n br) 8 n pr) 9 n rt) 10 n (v 0 4))) (val := .int (v 0 6)) hx hb hts hin3 hown hK hP 6 (by decide) (hts (.fieldLink RX3 66 "FundBookModel" "loans" "I") (by decide +kernel)) rfl dX3_lend_130 ?_
              refine lv_topE (z := nI n) (hn) ?_
              refine lv_iload hx hb dX3_lend_133 (lv_at hl 6 rfl) ?_
              refine stZ (f := (u2 (u2 (u2 (u2 (u2 v 0 0 0) 7 n br) 8 n pr) 9 n rt) 10 n (v 0 4)) 11) (ws1 := mdW y a (u2 (u2 (u2 (u2 (u2 (u2 v 0 0 0) 7 n br) 8 n pr) 9 n rt) 10 n (v 0 4)) 11 n op)) hx hb hK hP hD hS 6 mg_11 n rfl (by omega) (by decide) hop ms_11 dX3_lend_135 (fun H locs hP hD hS => ?_)
              refine lv_aload_n hx hb dX3_lend_136 rfl (lv_at hl 0 rfl) ?_
              refine mdG (v := (u2 (u2 (u2 (u2 (u2 (u2 v 0 0 0) 7 n br) 8 n pr) 9 n rt) 10 n (v 0 4)) 11 n op)) (val := .ref (a 12)) hx hb hts hin3 hown hK hP 12 (by decide) (hts (.fieldLink RX3 33 "FundBookModel" "born" "[I") (by decide +kernel)) rfl dX3_lend_137 ?_
              refine lv_aload_n hx hb dX3_lend_140 rfl (lv_at hl 0 rfl) ?_
              refine mdG (v := (u2 (u2 (u2 (u2 (u2 (u2 v 0 0 0) 7 n br) 8 n pr) 9 n rt) 10 n (v 0 4)) 11 n op)) (val := .int (v 0 6)) hx hb hts hin3 hown hK hP 6 (by decide) (hts (.fieldLink RX3 66 "FundBookModel" "loans" "I") (by decide +kernel)) rfl dX3_lend_141 ?_
              refine lv_topE (z := nI n) (hn) ?_
              refine lv_aload_n hx hb dX3_lend_144 rfl (lv_at hl 0 rfl) ?_
              refine mdG (v := (u2 (u2 (u2 (u2 (u2 (u2 v 0 0 0) 7 n br) 8 n pr) 9 n rt) 10 n (v 0 4)) 11 n op)) (val := .int (v 0 1)) hx hb hts hin3 hown hK hP 1 (by decide) (hts (.fieldLink RX3 73 "FundBookModel" "now" "I") (by decide +kernel)) rfl dX3_lend_145 ?_
              refine stI (f := (u2 (u2 (u2 (u2 (u2 (u2 v 0 0 0) 7 n br) 8 n pr) 9 n rt) 10 n (v 0 4)) 11 n op) 12) (ws1 := mdW y a (u2 (u2 (u2 (u2 (u2 (u2 (u2 v 0 0 0) 7 n br) 8 n pr) 9 n rt) 10 n (v 0 4)) 11 n op) 12 n (v 0 1))) hx hb hK hP hD hS 7 mg_12 n rfl (by omega) (by decide) ms_12 dX3_lend_148 (fun H locs hP hD hS => ?_)
              refine lv_iconst (v := 0) hx hb dX3_lend_149 (by decide) ?_
              refine lv_istore (lv' := [(7, .int 0), (0, .ref (a 0)), (1, .int br), (2, .int pr), (3, .int am), (4, .int rt), (5, .int (nI M)), (6, .int op)]) hx hb dX3_lend_150 hl (by decide) rfl (fun ls hl => ?_)
              refine loopM (LV := fun k => [(0, .ref (a 0)), (1, .int br), (2, .int pr), (3, .int am), (4, .int rt), (5, .int (nI M)), (6, .int op), (7, .int (nI k))]) (WS := fun k => mdW y a (mLp (mLw v n br pr rt op) n am M k)) M hP hD hS (lv_sub hl [1, 2, 3, 4, 5, 6, 7, 0] rfl) (fun k H locs ls hk_k hP hD hS hl ih_k => ?_) (fun H locs ls hP hD hS hl => ?_)
              · have hl : lv_has ls 8 [(0, .ref (a 0)), (1, .int br), (2, .int pr), (3, .int am), (4, .int rt), (5, .int (nI M)), (6, .int op), (7, .int (nI k))] := hl
                have hP : va_P G vwCl (mdW y a (mLp (mLw v n br pr rt op) n am M k)) H := hP
                have hD : va_D A (mdW y a (mLp (mLw v n br pr rt op) n am M k)) := hD
                refine lv_iload hx hb dX3_lend_152 (lv_at hl 7 rfl) ?_
                refine lv_iload hx hb dX3_lend_154 (lv_at hl 5 rfl) ?_
                refine lv_icmp_ge (tgt := 231) hx hb dX3_lend_156 (by decide) (fun c_156 => absurd c_156 (nI_ge hk_k (by omega))) (fun c_156 => ?_)
                refine lv_aload_n hx hb dX3_lend_159 rfl (lv_at hl 0 rfl) ?_
                refine mdG (v := (mLp (mLw v n br pr rt op) n am M k)) (val := .ref (a 13)) hx hb hts hin3 hown hK hP 13 (by decide) (hts (.fieldLink RX3 36 "FundBookModel" "part" "[I") (by decide +kernel)) rfl dX3_lend_160 ?_
                refine lv_bipush (v := 6) hx hb dX3_lend_163 (by decide) ?_
                refine lv_aload_n hx hb dX3_lend_165 rfl (lv_at hl 0 rfl) ?_
                refine mdG (v := (mLp (mLw v n br pr rt op) n am M k)) (val := .int ((mLp (mLw v n br pr rt op) n am M k) 0 6)) hx hb hts hin3 hown hK hP 6 (by decide) (hts (.fieldLink RX3 66 "FundBookModel" "loans" "I") (by decide +kernel)) rfl dX3_lend_166 ?_
                refine lv_topE (z := nI n) (by rw [mLp_o (by decide) (by decide)]; exact hn) ?_
                refine lv_imul hx hb dX3_lend_169 ?_
                refine lv_iload hx hb dX3_lend_170 (lv_at hl 7 rfl) ?_
                refine lv_iadd hx hb dX3_lend_172 ?_
                refine lv_topE (z := nI (6 * n + k)) (ix6) ?_
                refine lv_iload hx hb dX3_lend_173 (lv_at hl 7 rfl) ?_
                refine lv_iload hx hb dX3_lend_175 (lv_at hl 5 rfl) ?_
                refine lv_iconst (v := 1) hx hb dX3_lend_177 (by decide) ?_
                refine lv_isub hx hb dX3_lend_178 ?_
                refine lv_icmp_ge (tgt := 189) hx hb dX3_lend_179 (by decide) (fun c_179 => ?_) (fun c_179 => ?_)
                · refine lv_iload_n hx hb dX3_lend_189 rfl (lv_at hl 3 rfl) ?_
                  refine lv_iload_n hx hb dX3_lend_190 rfl (lv_at hl 3 rfl) ?_
                  refine lv_iload hx hb dX3_lend_191 (lv_at hl 5 rfl) ?_
                  refine lv_idiv hx hb dX3_lend_193 (nI_ne0 (by omega) (by omega)) ?_
                  refine lv_iload hx hb dX3_lend_194 (lv_at hl 5 rfl) ?_
                  refine lv_iconst (v := 1) hx hb dX3_lend_196 (by decide) ?_
                  refine lv_isub hx hb dX3_lend_197 ?_
                  refine lv_imul hx hb dX3_lend_198 ?_
                  refine lv_isub hx hb dX3_lend_199 ?_
                  refine lv_topE (z := mPt am M k) (by unfold mPt; exact (if_pos c_179).symm) ?_
                  refine stI (f := (mLp (mLw v n br pr rt op) n am M k) 13) (ws1 := mdW y a (u2 (mLp (mLw v n br pr rt op) n am M k) 13 (6 * n + k) (mPt am M k))) hx hb hK hP hD hS 8 mg_13 (6 * n + k) rfl (by omega) (by decide) ms_13 dX3_lend_200 (fun H locs hP hD hS => ?_)
                  refine lv_aload_n hx hb dX3_lend_201 rfl (lv_at hl 0 rfl) ?_
                  refine mdG (v := (u2 (mLp (mLw v n br pr rt op) n am M k) 13 (6 * n + k) (mPt am M k))) (val := .ref (a 14)) hx hb hts hin3 hown hK hP 14 (by decide) (hts (.fieldLink RX3 39 "FundBookModel" "funded" "[I") (by decide +kernel)) rfl dX3_lend_202 ?_
                  refine lv_bipush (v := 6) hx hb dX3_lend_205 (by decide) ?_
                  refine lv_aload_n hx hb dX3_lend_207 rfl (lv_at hl 0 rfl) ?_
                  refine mdG (v := (u2 (mLp (mLw v n br pr rt op) n am M k) 13 (6 * n + k) (mPt am M k))) (val := .int ((mLp (mLw v n br pr rt op) n am M k) 0 6)) hx hb hts hin3 hown hK hP 6 (by decide) (hts (.fieldLink RX3 66 "FundBookModel" "loans" "I") (by decide +kernel)) rfl dX3_lend_208 ?_
                  refine lv_topE (z := nI n) (by rw [mLp_o (by decide) (by decide)]; exact hn) ?_
                  refine lv_imul hx hb dX3_lend_211 ?_
                  refine lv_iload hx hb dX3_lend_212 (lv_at hl 7 rfl) ?_
                  refine lv_iadd hx hb dX3_lend_214 ?_
                  refine lv_topE (z := nI (6 * n + k)) (ix6) ?_
                  refine lv_aload_n hx hb dX3_lend_215 rfl (lv_at hl 0 rfl) ?_
                  refine mdG (v := (u2 (mLp (mLw v n br pr rt op) n am M k) 13 (6 * n + k) (mPt am M k))) (val := .ref (a 2)) hx hb hts hin3 hown hK hP 2 (by decide) (hts (.fieldLink RX3 7 "FundBookModel" "curve" "[I") (by decide +kernel)) rfl dX3_lend_216 ?_
                  refine lv_iload hx hb dX3_lend_219 (lv_at hl 7 rfl) ?_
                  refine lv_iconst (v := 1) hx hb dX3_lend_221 (by decide) ?_
                  refine lv_iadd hx hb dX3_lend_222 ?_
                  refine lv_topE (z := nI (k + 1)) (nI_1 k) ?_
                  refine ldI (f := ((mLp (mLw v n br pr rt op) n am M k) 2)) hx hb hK hP 1 rfl (k + 1) rfl (by omega) (by decide) dX3_lend_223 ?_
                  refine lv_topE (z := (mLw v n br pr rt op) 2 (k + 1)) (by rw [mLp_o (by decide) (by decide)]) ?_
                  refine stI (f := (u2 (mLp (mLw v n br pr rt op) n am M k) 13 (6 * n + k) (mPt am M k)) 14) (ws1 := mdW y a (u2 (u2 (mLp (mLw v n br pr rt op) n am M k) 13 (6 * n + k) (mPt am M k)) 14 (6 * n + k) ((mLw v n br pr rt op) 2 (k + 1)))) hx hb hK hP hD hS 9 mg_14 (6 * n + k) rfl (by omega) (by decide) ms_14 dX3_lend_224 (fun H locs hP hD hS => ?_)
                  refine lv_iinc (v := (nI (k + 1))) (lv' := [(7, .int (nI (k + 1))), (0, .ref (a 0)), (1, .int br), (2, .int pr), (3, .int am), (4, .int rt), (5, .int (nI M)), (6, .int op)]) hx hb dX3_lend_225 hl (k := 7) rfl iinc1 (by decide) rfl (fun ls hl => ?_)
                  refine lv_goto (tgt := 152) hx hb dX3_lend_228 (by decide) ?_
                  exact ih_k _ _ ls hP hD hS (lv_sub hl [1, 2, 3, 4, 5, 6, 7, 0] rfl)
                · refine lv_iload_n hx hb dX3_lend_182 rfl (lv_at hl 3 rfl) ?_
                  refine lv_iload hx hb dX3_lend_183 (lv_at hl 5 rfl) ?_
                  refine lv_idiv hx hb dX3_lend_185 (nI_ne0 (by omega) (by omega)) ?_
                  refine lv_goto (tgt := 200) hx hb dX3_lend_186 (by decide) ?_
                  refine lv_topE (z := mPt am M k) (by unfold mPt; exact (if_neg c_179).symm) ?_
                  refine stI (f := (mLp (mLw v n br pr rt op) n am M k) 13) (ws1 := mdW y a (u2 (mLp (mLw v n br pr rt op) n am M k) 13 (6 * n + k) (mPt am M k))) hx hb hK hP hD hS 8 mg_13 (6 * n + k) rfl (by omega) (by decide) ms_13 dX3_lend_200 (fun H locs hP hD hS => ?_)
                  refine lv_aload_n hx hb dX3_lend_201 rfl (lv_at hl 0 rfl) ?_
                  refine mdG (v := (u2 (mLp (mLw v n br pr rt op) n am M k) 13 (6 * n + k) (mPt am M k))) (val := .ref (a 14)) hx hb hts hin3 hown hK hP 14 (by decide) (hts (.fieldLink RX3 39 "FundBookModel" "funded" "[I") (by decide +kernel)) rfl dX3_lend_202 ?_
                  refine lv_bipush (v := 6) hx hb dX3_lend_205 (by decide) ?_
                  refine lv_aload_n hx hb dX3_lend_207 rfl (lv_at hl 0 rfl) ?_
                  refine mdG (v := (u2 (mLp (mLw v n br pr rt op) n am M k) 13 (6 * n + k) (mPt am M k))) (val := .int ((mLp (mLw v n br pr rt op) n am M k) 0 6)) hx hb hts hin3 hown hK hP 6 (by decide) (hts (.fieldLink RX3 66 "FundBookModel" "loans" "I") (by decide +kernel)) rfl dX3_lend_208 ?_
                  refine lv_topE (z := nI n) (by rw [mLp_o (by decide) (by decide)]; exact hn) ?_
                  refine lv_imul hx hb dX3_lend_211 ?_
                  refine lv_iload hx hb dX3_lend_212 (lv_at hl 7 rfl) ?_
                  refine lv_iadd hx hb dX3_lend_214 ?_
                  refine lv_topE (z := nI (6 * n + k)) (ix6) ?_
                  refine lv_aload_n hx hb dX3_lend_215 rfl (lv_at hl 0 rfl) ?_
                  refine mdG (v := (u2 (mLp (mLw v n br pr rt op) n am M k) 13 (6 * n + k) (mPt am M k))) (val := .ref (a 2)) hx hb hts hin3 hown hK hP 2 (by decide) (hts (.fieldLink RX3 7 "FundBookModel" "curve" "[I") (by decide +kernel)) rfl dX3_lend_216 ?_
                  refine lv_iload hx hb dX3_lend_219 (lv_at hl 7 rfl) ?_
                  refine lv_iconst (v := 1) hx hb dX3_lend_221 (by decide) ?_
                  refine lv_iadd hx hb dX3_lend_222 ?_
                  refine lv_topE (z := nI (k + 1)) (nI_1 k) ?_
                  refine ldI (f := ((mLp (mLw v n br pr rt op) n am M k) 2)) hx hb hK hP 1 rfl (k + 1) rfl (by omega) (by decide) dX3_lend_223 ?_
                  refine lv_topE (z := (mLw v n br pr rt op) 2 (k + 1)) (by rw [mLp_o (by decide) (by decide)]) ?_
                  refine stI (f := (u2 (mLp (mLw v n br pr rt op) n am M k) 13 (6 * n + k) (mPt am M k)) 14) (ws1 := mdW y a (u2 (u2 (mLp (mLw v n br pr rt op) n am M k) 13 (6 * n + k) (mPt am M k)) 14 (6 * n + k) ((mLw v n br pr rt op) 2 (k + 1)))) hx hb hK hP hD hS 9 mg_14 (6 * n + k) rfl (by omega) (by decide) ms_14 dX3_lend_224 (fun H locs hP hD hS => ?_)
                  refine lv_iinc (v := (nI (k + 1))) (lv' := [(7, .int (nI (k + 1))), (0, .ref (a 0)), (1, .int br), (2, .int pr), (3, .int am), (4, .int rt), (5, .int (nI M)), (6, .int op)]) hx hb dX3_lend_225 hl (k := 7) rfl iinc1 (by decide) rfl (fun ls hl => ?_)
                  refine lv_goto (tgt := 152) hx hb dX3_lend_228 (by decide) ?_
                  exact ih_k _ _ ls hP hD hS (lv_sub hl [1, 2, 3, 4, 5, 6, 7, 0] rfl)
              · have hl : lv_has ls 8 [(0, .ref (a 0)), (1, .int br), (2, .int pr), (3, .int am), (4, .int rt), (5, .int (nI M)), (6, .int op), (7, .int (nI M))] := hl
                have hP : va_P G vwCl (mdW y a (mLp (mLw v n br pr rt op) n am M M)) H := hP
                have hD : va_D A (mdW y a (mLp (mLw v n br pr rt op) n am M M)) := hD
                refine lv_iload hx hb dX3_lend_152 (lv_at hl 7 rfl) ?_
                refine lv_iload hx hb dX3_lend_154 (lv_at hl 5 rfl) ?_
                refine lv_icmp_ge (tgt := 231) hx hb dX3_lend_156 (by decide) (fun c_156 => ?_) (fun c_156 => absurd (nI_le (Nat.le_refl M) (by omega)) c_156)
                refine lv_aload_n hx hb dX3_lend_231 rfl (lv_at hl 0 rfl) ?_
                refine lv_dup hx hb dX3_lend_232 rfl ?_
                refine mdG (v := (mLp (mLw v n br pr rt op) n am M M)) (val := .int ((mLp (mLw v n br pr rt op) n am M M) 0 6)) hx hb hts hin3 hown hK hP 6 (by decide) (hts (.fieldLink RX3 66 "FundBookModel" "loans" "I") (by decide +kernel)) rfl dX3_lend_233 ?_
                refine lv_topE (z := nI n) (by rw [mLp_o (by decide) (by decide)]; exact hn) ?_
                refine lv_iconst (v := 1) hx hb dX3_lend_236 (by decide) ?_
                refine lv_iadd hx hb dX3_lend_237 ?_
                refine lv_topE (z := nI (n + 1)) (nI_1 n) ?_
                refine mdS (v := (mLp (mLw v n br pr rt op) n am M M)) (x := nI (n + 1)) hx hb hts hin3 hown hK hP hD hS 6 (by decide) (hts (.fieldLink RX3 66 "FundBookModel" "loans" "I") (by decide +kernel)) dX3_lend_238 (fun H locs hP hD hS => ?_)
                refine lv_aload_n hx hb dX3_lend_241 rfl (lv_at hl 0 rfl) ?_
                refine mdG (v := (u2 (mLp (mLw v n br pr rt op) n am M M) 0 6 (nI (n + 1)))) (val := .int (nI (n + 1))) hx hb hts hin3 hown hK hP 6 (by decide) (hts (.fieldLink RX3 66 "FundBookModel" "loans" "I") (by decide +kernel)) rfl dX3_lend_242 ?_
                refine lv_iconst (v := 1) hx hb dX3_lend_245 (by decide) ?_
                refine lv_isub hx hb dX3_lend_246 ?_
                refine lv_topE (z := nI n) (nI_pred n) ?_
                have ev : mLend v n br pr am rt (nI M) op = ((u2 (mLp (mLw v n br pr rt op) n am M M) 0 6 (nI (n + 1))), nI n) := by unfold mLend; rw [cnI (by omega)]; exact (if_neg (fun q => q.elim c_9 c_18)).trans ((if_neg (fun q => q.elim c_34 (fun q => q.elim c_46 c_57))).trans ((if_neg (show ¬ n = 24 by omega))))
                exact W.iret (v := nI n) hx hb hr (fun t ht hW => ⟨⟨(), by rw [ev], trivial, by rw [ht, ev]; exact hP, by rw [ev]; exact hD⟩, hS.F ht⟩) hS.2.2 dX3_lend_247
            · refine lv_aload_n hx hb dX3_lend_75 rfl (lv_at hl 0 rfl) ?_
              refine lv_iconst (v := 3) hx hb dX3_lend_76 (by decide) ?_
              refine caM (va_runV (As := [.int 3]) (rest := []) ⟨hx, hb, hml, hown, hts⟩ (c_X3_fails l G y a (u2 v 0 0 0) H.size 3) (cwV 1 hts gX3_lend_X3_fails rfl rfl rfl (by decide +kernel) ⟨Nat.le_of_ble_eq_true rfl, Nat.le_of_ble_eq_true rfl⟩) ⟨mP_bl, va_recv hK.1 hP (ci := 3) (q0 := 0) rfl rfl, fun U hU hW => ⟨rfl, by rw [hU], by rw [hU]; exact hP, Kb.moved hW hK, hD.weaken (fun _ _ _ _ => trivial)⟩⟩ rfl rfl hl.1 rfl (lv_room (Nat.le_of_ble_eq_true rfl)) dX3_lend_77 ⟨Nat.le_of_ble_eq_true rfl, Nat.le_of_ble_eq_true rfl⟩) hS (freeW hD hS hA) (freeW hD hS hA) (fun _ H locs _ hP hD _ _ hS => ?_)
              refine W.eq (g2 := F0 m 80 ls [.int 0]) rfl ?_
              have hP : va_P G vwCl (mdW y a (u2 (u2 v 0 0 0) 0 0 3)) H := hP
              have hD : va_D A (mdW y a (u2 (u2 v 0 0 0) 0 0 3)) := hD
              have ev : mLend v n br pr am rt mo op = ((u2 (u2 v 0 0 0) 0 0 3), 0) := by unfold mLend; exact (if_neg (fun q => q.elim c_9 c_18)).trans ((if_neg (fun q => q.elim c_34 (fun q => q.elim c_46 c_57))).trans ((if_pos ((nI_eq (by omega) (by decide)).mp c_72))))
              exact W.iret (v := 0) hx hb hr (fun t ht hW => ⟨⟨(), by rw [ev], trivial, by rw [ht, ev]; exact hP, by rw [ev]; exact hD⟩, hS.F ht⟩) hS.2.2 dX3_lend_80
          · refine lv_aload_n hx hb dX3_lend_60 rfl (lv_at hl 0 rfl) ?_
            refine lv_iconst (v := 2) hx hb dX3_lend_61 (by decide) ?_
            refine caM (va_runV (As := [.int 2]) (rest := []) ⟨hx, hb, hml, hown, hts⟩ (c_X3_fails l G y a (u2 v 0 0 0) H.size 2) (cwV 1 hts gX3_lend_X3_fails rfl rfl rfl (by decide +kernel) ⟨Nat.le_of_ble_eq_true rfl, Nat.le_of_ble_eq_true rfl⟩) ⟨mP_bl, va_recv hK.1 hP (ci := 3) (q0 := 0) rfl rfl, fun U hU hW => ⟨rfl, by rw [hU], by rw [hU]; exact hP, Kb.moved hW hK, hD.weaken (fun _ _ _ _ => trivial)⟩⟩ rfl rfl hl.1 rfl (lv_room (Nat.le_of_ble_eq_true rfl)) dX3_lend_62 ⟨Nat.le_of_ble_eq_true rfl, Nat.le_of_ble_eq_true rfl⟩) hS (freeW hD hS hA) (freeW hD hS hA) (fun _ H locs _ hP hD _ _ hS => ?_)
            refine W.eq (g2 := F0 m 65 ls [.int 0]) rfl ?_
            have hP : va_P G vwCl (mdW y a (u2 (u2 v 0 0 0) 0 0 2)) H := hP
            have hD : va_D A (mdW y a (u2 (u2 v 0 0 0) 0 0 2)) := hD
            have ev : mLend v n br pr am rt mo op = ((u2 (u2 v 0 0 0) 0 0 2), 0) := by unfold mLend; exact (if_neg (fun q => q.elim c_9 c_18)).trans ((if_pos (Or.inr (Or.inr c_57))))
            exact W.iret (v := 0) hx hb hr (fun t ht hW => ⟨⟨(), by rw [ev], trivial, by rw [ht, ev]; exact hP, by rw [ev]; exact hD⟩, hS.F ht⟩) hS.2.2 dX3_lend_65
    · refine lv_aload_n hx hb dX3_lend_21 rfl (lv_at hl 0 rfl) ?_
      refine lv_iconst (v := 1) hx hb dX3_lend_22 (by decide) ?_
      refine caM (va_runV (As := [.int 1]) (rest := []) ⟨hx, hb, hml, hown, hts⟩ (c_X3_fails l G y a (u2 v 0 0 0) H.size 1) (cwV 1 hts gX3_lend_X3_fails rfl rfl rfl (by decide +kernel) ⟨Nat.le_of_ble_eq_true rfl, Nat.le_of_ble_eq_true rfl⟩) ⟨mP_bl, va_recv hK.1 hP (ci := 3) (q0 := 0) rfl rfl, fun U hU hW => ⟨rfl, by rw [hU], by rw [hU]; exact hP, Kb.moved hW hK, hD.weaken (fun _ _ _ _ => trivial)⟩⟩ rfl rfl hl.1 rfl (lv_room (Nat.le_of_ble_eq_true rfl)) dX3_lend_23 ⟨Nat.le_of_ble_eq_true rfl, Nat.le_of_ble_eq_true rfl⟩) hS (freeW hD hS hA) (freeW hD hS hA) (fun _ H locs _ hP hD _ _ hS => ?_)
      refine W.eq (g2 := F0 m 26 ls [.int 0]) rfl ?_
      have hP : va_P G vwCl (mdW y a (u2 (u2 v 0 0 0) 0 0 1)) H := hP
      have hD : va_D A (mdW y a (u2 (u2 v 0 0 0) 0 0 1)) := hD
      have ev : mLend v n br pr am rt mo op = ((u2 (u2 v 0 0 0) 0 0 1), 0) := by unfold mLend; exact (if_pos (Or.inr c_18))
      exact W.iret (v := 0) hx hb hr (fun t ht hW => ⟨⟨(), by rw [ev], trivial, by rw [ht, ev]; exact hP, by rw [ev]; exact hD⟩, hS.F ht⟩) hS.2.2 dX3_lend_26
set_option maxHeartbeats 4000000 in
set_option maxRecDepth 100000 in
theorem c_X3_repay (l : Launch) (G : va_G) (y : Nat → ClassId) (a : Nat → Nat) (v : MS) (sz : Nat) (x : Int32) (n : Nat) (hn : v 0 6 = nI n) (hn24 : n ≤ 24) : Met l yX3_repay wsX3_repay ({ frames := 2, cells := 0, slots := 0, locals := 43 }) (mP G y [.ref (a 0), .int x] (mdW y a v) sz) (mQ G (fun _ : Unit => some (.int (mRepay v n x).2)) (fun _ => True) (fun _ => mdW y a (mRepay v n x).1) (va_A (mdW y a v) sz)) 0 0 (va_A (mdW y a v) sz) := by
  refine Met.ofW (cc := cX3_repay) (maxL := 4) (ret := (some .int)) (by decide) rfl ?_
  intro p e s m args below meth c s₁ B hml hv
  obtain ⟨rfl, hsz, hP, hK, hD0⟩ := hv
  have hx := B.exec
  have hb := B.bytes
  have hr := B.returns
  have hts := atoms_spec (ws := wsX3_repay) B.pre
  have hown : s.vm.findClass RX3 = some m.cls := findClass_of_methodNamed B.named
  have hlocks := B.notSynchronized
  subst hsz
  have hD := hD0.self (sz := s.heap.size)
  generalize hAe : va_A (mdW y a v) s.heap.size = A at hD ⊢
  have hA : ∀ q : Nat, s.heap.size ≤ q → A q := fun q h => by rw [← hAe]; exact Or.inr h
  have hS : va_S A s.heap s.heap [] := va_S.rf
  have hP : va_P G vwCl (mdW y a v) s.heap := hP
  have hl := lv_entry ([.ref (a 0), .int x]) (n := 4) (Nat.le_of_ble_eq_true rfl)
  rw [lg_entry_eq]
  generalize (lg_sl ([.ref (a 0), .int x]) ++ List.replicate (4 - (lg_sl ([.ref (a 0), .int x])).length) Slot.unset).toArray = ls at hl ⊢
  have hin3 : ∀ w ∈ wsX30, w ∈ wsX3_repay := by decide +kernel
  have hl : lv_has ls 4 [(0, .ref (a 0)), (1, .int x)] := hl
  refine lv_aload_n hx hb dX3_repay_0 rfl (lv_at hl 0 rfl) ?_
  refine lv_iconst (v := 0) hx hb dX3_repay_1 (by decide) ?_
  refine mdS (v := v) (x := 0) hx hb hts hin3 hown hK hP hD hS 0 (by decide) (hts (.fieldLink RX3 63 "FundBookModel" "thrown" "I") (by decide +kernel)) dX3_repay_2 (fun H locs hP hD hS => ?_)
  refine lv_aload_n hx hb dX3_repay_5 rfl (lv_at hl 0 rfl) ?_
  refine lv_iload_n hx hb dX3_repay_6 rfl (lv_at hl 1 rfl) ?_
  refine caR (r := .int (mIn x 0 (v 0 6 - 1))) (va_runV (As := [.int x]) (rest := []) ⟨hx, hb, hml, hown, hts⟩ (c_X3_isLoan l G y a (u2 v 0 0 0) x) (cwV 1 hts gX3_repay_X3_isLoan rfl rfl rfl (by decide +kernel) ⟨Nat.le_of_ble_eq_true rfl, Nat.le_of_ble_eq_true rfl⟩) ⟨rP_bl, va_recv hK.1 hP (ci := 3) (q0 := 0) rfl rfl, fun U hU hW => ⟨rfl, by rw [hU]; exact hP, Kb.moved hW hK⟩⟩ rfl rfl hl.1 rfl (lv_room (Nat.le_of_ble_eq_true rfl)) dX3_repay_7 ⟨Nat.le_of_ble_eq_true rfl, Nat.le_of_ble_eq_true rfl⟩) ?_
  refine lv_topE (z := mIn x 0 (nI n - 1)) (by rw [hn]) ?_
  refine lv_if_ne (tgt := 19) hx hb dX3_repay_10 (by decide) (fun c_10 => ?_) (fun c_10 => ?_)
  · obtain ⟨i, hi, rfl⟩ := inL c_10 (by omega)
    refine lv_aload_n hx hb dX3_repay_19 rfl (lv_at hl 0 rfl) ?_
    refine lv_iload_n hx hb dX3_repay_20 rfl (lv_at hl 1 rfl) ?_
    refine caR (r := .int (mLeft v i)) (va_runV (As := [.int (nI i)]) (rest := []) ⟨hx, hb, hml, hown, hts⟩ (c_X3_leftOf l G y a (u2 v 0 0 0) i (by omega)) (cwV 1 hts gX3_repay_X3_leftOf rfl rfl rfl (by decide +kernel) ⟨Nat.le_of_ble_eq_true rfl, Nat.le_of_ble_eq_true rfl⟩) ⟨rP_bl, va_recv hK.1 hP (ci := 3) (q0 := 0) rfl rfl, fun U hU hW => ⟨rfl, by rw [hU]; exact hP, Kb.moved hW hK⟩⟩ rfl rfl hl.1 rfl (lv_room (Nat.le_of_ble_eq_true rfl)) dX3_repay_21 ⟨Nat.le_of_ble_eq_true rfl, Nat.le_of_ble_eq_true rfl⟩) ?_
    refine lv_istore_n (lv' := [(2, .int (mLeft v i)), (0, .ref (a 0)), (1, .int (nI i))]) hx hb dX3_repay_24 rfl hl (by decide) rfl (fun ls hl => ?_)
    refine lv_aload_n hx hb dX3_repay_25 rfl (lv_at hl 1 rfl) ?_
    refine mdG (v := (u2 v 0 0 0)) (val := .ref (a 11)) hx hb hts hin3 hown hK hP 11 (by decide) (hts (.fieldLink RX3 29 "FundBookModel" "hasOption" "[Z") (by decide +kernel)) rfl dX3_repay_26 ?_
    refine lv_iload_n hx hb dX3_repay_29 rfl (lv_at hl 2 rfl) ?_
    refine ldZ (f := v 11) hx hb hK hP 6 rfl i rfl (by omega) (by decide) dX3_repay_30 ?_
    refine lv_if_eq (tgt := 38) hx hb dX3_repay_31 (by decide) (fun c_31 => ?_) (fun c_31 => ?_)
    · refine lv_aload_n hx hb dX3_repay_38 rfl (lv_at hl 1 rfl) ?_
      refine lv_iconst (v := 2) hx hb dX3_repay_39 (by decide) ?_
      refine caM (va_runV (As := [.int 2]) (rest := []) ⟨hx, hb, hml, hown, hts⟩ (c_X3_fails l G y a (u2 v 0 0 0) H.size 2) (cwV 1 hts gX3_repay_X3_fails rfl rfl rfl (by decide +kernel) ⟨Nat.le_of_ble_eq_true rfl, Nat.le_of_ble_eq_true rfl⟩) ⟨mP_bl, va_recv hK.1 hP (ci := 3) (q0 := 0) rfl rfl, fun U hU hW => ⟨rfl, by rw [hU], by rw [hU]; exact hP, Kb.moved hW hK, hD.weaken (fun _ _ _ _ => trivial)⟩⟩ rfl rfl hl.1 rfl (lv_room (Nat.le_of_ble_eq_true rfl)) dX3_repay_40 ⟨Nat.le_of_ble_eq_true rfl, Nat.le_of_ble_eq_true rfl⟩) hS (freeW hD hS hA) (freeW hD hS hA) (fun _ H locs _ hP hD _ _ hS => ?_)
      refine W.eq (g2 := F0 m 43 ls [.int 0]) rfl ?_
      have hP : va_P G vwCl (mdW y a (u2 (u2 v 0 0 0) 0 0 2)) H := hP
      have hD : va_D A (mdW y a (u2 (u2 v 0 0 0) 0 0 2)) := hD
      have ev : mRepay v n (nI i) = ((u2 (u2 v 0 0 0) 0 0 2), 0) := by unfold mRepay; rw [cnI (by omega)]; exact (if_neg c_10).trans ((if_pos (Or.inl c_31)))
      exact W.iret (v := 0) hx hb hr (fun t ht hW => ⟨⟨(), by rw [ev], trivial, by rw [ht, ev]; exact hP, by rw [ev]; exact hD⟩, hS.F ht⟩) hS.2.2 dX3_repay_43
    · refine lv_iload_n hx hb dX3_repay_34 rfl (lv_at hl 0 rfl) ?_
      refine lv_if_ne (tgt := 44) hx hb dX3_repay_35 (by decide) (fun c_35 => ?_) (fun c_35 => ?_)
      · refine lv_iconst (v := 0) hx hb dX3_repay_44 (by decide) ?_
        refine lv_istore_n (lv' := [(3, .int 0), (2, .int (mLeft v i)), (0, .ref (a 0)), (1, .int (nI i))]) hx hb dX3_repay_45 rfl hl (by decide) rfl (fun ls hl => ?_)
        refine loopM (LV := fun k => [(0, .ref (a 0)), (1, .int (nI i)), (2, .int (mLeft v i)), (3, .int (nI k))]) (WS := fun k => mdW y a (mRz (mT v 0) i k)) 6 hP hD hS (lv_sub hl [2, 3, 1, 0] rfl) (fun k H locs ls hk_k hP hD hS hl ih_k => ?_) (fun H locs ls hP hD hS hl => ?_)
        · have hl : lv_has ls 4 [(0, .ref (a 0)), (1, .int (nI i)), (2, .int (mLeft v i)), (3, .int (nI k))] := hl
          have hP : va_P G vwCl (mdW y a (mRz (mT v 0) i k)) H := hP
          have hD : va_D A (mdW y a (mRz (mT v 0) i k)) := hD
          refine lv_iload_n hx hb dX3_repay_46 rfl (lv_at hl 3 rfl) ?_
          refine lv_bipush (v := 6) hx hb dX3_repay_47 (by decide) ?_
          refine lv_icmp_ge (tgt := 70) hx hb dX3_repay_49 (by decide) (fun c_49 => absurd c_49 (nI_ge hk_k (by decide))) (fun c_49 => ?_)
          refine lv_aload_n hx hb dX3_repay_52 rfl (lv_at hl 0 rfl) ?_
          refine mdG (v := (mRz (mT v 0) i k)) (val := .ref (a 13)) hx hb hts hin3 hown hK hP 13 (by decide) (hts (.fieldLink RX3 36 "FundBookModel" "part" "[I") (by decide +kernel)) rfl dX3_repay_53 ?_
          refine lv_bipush (v := 6) hx hb dX3_repay_56 (by decide) ?_
          refine lv_iload_n hx hb dX3_repay_58 rfl (lv_at hl 1 rfl) ?_
          refine lv_imul hx hb dX3_repay_59 ?_
          refine lv_iload_n hx hb dX3_repay_60 rfl (lv_at hl 3 rfl) ?_
          refine lv_iadd hx hb dX3_repay_61 ?_
          refine lv_topE (z := nI (6 * i + k)) (ix6) ?_
          refine lv_iconst (v := 0) hx hb dX3_repay_62 (by decide) ?_
          refine stI (f := (mRz (mT v 0) i k) 13) (ws1 := mdW y a (u2 (mRz (mT v 0) i k) 13 (6 * i + k) 0)) hx hb hK hP hD hS 8 mg_13 (6 * i + k) rfl (by omega) (by decide) ms_13 dX3_repay_63 (fun H locs hP hD hS => ?_)
          refine lv_iinc (v := (nI (k + 1))) (lv' := [(3, .int (nI (k + 1))), (0, .ref (a 0)), (1, .int (nI i)), (2, .int (mLeft v i))]) hx hb dX3_repay_64 hl (k := 3) rfl iinc1 (by decide) rfl (fun ls hl => ?_)
          refine lv_goto (tgt := 46) hx hb dX3_repay_67 (by decide) ?_
          exact ih_k _ _ ls hP hD hS (lv_sub hl [1, 2, 3, 0] rfl)
        · have hl : lv_has ls 4 [(0, .ref (a 0)), (1, .int (nI i)), (2, .int (mLeft v i)), (3, .int (nI 6))] := hl
          have hP : va_P G vwCl (mdW y a (mRz (mT v 0) i 6)) H := hP
          have hD : va_D A (mdW y a (mRz (mT v 0) i 6)) := hD
          refine lv_iload_n hx hb dX3_repay_46 rfl (lv_at hl 3 rfl) ?_
          refine lv_bipush (v := 6) hx hb dX3_repay_47 (by decide) ?_
          refine lv_icmp_ge (tgt := 70) hx hb dX3_repay_49 (by decide) (fun c_49 => ?_) (fun c_49 => absurd (nI_le (Nat.le_refl 6) (by decide)) c_49)
          refine lv_iload_n hx hb dX3_repay_70 rfl (lv_at hl 2 rfl) ?_
          have ev : mRepay v n (nI i) = ((mRz (mT v 0) i 6), mLeft v i) := by unfold mRepay; rw [cnI (by omega)]; exact (if_neg c_10).trans ((if_neg (fun q => q.elim c_31 c_35)))
          exact W.iret (v := mLeft v i) hx hb hr (fun t ht hW => ⟨⟨(), by rw [ev], trivial, by rw [ht, ev]; exact hP, by rw [ev]; exact hD⟩, hS.F ht⟩) hS.2.2 dX3_repay_71
      · refine lv_aload_n hx hb dX3_repay_38 rfl (lv_at hl 1 rfl) ?_
        refine lv_iconst (v := 2) hx hb dX3_repay_39 (by decide) ?_
        refine caM (va_runV (As := [.int 2]) (rest := []) ⟨hx, hb, hml, hown, hts⟩ (c_X3_fails l G y a (u2 v 0 0 0) H.size 2) (cwV 1 hts gX3_repay_X3_fails rfl rfl rfl (by decide +kernel) ⟨Nat.le_of_ble_eq_true rfl, Nat.le_of_ble_eq_true rfl⟩) ⟨mP_bl, va_recv hK.1 hP (ci := 3) (q0 := 0) rfl rfl, fun U hU hW => ⟨rfl, by rw [hU], by rw [hU]; exact hP, Kb.moved hW hK, hD.weaken (fun _ _ _ _ => trivial)⟩⟩ rfl rfl hl.1 rfl (lv_room (Nat.le_of_ble_eq_true rfl)) dX3_repay_40 ⟨Nat.le_of_ble_eq_true rfl, Nat.le_of_ble_eq_true rfl⟩) hS (freeW hD hS hA) (freeW hD hS hA) (fun _ H locs _ hP hD _ _ hS => ?_)
        refine W.eq (g2 := F0 m 43 ls [.int 0]) rfl ?_
        have hP : va_P G vwCl (mdW y a (u2 (u2 v 0 0 0) 0 0 2)) H := hP
        have hD : va_D A (mdW y a (u2 (u2 v 0 0 0) 0 0 2)) := hD
        have ev : mRepay v n (nI i) = ((u2 (u2 v 0 0 0) 0 0 2), 0) := by unfold mRepay; rw [cnI (by omega)]; exact (if_neg c_10).trans ((if_pos (Or.inr c_35)))
        exact W.iret (v := 0) hx hb hr (fun t ht hW => ⟨⟨(), by rw [ev], trivial, by rw [ht, ev]; exact hP, by rw [ev]; exact hD⟩, hS.F ht⟩) hS.2.2 dX3_repay_43
  · refine lv_aload_n hx hb dX3_repay_13 rfl (lv_at hl 0 rfl) ?_
    refine lv_iconst (v := 1) hx hb dX3_repay_14 (by decide) ?_
    refine caM (va_runV (As := [.int 1]) (rest := []) ⟨hx, hb, hml, hown, hts⟩ (c_X3_fails l G y a (u2 v 0 0 0) H.size 1) (cwV 1 hts gX3_repay_X3_fails rfl rfl rfl (by decide +kernel) ⟨Nat.le_of_ble_eq_true rfl, Nat.le_of_ble_eq_true rfl⟩) ⟨mP_bl, va_recv hK.1 hP (ci := 3) (q0 := 0) rfl rfl, fun U hU hW => ⟨rfl, by rw [hU], by rw [hU]; exact hP, Kb.moved hW hK, hD.weaken (fun _ _ _ _ => trivial)⟩⟩ rfl rfl hl.1 rfl (lv_room (Nat.le_of_ble_eq_true rfl)) dX3_repay_15 ⟨Nat.le_of_ble_eq_true rfl, Nat.le_of_ble_eq_true rfl⟩) hS (freeW hD hS hA) (freeW hD hS hA) (fun _ H locs _ hP hD _ _ hS => ?_)
    refine W.eq (g2 := F0 m 18 ls [.int 0]) rfl ?_
    have hP : va_P G vwCl (mdW y a (u2 (u2 v 0 0 0) 0 0 1)) H := hP
    have hD : va_D A (mdW y a (u2 (u2 v 0 0 0) 0 0 1)) := hD
    have ev : mRepay v n x = ((u2 (u2 v 0 0 0) 0 0 1), 0) := by unfold mRepay; exact (if_pos c_10)
    exact W.iret (v := 0) hx hb hr (fun t ht hW => ⟨⟨(), by rw [ev], trivial, by rw [ht, ev]; exact hP, by rw [ev]; exact hD⟩, hS.F ht⟩) hS.2.2 dX3_repay_18
set_option maxHeartbeats 4000000 in
set_option maxRecDepth 100000 in
theorem c_X3_deposit (l : Launch) (G : va_G) (y : Nat → ClassId) (a : Nat → Nat) (v : MS) (sz : Nat) (x ch : Int32) : Met l yX3_deposit wsX3_deposit ({ frames := 2, cells := 0, slots := 0, locals := 44 }) (mP G y [.ref (a 0), .int x, .int ch] (mdW y a v) sz) (mQ G (fun _ : Unit => some (.int (mDep v x ch).2)) (fun _ => True) (fun _ => mdW y a (mDep v x ch).1) (va_A (mdW y a v) sz)) 0 0 (va_A (mdW y a v) sz) := by
  refine Met.ofW (cc := cX3_deposit) (maxL := 4) (ret := (some .int)) (by decide) rfl ?_
  intro p e s m args below meth c s₁ B hml hv
  obtain ⟨rfl, hsz, hP, hK, hD0⟩ := hv
  have hx := B.exec
  have hb := B.bytes
  have hr := B.returns
  have hts := atoms_spec (ws := wsX3_deposit) B.pre
  have hown : s.vm.findClass RX3 = some m.cls := findClass_of_methodNamed B.named
  have hlocks := B.notSynchronized
  subst hsz
  have hD := hD0.self (sz := s.heap.size)
  generalize hAe : va_A (mdW y a v) s.heap.size = A at hD ⊢
  have hA : ∀ q : Nat, s.heap.size ≤ q → A q := fun q h => by rw [← hAe]; exact Or.inr h
  have hS : va_S A s.heap s.heap [] := va_S.rf
  have hP : va_P G vwCl (mdW y a v) s.heap := hP
  have hl := lv_entry ([.ref (a 0), .int x, .int ch]) (n := 4) (Nat.le_of_ble_eq_true rfl)
  rw [lg_entry_eq]
  generalize (lg_sl ([.ref (a 0), .int x, .int ch]) ++ List.replicate (4 - (lg_sl ([.ref (a 0), .int x, .int ch])).length) Slot.unset).toArray = ls at hl ⊢
  have hin3 : ∀ w ∈ wsX30, w ∈ wsX3_deposit := by decide +kernel
  have hl : lv_has ls 4 [(0, .ref (a 0)), (1, .int x), (2, .int ch)] := hl
  refine lv_aload_n hx hb dX3_deposit_0 rfl (lv_at hl 0 rfl) ?_
  refine lv_iconst (v := 0) hx hb dX3_deposit_1 (by decide) ?_
  refine mdS (v := v) (x := 0) hx hb hts hin3 hown hK hP hD hS 0 (by decide) (hts (.fieldLink RX3 63 "FundBookModel" "thrown" "I") (by decide +kernel)) dX3_deposit_2 (fun H locs hP hD hS => ?_)
  refine lv_iload_n hx hb dX3_deposit_5 rfl (lv_at hl 1 rfl) ?_
  refine caR (r := .int (mIn x 0 2)) (va_runS (As := [.int x]) (rest := []) ⟨hx, hb, hml, hown, hts⟩ (c_X3_isBranch l x) (va_cwS 1 hts gX3_deposit_X3_isBranch rfl rfl rfl (by decide +kernel) ⟨Nat.le_of_ble_eq_true rfl, Nat.le_of_ble_eq_true rfl⟩) ⟨nP_bl, fun _ _ _ => ⟨rfl, trivial⟩⟩ rfl rfl hl.1 rfl (lv_room (Nat.le_of_ble_eq_true rfl)) dX3_deposit_6 ⟨Nat.le_of_ble_eq_true rfl, Nat.le_of_ble_eq_true rfl⟩) ?_
  refine lv_if_ne (tgt := 18) hx hb dX3_deposit_9 (by decide) (fun c_9 => ?_) (fun c_9 => ?_)
  · refine lv_iload_n hx hb dX3_deposit_18 rfl (lv_at hl 2 rfl) ?_
    refine lv_ldc (v := (-10000000)) hx hb hown (hts (.constant RX3 105 (-10000000)) (by decide +kernel)) dX3_deposit_19 ?_
    refine lv_ldc (v := 10000000) hx hb hown (hts (.constant RX3 95 10000000) (by decide +kernel)) dX3_deposit_21 ?_
    refine caR (r := .int (mIn ch (-10000000) 10000000)) (va_runS (As := [.int ch, .int (-10000000), .int 10000000]) (rest := []) ⟨hx, hb, hml, hown, hts⟩ (c_X3_in l ch (-10000000) 10000000) (va_cwS 3 hts gX3_deposit_X3_in rfl rfl rfl (by decide +kernel) ⟨Nat.le_of_ble_eq_true rfl, Nat.le_of_ble_eq_true rfl⟩) ⟨nP_bl, fun _ _ _ => ⟨rfl, trivial⟩⟩ rfl rfl hl.1 rfl (lv_room (Nat.le_of_ble_eq_true rfl)) dX3_deposit_23 ⟨Nat.le_of_ble_eq_true rfl, Nat.le_of_ble_eq_true rfl⟩) ?_
    refine lv_if_ne (tgt := 35) hx hb dX3_deposit_26 (by decide) (fun c_26 => ?_) (fun c_26 => ?_)
    · obtain ⟨i, hi, rfl⟩ := inN (M := 2) c_9 (by decide)
      refine lv_aload_n hx hb dX3_deposit_35 rfl (lv_at hl 0 rfl) ?_
      refine mdG (v := (u2 v 0 0 0)) (val := .ref (a 15)) hx hb hts hin3 hown hK hP 15 (by decide) (hts (.fieldLink RX3 42 "FundBookModel" "balance" "[I") (by decide +kernel)) rfl dX3_deposit_36 ?_
      refine lv_iload_n hx hb dX3_deposit_39 rfl (lv_at hl 1 rfl) ?_
      refine ldI (f := v 15) hx hb hK hP 10 rfl i rfl (by omega) (by decide) dX3_deposit_40 ?_
      refine lv_iload_n hx hb dX3_deposit_41 rfl (lv_at hl 2 rfl) ?_
      refine lv_iadd hx hb dX3_deposit_42 ?_
      refine lv_iconst (v := 0) hx hb dX3_deposit_43 (by decide) ?_
      refine lv_ldc (v := 10000000) hx hb hown (hts (.constant RX3 95 10000000) (by decide +kernel)) dX3_deposit_44 ?_
      refine caR (r := .int (mIn (v 15 i + ch) 0 10000000)) (va_runS (As := [.int (v 15 i + ch), .int 0, .int 10000000]) (rest := []) ⟨hx, hb, hml, hown, hts⟩ (c_X3_in l (v 15 i + ch) 0 10000000) (va_cwS 3 hts gX3_deposit_X3_in rfl rfl rfl (by decide +kernel) ⟨Nat.le_of_ble_eq_true rfl, Nat.le_of_ble_eq_true rfl⟩) ⟨nP_bl, fun _ _ _ => ⟨rfl, trivial⟩⟩ rfl rfl hl.1 rfl (lv_room (Nat.le_of_ble_eq_true rfl)) dX3_deposit_46 ⟨Nat.le_of_ble_eq_true rfl, Nat.le_of_ble_eq_true rfl⟩) ?_
      refine lv_if_ne (tgt := 58) hx hb dX3_deposit_49 (by decide) (fun c_49 => ?_) (fun c_49 => ?_)
      · refine lv_aload_n hx hb dX3_deposit_58 rfl (lv_at hl 0 rfl) ?_
        refine mdG (v := (u2 v 0 0 0)) (val := .ref (a 15)) hx hb hts hin3 hown hK hP 15 (by decide) (hts (.fieldLink RX3 42 "FundBookModel" "balance" "[I") (by decide +kernel)) rfl dX3_deposit_59 ?_
        refine lv_iload_n hx hb dX3_deposit_62 rfl (lv_at hl 1 rfl) ?_
        refine lv_dup2_11 hx hb dX3_deposit_63 rfl rfl ?_
        refine ldI (f := v 15) hx hb hK hP 10 rfl i rfl (by omega) (by decide) dX3_deposit_64 ?_
        refine lv_iload_n hx hb dX3_deposit_65 rfl (lv_at hl 2 rfl) ?_
        refine lv_iadd hx hb dX3_deposit_66 ?_
        refine stI (f := (u2 v 0 0 0) 15) (ws1 := mdW y a (u2 (u2 v 0 0 0) 15 i (v 15 i + ch))) hx hb hK hP hD hS 10 mg_15 i rfl (by omega) (by decide) ms_15 dX3_deposit_67 (fun H locs hP hD hS => ?_)
        refine lv_iconst (v := 0) hx hb dX3_deposit_68 (by decide) ?_
        refine lv_istore_n (lv' := [(3, .int 0), (0, .ref (a 0)), (1, .int (nI i)), (2, .int ch)]) hx hb dX3_deposit_69 rfl hl (by decide) rfl (fun ls hl => ?_)
        by_cases hc : v 0 1 = 0 ∧ ¬ ch = 0
        · refine loopM (LV := fun k => [(0, .ref (a 0)), (1, .int (nI i)), (2, .int ch), (3, .int (nI k))]) (WS := fun k => mdW y a (mLA (u2 (mT v 0) 15 i (v 15 i + ch)) k)) 6 hP hD hS (lv_sub hl [1, 2, 3, 0] rfl) (fun k H locs ls hk_k hP hD hS hl ih_k => ?_) (fun H locs ls hP hD hS hl => ?_)
          · have hl : lv_has ls 4 [(0, .ref (a 0)), (1, .int (nI i)), (2, .int ch), (3, .int (nI k))] := hl
            have hP : va_P G vwCl (mdW y a (mLA (u2 (mT v 0) 15 i (v 15 i + ch)) k)) H := hP
            have hD : va_D A (mdW y a (mLA (u2 (mT v 0) 15 i (v 15 i + ch)) k)) := hD
            refine lv_iload_n hx hb dX3_deposit_70 rfl (lv_at hl 3 rfl) ?_
            refine lv_bipush (v := 6) hx hb dX3_deposit_71 (by decide) ?_
            refine lv_icmp_ge (tgt := 98) hx hb dX3_deposit_73 (by decide) (fun c_73 => absurd c_73 (nI_ge hk_k (by decide))) (fun c_73 => ?_)
            refine lv_aload_n hx hb dX3_deposit_76 rfl (lv_at hl 0 rfl) ?_
            refine mdG (v := (mLA (u2 (mT v 0) 15 i (v 15 i + ch)) k)) (val := .int ((mLA (u2 (mT v 0) 15 i (v 15 i + ch)) k) 0 1)) hx hb hts hin3 hown hK hP 1 (by decide) (hts (.fieldLink RX3 73 "FundBookModel" "now" "I") (by decide +kernel)) rfl dX3_deposit_77 ?_
            refine lv_topE (z := v 0 1) (by rw [mLA_o (by decide) (by decide)]; rfl) ?_
            refine lv_if_ne (tgt := 98) hx hb dX3_deposit_80 (by decide) (fun c_80 => absurd hc.1 c_80) (fun c_80 => ?_)
            refine lv_iload_n hx hb dX3_deposit_83 rfl (lv_at hl 2 rfl) ?_
            refine lv_if_eq (tgt := 98) hx hb dX3_deposit_84 (by decide) (fun c_84 => absurd c_84 hc.2) (fun c_84 => ?_)
            refine lv_aload_n hx hb dX3_deposit_87 rfl (lv_at hl 0 rfl) ?_
            refine lv_iload_n hx hb dX3_deposit_88 rfl (lv_at hl 3 rfl) ?_
            refine caM (va_runV (As := [.int (nI k)]) (rest := []) ⟨hx, hb, hml, hown, hts⟩ (c_X3_lays l G y a (mLA (u2 (mT v 0) 15 i (v 15 i + ch)) k) H.size k hk_k) (cwV 1 hts gX3_deposit_X3_lays rfl rfl rfl (by decide +kernel) ⟨Nat.le_of_ble_eq_true rfl, Nat.le_of_ble_eq_true rfl⟩) ⟨mP_bl, va_recv hK.1 hP (ci := 3) (q0 := 0) rfl rfl, fun U hU hW => ⟨rfl, by rw [hU], by rw [hU]; exact hP, Kb.moved hW hK, hD.weaken (fun _ _ _ _ => trivial)⟩⟩ rfl rfl hl.1 rfl (lv_room (Nat.le_of_ble_eq_true rfl)) dX3_deposit_89 ⟨Nat.le_of_ble_eq_true rfl, Nat.le_of_ble_eq_true rfl⟩) hS (freeW hD hS hA) (freeW hD hS hA) (fun _ H locs _ hP hD _ _ hS => ?_)
            refine W.eq (g2 := F0 m 92 ls []) rfl ?_
            have hP : va_P G vwCl (mdW y a (mLay (mLA (u2 (mT v 0) 15 i (v 15 i + ch)) k) k)) H := hP
            have hD : va_D A (mdW y a (mLay (mLA (u2 (mT v 0) 15 i (v 15 i + ch)) k) k)) := hD
            refine lv_iinc (v := (nI (k + 1))) (lv' := [(3, .int (nI (k + 1))), (0, .ref (a 0)), (1, .int (nI i)), (2, .int ch)]) hx hb dX3_deposit_92 hl (k := 3) rfl iinc1 (by decide) rfl (fun ls hl => ?_)
            refine lv_goto (tgt := 70) hx hb dX3_deposit_95 (by decide) ?_
            exact ih_k _ _ ls hP hD hS (lv_sub hl [1, 2, 3, 0] rfl)
          · have hl : lv_has ls 4 [(0, .ref (a 0)), (1, .int (nI i)), (2, .int ch), (3, .int (nI 6))] := hl
            have hP : va_P G vwCl (mdW y a (mLA (u2 (mT v 0) 15 i (v 15 i + ch)) 6)) H := hP
            have hD : va_D A (mdW y a (mLA (u2 (mT v 0) 15 i (v 15 i + ch)) 6)) := hD
            refine lv_iload_n hx hb dX3_deposit_70 rfl (lv_at hl 3 rfl) ?_
            refine lv_bipush (v := 6) hx hb dX3_deposit_71 (by decide) ?_
            refine lv_icmp_ge (tgt := 98) hx hb dX3_deposit_73 (by decide) (fun c_73 => ?_) (fun c_73 => absurd (nI_le (Nat.le_refl 6) (by decide)) c_73)
            refine lv_aload_n hx hb dX3_deposit_98 rfl (lv_at hl 0 rfl) ?_
            refine mdG (v := (mLA (u2 (mT v 0) 15 i (v 15 i + ch)) 6)) (val := .ref (a 15)) hx hb hts hin3 hown hK hP 15 (by decide) (hts (.fieldLink RX3 42 "FundBookModel" "balance" "[I") (by decide +kernel)) rfl dX3_deposit_99 ?_
            refine lv_iload_n hx hb dX3_deposit_102 rfl (lv_at hl 1 rfl) ?_
            refine ldI (f := ((mLA (u2 (mT v 0) 15 i (v 15 i + ch)) 6) 15)) hx hb hK hP 10 mg_15 i rfl (by omega) (by decide) dX3_deposit_103 ?_
            refine lv_topE (z := (v 15 i + ch)) (by rw [mLA_o (by decide) (by decide)]; exact u2_s) ?_
            have ev : mDep v (nI i) ch = ((mLA (u2 (mT v 0) 15 i (v 15 i + ch)) 6), (v 15 i + ch)) := by unfold mDep; rw [cnI (by omega)]; exact (if_neg c_9).trans ((if_neg c_26).trans ((if_neg c_49).trans ((if_pos hc))))
            exact W.iret (v := (v 15 i + ch)) hx hb hr (fun t ht hW => ⟨⟨(), by rw [ev], trivial, by rw [ht, ev]; exact hP, by rw [ev]; exact hD⟩, hS.F ht⟩) hS.2.2 dX3_deposit_104
        · refine lv_iload_n hx hb dX3_deposit_70 rfl (lv_at hl 0 rfl) ?_
          refine lv_bipush (v := 6) hx hb dX3_deposit_71 (by decide) ?_
          refine lv_icmp_ge (tgt := 98) hx hb dX3_deposit_73 (by decide) (fun c_73 => absurd c_73 (by decide)) (fun c_73 => ?_)
          refine lv_aload_n hx hb dX3_deposit_76 rfl (lv_at hl 1 rfl) ?_
          refine mdG (v := (u2 (u2 v 0 0 0) 15 i (v 15 i + ch))) (val := .int (v 0 1)) hx hb hts hin3 hown hK hP 1 (by decide) (hts (.fieldLink RX3 73 "FundBookModel" "now" "I") (by decide +kernel)) rfl dX3_deposit_77 ?_
          refine lv_if_ne (tgt := 98) hx hb dX3_deposit_80 (by decide) (fun c_80 => ?_) (fun c_80 => ?_)
          · refine lv_aload_n hx hb dX3_deposit_98 rfl (lv_at hl 1 rfl) ?_
            refine mdG (v := (u2 (u2 v 0 0 0) 15 i (v 15 i + ch))) (val := .ref (a 15)) hx hb hts hin3 hown hK hP 15 (by decide) (hts (.fieldLink RX3 42 "FundBookModel" "balance" "[I") (by decide +kernel)) rfl dX3_deposit_99 ?_
            refine lv_iload_n hx hb dX3_deposit_102 rfl (lv_at hl 2 rfl) ?_
            refine ldI (f := ((u2 (u2 v 0 0 0) 15 i (v 15 i + ch)) 15)) hx hb hK hP 10 mg_15 i rfl (by omega) (by decide) dX3_deposit_103 ?_
            refine lv_topE (z := (v 15 i + ch)) (u2_s) ?_
            have ev : mDep v (nI i) ch = ((u2 (u2 v 0 0 0) 15 i (v 15 i + ch)), (v 15 i + ch)) := by unfold mDep; rw [cnI (by omega)]; exact (if_neg c_9).trans ((if_neg c_26).trans ((if_neg c_49).trans ((if_neg hc))))
            exact W.iret (v := (v 15 i + ch)) hx hb hr (fun t ht hW => ⟨⟨(), by rw [ev], trivial, by rw [ht, ev]; exact hP, by rw [ev]; exact hD⟩, hS.F ht⟩) hS.2.2 dX3_deposit_104
          · refine lv_iload_n hx hb dX3_deposit_83 rfl (lv_at hl 3 rfl) ?_
            refine lv_if_eq (tgt := 98) hx hb dX3_deposit_84 (by decide) (fun c_84 => ?_) (fun c_84 => absurd ⟨c_80, c_84⟩ hc)
            refine lv_aload_n hx hb dX3_deposit_98 rfl (lv_at hl 1 rfl) ?_
            refine mdG (v := (u2 (u2 v 0 0 0) 15 i (v 15 i + ch))) (val := .ref (a 15)) hx hb hts hin3 hown hK hP 15 (by decide) (hts (.fieldLink RX3 42 "FundBookModel" "balance" "[I") (by decide +kernel)) rfl dX3_deposit_99 ?_
            refine lv_iload_n hx hb dX3_deposit_102 rfl (lv_at hl 2 rfl) ?_
            refine ldI (f := ((u2 (u2 v 0 0 0) 15 i (v 15 i + ch)) 15)) hx hb hK hP 10 mg_15 i rfl (by omega) (by decide) dX3_deposit_103 ?_
            refine lv_topE (z := (v 15 i + ch)) (u2_s) ?_
            have ev : mDep v (nI i) ch = ((u2 (u2 v 0 0 0) 15 i (v 15 i + ch)), (v 15 i + ch)) := by unfold mDep; rw [cnI (by omega)]; exact (if_neg c_9).trans ((if_neg c_26).trans ((if_neg c_49).trans ((if_neg hc))))
            exact W.iret (v := (v 15 i + ch)) hx hb hr (fun t ht hW => ⟨⟨(), by rw [ev], trivial, by rw [ht, ev]; exact hP, by rw [ev]; exact hD⟩, hS.F ht⟩) hS.2.2 dX3_deposit_104
      · refine lv_aload_n hx hb dX3_deposit_52 rfl (lv_at hl 0 rfl) ?_
        refine lv_iconst (v := 3) hx hb dX3_deposit_53 (by decide) ?_
        refine caM (va_runV (As := [.int 3]) (rest := []) ⟨hx, hb, hml, hown, hts⟩ (c_X3_fails l G y a (u2 v 0 0 0) H.size 3) (cwV 1 hts gX3_deposit_X3_fails rfl rfl rfl (by decide +kernel) ⟨Nat.le_of_ble_eq_true rfl, Nat.le_of_ble_eq_true rfl⟩) ⟨mP_bl, va_recv hK.1 hP (ci := 3) (q0 := 0) rfl rfl, fun U hU hW => ⟨rfl, by rw [hU], by rw [hU]; exact hP, Kb.moved hW hK, hD.weaken (fun _ _ _ _ => trivial)⟩⟩ rfl rfl hl.1 rfl (lv_room (Nat.le_of_ble_eq_true rfl)) dX3_deposit_54 ⟨Nat.le_of_ble_eq_true rfl, Nat.le_of_ble_eq_true rfl⟩) hS (freeW hD hS hA) (freeW hD hS hA) (fun _ H locs _ hP hD _ _ hS => ?_)
        refine W.eq (g2 := F0 m 57 ls [.int 0]) rfl ?_
        have hP : va_P G vwCl (mdW y a (u2 (u2 v 0 0 0) 0 0 3)) H := hP
        have hD : va_D A (mdW y a (u2 (u2 v 0 0 0) 0 0 3)) := hD
        have ev : mDep v (nI i) ch = ((u2 (u2 v 0 0 0) 0 0 3), 0) := by unfold mDep; rw [cnI (by omega)]; exact (if_neg c_9).trans ((if_neg c_26).trans ((if_pos c_49)))
        exact W.iret (v := 0) hx hb hr (fun t ht hW => ⟨⟨(), by rw [ev], trivial, by rw [ht, ev]; exact hP, by rw [ev]; exact hD⟩, hS.F ht⟩) hS.2.2 dX3_deposit_57
    · refine lv_aload_n hx hb dX3_deposit_29 rfl (lv_at hl 0 rfl) ?_
      refine lv_iconst (v := 2) hx hb dX3_deposit_30 (by decide) ?_
      refine caM (va_runV (As := [.int 2]) (rest := []) ⟨hx, hb, hml, hown, hts⟩ (c_X3_fails l G y a (u2 v 0 0 0) H.size 2) (cwV 1 hts gX3_deposit_X3_fails rfl rfl rfl (by decide +kernel) ⟨Nat.le_of_ble_eq_true rfl, Nat.le_of_ble_eq_true rfl⟩) ⟨mP_bl, va_recv hK.1 hP (ci := 3) (q0 := 0) rfl rfl, fun U hU hW => ⟨rfl, by rw [hU], by rw [hU]; exact hP, Kb.moved hW hK, hD.weaken (fun _ _ _ _ => trivial)⟩⟩ rfl rfl hl.1 rfl (lv_room (Nat.le_of_ble_eq_true rfl)) dX3_deposit_31 ⟨Nat.le_of_ble_eq_true rfl, Nat.le_of_ble_eq_true rfl⟩) hS (freeW hD hS hA) (freeW hD hS hA) (fun _ H locs _ hP hD _ _ hS => ?_)
      refine W.eq (g2 := F0 m 34 ls [.int 0]) rfl ?_
      have hP : va_P G vwCl (mdW y a (u2 (u2 v 0 0 0) 0 0 2)) H := hP
      have hD : va_D A (mdW y a (u2 (u2 v 0 0 0) 0 0 2)) := hD
      have ev : mDep v x ch = ((u2 (u2 v 0 0 0) 0 0 2), 0) := by unfold mDep; exact (if_neg c_9).trans ((if_pos c_26))
      exact W.iret (v := 0) hx hb hr (fun t ht hW => ⟨⟨(), by rw [ev], trivial, by rw [ht, ev]; exact hP, by rw [ev]; exact hD⟩, hS.F ht⟩) hS.2.2 dX3_deposit_34
  · refine lv_aload_n hx hb dX3_deposit_12 rfl (lv_at hl 0 rfl) ?_
    refine lv_iconst (v := 1) hx hb dX3_deposit_13 (by decide) ?_
    refine caM (va_runV (As := [.int 1]) (rest := []) ⟨hx, hb, hml, hown, hts⟩ (c_X3_fails l G y a (u2 v 0 0 0) H.size 1) (cwV 1 hts gX3_deposit_X3_fails rfl rfl rfl (by decide +kernel) ⟨Nat.le_of_ble_eq_true rfl, Nat.le_of_ble_eq_true rfl⟩) ⟨mP_bl, va_recv hK.1 hP (ci := 3) (q0 := 0) rfl rfl, fun U hU hW => ⟨rfl, by rw [hU], by rw [hU]; exact hP, Kb.moved hW hK, hD.weaken (fun _ _ _ _ => trivial)⟩⟩ rfl rfl hl.1 rfl (lv_room (Nat.le_of_ble_eq_true rfl)) dX3_deposit_14 ⟨Nat.le_of_ble_eq_true rfl, Nat.le_of_ble_eq_true rfl⟩) hS (freeW hD hS hA) (freeW hD hS hA) (fun _ H locs _ hP hD _ _ hS => ?_)
    refine W.eq (g2 := F0 m 17 ls [.int 0]) rfl ?_
    have hP : va_P G vwCl (mdW y a (u2 (u2 v 0 0 0) 0 0 1)) H := hP
    have hD : va_D A (mdW y a (u2 (u2 v 0 0 0) 0 0 1)) := hD
    have ev : mDep v x ch = ((u2 (u2 v 0 0 0) 0 0 1), 0) := by unfold mDep; exact (if_pos c_9)
    exact W.iret (v := 0) hx hb hr (fun t ht hW => ⟨⟨(), by rw [ev], trivial, by rw [ht, ev]; exact hP, by rw [ev]; exact hD⟩, hS.F ht⟩) hS.2.2 dX3_deposit_17
set_option maxHeartbeats 4000000 in
set_option maxRecDepth 100000 in
theorem c_X3_left (l : Launch) (G : va_G) (y : Nat → ClassId) (a : Nat → Nat) (v : MS) (sz : Nat) (x : Int32) (n : Nat) (hn : v 0 6 = nI n) (hn24 : n ≤ 24) : Met l yX3_left wsX3_left ({ frames := 2, cells := 0, slots := 0, locals := 43 }) (mP G y [.ref (a 0), .int x] (mdW y a v) sz) (mQ G (fun _ : Unit => some (.int (mLeftA v n x).2)) (fun _ => True) (fun _ => mdW y a (mLeftA v n x).1) (va_A (mdW y a v) sz)) 0 0 (va_A (mdW y a v) sz) := by
  refine Met.ofW (cc := cX3_left) (maxL := 2) (ret := (some .int)) (by decide) rfl ?_
  intro p e s m args below meth c s₁ B hml hv
  obtain ⟨rfl, hsz, hP, hK, hD0⟩ := hv
  have hx := B.exec
  have hb := B.bytes
  have hr := B.returns
  have hts := atoms_spec (ws := wsX3_left) B.pre
  have hown : s.vm.findClass RX3 = some m.cls := findClass_of_methodNamed B.named
  have hlocks := B.notSynchronized
  subst hsz
  have hD := hD0.self (sz := s.heap.size)
  generalize hAe : va_A (mdW y a v) s.heap.size = A at hD ⊢
  have hA : ∀ q : Nat, s.heap.size ≤ q → A q := fun q h => by rw [← hAe]; exact Or.inr h
  have hS : va_S A s.heap s.heap [] := va_S.rf
  have hP : va_P G vwCl (mdW y a v) s.heap := hP
  have hl := lv_entry ([.ref (a 0), .int x]) (n := 2) (Nat.le_of_ble_eq_true rfl)
  rw [lg_entry_eq]
  generalize (lg_sl ([.ref (a 0), .int x]) ++ List.replicate (2 - (lg_sl ([.ref (a 0), .int x])).length) Slot.unset).toArray = ls at hl ⊢
  have hin3 : ∀ w ∈ wsX30, w ∈ wsX3_left := by decide +kernel
  have hl : lv_has ls 2 [(0, .ref (a 0)), (1, .int x)] := hl
  refine lv_aload_n hx hb dX3_left_0 rfl (lv_at hl 0 rfl) ?_
  refine lv_iconst (v := 0) hx hb dX3_left_1 (by decide) ?_
  refine mdS (v := v) (x := 0) hx hb hts hin3 hown hK hP hD hS 0 (by decide) (hts (.fieldLink RX3 63 "FundBookModel" "thrown" "I") (by decide +kernel)) dX3_left_2 (fun H locs hP hD hS => ?_)
  refine lv_aload_n hx hb dX3_left_5 rfl (lv_at hl 0 rfl) ?_
  refine lv_iload_n hx hb dX3_left_6 rfl (lv_at hl 1 rfl) ?_
  refine caR (r := .int (mIn x 0 (v 0 6 - 1))) (va_runV (As := [.int x]) (rest := []) ⟨hx, hb, hml, hown, hts⟩ (c_X3_isLoan l G y a (u2 v 0 0 0) x) (cwV 1 hts gX3_left_X3_isLoan rfl rfl rfl (by decide +kernel) ⟨Nat.le_of_ble_eq_true rfl, Nat.le_of_ble_eq_true rfl⟩) ⟨rP_bl, va_recv hK.1 hP (ci := 3) (q0 := 0) rfl rfl, fun U hU hW => ⟨rfl, by rw [hU]; exact hP, Kb.moved hW hK⟩⟩ rfl rfl hl.1 rfl (lv_room (Nat.le_of_ble_eq_true rfl)) dX3_left_7 ⟨Nat.le_of_ble_eq_true rfl, Nat.le_of_ble_eq_true rfl⟩) ?_
  refine lv_topE (z := mIn x 0 (nI n - 1)) (by rw [hn]) ?_
  refine lv_if_eq (tgt := 21) hx hb dX3_left_10 (by decide) (fun c_10 => ?_) (fun c_10 => ?_)
  · refine lv_aload_n hx hb dX3_left_21 rfl (lv_at hl 0 rfl) ?_
    refine lv_iconst (v := 1) hx hb dX3_left_22 (by decide) ?_
    refine caM (va_runV (As := [.int 1]) (rest := []) ⟨hx, hb, hml, hown, hts⟩ (c_X3_fails l G y a (u2 v 0 0 0) H.size 1) (cwV 1 hts gX3_left_X3_fails rfl rfl rfl (by decide +kernel) ⟨Nat.le_of_ble_eq_true rfl, Nat.le_of_ble_eq_true rfl⟩) ⟨mP_bl, va_recv hK.1 hP (ci := 3) (q0 := 0) rfl rfl, fun U hU hW => ⟨rfl, by rw [hU], by rw [hU]; exact hP, Kb.moved hW hK, hD.weaken (fun _ _ _ _ => trivial)⟩⟩ rfl rfl hl.1 rfl (lv_room (Nat.le_of_ble_eq_true rfl)) dX3_left_23 ⟨Nat.le_of_ble_eq_true rfl, Nat.le_of_ble_eq_true rfl⟩) hS (freeW hD hS hA) (freeW hD hS hA) (fun _ H locs _ hP hD _ _ hS => ?_)
    refine W.eq (g2 := F0 m 26 ls [.int 0]) rfl ?_
    have hP : va_P G vwCl (mdW y a (u2 (u2 v 0 0 0) 0 0 1)) H := hP
    have hD : va_D A (mdW y a (u2 (u2 v 0 0 0) 0 0 1)) := hD
    have ev : mLeftA v n x = ((u2 (u2 v 0 0 0) 0 0 1), 0) := by unfold mLeftA; exact (if_pos c_10)
    exact W.iret (v := 0) hx hb hr (fun t ht hW => ⟨⟨(), by rw [ev], trivial, by rw [ht, ev]; exact hP, by rw [ev]; exact hD⟩, hS.F ht⟩) hS.2.2 dX3_left_26
  · obtain ⟨i, hi, rfl⟩ := inL c_10 (by omega)
    refine lv_aload_n hx hb dX3_left_13 rfl (lv_at hl 0 rfl) ?_
    refine lv_iload_n hx hb dX3_left_14 rfl (lv_at hl 1 rfl) ?_
    refine caR (r := .int (mLeft v i)) (va_runV (As := [.int (nI i)]) (rest := []) ⟨hx, hb, hml, hown, hts⟩ (c_X3_leftOf l G y a (u2 v 0 0 0) i (by omega)) (cwV 1 hts gX3_left_X3_leftOf rfl rfl rfl (by decide +kernel) ⟨Nat.le_of_ble_eq_true rfl, Nat.le_of_ble_eq_true rfl⟩) ⟨rP_bl, va_recv hK.1 hP (ci := 3) (q0 := 0) rfl rfl, fun U hU hW => ⟨rfl, by rw [hU]; exact hP, Kb.moved hW hK⟩⟩ rfl rfl hl.1 rfl (lv_room (Nat.le_of_ble_eq_true rfl)) dX3_left_15 ⟨Nat.le_of_ble_eq_true rfl, Nat.le_of_ble_eq_true rfl⟩) ?_
    refine lv_goto (tgt := 26) hx hb dX3_left_18 (by decide) ?_
    have ev : mLeftA v n (nI i) = ((u2 v 0 0 0), mLeft v i) := by unfold mLeftA; rw [cnI (by omega)]; exact (if_neg c_10)
    exact W.iret (v := mLeft v i) hx hb hr (fun t ht hW => ⟨⟨(), by rw [ev], trivial, by rw [ht, ev]; exact hP, by rw [ev]; exact hD⟩, hS.F ht⟩) hS.2.2 dX3_left_26
set_option maxHeartbeats 4000000 in
set_option maxRecDepth 100000 in
theorem c_X3_bears (l : Launch) (G : va_G) (y : Nat → ClassId) (a : Nat → Nat) (v : MS) (sz : Nat) (x w : Int32) (n : Nat) (hn : v 0 6 = nI n) (hn24 : n ≤ 24) : Met l yX3_bears wsX3_bears ({ frames := 2, cells := 0, slots := 0, locals := 52 }) (mP G y [.ref (a 0), .int x, .int w] (mdW y a v) sz) (mQ G (fun _ : Unit => some (.int (mBears v n x w).2)) (fun _ => True) (fun _ => mdW y a (mBears v n x w).1) (va_A (mdW y a v) sz)) 0 0 (va_A (mdW y a v) sz) := by
  refine Met.ofW (cc := cX3_bears) (maxL := 3) (ret := (some .int)) (by decide) rfl ?_
  intro p e s m args below meth c s₁ B hml hv
  obtain ⟨rfl, hsz, hP, hK, hD0⟩ := hv
  have hx := B.exec
  have hb := B.bytes
  have hr := B.returns
  have hts := atoms_spec (ws := wsX3_bears) B.pre
  have hown : s.vm.findClass RX3 = some m.cls := findClass_of_methodNamed B.named
  have hlocks := B.notSynchronized
  subst hsz
  have hD := hD0.self (sz := s.heap.size)
  generalize hAe : va_A (mdW y a v) s.heap.size = A at hD ⊢
  have hA : ∀ q : Nat, s.heap.size ≤ q → A q := fun q h => by rw [← hAe]; exact Or.inr h
  have hS : va_S A s.heap s.heap [] := va_S.rf
  have hP : va_P G vwCl (mdW y a v) s.heap := hP
  have hl := lv_entry ([.ref (a 0), .int x, .int w]) (n := 3) (Nat.le_of_ble_eq_true rfl)
  rw [lg_entry_eq]
  generalize (lg_sl ([.ref (a 0), .int x, .int w]) ++ List.replicate (3 - (lg_sl ([.ref (a 0), .int x, .int w])).length) Slot.unset).toArray = ls at hl ⊢
  have hin3 : ∀ w ∈ wsX30, w ∈ wsX3_bears := by decide +kernel
  have hl : lv_has ls 3 [(0, .ref (a 0)), (1, .int x), (2, .int w)] := hl
  refine lv_aload_n hx hb dX3_bears_0 rfl (lv_at hl 0 rfl) ?_
  refine lv_iconst (v := 0) hx hb dX3_bears_1 (by decide) ?_
  refine mdS (v := v) (x := 0) hx hb hts hin3 hown hK hP hD hS 0 (by decide) (hts (.fieldLink RX3 63 "FundBookModel" "thrown" "I") (by decide +kernel)) dX3_bears_2 (fun H locs hP hD hS => ?_)
  refine lv_aload_n hx hb dX3_bears_5 rfl (lv_at hl 0 rfl) ?_
  refine lv_iload_n hx hb dX3_bears_6 rfl (lv_at hl 1 rfl) ?_
  refine caR (r := .int (mIn x 0 (v 0 6 - 1))) (va_runV (As := [.int x]) (rest := []) ⟨hx, hb, hml, hown, hts⟩ (c_X3_isLoan l G y a (u2 v 0 0 0) x) (cwV 1 hts gX3_bears_X3_isLoan rfl rfl rfl (by decide +kernel) ⟨Nat.le_of_ble_eq_true rfl, Nat.le_of_ble_eq_true rfl⟩) ⟨rP_bl, va_recv hK.1 hP (ci := 3) (q0 := 0) rfl rfl, fun U hU hW => ⟨rfl, by rw [hU]; exact hP, Kb.moved hW hK⟩⟩ rfl rfl hl.1 rfl (lv_room (Nat.le_of_ble_eq_true rfl)) dX3_bears_7 ⟨Nat.le_of_ble_eq_true rfl, Nat.le_of_ble_eq_true rfl⟩) ?_
  refine lv_topE (z := mIn x 0 (nI n - 1)) (by rw [hn]) ?_
  refine lv_if_ne (tgt := 19) hx hb dX3_bears_10 (by decide) (fun c_10 => ?_) (fun c_10 => ?_)
  · refine lv_iload_n hx hb dX3_bears_19 rfl (lv_at hl 2 rfl) ?_
    refine lv_iconst (v := 0) hx hb dX3_bears_20 (by decide) ?_
    refine lv_iconst (v := 3) hx hb dX3_bears_21 (by decide) ?_
    refine caR (r := .int (mIn w 0 3)) (va_runS (As := [.int w, .int 0, .int 3]) (rest := []) ⟨hx, hb, hml, hown, hts⟩ (c_X3_in l w 0 3) (va_cwS 3 hts gX3_bears_X3_in rfl rfl rfl (by decide +kernel) ⟨Nat.le_of_ble_eq_true rfl, Nat.le_of_ble_eq_true rfl⟩) ⟨nP_bl, fun _ _ _ => ⟨rfl, trivial⟩⟩ rfl rfl hl.1 rfl (lv_room (Nat.le_of_ble_eq_true rfl)) dX3_bears_22 ⟨Nat.le_of_ble_eq_true rfl, Nat.le_of_ble_eq_true rfl⟩) ?_
    refine lv_if_eq (tgt := 37) hx hb dX3_bears_25 (by decide) (fun c_25 => ?_) (fun c_25 => ?_)
    · refine lv_aload_n hx hb dX3_bears_37 rfl (lv_at hl 0 rfl) ?_
      refine lv_iconst (v := 2) hx hb dX3_bears_38 (by decide) ?_
      refine caM (va_runV (As := [.int 2]) (rest := []) ⟨hx, hb, hml, hown, hts⟩ (c_X3_fails l G y a (u2 v 0 0 0) H.size 2) (cwV 1 hts gX3_bears_X3_fails rfl rfl rfl (by decide +kernel) ⟨Nat.le_of_ble_eq_true rfl, Nat.le_of_ble_eq_true rfl⟩) ⟨mP_bl, va_recv hK.1 hP (ci := 3) (q0 := 0) rfl rfl, fun U hU hW => ⟨rfl, by rw [hU], by rw [hU]; exact hP, Kb.moved hW hK, hD.weaken (fun _ _ _ _ => trivial)⟩⟩ rfl rfl hl.1 rfl (lv_room (Nat.le_of_ble_eq_true rfl)) dX3_bears_39 ⟨Nat.le_of_ble_eq_true rfl, Nat.le_of_ble_eq_true rfl⟩) hS (freeW hD hS hA) (freeW hD hS hA) (fun _ H locs _ hP hD _ _ hS => ?_)
      refine W.eq (g2 := F0 m 42 ls [.int 0]) rfl ?_
      have hP : va_P G vwCl (mdW y a (u2 (u2 v 0 0 0) 0 0 2)) H := hP
      have hD : va_D A (mdW y a (u2 (u2 v 0 0 0) 0 0 2)) := hD
      have ev : mBears v n x w = ((u2 (u2 v 0 0 0) 0 0 2), 0) := by unfold mBears; exact (if_neg c_10).trans ((if_pos c_25))
      exact W.iret (v := 0) hx hb hr (fun t ht hW => ⟨⟨(), by rw [ev], trivial, by rw [ht, ev]; exact hP, by rw [ev]; exact hD⟩, hS.F ht⟩) hS.2.2 dX3_bears_42
    · obtain ⟨i, hi, rfl⟩ := inL c_10 (by omega)
      refine lv_aload_n hx hb dX3_bears_28 rfl (lv_at hl 0 rfl) ?_
      refine lv_iload_n hx hb dX3_bears_29 rfl (lv_at hl 1 rfl) ?_
      refine lv_iload_n hx hb dX3_bears_30 rfl (lv_at hl 2 rfl) ?_
      refine caR (r := .int (mBear v i w)) (va_runV (As := [.int (nI i), .int w]) (rest := []) ⟨hx, hb, hml, hown, hts⟩ (c_X3_bear l G y a (u2 v 0 0 0) i (by omega) w) (cwV 2 hts gX3_bears_X3_bear rfl rfl rfl (by decide +kernel) ⟨Nat.le_of_ble_eq_true rfl, Nat.le_of_ble_eq_true rfl⟩) ⟨rP_bl, va_recv hK.1 hP (ci := 3) (q0 := 0) rfl rfl, fun U hU hW => ⟨rfl, by rw [hU]; exact hP, Kb.moved hW hK⟩⟩ rfl rfl hl.1 rfl (lv_room (Nat.le_of_ble_eq_true rfl)) dX3_bears_31 ⟨Nat.le_of_ble_eq_true rfl, Nat.le_of_ble_eq_true rfl⟩) ?_
      refine lv_goto (tgt := 42) hx hb dX3_bears_34 (by decide) ?_
      have ev : mBears v n (nI i) w = ((u2 v 0 0 0), mBear v i w) := by unfold mBears; rw [cnI (by omega)]; exact (if_neg c_10).trans ((if_neg c_25))
      exact W.iret (v := mBear v i w) hx hb hr (fun t ht hW => ⟨⟨(), by rw [ev], trivial, by rw [ht, ev]; exact hP, by rw [ev]; exact hD⟩, hS.F ht⟩) hS.2.2 dX3_bears_42
  · refine lv_aload_n hx hb dX3_bears_13 rfl (lv_at hl 0 rfl) ?_
    refine lv_iconst (v := 1) hx hb dX3_bears_14 (by decide) ?_
    refine caM (va_runV (As := [.int 1]) (rest := []) ⟨hx, hb, hml, hown, hts⟩ (c_X3_fails l G y a (u2 v 0 0 0) H.size 1) (cwV 1 hts gX3_bears_X3_fails rfl rfl rfl (by decide +kernel) ⟨Nat.le_of_ble_eq_true rfl, Nat.le_of_ble_eq_true rfl⟩) ⟨mP_bl, va_recv hK.1 hP (ci := 3) (q0 := 0) rfl rfl, fun U hU hW => ⟨rfl, by rw [hU], by rw [hU]; exact hP, Kb.moved hW hK, hD.weaken (fun _ _ _ _ => trivial)⟩⟩ rfl rfl hl.1 rfl (lv_room (Nat.le_of_ble_eq_true rfl)) dX3_bears_15 ⟨Nat.le_of_ble_eq_true rfl, Nat.le_of_ble_eq_true rfl⟩) hS (freeW hD hS hA) (freeW hD hS hA) (fun _ H locs _ hP hD _ _ hS => ?_)
    refine W.eq (g2 := F0 m 18 ls [.int 0]) rfl ?_
    have hP : va_P G vwCl (mdW y a (u2 (u2 v 0 0 0) 0 0 1)) H := hP
    have hD : va_D A (mdW y a (u2 (u2 v 0 0 0) 0 0 1)) := hD
    have ev : mBears v n x w = ((u2 (u2 v 0 0 0) 0 0 1), 0) := by unfold mBears; exact (if_pos c_10)
    exact W.iret (v := 0) hx hb hr (fun t ht hW => ⟨⟨(), by rw [ev], trivial, by rw [ht, ev]; exact hP, by rw [ev]; exact hD⟩, hS.F ht⟩) hS.2.2 dX3_bears_18
set_option maxHeartbeats 4000000 in
set_option maxRecDepth 100000 in
theorem c_X3_due (l : Launch) (G : va_G) (y : Nat → ClassId) (a : Nat → Nat) (v : MS) (sz : Nat) (x : Int32) (n : Nat) (hn : v 0 6 = nI n) (hn24 : n ≤ 24) (t : Nat) (ht : v 0 1 = nI t) (ht47 : t ≤ 47) (bo : Nat → Nat) (hbo : ∀ l, l < n → v 12 l = nI (bo l) ∧ bo l ≤ t) : Met l yX3_due wsX3_due ({ frames := 1, cells := 0, slots := 0, locals := 22 }) (mP G y [.ref (a 0), .int x] (mdW y a v) sz) (mQ G (fun _ : Unit => some (.int (mDue v bo n t x).2)) (fun _ => True) (fun _ => mdW y a (mDue v bo n t x).1) (va_A (mdW y a v) sz)) 0 0 (va_A (mdW y a v) sz) := by
  refine Met.ofW (cc := cX3_due) (maxL := 5) (ret := (some .int)) (by decide) rfl ?_
  intro p e s m args below meth c s₁ B hml hv
  obtain ⟨rfl, hsz, hP, hK, hD0⟩ := hv
  have hx := B.exec
  have hb := B.bytes
  have hr := B.returns
  have hts := atoms_spec (ws := wsX3_due) B.pre
  have hown : s.vm.findClass RX3 = some m.cls := findClass_of_methodNamed B.named
  have hlocks := B.notSynchronized
  subst hsz
  have hD := hD0.self (sz := s.heap.size)
  generalize hAe : va_A (mdW y a v) s.heap.size = A at hD ⊢
  have hA : ∀ q : Nat, s.heap.size ≤ q → A q := fun q h => by rw [← hAe]; exact Or.inr h
  have hS : va_S A s.heap s.heap [] := va_S.rf
  have hP : va_P G vwCl (mdW y a v) s.heap := hP
  have hl := lv_entry ([.ref (a 0), .int x]) (n := 5) (Nat.le_of_ble_eq_true rfl)
  rw [lg_entry_eq]
  generalize (lg_sl ([.ref (a 0), .int x]) ++ List.replicate (5 - (lg_sl ([.ref (a 0), .int x])).length) Slot.unset).toArray = ls at hl ⊢
  have hin3 : ∀ w ∈ wsX30, w ∈ wsX3_due := by decide +kernel
  have hl : lv_has ls 5 [(0, .ref (a 0)), (1, .int x)] := hl
  refine lv_aload_n hx hb dX3_due_0 rfl (lv_at hl 0 rfl) ?_
  refine lv_iconst (v := 0) hx hb dX3_due_1 (by decide) ?_
  refine mdS (v := v) (x := 0) hx hb hts hin3 hown hK hP hD hS 0 (by decide) (hts (.fieldLink RX3 63 "FundBookModel" "thrown" "I") (by decide +kernel)) dX3_due_2 (fun H locs hP hD hS => ?_)
  refine lv_iload_n hx hb dX3_due_5 rfl (lv_at hl 1 rfl) ?_
  refine lv_iconst (v := 0) hx hb dX3_due_6 (by decide) ?_
  refine lv_iconst (v := 5) hx hb dX3_due_7 (by decide) ?_
  refine caR (r := .int (mIn x 0 5)) (va_runS (As := [.int x, .int 0, .int 5]) (rest := []) ⟨hx, hb, hml, hown, hts⟩ (c_X3_in l x 0 5) (va_cwS 3 hts gX3_due_X3_in rfl rfl rfl (by decide +kernel) ⟨Nat.le_of_ble_eq_true rfl, Nat.le_of_ble_eq_true rfl⟩) ⟨nP_bl, fun _ _ _ => ⟨rfl, trivial⟩⟩ rfl rfl hl.1 rfl (lv_room (Nat.le_of_ble_eq_true rfl)) dX3_due_8 ⟨Nat.le_of_ble_eq_true rfl, Nat.le_of_ble_eq_true rfl⟩) ?_
  refine lv_if_ne (tgt := 20) hx hb dX3_due_11 (by decide) (fun c_11 => ?_) (fun c_11 => ?_)
  · obtain ⟨i, hi, rfl⟩ := inN (M := 5) c_11 (by decide)
    refine lv_iconst (v := 0) hx hb dX3_due_20 (by decide) ?_
    refine lv_istore_n (lv' := [(2, .int 0), (0, .ref (a 0)), (1, .int (nI i))]) hx hb dX3_due_21 rfl hl (by decide) rfl (fun ls hl => ?_)
    refine lv_iconst (v := 0) hx hb dX3_due_22 (by decide) ?_
    refine lv_istore_n (lv' := [(3, .int 0), (2, .int 0), (0, .ref (a 0)), (1, .int (nI i))]) hx hb dX3_due_23 rfl hl (by decide) rfl (fun ls hl => ?_)
    refine loopW (LV := fun k => [(0, .ref (a 0)), (1, .int (nI i)), (2, .int (S32 (mDuP v bo (t + i)) k)), (3, .int (nI k))]) n (lv_sub hl [2, 3, 1, 0] rfl) (fun k ls hk_k hl ih_k => ?_) (fun ls hl => ?_)
    · have hl : lv_has ls 5 [(0, .ref (a 0)), (1, .int (nI i)), (2, .int (S32 (mDuP v bo (t + i)) k)), (3, .int (nI k))] := hl
      have hbk : bo k ≤ t + i := Nat.le_trans (hbo k hk_k).2 (by omega)
      refine lv_iload_n hx hb dX3_due_24 rfl (lv_at hl 3 rfl) ?_
      refine lv_aload_n hx hb dX3_due_25 rfl (lv_at hl 0 rfl) ?_
      refine mdG (v := (u2 v 0 0 0)) (val := .int (v 0 6)) hx hb hts hin3 hown hK hP 6 (by decide) (hts (.fieldLink RX3 66 "FundBookModel" "loans" "I") (by decide +kernel)) rfl dX3_due_26 ?_
      refine lv_topE (z := nI n) (hn) ?_
      refine lv_icmp_ge (tgt := 79) hx hb dX3_due_29 (by decide) (fun c_29 => absurd c_29 (nI_ge hk_k (by omega))) (fun c_29 => ?_)
      refine lv_aload_n hx hb dX3_due_32 rfl (lv_at hl 0 rfl) ?_
      refine mdG (v := (u2 v 0 0 0)) (val := .int (v 0 1)) hx hb hts hin3 hown hK hP 1 (by decide) (hts (.fieldLink RX3 73 "FundBookModel" "now" "I") (by decide +kernel)) rfl dX3_due_33 ?_
      refine lv_topE (z := nI t) (ht) ?_
      refine lv_iload_n hx hb dX3_due_36 rfl (lv_at hl 1 rfl) ?_
      refine lv_iadd hx hb dX3_due_37 ?_
      refine lv_topE (z := nI (t + i)) (nI_add t i) ?_
      refine lv_aload_n hx hb dX3_due_38 rfl (lv_at hl 0 rfl) ?_
      refine mdG (v := (u2 v 0 0 0)) (val := .ref (a 12)) hx hb hts hin3 hown hK hP 12 (by decide) (hts (.fieldLink RX3 33 "FundBookModel" "born" "[I") (by decide +kernel)) rfl dX3_due_39 ?_
      refine lv_iload_n hx hb dX3_due_42 rfl (lv_at hl 3 rfl) ?_
      refine ldI (f := v 12) hx hb hK hP 7 rfl k rfl (by omega) (by decide) dX3_due_43 ?_
      refine lv_topE (z := nI (bo k)) ((hbo k hk_k).1) ?_
      refine lv_isub hx hb dX3_due_44 ?_
      refine lv_topE (z := nI (t + i - bo k)) (pk_sub hbk) ?_
      refine lv_istore (lv' := [(4, .int (nI (t + i - bo k))), (0, .ref (a 0)), (1, .int (nI i)), (2, .int (S32 (mDuP v bo (t + i)) k)), (3, .int (nI k))]) hx hb dX3_due_45 hl (by decide) rfl (fun ls hl => ?_)
      refine lv_iload_n hx hb dX3_due_47 rfl (lv_at hl 3 rfl) ?_
      refine lv_iload hx hb dX3_due_48 (lv_at hl 0 rfl) ?_
      refine lv_bipush (v := 6) hx hb dX3_due_50 (by decide) ?_
      refine lv_icmp_ge (tgt := 70) hx hb dX3_due_52 (by decide) (fun c_52 => ?_) (fun c_52 => ?_)
      · have h6 : ¬ t + i - bo k < 6 := fun q => nI_ge q (by decide) c_52
        refine lv_iconst (v := 0) hx hb dX3_due_70 (by decide) ?_
        refine lv_iadd hx hb dX3_due_71 ?_
        refine lv_topE (z := S32 (mDuP v bo (t + i)) (k + 1)) (by show _ = S32 (mDuP v bo (t + i)) k + mDuP v bo (t + i) k; rw [mDuP, if_neg h6]) ?_
        refine lv_istore_n (lv' := [(2, .int (S32 (mDuP v bo (t + i)) (k + 1))), (4, .int (nI (t + i - bo k))), (0, .ref (a 0)), (1, .int (nI i)), (3, .int (nI k))]) hx hb dX3_due_72 rfl hl (by decide) rfl (fun ls hl => ?_)
        refine lv_iinc (v := (nI (k + 1))) (lv' := [(3, .int (nI (k + 1))), (2, .int (S32 (mDuP v bo (t + i)) (k + 1))), (4, .int (nI (t + i - bo k))), (0, .ref (a 0)), (1, .int (nI i))]) hx hb dX3_due_73 hl (k := 4) rfl iinc1 (by decide) rfl (fun ls hl => ?_)
        refine lv_goto (tgt := 24) hx hb dX3_due_76 (by decide) ?_
        exact ih_k ls (lv_sub hl [3, 4, 1, 0] rfl)
      · have h6 : t + i - bo k < 6 := n6lt c_52 (by omega)
        refine lv_aload_n hx hb dX3_due_55 rfl (lv_at hl 1 rfl) ?_
        refine mdG (v := (u2 v 0 0 0)) (val := .ref (a 13)) hx hb hts hin3 hown hK hP 13 (by decide) (hts (.fieldLink RX3 36 "FundBookModel" "part" "[I") (by decide +kernel)) rfl dX3_due_56 ?_
        refine lv_bipush (v := 6) hx hb dX3_due_59 (by decide) ?_
        refine lv_iload_n hx hb dX3_due_61 rfl (lv_at hl 4 rfl) ?_
        refine lv_imul hx hb dX3_due_62 ?_
        refine lv_iload hx hb dX3_due_63 (lv_at hl 0 rfl) ?_
        refine lv_iadd hx hb dX3_due_65 ?_
        refine lv_topE (z := nI (6 * k + (t + i - bo k))) (ix6) ?_
        refine ldI (f := v 13) hx hb hK hP 8 rfl (6 * k + (t + i - bo k)) rfl (by omega) (by decide) dX3_due_66 ?_
        refine lv_goto (tgt := 71) hx hb dX3_due_67 (by decide) ?_
        refine lv_iadd hx hb dX3_due_71 ?_
        refine lv_topE (z := S32 (mDuP v bo (t + i)) (k + 1)) (by show _ = S32 (mDuP v bo (t + i)) k + mDuP v bo (t + i) k; rw [mDuP, if_pos h6]) ?_
        refine lv_istore_n (lv' := [(2, .int (S32 (mDuP v bo (t + i)) (k + 1))), (4, .int (nI (t + i - bo k))), (0, .ref (a 0)), (1, .int (nI i)), (3, .int (nI k))]) hx hb dX3_due_72 rfl hl (by decide) rfl (fun ls hl => ?_)
        refine lv_iinc (v := (nI (k + 1))) (lv' := [(3, .int (nI (k + 1))), (2, .int (S32 (mDuP v bo (t + i)) (k + 1))), (4, .int (nI (t + i - bo k))), (0, .ref (a 0)), (1, .int (nI i))]) hx hb dX3_due_73 hl (k := 4) rfl iinc1 (by decide) rfl (fun ls hl => ?_)
        refine lv_goto (tgt := 24) hx hb dX3_due_76 (by decide) ?_
        exact ih_k ls (lv_sub hl [3, 4, 1, 0] rfl)
    · have hl : lv_has ls 5 [(0, .ref (a 0)), (1, .int (nI i)), (2, .int (S32 (mDuP v bo (t + i)) n)), (3, .int (nI n))] := hl
      refine lv_iload_n hx hb dX3_due_24 rfl (lv_at hl 3 rfl) ?_
      refine lv_aload_n hx hb dX3_due_25 rfl (lv_at hl 0 rfl) ?_
      refine mdG (v := (u2 v 0 0 0)) (val := .int (v 0 6)) hx hb hts hin3 hown hK hP 6 (by decide) (hts (.fieldLink RX3 66 "FundBookModel" "loans" "I") (by decide +kernel)) rfl dX3_due_26 ?_
      refine lv_topE (z := nI n) (hn) ?_
      refine lv_icmp_ge (tgt := 79) hx hb dX3_due_29 (by decide) (fun c_29 => ?_) (fun c_29 => absurd (nI_le (Nat.le_refl n) (by omega)) c_29)
      refine lv_iload_n hx hb dX3_due_79 rfl (lv_at hl 2 rfl) ?_
      have ev : mDue v bo n t (nI i) = ((u2 v 0 0 0), S32 (mDuP v bo (t + i)) n) := by unfold mDue; rw [cnI (by omega)]; exact (if_neg c_11)
      exact W.iret (v := S32 (mDuP v bo (t + i)) n) hx hb hr (fun t ht hW => ⟨⟨(), by rw [ev], trivial, by rw [ht, ev]; exact hP, by rw [ev]; exact hD⟩, hS.F ht⟩) hS.2.2 dX3_due_80
  · refine lv_aload_n hx hb dX3_due_14 rfl (lv_at hl 0 rfl) ?_
    refine lv_iconst (v := 1) hx hb dX3_due_15 (by decide) ?_
    refine caM (va_runV (As := [.int 1]) (rest := []) ⟨hx, hb, hml, hown, hts⟩ (c_X3_fails l G y a (u2 v 0 0 0) H.size 1) (cwV 1 hts gX3_due_X3_fails rfl rfl rfl (by decide +kernel) ⟨Nat.le_of_ble_eq_true rfl, Nat.le_of_ble_eq_true rfl⟩) ⟨mP_bl, va_recv hK.1 hP (ci := 3) (q0 := 0) rfl rfl, fun U hU hW => ⟨rfl, by rw [hU], by rw [hU]; exact hP, Kb.moved hW hK, hD.weaken (fun _ _ _ _ => trivial)⟩⟩ rfl rfl hl.1 rfl (lv_room (Nat.le_of_ble_eq_true rfl)) dX3_due_16 ⟨Nat.le_of_ble_eq_true rfl, Nat.le_of_ble_eq_true rfl⟩) hS (freeW hD hS hA) (freeW hD hS hA) (fun _ H locs _ hP hD _ _ hS => ?_)
    refine W.eq (g2 := F0 m 19 ls [.int 0]) rfl ?_
    have hP : va_P G vwCl (mdW y a (u2 (u2 v 0 0 0) 0 0 1)) H := hP
    have hD : va_D A (mdW y a (u2 (u2 v 0 0 0) 0 0 1)) := hD
    have ev : mDue v bo n t x = ((u2 (u2 v 0 0 0) 0 0 1), 0) := by unfold mDue; exact (if_pos c_11)
    exact W.iret (v := 0) hx hb hr (fun t ht hW => ⟨⟨(), by rw [ev], trivial, by rw [ht, ev]; exact hP, by rw [ev]; exact hD⟩, hS.F ht⟩) hS.2.2 dX3_due_19
set_option maxHeartbeats 4000000 in
set_option maxRecDepth 100000 in
theorem c_X3_balance (l : Launch) (G : va_G) (y : Nat → ClassId) (a : Nat → Nat) (v : MS) (sz : Nat) (x : Int32) : Met l yX3_balance wsX3_balance ({ frames := 2, cells := 0, slots := 0, locals := 42 }) (mP G y [.ref (a 0), .int x] (mdW y a v) sz) (mQ G (fun _ : Unit => some (.int (mBal v x).2)) (fun _ => True) (fun _ => mdW y a (mBal v x).1) (va_A (mdW y a v) sz)) 0 0 (va_A (mdW y a v) sz) := by
  refine Met.ofW (cc := cX3_balance) (maxL := 2) (ret := (some .int)) (by decide) rfl ?_
  intro p e s m args below meth c s₁ B hml hv
  obtain ⟨rfl, hsz, hP, hK, hD0⟩ := hv
  have hx := B.exec
  have hb := B.bytes
  have hr := B.returns
  have hts := atoms_spec (ws := wsX3_balance) B.pre
  have hown : s.vm.findClass RX3 = some m.cls := findClass_of_methodNamed B.named
  have hlocks := B.notSynchronized
  subst hsz
  have hD := hD0.self (sz := s.heap.size)
  generalize hAe : va_A (mdW y a v) s.heap.size = A at hD ⊢
  have hA : ∀ q : Nat, s.heap.size ≤ q → A q := fun q h => by rw [← hAe]; exact Or.inr h
  have hS : va_S A s.heap s.heap [] := va_S.rf
  have hP : va_P G vwCl (mdW y a v) s.heap := hP
  have hl := lv_entry ([.ref (a 0), .int x]) (n := 2) (Nat.le_of_ble_eq_true rfl)
  rw [lg_entry_eq]
  generalize (lg_sl ([.ref (a 0), .int x]) ++ List.replicate (2 - (lg_sl ([.ref (a 0), .int x])).length) Slot.unset).toArray = ls at hl ⊢
  have hin3 : ∀ w ∈ wsX30, w ∈ wsX3_balance := by decide +kernel
  have hl : lv_has ls 2 [(0, .ref (a 0)), (1, .int x)] := hl
  refine lv_aload_n hx hb dX3_balance_0 rfl (lv_at hl 0 rfl) ?_
  refine lv_iconst (v := 0) hx hb dX3_balance_1 (by decide) ?_
  refine mdS (v := v) (x := 0) hx hb hts hin3 hown hK hP hD hS 0 (by decide) (hts (.fieldLink RX3 63 "FundBookModel" "thrown" "I") (by decide +kernel)) dX3_balance_2 (fun H locs hP hD hS => ?_)
  refine lv_iload_n hx hb dX3_balance_5 rfl (lv_at hl 1 rfl) ?_
  refine caR (r := .int (mIn x 0 2)) (va_runS (As := [.int x]) (rest := []) ⟨hx, hb, hml, hown, hts⟩ (c_X3_isBranch l x) (va_cwS 1 hts gX3_balance_X3_isBranch rfl rfl rfl (by decide +kernel) ⟨Nat.le_of_ble_eq_true rfl, Nat.le_of_ble_eq_true rfl⟩) ⟨nP_bl, fun _ _ _ => ⟨rfl, trivial⟩⟩ rfl rfl hl.1 rfl (lv_room (Nat.le_of_ble_eq_true rfl)) dX3_balance_6 ⟨Nat.le_of_ble_eq_true rfl, Nat.le_of_ble_eq_true rfl⟩) ?_
  refine lv_if_eq (tgt := 21) hx hb dX3_balance_9 (by decide) (fun c_9 => ?_) (fun c_9 => ?_)
  · refine lv_aload_n hx hb dX3_balance_21 rfl (lv_at hl 0 rfl) ?_
    refine lv_iconst (v := 1) hx hb dX3_balance_22 (by decide) ?_
    refine caM (va_runV (As := [.int 1]) (rest := []) ⟨hx, hb, hml, hown, hts⟩ (c_X3_fails l G y a (u2 v 0 0 0) H.size 1) (cwV 1 hts gX3_balance_X3_fails rfl rfl rfl (by decide +kernel) ⟨Nat.le_of_ble_eq_true rfl, Nat.le_of_ble_eq_true rfl⟩) ⟨mP_bl, va_recv hK.1 hP (ci := 3) (q0 := 0) rfl rfl, fun U hU hW => ⟨rfl, by rw [hU], by rw [hU]; exact hP, Kb.moved hW hK, hD.weaken (fun _ _ _ _ => trivial)⟩⟩ rfl rfl hl.1 rfl (lv_room (Nat.le_of_ble_eq_true rfl)) dX3_balance_23 ⟨Nat.le_of_ble_eq_true rfl, Nat.le_of_ble_eq_true rfl⟩) hS (freeW hD hS hA) (freeW hD hS hA) (fun _ H locs _ hP hD _ _ hS => ?_)
    refine W.eq (g2 := F0 m 26 ls [.int 0]) rfl ?_
    have hP : va_P G vwCl (mdW y a (u2 (u2 v 0 0 0) 0 0 1)) H := hP
    have hD : va_D A (mdW y a (u2 (u2 v 0 0 0) 0 0 1)) := hD
    have ev : mBal v x = ((u2 (u2 v 0 0 0) 0 0 1), 0) := by unfold mBal; exact (if_pos c_9)
    exact W.iret (v := 0) hx hb hr (fun t ht hW => ⟨⟨(), by rw [ev], trivial, by rw [ht, ev]; exact hP, by rw [ev]; exact hD⟩, hS.F ht⟩) hS.2.2 dX3_balance_26
  · obtain ⟨i, hi, rfl⟩ := inN (M := 2) c_9 (by decide)
    refine lv_aload_n hx hb dX3_balance_12 rfl (lv_at hl 0 rfl) ?_
    refine mdG (v := (u2 v 0 0 0)) (val := .ref (a 15)) hx hb hts hin3 hown hK hP 15 (by decide) (hts (.fieldLink RX3 42 "FundBookModel" "balance" "[I") (by decide +kernel)) rfl dX3_balance_13 ?_
    refine lv_iload_n hx hb dX3_balance_16 rfl (lv_at hl 1 rfl) ?_
    refine ldI (f := v 15) hx hb hK hP 10 rfl i rfl (by omega) (by decide) dX3_balance_17 ?_
    refine lv_goto (tgt := 26) hx hb dX3_balance_18 (by decide) ?_
    have ev : mBal v (nI i) = ((u2 v 0 0 0), v 15 i) := by unfold mBal; rw [cnI (by omega)]; exact (if_neg c_9)
    exact W.iret (v := v 15 i) hx hb hr (fun t ht hW => ⟨⟨(), by rw [ev], trivial, by rw [ht, ev]; exact hP, by rw [ev]; exact hD⟩, hS.F ht⟩) hS.2.2 dX3_balance_26
set_option maxHeartbeats 4000000 in
set_option maxRecDepth 100000 in
theorem c_X3_tranche (l : Launch) (G : va_G) (y : Nat → ClassId) (a : Nat → Nat) (v : MS) (sz : Nat) (x : Int32) : Met l yX3_tranche wsX3_tranche ({ frames := 1, cells := 0, slots := 0, locals := 22 }) (mP G y [.ref (a 0), .int x] (mdW y a v) sz) (mQ G (fun _ : Unit => some (.int (mTra v x).2)) (fun _ => True) (fun _ => mdW y a (mTra v x).1) (va_A (mdW y a v) sz)) 0 0 (va_A (mdW y a v) sz) := by
  refine Met.ofW (cc := cX3_tranche) (maxL := 2) (ret := (some .int)) (by decide) rfl ?_
  intro p e s m args below meth c s₁ B hml hv
  obtain ⟨rfl, hsz, hP, hK, hD0⟩ := hv
  have hx := B.exec
  have hb := B.bytes
  have hr := B.returns
  have hts := atoms_spec (ws := wsX3_tranche) B.pre
  have hown : s.vm.findClass RX3 = some m.cls := findClass_of_methodNamed B.named
  have hlocks := B.notSynchronized
  subst hsz
  have hD := hD0.self (sz := s.heap.size)
  generalize hAe : va_A (mdW y a v) s.heap.size = A at hD ⊢
  have hA : ∀ q : Nat, s.heap.size ≤ q → A q := fun q h => by rw [← hAe]; exact Or.inr h
  have hS : va_S A s.heap s.heap [] := va_S.rf
  have hP : va_P G vwCl (mdW y a v) s.heap := hP
  have hl := lv_entry ([.ref (a 0), .int x]) (n := 2) (Nat.le_of_ble_eq_true rfl)
  rw [lg_entry_eq]
  generalize (lg_sl ([.ref (a 0), .int x]) ++ List.replicate (2 - (lg_sl ([.ref (a 0), .int x])).length) Slot.unset).toArray = ls at hl ⊢
  have hin3 : ∀ w ∈ wsX30, w ∈ wsX3_tranche := by decide +kernel
  have hl : lv_has ls 2 [(0, .ref (a 0)), (1, .int x)] := hl
  refine lv_aload_n hx hb dX3_tranche_0 rfl (lv_at hl 0 rfl) ?_
  refine lv_iconst (v := 0) hx hb dX3_tranche_1 (by decide) ?_
  refine mdS (v := v) (x := 0) hx hb hts hin3 hown hK hP hD hS 0 (by decide) (hts (.fieldLink RX3 63 "FundBookModel" "thrown" "I") (by decide +kernel)) dX3_tranche_2 (fun H locs hP hD hS => ?_)
  refine lv_iload_n hx hb dX3_tranche_5 rfl (lv_at hl 1 rfl) ?_
  refine lv_iconst (v := 0) hx hb dX3_tranche_6 (by decide) ?_
  refine lv_iconst (v := 5) hx hb dX3_tranche_7 (by decide) ?_
  refine caR (r := .int (mIn x 0 5)) (va_runS (As := [.int x, .int 0, .int 5]) (rest := []) ⟨hx, hb, hml, hown, hts⟩ (c_X3_in l x 0 5) (va_cwS 3 hts gX3_tranche_X3_in rfl rfl rfl (by decide +kernel) ⟨Nat.le_of_ble_eq_true rfl, Nat.le_of_ble_eq_true rfl⟩) ⟨nP_bl, fun _ _ _ => ⟨rfl, trivial⟩⟩ rfl rfl hl.1 rfl (lv_room (Nat.le_of_ble_eq_true rfl)) dX3_tranche_8 ⟨Nat.le_of_ble_eq_true rfl, Nat.le_of_ble_eq_true rfl⟩) ?_
  refine lv_if_eq (tgt := 23) hx hb dX3_tranche_11 (by decide) (fun c_11 => ?_) (fun c_11 => ?_)
  · refine lv_aload_n hx hb dX3_tranche_23 rfl (lv_at hl 0 rfl) ?_
    refine lv_iconst (v := 1) hx hb dX3_tranche_24 (by decide) ?_
    refine caM (va_runV (As := [.int 1]) (rest := []) ⟨hx, hb, hml, hown, hts⟩ (c_X3_fails l G y a (u2 v 0 0 0) H.size 1) (cwV 1 hts gX3_tranche_X3_fails rfl rfl rfl (by decide +kernel) ⟨Nat.le_of_ble_eq_true rfl, Nat.le_of_ble_eq_true rfl⟩) ⟨mP_bl, va_recv hK.1 hP (ci := 3) (q0 := 0) rfl rfl, fun U hU hW => ⟨rfl, by rw [hU], by rw [hU]; exact hP, Kb.moved hW hK, hD.weaken (fun _ _ _ _ => trivial)⟩⟩ rfl rfl hl.1 rfl (lv_room (Nat.le_of_ble_eq_true rfl)) dX3_tranche_25 ⟨Nat.le_of_ble_eq_true rfl, Nat.le_of_ble_eq_true rfl⟩) hS (freeW hD hS hA) (freeW hD hS hA) (fun _ H locs _ hP hD _ _ hS => ?_)
    refine W.eq (g2 := F0 m 28 ls [.int 0]) rfl ?_
    have hP : va_P G vwCl (mdW y a (u2 (u2 v 0 0 0) 0 0 1)) H := hP
    have hD : va_D A (mdW y a (u2 (u2 v 0 0 0) 0 0 1)) := hD
    have ev : mTra v x = ((u2 (u2 v 0 0 0) 0 0 1), 0) := by unfold mTra; exact (if_pos c_11)
    exact W.iret (v := 0) hx hb hr (fun t ht hW => ⟨⟨(), by rw [ev], trivial, by rw [ht, ev]; exact hP, by rw [ev]; exact hD⟩, hS.F ht⟩) hS.2.2 dX3_tranche_28
  · obtain ⟨i, hi, rfl⟩ := inN (M := 5) c_11 (by decide)
    refine lv_aload_n hx hb dX3_tranche_14 rfl (lv_at hl 0 rfl) ?_
    refine mdG (v := (u2 v 0 0 0)) (val := .ref (a 16)) hx hb hts hin3 hown hK hP 16 (by decide) (hts (.fieldLink RX3 45 "FundBookModel" "tranche" "[I") (by decide +kernel)) rfl dX3_tranche_15 ?_
    refine lv_iload_n hx hb dX3_tranche_18 rfl (lv_at hl 1 rfl) ?_
    refine ldI (f := v 16) hx hb hK hP 11 rfl i rfl (by omega) (by decide) dX3_tranche_19 ?_
    refine lv_goto (tgt := 28) hx hb dX3_tranche_20 (by decide) ?_
    have ev : mTra v (nI i) = ((u2 v 0 0 0), v 16 i) := by unfold mTra; rw [cnI (by omega)]; exact (if_neg c_11)
    exact W.iret (v := v 16 i) hx hb hr (fun t ht hW => ⟨⟨(), by rw [ev], trivial, by rw [ht, ev]; exact hP, by rw [ev]; exact hD⟩, hS.F ht⟩) hS.2.2 dX3_tranche_28
set_option maxHeartbeats 4000000 in
set_option maxRecDepth 100000 in
theorem c_X3_replicaRate (l : Launch) (G : va_G) (y : Nat → ClassId) (a : Nat → Nat) (v : MS) (sz : Nat)  : Met l yX3_replicaRate wsX3_replicaRate ({ frames := 1, cells := 0, slots := 0, locals := 25 }) (mP G y [.ref (a 0)] (mdW y a v) sz) (mQ G (fun _ : Unit => some (.int (((mT v 0, mRep v) : MS × Int32)).2)) (fun _ => True) (fun _ => mdW y a (((mT v 0, mRep v) : MS × Int32)).1) (va_A (mdW y a v) sz)) 0 0 (va_A (mdW y a v) sz) := by
  refine Met.ofW (cc := cX3_replicaRate) (maxL := 1) (ret := (some .int)) (by decide) rfl ?_
  intro p e s m args below meth c s₁ B hml hv
  obtain ⟨rfl, hsz, hP, hK, hD0⟩ := hv
  have hx := B.exec
  have hb := B.bytes
  have hr := B.returns
  have hts := atoms_spec (ws := wsX3_replicaRate) B.pre
  have hown : s.vm.findClass RX3 = some m.cls := findClass_of_methodNamed B.named
  have hlocks := B.notSynchronized
  subst hsz
  have hD := hD0.self (sz := s.heap.size)
  generalize hAe : va_A (mdW y a v) s.heap.size = A at hD ⊢
  have hA : ∀ q : Nat, s.heap.size ≤ q → A q := fun q h => by rw [← hAe]; exact Or.inr h
  have hS : va_S A s.heap s.heap [] := va_S.rf
  have hP : va_P G vwCl (mdW y a v) s.heap := hP
  have hl := lv_entry ([.ref (a 0)]) (n := 1) (Nat.le_of_ble_eq_true rfl)
  rw [lg_entry_eq]
  generalize (lg_sl ([.ref (a 0)]) ++ List.replicate (1 - (lg_sl ([.ref (a 0)])).length) Slot.unset).toArray = ls at hl ⊢
  have hin3 : ∀ w ∈ wsX30, w ∈ wsX3_replicaRate := by decide +kernel
  have hl : lv_has ls 1 [(0, .ref (a 0))] := hl
  refine lv_aload_n hx hb dX3_replicaRate_0 rfl (lv_at hl 0 rfl) ?_
  refine lv_iconst (v := 0) hx hb dX3_replicaRate_1 (by decide) ?_
  refine mdS (v := v) (x := 0) hx hb hts hin3 hown hK hP hD hS 0 (by decide) (hts (.fieldLink RX3 63 "FundBookModel" "thrown" "I") (by decide +kernel)) dX3_replicaRate_2 (fun H locs hP hD hS => ?_)
  refine lv_aload_n hx hb dX3_replicaRate_5 rfl (lv_at hl 0 rfl) ?_
  refine caR (r := .int (mRep v)) (va_runV (As := []) (rest := []) ⟨hx, hb, hml, hown, hts⟩ (c_X3_replica l G y a (u2 v 0 0 0) ) (cwV 0 hts gX3_replicaRate_X3_replica rfl rfl rfl (by decide +kernel) ⟨Nat.le_of_ble_eq_true rfl, Nat.le_of_ble_eq_true rfl⟩) ⟨rP_bl, va_recv hK.1 hP (ci := 3) (q0 := 0) rfl rfl, fun U hU hW => ⟨rfl, by rw [hU]; exact hP, Kb.moved hW hK⟩⟩ rfl rfl hl.1 rfl (lv_room (Nat.le_of_ble_eq_true rfl)) dX3_replicaRate_6 ⟨Nat.le_of_ble_eq_true rfl, Nat.le_of_ble_eq_true rfl⟩) ?_
  have ev : ((mT v 0, mRep v) : MS × Int32) = ((u2 v 0 0 0), mRep v) := by rfl
  exact W.iret (v := mRep v) hx hb hr (fun t ht hW => ⟨⟨(), by rw [ev], trivial, by rw [ht, ev]; exact hP, by rw [ev]; exact hD⟩, hS.F ht⟩) hS.2.2 dX3_replicaRate_9
set_option maxHeartbeats 4000000 in
set_option maxRecDepth 100000 in
theorem c_X3_margin (l : Launch) (G : va_G) (y : Nat → ClassId) (a : Nat → Nat) (v : MS) (sz : Nat) (x mo : Int32) (t : Nat) (ht : v 0 1 = nI t) (ht47 : t ≤ 47) : Met l yX3_margin wsX3_margin ({ frames := 2, cells := 0, slots := 0, locals := 43 }) (mP G y [.ref (a 0), .int x, .int mo] (mdW y a v) sz) (mQ G (fun _ : Unit => some (.int (mMar v t x mo).2)) (fun _ => True) (fun _ => mdW y a (mMar v t x mo).1) (va_A (mdW y a v) sz)) 0 0 (va_A (mdW y a v) sz) := by
  refine Met.ofW (cc := cX3_margin) (maxL := 3) (ret := (some .int)) (by decide) rfl ?_
  intro p e s m args below meth c s₁ B hml hv
  obtain ⟨rfl, hsz, hP, hK, hD0⟩ := hv
  have hx := B.exec
  have hb := B.bytes
  have hr := B.returns
  have hts := atoms_spec (ws := wsX3_margin) B.pre
  have hown : s.vm.findClass RX3 = some m.cls := findClass_of_methodNamed B.named
  have hlocks := B.notSynchronized
  subst hsz
  have hD := hD0.self (sz := s.heap.size)
  generalize hAe : va_A (mdW y a v) s.heap.size = A at hD ⊢
  have hA : ∀ q : Nat, s.heap.size ≤ q → A q := fun q h => by rw [← hAe]; exact Or.inr h
  have hS : va_S A s.heap s.heap [] := va_S.rf
  have hP : va_P G vwCl (mdW y a v) s.heap := hP
  have hl := lv_entry ([.ref (a 0), .int x, .int mo]) (n := 3) (Nat.le_of_ble_eq_true rfl)
  rw [lg_entry_eq]
  generalize (lg_sl ([.ref (a 0), .int x, .int mo]) ++ List.replicate (3 - (lg_sl ([.ref (a 0), .int x, .int mo])).length) Slot.unset).toArray = ls at hl ⊢
  have hin3 : ∀ w ∈ wsX30, w ∈ wsX3_margin := by decide +kernel
  have hl : lv_has ls 3 [(0, .ref (a 0)), (1, .int x), (2, .int mo)] := hl
  refine lv_aload_n hx hb dX3_margin_0 rfl (lv_at hl 0 rfl) ?_
  refine lv_iconst (v := 0) hx hb dX3_margin_1 (by decide) ?_
  refine mdS (v := v) (x := 0) hx hb hts hin3 hown hK hP hD hS 0 (by decide) (hts (.fieldLink RX3 63 "FundBookModel" "thrown" "I") (by decide +kernel)) dX3_margin_2 (fun H locs hP hD hS => ?_)
  refine lv_iload_n hx hb dX3_margin_5 rfl (lv_at hl 1 rfl) ?_
  refine caR (r := .int (mIn x 0 2)) (va_runS (As := [.int x]) (rest := []) ⟨hx, hb, hml, hown, hts⟩ (c_X3_isBranch l x) (va_cwS 1 hts gX3_margin_X3_isBranch rfl rfl rfl (by decide +kernel) ⟨Nat.le_of_ble_eq_true rfl, Nat.le_of_ble_eq_true rfl⟩) ⟨nP_bl, fun _ _ _ => ⟨rfl, trivial⟩⟩ rfl rfl hl.1 rfl (lv_room (Nat.le_of_ble_eq_true rfl)) dX3_margin_6 ⟨Nat.le_of_ble_eq_true rfl, Nat.le_of_ble_eq_true rfl⟩) ?_
  refine lv_if_eq (tgt := 33) hx hb dX3_margin_9 (by decide) (fun c_9 => ?_) (fun c_9 => ?_)
  · refine lv_aload_n hx hb dX3_margin_33 rfl (lv_at hl 0 rfl) ?_
    refine lv_iconst (v := 1) hx hb dX3_margin_34 (by decide) ?_
    refine caM (va_runV (As := [.int 1]) (rest := []) ⟨hx, hb, hml, hown, hts⟩ (c_X3_fails l G y a (u2 v 0 0 0) H.size 1) (cwV 1 hts gX3_margin_X3_fails rfl rfl rfl (by decide +kernel) ⟨Nat.le_of_ble_eq_true rfl, Nat.le_of_ble_eq_true rfl⟩) ⟨mP_bl, va_recv hK.1 hP (ci := 3) (q0 := 0) rfl rfl, fun U hU hW => ⟨rfl, by rw [hU], by rw [hU]; exact hP, Kb.moved hW hK, hD.weaken (fun _ _ _ _ => trivial)⟩⟩ rfl rfl hl.1 rfl (lv_room (Nat.le_of_ble_eq_true rfl)) dX3_margin_35 ⟨Nat.le_of_ble_eq_true rfl, Nat.le_of_ble_eq_true rfl⟩) hS (freeW hD hS hA) (freeW hD hS hA) (fun _ H locs _ hP hD _ _ hS => ?_)
    refine W.eq (g2 := F0 m 38 ls [.int 0]) rfl ?_
    have hP : va_P G vwCl (mdW y a (u2 (u2 v 0 0 0) 0 0 1)) H := hP
    have hD : va_D A (mdW y a (u2 (u2 v 0 0 0) 0 0 1)) := hD
    have ev : mMar v t x mo = ((u2 (u2 v 0 0 0) 0 0 1), 0) := by unfold mMar; exact (if_pos (Or.inl c_9))
    exact W.iret (v := 0) hx hb hr (fun t ht hW => ⟨⟨(), by rw [ev], trivial, by rw [ht, ev]; exact hP, by rw [ev]; exact hD⟩, hS.F ht⟩) hS.2.2 dX3_margin_38
  · refine lv_aload_n hx hb dX3_margin_12 rfl (lv_at hl 0 rfl) ?_
    refine lv_iload_n hx hb dX3_margin_13 rfl (lv_at hl 2 rfl) ?_
    refine caR (r := .int (mIn mo 0 (v 0 1 - 1))) (va_runV (As := [.int mo]) (rest := []) ⟨hx, hb, hml, hown, hts⟩ (c_X3_isEnded l G y a (u2 v 0 0 0) mo) (cwV 1 hts gX3_margin_X3_isEnded rfl rfl rfl (by decide +kernel) ⟨Nat.le_of_ble_eq_true rfl, Nat.le_of_ble_eq_true rfl⟩) ⟨rP_bl, va_recv hK.1 hP (ci := 3) (q0 := 0) rfl rfl, fun U hU hW => ⟨rfl, by rw [hU]; exact hP, Kb.moved hW hK⟩⟩ rfl rfl hl.1 rfl (lv_room (Nat.le_of_ble_eq_true rfl)) dX3_margin_14 ⟨Nat.le_of_ble_eq_true rfl, Nat.le_of_ble_eq_true rfl⟩) ?_
    refine lv_topE (z := mIn mo 0 (nI t - 1)) (by rw [ht]) ?_
    refine lv_if_eq (tgt := 33) hx hb dX3_margin_17 (by decide) (fun c_17 => ?_) (fun c_17 => ?_)
    · refine lv_aload_n hx hb dX3_margin_33 rfl (lv_at hl 0 rfl) ?_
      refine lv_iconst (v := 1) hx hb dX3_margin_34 (by decide) ?_
      refine caM (va_runV (As := [.int 1]) (rest := []) ⟨hx, hb, hml, hown, hts⟩ (c_X3_fails l G y a (u2 v 0 0 0) H.size 1) (cwV 1 hts gX3_margin_X3_fails rfl rfl rfl (by decide +kernel) ⟨Nat.le_of_ble_eq_true rfl, Nat.le_of_ble_eq_true rfl⟩) ⟨mP_bl, va_recv hK.1 hP (ci := 3) (q0 := 0) rfl rfl, fun U hU hW => ⟨rfl, by rw [hU], by rw [hU]; exact hP, Kb.moved hW hK, hD.weaken (fun _ _ _ _ => trivial)⟩⟩ rfl rfl hl.1 rfl (lv_room (Nat.le_of_ble_eq_true rfl)) dX3_margin_35 ⟨Nat.le_of_ble_eq_true rfl, Nat.le_of_ble_eq_true rfl⟩) hS (freeW hD hS hA) (freeW hD hS hA) (fun _ H locs _ hP hD _ _ hS => ?_)
      refine W.eq (g2 := F0 m 38 ls [.int 0]) rfl ?_
      have hP : va_P G vwCl (mdW y a (u2 (u2 v 0 0 0) 0 0 1)) H := hP
      have hD : va_D A (mdW y a (u2 (u2 v 0 0 0) 0 0 1)) := hD
      have ev : mMar v t x mo = ((u2 (u2 v 0 0 0) 0 0 1), 0) := by unfold mMar; exact (if_pos (Or.inr c_17))
      exact W.iret (v := 0) hx hb hr (fun t ht hW => ⟨⟨(), by rw [ev], trivial, by rw [ht, ev]; exact hP, by rw [ev]; exact hD⟩, hS.F ht⟩) hS.2.2 dX3_margin_38
    · obtain ⟨i, hi, rfl⟩ := inN (M := 2) c_9 (by decide)
      obtain ⟨j, hj, rfl⟩ := inL c_17 (by omega)
      refine lv_aload_n hx hb dX3_margin_20 rfl (lv_at hl 0 rfl) ?_
      refine mdG (v := (u2 v 0 0 0)) (val := .ref (a 18)) hx hb hts hin3 hown hK hP 18 (by decide) (hts (.fieldLink RX3 51 "FundBookModel" "margins" "[I") (by decide +kernel)) rfl dX3_margin_21 ?_
      refine lv_iconst (v := 3) hx hb dX3_margin_24 (by decide) ?_
      refine lv_iload_n hx hb dX3_margin_25 rfl (lv_at hl 2 rfl) ?_
      refine lv_imul hx hb dX3_margin_26 ?_
      refine lv_iload_n hx hb dX3_margin_27 rfl (lv_at hl 1 rfl) ?_
      refine lv_iadd hx hb dX3_margin_28 ?_
      refine lv_topE (z := nI (3 * j + i)) (ix3) ?_
      refine ldI (f := v 18) hx hb hK hP 13 rfl (3 * j + i) rfl (by omega) (by decide) dX3_margin_29 ?_
      refine lv_goto (tgt := 38) hx hb dX3_margin_30 (by decide) ?_
      have ev : mMar v t (nI i) (nI j) = ((u2 v 0 0 0), v 18 (3 * j + i)) := by unfold mMar; rw [cnI (show i < 2 ^ 31 by omega), cnI (show j < 2 ^ 31 by omega)]; exact if_neg (fun q => q.elim c_9 c_17)
      exact W.iret (v := v 18 (3 * j + i)) hx hb hr (fun t ht hW => ⟨⟨(), by rw [ev], trivial, by rw [ht, ev]; exact hP, by rw [ev]; exact hD⟩, hS.F ht⟩) hS.2.2 dX3_margin_38
set_option maxHeartbeats 4000000 in
set_option maxRecDepth 100000 in
theorem c_X3_byProduct (l : Launch) (G : va_G) (y : Nat → ClassId) (a : Nat → Nat) (v : MS) (sz : Nat) (x mo : Int32) (t : Nat) (ht : v 0 1 = nI t) (ht47 : t ≤ 47) : Met l yX3_byProduct wsX3_byProduct ({ frames := 2, cells := 0, slots := 0, locals := 43 }) (mP G y [.ref (a 0), .int x, .int mo] (mdW y a v) sz) (mQ G (fun _ : Unit => some (.int (mPro v t x mo).2)) (fun _ => True) (fun _ => mdW y a (mPro v t x mo).1) (va_A (mdW y a v) sz)) 0 0 (va_A (mdW y a v) sz) := by
  refine Met.ofW (cc := cX3_byProduct) (maxL := 3) (ret := (some .int)) (by decide) rfl ?_
  intro p e s m args below meth c s₁ B hml hv
  obtain ⟨rfl, hsz, hP, hK, hD0⟩ := hv
  have hx := B.exec
  have hb := B.bytes
  have hr := B.returns
  have hts := atoms_spec (ws := wsX3_byProduct) B.pre
  have hown : s.vm.findClass RX3 = some m.cls := findClass_of_methodNamed B.named
  have hlocks := B.notSynchronized
  subst hsz
  have hD := hD0.self (sz := s.heap.size)
  generalize hAe : va_A (mdW y a v) s.heap.size = A at hD ⊢
  have hA : ∀ q : Nat, s.heap.size ≤ q → A q := fun q h => by rw [← hAe]; exact Or.inr h
  have hS : va_S A s.heap s.heap [] := va_S.rf
  have hP : va_P G vwCl (mdW y a v) s.heap := hP
  have hl := lv_entry ([.ref (a 0), .int x, .int mo]) (n := 3) (Nat.le_of_ble_eq_true rfl)
  rw [lg_entry_eq]
  generalize (lg_sl ([.ref (a 0), .int x, .int mo]) ++ List.replicate (3 - (lg_sl ([.ref (a 0), .int x, .int mo])).length) Slot.unset).toArray = ls at hl ⊢
  have hin3 : ∀ w ∈ wsX30, w ∈ wsX3_byProduct := by decide +kernel
  have hl : lv_has ls 3 [(0, .ref (a 0)), (1, .int x), (2, .int mo)] := hl
  refine lv_aload_n hx hb dX3_byProduct_0 rfl (lv_at hl 0 rfl) ?_
  refine lv_iconst (v := 0) hx hb dX3_byProduct_1 (by decide) ?_
  refine mdS (v := v) (x := 0) hx hb hts hin3 hown hK hP hD hS 0 (by decide) (hts (.fieldLink RX3 63 "FundBookModel" "thrown" "I") (by decide +kernel)) dX3_byProduct_2 (fun H locs hP hD hS => ?_)
  refine lv_iload_n hx hb dX3_byProduct_5 rfl (lv_at hl 1 rfl) ?_
  refine lv_iconst (v := 0) hx hb dX3_byProduct_6 (by decide) ?_
  refine lv_iconst (v := 2) hx hb dX3_byProduct_7 (by decide) ?_
  refine caR (r := .int (mIn x 0 2)) (va_runS (As := [.int x, .int 0, .int 2]) (rest := []) ⟨hx, hb, hml, hown, hts⟩ (c_X3_in l x 0 2) (va_cwS 3 hts gX3_byProduct_X3_in rfl rfl rfl (by decide +kernel) ⟨Nat.le_of_ble_eq_true rfl, Nat.le_of_ble_eq_true rfl⟩) ⟨nP_bl, fun _ _ _ => ⟨rfl, trivial⟩⟩ rfl rfl hl.1 rfl (lv_room (Nat.le_of_ble_eq_true rfl)) dX3_byProduct_8 ⟨Nat.le_of_ble_eq_true rfl, Nat.le_of_ble_eq_true rfl⟩) ?_
  refine lv_if_eq (tgt := 35) hx hb dX3_byProduct_11 (by decide) (fun c_11 => ?_) (fun c_11 => ?_)
  · refine lv_aload_n hx hb dX3_byProduct_35 rfl (lv_at hl 0 rfl) ?_
    refine lv_iconst (v := 1) hx hb dX3_byProduct_36 (by decide) ?_
    refine caM (va_runV (As := [.int 1]) (rest := []) ⟨hx, hb, hml, hown, hts⟩ (c_X3_fails l G y a (u2 v 0 0 0) H.size 1) (cwV 1 hts gX3_byProduct_X3_fails rfl rfl rfl (by decide +kernel) ⟨Nat.le_of_ble_eq_true rfl, Nat.le_of_ble_eq_true rfl⟩) ⟨mP_bl, va_recv hK.1 hP (ci := 3) (q0 := 0) rfl rfl, fun U hU hW => ⟨rfl, by rw [hU], by rw [hU]; exact hP, Kb.moved hW hK, hD.weaken (fun _ _ _ _ => trivial)⟩⟩ rfl rfl hl.1 rfl (lv_room (Nat.le_of_ble_eq_true rfl)) dX3_byProduct_37 ⟨Nat.le_of_ble_eq_true rfl, Nat.le_of_ble_eq_true rfl⟩) hS (freeW hD hS hA) (freeW hD hS hA) (fun _ H locs _ hP hD _ _ hS => ?_)
    refine W.eq (g2 := F0 m 40 ls [.int 0]) rfl ?_
    have hP : va_P G vwCl (mdW y a (u2 (u2 v 0 0 0) 0 0 1)) H := hP
    have hD : va_D A (mdW y a (u2 (u2 v 0 0 0) 0 0 1)) := hD
    have ev : mPro v t x mo = ((u2 (u2 v 0 0 0) 0 0 1), 0) := by unfold mPro; exact (if_pos (Or.inl c_11))
    exact W.iret (v := 0) hx hb hr (fun t ht hW => ⟨⟨(), by rw [ev], trivial, by rw [ht, ev]; exact hP, by rw [ev]; exact hD⟩, hS.F ht⟩) hS.2.2 dX3_byProduct_40
  · refine lv_aload_n hx hb dX3_byProduct_14 rfl (lv_at hl 0 rfl) ?_
    refine lv_iload_n hx hb dX3_byProduct_15 rfl (lv_at hl 2 rfl) ?_
    refine caR (r := .int (mIn mo 0 (v 0 1 - 1))) (va_runV (As := [.int mo]) (rest := []) ⟨hx, hb, hml, hown, hts⟩ (c_X3_isEnded l G y a (u2 v 0 0 0) mo) (cwV 1 hts gX3_byProduct_X3_isEnded rfl rfl rfl (by decide +kernel) ⟨Nat.le_of_ble_eq_true rfl, Nat.le_of_ble_eq_true rfl⟩) ⟨rP_bl, va_recv hK.1 hP (ci := 3) (q0 := 0) rfl rfl, fun U hU hW => ⟨rfl, by rw [hU]; exact hP, Kb.moved hW hK⟩⟩ rfl rfl hl.1 rfl (lv_room (Nat.le_of_ble_eq_true rfl)) dX3_byProduct_16 ⟨Nat.le_of_ble_eq_true rfl, Nat.le_of_ble_eq_true rfl⟩) ?_
    refine lv_topE (z := mIn mo 0 (nI t - 1)) (by rw [ht]) ?_
    refine lv_if_eq (tgt := 35) hx hb dX3_byProduct_19 (by decide) (fun c_19 => ?_) (fun c_19 => ?_)
    · refine lv_aload_n hx hb dX3_byProduct_35 rfl (lv_at hl 0 rfl) ?_
      refine lv_iconst (v := 1) hx hb dX3_byProduct_36 (by decide) ?_
      refine caM (va_runV (As := [.int 1]) (rest := []) ⟨hx, hb, hml, hown, hts⟩ (c_X3_fails l G y a (u2 v 0 0 0) H.size 1) (cwV 1 hts gX3_byProduct_X3_fails rfl rfl rfl (by decide +kernel) ⟨Nat.le_of_ble_eq_true rfl, Nat.le_of_ble_eq_true rfl⟩) ⟨mP_bl, va_recv hK.1 hP (ci := 3) (q0 := 0) rfl rfl, fun U hU hW => ⟨rfl, by rw [hU], by rw [hU]; exact hP, Kb.moved hW hK, hD.weaken (fun _ _ _ _ => trivial)⟩⟩ rfl rfl hl.1 rfl (lv_room (Nat.le_of_ble_eq_true rfl)) dX3_byProduct_37 ⟨Nat.le_of_ble_eq_true rfl, Nat.le_of_ble_eq_true rfl⟩) hS (freeW hD hS hA) (freeW hD hS hA) (fun _ H locs _ hP hD _ _ hS => ?_)
      refine W.eq (g2 := F0 m 40 ls [.int 0]) rfl ?_
      have hP : va_P G vwCl (mdW y a (u2 (u2 v 0 0 0) 0 0 1)) H := hP
      have hD : va_D A (mdW y a (u2 (u2 v 0 0 0) 0 0 1)) := hD
      have ev : mPro v t x mo = ((u2 (u2 v 0 0 0) 0 0 1), 0) := by unfold mPro; exact (if_pos (Or.inr c_19))
      exact W.iret (v := 0) hx hb hr (fun t ht hW => ⟨⟨(), by rw [ev], trivial, by rw [ht, ev]; exact hP, by rw [ev]; exact hD⟩, hS.F ht⟩) hS.2.2 dX3_byProduct_40
    · obtain ⟨i, hi, rfl⟩ := inN (M := 2) c_11 (by decide)
      obtain ⟨j, hj, rfl⟩ := inL c_19 (by omega)
      refine lv_aload_n hx hb dX3_byProduct_22 rfl (lv_at hl 0 rfl) ?_
      refine mdG (v := (u2 v 0 0 0)) (val := .ref (a 19)) hx hb hts hin3 hown hK hP 19 (by decide) (hts (.fieldLink RX3 54 "FundBookModel" "products" "[I") (by decide +kernel)) rfl dX3_byProduct_23 ?_
      refine lv_iconst (v := 3) hx hb dX3_byProduct_26 (by decide) ?_
      refine lv_iload_n hx hb dX3_byProduct_27 rfl (lv_at hl 2 rfl) ?_
      refine lv_imul hx hb dX3_byProduct_28 ?_
      refine lv_iload_n hx hb dX3_byProduct_29 rfl (lv_at hl 1 rfl) ?_
      refine lv_iadd hx hb dX3_byProduct_30 ?_
      refine lv_topE (z := nI (3 * j + i)) (ix3) ?_
      refine ldI (f := v 19) hx hb hK hP 14 rfl (3 * j + i) rfl (by omega) (by decide) dX3_byProduct_31 ?_
      refine lv_goto (tgt := 40) hx hb dX3_byProduct_32 (by decide) ?_
      have ev : mPro v t (nI i) (nI j) = ((u2 v 0 0 0), v 19 (3 * j + i)) := by unfold mPro; rw [cnI (show i < 2 ^ 31 by omega), cnI (show j < 2 ^ 31 by omega)]; exact if_neg (fun q => q.elim c_11 c_19)
      exact W.iret (v := v 19 (3 * j + i)) hx hb hr (fun t ht hW => ⟨⟨(), by rw [ev], trivial, by rw [ht, ev]; exact hP, by rw [ev]; exact hD⟩, hS.F ht⟩) hS.2.2 dX3_byProduct_40
set_option maxHeartbeats 4000000 in
set_option maxRecDepth 100000 in
theorem c_X3_treasury (l : Launch) (G : va_G) (y : Nat → ClassId) (a : Nat → Nat) (v : MS) (sz : Nat) (mo : Int32) (t : Nat) (ht : v 0 1 = nI t) (ht47 : t ≤ 47) : Met l yX3_treasury wsX3_treasury ({ frames := 2, cells := 0, slots := 0, locals := 43 }) (mP G y [.ref (a 0), .int mo] (mdW y a v) sz) (mQ G (fun _ : Unit => some (.int (mTre v t mo).2)) (fun _ => True) (fun _ => mdW y a (mTre v t mo).1) (va_A (mdW y a v) sz)) 0 0 (va_A (mdW y a v) sz) := by
  refine Met.ofW (cc := cX3_treasury) (maxL := 2) (ret := (some .int)) (by decide) rfl ?_
  intro p e s m args below meth c s₁ B hml hv
  obtain ⟨rfl, hsz, hP, hK, hD0⟩ := hv
  have hx := B.exec
  have hb := B.bytes
  have hr := B.returns
  have hts := atoms_spec (ws := wsX3_treasury) B.pre
  have hown : s.vm.findClass RX3 = some m.cls := findClass_of_methodNamed B.named
  have hlocks := B.notSynchronized
  subst hsz
  have hD := hD0.self (sz := s.heap.size)
  generalize hAe : va_A (mdW y a v) s.heap.size = A at hD ⊢
  have hA : ∀ q : Nat, s.heap.size ≤ q → A q := fun q h => by rw [← hAe]; exact Or.inr h
  have hS : va_S A s.heap s.heap [] := va_S.rf
  have hP : va_P G vwCl (mdW y a v) s.heap := hP
  have hl := lv_entry ([.ref (a 0), .int mo]) (n := 2) (Nat.le_of_ble_eq_true rfl)
  rw [lg_entry_eq]
  generalize (lg_sl ([.ref (a 0), .int mo]) ++ List.replicate (2 - (lg_sl ([.ref (a 0), .int mo])).length) Slot.unset).toArray = ls at hl ⊢
  have hin3 : ∀ w ∈ wsX30, w ∈ wsX3_treasury := by decide +kernel
  have hl : lv_has ls 2 [(0, .ref (a 0)), (1, .int mo)] := hl
  refine lv_aload_n hx hb dX3_treasury_0 rfl (lv_at hl 0 rfl) ?_
  refine lv_iconst (v := 0) hx hb dX3_treasury_1 (by decide) ?_
  refine mdS (v := v) (x := 0) hx hb hts hin3 hown hK hP hD hS 0 (by decide) (hts (.fieldLink RX3 63 "FundBookModel" "thrown" "I") (by decide +kernel)) dX3_treasury_2 (fun H locs hP hD hS => ?_)
  refine lv_aload_n hx hb dX3_treasury_5 rfl (lv_at hl 0 rfl) ?_
  refine lv_iload_n hx hb dX3_treasury_6 rfl (lv_at hl 1 rfl) ?_
  refine caR (r := .int (mIn mo 0 (v 0 1 - 1))) (va_runV (As := [.int mo]) (rest := []) ⟨hx, hb, hml, hown, hts⟩ (c_X3_isEnded l G y a (u2 v 0 0 0) mo) (cwV 1 hts gX3_treasury_X3_isEnded rfl rfl rfl (by decide +kernel) ⟨Nat.le_of_ble_eq_true rfl, Nat.le_of_ble_eq_true rfl⟩) ⟨rP_bl, va_recv hK.1 hP (ci := 3) (q0 := 0) rfl rfl, fun U hU hW => ⟨rfl, by rw [hU]; exact hP, Kb.moved hW hK⟩⟩ rfl rfl hl.1 rfl (lv_room (Nat.le_of_ble_eq_true rfl)) dX3_treasury_7 ⟨Nat.le_of_ble_eq_true rfl, Nat.le_of_ble_eq_true rfl⟩) ?_
  refine lv_topE (z := mIn mo 0 (nI t - 1)) (by rw [ht]) ?_
  refine lv_if_eq (tgt := 22) hx hb dX3_treasury_10 (by decide) (fun c_10 => ?_) (fun c_10 => ?_)
  · refine lv_aload_n hx hb dX3_treasury_22 rfl (lv_at hl 0 rfl) ?_
    refine lv_iconst (v := 1) hx hb dX3_treasury_23 (by decide) ?_
    refine caM (va_runV (As := [.int 1]) (rest := []) ⟨hx, hb, hml, hown, hts⟩ (c_X3_fails l G y a (u2 v 0 0 0) H.size 1) (cwV 1 hts gX3_treasury_X3_fails rfl rfl rfl (by decide +kernel) ⟨Nat.le_of_ble_eq_true rfl, Nat.le_of_ble_eq_true rfl⟩) ⟨mP_bl, va_recv hK.1 hP (ci := 3) (q0 := 0) rfl rfl, fun U hU hW => ⟨rfl, by rw [hU], by rw [hU]; exact hP, Kb.moved hW hK, hD.weaken (fun _ _ _ _ => trivial)⟩⟩ rfl rfl hl.1 rfl (lv_room (Nat.le_of_ble_eq_true rfl)) dX3_treasury_24 ⟨Nat.le_of_ble_eq_true rfl, Nat.le_of_ble_eq_true rfl⟩) hS (freeW hD hS hA) (freeW hD hS hA) (fun _ H locs _ hP hD _ _ hS => ?_)
    refine W.eq (g2 := F0 m 27 ls [.int 0]) rfl ?_
    have hP : va_P G vwCl (mdW y a (u2 (u2 v 0 0 0) 0 0 1)) H := hP
    have hD : va_D A (mdW y a (u2 (u2 v 0 0 0) 0 0 1)) := hD
    have ev : mTre v t mo = ((u2 (u2 v 0 0 0) 0 0 1), 0) := by unfold mTre; exact (if_pos c_10)
    exact W.iret (v := 0) hx hb hr (fun t ht hW => ⟨⟨(), by rw [ev], trivial, by rw [ht, ev]; exact hP, by rw [ev]; exact hD⟩, hS.F ht⟩) hS.2.2 dX3_treasury_27
  · obtain ⟨j, hj, rfl⟩ := inL c_10 (by omega)
    refine lv_aload_n hx hb dX3_treasury_13 rfl (lv_at hl 0 rfl) ?_
    refine mdG (v := (u2 v 0 0 0)) (val := .ref (a 20)) hx hb hts hin3 hown hK hP 20 (by decide) (hts (.fieldLink RX3 57 "FundBookModel" "treasuries" "[I") (by decide +kernel)) rfl dX3_treasury_14 ?_
    refine lv_iload_n hx hb dX3_treasury_17 rfl (lv_at hl 1 rfl) ?_
    refine ldI (f := v 20) hx hb hK hP 15 rfl j rfl (by omega) (by decide) dX3_treasury_18 ?_
    refine lv_goto (tgt := 27) hx hb dX3_treasury_19 (by decide) ?_
    have ev : mTre v t (nI j) = ((u2 v 0 0 0), v 20 j) := by unfold mTre; rw [cnI (by omega)]; exact (if_neg c_10)
    exact W.iret (v := v 20 j) hx hb hr (fun t ht hW => ⟨⟨(), by rw [ev], trivial, by rw [ht, ev]; exact hP, by rw [ev]; exact hD⟩, hS.F ht⟩) hS.2.2 dX3_treasury_27
set_option maxHeartbeats 4000000 in
set_option maxRecDepth 100000 in
theorem c_X3_interest (l : Launch) (G : va_G) (y : Nat → ClassId) (a : Nat → Nat) (v : MS) (sz : Nat) (mo : Int32) (t : Nat) (ht : v 0 1 = nI t) (ht47 : t ≤ 47) : Met l yX3_interest wsX3_interest ({ frames := 2, cells := 0, slots := 0, locals := 43 }) (mP G y [.ref (a 0), .int mo] (mdW y a v) sz) (mQ G (fun _ : Unit => some (.int (mInt v t mo).2)) (fun _ => True) (fun _ => mdW y a (mInt v t mo).1) (va_A (mdW y a v) sz)) 0 0 (va_A (mdW y a v) sz) := by
  refine Met.ofW (cc := cX3_interest) (maxL := 2) (ret := (some .int)) (by decide) rfl ?_
  intro p e s m args below meth c s₁ B hml hv
  obtain ⟨rfl, hsz, hP, hK, hD0⟩ := hv
  have hx := B.exec
  have hb := B.bytes
  have hr := B.returns
  have hts := atoms_spec (ws := wsX3_interest) B.pre
  have hown : s.vm.findClass RX3 = some m.cls := findClass_of_methodNamed B.named
  have hlocks := B.notSynchronized
  subst hsz
  have hD := hD0.self (sz := s.heap.size)
  generalize hAe : va_A (mdW y a v) s.heap.size = A at hD ⊢
  have hA : ∀ q : Nat, s.heap.size ≤ q → A q := fun q h => by rw [← hAe]; exact Or.inr h
  have hS : va_S A s.heap s.heap [] := va_S.rf
  have hP : va_P G vwCl (mdW y a v) s.heap := hP
  have hl := lv_entry ([.ref (a 0), .int mo]) (n := 2) (Nat.le_of_ble_eq_true rfl)
  rw [lg_entry_eq]
  generalize (lg_sl ([.ref (a 0), .int mo]) ++ List.replicate (2 - (lg_sl ([.ref (a 0), .int mo])).length) Slot.unset).toArray = ls at hl ⊢
  have hin3 : ∀ w ∈ wsX30, w ∈ wsX3_interest := by decide +kernel
  have hl : lv_has ls 2 [(0, .ref (a 0)), (1, .int mo)] := hl
  refine lv_aload_n hx hb dX3_interest_0 rfl (lv_at hl 0 rfl) ?_
  refine lv_iconst (v := 0) hx hb dX3_interest_1 (by decide) ?_
  refine mdS (v := v) (x := 0) hx hb hts hin3 hown hK hP hD hS 0 (by decide) (hts (.fieldLink RX3 63 "FundBookModel" "thrown" "I") (by decide +kernel)) dX3_interest_2 (fun H locs hP hD hS => ?_)
  refine lv_aload_n hx hb dX3_interest_5 rfl (lv_at hl 0 rfl) ?_
  refine lv_iload_n hx hb dX3_interest_6 rfl (lv_at hl 1 rfl) ?_
  refine caR (r := .int (mIn mo 0 (v 0 1 - 1))) (va_runV (As := [.int mo]) (rest := []) ⟨hx, hb, hml, hown, hts⟩ (c_X3_isEnded l G y a (u2 v 0 0 0) mo) (cwV 1 hts gX3_interest_X3_isEnded rfl rfl rfl (by decide +kernel) ⟨Nat.le_of_ble_eq_true rfl, Nat.le_of_ble_eq_true rfl⟩) ⟨rP_bl, va_recv hK.1 hP (ci := 3) (q0 := 0) rfl rfl, fun U hU hW => ⟨rfl, by rw [hU]; exact hP, Kb.moved hW hK⟩⟩ rfl rfl hl.1 rfl (lv_room (Nat.le_of_ble_eq_true rfl)) dX3_interest_7 ⟨Nat.le_of_ble_eq_true rfl, Nat.le_of_ble_eq_true rfl⟩) ?_
  refine lv_topE (z := mIn mo 0 (nI t - 1)) (by rw [ht]) ?_
  refine lv_if_eq (tgt := 22) hx hb dX3_interest_10 (by decide) (fun c_10 => ?_) (fun c_10 => ?_)
  · refine lv_aload_n hx hb dX3_interest_22 rfl (lv_at hl 0 rfl) ?_
    refine lv_iconst (v := 1) hx hb dX3_interest_23 (by decide) ?_
    refine caM (va_runV (As := [.int 1]) (rest := []) ⟨hx, hb, hml, hown, hts⟩ (c_X3_fails l G y a (u2 v 0 0 0) H.size 1) (cwV 1 hts gX3_interest_X3_fails rfl rfl rfl (by decide +kernel) ⟨Nat.le_of_ble_eq_true rfl, Nat.le_of_ble_eq_true rfl⟩) ⟨mP_bl, va_recv hK.1 hP (ci := 3) (q0 := 0) rfl rfl, fun U hU hW => ⟨rfl, by rw [hU], by rw [hU]; exact hP, Kb.moved hW hK, hD.weaken (fun _ _ _ _ => trivial)⟩⟩ rfl rfl hl.1 rfl (lv_room (Nat.le_of_ble_eq_true rfl)) dX3_interest_24 ⟨Nat.le_of_ble_eq_true rfl, Nat.le_of_ble_eq_true rfl⟩) hS (freeW hD hS hA) (freeW hD hS hA) (fun _ H locs _ hP hD _ _ hS => ?_)
    refine W.eq (g2 := F0 m 27 ls [.int 0]) rfl ?_
    have hP : va_P G vwCl (mdW y a (u2 (u2 v 0 0 0) 0 0 1)) H := hP
    have hD : va_D A (mdW y a (u2 (u2 v 0 0 0) 0 0 1)) := hD
    have ev : mInt v t mo = ((u2 (u2 v 0 0 0) 0 0 1), 0) := by unfold mInt; exact (if_pos c_10)
    exact W.iret (v := 0) hx hb hr (fun t ht hW => ⟨⟨(), by rw [ev], trivial, by rw [ht, ev]; exact hP, by rw [ev]; exact hD⟩, hS.F ht⟩) hS.2.2 dX3_interest_27
  · obtain ⟨j, hj, rfl⟩ := inL c_10 (by omega)
    refine lv_aload_n hx hb dX3_interest_13 rfl (lv_at hl 0 rfl) ?_
    refine mdG (v := (u2 v 0 0 0)) (val := .ref (a 21)) hx hb hts hin3 hown hK hP 21 (by decide) (hts (.fieldLink RX3 60 "FundBookModel" "interests" "[I") (by decide +kernel)) rfl dX3_interest_14 ?_
    refine lv_iload_n hx hb dX3_interest_17 rfl (lv_at hl 1 rfl) ?_
    refine ldI (f := v 21) hx hb hK hP 16 rfl j rfl (by omega) (by decide) dX3_interest_18 ?_
    refine lv_goto (tgt := 27) hx hb dX3_interest_19 (by decide) ?_
    have ev : mInt v t (nI j) = ((u2 v 0 0 0), v 21 j) := by unfold mInt; rw [cnI (by omega)]; exact (if_neg c_10)
    exact W.iret (v := v 21 j) hx hb hr (fun t ht hW => ⟨⟨(), by rw [ev], trivial, by rw [ht, ev]; exact hP, by rw [ev]; exact hD⟩, hS.F ht⟩) hS.2.2 dX3_interest_27
