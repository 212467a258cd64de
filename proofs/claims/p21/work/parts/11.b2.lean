/-! ===== the book's writes and calls that may throw (printed by a program of mine) ===== -/
theorem bPA_o {L : LNS} {n : Nat} {pd : Nat → Nat} {i : Nat} : ∀ k, k ≤ i → bPA L n pd k i = L i
  | 0, _ => rfl
  | k + 1, h => by
    have h1 : i ≠ k := by omega
    rw [bPA]
    split
    · rw [bPP]
      split
      · rw [u3, if_neg h1]; exact bPA_o k (by omega)
      · exact bPA_o k (by omega)
    · exact bPA_o k (by omega)
theorem bPd_c {b w : MS} {x r : Int32} (h3 : w 13 3 = b 13 3) (h0 : w 0 = b 0) : bPd w x r = bPd b x r := by
  simp only [bPd, bCo, h3, h0]
theorem bFind_N {n : Nat} {la : Nat → Nat → Nat} {x : Int32} (h : mIn x 0 (nI n - 1) = 0) (hn : n ≤ 24) : bFind n la x = none := by
  unfold bFind
  by_cases h0 : x < 0
  · exact if_pos h0
  · rw [if_neg h0]
    by_cases h1 : x < 24
    · rw [if_pos h1]
      refine if_neg (fun hc => ?_)
      have e := cl_nI h0
      rw [e] at h
      unfold mIn at h
      rw [if_neg (nI_pos (by omega))] at h
      cases n with
      | zero => exact absurd hc (by omega)
      | succ m =>
        rw [nI_pred, if_neg (nI_nlt (show cn x ≤ m by omega) (by omega))] at h
        exact absurd h (by decide)
    · exact if_neg h1
theorem bFind_S {n : Nat} {la : Nat → Nat → Nat} {i : Nat} (h : i < n) (hn : n ≤ 24) : bFind n la (nI i) = some (la i 0) := by
  unfold bFind
  rw [if_neg (nI_pos (by omega)), if_pos (show nI i < 24 from nI_lt (show i < 24 by omega) (by decide)), cnI (by omega)]
  exact if_pos h
theorem inS {x : Int32} (h1 : ¬ x < 1) (h6 : ¬ 6 < x) : ∃ i, i < 6 ∧ x = nI (i + 1) := by
  have h0 := lt_1_0 h1
  have e := cl_nI h0
  have h6 := cl_le (M := 6) h0 h6 (by decide)
  rcases Nat.eq_zero_or_pos (cn x) with q | q
  · rw [q] at e
    rw [e] at h1
    exact absurd (by decide) h1
  · exact ⟨cn x - 1, by omega, by rw [show cn x - 1 + 1 = cn x by omega]; exact e⟩
theorem inR {x : Int32} {M : Nat} (h0 : ¬ x < 0) (hM : ¬ nI M ≤ x) (h31 : M < 2 ^ 31) : ∃ i, i < M ∧ x = nI i := ⟨cn x, cl_lt h0 hM h31, cl_nI h0⟩
theorem bEn_T {t : Nat} {x : Int32} (h : ¬ bEn t x = 0) (ht : t ≤ 47) : ∃ j, j < t ∧ x = nI j := by
  unfold bEn at h
  by_cases h0 : x < 0
  · rw [if_pos h0] at h; exact absurd rfl h
  · rw [if_neg h0] at h
    by_cases h1 : nI t ≤ x
    · rw [if_pos h1] at h; exact absurd rfl h
    · exact inR h0 h1 (by omega)
def xClose (t : Nat) : Nat := if t = 47 then 3 else 0
theorem mIn_F3 {w : Int32} (h : mIn w 0 3 = 0) : w.toInt < 0 ∨ 3 < w.toInt := by
  unfold mIn at h
  by_cases h0 : w < 0
  · exact Or.inl (by rw [Int32.lt_iff_toInt_lt] at h0; exact h0)
  · rw [if_neg h0] at h
    by_cases h1 : 3 < w
    · exact Or.inr (by rw [Int32.lt_iff_toInt_lt] at h1; exact h1)
    · rw [if_neg h1] at h
      exact absurd h (by decide)
set_option maxHeartbeats 4000000 in
set_option maxRecDepth 100000 in
theorem c_X2_payParts (l : Launch) (G : va_G) (y : Nat → ClassId) (a : Nat → Nat) (b : MS) (n : Nat) (la : Nat → Nat → Nat) (L : LNS) (sz : Nat) (pd : Nat → Nat) (hpd : ∀ k, k < n → L k 0 7 = nI (pd k) ∧ pd k ≤ 6) : Met l yX2_payParts wsX2_payParts ({ frames := 1, cells := 0, slots := 0, locals := 20 }) (mP G y [.ref (a 13)] (bkW y a b n la L) sz) (mQ G (fun _ : Unit => none) (fun _ => True) (fun _ => bkW y a b n la (bPA L n pd 24)) (va_A (bkW y a b n la L) sz)) 0 0 (va_A (bkW y a b n la L) sz) := by
  refine Met.ofW (cc := cX2_payParts) (maxL := 5) (ret := none) (by decide) rfl ?_
  intro p e s m args below meth c s₁ B hml hv
  obtain ⟨rfl, hsz, hP, hK, hD0⟩ := hv
  have hx := B.exec
  have hb := B.bytes
  have hr := B.returns
  have hts := atoms_spec (ws := wsX2_payParts) B.pre
  have hown : s.vm.findClass RX2 = some m.cls := findClass_of_methodNamed B.named
  have hlocks := B.notSynchronized
  subst hsz
  have hD := hD0.self (sz := s.heap.size)
  generalize hAe : va_A (bkW y a b n la L) s.heap.size = A at hD ⊢
  have hA : ∀ q : Nat, s.heap.size ≤ q → A q := fun q h => by rw [← hAe]; exact Or.inr h
  have hS : va_S A s.heap s.heap [] := va_S.rf
  have hP : va_P G vwCl (bkW y a b n la L) s.heap := hP
  have hl := lv_entry ([.ref (a 13)]) (n := 5) (Nat.le_of_ble_eq_true rfl)
  rw [lg_entry_eq]
  generalize (lg_sl ([.ref (a 13)]) ++ List.replicate (5 - (lg_sl ([.ref (a 13)])).length) Slot.unset).toArray = ls at hl ⊢
  have hin2 : ∀ w ∈ wsX20, w ∈ wsX2_payParts := by decide +kernel
  have hl : lv_has ls 5 [(0, .ref (a 13))] := hl
  refine lv_aload_n hx hb dX2_payParts_0 rfl (lv_at hl 0 rfl) ?_
  refine bkG (b := b) (val := .ref (a 5)) hx hb hts hin2 hown hK hP 5 (by decide) (hts (.fieldLink RX2 28 "FundBook" "loanRows" "[LFundBook$Loan;") (by decide +kernel)) rfl dX2_payParts_1 ?_
  refine lv_astore_n (lv' := [(1, .ref (a 5)), (0, .ref (a 13))]) hx hb dX2_payParts_4 rfl hl (by decide) rfl (fun ls hl => ?_)
  refine lv_aload_n hx hb dX2_payParts_5 rfl (lv_at hl 0 rfl) ?_
  refine va_alen (v := 24) hx hb hK.1 hP 2 2 bg_5 rfl rfl dX2_payParts_6 ?_
  refine lv_istore_n (lv' := [(2, .int 24), (1, .ref (a 5)), (0, .ref (a 13))]) hx hb dX2_payParts_7 rfl hl (by decide) rfl (fun ls hl => ?_)
  refine lv_iconst (v := 0) hx hb dX2_payParts_8 (by decide) ?_
  refine lv_istore_n (lv' := [(3, .int 0), (2, .int 24), (1, .ref (a 5)), (0, .ref (a 13))]) hx hb dX2_payParts_9 rfl hl (by decide) rfl (fun ls hl => ?_)
  refine loopM (LV := fun k => [(0, .ref (a 13)), (1, .ref (a 5)), (2, .int 24), (3, .int (nI k))]) (WS := fun k => bkW y a b n la (bPA L n pd k)) 24 hP hD hS (lv_sub hl [3, 2, 1, 0] rfl) (fun k H locs ls hk_k hP hD hS hl ih_k => ?_) (fun H locs ls hP hD hS hl => ?_)
  · have hl : lv_has ls 5 [(0, .ref (a 13)), (1, .ref (a 5)), (2, .int 24), (3, .int (nI k))] := hl
    have hP : va_P G vwCl (bkW y a b n la (bPA L n pd k)) H := hP
    have hD : va_D A (bkW y a b n la (bPA L n pd k)) := hD
    refine lv_iload_n hx hb dX2_payParts_10 rfl (lv_at hl 3 rfl) ?_
    refine lv_iload_n hx hb dX2_payParts_11 rfl (lv_at hl 2 rfl) ?_
    refine lv_icmp_ge (tgt := 36) hx hb dX2_payParts_12 (by decide) (fun c_12 => absurd c_12 (nI_ge hk_k (by decide))) (fun c_12 => ?_)
    refine lv_aload_n hx hb dX2_payParts_15 rfl (lv_at hl 1 rfl) ?_
    refine lv_iload_n hx hb dX2_payParts_16 rfl (lv_at hl 3 rfl) ?_
    refine ldQ (f := lrF n la) hx hb hK hP 2 bg_5 k rfl (by omega) (by decide) dX2_payParts_17 ?_
    rcases Nat.lt_or_ge k n with hkn | hkn
    · refine lv_optS (if_pos hkn) ?_
      refine lv_astore (lv' := [(4, .ref (la k 0)), (0, .ref (a 13)), (1, .ref (a 5)), (2, .int 24), (3, .int (nI k))]) hx hb dX2_payParts_18 hl (by decide) rfl (fun ls hl => ?_)
      refine lv_aload hx hb dX2_payParts_20 (lv_at hl 0 rfl) ?_
      refine lv_ifnull hx hb dX2_payParts_22 ?_
      refine lv_aload hx hb dX2_payParts_25 (lv_at hl 0 rfl) ?_
      refine caM (va_runVN (As := []) (rest := []) ⟨hx, hb, hml, hown, hts⟩ (c_X0_payPart l G y a b n la (bPA L n pd k) H.size k hkn (pd k) (by rw [bPA_o k (Nat.le_refl k)]; exact (hpd k hkn).1) (hpd k hkn).2) ⟨va_cnB (host := "FundBook") 0 hts gX2_payParts_X0_payPart_n214 rfl rfl rfl (hK.nw (by decide +kernel)) (hts (.initialized RX0) (by decide +kernel)) (by decide +kernel) ⟨Nat.le_of_ble_eq_true rfl, Nat.le_of_ble_eq_true rfl⟩, hts (.instanceMethod yX0_payPart) (by decide +kernel), hts (.selects RX0 yX0_payPart yX0_payPart) (by decide +kernel)⟩ ⟨mP_bl, va_recv hK.1 hP (ci := 0) (q0 := 17 + 3 * k) rfl ((bkW_get hkn 0 (by decide)).trans rfl), fun U hU hW => ⟨rfl, by rw [hU], by rw [hU]; exact hP, Kb.moved hW hK, hD.weaken (fun _ _ _ _ => trivial)⟩⟩ rfl rfl hl.1 rfl (lv_room (Nat.le_of_ble_eq_true rfl)) dX2_payParts_27 ⟨Nat.le_of_ble_eq_true rfl, Nat.le_of_ble_eq_true rfl⟩) hS (freeW hD hS hA) (freeW hD hS hA) (fun _ H locs _ hP hD _ _ hS => ?_)
      refine W.eq (g2 := F0 m 30 ls []) rfl ?_
      have hP : va_P G vwCl (bkW y a b n la (bPP (bPA L n pd k) k (pd k))) H := hP
      have hD : va_D A (bkW y a b n la (bPP (bPA L n pd k) k (pd k))) := hD
      refine lv_iinc (v := (nI (k + 1))) (lv' := [(3, .int (nI (k + 1))), (4, .ref (la k 0)), (0, .ref (a 13)), (1, .ref (a 5)), (2, .int 24)]) hx hb dX2_payParts_30 hl (k := 4) rfl iinc1 (by decide) rfl (fun ls hl => ?_)
      refine lv_goto (tgt := 10) hx hb dX2_payParts_33 (by decide) ?_
      have hP : va_P G vwCl (bkW y a b n la (bPA L n pd (k + 1))) H := by rw [bPA, if_pos hkn]; exact hP
      have hD : va_D A (bkW y a b n la (bPA L n pd (k + 1))) := by rw [bPA, if_pos hkn]; exact hD
      exact ih_k _ _ ls hP hD hS (lv_sub hl [2, 3, 4, 0] rfl)
    · refine lv_optN (if_neg (Nat.not_lt.mpr hkn)) ?_
      refine lv_astoreN (lv' := [(4, .null), (0, .ref (a 13)), (1, .ref (a 5)), (2, .int 24), (3, .int (nI k))]) hx hb dX2_payParts_18 hl (by decide) rfl (fun ls hl => ?_)
      refine lv_aloadN hx hb dX2_payParts_20 (lv_at hl 0 rfl) ?_
      refine lv_ifnullN (tgt := 30) hx hb dX2_payParts_22 (by decide) ?_
      refine lv_iinc (v := (nI (k + 1))) (lv' := [(3, .int (nI (k + 1))), (4, .null), (0, .ref (a 13)), (1, .ref (a 5)), (2, .int 24)]) hx hb dX2_payParts_30 hl (k := 4) rfl iinc1 (by decide) rfl (fun ls hl => ?_)
      refine lv_goto (tgt := 10) hx hb dX2_payParts_33 (by decide) ?_
      have hP : va_P G vwCl (bkW y a b n la (bPA L n pd (k + 1))) H := by rw [bPA, if_neg (Nat.not_lt.mpr hkn)]; exact hP
      have hD : va_D A (bkW y a b n la (bPA L n pd (k + 1))) := by rw [bPA, if_neg (Nat.not_lt.mpr hkn)]; exact hD
      exact ih_k _ _ ls hP hD hS (lv_sub hl [2, 3, 4, 0] rfl)
  · have hl : lv_has ls 5 [(0, .ref (a 13)), (1, .ref (a 5)), (2, .int 24), (3, .int (nI 24))] := hl
    have hP : va_P G vwCl (bkW y a b n la (bPA L n pd 24)) H := hP
    have hD : va_D A (bkW y a b n la (bPA L n pd 24)) := hD
    refine lv_iload_n hx hb dX2_payParts_10 rfl (lv_at hl 3 rfl) ?_
    refine lv_iload_n hx hb dX2_payParts_11 rfl (lv_at hl 2 rfl) ?_
    refine lv_icmp_ge (tgt := 36) hx hb dX2_payParts_12 (by decide) (fun c_12 => ?_) (fun c_12 => absurd (nI_le (Nat.le_refl 24) (by decide)) c_12)
    exact W.vret hx hb hr (fun t ht hW => ⟨⟨(), rfl, trivial, by rw [ht]; exact hP, by exact hD⟩, hS.F ht⟩) hS.2.2 dX2_payParts_36
set_option maxHeartbeats 4000000 in
set_option maxRecDepth 100000 in
theorem c_X2_reckonLoans (l : Launch) (G : va_G) (y : Nat → ClassId) (a : Nat → Nat) (b : MS) (n : Nat) (la : Nat → Nat → Nat) (L : LNS) (sz : Nat) (pd : Nat → Nat) (hpd : ∀ k, k < n → L k 0 7 = nI (pd k) ∧ pd k ≤ 6) (t : Nat) (ht : b 13 4 = nI t) (ht46 : t < 47) : Met l yX2_reckonLoans wsX2_reckonLoans ({ frames := 4, cells := 0, slots := 0, locals := 90 }) (mP G y [.ref (a 13)] (bkW y a b n la L) sz) (mQ G (fun _ : Unit => none) (fun _ => True) (fun _ => bkW y a (bR3 b t n L pd) n la L) (va_A (bkW y a b n la L) sz)) 0 0 (va_A (bkW y a b n la L) sz) := by
  refine Met.ofW (cc := cX2_reckonLoans) (maxL := 7) (ret := none) (by decide) rfl ?_
  intro p e s m args below meth c s₁ B hml hv
  obtain ⟨rfl, hsz, hP, hK, hD0⟩ := hv
  have hx := B.exec
  have hb := B.bytes
  have hr := B.returns
  have hts := atoms_spec (ws := wsX2_reckonLoans) B.pre
  have hown : s.vm.findClass RX2 = some m.cls := findClass_of_methodNamed B.named
  have hlocks := B.notSynchronized
  subst hsz
  have hD := hD0.self (sz := s.heap.size)
  generalize hAe : va_A (bkW y a b n la L) s.heap.size = A at hD ⊢
  have hA : ∀ q : Nat, s.heap.size ≤ q → A q := fun q h => by rw [← hAe]; exact Or.inr h
  have hS : va_S A s.heap s.heap [] := va_S.rf
  have hP : va_P G vwCl (bkW y a b n la L) s.heap := hP
  have hl := lv_entry ([.ref (a 13)]) (n := 7) (Nat.le_of_ble_eq_true rfl)
  rw [lg_entry_eq]
  generalize (lg_sl ([.ref (a 13)]) ++ List.replicate (7 - (lg_sl ([.ref (a 13)])).length) Slot.unset).toArray = ls at hl ⊢
  have hin2 : ∀ w ∈ wsX20, w ∈ wsX2_reckonLoans := by decide +kernel
  have hl : lv_has ls 7 [(0, .ref (a 13))] := hl
  refine lv_iconst (v := 0) hx hb dX2_reckonLoans_0 (by decide) ?_
  refine lv_istore_n (lv' := [(1, .int 0), (0, .ref (a 13))]) hx hb dX2_reckonLoans_1 rfl hl (by decide) rfl (fun ls hl => ?_)
  refine loopM (LV := fun k => [(0, .ref (a 13)), (1, .int (nI k))]) (WS := fun k => bkW y a (bR1 b t n L pd k) n la L) 3 hP hD hS (lv_sub hl [1, 0] rfl) (fun k H locs ls hk_k hP hD hS hl ih_k => ?_) (fun H locs ls hP hD hS hl => ?_)
  · have hl : lv_has ls 7 [(0, .ref (a 13)), (1, .int (nI k))] := hl
    have hP : va_P G vwCl (bkW y a (bR1 b t n L pd k) n la L) H := hP
    have hD : va_D A (bkW y a (bR1 b t n L pd k) n la L) := hD
    refine lv_iload_n hx hb dX2_reckonLoans_2 rfl (lv_at hl 1 rfl) ?_
    refine lv_iconst (v := 3) hx hb dX2_reckonLoans_3 (by decide) ?_
    refine lv_icmp_ge (tgt := 29) hx hb dX2_reckonLoans_4 (by decide) (fun c_4 => absurd c_4 (nI_ge hk_k (by decide))) (fun c_4 => ?_)
    refine lv_aload_n hx hb dX2_reckonLoans_7 rfl (lv_at hl 0 rfl) ?_
    refine bkG (b := (bR1 b t n L pd k)) (val := .ref (a 9)) hx hb hts hin2 hown hK hP 9 (by decide) (hts (.fieldLink RX2 47 "FundBook" "branchMargins" "[[I") (by decide +kernel)) rfl dX2_reckonLoans_8 ?_
    refine lv_iload_n hx hb dX2_reckonLoans_11 rfl (lv_at hl 1 rfl) ?_
    refine ldA (f := fun i => if i < 3 then some (a (16 + i)) else none) hx hb hK hP 7 bg_9 k rfl (by omega) (by decide) dX2_reckonLoans_12 ?_
    refine lv_optS (x := a (16 + k)) (if_pos (by omega)) ?_
    refine lv_aload_n hx hb dX2_reckonLoans_13 rfl (lv_at hl 0 rfl) ?_
    refine bkG (b := (bR1 b t n L pd k)) (val := .int ((bR1 b t n L pd k) 13 4)) hx hb hts hin2 hown hK hP 4 (by decide) (hts (.fieldLink RX2 23 "FundBook" "now" "I") (by decide +kernel)) rfl dX2_reckonLoans_14 ?_
    refine lv_topE (z := nI t) (by rw [bR1_o _ (by omega) (by omega)]; exact ht) ?_
    refine lv_aload_n hx hb dX2_reckonLoans_17 rfl (lv_at hl 0 rfl) ?_
    refine lv_iload_n hx hb dX2_reckonLoans_18 rfl (lv_at hl 1 rfl) ?_
    refine caR (r := .int (bLM n L pd 0 (nI k))) (va_runV (As := [.int (nI k)]) (rest := [.int (nI t), .ref (a (16 + k))]) ⟨hx, hb, hml, hown, hts⟩ (c_X2_loanMarginsOfBranch l G y a (bR1 b t n L pd k) n la L pd hpd (nI k)) (cwV 1 hts gX2_reckonLoans_X2_loanMarginsOfBranch rfl rfl rfl (by decide +kernel) ⟨Nat.le_of_ble_eq_true rfl, Nat.le_of_ble_eq_true rfl⟩) ⟨rP_bl, va_recv hK.1 hP (ci := 2) (q0 := 0) rfl rfl, fun U hU hW => ⟨rfl, by rw [hU]; exact hP, Kb.moved hW hK⟩⟩ rfl rfl hl.1 rfl (lv_room (Nat.le_of_ble_eq_true rfl)) dX2_reckonLoans_19 ⟨Nat.le_of_ble_eq_true rfl, Nat.le_of_ble_eq_true rfl⟩) ?_
    refine stI (f := (bR1 b t n L pd k) (16 + k)) (ws1 := bkW y a (u2 (bR1 b t n L pd k) (16 + k) t (bLM n L pd 0 (nI k))) n la L) hx hb hK hP hD hS (8 + k) (bg_M (by omega)) t rfl (by omega) (by decide) (bs_M (by omega)) dX2_reckonLoans_22 (fun H locs hP hD hS => ?_)
    refine lv_iinc (v := (nI (k + 1))) (lv' := [(1, .int (nI (k + 1))), (0, .ref (a 13))]) hx hb dX2_reckonLoans_23 hl (k := 1) rfl iinc1 (by decide) rfl (fun ls hl => ?_)
    refine lv_goto (tgt := 2) hx hb dX2_reckonLoans_26 (by decide) ?_
    have hP : va_P G vwCl (bkW y a (bR1 b t n L pd (k + 1)) n la L) H := by rw [bR1]; exact hP
    have hD : va_D A (bkW y a (bR1 b t n L pd (k + 1)) n la L) := by rw [bR1]; exact hD
    exact ih_k _ _ ls hP hD hS (lv_sub hl [1, 0] rfl)
  · have hl : lv_has ls 7 [(0, .ref (a 13)), (1, .int (nI 3))] := hl
    have hP : va_P G vwCl (bkW y a (bR1 b t n L pd 3) n la L) H := hP
    have hD : va_D A (bkW y a (bR1 b t n L pd 3) n la L) := hD
    refine lv_iload_n hx hb dX2_reckonLoans_2 rfl (lv_at hl 1 rfl) ?_
    refine lv_iconst (v := 3) hx hb dX2_reckonLoans_3 (by decide) ?_
    refine lv_icmp_ge (tgt := 29) hx hb dX2_reckonLoans_4 (by decide) (fun c_4 => ?_) (fun c_4 => absurd (nI_le (Nat.le_refl 3) (by decide)) c_4)
    refine lv_iconst (v := 0) hx hb dX2_reckonLoans_29 (by decide) ?_
    refine lv_istore_n (lv' := [(1, .int 0), (0, .ref (a 13))]) hx hb dX2_reckonLoans_30 rfl hl (by decide) rfl (fun ls hl => ?_)
    refine loopM (LV := fun k => [(0, .ref (a 13)), (1, .int (nI k))]) (WS := fun k => bkW y a (bR2 (bR1 b t n L pd 3) t n L pd k) n la L) 3 hP hD hS (lv_sub hl [1, 0] rfl) (fun k H locs ls hk_k hP hD hS hl ih_k => ?_) (fun H locs ls hP hD hS hl => ?_)
    · have hl : lv_has ls 7 [(0, .ref (a 13)), (1, .int (nI k))] := hl
      have hP : va_P G vwCl (bkW y a (bR2 (bR1 b t n L pd 3) t n L pd k) n la L) H := hP
      have hD : va_D A (bkW y a (bR2 (bR1 b t n L pd 3) t n L pd k) n la L) := hD
      refine lv_iload_n hx hb dX2_reckonLoans_31 rfl (lv_at hl 1 rfl) ?_
      refine lv_iconst (v := 3) hx hb dX2_reckonLoans_32 (by decide) ?_
      refine lv_icmp_ge (tgt := 58) hx hb dX2_reckonLoans_33 (by decide) (fun c_33 => absurd c_33 (nI_ge hk_k (by decide))) (fun c_33 => ?_)
      refine lv_aload_n hx hb dX2_reckonLoans_36 rfl (lv_at hl 0 rfl) ?_
      refine bkG (b := (bR2 (bR1 b t n L pd 3) t n L pd k)) (val := .ref (a 10)) hx hb hts hin2 hown hK hP 10 (by decide) (hts (.fieldLink RX2 50 "FundBook" "productMargins" "[[I") (by decide +kernel)) rfl dX2_reckonLoans_37 ?_
      refine lv_iload_n hx hb dX2_reckonLoans_40 rfl (lv_at hl 1 rfl) ?_
      refine ldA (f := fun i => if i < 3 then some (a (19 + i)) else none) hx hb hK hP 11 bg_10 k rfl (by omega) (by decide) dX2_reckonLoans_41 ?_
      refine lv_optS (x := a (19 + k)) (if_pos (by omega)) ?_
      refine lv_aload_n hx hb dX2_reckonLoans_42 rfl (lv_at hl 0 rfl) ?_
      refine bkG (b := (bR2 (bR1 b t n L pd 3) t n L pd k)) (val := .int ((bR2 (bR1 b t n L pd 3) t n L pd k) 13 4)) hx hb hts hin2 hown hK hP 4 (by decide) (hts (.fieldLink RX2 23 "FundBook" "now" "I") (by decide +kernel)) rfl dX2_reckonLoans_43 ?_
      refine lv_topE (z := nI t) (by rw [bR2_o _ (by omega) (by omega), bR1_o _ (by omega) (by omega)]; exact ht) ?_
      refine lv_aload_n hx hb dX2_reckonLoans_46 rfl (lv_at hl 0 rfl) ?_
      refine lv_iload_n hx hb dX2_reckonLoans_47 rfl (lv_at hl 1 rfl) ?_
      refine caR (r := .int (bLM n L pd 1 (nI k))) (va_runV (As := [.int (nI k)]) (rest := [.int (nI t), .ref (a (19 + k))]) ⟨hx, hb, hml, hown, hts⟩ (c_X2_loanMarginsOfProduct l G y a (bR2 (bR1 b t n L pd 3) t n L pd k) n la L pd hpd (nI k)) (cwV 1 hts gX2_reckonLoans_X2_loanMarginsOfProduct rfl rfl rfl (by decide +kernel) ⟨Nat.le_of_ble_eq_true rfl, Nat.le_of_ble_eq_true rfl⟩) ⟨rP_bl, va_recv hK.1 hP (ci := 2) (q0 := 0) rfl rfl, fun U hU hW => ⟨rfl, by rw [hU]; exact hP, Kb.moved hW hK⟩⟩ rfl rfl hl.1 rfl (lv_room (Nat.le_of_ble_eq_true rfl)) dX2_reckonLoans_48 ⟨Nat.le_of_ble_eq_true rfl, Nat.le_of_ble_eq_true rfl⟩) ?_
      refine stI (f := (bR2 (bR1 b t n L pd 3) t n L pd k) (19 + k)) (ws1 := bkW y a (u2 (bR2 (bR1 b t n L pd 3) t n L pd k) (19 + k) t (bLM n L pd 1 (nI k))) n la L) hx hb hK hP hD hS (12 + k) (bg_P (by omega)) t rfl (by omega) (by decide) (bs_P (by omega)) dX2_reckonLoans_51 (fun H locs hP hD hS => ?_)
      refine lv_iinc (v := (nI (k + 1))) (lv' := [(1, .int (nI (k + 1))), (0, .ref (a 13))]) hx hb dX2_reckonLoans_52 hl (k := 1) rfl iinc1 (by decide) rfl (fun ls hl => ?_)
      refine lv_goto (tgt := 31) hx hb dX2_reckonLoans_55 (by decide) ?_
      have hP : va_P G vwCl (bkW y a (bR2 (bR1 b t n L pd 3) t n L pd (k + 1)) n la L) H := by rw [bR2]; exact hP
      have hD : va_D A (bkW y a (bR2 (bR1 b t n L pd 3) t n L pd (k + 1)) n la L) := by rw [bR2]; exact hD
      exact ih_k _ _ ls hP hD hS (lv_sub hl [1, 0] rfl)
    · have hl : lv_has ls 7 [(0, .ref (a 13)), (1, .int (nI 3))] := hl
      have hP : va_P G vwCl (bkW y a (bR2 (bR1 b t n L pd 3) t n L pd 3) n la L) H := hP
      have hD : va_D A (bkW y a (bR2 (bR1 b t n L pd 3) t n L pd 3) n la L) := hD
      refine lv_iload_n hx hb dX2_reckonLoans_31 rfl (lv_at hl 1 rfl) ?_
      refine lv_iconst (v := 3) hx hb dX2_reckonLoans_32 (by decide) ?_
      refine lv_icmp_ge (tgt := 58) hx hb dX2_reckonLoans_33 (by decide) (fun c_33 => ?_) (fun c_33 => absurd (nI_le (Nat.le_refl 3) (by decide)) c_33)
      refine lv_iconst (v := 0) hx hb dX2_reckonLoans_58 (by decide) ?_
      refine lv_istore_n (lv' := [(1, .int 0), (0, .ref (a 13))]) hx hb dX2_reckonLoans_59 rfl hl (by decide) rfl (fun ls hl => ?_)
      refine lv_iconst (v := 0) hx hb dX2_reckonLoans_60 (by decide) ?_
      refine lv_istore_n (lv' := [(2, .int 0), (1, .int 0), (0, .ref (a 13))]) hx hb dX2_reckonLoans_61 rfl hl (by decide) rfl (fun ls hl => ?_)
      refine lv_aload_n hx hb dX2_reckonLoans_62 rfl (lv_at hl 2 rfl) ?_
      refine bkG (b := (bR2 (bR1 b t n L pd 3) t n L pd 3)) (val := .ref (a 5)) hx hb hts hin2 hown hK hP 5 (by decide) (hts (.fieldLink RX2 28 "FundBook" "loanRows" "[LFundBook$Loan;") (by decide +kernel)) rfl dX2_reckonLoans_63 ?_
      refine lv_astore_n (lv' := [(3, .ref (a 5)), (2, .int 0), (1, .int 0), (0, .ref (a 13))]) hx hb dX2_reckonLoans_66 rfl hl (by decide) rfl (fun ls hl => ?_)
      refine lv_aload_n hx hb dX2_reckonLoans_67 rfl (lv_at hl 0 rfl) ?_
      refine va_alen (v := 24) hx hb hK.1 hP 2 2 bg_5 rfl rfl dX2_reckonLoans_68 ?_
      refine lv_istore (lv' := [(4, .int 24), (3, .ref (a 5)), (2, .int 0), (1, .int 0), (0, .ref (a 13))]) hx hb dX2_reckonLoans_69 hl (by decide) rfl (fun ls hl => ?_)
      refine lv_iconst (v := 0) hx hb dX2_reckonLoans_71 (by decide) ?_
      refine lv_istore (lv' := [(5, .int 0), (4, .int 24), (3, .ref (a 5)), (2, .int 0), (1, .int 0), (0, .ref (a 13))]) hx hb dX2_reckonLoans_72 hl (by decide) rfl (fun ls hl => ?_)
      refine loopW (LV := fun k => [(0, .ref (a 13)), (3, .ref (a 5)), (4, .int 24), (1, .int (S32 (bSm n (bTr L pd)) k)), (2, .int (S32 (bSm n (bCu L pd)) k)), (5, .int (nI k))]) 24 (lv_sub hl [5, 2, 1, 4, 3, 0] rfl) (fun k ls hk_k hl ih_k => ?_) (fun ls hl => ?_)
      · have hl : lv_has ls 7 [(0, .ref (a 13)), (3, .ref (a 5)), (4, .int 24), (1, .int (S32 (bSm n (bTr L pd)) k)), (2, .int (S32 (bSm n (bCu L pd)) k)), (5, .int (nI k))] := hl
        refine lv_iload hx hb dX2_reckonLoans_74 (lv_at hl 5 rfl) ?_
        refine lv_iload hx hb dX2_reckonLoans_76 (lv_at hl 2 rfl) ?_
        refine lv_icmp_ge (tgt := 120) hx hb dX2_reckonLoans_78 (by decide) (fun c_78 => absurd c_78 (nI_ge hk_k (by decide))) (fun c_78 => ?_)
        refine lv_aload_n hx hb dX2_reckonLoans_81 rfl (lv_at hl 1 rfl) ?_
        refine lv_iload hx hb dX2_reckonLoans_82 (lv_at hl 5 rfl) ?_
        refine ldQ (f := lrF n la) hx hb hK hP 2 bg_5 k rfl (by omega) (by decide) dX2_reckonLoans_84 ?_
        rcases Nat.lt_or_ge k n with hkn | hkn
        · refine lv_optS (if_pos hkn) ?_
          refine lv_astore (lv' := [(6, .ref (la k 0)), (0, .ref (a 13)), (3, .ref (a 5)), (4, .int 24), (1, .int (S32 (bSm n (bTr L pd)) k)), (2, .int (S32 (bSm n (bCu L pd)) k)), (5, .int (nI k))]) hx hb dX2_reckonLoans_85 hl (by decide) rfl (fun ls hl => ?_)
          refine lv_aload hx hb dX2_reckonLoans_87 (lv_at hl 0 rfl) ?_
          refine lv_ifnull hx hb dX2_reckonLoans_89 ?_
          refine lv_iload_n hx hb dX2_reckonLoans_92 rfl (lv_at hl 4 rfl) ?_
          refine lv_aload hx hb dX2_reckonLoans_93 (lv_at hl 0 rfl) ?_
          refine caR (r := .int (lFund (L k) (pd k))) (va_runVN (As := []) (rest := [.int (S32 (bSm n (bTr L pd)) k)]) ⟨hx, hb, hml, hown, hts⟩ (c_X0_funding l G y la L k (pd k) (hpd k hkn).1 (hpd k hkn).2) ⟨va_cnB (host := "FundBook") 0 hts gX2_reckonLoans_X0_funding_n152 rfl rfl rfl (hK.nw (by decide +kernel)) (hts (.initialized RX0) (by decide +kernel)) (by decide +kernel) ⟨Nat.le_of_ble_eq_true rfl, Nat.le_of_ble_eq_true rfl⟩, hts (.instanceMethod yX0_funding) (by decide +kernel), hts (.selects RX0 yX0_funding yX0_funding) (by decide +kernel)⟩ ⟨rP_bl, va_recv hK.1 (bk_ln hP hkn) (ci := 0) (q0 := 0) rfl rfl, fun U hU hW => ⟨rfl, by rw [hU]; exact (bk_ln hP hkn), Kb.moved hW hK⟩⟩ rfl rfl hl.1 rfl (lv_room (Nat.le_of_ble_eq_true rfl)) dX2_reckonLoans_95 ⟨Nat.le_of_ble_eq_true rfl, Nat.le_of_ble_eq_true rfl⟩) ?_
          refine lv_aload hx hb dX2_reckonLoans_98 (lv_at hl 0 rfl) ?_
          refine caR (r := .int (lOpt (L k) (pd k))) (va_runVN (As := []) (rest := [.int (lFund (L k) (pd k)), .int (S32 (bSm n (bTr L pd)) k)]) ⟨hx, hb, hml, hown, hts⟩ (c_X0_optionCharge l G y la L k (pd k) (hpd k hkn).1 (hpd k hkn).2) ⟨va_cnB (host := "FundBook") 0 hts gX2_reckonLoans_X0_optionCharge_n155 rfl rfl rfl (hK.nw (by decide +kernel)) (hts (.initialized RX0) (by decide +kernel)) (by decide +kernel) ⟨Nat.le_of_ble_eq_true rfl, Nat.le_of_ble_eq_true rfl⟩, hts (.instanceMethod yX0_optionCharge) (by decide +kernel), hts (.selects RX0 yX0_optionCharge yX0_optionCharge) (by decide +kernel)⟩ ⟨rP_bl, va_recv hK.1 (bk_ln hP hkn) (ci := 0) (q0 := 0) rfl rfl, fun U hU hW => ⟨rfl, by rw [hU]; exact (bk_ln hP hkn), Kb.moved hW hK⟩⟩ rfl rfl hl.1 rfl (lv_room (Nat.le_of_ble_eq_true rfl)) dX2_reckonLoans_100 ⟨Nat.le_of_ble_eq_true rfl, Nat.le_of_ble_eq_true rfl⟩) ?_
          refine lv_iadd hx hb dX2_reckonLoans_103 ?_
          refine lv_iadd hx hb dX2_reckonLoans_104 ?_
          refine lv_topE (z := S32 (bSm n (bTr L pd)) (k + 1)) (bSm_s (F := bTr L pd) hkn) ?_
          refine lv_istore_n (lv' := [(1, .int (S32 (bSm n (bTr L pd)) (k + 1))), (6, .ref (la k 0)), (0, .ref (a 13)), (3, .ref (a 5)), (4, .int 24), (2, .int (S32 (bSm n (bCu L pd)) k)), (5, .int (nI k))]) hx hb dX2_reckonLoans_105 rfl hl (by decide) rfl (fun ls hl => ?_)
          refine lv_iload_n hx hb dX2_reckonLoans_106 rfl (lv_at hl 5 rfl) ?_
          refine lv_aload hx hb dX2_reckonLoans_107 (lv_at hl 1 rfl) ?_
          refine caR (r := .int (lCust (L k) (pd k))) (va_runVN (As := []) (rest := [.int (S32 (bSm n (bCu L pd)) k)]) ⟨hx, hb, hml, hown, hts⟩ (c_X0_customerInterest l G y la L k (pd k) (hpd k hkn).1 (hpd k hkn).2) ⟨va_cnB (host := "FundBook") 0 hts gX2_reckonLoans_X0_customerInterest_n149 rfl rfl rfl (hK.nw (by decide +kernel)) (hts (.initialized RX0) (by decide +kernel)) (by decide +kernel) ⟨Nat.le_of_ble_eq_true rfl, Nat.le_of_ble_eq_true rfl⟩, hts (.instanceMethod yX0_customerInterest) (by decide +kernel), hts (.selects RX0 yX0_customerInterest yX0_customerInterest) (by decide +kernel)⟩ ⟨rP_bl, va_recv hK.1 (bk_ln hP hkn) (ci := 0) (q0 := 0) rfl rfl, fun U hU hW => ⟨rfl, by rw [hU]; exact (bk_ln hP hkn), Kb.moved hW hK⟩⟩ rfl rfl hl.1 rfl (lv_room (Nat.le_of_ble_eq_true rfl)) dX2_reckonLoans_109 ⟨Nat.le_of_ble_eq_true rfl, Nat.le_of_ble_eq_true rfl⟩) ?_
          refine lv_iadd hx hb dX2_reckonLoans_112 ?_
          refine lv_topE (z := S32 (bSm n (bCu L pd)) (k + 1)) (bSm_s (F := bCu L pd) hkn) ?_
          refine lv_istore_n (lv' := [(2, .int (S32 (bSm n (bCu L pd)) (k + 1))), (1, .int (S32 (bSm n (bTr L pd)) (k + 1))), (6, .ref (la k 0)), (0, .ref (a 13)), (3, .ref (a 5)), (4, .int 24), (5, .int (nI k))]) hx hb dX2_reckonLoans_113 rfl hl (by decide) rfl (fun ls hl => ?_)
          refine lv_iinc (v := (nI (k + 1))) (lv' := [(5, .int (nI (k + 1))), (2, .int (S32 (bSm n (bCu L pd)) (k + 1))), (1, .int (S32 (bSm n (bTr L pd)) (k + 1))), (6, .ref (la k 0)), (0, .ref (a 13)), (3, .ref (a 5)), (4, .int 24)]) hx hb dX2_reckonLoans_114 hl (k := 6) rfl iinc1 (by decide) rfl (fun ls hl => ?_)
          refine lv_goto (tgt := 74) hx hb dX2_reckonLoans_117 (by decide) ?_
          exact ih_k ls (lv_sub hl [4, 5, 6, 2, 1, 0] rfl)
        · refine lv_optN (if_neg (Nat.not_lt.mpr hkn)) ?_
          refine lv_astoreN (lv' := [(6, .null), (0, .ref (a 13)), (3, .ref (a 5)), (4, .int 24), (1, .int (S32 (bSm n (bTr L pd)) k)), (2, .int (S32 (bSm n (bCu L pd)) k)), (5, .int (nI k))]) hx hb dX2_reckonLoans_85 hl (by decide) rfl (fun ls hl => ?_)
          refine lv_aloadN hx hb dX2_reckonLoans_87 (lv_at hl 0 rfl) ?_
          refine lv_ifnullN (tgt := 114) hx hb dX2_reckonLoans_89 (by decide) ?_
          refine lv_iinc (v := (nI (k + 1))) (lv' := [(5, .int (nI (k + 1))), (6, .null), (0, .ref (a 13)), (3, .ref (a 5)), (4, .int 24), (1, .int (S32 (bSm n (bTr L pd)) k)), (2, .int (S32 (bSm n (bCu L pd)) k))]) hx hb dX2_reckonLoans_114 hl (k := 6) rfl iinc1 (by decide) rfl (fun ls hl => ?_)
          refine lv_goto (tgt := 74) hx hb dX2_reckonLoans_117 (by decide) ?_
          exact ih_k ls (by show lv_has ls 7 _; rw [bSm_k hkn, bSm_k hkn]; exact lv_sub hl [2, 3, 4, 5, 6, 0] rfl)
      · have hl : lv_has ls 7 [(0, .ref (a 13)), (3, .ref (a 5)), (4, .int 24), (1, .int (S32 (bSm n (bTr L pd)) 24)), (2, .int (S32 (bSm n (bCu L pd)) 24)), (5, .int (nI 24))] := hl
        refine lv_iload hx hb dX2_reckonLoans_74 (lv_at hl 5 rfl) ?_
        refine lv_iload hx hb dX2_reckonLoans_76 (lv_at hl 2 rfl) ?_
        refine lv_icmp_ge (tgt := 120) hx hb dX2_reckonLoans_78 (by decide) (fun c_78 => ?_) (fun c_78 => absurd (nI_le (Nat.le_refl 24) (by decide)) c_78)
        refine lv_aload_n hx hb dX2_reckonLoans_120 rfl (lv_at hl 0 rfl) ?_
        refine bkG (b := (bR2 (bR1 b t n L pd 3) t n L pd 3)) (val := .ref (a 11)) hx hb hts hin2 hown hK hP 11 (by decide) (hts (.fieldLink RX2 53 "FundBook" "treasuryMargins" "[I") (by decide +kernel)) rfl dX2_reckonLoans_121 ?_
        refine lv_aload_n hx hb dX2_reckonLoans_124 rfl (lv_at hl 0 rfl) ?_
        refine bkG (b := (bR2 (bR1 b t n L pd 3) t n L pd 3)) (val := .int ((bR2 (bR1 b t n L pd 3) t n L pd 3) 13 4)) hx hb hts hin2 hown hK hP 4 (by decide) (hts (.fieldLink RX2 23 "FundBook" "now" "I") (by decide +kernel)) rfl dX2_reckonLoans_125 ?_
        refine lv_topE (z := nI t) (by rw [bR2_o _ (by omega) (by omega), bR1_o _ (by omega) (by omega)]; exact ht) ?_
        refine lv_iload_n hx hb dX2_reckonLoans_128 rfl (lv_at hl 3 rfl) ?_
        refine stI (f := (bR2 (bR1 b t n L pd 3) t n L pd 3) 11) (ws1 := bkW y a (u2 (bR2 (bR1 b t n L pd 3) t n L pd 3) 11 t (S32 (bSm n (bTr L pd)) 24)) n la L) hx hb hK hP hD hS 15 bg_11 t rfl (by omega) (by decide) bs_11 dX2_reckonLoans_129 (fun H locs hP hD hS => ?_)
        refine lv_aload_n hx hb dX2_reckonLoans_130 rfl (lv_at hl 0 rfl) ?_
        refine bkG (b := (u2 (bR2 (bR1 b t n L pd 3) t n L pd 3) 11 t (S32 (bSm n (bTr L pd)) 24))) (val := .ref (a 12)) hx hb hts hin2 hown hK hP 12 (by decide) (hts (.fieldLink RX2 56 "FundBook" "bankInterests" "[I") (by decide +kernel)) rfl dX2_reckonLoans_131 ?_
        refine lv_aload_n hx hb dX2_reckonLoans_134 rfl (lv_at hl 0 rfl) ?_
        refine bkG (b := (u2 (bR2 (bR1 b t n L pd 3) t n L pd 3) 11 t (S32 (bSm n (bTr L pd)) 24))) (val := .int ((u2 (bR2 (bR1 b t n L pd 3) t n L pd 3) 11 t (S32 (bSm n (bTr L pd)) 24)) 13 4)) hx hb hts hin2 hown hK hP 4 (by decide) (hts (.fieldLink RX2 23 "FundBook" "now" "I") (by decide +kernel)) rfl dX2_reckonLoans_135 ?_
        refine lv_topE (z := nI t) (by rw [u2_j (by omega), bR2_o _ (by omega) (by omega), bR1_o _ (by omega) (by omega)]; exact ht) ?_
        refine lv_iload_n hx hb dX2_reckonLoans_138 rfl (lv_at hl 4 rfl) ?_
        refine stI (f := (u2 (bR2 (bR1 b t n L pd 3) t n L pd 3) 11 t (S32 (bSm n (bTr L pd)) 24)) 12) (ws1 := bkW y a (u2 (u2 (bR2 (bR1 b t n L pd 3) t n L pd 3) 11 t (S32 (bSm n (bTr L pd)) 24)) 12 t (S32 (bSm n (bCu L pd)) 24)) n la L) hx hb hK hP hD hS 16 bg_12 t rfl (by omega) (by decide) bs_12 dX2_reckonLoans_139 (fun H locs hP hD hS => ?_)
        exact W.vret hx hb hr (fun t ht hW => ⟨⟨(), rfl, trivial, by rw [ht]; exact hP, by exact hD⟩, hS.F ht⟩) hS.2.2 dX2_reckonLoans_140
set_option maxHeartbeats 4000000 in
set_option maxRecDepth 100000 in
theorem c_X2_reckonDeposits (l : Launch) (G : va_G) (y : Nat → ClassId) (a : Nat → Nat) (b : MS) (n : Nat) (la : Nat → Nat → Nat) (L : LNS) (sz : Nat) (t : Nat) (ht : b 13 4 = nI t) (ht46 : t < 47) : Met l yX2_reckonDeposits wsX2_reckonDeposits ({ frames := 2, cells := 0, slots := 0, locals := 46 }) (mP G y [.ref (a 13)] (bkW y a b n la L) sz) (mQ G (fun _ : Unit => none) (fun _ => True) (fun _ => bkW y a (bD1 b t 3) n la L) (va_A (bkW y a b n la L) sz)) 0 0 (va_A (bkW y a b n la L) sz) := by
  refine Met.ofW (cc := cX2_reckonDeposits) (maxL := 5) (ret := none) (by decide) rfl ?_
  intro p e s m args below meth c s₁ B hml hv
  obtain ⟨rfl, hsz, hP, hK, hD0⟩ := hv
  have hx := B.exec
  have hb := B.bytes
  have hr := B.returns
  have hts := atoms_spec (ws := wsX2_reckonDeposits) B.pre
  have hown : s.vm.findClass RX2 = some m.cls := findClass_of_methodNamed B.named
  have hlocks := B.notSynchronized
  subst hsz
  have hD := hD0.self (sz := s.heap.size)
  generalize hAe : va_A (bkW y a b n la L) s.heap.size = A at hD ⊢
  have hA : ∀ q : Nat, s.heap.size ≤ q → A q := fun q h => by rw [← hAe]; exact Or.inr h
  have hS : va_S A s.heap s.heap [] := va_S.rf
  have hP : va_P G vwCl (bkW y a b n la L) s.heap := hP
  have hl := lv_entry ([.ref (a 13)]) (n := 5) (Nat.le_of_ble_eq_true rfl)
  rw [lg_entry_eq]
  generalize (lg_sl ([.ref (a 13)]) ++ List.replicate (5 - (lg_sl ([.ref (a 13)])).length) Slot.unset).toArray = ls at hl ⊢
  have hin2 : ∀ w ∈ wsX20, w ∈ wsX2_reckonDeposits := by decide +kernel
  have hl : lv_has ls 5 [(0, .ref (a 13))] := hl
  refine lv_aload_n hx hb dX2_reckonDeposits_0 rfl (lv_at hl 0 rfl) ?_
  refine bkG (b := b) (val := .ref (a 8)) hx hb hts hin2 hown hK hP 8 (by decide) (hts (.fieldLink RX2 41 "FundBook" "replica" "LFundBook$Replica;") (by decide +kernel)) rfl dX2_reckonDeposits_1 ?_
  refine caR (r := .int (bAvg b)) (va_runVN (As := []) (rest := []) ⟨hx, hb, hml, hown, hts⟩ (c_X1_averageRate l G y a b) ⟨va_cnB (host := "FundBook") 0 hts gX2_reckonDeposits_X1_averageRate_n174 rfl rfl rfl (hK.nw (by decide +kernel)) (hts (.initialized RX1) (by decide +kernel)) (by decide +kernel) ⟨Nat.le_of_ble_eq_true rfl, Nat.le_of_ble_eq_true rfl⟩, hts (.instanceMethod yX1_averageRate) (by decide +kernel), hts (.selects RX1 yX1_averageRate yX1_averageRate) (by decide +kernel)⟩ ⟨rP_bl, va_recv hK.1 (bk_rp hP) (ci := 1) (q0 := 0) rfl rfl, fun U hU hW => ⟨rfl, by rw [hU]; exact (bk_rp hP), Kb.moved hW hK⟩⟩ rfl rfl hl.1 rfl (lv_room (Nat.le_of_ble_eq_true rfl)) dX2_reckonDeposits_4 ⟨Nat.le_of_ble_eq_true rfl, Nat.le_of_ble_eq_true rfl⟩) ?_
  refine lv_istore_n (lv' := [(1, .int (bAvg b)), (0, .ref (a 13))]) hx hb dX2_reckonDeposits_7 rfl hl (by decide) rfl (fun ls hl => ?_)
  refine lv_iconst (v := 0) hx hb dX2_reckonDeposits_8 (by decide) ?_
  refine lv_istore_n (lv' := [(2, .int 0), (1, .int (bAvg b)), (0, .ref (a 13))]) hx hb dX2_reckonDeposits_9 rfl hl (by decide) rfl (fun ls hl => ?_)
  refine loopM (LV := fun k => [(0, .ref (a 13)), (1, .int (bAvg b)), (2, .int (nI k))]) (WS := fun k => bkW y a (bD1 b t k) n la L) 3 hP hD hS (lv_sub hl [2, 1, 0] rfl) (fun k H locs ls hk_k hP hD hS hl ih_k => ?_) (fun H locs ls hP hD hS hl => ?_)
  · have hl : lv_has ls 5 [(0, .ref (a 13)), (1, .int (bAvg b)), (2, .int (nI k))] := hl
    have hP : va_P G vwCl (bkW y a (bD1 b t k) n la L) H := hP
    have hD : va_D A (bkW y a (bD1 b t k) n la L) := hD
    refine lv_iload_n hx hb dX2_reckonDeposits_10 rfl (lv_at hl 2 rfl) ?_
    refine lv_iconst (v := 3) hx hb dX2_reckonDeposits_11 (by decide) ?_
    refine lv_icmp_ge (tgt := 96) hx hb dX2_reckonDeposits_12 (by decide) (fun c_12 => absurd c_12 (nI_ge hk_k (by decide))) (fun c_12 => ?_)
    refine lv_aload_n hx hb dX2_reckonDeposits_15 rfl (lv_at hl 0 rfl) ?_
    refine lv_aload_n hx hb dX2_reckonDeposits_16 rfl (lv_at hl 0 rfl) ?_
    refine bkG (b := (bD1 b t k)) (val := .ref (a 7)) hx hb hts hin2 hown hK hP 7 (by decide) (hts (.fieldLink RX2 35 "FundBook" "balances" "[I") (by decide +kernel)) rfl dX2_reckonDeposits_17 ?_
    refine lv_iload_n hx hb dX2_reckonDeposits_20 rfl (lv_at hl 2 rfl) ?_
    refine ldI (f := (bD1 b t k) 7) hx hb hK hP 3 bg_7 k rfl (by omega) (by decide) dX2_reckonDeposits_21 ?_
    refine lv_topE (z := b 7 k) (by rw [bD1_o _ (by omega) (by omega) (by omega)]) ?_
    refine lv_iload_n hx hb dX2_reckonDeposits_22 rfl (lv_at hl 1 rfl) ?_
    refine caR (r := .int (bPd (bD1 b t k) (b 7 k) (bAvg b))) (va_runV (As := [.int (b 7 k), .int (bAvg b)]) (rest := []) ⟨hx, hb, hml, hown, hts⟩ (c_X2_paidForDeposits l G y a (bD1 b t k) n la L (b 7 k) (bAvg b)) (cwV 2 hts gX2_reckonDeposits_X2_paidForDeposits rfl rfl rfl (by decide +kernel) ⟨Nat.le_of_ble_eq_true rfl, Nat.le_of_ble_eq_true rfl⟩) ⟨rP_bl, va_recv hK.1 hP (ci := 2) (q0 := 0) rfl rfl, fun U hU hW => ⟨rfl, by rw [hU]; exact hP, Kb.moved hW hK⟩⟩ rfl rfl hl.1 rfl (lv_room (Nat.le_of_ble_eq_true rfl)) dX2_reckonDeposits_23 ⟨Nat.le_of_ble_eq_true rfl, Nat.le_of_ble_eq_true rfl⟩) ?_
    refine lv_topE (z := bFT b k) (bPd_c (by rw [bD1_o _ (by omega) (by omega) (by omega)]) (by rw [bD1_o _ (by omega) (by omega) (by omega)])) ?_
    refine lv_istore_n (lv' := [(3, .int (bFT b k)), (0, .ref (a 13)), (1, .int (bAvg b)), (2, .int (nI k))]) hx hb dX2_reckonDeposits_26 rfl hl (by decide) rfl (fun ls hl => ?_)
    refine lv_aload_n hx hb dX2_reckonDeposits_27 rfl (lv_at hl 1 rfl) ?_
    refine bkG (b := (bD1 b t k)) (val := .ref (a 7)) hx hb hts hin2 hown hK hP 7 (by decide) (hts (.fieldLink RX2 35 "FundBook" "balances" "[I") (by decide +kernel)) rfl dX2_reckonDeposits_28 ?_
    refine lv_iload_n hx hb dX2_reckonDeposits_31 rfl (lv_at hl 3 rfl) ?_
    refine ldI (f := (bD1 b t k) 7) hx hb hK hP 3 bg_7 k rfl (by omega) (by decide) dX2_reckonDeposits_32 ?_
    refine lv_topE (z := b 7 k) (by rw [bD1_o _ (by omega) (by omega) (by omega)]) ?_
    refine lv_i2l hx hb dX2_reckonDeposits_33 rfl ?_
    refine lv_aload_n hx hb dX2_reckonDeposits_34 rfl (lv_at hl 1 rfl) ?_
    refine bkG (b := (bD1 b t k)) (val := .int ((bD1 b t k) 13 1)) hx hb hts hin2 hown hK hP 1 (by decide) (hts (.fieldLink RX2 13 "FundBook" "depositRate" "I") (by decide +kernel)) rfl dX2_reckonDeposits_35 ?_
    refine lv_topE (z := b 13 1) (by rw [bD1_o _ (by omega) (by omega) (by omega)]) ?_
    refine lv_i2l hx hb dX2_reckonDeposits_38 rfl ?_
    refine lv_lmul hx hb dX2_reckonDeposits_39 ?_
    refine caR (r := .int (bTC b k)) (va_runS (As := [.long ((b 7 k).toInt64 * (b 13 1).toInt64)]) (rest := []) ⟨hx, hb, hml, hown, hts⟩ (c_X2_forOneMonth l _) (va_cwS 1 hts gX2_reckonDeposits_X2_forOneMonth rfl rfl rfl (by decide +kernel) ⟨Nat.le_of_ble_eq_true rfl, Nat.le_of_ble_eq_true rfl⟩) ⟨nP_bl, fun _ _ _ => ⟨rfl, trivial⟩⟩ rfl rfl hl.1 rfl (lv_room (Nat.le_of_ble_eq_true rfl)) dX2_reckonDeposits_40 ⟨Nat.le_of_ble_eq_true rfl, Nat.le_of_ble_eq_true rfl⟩) ?_
    refine lv_istore (lv' := [(4, .int (bTC b k)), (3, .int (bFT b k)), (0, .ref (a 13)), (1, .int (bAvg b)), (2, .int (nI k))]) hx hb dX2_reckonDeposits_43 hl (by decide) rfl (fun ls hl => ?_)
    refine lv_aload_n hx hb dX2_reckonDeposits_45 rfl (lv_at hl 2 rfl) ?_
    refine bkG (b := (bD1 b t k)) (val := .ref (a 9)) hx hb hts hin2 hown hK hP 9 (by decide) (hts (.fieldLink RX2 47 "FundBook" "branchMargins" "[[I") (by decide +kernel)) rfl dX2_reckonDeposits_46 ?_
    refine lv_iload_n hx hb dX2_reckonDeposits_49 rfl (lv_at hl 4 rfl) ?_
    refine ldA (f := fun i => if i < 3 then some (a (16 + i)) else none) hx hb hK hP 7 bg_9 k rfl (by omega) (by decide) dX2_reckonDeposits_50 ?_
    refine lv_optS (x := a (16 + k)) (if_pos (by omega)) ?_
    refine lv_aload_n hx hb dX2_reckonDeposits_51 rfl (lv_at hl 2 rfl) ?_
    refine bkG (b := (bD1 b t k)) (val := .int ((bD1 b t k) 13 4)) hx hb hts hin2 hown hK hP 4 (by decide) (hts (.fieldLink RX2 23 "FundBook" "now" "I") (by decide +kernel)) rfl dX2_reckonDeposits_52 ?_
    refine lv_topE (z := nI t) (by rw [bD1_o _ (by omega) (by omega) (by omega)]; exact ht) ?_
    refine lv_dup2_11 hx hb dX2_reckonDeposits_55 rfl rfl ?_
    refine ldI (f := ((bD1 b t k) (16 + k))) hx hb hK hP (8 + k) (bg_M (by omega)) t rfl (by omega) (by decide) dX2_reckonDeposits_56 ?_
    refine lv_iload_n hx hb dX2_reckonDeposits_57 rfl (lv_at hl 1 rfl) ?_
    refine lv_iload hx hb dX2_reckonDeposits_58 (lv_at hl 0 rfl) ?_
    refine lv_isub hx hb dX2_reckonDeposits_60 ?_
    refine lv_iadd hx hb dX2_reckonDeposits_61 ?_
    refine stI (f := (bD1 b t k) (16 + k)) (ws1 := bkW y a (u2 (bD1 b t k) (16 + k) t (((bD1 b t k) (16 + k)) t + (bFT b k - bTC b k))) n la L) hx hb hK hP hD hS (8 + k) (bg_M (by omega)) t rfl (by omega) (by decide) (bs_M (by omega)) dX2_reckonDeposits_62 (fun H locs hP hD hS => ?_)
    refine lv_aload_n hx hb dX2_reckonDeposits_63 rfl (lv_at hl 2 rfl) ?_
    refine bkG (b := (u2 (bD1 b t k) (16 + k) t (((bD1 b t k) (16 + k)) t + (bFT b k - bTC b k)))) (val := .ref (a 11)) hx hb hts hin2 hown hK hP 11 (by decide) (hts (.fieldLink RX2 53 "FundBook" "treasuryMargins" "[I") (by decide +kernel)) rfl dX2_reckonDeposits_64 ?_
    refine lv_aload_n hx hb dX2_reckonDeposits_67 rfl (lv_at hl 2 rfl) ?_
    refine bkG (b := (u2 (bD1 b t k) (16 + k) t (((bD1 b t k) (16 + k)) t + (bFT b k - bTC b k)))) (val := .int ((u2 (bD1 b t k) (16 + k) t (((bD1 b t k) (16 + k)) t + (bFT b k - bTC b k))) 13 4)) hx hb hts hin2 hown hK hP 4 (by decide) (hts (.fieldLink RX2 23 "FundBook" "now" "I") (by decide +kernel)) rfl dX2_reckonDeposits_68 ?_
    refine lv_topE (z := nI t) (by rw [u2_j (by omega), bD1_o _ (by omega) (by omega) (by omega)]; exact ht) ?_
    refine lv_dup2_11 hx hb dX2_reckonDeposits_71 rfl rfl ?_
    refine ldI (f := ((u2 (bD1 b t k) (16 + k) t (((bD1 b t k) (16 + k)) t + (bFT b k - bTC b k))) 11)) hx hb hK hP 15 bg_11 t rfl (by omega) (by decide) dX2_reckonDeposits_72 ?_
    refine lv_topE (z := (bD1 b t k) 11 t) (by rw [u2_j (by omega)]) ?_
    refine lv_iload_n hx hb dX2_reckonDeposits_73 rfl (lv_at hl 1 rfl) ?_
    refine lv_isub hx hb dX2_reckonDeposits_74 ?_
    refine stI (f := (u2 (bD1 b t k) (16 + k) t (((bD1 b t k) (16 + k)) t + (bFT b k - bTC b k))) 11) (ws1 := bkW y a (u2 (u2 (bD1 b t k) (16 + k) t (((bD1 b t k) (16 + k)) t + (bFT b k - bTC b k))) 11 t ((bD1 b t k) 11 t - bFT b k)) n la L) hx hb hK hP hD hS 15 bg_11 t rfl (by omega) (by decide) bs_11 dX2_reckonDeposits_75 (fun H locs hP hD hS => ?_)
    refine lv_aload_n hx hb dX2_reckonDeposits_76 rfl (lv_at hl 2 rfl) ?_
    refine bkG (b := (u2 (u2 (bD1 b t k) (16 + k) t (((bD1 b t k) (16 + k)) t + (bFT b k - bTC b k))) 11 t ((bD1 b t k) 11 t - bFT b k))) (val := .ref (a 12)) hx hb hts hin2 hown hK hP 12 (by decide) (hts (.fieldLink RX2 56 "FundBook" "bankInterests" "[I") (by decide +kernel)) rfl dX2_reckonDeposits_77 ?_
    refine lv_aload_n hx hb dX2_reckonDeposits_80 rfl (lv_at hl 2 rfl) ?_
    refine bkG (b := (u2 (u2 (bD1 b t k) (16 + k) t (((bD1 b t k) (16 + k)) t + (bFT b k - bTC b k))) 11 t ((bD1 b t k) 11 t - bFT b k))) (val := .int ((u2 (u2 (bD1 b t k) (16 + k) t (((bD1 b t k) (16 + k)) t + (bFT b k - bTC b k))) 11 t ((bD1 b t k) 11 t - bFT b k)) 13 4)) hx hb hts hin2 hown hK hP 4 (by decide) (hts (.fieldLink RX2 23 "FundBook" "now" "I") (by decide +kernel)) rfl dX2_reckonDeposits_81 ?_
    refine lv_topE (z := nI t) (by rw [u2_j (by omega), u2_j (by omega), bD1_o _ (by omega) (by omega) (by omega)]; exact ht) ?_
    refine lv_dup2_11 hx hb dX2_reckonDeposits_84 rfl rfl ?_
    refine ldI (f := ((u2 (u2 (bD1 b t k) (16 + k) t (((bD1 b t k) (16 + k)) t + (bFT b k - bTC b k))) 11 t ((bD1 b t k) 11 t - bFT b k)) 12)) hx hb hK hP 16 bg_12 t rfl (by omega) (by decide) dX2_reckonDeposits_85 ?_
    refine lv_topE (z := (bD1 b t k) 12 t) (by rw [u2_j (by omega), u2_j (by omega)]) ?_
    refine lv_iload hx hb dX2_reckonDeposits_86 (lv_at hl 0 rfl) ?_
    refine lv_isub hx hb dX2_reckonDeposits_88 ?_
    refine stI (f := (u2 (u2 (bD1 b t k) (16 + k) t (((bD1 b t k) (16 + k)) t + (bFT b k - bTC b k))) 11 t ((bD1 b t k) 11 t - bFT b k)) 12) (ws1 := bkW y a (u2 (u2 (u2 (bD1 b t k) (16 + k) t (((bD1 b t k) (16 + k)) t + (bFT b k - bTC b k))) 11 t ((bD1 b t k) 11 t - bFT b k)) 12 t ((bD1 b t k) 12 t - bTC b k)) n la L) hx hb hK hP hD hS 16 bg_12 t rfl (by omega) (by decide) bs_12 dX2_reckonDeposits_89 (fun H locs hP hD hS => ?_)
    refine lv_iinc (v := (nI (k + 1))) (lv' := [(2, .int (nI (k + 1))), (4, .int (bTC b k)), (3, .int (bFT b k)), (0, .ref (a 13)), (1, .int (bAvg b))]) hx hb dX2_reckonDeposits_90 hl (k := 4) rfl iinc1 (by decide) rfl (fun ls hl => ?_)
    refine lv_goto (tgt := 10) hx hb dX2_reckonDeposits_93 (by decide) ?_
    have hP : va_P G vwCl (bkW y a (bD1 b t (k + 1)) n la L) H := by rw [bD1]; exact hP
    have hD : va_D A (bkW y a (bD1 b t (k + 1)) n la L) := by rw [bD1]; exact hD
    exact ih_k _ _ ls hP hD hS (lv_sub hl [3, 4, 0] rfl)
  · have hl : lv_has ls 5 [(0, .ref (a 13)), (1, .int (bAvg b)), (2, .int (nI 3))] := hl
    have hP : va_P G vwCl (bkW y a (bD1 b t 3) n la L) H := hP
    have hD : va_D A (bkW y a (bD1 b t 3) n la L) := hD
    refine lv_iload_n hx hb dX2_reckonDeposits_10 rfl (lv_at hl 2 rfl) ?_
    refine lv_iconst (v := 3) hx hb dX2_reckonDeposits_11 (by decide) ?_
    refine lv_icmp_ge (tgt := 96) hx hb dX2_reckonDeposits_12 (by decide) (fun c_12 => ?_) (fun c_12 => absurd (nI_le (Nat.le_refl 3) (by decide)) c_12)
    exact W.vret hx hb hr (fun t ht hW => ⟨⟨(), rfl, trivial, by rw [ht]; exact hP, by exact hD⟩, hS.F ht⟩) hS.2.2 dX2_reckonDeposits_96
