/-! ===== book and model side by side: a loan is lent, a month is closed (mine) ===== -/
theorem nLE {a b : Nat} (ha : a < 1000) (hb : b < 1000) : nI a ≤ nI b ↔ a ≤ b := by
  rw [Int32.le_iff_toInt_le, nI_int (by omega), nI_int (by omega)]; omega
theorem nEQ {a b : Nat} (ha : a < 1000) (hb : b < 1000) : nI a = nI b ↔ a = b :=
  ⟨fun h => by rw [← cnI (i := a) (by omega), ← cnI (i := b) (by omega), h], fun h => by rw [h]⟩
theorem cR_at {am pt : Int32} {M j : Nat} (hM : 1 ≤ M) (hM6 : M ≤ 6) : ∀ k, k ≤ 6 → cR am pt M k j = if j < k ∧ j < M then (if M - 1 ≤ j then am - pt * (nI M - 1) else pt) else 0
  | 0, _ => by rw [if_neg (by omega)]; rfl
  | k + 1, hk => by
    have e1 : nI M - 1 = nI (M - 1) := by
      have := nI_pred (M - 1)
      rwa [show M - 1 + 1 = M by omega] at this
    have ih := cR_at (am := am) (pt := pt) (j := j) hM hM6 k (by omega)
    rw [cR, e1]
    rw [e1] at ih
    by_cases h1 : M - 1 ≤ k
    · rw [if_pos ((nLE (by omega) (by omega)).mpr h1)]
      by_cases h2 : k = M - 1
      · rw [if_pos ((nEQ (by omega) (by omega)).mpr h2)]
        by_cases ej : j = k
        · rw [show upd (cR am pt M k) k (am - pt * nI (M - 1)) j = am - pt * nI (M - 1) from if_pos ej, if_pos (show j < k + 1 ∧ j < M by omega), if_pos (show M - 1 ≤ j by omega)]
        · rw [show upd (cR am pt M k) k (am - pt * nI (M - 1)) j = cR am pt M k j from if_neg ej, ih]
          by_cases h3 : j < k ∧ j < M
          · rw [if_pos h3, if_pos (show j < k + 1 ∧ j < M by omega)]
          · rw [if_neg h3, if_neg (show ¬ (j < k + 1 ∧ j < M) by omega)]
      · rw [if_neg (fun q => h2 ((nEQ (by omega) (by omega)).mp q)), ih]
        by_cases h3 : j < k ∧ j < M
        · rw [if_pos h3, if_pos (show j < k + 1 ∧ j < M by omega)]
        · rw [if_neg h3, if_neg (show ¬ (j < k + 1 ∧ j < M) by omega)]
    · rw [if_neg (fun q => h1 ((nLE (by omega) (by omega)).mp q))]
      by_cases ej : j = k
      · rw [show upd (cR am pt M k) k pt j = pt from if_pos ej, if_pos (show j < k + 1 ∧ j < M by omega), if_neg (show ¬ M - 1 ≤ j by omega)]
      · rw [show upd (cR am pt M k) k pt j = cR am pt M k j from if_neg ej, ih]
        by_cases h3 : j < k ∧ j < M
        · rw [if_pos h3, if_pos (show j < k + 1 ∧ j < M by omega)]
        · rw [if_neg h3, if_neg (show ¬ (j < k + 1 ∧ j < M) by omega)]
theorem mLp_j {w : MS} {n : Nat} {am : Int32} {mo j : Nat} (h : j ≠ 13) (h' : j ≠ 14) : ∀ k, mLp w n am mo k j = w j
  | 0 => rfl
  | k + 1 => (u2_j h').trans ((u2_j h).trans (mLp_j h h' k))
theorem mLp_13 {w : MS} {n : Nat} {am : Int32} {mo q : Nat} : ∀ k, mLp w n am mo k 13 q = if 6 * n ≤ q ∧ q < 6 * n + k then mPt am mo (q - 6 * n) else w 13 q
  | 0 => by rw [if_neg (by omega)]; rfl
  | k + 1 => by
    rw [mLp, u2_j (j' := 13) (by decide)]
    by_cases e : q = 6 * n + k
    · subst e; rw [u2_s, if_pos (by omega), show 6 * n + k - 6 * n = k by omega]
    · rw [u2_k e, mLp_13 k]
      by_cases h : 6 * n ≤ q ∧ q < 6 * n + k
      · rw [if_pos h, if_pos (by omega)]
      · rw [if_neg h, if_neg (by omega)]
theorem mLp_14 {w : MS} {n : Nat} {am : Int32} {mo q : Nat} : ∀ k, mLp w n am mo k 14 q = if 6 * n ≤ q ∧ q < 6 * n + k then w 2 (q - 6 * n + 1) else w 14 q
  | 0 => by rw [if_neg (by omega)]; rfl
  | k + 1 => by
    rw [mLp]
    by_cases e : q = 6 * n + k
    · subst e; rw [u2_s, if_pos (by omega), show 6 * n + k - 6 * n = k by omega]
    · rw [u2_k e, u2_j (j' := 14) (by decide), mLp_14 k]
      by_cases h : 6 * n ≤ q ∧ q < 6 * n + k
      · rw [if_pos h, if_pos (by omega)]
      · rw [if_neg h, if_neg (by omega)]
section LE
variable {b : MS} {n : Nat} {L : LNS} {v : MS} {t : Nat} {pd bo : Nat → Nat}
theorem r_lend (br pr am rt mo op : Int32) (h : Rel b n L v t pd bo) : Okc (mLend v n br pr am rt mo op) (lC 1 2 3 (xLend n br pr am rt mo)) (xLend n br pr am rt mo) (nI n) (fun v' => n + 1 ≤ 24 ∧ Rel (u2 b 13 6 (nI (n + 1))) (n + 1) (fun i => if i = n then lNew br pr rt op (bOr b op) (cR am (am / mo) (cn mo) 6) (b 0) else L i) v' t (fun j => if j = n then 0 else pd j) (fun j => if j = n then t else bo j)) (fun v' => Rel b n L v' t pd bo) := by
  unfold mLend xLend
  by_cases h1 : br < 0
  · rw [if_pos h1, if_pos (Or.inl (mInF.mpr (Or.inl h1)))]; exact Okc.no rfl (by decide) rfl (by decide) h
  rw [if_neg h1]
  by_cases h2 : 3 ≤ br
  · rw [if_pos h2, if_pos (Or.inl (mInF.mpr (Or.inr (le3.mp h2))))]; exact Okc.no rfl (by decide) rfl (by decide) h
  rw [if_neg h2]
  by_cases h3 : pr < 0
  · rw [if_pos h3, if_pos (Or.inr (mInF.mpr (Or.inl h3)))]; exact Okc.no rfl (by decide) rfl (by decide) h
  rw [if_neg h3]
  by_cases h4 : 3 ≤ pr
  · rw [if_pos h4, if_pos (Or.inr (mInF.mpr (Or.inr (le3.mp h4))))]; exact Okc.no rfl (by decide) rfl (by decide) h
  rw [if_neg h4, if_neg (fun q => q.elim (fun q => (mInF.mp q).elim h1 (fun q => h2 (le3.mpr q))) (fun q => (mInF.mp q).elim h3 (fun q => h4 (le3.mpr q))))]
  by_cases h5 : am < 1
  · rw [if_pos h5, if_pos (Or.inl (mInF.mpr (Or.inl h5)))]; exact Okc.no rfl (by decide) rfl (by decide) h
  rw [if_neg h5]
  by_cases h6 : 10000000 < am
  · rw [if_pos h6, if_pos (Or.inl (mInF.mpr (Or.inr h6)))]; exact Okc.no rfl (by decide) rfl (by decide) h
  rw [if_neg h6]
  by_cases h7 : rt < 0
  · rw [if_pos h7, if_pos (Or.inr (Or.inl (mInF.mpr (Or.inl h7))))]; exact Okc.no rfl (by decide) rfl (by decide) h
  rw [if_neg h7]
  by_cases h8 : 5000 < rt
  · rw [if_pos h8, if_pos (Or.inr (Or.inl (mInF.mpr (Or.inr h8))))]; exact Okc.no rfl (by decide) rfl (by decide) h
  rw [if_neg h8]
  by_cases h9 : mo < 1
  · rw [if_pos h9, if_pos (Or.inr (Or.inr (mInF.mpr (Or.inl h9))))]; exact Okc.no rfl (by decide) rfl (by decide) h
  rw [if_neg h9]
  by_cases h10 : 6 < mo
  · rw [if_pos h10, if_pos (Or.inr (Or.inr (mInF.mpr (Or.inr h10))))]; exact Okc.no rfl (by decide) rfl (by decide) h
  rw [if_neg h10, if_neg (fun q => by
    rcases q with q | q | q
    · exact (mInF.mp q).elim h5 h6
    · exact (mInF.mp q).elim h7 h8
    · exact (mInF.mp q).elim h9 h10)]
  have hn24 := h.1.1
  have e24 : (24 : Int32) ≤ nI n ↔ n = 24 := by
    rw [show (24 : Int32) = nI 24 from rfl, nLE (by omega) (by omega)]; omega
  by_cases h11 : n = 24
  · rw [if_pos (e24.mpr h11), if_pos h11]; exact Okc.no rfl (by decide) rfl (by decide) h
  rw [if_neg (fun q => h11 (e24.mp q)), if_neg h11]
  obtain ⟨m, hm, rfl⟩ := inS h9 h10
  obtain ⟨i1, hi1, ei1⟩ := inR (M := 3) h1 h2 (by decide)
  obtain ⟨i2, hi2, ei2⟩ := inR (M := 3) h3 h4 (by decide)
  rw [show cn (nI (m + 1)) = m + 1 from cnI (by omega)]
  have hw : ∀ j, j < 7 ∨ 12 < j → mLw v n br pr rt op j = mT v 0 j := fun j hj => by
    unfold mLw
    rw [u2_j (by omega), u2_j (by omega), u2_j (by omega), u2_j (by omega), u2_j (by omega), u2_j (by omega)]
  generalize hwd : mLw v n br pr rt op = w at hw
  have hv : ∀ j, j ≠ 13 → j ≠ 14 → j ≠ 0 → u2 (mLp w n am (m + 1) (m + 1)) 0 6 (nI (n + 1)) j = w j := fun j q1 q2 q0 => (u2_j q0).trans (mLp_j q1 q2 _)
  have hv13 : u2 (mLp w n am (m + 1) (m + 1)) 0 6 (nI (n + 1)) 13 = mLp w n am (m + 1) (m + 1) 13 := u2_j (by decide)
  have hv14 : u2 (mLp w n am (m + 1) (m + 1)) 0 6 (nI (n + 1)) 14 = mLp w n am (m + 1) (m + 1) 14 := u2_j (by decide)
  have hv0 : mLp w n am (m + 1) (m + 1) 0 = mT v 0 0 := (mLp_j (by decide) (by decide) _).trans (hw 0 (Or.inl (by decide)))
  have hv06 : ∀ k, k ≠ 6 → u2 (mLp w n am (m + 1) (m + 1)) 0 6 (nI (n + 1)) 0 k = mT v 0 0 k := fun k hk => by rw [u2_k hk, hv0]
  obtain ⟨⟨c1, c2, c3, c4, c5, c6, c7, c8, c9, c10, c11, c12, c13⟩, hM, hN, hZ⟩ := h
  refine Okc.ok rfl ?_ rfl ⟨by omega, ?_⟩
  · show u2 (mLp w n am (m + 1) (m + 1)) 0 6 (nI (n + 1)) 0 0 = _
    rw [hv06 0 (by decide)]; rfl
  show Rel _ _ _ (u2 (mLp w n am (m + 1) (m + 1)) 0 6 (nI (n + 1))) _ _ _
  generalize hv' : u2 (mLp w n am (m + 1) (m + 1)) 0 6 (nI (n + 1)) = v' at hv hv13 hv14 hv06
  have hv6 : v' 0 6 = nI (n + 1) := by rw [← hv', u2_s]
  refine ⟨?_, hM.cg (fun j h1 h2 => u2_j (by omega)) rfl rfl ((hv 18 (by decide) (by decide) (by decide)).trans (hw 18 (Or.inr (by decide)))) ((hv 19 (by decide) (by decide) (by decide)).trans (hw 19 (Or.inr (by decide)))) ((hv 20 (by decide) (by decide) (by decide)).trans (hw 20 (Or.inr (by decide)))) ((hv 21 (by decide) (by decide) (by decide)).trans (hw 21 (Or.inr (by decide)))), fun j hj => ?_, fun k hk hk2 => ?_⟩
  · unfold RC
    rw [hv 2 (by decide) (by decide) (by decide), hw 2 (Or.inl (by decide)), hv 15 (by decide) (by decide) (by decide), hw 15 (Or.inr (by decide)), hv 16 (by decide) (by decide) (by decide), hw 16 (Or.inr (by decide)), hv 17 (by decide) (by decide) (by decide), hw 17 (Or.inr (by decide)), hv6, hv06 1 (by decide), hv06 3 (by decide), hv06 4 (by decide), hv06 5 (by decide)]
    exact ⟨by omega, c2, by rw [u2_s], rfl, c5, c6, c7, c8, c9, c10, c11, c12, c13⟩
  · by_cases ej : j = n
    · subst ej
      dsimp only
      rw [if_pos rfl, if_pos rfl, if_pos rfl]
      have w7 : w 7 j = br := by rw [← hwd]; unfold mLw; rw [u2_j (by decide), u2_j (by decide), u2_j (by decide), u2_j (by decide), u2_j (by decide), u2_s]
      have w8 : w 8 j = pr := by rw [← hwd]; unfold mLw; rw [u2_j (by decide), u2_j (by decide), u2_j (by decide), u2_j (by decide), u2_s]
      have w9 : w 9 j = rt := by rw [← hwd]; unfold mLw; rw [u2_j (by decide), u2_j (by decide), u2_j (by decide), u2_s]
      have w10 : w 10 j = v 0 4 := by rw [← hwd]; unfold mLw; rw [u2_j (by decide), u2_j (by decide), u2_s]
      have w11 : w 11 j = op := by rw [← hwd]; unfold mLw; rw [u2_j (by decide), u2_s]
      have w12 : w 12 j = v 0 1 := by rw [← hwd]; unfold mLw; rw [u2_s]
      unfold LR
      rw [hv 7 (by decide) (by decide) (by decide), hv 8 (by decide) (by decide) (by decide), hv 9 (by decide) (by decide) (by decide), hv 10 (by decide) (by decide) (by decide), hv 11 (by decide) (by decide) (by decide), hv 12 (by decide) (by decide) (by decide), w7, w8, w9, w10, w11, w12, hv13, hv14]
      refine ⟨rfl, rfl, rfl, rfl, ?_, ⟨by rw [ei1, cnI (by omega)], by rw [ei1, cnI (by omega)]; exact hi1⟩, ⟨by rw [ei2, cnI (by omega)], by rw [ei2, cnI (by omega)]; exact hi2⟩, ⟨rfl, by omega⟩, ⟨c6, Nat.le_refl _⟩, Or.inr (by omega), fun k hk => ?_⟩
      · show bOr b op = _
        unfold bOr
        rw [c9]
      · rw [mLp_13, mLp_14, if_neg (Nat.not_lt_zero k)]
        show _ = cR am (am / nI (m + 1)) (m + 1) 6 k ∧ (cR am (am / nI (m + 1)) (m + 1) 6 k = 0 ∨ _ = b 0 k)
        rw [cR_at (by omega) (by omega) 6 (Nat.le_refl _)]
        by_cases hkm : k < m + 1
        · rw [if_pos (show 6 * j ≤ 6 * j + k ∧ 6 * j + k < 6 * j + (m + 1) by omega), if_pos (show 6 * j ≤ 6 * j + k ∧ 6 * j + k < 6 * j + (m + 1) by omega), if_pos (show k < 6 ∧ k < m + 1 by omega), show 6 * j + k - 6 * j = k by omega, hw 2 (Or.inl (by decide))]
          refine ⟨?_, Or.inr (c7 k hk).symm⟩
          unfold mPt
          have e1 : nI (m + 1) - 1 = nI m := nI_pred m
          rw [e1]
          by_cases hmk : m ≤ k
          · rw [if_pos ((nLE (by omega) (by omega)).mpr hmk), if_pos (by omega)]
          · rw [if_neg (fun q => hmk ((nLE (by omega) (by omega)).mp q)), if_neg (by omega)]
        · rw [if_neg (show ¬ (6 * j ≤ 6 * j + k ∧ 6 * j + k < 6 * j + (m + 1)) by omega), if_neg (show ¬ (6 * j ≤ 6 * j + k ∧ 6 * j + k < 6 * j + (m + 1)) by omega), if_neg (show ¬ (k < 6 ∧ k < m + 1) by omega), hw 13 (Or.inr (by decide))]
          exact ⟨hZ (6 * j + k) (by omega) (by omega), Or.inl rfl⟩
    · dsimp only
      rw [if_neg ej, if_neg ej, if_neg ej]
      have hjn : j < n := by omega
      have hwj : ∀ r, r ≠ 13 → r ≠ 14 → r ≠ 0 → w r j = v r j := fun r q1 q2 q0 => by
        rw [← hwd]; unfold mLw
        rw [u2_jk (Or.inr ej), u2_jk (Or.inr ej), u2_jk (Or.inr ej), u2_jk (Or.inr ej), u2_jk (Or.inr ej), u2_jk (Or.inr ej), mT, u2_j q0]
      obtain ⟨a1, a2, a3, a4, a5, a6, a7, a8, a9, a10, a11⟩ := hN j hjn
      unfold LR
      rw [hv 7 (by decide) (by decide) (by decide), hv 8 (by decide) (by decide) (by decide), hv 9 (by decide) (by decide) (by decide), hv 10 (by decide) (by decide) (by decide), hv 11 (by decide) (by decide) (by decide), hv 12 (by decide) (by decide) (by decide), hwj 7 (by decide) (by decide) (by decide), hwj 8 (by decide) (by decide) (by decide), hwj 9 (by decide) (by decide) (by decide), hwj 10 (by decide) (by decide) (by decide), hwj 11 (by decide) (by decide) (by decide), hwj 12 (by decide) (by decide) (by decide), hv13, hv14]
      refine ⟨a1, a2, a3, a4, a5, a6, a7, a8, a9, a10, fun k hk => ?_⟩
      rw [mLp_13, mLp_14, if_neg (show ¬ (6 * n ≤ 6 * j + k ∧ 6 * j + k < 6 * n + (m + 1)) by omega), if_neg (show ¬ (6 * n ≤ 6 * j + k ∧ 6 * j + k < 6 * n + (m + 1)) by omega), hw 13 (Or.inr (by decide)), hw 14 (Or.inr (by decide))]
      exact a11 k hk
  · rw [hv13, mLp_13, if_neg (by omega), hw 13 (Or.inr (by decide))]
    exact hZ k (by omega) hk2
end LE
