/-! ===== book and model side by side: a month is closed (mine) ===== -/
theorem mC1_j {v : MS} {t j : Nat} (h : j ≠ 18) (h' : j ≠ 19) : ∀ m, mC1 v t m j = v j
  | 0 => rfl
  | m + 1 => (u2_j h').trans ((u2_j h).trans (mC1_j h h' m))
theorem mC1_18 {v : MS} {t q : Nat} : ∀ m, mC1 v t m 18 q = v 18 q + S32 (fun l => if 3 * t + cn (v 7 l) = q then mBear v l 3 else 0) m
  | 0 => by rw [S32, Int32.add_zero]; rfl
  | m + 1 => by
    rw [mC1, u2_j (j' := 18) (by decide), S32]
    by_cases e : 3 * t + cn (v 7 m) = q
    · rw [if_pos e, ← e, u2_s, e, mC1_18 m, Int32.add_assoc]
    · rw [if_neg e, u2_k (fun h => e h.symm), mC1_18 m, Int32.add_zero]
theorem mC1_19 {v : MS} {t q : Nat} : ∀ m, mC1 v t m 19 q = v 19 q + S32 (fun l => if 3 * t + cn (v 8 l) = q then mBear v l 3 else 0) m
  | 0 => by rw [S32, Int32.add_zero]; rfl
  | m + 1 => by
    rw [mC1, S32]
    by_cases e : 3 * t + cn (v 8 m) = q
    · rw [if_pos e, ← e, u2_s, e, mC1_19 m, Int32.add_assoc]
    · rw [if_neg e, u2_k (fun h => e h.symm), u2_j (j' := 19) (by decide), mC1_19 m, Int32.add_zero]
theorem mC2_j {w v : MS} {t j : Nat} (h : j ≠ 18) : ∀ m, mC2 w v t m j = w j
  | 0 => rfl
  | m + 1 => (u2_j h).trans (mC2_j h m)
theorem mC2_18 {w v : MS} {t q : Nat} : ∀ m, mC2 w v t m 18 q = if 3 * t ≤ q ∧ q < 3 * t + m then w 18 q + (mPaid v (q - 3 * t) - mPays v (q - 3 * t)) else w 18 q
  | 0 => by rw [if_neg (by omega)]; rfl
  | m + 1 => by
    rw [mC2]
    by_cases e : q = 3 * t + m
    · subst e
      rw [u2_s, mC2_18 m, if_neg (by omega), if_pos (by omega), show 3 * t + m - 3 * t = m by omega]
    · rw [u2_k e, mC2_18 m]
      by_cases h : 3 * t ≤ q ∧ q < 3 * t + m
      · rw [if_pos h, if_pos (by omega)]
      · rw [if_neg h, if_neg (by omega)]
theorem mC3_j {w : MS} {bo : Nat → Nat} {t j : Nat} (h : j ≠ 13) : ∀ m, mC3 w bo t m j = w j
  | 0 => rfl
  | m + 1 => by
    rw [mC3]
    split
    · exact (u2_j h).trans (mC3_j h m)
    · exact mC3_j h m
theorem mC3_13 {w : MS} {bo : Nat → Nat} {t l k : Nat} (hk : k < 6) : ∀ m, mC3 w bo t m 13 (6 * l + k) = if l < m ∧ k = t - bo l then 0 else w 13 (6 * l + k)
  | 0 => by rw [if_neg (by omega)]; rfl
  | m + 1 => by
    rw [mC3]
    by_cases h6 : t - bo m < 6
    · rw [if_pos h6]
      by_cases e : 6 * l + k = 6 * m + (t - bo m)
      · have el : l = m := by omega
        subst el
        rw [e, u2_s, if_pos (by omega)]
      · rw [u2_k e, mC3_13 hk m]
        by_cases h : l < m ∧ k = t - bo l
        · rw [if_pos h, if_pos (by omega)]
        · rw [if_neg h, if_neg]
          intro q
          by_cases el : l = m
          · subst el; omega
          · exact h ⟨by omega, q.2⟩
    · rw [if_neg h6, mC3_13 hk m]
      by_cases h : l < m ∧ k = t - bo l
      · rw [if_pos h, if_pos (by omega)]
      · rw [if_neg h, if_neg]
        intro q
        by_cases el : l = m
        · subst el; omega
        · exact h ⟨by omega, q.2⟩
theorem bR1_g {b : MS} {t n : Nat} {L : LNS} {pd : Nat → Nat} {j k : Nat} : ∀ m, bR1 b t n L pd m j k = if 16 ≤ j ∧ j < 16 + m ∧ k = t then bLM n L pd 0 (nI (j - 16)) else b j k
  | 0 => by rw [if_neg (by omega)]; rfl
  | m + 1 => by
    rw [bR1]
    by_cases e : j = 16 + m ∧ k = t
    · rw [e.1, e.2, u2_s, if_pos (by omega), show 16 + m - 16 = m by omega]
    · rw [u2_jk (by omega), bR1_g m]
      by_cases h : 16 ≤ j ∧ j < 16 + m ∧ k = t
      · rw [if_pos h, if_pos (by omega)]
      · rw [if_neg h, if_neg (by omega)]
theorem bR2_g {b : MS} {t n : Nat} {L : LNS} {pd : Nat → Nat} {j k : Nat} : ∀ m, bR2 b t n L pd m j k = if 19 ≤ j ∧ j < 19 + m ∧ k = t then bLM n L pd 1 (nI (j - 19)) else b j k
  | 0 => by rw [if_neg (by omega)]; rfl
  | m + 1 => by
    rw [bR2]
    by_cases e : j = 19 + m ∧ k = t
    · rw [e.1, e.2, u2_s, if_pos (by omega), show 19 + m - 19 = m by omega]
    · rw [u2_jk (by omega), bR2_g m]
      by_cases h : 19 ≤ j ∧ j < 19 + m ∧ k = t
      · rw [if_pos h, if_pos (by omega)]
      · rw [if_neg h, if_neg (by omega)]
theorem bD1_g {b : MS} {t : Nat} {j k : Nat} (h11 : j ≠ 11) (h12 : j ≠ 12) : ∀ m, bD1 b t m j k = if 16 ≤ j ∧ j < 16 + m ∧ k = t then b j t + (bFT b (j - 16) - bTC b (j - 16)) else b j k
  | 0 => by rw [if_neg (by omega)]; rfl
  | m + 1 => by
    rw [bD1, u2_j h12, u2_j h11]
    by_cases e : j = 16 + m ∧ k = t
    · obtain ⟨rfl, rfl⟩ := e
      rw [u2_s, bD1_g h11 h12 m, if_neg (by omega), if_pos (by omega), show 16 + m - 16 = m by omega]
    · rw [u2_jk (by omega), bD1_g h11 h12 m]
      by_cases h : 16 ≤ j ∧ j < 16 + m ∧ k = t
      · rw [if_pos h, if_pos (by omega)]
      · rw [if_neg h, if_neg (by omega)]
theorem bD1_11 {b : MS} {t k : Nat} : ∀ m, bD1 b t m 11 k = if k = t then D32 (b 11 t) (bFT b) m else b 11 k
  | 0 => by
    by_cases e : k = t
    · rw [if_pos e, e]; rfl
    · rw [if_neg e]; rfl
  | m + 1 => by
    rw [bD1, u2_j (j' := 11) (by decide)]
    by_cases e : k = t
    · rw [if_pos e, e, u2_s, bD1_11 m, if_pos rfl]; rfl
    · rw [if_neg e, u2_k e, u2_j (j' := 11) (by omega), bD1_11 m, if_neg e]
theorem bD1_12 {b : MS} {t k : Nat} : ∀ m, bD1 b t m 12 k = if k = t then D32 (b 12 t) (bTC b) m else b 12 k
  | 0 => by
    by_cases e : k = t
    · rw [if_pos e, e]; rfl
    · rw [if_neg e]; rfl
  | m + 1 => by
    rw [bD1]
    by_cases e : k = t
    · rw [if_pos e, e, u2_s, bD1_12 m, if_pos rfl]; rfl
    · rw [if_neg e, u2_k e, u2_j (j' := 12) (by decide), u2_j (j' := 12) (by omega), bD1_12 m, if_neg e]
theorem bPA_g {L : LNS} {n : Nat} {pd : Nat → Nat} {i : Nat} : ∀ m, bPA L n pd m i = if i < m ∧ i < n ∧ pd i < 6 then u2 (L i) 0 7 (nI (pd i + 1)) else L i
  | 0 => by rw [if_neg (by omega)]; rfl
  | m + 1 => by
    rw [bPA]
    by_cases hm : m < n
    · rw [if_pos hm]
      unfold bPP
      by_cases hp : pd m < 6
      · rw [if_pos hp]
        by_cases e : i = m
        · subst e
          rw [show u3 (bPA L n pd i) i (nI (pd i + 1)) i = u2 (bPA L n pd i i) 0 7 (nI (pd i + 1)) from if_pos rfl, bPA_g i, if_neg (by omega), if_pos (by omega)]
        · rw [show u3 (bPA L n pd m) m (nI (pd m + 1)) i = bPA L n pd m i from if_neg e, bPA_g m]
          by_cases h : i < m ∧ i < n ∧ pd i < 6
          · rw [if_pos h, if_pos (by omega)]
          · rw [if_neg h, if_neg (by omega)]
      · rw [if_neg hp, bPA_g m]
        by_cases h : i < m ∧ i < n ∧ pd i < 6
        · rw [if_pos h, if_pos (by omega)]
        · rw [if_neg h, if_neg]
          intro q
          by_cases e : i = m
          · subst e; exact hp q.2.2
          · exact h ⟨by omega, q.2⟩
    · rw [if_neg hm, bPA_g m]
      by_cases h : i < m ∧ i < n ∧ pd i < 6
      · rw [if_pos h, if_pos (by omega)]
      · rw [if_neg h, if_neg (by omega)]
