/-! ===== sums, parts and months of the book (mine; rows of whole's parts 18, 20, 21, 22) ===== -/
theorem bm64 {x : Int} (h1 : -4611686018427387904 ≤ x) (h2 : x < 4611686018427387904) : x.bmod (2 ^ 64) = x := Int.bmod_eq_of_le (by omega) (by omega)
theorem bm32 {x : Int} (h1 : -1073741824 ≤ x) (h2 : x < 1073741824) : x.bmod (2 ^ 32) = x := Int.bmod_eq_of_le (by omega) (by omega)
theorem coI {S : Int64} {c : Int32} (h1 : 0 ≤ S.toInt) (h2 : S.toInt ≤ 30000000) (h3 : 0 ≤ c.toInt) (h4 : c.toInt ≤ 100) : (S * c.toInt64 / 100).toInt = S.toInt * c.toInt / 100 ∧ 0 ≤ S.toInt * c.toInt ∧ S.toInt * c.toInt ≤ S.toInt * 100 := by
  have hp : 0 ≤ S.toInt * c.toInt := Int.mul_nonneg h1 h3
  have hp2 : S.toInt * c.toInt ≤ S.toInt * 100 := Int.mul_le_mul_of_nonneg_left h4 h1
  refine ⟨?_, hp, hp2⟩
  rw [Int64.toInt_div, Int64.toInt_mul, Int32.toInt_toInt64, show (100 : Int64).toInt = 100 from rfl]
  generalize S.toInt * c.toInt = P at hp hp2
  rw [bm64 (x := P) (by omega) (by omega), Int.tdiv_eq_ediv_of_nonneg hp, bm64 (by omega) (by omega)]
theorem coR {x : Int32} {c : Int32} (h1 : 0 ≤ x.toInt) (h2 : x.toInt ≤ 10000000) (h3 : 0 ≤ c.toInt) (h4 : c.toInt ≤ 100) : (x.toInt64 * c.toInt64 / 100).toInt32.toInt64 = x.toInt64 * c.toInt64 / 100 ∧ (x - (x.toInt64 * c.toInt64 / 100).toInt32).toInt64 = x.toInt64 - x.toInt64 * c.toInt64 / 100 := by
  obtain ⟨e, hp, hp2⟩ := coI (S := x.toInt64) (c := c) (by rw [Int32.toInt_toInt64]; exact h1) (by rw [Int32.toInt_toInt64]; omega) h3 h4
  rw [Int32.toInt_toInt64] at e hp hp2
  generalize x.toInt64 * c.toInt64 / 100 = z at e
  generalize x.toInt * c.toInt = P at hp hp2 e
  have e3 : z.toInt32.toInt = z.toInt := by rw [Int64.toInt_toInt32, bm32 (x := z.toInt) (by omega) (by omega)]
  constructor
  · apply Int64.toInt_inj.mp
    rw [Int32.toInt_toInt64, e3]
  · apply Int64.toInt_inj.mp
    rw [Int32.toInt_toInt64, Int32.toInt_sub, e3, Int64.toInt_sub, Int32.toInt_toInt64, bm32 (by omega) (by omega), bm64 (by omega) (by omega)]
theorem cR_at {am pt : Int32} {M j : Nat} (hM : 1 ≤ M) (hM6 : M ≤ 6) : ∀ k, k ≤ 6 → cR am pt M k j = if j < k ∧ j < M then (if M - 1 ≤ j then am - pt * (nI M - 1) else pt) else 0
  | 0, _ => by rw [if_neg (by omega)]; rfl
  | k + 1, hk => by
    have e1 : nI M - 1 = nI (M - 1) := by
      have := nI_pred (M - 1)
      rwa [show M - 1 + 1 = M by omega] at this
    have ih := cR_at (am := am) (pt := pt) (j := j) hM hM6 k (by omega)
    rw [cR, e1]
    rw [e1] at ih
    by_cases h1 : M - 1 ≤ k
    · rw [if_pos ((nLE (by omega) (by omega)).mpr h1)]
      by_cases h2 : k = M - 1
      · rw [if_pos ((nEQ (by omega) (by omega)).mpr h2)]
        by_cases ej : j = k
        · rw [show upd (cR am pt M k) k (am - pt * nI (M - 1)) j = am - pt * nI (M - 1) from if_pos ej, if_pos (show j < k + 1 ∧ j < M by omega), if_pos (show M - 1 ≤ j by omega)]
        · rw [show upd (cR am pt M k) k (am - pt * nI (M - 1)) j = cR am pt M k j from if_neg ej, ih]
          by_cases h3 : j < k ∧ j < M
          · rw [if_pos h3, if_pos (show j < k + 1 ∧ j < M by omega)]
          · rw [if_neg h3, if_neg (show ¬ (j < k + 1 ∧ j < M) by omega)]
      · rw [if_neg (fun q => h2 ((nEQ (by omega) (by omega)).mp q)), ih]
        by_cases h3 : j < k ∧ j < M
        · rw [if_pos h3, if_pos (show j < k + 1 ∧ j < M by omega)]
        · rw [if_neg h3, if_neg (show ¬ (j < k + 1 ∧ j < M) by omega)]
    · rw [if_neg (fun q => h1 ((nLE (by omega) (by omega)).mp q))]
      by_cases ej : j = k
      · rw [show upd (cR am pt M k) k pt j = pt from if_pos ej, if_pos (show j < k + 1 ∧ j < M by omega), if_neg (show ¬ M - 1 ≤ j by omega)]
      · rw [show upd (cR am pt M k) k pt j = cR am pt M k j from if_neg ej, ih]
        by_cases h3 : j < k ∧ j < M
        · rw [if_pos h3, if_pos (show j < k + 1 ∧ j < M by omega)]
        · rw [if_neg h3, if_neg (show ¬ (j < k + 1 ∧ j < M) by omega)]
theorem bR1_g {b : MS} {t n : Nat} {L : LNS} {pd : Nat → Nat} {j k : Nat} : ∀ m, bR1 b t n L pd m j k = if 16 ≤ j ∧ j < 16 + m ∧ k = t then bLM n L pd 0 (nI (j - 16)) else b j k
  | 0 => by rw [if_neg (by omega)]; rfl
  | m + 1 => by
    rw [bR1]
    by_cases e : j = 16 + m ∧ k = t
    · rw [e.1, e.2, u2_s, if_pos (by omega), show 16 + m - 16 = m by omega]
    · rw [u2_jk (by omega), bR1_g m]
      by_cases h : 16 ≤ j ∧ j < 16 + m ∧ k = t
      · rw [if_pos h, if_pos (by omega)]
      · rw [if_neg h, if_neg (by omega)]
theorem bR2_g {b : MS} {t n : Nat} {L : LNS} {pd : Nat → Nat} {j k : Nat} : ∀ m, bR2 b t n L pd m j k = if 19 ≤ j ∧ j < 19 + m ∧ k = t then bLM n L pd 1 (nI (j - 19)) else b j k
  | 0 => by rw [if_neg (by omega)]; rfl
  | m + 1 => by
    rw [bR2]
    by_cases e : j = 19 + m ∧ k = t
    · rw [e.1, e.2, u2_s, if_pos (by omega), show 19 + m - 19 = m by omega]
    · rw [u2_jk (by omega), bR2_g m]
      by_cases h : 19 ≤ j ∧ j < 19 + m ∧ k = t
      · rw [if_pos h, if_pos (by omega)]
      · rw [if_neg h, if_neg (by omega)]
theorem bD1_g {b : MS} {t : Nat} {j k : Nat} (h11 : j ≠ 11) (h12 : j ≠ 12) : ∀ m, bD1 b t m j k = if 16 ≤ j ∧ j < 16 + m ∧ k = t then b j t + (bFT b (j - 16) - bTC b (j - 16)) else b j k
  | 0 => by rw [if_neg (by omega)]; rfl
  | m + 1 => by
    rw [bD1, u2_j h12, u2_j h11]
    by_cases e : j = 16 + m ∧ k = t
    · obtain ⟨rfl, rfl⟩ := e
      rw [u2_s, bD1_g h11 h12 m, if_neg (by omega), if_pos (by omega), show 16 + m - 16 = m by omega]
    · rw [u2_jk (by omega), bD1_g h11 h12 m]
      by_cases h : 16 ≤ j ∧ j < 16 + m ∧ k = t
      · rw [if_pos h, if_pos (by omega)]
      · rw [if_neg h, if_neg (by omega)]
theorem bD1_11 {b : MS} {t k : Nat} : ∀ m, bD1 b t m 11 k = if k = t then D32 (b 11 t) (bFT b) m else b 11 k
  | 0 => by
    by_cases e : k = t
    · rw [if_pos e, e]; rfl
    · rw [if_neg e]; rfl
  | m + 1 => by
    rw [bD1, u2_j (j' := 11) (by decide)]
    by_cases e : k = t
    · rw [if_pos e, e, u2_s, bD1_11 m, if_pos rfl]; rfl
    · rw [if_neg e, u2_k e, u2_j (j' := 11) (by omega), bD1_11 m, if_neg e]
theorem bD1_12 {b : MS} {t k : Nat} : ∀ m, bD1 b t m 12 k = if k = t then D32 (b 12 t) (bTC b) m else b 12 k
  | 0 => by
    by_cases e : k = t
    · rw [if_pos e, e]; rfl
    · rw [if_neg e]; rfl
  | m + 1 => by
    rw [bD1]
    by_cases e : k = t
    · rw [if_pos e, e, u2_s, bD1_12 m, if_pos rfl]; rfl
    · rw [if_neg e, u2_k e, u2_j (j' := 12) (by decide), u2_j (j' := 12) (by omega), bD1_12 m, if_neg e]
theorem bPA_g {L : LNS} {n : Nat} {pd : Nat → Nat} {i : Nat} : ∀ m, bPA L n pd m i = if i < m ∧ i < n ∧ pd i < 6 then u2 (L i) 0 7 (nI (pd i + 1)) else L i
  | 0 => by rw [if_neg (by omega)]; rfl
  | m + 1 => by
    rw [bPA]
    by_cases hm : m < n
    · rw [if_pos hm]
      unfold bPP
      by_cases hp : pd m < 6
      · rw [if_pos hp]
        by_cases e : i = m
        · subst e
          rw [show u3 (bPA L n pd i) i (nI (pd i + 1)) i = u2 (bPA L n pd i i) 0 7 (nI (pd i + 1)) from if_pos rfl, bPA_g i, if_neg (by omega), if_pos (by omega)]
        · rw [show u3 (bPA L n pd m) m (nI (pd m + 1)) i = bPA L n pd m i from if_neg e, bPA_g m]
          by_cases h : i < m ∧ i < n ∧ pd i < 6
          · rw [if_pos h, if_pos (by omega)]
          · rw [if_neg h, if_neg (by omega)]
      · rw [if_neg hp, bPA_g m]
        by_cases h : i < m ∧ i < n ∧ pd i < 6
        · rw [if_pos h, if_pos (by omega)]
        · rw [if_neg h, if_neg]
          intro q
          by_cases e : i = m
          · subst e; exact hp q.2.2
          · exact h ⟨by omega, q.2⟩
    · rw [if_neg hm, bPA_g m]
      by_cases h : i < m ∧ i < n ∧ pd i < 6
      · rw [if_pos h, if_pos (by omega)]
      · rw [if_neg h, if_neg (by omega)]

section CL
variable {b : MS} {n : Nat} {L : LNS} {t : Nat} {pd : Nat → Nat}
theorem bR3_g {j k : Nat} (h11 : j ≠ 11) (h12 : j ≠ 12) : bR3 b t n L pd j k = if 19 ≤ j ∧ j < 22 ∧ k = t then bLM n L pd 1 (nI (j - 19)) else if 16 ≤ j ∧ j < 19 ∧ k = t then bLM n L pd 0 (nI (j - 16)) else b j k := by
  unfold bR3
  rw [u2_j h12, u2_j h11, bR2_g, bR1_g]
theorem bR3_j {j : Nat} (h11 : j ≠ 11) (h12 : j ≠ 12) (h16 : j < 16) : bR3 b t n L pd j = b j := funext fun k => by rw [bR3_g h11 h12, if_neg (by omega), if_neg (by omega)]
theorem bCl_j {j : Nat} (h11 : j ≠ 11) (h12 : j ≠ 12) (h13 : j ≠ 13) (h16 : j < 16) : bCl b t n L pd j = b j := by
  unfold bCl
  rw [u2_j h13]
  funext k
  rw [bD1_g h11 h12, if_neg (by omega), bR3_j h11 h12 h16]
theorem bCl_13 {k : Nat} (h : k ≠ 4) : bCl b t n L pd 13 k = b 13 k := by
  unfold bCl
  rw [u2_k h, bD1_g (by decide) (by decide), if_neg (by omega), bR3_j (by decide) (by decide) (by decide)]
theorem bCl_134 : bCl b t n L pd 13 4 = nI (t + 1) := by unfold bCl; rw [u2_s]
end CL
theorem mI_1 {i n : Nat} (hi : i < n) (hn : n ≤ 24) : ¬ mIn (nI i) 0 (nI n - 1) = 0 := by
  obtain ⟨m, rfl⟩ : ∃ m, n = m + 1 := ⟨n - 1, by omega⟩
  rw [nI_pred]
  unfold mIn
  rw [if_neg (nI_pos (by omega)), if_neg (nI_nlt (by omega) (by omega))]
  decide
theorem S32b {f : Nat → Int32} : ∀ {n : Nat}, n ≤ 6 → (∀ k, k < n → 0 ≤ (f k).toInt ∧ (f k).toInt ≤ 10000000) → 0 ≤ (S32 f n).toInt ∧ (S32 f n).toInt ≤ n * 10000000
  | 0, _, _ => by rw [S32]; decide
  | n + 1, hn, h => by
    have h1 := S32b (f := f) (n := n) (by omega) (fun k hk => h k (by omega))
    have h2 := h n (by omega)
    rw [S32, Int32.toInt_add, bm32 (by omega) (by omega)]
    omega
theorem sub3 {a x p : Int32} : a - (x - p) = a - x + p := by
  rw [Int32.sub_eq_add_neg x p, ← Int32.sub_sub, Int32.sub_neg]
theorem uA_at {w : MS} {k q : Nat} {x : Int32} : uA w k x 4 q = w 4 q + (if q = k then x else 0) := by
  unfold uA
  by_cases e : q = k
  · subst e; rw [u2_s, if_pos rfl]
  · rw [u2_k e, if_neg e, Int32.add_zero]
theorem uS_at {w : MS} {k q : Nat} {x : Int32} : uS w k x 4 q = w 4 q - (if q = k then x else 0) := by
  unfold uS
  by_cases e : q = k
  · subst e; rw [u2_s, if_pos rfl]
  · rw [u2_k e, if_neg e, Int32.sub_zero]
theorem gZ_4 {w : MS} {t q : Nat} : ∀ m, gZ w t m 4 q = if gA t ≤ q ∧ q < gA t + m then 0 else w 4 q
  | 0 => by rw [if_neg (by omega)]; rfl
  | m + 1 => by
    rw [gZ]
    by_cases e : q = gA t + m
    · subst e; rw [u2_s, if_pos (by omega)]
    · rw [u2_k e, gZ_4 m]
      by_cases h : gA t ≤ q ∧ q < gA t + m
      · rw [if_pos h, if_pos (by omega)]
      · rw [if_neg h, if_neg (by omega)]
theorem gRate_cg {w w' : MS} (h3 : w' 3 = w 3) : gRate w' = gRate w := by
  unfold gRate
  rw [show gAl w' = gAl w from by unfold gAl; rw [h3], show gWt w' = gWt w from by unfold gWt; rw [h3]]
theorem gBr_cg {w w' : MS} {k : Nat} (h0 : w' 0 = w 0) (h3 : w' 3 = w 3) : gBr w' k = gBr w k := by
  unfold gBr gCo
  rw [gRate_cg h3, h0]
theorem gGv_cg {w w' : MS} {k : Nat} (h0 : w' 0 = w 0) : gGv w' k = gGv w k := by unfold gGv; rw [h0]
theorem gBe_cg {w w' : MS} {i t bo : Nat} {x : Int32} (h0 : w' 0 = w 0) (h1 : w' 1 = w 1) (h2 : w' 2 = w 2) : gBe w' i t bo x = gBe w i t bo x := by
  have e : ∀ k m, gPart w' k m = gPart w k m := fun k m => by unfold gPart; rw [h0, h1]
  have e2 : gLeft w' i t = gLeft w i t := S32_congr (fun j _ => e _ _)
  have e3 : S64 (gFn w' i bo) 6 = S64 (gFn w i bo) 6 := S64_congr (fun j _ => by unfold gFn; rw [e, h2])
  unfold gBe gSum
  rw [e2, e3, h1]
theorem D32_a {x : Int32} {f : Nat → Int32} : ∀ n, D32 0 f n + x = D32 x f n
  | 0 => Int32.zero_add x
  | n + 1 => by
    rw [D32, D32, ← D32_a (x := x) n, Int32.sub_eq_add_neg, Int32.sub_eq_add_neg, Int32.add_assoc, Int32.add_assoc, Int32.add_comm (-f n) x]
section GM
variable {w : MS} {t : Nat} {br pr bo : Nat → Nat}
theorem gD_st {k q : Nat} : gD w t (k + 1) 4 q = (if q = gA t + k then gBr w k - gGv w k else gD w t k 4 q) - (if q = gA t + 6 then gBr w k else 0) - (if q = gA t + 7 then gGv w k else 0) := by
  have e1 : gBr (gD w t k) k = gBr w k := gBr_cg (gD_o (by decide) k) (gD_o (by decide) k)
  have e2 : gGv (gD w t k) k = gGv w k := gGv_cg (gD_o (by decide) k)
  rw [gD, uS_at, uS_at, e1, e2]
  by_cases e : q = gA t + k
  · subst e; rw [u2_s, if_pos rfl]
  · rw [u2_k e, if_neg e]
theorem gD_a {j : Nat} (hj : j < 3) : gD w t 3 4 (gA t + j) = gBr w j - gGv w j := by
  rw [gD_st, gD_st, gD_st]
  rcases (show j = 0 ∨ j = 1 ∨ j = 2 by omega) with rfl | rfl | rfl <;> simp
theorem gD_b {j : Nat} (hj : j < 3) : gD w t 3 4 ((gA t + 3) + j) = w 4 ((gA t + 3) + j) := by
  rw [gD_st, gD_st, gD_st]
  rw [if_neg (show ¬ gA t + 3 + j = gA t + 2 by omega), if_neg (show ¬ gA t + 3 + j = gA t + 1 by omega), if_neg (show ¬ gA t + 3 + j = gA t + 0 by omega), if_neg (show ¬ gA t + 3 + j = gA t + 6 by omega), if_neg (show ¬ gA t + 3 + j = gA t + 6 by omega), if_neg (show ¬ gA t + 3 + j = gA t + 6 by omega), if_neg (show ¬ gA t + 3 + j = gA t + 7 by omega), if_neg (show ¬ gA t + 3 + j = gA t + 7 by omega), if_neg (show ¬ gA t + 3 + j = gA t + 7 by omega)]
  simp [gD]
theorem gD_6 : gD w t 3 4 (gA t + 6) = D32 (w 4 (gA t + 6)) (gBr w) 3 := by
  rw [gD_st, gD_st, gD_st]
  simp [D32, gD]
theorem gD_7 : gD w t 3 4 (gA t + 7) = D32 (w 4 (gA t + 7)) (gGv w) 3 := by
  rw [gD_st, gD_st, gD_st]
  simp [D32, gD]
theorem gD_x {q : Nat} (hq : q < gA t ∨ gA t + 8 ≤ q) : gD w t 3 4 q = w 4 q := by
  rw [gD_st, gD_st, gD_st]
  rw [if_neg (show ¬ q = gA t + 2 by omega), if_neg (show ¬ q = gA t + 1 by omega), if_neg (show ¬ q = gA t + 0 by omega), if_neg (show ¬ q = gA t + 6 by omega), if_neg (show ¬ q = gA t + 6 by omega), if_neg (show ¬ q = gA t + 6 by omega), if_neg (show ¬ q = gA t + 7 by omega), if_neg (show ¬ q = gA t + 7 by omega), if_neg (show ¬ q = gA t + 7 by omega)]
  simp [gD]
theorem gN_st {k q : Nat} : gN w t br pr bo (k + 1) 4 q = gN w t br pr bo k 4 q + (if q = gA t + br k then gI w t bo k - gV w t bo k else 0) + (if q = (gA t + 3) + pr k then gI w t bo k - gV w t bo k else 0) + (if q = gA t + 6 then gV w t bo k else 0) + (if q = gA t + 7 then gI w t bo k else 0) := by
  have e : ∀ x, gBe (gN w t br pr bo k) k t (bo k) x = gBe w k t (bo k) x := fun x => gBe_cg (gN_o (by decide) k) (gN_o (by decide) k) (gN_o (by decide) k)
  have e1 : gI (gN w t br pr bo k) t bo k = gI w t bo k := e 0
  have e2 : gV (gN w t br pr bo k) t bo k = gV w t bo k := by unfold gV; rw [e, e]
  rw [gN, uA_at, uA_at, uA_at, uA_at, e1, e2]
theorem gN_a {j : Nat} (hj : j < 3) : ∀ n, (∀ k, k < n → br k < 3 ∧ pr k < 3) → gN w t br pr bo n 4 (gA t + j) = w 4 (gA t + j) + S32 (fun k => if br k = j then gI w t bo k - gV w t bo k else 0) n
  | 0, _ => by rw [S32, Int32.add_zero]; rfl
  | n + 1, h => by
    have h1 := h n (by omega)
    rw [gN_st, gN_a hj n (fun k hk => h k (by omega)), S32, if_neg (show ¬ gA t + j = gA t + 3 + pr n by omega), if_neg (show ¬ gA t + j = gA t + 6 by omega), if_neg (show ¬ gA t + j = gA t + 7 by omega), Int32.add_zero, Int32.add_zero, Int32.add_zero, Int32.add_assoc]
    by_cases e : br n = j
    · rw [if_pos (show gA t + j = gA t + br n by omega), if_pos e]
    · rw [if_neg (show ¬ gA t + j = gA t + br n by omega), if_neg e]
theorem gN_b {j : Nat} (hj : j < 3) : ∀ n, (∀ k, k < n → br k < 3 ∧ pr k < 3) → gN w t br pr bo n 4 ((gA t + 3) + j) = w 4 ((gA t + 3) + j) + S32 (fun k => if pr k = j then gI w t bo k - gV w t bo k else 0) n
  | 0, _ => by rw [S32, Int32.add_zero]; rfl
  | n + 1, h => by
    have h1 := h n (by omega)
    rw [gN_st, gN_b hj n (fun k hk => h k (by omega)), S32, if_neg (show ¬ gA t + 3 + j = gA t + br n by omega), if_neg (show ¬ gA t + 3 + j = gA t + 6 by omega), if_neg (show ¬ gA t + 3 + j = gA t + 7 by omega), Int32.add_zero, Int32.add_zero, Int32.add_zero, Int32.add_assoc]
    by_cases e : pr n = j
    · rw [if_pos (show gA t + 3 + j = gA t + 3 + pr n by omega), if_pos e]
    · rw [if_neg (show ¬ gA t + 3 + j = gA t + 3 + pr n by omega), if_neg e]
theorem gN_6 : ∀ n, (∀ k, k < n → br k < 3 ∧ pr k < 3) → gN w t br pr bo n 4 (gA t + 6) = w 4 (gA t + 6) + S32 (gV w t bo) n
  | 0, _ => by rw [S32, Int32.add_zero]; rfl
  | n + 1, h => by
    have h1 := h n (by omega)
    rw [gN_st, gN_6 n (fun k hk => h k (by omega)), S32, if_neg (show ¬ gA t + 6 = gA t + br n by omega), if_neg (show ¬ gA t + 6 = gA t + 3 + pr n by omega), if_pos rfl, if_neg (show ¬ gA t + 6 = gA t + 7 by omega), Int32.add_zero, Int32.add_zero, Int32.add_zero, Int32.add_assoc]
theorem gN_7 : ∀ n, (∀ k, k < n → br k < 3 ∧ pr k < 3) → gN w t br pr bo n 4 (gA t + 7) = w 4 (gA t + 7) + S32 (gI w t bo) n
  | 0, _ => by rw [S32, Int32.add_zero]; rfl
  | n + 1, h => by
    have h1 := h n (by omega)
    rw [gN_st, gN_7 n (fun k hk => h k (by omega)), S32, if_neg (show ¬ gA t + 7 = gA t + br n by omega), if_neg (show ¬ gA t + 7 = gA t + 3 + pr n by omega), if_neg (show ¬ gA t + 7 = gA t + 6 by omega), if_pos rfl, Int32.add_zero, Int32.add_zero, Int32.add_zero, Int32.add_assoc]
theorem gN_x {q : Nat} (hq : q < gA t ∨ gA t + 8 ≤ q) : ∀ n, (∀ k, k < n → br k < 3 ∧ pr k < 3) → gN w t br pr bo n 4 q = w 4 q
  | 0, _ => rfl
  | n + 1, h => by
    have h1 := h n (by omega)
    rw [gN_st, gN_x hq n (fun k hk => h k (by omega)), if_neg (show ¬ q = gA t + br n by omega), if_neg (show ¬ q = gA t + 3 + pr n by omega), if_neg (show ¬ q = gA t + 6 by omega), if_neg (show ¬ q = gA t + 7 by omega), Int32.add_zero, Int32.add_zero, Int32.add_zero, Int32.add_zero]
end GM
