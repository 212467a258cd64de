/-! ===== book and law's rows side by side (mine) ===== -/
theorem i32 {x z : Int32} {q : Int} (h : z.toInt = q) : (z ≤ x ↔ q ≤ x.toInt) ∧ (x < z ↔ x.toInt < q) ∧ (z < x ↔ q < x.toInt) ∧ (x ≤ z ↔ x.toInt ≤ q) := by
  subst h
  exact ⟨Int32.le_iff_toInt_le, Int32.lt_iff_toInt_lt, Int32.lt_iff_toInt_lt, Int32.le_iff_toInt_le⟩
theorem nI_int {t : Nat} (h : t < 2 ^ 31) : (nI t).toInt = t := Int32.toInt_ofNat_of_lt h
theorem nLE {a b : Nat} (ha : a < 1000) (hb : b < 1000) : nI a ≤ nI b ↔ a ≤ b := by
  rw [Int32.le_iff_toInt_le, nI_int (by omega), nI_int (by omega)]; omega
theorem nLT {a b : Nat} (ha : a < 1000) (hb : b < 1000) : nI a < nI b ↔ a < b := by
  rw [Int32.lt_iff_toInt_lt, nI_int (by omega), nI_int (by omega)]; omega
theorem nEQ {a b : Nat} (ha : a < 1000) (hb : b < 1000) : nI a = nI b ↔ a = b :=
  ⟨fun h => by rw [← cnI (i := a) (by omega), ← cnI (i := b) (by omega), h], fun h => by rw [h]⟩
theorem nSB {a b : Nat} (h : b ≤ a) : nI a - nI b = nI (a - b) := pk_sub h
theorem bSmE {F F' : Nat → Int32} {n : Nat} (h : ∀ k, k < n → F k = F' k) : ∀ m, n ≤ m → S32 (bSm n F) m = S32 F' n := by
  intro m hm
  obtain ⟨d, rfl⟩ := Nat.exists_eq_add_of_le hm
  induction d with
  | zero => exact S32_congr (fun k hk => by rw [bSm, if_pos (show k < n from hk)]; exact h k hk)
  | succ d ih => exact (bSm_k (Nat.le_add_right n d)).trans (ih (Nat.le_add_right n d))
/-- the k-th part of am over mo months -/
def gPt (am : Int32) (mo k : Nat) : Int32 := if k + 1 < mo then am / nI mo else if k + 1 = mo then am - am / nI mo * nI mo + am / nI mo else 0
/-- loan i in the book (v), in the law's rows (w): p parts paid, born in bo, mo months -/
def PL (v w : MS) (i t p bo mo : Nat) : Prop := (w 1 (8 * i) = v 0 0 ∧ w 1 (8 * i) = nI (cn (w 1 (8 * i))) ∧ cn (w 1 (8 * i)) < 3 ∧ ∀ k, k < 6 → 0 ≤ (v 1 k).toInt ∧ (v 1 k).toInt ≤ 10000000) ∧ (w 1 ((8 * i) + 1) = v 0 1 ∧ w 1 ((8 * i) + 1) = nI (cn (w 1 ((8 * i) + 1))) ∧ cn (w 1 ((8 * i) + 1)) < 3) ∧ w 1 ((8 * i) + 3) = v 0 2 ∧ v 0 3 = (if 0 ≤ w 1 ((8 * i) + 6) then 1 else 0) ∧ v 0 4 = (if 0 ≤ w 1 ((8 * i) + 6) then w 1 ((8 * i) + 6) else 0) ∧ (v 0 7 = nI p ∧ p ≤ 6) ∧ (w 1 ((8 * i) + 5) = nI bo ∧ bo ≤ t) ∧ (w 1 ((8 * i) + 4) = nI mo ∧ 1 ≤ mo ∧ mo ≤ 6) ∧ ((w 1 ((8 * i) + 7) = 1 ∧ p = 6) ∨ (¬ w 1 ((8 * i) + 7) = 1 ∧ (p = t - bo ∨ (p = 6 ∧ 6 ≤ t - bo)))) ∧ ∀ k, k < 6 → v 1 k = gPt (w 1 ((8 * i) + 2)) mo k ∧ v 2 k = w 2 ((6 * i) + k)
def PC (b w : MS) (n t : Nat) : Prop := n ≤ 8 ∧ t ≤ 47 ∧ b 13 6 = nI n ∧ w 0 1 = nI n ∧ b 13 4 = nI t ∧ w 0 0 = nI t ∧ (∀ k, k < 6 → b 0 k = w 0 (8 + k)) ∧ b 13 1 = w 0 2 ∧ b 13 2 = w 0 3 ∧ b 13 3 = w 0 4 ∧ (0 ≤ (w 0 4).toInt ∧ (w 0 4).toInt ≤ 100) ∧ 0 ≤ (w 0 3).toInt ∧ (∀ k, k < 3 → b 7 k = w 0 (5 + k) ∧ 0 ≤ (w 0 (5 + k)).toInt ∧ (w 0 (5 + k)).toInt ≤ 10000000) ∧ ∀ k, k < 6 → b 14 k = w 3 k ∧ b 15 k = w 3 (6 + k)
def PM (b w : MS) (t : Nat) : Prop := ∀ mo, mo < t → t ≤ mo + 8 → (∀ q, q < 3 → b (16 + q) mo = w 4 (gA mo + q) ∧ b (19 + q) mo = w 4 ((gA mo + 3) + q)) ∧ b 11 mo = w 4 (gA mo + 6) ∧ b 12 mo = w 4 (gA mo + 7)
def PR (b w : MS) (n : Nat) (L : LNS) (t : Nat) (pd bo mo : Nat → Nat) : Prop := PC b w n t ∧ PM b w t ∧ ∀ i, i < n → PL (L i) w i t (pd i) (bo i) (mo i)
/-- a loan's part, of the book's rows, beyond them 0 -/
def vPt (v : MS) (k : Nat) : Int32 := if k < 6 then v 1 k else 0
theorem gP_v {v w : MS} {i t p bo mo : Nat} (h : PL v w i t p bo mo) (h0 : w 0 0 = nI t) (ht : t ≤ 47) {k : Nat} (hk : k ≤ 100) : gPart w i (bo + k) = if k < p then 0 else vPt v k := by
  obtain ⟨-, -, -, -, -, ⟨-, hp6⟩, ⟨h5, hbo⟩, ⟨h4, hm1, hm6⟩, hpd, hk6⟩ := h
  unfold gPart
  rw [h0, h5, h4, nSB (show bo ≤ bo + k by omega), show bo + k - bo = k by omega, nI_1 k]
  have e1 : nI (bo + k) < nI t ↔ bo + k < t := nLT (by omega) (by omega)
  have e2 : nI (k + 1) ≤ nI mo ↔ k + 1 ≤ mo := nLE (by omega) (by omega)
  have e3 : nI mo ≤ nI (k + 1) ↔ mo ≤ k + 1 := nLE (by omega) (by omega)
  have ev : vPt v k = gPt (w 1 ((8 * i) + 2)) mo k := by
    unfold vPt
    by_cases h6 : k < 6
    · rw [if_pos h6, (hk6 k h6).1]
    · rw [if_neg h6]; unfold gPt; rw [if_neg (by omega), if_neg (by omega)]
  rw [ev]
  rcases hpd with ⟨hf, hp⟩ | ⟨hf, hp⟩
  · rw [if_pos hf]
    by_cases h6 : k < p
    · rw [if_pos h6]
    · rw [if_neg h6]; unfold gPt; rw [if_neg (by omega), if_neg (by omega)]
  · rw [if_neg hf]
    by_cases ht2 : bo + k < t
    · rw [if_pos (e1.mpr ht2)]
      by_cases h6 : k < p
      · rw [if_pos h6]
      · rw [if_neg h6]; unfold gPt; rw [if_neg (by omega), if_neg (by omega)]
    · rw [if_neg (fun q => ht2 (e1.mp q)), if_neg (show ¬ k < p by omega)]
      unfold gPt
      by_cases hkm : k + 1 ≤ mo
      · rw [if_pos (e2.mpr hkm)]
        by_cases hkl : k + 1 < mo
        · rw [if_neg (fun q => absurd (e3.mp q) (by omega)), if_pos hkl]
        · rw [if_pos (e3.mpr (by omega)), if_neg hkl, if_pos (by omega)]
      · rw [if_neg (fun q => hkm (e2.mp q)), if_neg (by omega), if_neg (by omega)]
/-- a sum from the first part not paid, over six -/
theorem sft {Q : Nat → Int32} {p : Nat} (hp : p ≤ 6) (h : ∀ k, 6 ≤ k → Q k = 0) : S32 (fun j => Q (p + j)) 6 = S32 (fun k => if k < p then 0 else Q k) 6 := by
  have h6 := h 6 (by decide)
  have h7 := h 7 (by decide)
  have h8 := h 8 (by decide)
  have h9 := h 9 (by decide)
  have h10 := h 10 (by decide)
  have h11 := h 11 (by decide)
  rcases (show p = 0 ∨ p = 1 ∨ p = 2 ∨ p = 3 ∨ p = 4 ∨ p = 5 ∨ p = 6 by omega) with rfl | rfl | rfl | rfl | rfl | rfl | rfl <;> simp [S32, h6, h7, h8, h9, h10, h11]
theorem gL_v {v w : MS} {i t p bo mo : Nat} (h : PL v w i t p bo mo) (h0 : w 0 0 = nI t) (ht : t ≤ 47) : gLeft w i t = lUnp v p := by
  have hbo := h.2.2.2.2.2.2.1.2
  have hp6 := h.2.2.2.2.2.1.2
  have hpd := h.2.2.2.2.2.2.2.2.1
  have hz : ∀ k, 6 ≤ k → vPt v k = 0 := fun k hk => if_neg (by omega)
  have e : gLeft w i t = S32 (fun j => if (t - bo) + j < p then 0 else vPt v ((t - bo) + j)) 6 := by
    unfold gLeft
    refine S32_congr (fun j hj => ?_)
    unfold gLp
    rw [show t + j = bo + ((t - bo) + j) by omega]
    exact gP_v h h0 ht (by omega)
  rw [e]
  have e2 : lUnp v p = S32 (fun k => if k < p then 0 else vPt v k) 6 := by
    unfold lUnp
    refine S32_congr (fun k hk => ?_)
    unfold lPt vPt
    rw [if_pos hk]
  rw [e2]
  by_cases hc : p = t - bo
  · rw [← hc]
    rw [← sft hp6 hz]
    exact S32_congr (fun j hj => if_neg (by omega))
  · have hp : p = 6 := by omega
    subst hp
    rw [S32_z (f := fun k => if k < 6 then 0 else vPt v k) (fun k hk => if_pos hk)]
    refine S32_z (fun j hj => ?_)
    by_cases hq : (t - bo) + j < 6
    · exact if_pos hq
    · exact (if_neg hq).trans (hz _ (by omega))
theorem gF_v {v w : MS} {i t p bo mo : Nat} (h : PL v w i t p bo mo) (h0 : w 0 0 = nI t) (ht : t ≤ 47) : S64 (gFn w i bo) 6 = S64 (lFd v p) 6 := by
  refine S64_congr (fun k hk => ?_)
  unfold gFn lFd
  rw [gP_v h h0 ht (by omega), ← (h.2.2.2.2.2.2.2.2.2 k hk).2]
  by_cases hp : k < p
  · rw [if_pos hp, if_pos hp]; exact Int64.zero_mul
  · rw [if_neg hp, if_neg hp, vPt, if_pos hk]
theorem gB_v {v w : MS} {i t p bo mo : Nat} (h : PL v w i t p bo mo) (h0 : w 0 0 = nI t) (ht : t ≤ 47) : gBe w i t bo 0 = lCust v p ∧ gBe w i t bo 1 = lFund v p ∧ gBe w i t bo 2 = lOpt v p := by
  unfold gBe gSum lCust lFund lOpt
  refine ⟨?_, ?_, ?_⟩
  · rw [if_pos rfl, gL_v h h0 ht, h.2.2.1]
  · rw [if_neg (by decide), if_pos rfl, gF_v h h0 ht]
  · rw [if_neg (by decide), if_neg (by decide), gL_v h h0 ht, h.2.2.2.2.1]
    by_cases e : 0 ≤ w 1 ((8 * i) + 6)
    · rw [if_pos e, if_pos e]
    · rw [if_neg e, if_neg e, show (0 : Int32).toInt64 = 0 from rfl, Int64.mul_zero]
theorem sub2 {a b c : Int32} : a - (b + c) = a - b - c := (Int32.sub_sub a b c).symm
section RR
variable {b w : MS} {n : Nat} {L : LNS} {t : Nat} {pd bo mo : Nat → Nat}
theorem q_rate (h : PR b w n L t pd bo mo) : bAvg b = gRate w := by
  have hT := h.1.2.2.2.2.2.2.2.2.2.2.2.2.2
  have e1 : S64 (bAl b) 6 = S64 (gAl w) 6 := S64_congr (fun k hk => by rw [bAl, gAl, (hT k hk).1])
  have e2 : S64 (bWt b) 6 = S64 (gWt w) 6 := S64_congr (fun k hk => by rw [bWt, gWt, (hT k hk).1, (hT k hk).2]; exact Int64.mul_comm _ _)
  unfold bAvg gRate
  rw [e1, e2]
theorem q_due (h : PR b w n L t pd bo mo) {x : Nat} (hx : x < 6) : S32 (bSm n (bDu L pd x)) 24 = S32 (fun k => gPart w k (t + x)) n := by
  refine bSmE (fun k hk => ?_) 24 (by have := h.1.1; omega)
  have hl := h.2.2 k hk
  have hbo := hl.2.2.2.2.2.2.1.2
  have hp6 := hl.2.2.2.2.2.1.2
  have hpd := hl.2.2.2.2.2.2.2.2.1
  have ht := h.1.2.1
  rw [show t + x = bo k + ((t - bo k) + x) by omega, gP_v hl h.1.2.2.2.2.2.1 ht (by omega)]
  show lAh (L k) (pd k) x = _
  unfold lAh vPt
  by_cases hc : pd k = t - bo k
  · rw [hc, if_neg (show ¬ t - bo k + x < t - bo k by omega)]
  · have hp : pd k = 6 := by omega
    rw [hp, if_neg (show ¬ 6 + x < 6 by omega)]
    by_cases hq : t - bo k + x < 6
    · rw [if_pos hq]
    · rw [if_neg hq, if_neg hq]
theorem q_TA (h : PR b w n L t pd bo mo) : bTA b = gTA w := by
  obtain ⟨-, -, -, -, -, -, -, -, -, h3, -, -, h7, -⟩ := h.1
  unfold bTA bCo gTA
  rw [h3]
  have e : S64 (fun j => (b 7 j).toInt64) 3 = (w 0 5).toInt64 + (w 0 6).toInt64 + (w 0 7).toInt64 := by
    show 0 + (b 7 0).toInt64 + (b 7 1).toInt64 + (b 7 2).toInt64 = _
    rw [(h7 0 (by decide)).1, (h7 1 (by decide)).1, (h7 2 (by decide)).1, Int64.zero_add]
  rw [e]
end RR
