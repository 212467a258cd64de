/-! ===== the law's acts: repay, lend, close (mine) ===== -/
section RP
variable {b w : MS} {n : Nat} {L : LNS} {t : Nat} {pd bo mo : Nat → Nat}
theorem un_b (h : PR b w n L t pd bo mo) {i : Nat} (hi : i < n) : 0 ≤ (lUnp (L i) (pd i)).toInt := by
  have hb := (h.2.2 i hi).1.2.2.2
  refine (S32b (f := lPt (L i) (pd i)) (Nat.le_refl 6) (fun k hk => ?_)).1
  unfold lPt
  split
  · exact ⟨by decide, by decide⟩
  · exact hb k hk
/-- the law's expectation of a repayment -/
def gDue (w : MS) (i t : Nat) : Int32 := if 0 ≤ w 1 ((8 * i) + 6) ∧ ¬ gLeft w i t = 0 then gLeft w i t else -3
theorem xRp (h : PR b w n L t pd bo mo) {i : Nat} (hi : i < n) : xRepay n L pd (nI i) = (if 0 ≤ w 1 ((8 * i) + 6) ∧ ¬ gLeft w i t = 0 then 0 else 3) := by
  have hl := h.2.2 i hi
  have hn := h.1.1
  unfold xRepay
  rw [cnI (by omega), if_neg (mI_1 hi (by omega)), hl.2.2.2.1, gL_v hl h.1.2.2.2.2.2.1 h.1.2.1]
  by_cases e : 0 ≤ w 1 ((8 * i) + 6)
  · rw [if_pos e, if_neg (by decide)]
    by_cases e2 : lUnp (L i) (pd i) = 0
    · rw [if_pos e2, if_neg (fun q => q.2 e2)]
    · rw [if_neg e2, if_pos ⟨e, e2⟩]
  · rw [if_neg e, if_pos rfl, if_neg (fun q => e q.1)]
theorem s_repay (h : PR b w n L t pd bo mo) {i : Nat} (hi : i < n) : PR b (u2 w 1 ((8 * i) + 7) 1) n (u3 L i (nI 6)) t (fun j => if j = i then 6 else pd j) bo mo := by
  obtain ⟨hC, hM, hN⟩ := h
  have hj : ∀ j, j ≠ 1 → u2 w 1 ((8 * i) + 7) 1 j = w j := fun j h0 => u2_j h0
  refine ⟨?_, hM.cg (fun _ _ => rfl) (hj 4 (by decide)), fun j hjn => ?_⟩
  · unfold PC
    rw [hj 0 (by decide), hj 3 (by decide)]
    exact hC
  · dsimp only
    by_cases e : j = i
    · subst e
      rw [if_pos rfl, show u3 L j (nI 6) j = u2 (L j) 0 7 (nI 6) from if_pos rfl]
      obtain ⟨a1, a2, a3, a4, a5, a6, a7, a8, a9, a10⟩ := hN j hi
      have hk : ∀ k, k ≠ (8 * j) + 7 → u2 w 1 ((8 * j) + 7) 1 1 k = w 1 k := fun k hk => u2_k hk
      unfold PL
      rw [hk (8 * j) (by omega), hk ((8 * j) + 1) (by omega), hk ((8 * j) + 2) (by omega), hk ((8 * j) + 3) (by omega), hk ((8 * j) + 4) (by omega), hk ((8 * j) + 5) (by omega), hk ((8 * j) + 6) (by omega), hj 2 (by decide)]
      exact ⟨a1, a2, a3, a4, a5, ⟨u2_s, by omega⟩, a7, a8, Or.inl ⟨u2_s, rfl⟩, a10⟩
    · rw [if_neg e, show u3 L i (nI 6) j = L j from if_neg e]
      exact (hN j hjn).cg (fun k hk => u2_k (by omega)) (fun k hk => congrFun (hj 2 (by decide)) _) rfl
end RP
/-- the eight places of a new loan -/
def gL8 (w : MS) (n t br pr am rt mm : Nat) (v : Int32) : MS := u2 (u2 (u2 (u2 (u2 (u2 (u2 (u2 w 1 (8 * n) (nI br)) 1 ((8 * n) + 1) (nI pr)) 1 ((8 * n) + 2) (nI (1 + am))) 1 ((8 * n) + 3) (nI rt)) 1 ((8 * n) + 4) (nI (1 + mm))) 1 ((8 * n) + 5) (nI t)) 1 ((8 * n) + 6) v) 1 ((8 * n) + 7) 0
section L8
variable {w : MS} {n t br pr am rt mm : Nat} {v : Int32}
theorem gL8_j {j : Nat} (h : j ≠ 1) : gL8 w n t br pr am rt mm v j = w j := by unfold gL8; rw [u2_j h, u2_j h, u2_j h, u2_j h, u2_j h, u2_j h, u2_j h, u2_j h]
theorem gL8_r0 : gL8 w n t br pr am rt mm v 0 = w 0 := gL8_j (by decide)
theorem gL8_x {k : Nat} (h : k < 8 * n ∨ 8 * n + 8 ≤ k) : gL8 w n t br pr am rt mm v 1 k = w 1 k := by
  unfold gL8
  rw [u2_k (by omega), u2_k (by omega), u2_k (by omega), u2_k (by omega), u2_k (by omega), u2_k (by omega), u2_k (by omega), u2_k (by omega)]
theorem gL8v_7 : gL8 w n t br pr am rt mm v 1 ((8 * n) + 7) = 0 := u2_s
theorem gL8v_6 : gL8 w n t br pr am rt mm v 1 ((8 * n) + 6) = v := by unfold gL8; rw [u2_k (by omega), u2_s]
theorem gL8v_5 : gL8 w n t br pr am rt mm v 1 ((8 * n) + 5) = nI t := by unfold gL8; rw [u2_k (by omega), u2_k (by omega), u2_s]
theorem gL8v_4 : gL8 w n t br pr am rt mm v 1 ((8 * n) + 4) = nI (1 + mm) := by unfold gL8; rw [u2_k (by omega), u2_k (by omega), u2_k (by omega), u2_s]
theorem gL8v_3 : gL8 w n t br pr am rt mm v 1 ((8 * n) + 3) = nI rt := by unfold gL8; rw [u2_k (by omega), u2_k (by omega), u2_k (by omega), u2_k (by omega), u2_s]
theorem gL8v_2 : gL8 w n t br pr am rt mm v 1 ((8 * n) + 2) = nI (1 + am) := by unfold gL8; rw [u2_k (by omega), u2_k (by omega), u2_k (by omega), u2_k (by omega), u2_k (by omega), u2_s]
theorem gL8v_1 : gL8 w n t br pr am rt mm v 1 ((8 * n) + 1) = nI pr := by unfold gL8; rw [u2_k (by omega), u2_k (by omega), u2_k (by omega), u2_k (by omega), u2_k (by omega), u2_k (by omega), u2_s]
theorem gL8v_0 : gL8 w n t br pr am rt mm v 1 (8 * n) = nI br := by unfold gL8; rw [u2_k (by omega), u2_k (by omega), u2_k (by omega), u2_k (by omega), u2_k (by omega), u2_k (by omega), u2_k (by omega), u2_s]
end L8
def gFu (w : MS) (n : Nat) : Nat → MS
  | 0 => w
  | k + 1 => u2 (gFu w n k) 2 ((6 * n) + k) (w 0 (8 + k))
theorem gFu_o {w : MS} {n j : Nat} (h : j ≠ 2) : ∀ k, gFu w n k j = w j
  | 0 => rfl
  | k + 1 => (u2_j h).trans (gFu_o h k)
theorem gFu_2 {w : MS} {n q : Nat} : ∀ m, gFu w n m 2 q = if 6 * n ≤ q ∧ q < 6 * n + m then w 0 (8 + (q - 6 * n)) else w 2 q
  | 0 => by rw [if_neg (by omega)]; rfl
  | m + 1 => by
    rw [gFu]
    by_cases e : q = 6 * n + m
    · subst e; rw [u2_s, if_pos (by omega), show 6 * n + m - 6 * n = m by omega]
    · rw [u2_k e, gFu_2 m]
      by_cases h : 6 * n ≤ q ∧ q < 6 * n + m
      · rw [if_pos h, if_pos (by omega)]
      · rw [if_neg h, if_neg (by omega)]
def gLend (w : MS) (n t br pr am rt mm : Nat) (v : Int32) : MS := u2 (gFu (gL8 w n t br pr am rt mm v) n 6) 0 1 (nI (n + 1))
theorem gPt_b {A M k : Nat} (hA : A ≤ 10000000) (hM : 1 ≤ M) (hM6 : M ≤ 6) : 0 ≤ (gPt (nI A) M k).toInt ∧ (gPt (nI A) M k).toInt ≤ 10000000 := by
  have h1 : A / M * M ≤ A := Nat.div_mul_le_self A M
  have h2 : A / M ≤ A / M * M := Nat.le_mul_of_pos_right _ (by omega)
  have e1 : nI A / nI M = nI (A / M) := pk_div (by omega) (by omega) (by omega)
  unfold gPt
  rw [e1, m8, nSB h1, nI_add]
  generalize A / M * M = z at h1 h2
  generalize A / M = q at h2
  split
  · rw [nI_int (by omega)]; omega
  · split
    · rw [nI_int (by omega)]; omega
    · exact ⟨by decide, by decide⟩
theorem cR_g {A M k : Nat} (hM : 1 ≤ M) (hM6 : M ≤ 6) (hk : k < 6) : cR (nI A) (nI A / nI M) (cn (nI M)) 6 k = gPt (nI A) M k := by
  rw [cnI (by omega), cR_at hM hM6 6 (Nat.le_refl 6)]
  unfold gPt
  by_cases h1 : k + 1 < M
  · rw [if_pos h1, if_pos (by omega), if_neg (by omega)]
  · rw [if_neg h1]
    by_cases h2 : k + 1 = M
    · rw [if_pos h2, if_pos (by omega), if_pos (by omega), Int32.mul_sub, Int32.mul_one, sub3]
    · rw [if_neg h2, if_neg (by omega)]
section LN
variable {b w : MS} {n : Nat} {L : LNS} {t : Nat} {pd bo mo : Nat → Nat}
theorem s_lend (h : PR b w n L t pd bo mo) (hn : n < 8) {br pr am rt mm : Nat} (hbr : br < 3) (hpr : pr < 3) (ham : am < 10000000) (hmm : mm < 6) {v op : Int32} (hv : v = -1 ∨ v = w 0 3) (hop : op = if 0 ≤ v then 1 else 0) : PR (u2 b 13 6 (nI (n + 1))) (gLend w n t br pr am rt mm v) (n + 1) (fun i => if i = n then lNew (nI br) (nI pr) (nI rt) op (bOr b op) (cR (nI (1 + am)) (nI (1 + am) / nI (1 + mm)) (cn (nI (1 + mm))) 6) (b 0) else L i) t (fun j => if j = n then 0 else pd j) (fun j => if j = n then t else bo j) (fun j => if j = n then 1 + mm else mo j) := by
  obtain ⟨⟨c1, c2, c3, c4, c5, c6, c7, c8, c9, c10, c11, c12, c13, c14⟩, hM, hN⟩ := h
  have hj : ∀ j, j ≠ 0 → j ≠ 1 → j ≠ 2 → gLend w n t br pr am rt mm v j = w j := fun j h0 h1 h2 => (u2_j h0).trans ((gFu_o h2 6).trans (gL8_j h1))
  have hw0 : ∀ k, k ≠ 1 → gLend w n t br pr am rt mm v 0 k = w 0 k := fun k hk => by
    unfold gLend; rw [u2_k hk, gFu_o (by decide), gL8_r0]
  have hw1 : gLend w n t br pr am rt mm v 1 = gL8 w n t br pr am rt mm v 1 := (u2_j (by decide)).trans (gFu_o (by decide) 6)
  have hw2 : ∀ q, gLend w n t br pr am rt mm v 2 q = if 6 * n ≤ q ∧ q < 6 * n + 6 then w 0 (8 + (q - 6 * n)) else w 2 q := fun q => by
    unfold gLend; rw [u2_j (by decide), gFu_2, gL8_r0, gL8_j (by decide)]
  have hw01 : gLend w n t br pr am rt mm v 0 1 = nI (n + 1) := u2_s
  generalize gLend w n t br pr am rt mm v = w' at hj hw0 hw1 hw2 hw01
  refine ⟨?_, hM.cg (fun j hq => u2_j (by omega)) (hj 4 (by decide) (by decide) (by decide)), fun j hjn => ?_⟩
  · unfold PC
    rw [hw01, hw0 0 (by decide), hw0 2 (by decide), hw0 3 (by decide), hw0 4 (by decide), hj 3 (by decide) (by decide) (by decide), u2_s, u2_k (k' := 4) (by decide), u2_k (k' := 1) (by decide), u2_k (k' := 2) (by decide), u2_k (k' := 3) (by decide), u2_j (j' := 0) (by decide), u2_j (j' := 7) (by decide), u2_j (j' := 14) (by decide), u2_j (j' := 15) (by decide)]
    exact ⟨by omega, c2, rfl, rfl, c5, c6, fun k hk => by rw [hw0 (8 + k) (by omega)]; exact c7 k hk, c8, c9, c10, c11, c12, fun k hk => by rw [hw0 (5 + k) (by omega)]; exact c13 k hk, c14⟩
  · dsimp only
    by_cases e : j = n
    · subst e
      rw [if_pos rfl, if_pos rfl, if_pos rfl, if_pos rfl]
      unfold PL
      rw [hw1, gL8v_0, gL8v_1, gL8v_2, gL8v_3, gL8v_4, gL8v_5, gL8v_6, gL8v_7, cnI (show br < 2 ^ 31 by omega), cnI (show pr < 2 ^ 31 by omega)]
      refine ⟨⟨rfl, rfl, hbr, fun k hk => ?_⟩, ⟨rfl, rfl, hpr⟩, rfl, hop, ?_, ⟨rfl, by omega⟩, ⟨rfl, Nat.le_refl t⟩, ⟨rfl, by omega, by omega⟩, Or.inr ⟨by decide, Or.inl (by omega)⟩, fun k hk => ⟨cR_g (by omega) (by omega) hk, ?_⟩⟩
      · show 0 ≤ (cR (nI (1 + am)) (nI (1 + am) / nI (1 + mm)) (cn (nI (1 + mm))) 6 k).toInt ∧ (cR (nI (1 + am)) (nI (1 + am) / nI (1 + mm)) (cn (nI (1 + mm))) 6 k).toInt ≤ 10000000
        rw [cR_g (by omega) (by omega) hk]
        exact gPt_b (by omega) (by omega) (by omega)
      · show bOr b op = _
        unfold bOr
        rw [hop, c9]
        by_cases e0 : 0 ≤ v
        · rw [if_pos e0, if_pos e0, if_neg (by decide)]
          rcases hv with rfl | rfl
          · exact absurd e0 (by decide)
          · rfl
        · rw [if_neg e0, if_neg e0, if_pos rfl]
      · show b 0 k = _
        rw [hw2, if_pos (by omega), show 6 * j + k - 6 * j = k by omega]
        exact c7 k hk
    · rw [if_neg e, if_neg e, if_neg e, if_neg e]
      refine (hN j (by omega)).cg (fun k hk => ?_) (fun k hk => ?_) rfl
      · rw [hw1, gL8_x (by omega)]
      · rw [hw2, if_neg (by omega)]
end LN
