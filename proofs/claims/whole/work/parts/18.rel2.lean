/-! ===== book and model side by side: money (mine) ===== -/
theorem bm64 {x : Int} (h1 : -4611686018427387904 ≤ x) (h2 : x < 4611686018427387904) : x.bmod (2 ^ 64) = x := Int.bmod_eq_of_le (by omega) (by omega)
theorem bm32 {x : Int} (h1 : -1073741824 ≤ x) (h2 : x < 1073741824) : x.bmod (2 ^ 32) = x := Int.bmod_eq_of_le (by omega) (by omega)
theorem S64b {f : Nat → Int64} : ∀ {n : Nat}, n ≤ 6 → (∀ k, k < n → 0 ≤ (f k).toInt ∧ (f k).toInt ≤ 10000000) → 0 ≤ (S64 f n).toInt ∧ (S64 f n).toInt ≤ n * 10000000
  | 0, _, _ => by rw [S64]; decide
  | n + 1, hn, h => by
    have h1 := S64b (f := f) (n := n) (by omega) (fun k hk => h k (by omega))
    have h2 := h n (by omega)
    rw [S64, Int64.toInt_add, bm64 (by omega) (by omega)]
    omega
theorem coI {S : Int64} {c : Int32} (h1 : 0 ≤ S.toInt) (h2 : S.toInt ≤ 30000000) (h3 : 0 ≤ c.toInt) (h4 : c.toInt ≤ 100) : (S * c.toInt64 / 100).toInt = S.toInt * c.toInt / 100 ∧ 0 ≤ S.toInt * c.toInt ∧ S.toInt * c.toInt ≤ S.toInt * 100 := by
  have hp : 0 ≤ S.toInt * c.toInt := Int.mul_nonneg h1 h3
  have hp2 : S.toInt * c.toInt ≤ S.toInt * 100 := Int.mul_le_mul_of_nonneg_left h4 h1
  refine ⟨?_, hp, hp2⟩
  rw [Int64.toInt_div, Int64.toInt_mul, Int32.toInt_toInt64, show (100 : Int64).toInt = 100 from rfl]
  generalize S.toInt * c.toInt = P at hp hp2
  rw [bm64 (x := P) (by omega) (by omega), Int.tdiv_eq_ediv_of_nonneg hp, bm64 (by omega) (by omega)]
theorem coB {S : Int64} {c : Int32} (h1 : 0 ≤ S.toInt) (h2 : S.toInt ≤ 30000000) (h3 : 0 ≤ c.toInt) (h4 : c.toInt ≤ 100) : 0 ≤ ((S * c.toInt64 / 100).toInt32 / 6).toInt ∧ ((S * c.toInt64 / 100).toInt32 / 6).toInt ≤ 5000000 := by
  obtain ⟨e, hp, hp2⟩ := coI h1 h2 h3 h4
  generalize S * c.toInt64 / 100 = z at e
  generalize S.toInt * c.toInt = P at hp hp2 e
  rw [Int32.toInt_div, Int64.toInt_toInt32, show (6 : Int32).toInt = 6 from rfl, bm32 (x := z.toInt) (by omega) (by omega), Int.tdiv_eq_ediv_of_nonneg (by omega), bm32 (by omega) (by omega)]
  omega
theorem coR {x : Int32} {c : Int32} (h1 : 0 ≤ x.toInt) (h2 : x.toInt ≤ 10000000) (h3 : 0 ≤ c.toInt) (h4 : c.toInt ≤ 100) : (x.toInt64 * c.toInt64 / 100).toInt32.toInt64 = x.toInt64 * c.toInt64 / 100 ∧ (x - (x.toInt64 * c.toInt64 / 100).toInt32).toInt64 = x.toInt64 - x.toInt64 * c.toInt64 / 100 := by
  obtain ⟨e, hp, hp2⟩ := coI (S := x.toInt64) (c := c) (by rw [Int32.toInt_toInt64]; exact h1) (by rw [Int32.toInt_toInt64]; omega) h3 h4
  rw [Int32.toInt_toInt64] at e hp hp2
  generalize x.toInt64 * c.toInt64 / 100 = z at e
  generalize x.toInt * c.toInt = P at hp hp2 e
  have e3 : z.toInt32.toInt = z.toInt := by rw [Int64.toInt_toInt32, bm32 (x := z.toInt) (by omega) (by omega)]
  constructor
  · apply Int64.toInt_inj.mp
    rw [Int32.toInt_toInt64, e3]
  · apply Int64.toInt_inj.mp
    rw [Int32.toInt_toInt64, Int32.toInt_sub, e3, Int64.toInt_sub, Int32.toInt_toInt64, bm32 (by omega) (by omega), bm64 (by omega) (by omega)]
section MON
variable {b : MS} {n : Nat} {L : LNS} {v : MS} {t : Nat} {pd bo : Nat → Nat}
def RK (b v : MS) : Prop := (∀ k, k < 6 → b 0 k = v 2 (k + 1)) ∧ b 13 1 = v 0 3 ∧ b 13 3 = v 0 5 ∧ (0 ≤ (v 0 5).toInt ∧ (v 0 5).toInt ≤ 100) ∧ (∀ k, k < 3 → b 7 k = v 15 k ∧ 0 ≤ (v 15 k).toInt ∧ (v 15 k).toInt ≤ 10000000)
def RT (b v : MS) : Prop := (∀ k, k < 6 → b 14 k = v 16 k ∧ b 15 k = v 17 k ∧ 0 ≤ (v 16 k).toInt ∧ (v 16 k).toInt ≤ 5000000)
theorem rcK (h : RC b v n t) : RK b v := ⟨h.2.2.2.2.2.2.1, h.2.2.2.2.2.2.2.1, h.2.2.2.2.2.2.2.2.2.1, h.2.2.2.2.2.2.2.2.2.2.1, h.2.2.2.2.2.2.2.2.2.2.2.1⟩
theorem rcT (h : RC b v n t) : RT b v := h.2.2.2.2.2.2.2.2.2.2.2.2
theorem mCo (h : RK b v) : bTA b = mCore v / 6 ∧ 0 ≤ (mCore v / 6).toInt ∧ (mCore v / 6).toInt ≤ 5000000 := by
  obtain ⟨-, -, h3, hc, h7⟩ := h
  have e : S64 (fun j => (b 7 j).toInt64) 3 = S64 (fun k => (v 15 k).toInt64) 3 := S64_congr (fun k hk => by rw [(h7 k hk).1])
  have hb := S64b (f := fun k => (v 15 k).toInt64) (n := 3) (by decide) (fun k hk => by rw [Int32.toInt_toInt64]; exact (h7 k hk).2)
  refine ⟨?_, coB hb.1 (by omega) hc.1 hc.2⟩
  unfold bTA bCo mCore
  rw [e, h3]
theorem mAv (h : RT b v) : bAvg b = mRep v := by
  have e1 : S64 (bAl b) 6 = S64 (mRal v) 6 := S64_congr (fun k hk => by rw [bAl, mRal, (h k hk).1])
  have e2 : S64 (bWt b) 6 = S64 (mRsm v) 6 := S64_congr (fun k hk => by rw [bWt, mRsm, (h k hk).1, (h k hk).2.1])
  have hb := S64b (f := mRal v) (n := 6) (by decide) (fun k hk => by rw [mRal, Int32.toInt_toInt64]; have := (h k hk).2.2; omega)
  unfold bAvg mRep
  rw [e1, e2]
  generalize S64 (mRal v) 6 = z at hb
  by_cases ez : z = 0
  · subst ez; rw [if_pos (by decide), if_pos rfl]
  · rw [if_neg ez, if_neg]
    have hz : z.toInt ≠ 0 := fun q => ez (Int64.toInt_inj.mp q)
    have h2 : (0 : Int64) < z := Int64.lt_iff_toInt_lt.mpr (by rw [show (0 : Int64).toInt = 0 from rfl]; omega)
    have h3 : ¬ z < 0 := fun q => by
      have := Int64.lt_iff_toInt_lt.mp q
      rw [show (0 : Int64).toInt = 0 from rfl] at this; omega
    unfold lg_cmp
    simp [h2, h3, ez]
theorem mPa (h : RK b v) (ht : RT b v) {k : Nat} (hk : k < 3) : bFT b k = mPaid v k := by
  have e := mAv ht
  obtain ⟨h0, -, h3, hc, h7⟩ := h
  obtain ⟨e7, hb⟩ := h7 k hk
  unfold bFT bPd bCo mPaid mOwn
  rw [e, e7, h3, h0 0 (by decide), (coR hb.1 hb.2 hc.1 hc.2).1, (coR hb.1 hb.2 hc.1 hc.2).2]
theorem mPy (h : RK b v) {k : Nat} (hk : k < 3) : bTC b k = mPays v k := by
  obtain ⟨h0, h1, h3, hc, h7⟩ := h
  unfold bTC mPays
  rw [(h7 k hk).1, h1]
theorem r_rate (h : Rel b n L v t pd bo) : bAvg b = mRep v := mAv (rcT h.1)
end MON
