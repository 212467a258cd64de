/-! ===== book and model side by side (mine) ===== -/
def LR (w v : MS) (i p bo t : Nat) : Prop := w 0 0 = v 7 i ∧ w 0 1 = v 8 i ∧ w 0 2 = v 9 i ∧ w 0 3 = v 11 i ∧ w 0 4 = (if v 11 i = 0 then 0 else v 10 i) ∧ (v 7 i = nI (cn (v 7 i)) ∧ cn (v 7 i) < 3) ∧ (v 8 i = nI (cn (v 8 i)) ∧ cn (v 8 i) < 3) ∧ (w 0 7 = nI p ∧ p ≤ 6) ∧ (v 12 i = nI bo ∧ bo ≤ t) ∧ (p = 6 ∨ p = t - bo) ∧ ∀ k, k < 6 → v 13 (6 * i + k) = (if k < p then 0 else w 1 k) ∧ (w 1 k = 0 ∨ v 14 (6 * i + k) = w 2 k)
def RC (b v : MS) (n t : Nat) : Prop := n ≤ 24 ∧ t ≤ 47 ∧ b 13 6 = nI n ∧ v 0 6 = nI n ∧ b 13 4 = nI t ∧ v 0 1 = nI t ∧ (∀ k, k < 6 → b 0 k = v 2 (k + 1)) ∧ b 13 1 = v 0 3 ∧ b 13 2 = v 0 4 ∧ b 13 3 = v 0 5 ∧ (0 ≤ (v 0 5).toInt ∧ (v 0 5).toInt ≤ 100) ∧ (∀ k, k < 3 → b 7 k = v 15 k ∧ 0 ≤ (v 15 k).toInt ∧ (v 15 k).toInt ≤ 10000000) ∧ (∀ k, k < 6 → b 14 k = v 16 k ∧ b 15 k = v 17 k ∧ 0 ≤ (v 16 k).toInt ∧ (v 16 k).toInt ≤ 5000000)
def RM (b v : MS) (t : Nat) : Prop := (∀ mo q, mo < t → q < 3 → b (16 + q) mo = v 18 (3 * mo + q) ∧ b (19 + q) mo = v 19 (3 * mo + q)) ∧ (∀ mo, mo < t → b 11 mo = v 20 mo ∧ b 12 mo = v 21 mo) ∧ (∀ k, 3 * t ≤ k → k < 144 → v 18 k = 0 ∧ v 19 k = 0)
def RN (n : Nat) (L : LNS) (v : MS) (t : Nat) (pd bo : Nat → Nat) : Prop := (∀ i, i < n → LR (L i) v i (pd i) (bo i) t) ∧ (∀ k, 6 * n ≤ k → k < 144 → v 13 k = 0)
def Rel (b : MS) (n : Nat) (L : LNS) (v : MS) (t : Nat) (pd bo : Nat → Nat) : Prop := RC b v n t ∧ RM b v t ∧ RN n L v t pd bo
theorem RM.cg {b b' v v' : MS} {t : Nat} (h : RM b v t) (hb : ∀ j, 16 ≤ j → j < 22 → b' j = b j) (h11 : b' 11 = b 11) (h12 : b' 12 = b 12) (v18 : v' 18 = v 18) (v19 : v' 19 = v 19) (v20 : v' 20 = v 20) (v21 : v' 21 = v 21) : RM b' v' t := by
  obtain ⟨h1, h2, h3⟩ := h
  refine ⟨fun mo q hm hq => ?_, fun mo hm => ?_, fun k hk hk2 => ?_⟩
  · rw [hb (16 + q) (by omega) (by omega), hb (19 + q) (by omega) (by omega), v18, v19]; exact h1 mo q hm hq
  · rw [h11, h12, v20, v21]; exact h2 mo hm
  · rw [v18, v19]; exact h3 k hk hk2
/-- one call of both: the code, and where nothing was thrown the answer -/
def Okc (mm : MS × Int32) (code : Int32) (X : Nat) (ans : Int32) (R1 R0 : MS → Prop) : Prop := mm.1 0 0 = code ∧ (X = 0 → mm.2 = ans ∧ R1 mm.1) ∧ (¬ X = 0 → ¬ code = 0 ∧ R0 mm.1)
theorem Rel.mT {b : MS} {n : Nat} {L : LNS} {v : MS} {t : Nat} {pd bo : Nat → Nat} {c : Int32} (h : Rel b n L v t pd bo) : Rel b n L (mT v c) t pd bo := h
theorem Okc.no {mm : MS × Int32} {code : Int32} {X : Nat} {ans : Int32} {R1 R0 : MS → Prop} {v : MS} {c : Int32} (h : mm = (mT (mT v 0) c, 0)) (hX : ¬ X = 0) (hc : c = code) (h0 : ¬ c = 0) (hR : R0 (mT (mT v 0) c)) : Okc mm code X ans R1 R0 := by
  subst h; subst hc
  exact ⟨rfl, fun h => absurd h hX, fun _ => ⟨h0, hR⟩⟩
theorem Okc.ok {mm : MS × Int32} {code : Int32} {X : Nat} {ans : Int32} {R1 R0 : MS → Prop} (hX : X = 0) (hc : mm.1 0 0 = code) (ha : mm.2 = ans) (hR : R1 mm.1) : Okc mm code X ans R1 R0 := ⟨hc, fun _ => ⟨ha, hR⟩, fun h => absurd hX h⟩
theorem i32 {x z : Int32} {q : Int} (h : z.toInt = q) : (z ≤ x ↔ q ≤ x.toInt) ∧ (x < z ↔ x.toInt < q) ∧ (z < x ↔ q < x.toInt) ∧ (x ≤ z ↔ x.toInt ≤ q) := by
  subst h
  exact ⟨Int32.le_iff_toInt_le, Int32.lt_iff_toInt_lt, Int32.lt_iff_toInt_lt, Int32.le_iff_toInt_le⟩
theorem le3 {x : Int32} : (3 ≤ x) ↔ (2 < x) := by
  rw [(i32 (z := 3) (q := 3) rfl).1, (i32 (z := 2) (q := 2) rfl).2.2.1]; omega
theorem le6 {x : Int32} : (6 ≤ x) ↔ (5 < x) := by
  rw [(i32 (z := 6) (q := 6) rfl).1, (i32 (z := 5) (q := 5) rfl).2.2.1]; omega
theorem mInF {x lo hi : Int32} : mIn x lo hi = 0 ↔ (x < lo ∨ hi < x) := by
  unfold mIn
  by_cases h1 : x < lo
  · simp [h1]
  · by_cases h2 : hi < x <;> simp [h1, h2]
theorem r_setCurve {b : MS} {n : Nat} {L : LNS} {v : MS} {t : Nat} {pd bo : Nat → Nat} (x r : Int32) (h : Rel b n L v t pd bo) : Okc (mSetCurve v x r) (lC 1 2 0 (xSetCurve x r)) (xSetCurve x r) (b 0 (cn x - 1)) (fun v' => Rel (u2 b 0 (cn x - 1) r) n L v' t pd bo) (fun v' => Rel b n L v' t pd bo) := by
  unfold xSetCurve mSetCurve
  by_cases h1 : x < 1
  · rw [if_pos h1, if_pos (mInF.mpr (Or.inl h1))]; exact Okc.no rfl (by decide) rfl (by decide) h
  rw [if_neg h1]
  by_cases h2 : 6 < x
  · rw [if_pos h2, if_pos (mInF.mpr (Or.inr h2))]; exact Okc.no rfl (by decide) rfl (by decide) h
  rw [if_neg h2, if_neg (fun q => (mInF.mp q).elim h1 h2)]
  by_cases h3 : r < 0
  · rw [if_pos h3, if_pos (mInF.mpr (Or.inl h3))]; exact Okc.no rfl (by decide) rfl (by decide) h
  rw [if_neg h3]
  by_cases h4 : 5000 < r
  · rw [if_pos h4, if_pos (mInF.mpr (Or.inr h4))]; exact Okc.no rfl (by decide) rfl (by decide) h
  rw [if_neg h4, if_neg (fun q => (mInF.mp q).elim h3 h4)]
  obtain ⟨i, hi, rfl⟩ := inS h1 h2
  have e1 : cn (nI (i + 1)) = i + 1 := cnI (by omega)
  rw [e1]
  obtain ⟨⟨c1, c2, c3, c4, c5, c6, c7, c8⟩, hM, hN⟩ := h
  refine Okc.ok rfl rfl (c7 i hi).symm ⟨⟨c1, c2, c3, c4, c5, c6, fun k hk => ?_, c8⟩, hM.cg (fun j h1 h2 => u2_j (by omega)) rfl rfl rfl rfl rfl rfl, hN⟩
  show u2 b 0 i r 0 k = u2 (mT v 0) 2 (i + 1) r 2 (k + 1)
  by_cases e : k = i
  · subst e; rw [u2_s, u2_s]
  · rw [u2_k e, u2_k (by omega)]; exact c7 k hk
theorem r_setRates {b : MS} {n : Nat} {L : LNS} {v : MS} {t : Nat} {pd bo : Nat → Nat} (d o c : Int32) (h : Rel b n L v t pd bo) : Okc (mSetRates v d o c, 0) (lC 0 1 0 (xSetRates d o c)) (xSetRates d o c) 0 (fun v' => Rel (bSetRates b d o c) n L v' t pd bo) (fun v' => Rel b n L v' t pd bo) := by
  unfold xSetRates mSetRates
  have no : (mIn d 0 5000 = 0 ∨ mIn o 0 5000 = 0 ∨ mIn c 0 100 = 0) → Okc (if mIn d 0 5000 = 0 ∨ mIn o 0 5000 = 0 ∨ mIn c 0 100 = 0 then mT v 1 else u2 (u2 (u2 (mT v 0) 0 3 d) 0 4 o) 0 5 c, 0) (lC 0 1 0 2) 2 0 (fun v' => Rel (bSetRates b d o c) n L v' t pd bo) (fun v' => Rel b n L v' t pd bo) := fun q => by
    rw [if_pos q]; exact ⟨rfl, fun h => absurd h (by decide), fun _ => ⟨by decide, h⟩⟩
  by_cases h1 : d < 0
  · rw [if_pos h1]; exact no (Or.inl (mInF.mpr (Or.inl h1)))
  rw [if_neg h1]
  by_cases h2 : 5000 < d
  · rw [if_pos h2]; exact no (Or.inl (mInF.mpr (Or.inr h2)))
  rw [if_neg h2]
  by_cases h3 : o < 0
  · rw [if_pos h3]; exact no (Or.inr (Or.inl (mInF.mpr (Or.inl h3))))
  rw [if_neg h3]
  by_cases h4 : 5000 < o
  · rw [if_pos h4]; exact no (Or.inr (Or.inl (mInF.mpr (Or.inr h4))))
  rw [if_neg h4]
  by_cases h5 : c < 0
  · rw [if_pos h5]; exact no (Or.inr (Or.inr (mInF.mpr (Or.inl h5))))
  rw [if_neg h5]
  by_cases h6 : 100 < c
  · rw [if_pos h6]; exact no (Or.inr (Or.inr (mInF.mpr (Or.inr h6))))
  rw [if_neg h6, if_neg (fun q => by
    rcases q with q | q | q
    · exact (mInF.mp q).elim h1 h2
    · exact (mInF.mp q).elim h3 h4
    · exact (mInF.mp q).elim h5 h6)]
  obtain ⟨⟨c1, c2, c3, c4, c5, c6, c7, -, -, -, -, c12⟩, hM, hN⟩ := h
  rw [(i32 (z := 0) (q := 0) rfl).2.1] at h5
  rw [(i32 (z := 100) (q := 100) rfl).2.2.1] at h6
  exact Okc.ok rfl rfl rfl ⟨⟨c1, c2, c3, c4, c5, c6, c7, rfl, rfl, rfl, ⟨by show 0 ≤ c.toInt; omega, by show c.toInt ≤ 100; omega⟩, c12⟩, hM.cg (fun j h1 h2 => (u2_j (by omega)).trans ((u2_j (by omega)).trans (u2_j (by omega)))) rfl rfl rfl rfl rfl rfl, hN⟩
theorem mLn {w v : MS} {i p bo t : Nat} (h : LR w v i p bo t) : mLeft v i = lUnp w p := S32_congr (fun k hk => (h.2.2.2.2.2.2.2.2.2.2 k hk).1)
theorem mFu {w v : MS} {i p bo t : Nat} (h : LR w v i p bo t) : mFund v i = lFund w p := by
  refine congrArg d12 (S64_congr (fun k hk => ?_))
  obtain ⟨e1, e2⟩ := h.2.2.2.2.2.2.2.2.2.2 k hk
  show (v 13 (6 * i + k)).toInt64 * (v 14 (6 * i + k)).toInt64 = if k < p then 0 else (w 1 k).toInt64 * (w 2 k).toInt64
  rw [e1]
  by_cases hp : k < p
  · rw [if_pos hp, if_pos hp]; exact Int64.zero_mul
  · rw [if_neg hp, if_neg hp]
    rcases e2 with e2 | e2
    · rw [e2]; exact (Int64.zero_mul).trans (Int64.zero_mul).symm
    · rw [e2]
theorem mCu {w v : MS} {i p bo t : Nat} (h : LR w v i p bo t) : mCust v i = lCust w p := by
  unfold mCust lCust
  rw [mLn h, h.2.2.1]
theorem mOp {w v : MS} {i p bo t : Nat} (h : LR w v i p bo t) : mOpt v i = lOpt w p := by
  unfold mOpt lOpt
  rw [mLn h, h.2.2.2.2.1]
  by_cases e : v 11 i = 0
  · rw [if_pos e, if_pos e, show (0 : Int32).toInt64 = 0 from rfl, Int64.mul_zero]; rfl
  · rw [if_neg e, if_neg e]
theorem mBe {w v : MS} {i p bo t : Nat} (h : LR w v i p bo t) (x : Int32) : mBear v i x = bBear w p x := by
  unfold mBear bBear lOwn
  rw [mCu h, mFu h, mOp h]
theorem inLN {x : Int32} {n : Nat} (h : ¬ mIn x 0 (nI n - 1) = 0) (hn : n ≤ 24) : ∃ i, i < n ∧ x = nI i ∧ cn x = i := by
  obtain ⟨i, hi, rfl⟩ := inL h (by omega)
  exact ⟨i, hi, rfl, cnI (by omega)⟩
theorem r_left {b : MS} {n : Nat} {L : LNS} {v : MS} {t : Nat} {pd bo : Nat → Nat} (x : Int32) (h : Rel b n L v t pd bo) : Okc (mLeftA v n x) (lC 1 0 0 (if mIn x 0 (nI n - 1) = 0 then 1 else 0)) (if mIn x 0 (nI n - 1) = 0 then 1 else 0) (lUnp (L (cn x)) (pd (cn x))) (fun v' => Rel b n L v' t pd bo) (fun v' => Rel b n L v' t pd bo) := by
  unfold mLeftA
  by_cases h1 : mIn x 0 (nI n - 1) = 0
  · rw [if_pos h1, if_pos h1]; exact Okc.no rfl (by decide) rfl (by decide) h
  rw [if_neg h1, if_neg h1]
  obtain ⟨i, hi, -, e⟩ := inLN h1 h.1.1
  rw [e]
  exact Okc.ok rfl rfl (mLn (h.2.2.1 i hi)) h
theorem r_bears {b : MS} {n : Nat} {L : LNS} {v : MS} {t : Nat} {pd bo : Nat → Nat} (x w : Int32) (h : Rel b n L v t pd bo) : Okc (mBears v n x w) (lC 1 2 0 (xBears n x w)) (xBears n x w) (bBear (L (cn x)) (pd (cn x)) w) (fun v' => Rel b n L v' t pd bo) (fun v' => Rel b n L v' t pd bo) := by
  unfold mBears xBears
  by_cases h1 : mIn x 0 (nI n - 1) = 0
  · rw [if_pos h1, if_pos h1]; exact Okc.no rfl (by decide) rfl (by decide) h
  rw [if_neg h1, if_neg h1]
  by_cases h2 : mIn w 0 3 = 0
  · rw [if_pos h2, if_pos h2]; exact Okc.no rfl (by decide) rfl (by decide) h
  rw [if_neg h2, if_neg h2]
  obtain ⟨i, hi, -, e⟩ := inLN h1 h.1.1
  rw [e]
  exact Okc.ok rfl rfl (mBe (h.2.2.1 i hi) w) h
theorem inX {x : Int32} {M : Nat} (h0 : ¬ x < 0) (hM : ¬ nI M ≤ x) (h31 : M < 2 ^ 31) : ∃ i, i < M ∧ cn x = i := by
  obtain ⟨i, hi, rfl⟩ := inR h0 hM h31
  exact ⟨i, hi, cnI (by omega)⟩
theorem r_balance {b : MS} {n : Nat} {L : LNS} {v : MS} {t : Nat} {pd bo : Nat → Nat} (x : Int32) (h : Rel b n L v t pd bo) : Okc (mBal v x) (lC 1 0 0 (x3 x)) (x3 x) (b 7 (cn x)) (fun v' => Rel b n L v' t pd bo) (fun v' => Rel b n L v' t pd bo) := by
  unfold mBal x3
  by_cases h1 : x < 0
  · rw [if_pos h1, if_pos (mInF.mpr (Or.inl h1))]; exact Okc.no rfl (by decide) rfl (by decide) h
  rw [if_neg h1]
  by_cases h2 : 3 ≤ x
  · rw [if_pos h2, if_pos (mInF.mpr (Or.inr (le3.mp h2)))]; exact Okc.no rfl (by decide) rfl (by decide) h
  rw [if_neg h2, if_neg (fun q => (mInF.mp q).elim h1 (fun q => h2 (le3.mpr q)))]
  obtain ⟨i, hi, e⟩ := inX (M := 3) h1 h2 (by decide)
  rw [e]
  exact Okc.ok rfl rfl ((h.1.2.2.2.2.2.2.2.2.2.2.2.1 i hi).1).symm h
theorem r_tranche {b : MS} {n : Nat} {L : LNS} {v : MS} {t : Nat} {pd bo : Nat → Nat} (x : Int32) (h : Rel b n L v t pd bo) : Okc (mTra v x) (lC 1 0 0 (x6 x)) (x6 x) (b 14 (cn x)) (fun v' => Rel b n L v' t pd bo) (fun v' => Rel b n L v' t pd bo) := by
  unfold mTra x6
  by_cases h1 : x < 0
  · rw [if_pos h1, if_pos (mInF.mpr (Or.inl h1))]; exact Okc.no rfl (by decide) rfl (by decide) h
  rw [if_neg h1]
  by_cases h2 : 6 ≤ x
  · rw [if_pos h2, if_pos (mInF.mpr (Or.inr (le6.mp h2)))]; exact Okc.no rfl (by decide) rfl (by decide) h
  rw [if_neg h2, if_neg (fun q => (mInF.mp q).elim h1 (fun q => h2 (le6.mpr q)))]
  obtain ⟨i, hi, e⟩ := inX (M := 6) h1 h2 (by decide)
  rw [e]
  exact Okc.ok rfl rfl ((h.1.2.2.2.2.2.2.2.2.2.2.2.2 i hi).1).symm h
theorem nI_int {t : Nat} (h : t < 2 ^ 31) : (nI t).toInt = t := Int32.toInt_ofNat_of_lt h
theorem nI_m1 {t : Nat} (h : t < 2 ^ 31) : (nI t - 1).toInt = (t : Int) - 1 := by
  have h1 := Int32.toInt_sub (nI t) 1
  rw [nI_int h, show (1 : Int32).toInt = 1 from rfl] at h1
  rw [h1]
  exact Int.bmod_eq_of_le (by omega) (by omega)
theorem bEnF {t : Nat} {x : Int32} (ht : t ≤ 47) : bEn t x = 0 ↔ mIn x 0 (nI t - 1) = 0 := by
  rw [mInF, (i32 (nI_m1 (t := t) (by omega))).2.2.1]
  unfold bEn
  by_cases h1 : x < 0
  · simp [h1]
  · by_cases h2 : nI t ≤ x
    · have h3 := h2
      rw [(i32 (nI_int (t := t) (by omega))).1] at h3
      simp [h1, h2]; omega
    · have h3 := h2
      rw [(i32 (nI_int (t := t) (by omega))).1] at h3
      simp [h1, h2]; omega
theorem bEnT {t : Nat} {x : Int32} (ht : t ≤ 47) (h : ¬ mIn x 0 (nI t - 1) = 0) : ∃ i, i < t ∧ cn x = i := by
  obtain ⟨i, hi, rfl⟩ := inL h (by omega)
  exact ⟨i, hi, cnI (by omega)⟩
theorem r_treasury {b : MS} {n : Nat} {L : LNS} {v : MS} {t : Nat} {pd bo : Nat → Nat} (mo : Int32) (h : Rel b n L v t pd bo) : Okc (mTre v t mo) (lC 1 0 0 (xMo t mo)) (xMo t mo) (b 11 (cn mo)) (fun v' => Rel b n L v' t pd bo) (fun v' => Rel b n L v' t pd bo) := by
  unfold mTre xMo
  by_cases h1 : mIn mo 0 (nI t - 1) = 0
  · rw [if_pos h1, if_pos ((bEnF h.1.2.1).mpr h1)]; exact Okc.no rfl (by decide) rfl (by decide) h
  rw [if_neg h1, if_neg (fun q => h1 ((bEnF h.1.2.1).mp q))]
  obtain ⟨i, hi, e⟩ := bEnT h.1.2.1 h1
  rw [e]
  exact Okc.ok rfl rfl ((h.2.1.2.1 i hi).1).symm h
theorem r_interest {b : MS} {n : Nat} {L : LNS} {v : MS} {t : Nat} {pd bo : Nat → Nat} (mo : Int32) (h : Rel b n L v t pd bo) : Okc (mInt v t mo) (lC 1 0 0 (xMo t mo)) (xMo t mo) (b 12 (cn mo)) (fun v' => Rel b n L v' t pd bo) (fun v' => Rel b n L v' t pd bo) := by
  unfold mInt xMo
  by_cases h1 : mIn mo 0 (nI t - 1) = 0
  · rw [if_pos h1, if_pos ((bEnF h.1.2.1).mpr h1)]; exact Okc.no rfl (by decide) rfl (by decide) h
  rw [if_neg h1, if_neg (fun q => h1 ((bEnF h.1.2.1).mp q))]
  obtain ⟨i, hi, e⟩ := bEnT h.1.2.1 h1
  rw [e]
  exact Okc.ok rfl rfl ((h.2.1.2.1 i hi).2).symm h
theorem r_margin {b : MS} {n : Nat} {L : LNS} {v : MS} {t : Nat} {pd bo : Nat → Nat} (x mo : Int32) (h : Rel b n L v t pd bo) : Okc (mMar v t x mo) (lC 1 0 0 (xMar t x mo)) (xMar t x mo) (b (16 + cn x) (cn mo)) (fun v' => Rel b n L v' t pd bo) (fun v' => Rel b n L v' t pd bo) := by
  unfold mMar xMar
  by_cases h1 : x < 0
  · rw [if_pos h1, if_pos (Or.inl (mInF.mpr (Or.inl h1)))]; exact Okc.no rfl (by decide) rfl (by decide) h
  rw [if_neg h1]
  by_cases h2 : 3 ≤ x
  · rw [if_pos h2, if_pos (Or.inl (mInF.mpr (Or.inr (le3.mp h2))))]; exact Okc.no rfl (by decide) rfl (by decide) h
  rw [if_neg h2]
  by_cases h3 : mIn mo 0 (nI t - 1) = 0
  · rw [if_pos ((bEnF h.1.2.1).mpr h3), if_pos (Or.inr h3)]; exact Okc.no rfl (by decide) rfl (by decide) h
  rw [if_neg (fun q => h3 ((bEnF h.1.2.1).mp q)), if_neg (fun q => q.elim (fun q => (mInF.mp q).elim h1 (fun q => h2 (le3.mpr q))) h3)]
  obtain ⟨i, hi, e⟩ := inX (M := 3) h1 h2 (by decide)
  obtain ⟨j, hj, e2⟩ := bEnT h.1.2.1 h3
  rw [e, e2]
  exact Okc.ok rfl rfl ((h.2.1.1 j i hj hi).1).symm h
theorem r_byProduct {b : MS} {n : Nat} {L : LNS} {v : MS} {t : Nat} {pd bo : Nat → Nat} (x mo : Int32) (h : Rel b n L v t pd bo) : Okc (mPro v t x mo) (lC 1 0 0 (xMar t x mo)) (xMar t x mo) (b (19 + cn x) (cn mo)) (fun v' => Rel b n L v' t pd bo) (fun v' => Rel b n L v' t pd bo) := by
  unfold mPro xMar
  by_cases h1 : x < 0
  · rw [if_pos h1, if_pos (Or.inl (mInF.mpr (Or.inl h1)))]; exact Okc.no rfl (by decide) rfl (by decide) h
  rw [if_neg h1]
  by_cases h2 : 3 ≤ x
  · rw [if_pos h2, if_pos (Or.inl (mInF.mpr (Or.inr (le3.mp h2))))]; exact Okc.no rfl (by decide) rfl (by decide) h
  rw [if_neg h2]
  by_cases h3 : mIn mo 0 (nI t - 1) = 0
  · rw [if_pos ((bEnF h.1.2.1).mpr h3), if_pos (Or.inr h3)]; exact Okc.no rfl (by decide) rfl (by decide) h
  rw [if_neg (fun q => h3 ((bEnF h.1.2.1).mp q)), if_neg (fun q => q.elim (fun q => (mInF.mp q).elim h1 (fun q => h2 (le3.mpr q))) h3)]
  obtain ⟨i, hi, e⟩ := inX (M := 3) h1 h2 (by decide)
  obtain ⟨j, hj, e2⟩ := bEnT h.1.2.1 h3
  rw [e, e2]
  exact Okc.ok rfl rfl ((h.2.1.1 j i hj hi).2).symm h
theorem bSmE {F F' : Nat → Int32} {n : Nat} (h : ∀ k, k < n → F k = F' k) : ∀ m, n ≤ m → S32 (bSm n F) m = S32 F' n := by
  intro m hm
  obtain ⟨d, rfl⟩ := Nat.exists_eq_add_of_le hm
  induction d with
  | zero => exact S32_congr (fun k hk => by rw [bSm, if_pos (show k < n from hk)]; exact h k hk)
  | succ d ih => exact (bSm_k (Nat.le_add_right n d)).trans (ih (Nat.le_add_right n d))
theorem r_due {b : MS} {n : Nat} {L : LNS} {v : MS} {t : Nat} {pd bo : Nat → Nat} (x : Int32) (h : Rel b n L v t pd bo) : Okc (mDue v bo n t x) (lC 0 1 0 (xDue x)) (xDue x) (S32 (bSm n (bDu L pd (cn x))) 24) (fun v' => Rel b n L v' t pd bo) (fun v' => Rel b n L v' t pd bo) := by
  unfold mDue xDue
  by_cases h1 : x < 0
  · rw [if_pos h1, if_pos (mInF.mpr (Or.inl h1))]; exact Okc.no rfl (by decide) rfl (by decide) h
  rw [if_neg h1]
  by_cases h2 : 6 ≤ x
  · rw [if_pos h2, if_pos (mInF.mpr (Or.inr (le6.mp h2)))]; exact Okc.no rfl (by decide) rfl (by decide) h
  rw [if_neg h2, if_neg (fun q => (mInF.mp q).elim h1 (fun q => h2 (le6.mpr q)))]
  refine Okc.ok rfl rfl (bSmE (fun l hl => ?_) 24 h.1.1).symm h
  obtain ⟨-, -, -, -, -, -, -, ⟨-, hp⟩, ⟨-, hbo⟩, hpb, hk⟩ := h.2.2.1 l hl
  show lAh (L l) (pd l) (cn x) = (if t + cn x - bo l < 6 then v 13 (6 * l + (t + cn x - bo l)) else 0)
  unfold lAh
  generalize cn x = z
  by_cases e : t + z - bo l < 6
  · rw [if_pos e, (hk _ e).1]
    rcases hpb with e6 | e6
    · rw [e6, if_neg (by omega), if_pos e]
    · rw [show pd l + z = t + z - bo l by omega, if_pos e, if_neg (by omega)]
  · rw [if_neg e, if_neg (by omega)]
