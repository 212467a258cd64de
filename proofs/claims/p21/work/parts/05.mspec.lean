/-! ===== numbers (mine) ===== -/
def mIn (v lo hi : Int32) : Int32 := if v < lo then 0 else if hi < v then 0 else 1
theorem mIn_T {v lo hi : Int32} (h : ¬ mIn v lo hi = 0) : ¬ v < lo ∧ ¬ hi < v := by
  unfold mIn at h
  by_cases h1 : v < lo
  · rw [if_pos h1] at h; exact absurd rfl h
  · by_cases h2 : hi < v
    · rw [if_neg h1, if_pos h2] at h; exact absurd rfl h
    · exact ⟨h1, h2⟩
theorem mIn_01 {v lo hi : Int32} : mIn v lo hi = 0 ∨ mIn v lo hi = 1 := by
  unfold mIn
  split
  · exact Or.inl rfl
  · split
    · exact Or.inl rfl
    · exact Or.inr rfl
theorem mIn_nar {v lo hi : Int32} : narrow .boolean (.int (mIn v lo hi)) = .int (mIn v lo hi) := by
  rcases mIn_01 (v := v) (lo := lo) (hi := hi) with h | h <;> rw [h] <;> rfl
abbrev MS : Type := Nat → Nat → Int32
def d12 (x : Int64) : Int32 := (x / 120000).toInt32
theorem iinc1 {k : Nat} : nI k + Int32.ofInt 1 = nI (k + 1) := (nI_succ k).symm
theorem iinc7 {k : Nat} : nI k + Int32.ofInt 7 = nI (k + 7) := by
  rw [show Int32.ofInt 7 = nI 7 from rfl, nI_add]
theorem ix6 {i k : Nat} : (6 : Int32) * nI i + nI k = nI (6 * i + k) := by rw [show (6 : Int32) = nI 6 from rfl, pk_mul, nI_add]
theorem ix3 {i k : Nat} : (3 : Int32) * nI i + nI k = nI (3 * i + k) := by rw [show (3 : Int32) = nI 3 from rfl, pk_mul, nI_add]
theorem lcmp_eq {x y : Int64} (h : lg_cmp x y = 0) : x = y := by
  unfold lg_cmp at h
  split at h
  · cases h
  · split at h
    · assumption
    · cases h
theorem lcmp_ne {x y : Int64} (h : ¬ lg_cmp x y = 0) : ¬ x = y := fun e => h (by
  subst e
  simp [lg_cmp])
theorem cnI {i : Nat} (h : i < 2 ^ 31) : cn (nI i) = i := nI_clamp h
theorem n6lt {q : Nat} (h : ¬ (6 : Int32) ≤ nI q) (h2 : q < 2 ^ 31) : q < 6 := by
  rcases Nat.lt_or_ge q 6 with h1 | h1
  · exact h1
  · exact absurd (nI_le h1 h2) h
/-- an index that 'in' has let through -/
theorem inN {x : Int32} {M : Nat} (h : ¬ mIn x 0 (nI M) = 0) (hM : M < 2 ^ 31) : ∃ i, i ≤ M ∧ x = nI i :=
  ⟨cn x, cl_le (mIn_T h).1 (mIn_T h).2 hM, cl_nI (mIn_T h).1⟩
theorem in1N {x : Int32} {M : Nat} (h : ¬ mIn x 1 (nI M) = 0) (hM : M < 2 ^ 31) : ∃ i, i ≤ M ∧ 1 ≤ i ∧ x = nI i := by
  obtain ⟨h1, h2⟩ := mIn_T h
  have h0 := lt_1_0 h1
  refine ⟨cn x, cl_le h0 h2 hM, ?_, cl_nI h0⟩
  rcases Nat.eq_zero_or_pos (cn x) with q | q
  · have e := cl_nI h0
    rw [q] at e
    rw [e] at h1
    exact absurd (by decide) h1
  · exact q
theorem inL {x : Int32} {n : Nat} (h : ¬ mIn x 0 (nI n - 1) = 0) (hn : n < 2 ^ 31) : ∃ i, i < n ∧ x = nI i := by
  cases n with
  | zero =>
    obtain ⟨h1, h2⟩ := mIn_T h
    obtain ⟨j, hj, rfl⟩ := nI_of h1
    exfalso
    refine h2 ?_
    rw [Int32.lt_iff_toInt_lt, nI_toInt hj]
    have : (nI 0 - 1).toInt = -1 := by decide
    omega
  | succ k =>
    rw [nI_pred] at h
    obtain ⟨i, hi, e⟩ := inN h (by omega)
    exact ⟨i, by omega, e⟩
theorem S32_s {f : Nat → Int32} {k : Nat} : S32 f k + f k = S32 f (k + 1) := rfl
theorem D32_s {x : Int32} {f : Nat → Int32} {k : Nat} : D32 x f k - f k = D32 x f (k + 1) := rfl
