/-! ===== base, second part (mine): loops, numbers, sums ===== -/
abbrev cn (x : Int32) : Nat := x.toNatClampNeg
theorem cl_nI {t : Int32} (h : ¬ t < 0) : t = nI (cn t) := by
  obtain ⟨j, hj, rfl⟩ := nI_of h
  rw [show cn (nI j) = j from nI_clamp hj]
theorem cl_le {t : Int32} {M : Nat} (h0 : ¬ t < 0) (h : ¬ nI M < t) (hM : M < 2 ^ 31) : cn t ≤ M := by
  obtain ⟨j, hj, rfl⟩ := nI_of h0
  rw [show cn (nI j) = j from nI_clamp hj]
  exact Nat.not_lt.mp (fun q => h ((nI_ltI hM hj).mpr q))
theorem cl_lt {t : Int32} {M : Nat} (h0 : ¬ t < 0) (h : ¬ nI M ≤ t) (hM : M < 2 ^ 31) : cn t < M := by
  obtain ⟨j, hj, rfl⟩ := nI_of h0
  rw [show cn (nI j) = j from nI_clamp hj]
  exact Nat.not_le.mp (fun q => h ((nI_leI hM hj).mpr q))
theorem lt_1_0 {t : Int32} (h : ¬ t < 1) : ¬ t < 0 := fun q => h (by
  rw [Int32.lt_iff_toInt_lt] at q ⊢
  exact Int.lt_trans q (by decide))
def S32 (f : Nat → Int32) : Nat → Int32
  | 0 => 0
  | n + 1 => S32 f n + f n
def S64 (f : Nat → Int64) : Nat → Int64
  | 0 => 0
  | n + 1 => S64 f n + f n
def D32 (x : Int32) (f : Nat → Int32) : Nat → Int32
  | 0 => x
  | n + 1 => D32 x f n - f n
theorem S32_congr {f g : Nat → Int32} : ∀ {n : Nat}, (∀ k, k < n → f k = g k) → S32 f n = S32 g n
  | 0, _ => rfl
  | n + 1, h => by rw [S32, S32, S32_congr (fun k hk => h k (by omega)), h n (by omega)]
theorem S64_congr {f g : Nat → Int64} : ∀ {n : Nat}, (∀ k, k < n → f k = g k) → S64 f n = S64 g n
  | 0, _ => rfl
  | n + 1, h => by rw [S64, S64, S64_congr (fun k hk => h k (by omega)), h n (by omega)]
theorem D32_congr {x : Int32} {f g : Nat → Int32} : ∀ {n : Nat}, (∀ k, k < n → f k = g k) → D32 x f n = D32 x g n
  | 0, _ => rfl
  | n + 1, h => by rw [D32, D32, D32_congr (fun k hk => h k (by omega)), h n (by omega)]
theorem freeW {A : Nat → Prop} {ws : va_W} {H0 H : Heap} {locs : List Loc} (hD : va_D A ws) (hS : va_S A H0 H locs) (hA : ∀ q, H0.size ≤ q → A q) : ∀ q, va_A ws H.size q → A q := by
  intro q h
  rcases h with ⟨k, e, h⟩ | h
  · exact hD.2 k (q, e) h
  · exact hA q (Nat.le_trans hS.1 h)
section LOOPS
variable {p : Program} {l : Launch} {e : Env} {R : Room} {s : State} {m : MethodId} {args : Array Value} {below : List Frame} {meth : Method} {c : Code} {H : Heap} {locs : List Loc} {cells slots : Nat} {Q : State → Prop} {head nL : Nat} {ls : Array Slot} {G : va_G} {A : Nat → Prop} {H0 : Heap} {st : List Value}
/-- a loop that leaves the heap as it is -/
theorem loopW (LV : Nat → List (Nat × Value)) (b : Nat) (h0 : lv_has ls nL (LV 0)) (step : ∀ (k : Nat) (ls : Array Slot), k < b → lv_has ls nL (LV k) → (∀ ls' : Array Slot, lv_has ls' nL (LV (k + 1)) → W p l e R s m args below meth c H locs cells slots Q (F0 m head ls' st)) → W p l e R s m args below meth c H locs cells slots Q (F0 m head ls st)) (done : ∀ ls : Array Slot, lv_has ls nL (LV b) → W p l e R s m args below meth c H locs cells slots Q (F0 m head ls st)) : W p l e R s m args below meth c H locs cells slots Q (F0 m head ls st) := by
  have key : ∀ (n k : Nat), k + n = b → ∀ ls : Array Slot, lv_has ls nL (LV k) → W p l e R s m args below meth c H locs cells slots Q (F0 m head ls st) := by
    intro n
    induction n with
    | zero =>
      intro k hk ls hl
      have hk : k = b := by omega
      subst hk
      exact done ls hl
    | succ n ih =>
      intro k hk ls hl
      exact step k ls (by omega) hl (fun ls' hl' => ih (k + 1) (by omega) ls' hl')
  exact key b 0 (Nat.zero_add b) ls h0
/-- a loop from k0 on -/
theorem loopF (LV : Nat → List (Nat × Value)) (k0 b : Nat) (hkb : k0 ≤ b) (h0 : lv_has ls nL (LV k0)) (step : ∀ (k : Nat) (ls : Array Slot), k0 ≤ k → k < b → lv_has ls nL (LV k) → (∀ ls' : Array Slot, lv_has ls' nL (LV (k + 1)) → W p l e R s m args below meth c H locs cells slots Q (F0 m head ls' st)) → W p l e R s m args below meth c H locs cells slots Q (F0 m head ls st)) (done : ∀ ls : Array Slot, lv_has ls nL (LV b) → W p l e R s m args below meth c H locs cells slots Q (F0 m head ls st)) : W p l e R s m args below meth c H locs cells slots Q (F0 m head ls st) := by
  have key : ∀ (n k : Nat), k0 ≤ k → k + n = b → ∀ ls : Array Slot, lv_has ls nL (LV k) → W p l e R s m args below meth c H locs cells slots Q (F0 m head ls st) := by
    intro n
    induction n with
    | zero =>
      intro k hk0 hk ls hl
      have hk : k = b := by omega
      subst hk
      exact done ls hl
    | succ n ih =>
      intro k hk0 hk ls hl
      exact step k ls hk0 (by omega) hl (fun ls' hl' => ih (k + 1) (by omega) (by omega) ls' hl')
  exact key (b - k0) k0 (Nat.le_refl _) (by omega) ls h0
/-- a loop that writes -/
theorem loopM (LV : Nat → List (Nat × Value)) (WS : Nat → va_W) (b : Nat) (hP : va_P G vwCl (WS 0) H) (hD : va_D A (WS 0)) (hS : va_S A H0 H locs) (h0 : lv_has ls nL (LV 0))
    (step : ∀ (k : Nat) (H : Heap) (locs : List Loc) (ls : Array Slot), k < b → va_P G vwCl (WS k) H → va_D A (WS k) → va_S A H0 H locs → lv_has ls nL (LV k) → (∀ (H' : Heap) (locs' : List Loc) (ls' : Array Slot), va_P G vwCl (WS (k + 1)) H' → va_D A (WS (k + 1)) → va_S A H0 H' locs' → lv_has ls' nL (LV (k + 1)) → W p l e R s m args below meth c H' locs' cells slots Q (F0 m head ls' st)) → W p l e R s m args below meth c H locs cells slots Q (F0 m head ls st))
    (done : ∀ (H : Heap) (locs : List Loc) (ls : Array Slot), va_P G vwCl (WS b) H → va_D A (WS b) → va_S A H0 H locs → lv_has ls nL (LV b) → W p l e R s m args below meth c H locs cells slots Q (F0 m head ls st)) : W p l e R s m args below meth c H locs cells slots Q (F0 m head ls st) := by
  have key : ∀ (n k : Nat), k + n = b → ∀ (H : Heap) (locs : List Loc) (ls : Array Slot), va_P G vwCl (WS k) H → va_D A (WS k) → va_S A H0 H locs → lv_has ls nL (LV k) → W p l e R s m args below meth c H locs cells slots Q (F0 m head ls st) := by
    intro n
    induction n with
    | zero =>
      intro k hk H locs ls hP hD hS hl
      have hk : k = b := by omega
      subst hk
      exact done H locs ls hP hD hS hl
    | succ n ih =>
      intro k hk H locs ls hP hD hS hl
      exact step k H locs ls (by omega) hP hD hS hl (fun H' locs' ls' h1 h2 h3 h4 => ih (k + 1) (by omega) H' locs' ls' h1 h2 h3 h4)
  exact key b 0 (Nat.zero_add b) H locs ls hP hD hS h0
end LOOPS
