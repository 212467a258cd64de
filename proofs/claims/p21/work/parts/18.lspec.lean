/-! ===== the law's own rows, and what its methods answer (mine) ===== -/
/-- the law's five rows: months, loans, fundings, tranches, margins -/
def lwA (y : Nat → ClassId) (r : Nat → Nat) (w : MS) : va_W := [(r 0, .inl (y 0, 14, .inl (w 0))), (r 1, .inl (y 0, 64, .inl (w 1))), (r 2, .inl (y 0, 48, .inl (w 2))), (r 3, .inl (y 0, 12, .inl (w 3))), (r 4, .inl (y 0, 64, .inl (w 4)))]
theorem ag_0 {y : Nat → ClassId} {r : Nat → Nat} {w : MS} {B : va_W} : (lwA y r w ++ B)[0]? = some (r 0, .inl (y 0, 14, .inl (w 0))) := rfl
theorem ag_1 {y : Nat → ClassId} {r : Nat → Nat} {w : MS} {B : va_W} : (lwA y r w ++ B)[1]? = some (r 1, .inl (y 0, 64, .inl (w 1))) := rfl
theorem ag_2 {y : Nat → ClassId} {r : Nat → Nat} {w : MS} {B : va_W} : (lwA y r w ++ B)[2]? = some (r 2, .inl (y 0, 48, .inl (w 2))) := rfl
theorem ag_3 {y : Nat → ClassId} {r : Nat → Nat} {w : MS} {B : va_W} : (lwA y r w ++ B)[3]? = some (r 3, .inl (y 0, 12, .inl (w 3))) := rfl
theorem ag_4 {y : Nat → ClassId} {r : Nat → Nat} {w : MS} {B : va_W} : (lwA y r w ++ B)[4]? = some (r 4, .inl (y 0, 64, .inl (w 4))) := rfl
theorem as_0 {y : Nat → ClassId} {r : Nat → Nat} {w : MS} {B : va_W} {k : Nat} {z : Int32} : (lwA y r w ++ B).set 0 (r 0, .inl (y 0, 14, .inl (upd (w 0) k z))) = lwA y r (u2 w 0 k z) ++ B := rfl
theorem as_1 {y : Nat → ClassId} {r : Nat → Nat} {w : MS} {B : va_W} {k : Nat} {z : Int32} : (lwA y r w ++ B).set 1 (r 1, .inl (y 0, 64, .inl (upd (w 1) k z))) = lwA y r (u2 w 1 k z) ++ B := rfl
theorem as_2 {y : Nat → ClassId} {r : Nat → Nat} {w : MS} {B : va_W} {k : Nat} {z : Int32} : (lwA y r w ++ B).set 2 (r 2, .inl (y 0, 48, .inl (upd (w 2) k z))) = lwA y r (u2 w 2 k z) ++ B := rfl
theorem as_3 {y : Nat → ClassId} {r : Nat → Nat} {w : MS} {B : va_W} {k : Nat} {z : Int32} : (lwA y r w ++ B).set 3 (r 3, .inl (y 0, 12, .inl (upd (w 3) k z))) = lwA y r (u2 w 3 k z) ++ B := rfl
theorem as_4 {y : Nat → ClassId} {r : Nat → Nat} {w : MS} {B : va_W} {k : Nat} {z : Int32} : (lwA y r w ++ B).set 4 (r 4, .inl (y 0, 64, .inl (upd (w 4) k z))) = lwA y r (u2 w 4 k z) ++ B := rfl
theorem wL {G : va_G} {cl : List vw_C} {w1 w2 : va_W} {H : Heap} (h : va_P G cl (w1 ++ w2) H) : va_P G cl w1 H := wR (swP h)
theorem aN {y : Nat → ClassId} {r : Nat → Nat} {w : MS} : lwA y r w ++ [] = lwA y r w := rfl
/-- a number out of a script's -/
def lo (v : Int32) (M : Nat) : Nat := v.toBitVec.toNat % 2 ^ 31 % M
theorem lo_lt {v : Int32} {M : Nat} (h : 0 < M) : lo v M < M := Nat.mod_lt _ h
theorem lo_and {v : Int32} : v &&& 2147483647 = nI (v.toBitVec.toNat % 2 ^ 31) := pk_and v 31 rfl
theorem lo_rem {v : Int32} {M : Nat} (h : 0 < M) (hM : M < 2 ^ 31) : nI (v.toBitVec.toNat % 2 ^ 31) - nI (v.toBitVec.toNat % 2 ^ 31) / nI M * nI M = nI (lo v M) := pk_rem (Nat.mod_lt _ (by decide)) h hM
/-- the row of a month's margins -/
def gA (t : Nat) : Nat := 8 * (t % 8)
theorem gA_lt (t : Nat) : gA t + 8 ≤ 64 := by unfold gA; omega
theorem m8 {a b : Nat} : nI a * nI b = nI (a * b) := pk_mul a b
/-- loan k's part of the month mm -/
def gPart (w : MS) (k mm : Nat) : Int32 := if w 1 ((8 * k) + 7) = 1 then 0 else if nI mm < w 0 0 then 0 else if nI mm - w 1 ((8 * k) + 5) + 1 ≤ w 1 ((8 * k) + 4) then (if w 1 ((8 * k) + 4) ≤ nI mm - w 1 ((8 * k) + 5) + 1 then w 1 ((8 * k) + 2) - w 1 ((8 * k) + 2) / w 1 ((8 * k) + 4) * w 1 ((8 * k) + 4) + w 1 ((8 * k) + 2) / w 1 ((8 * k) + 4) else w 1 ((8 * k) + 2) / w 1 ((8 * k) + 4)) else 0
def gLp (w : MS) (i t : Nat) : Nat → Int32 := fun j => gPart w i (t + j)
def gLeft (w : MS) (i t : Nat) : Int32 := S32 (gLp w i t) 6
def gFn (w : MS) (i bo : Nat) : Nat → Int64 := fun j => (gPart w i (bo + j)).toInt64 * (w 2 ((6 * i) + j)).toInt64
def gSum (w : MS) (i t bo : Nat) (x : Int32) : Int64 := if x = 0 then (gLeft w i t).toInt64 * (w 1 ((8 * i) + 3)).toInt64 else if x = 1 then S64 (gFn w i bo) 6 else if 0 ≤ w 1 ((8 * i) + 6) then (gLeft w i t).toInt64 * (w 1 ((8 * i) + 6)).toInt64 else 0
def gBe (w : MS) (i t bo : Nat) (x : Int32) : Int32 := d12 (gSum w i t bo x)
def gAl (w : MS) : Nat → Int64 := fun k => (w 3 k).toInt64
def gWt (w : MS) : Nat → Int64 := fun k => (w 3 (6 + k)).toInt64 * (w 3 k).toInt64
def gRate (w : MS) : Int32 := if lg_cmp (S64 (gAl w) 6) 0 ≤ 0 then 0 else (S64 (gWt w) 6 / S64 (gAl w) 6).toInt32
def gTA (w : MS) : Int32 := (((w 0 5).toInt64 + (w 0 6).toInt64 + (w 0 7).toInt64) * (w 0 4).toInt64 / 100).toInt32 / 6
def gLay (w : MS) (n : Nat) : MS := u2 (u2 w 3 n (gTA w)) 3 (6 + n) (w 0 13)
def gCo (w : MS) (b : Nat) : Int64 := (w 0 (5 + b)).toInt64 * (w 0 4).toInt64 / 100
def gBr (w : MS) (b : Nat) : Int32 := d12 (gCo w b * (gRate w).toInt64 + ((w 0 (5 + b)).toInt64 - gCo w b) * (w 0 8).toInt64)
def gGv (w : MS) (b : Nat) : Int32 := d12 ((w 0 (5 + b)).toInt64 * (w 0 2).toInt64)
/-- one place more, less -/
def uA (w : MS) (k : Nat) (x : Int32) : MS := u2 w 4 k (w 4 k + x)
def uS (w : MS) (k : Nat) (x : Int32) : MS := u2 w 4 k (w 4 k - x)
def gZ (w : MS) (t : Nat) : Nat → MS
  | 0 => w
  | k + 1 => u2 (gZ w t k) 4 (gA t + k) 0
def gD (w : MS) (t : Nat) : Nat → MS
  | 0 => w
  | k + 1 => uS (uS (u2 (gD w t k) 4 (gA t + k) (gBr (gD w t k) k - gGv (gD w t k) k)) (gA t + 6) (gBr (gD w t k) k)) (gA t + 7) (gGv (gD w t k) k)
def gI (w : MS) (t : Nat) (bo : Nat → Nat) (k : Nat) : Int32 := gBe w k t (bo k) 0
def gV (w : MS) (t : Nat) (bo : Nat → Nat) (k : Nat) : Int32 := gBe w k t (bo k) 1 + gBe w k t (bo k) 2
def gN (w : MS) (t : Nat) (br pr bo : Nat → Nat) : Nat → MS
  | 0 => w
  | k + 1 => uA (uA (uA (uA (gN w t br pr bo k) (gA t + br k) (gI (gN w t br pr bo k) t bo k - gV (gN w t br pr bo k) t bo k)) ((gA t + 3) + pr k) (gI (gN w t br pr bo k) t bo k - gV (gN w t br pr bo k) t bo k)) (gA t + 6) (gV (gN w t br pr bo k) t bo k)) (gA t + 7) (gI (gN w t br pr bo k) t bo k)
theorem gZ_o {w : MS} {t j : Nat} (h : j ≠ 4) : ∀ k, gZ w t k j = w j
  | 0 => rfl
  | k + 1 => (u2_j h).trans (gZ_o h k)
theorem gD_o {w : MS} {t j : Nat} (h : j ≠ 4) : ∀ k, gD w t k j = w j
  | 0 => rfl
  | k + 1 => (u2_j h).trans ((u2_j h).trans ((u2_j h).trans (gD_o h k)))
theorem gN_o {w : MS} {t j : Nat} {br pr bo : Nat → Nat} (h : j ≠ 4) : ∀ k, gN w t br pr bo k j = w j
  | 0 => rfl
  | k + 1 => (u2_j h).trans ((u2_j h).trans ((u2_j h).trans ((u2_j h).trans (gN_o h k))))
/-- the law's month closed -/
def gW (w : MS) (t n : Nat) (br pr bo : Nat → Nat) : MS := gN (gD (gZ w t 8) t 3) t br pr bo n
def gClose (w : MS) (t n : Nat) (br pr bo : Nat → Nat) : MS := gLay (u2 (gW w t n br pr bo) 0 0 (nI (t + 1))) ((t + 1) % 6)
theorem gW_o {w : MS} {t n j : Nat} {br pr bo : Nat → Nat} (h : j ≠ 4) : gW w t n br pr bo j = w j := (gN_o h n).trans ((gD_o h 3).trans (gZ_o h 8))
