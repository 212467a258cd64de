/-! ===== the model's functions, in words of its rows (mine) ===== -/
def mIn (v lo hi : Int32) : Int32 := if v < lo then 0 else if hi < v then 0 else 1
theorem mIn_T {v lo hi : Int32} (h : ¬ mIn v lo hi = 0) : ¬ v < lo ∧ ¬ hi < v := by
  unfold mIn at h
  by_cases h1 : v < lo
  · rw [if_pos h1] at h; exact absurd rfl h
  · by_cases h2 : hi < v
    · rw [if_neg h1, if_pos h2] at h; exact absurd rfl h
    · exact ⟨h1, h2⟩
theorem mIn_01 {v lo hi : Int32} : mIn v lo hi = 0 ∨ mIn v lo hi = 1 := by
  unfold mIn
  split
  · exact Or.inl rfl
  · split
    · exact Or.inl rfl
    · exact Or.inr rfl
theorem mIn_nar {v lo hi : Int32} : narrow .boolean (.int (mIn v lo hi)) = .int (mIn v lo hi) := by
  rcases mIn_01 (v := v) (lo := lo) (hi := hi) with h | h <;> rw [h] <;> rfl
abbrev MS : Type := Nat → Nat → Int32
def d12 (x : Int64) : Int32 := (x / 120000).toInt32
def mLeft (v : MS) (i : Nat) : Int32 := S32 (fun k => v 13 (6 * i + k)) 6
def mFnd (v : MS) (i : Nat) : Nat → Int64 := fun k => (v 13 (6 * i + k)).toInt64 * (v 14 (6 * i + k)).toInt64
def mFund (v : MS) (i : Nat) : Int32 := d12 (S64 (mFnd v i) 6)
def mCust (v : MS) (i : Nat) : Int32 := d12 ((mLeft v i).toInt64 * (v 9 i).toInt64)
def mOpt (v : MS) (i : Nat) : Int32 := if v 11 i = 0 then 0 else d12 ((mLeft v i).toInt64 * (v 10 i).toInt64)
def mBear (v : MS) (i : Nat) (w : Int32) : Int32 := if w = 0 then mCust v i else if w = 1 then mFund v i else if w = 2 then mOpt v i else mCust v i - mFund v i - mOpt v i
def mCore (v : MS) : Int32 := (S64 (fun k => (v 15 k).toInt64) 3 * (v 0 5).toInt64 / 100).toInt32
def mLay (v : MS) (t : Nat) : MS := u2 (u2 v 16 t (mCore v / 6)) 17 t (v 2 6)
def mRsm (v : MS) : Nat → Int64 := fun k => (v 16 k).toInt64 * (v 17 k).toInt64
def mRal (v : MS) : Nat → Int64 := fun k => (v 16 k).toInt64
def mRep (v : MS) : Int32 := if S64 (mRal v) 6 = 0 then 0 else (S64 (mRsm v) 6 / S64 (mRal v) 6).toInt32
def mOwn (v : MS) (k : Nat) : Int64 := (v 15 k).toInt64 * (v 0 5).toInt64 / 100
def mPaid (v : MS) (k : Nat) : Int32 := d12 (mOwn v k * (mRep v).toInt64 + ((v 15 k).toInt64 - mOwn v k) * (v 2 1).toInt64)
def mPays (v : MS) (k : Nat) : Int32 := d12 ((v 15 k).toInt64 * (v 0 3).toInt64)
/-- the answer's code is set: first to 0 -/
def mT (v : MS) (c : Int32) : MS := u2 v 0 0 c
def mSetCurve (v : MS) (t r : Int32) : MS × Int32 := if mIn t 1 6 = 0 then (mT (mT v 0) 1, 0) else if mIn r 0 5000 = 0 then (mT (mT v 0) 2, 0) else (u2 (mT v 0) 2 (cn t) r, v 2 (cn t))
def mSetRates (v : MS) (d o c : Int32) : MS := if mIn d 0 5000 = 0 ∨ mIn o 0 5000 = 0 ∨ mIn c 0 100 = 0 then mT v 1 else u2 (u2 (u2 (mT v 0) 0 3 d) 0 4 o) 0 5 c
def mPt (am : Int32) (mo k : Nat) : Int32 := if nI mo - 1 ≤ nI k then am - am / nI mo * (nI mo - 1) else am / nI mo
def mLp (w : MS) (n : Nat) (am : Int32) (mo : Nat) : Nat → MS
  | 0 => w
  | k + 1 => u2 (u2 (mLp w n am mo k) 13 (6 * n + k) (mPt am mo k)) 14 (6 * n + k) (w 2 (k + 1))
def mLw (v : MS) (n : Nat) (br pr rt op : Int32) : MS := u2 (u2 (u2 (u2 (u2 (u2 (mT v 0) 7 n br) 8 n pr) 9 n rt) 10 n (v 0 4)) 11 n op) 12 n (v 0 1)
def mLend (v : MS) (n : Nat) (br pr am rt mo op : Int32) : MS × Int32 := if mIn br 0 2 = 0 ∨ mIn pr 0 2 = 0 then (mT (mT v 0) 1, 0) else if mIn am 1 10000000 = 0 ∨ mIn rt 0 5000 = 0 ∨ mIn mo 1 6 = 0 then (mT (mT v 0) 2, 0) else if n = 24 then (mT (mT v 0) 3, 0) else (u2 (mLp (mLw v n br pr rt op) n am (cn mo) (cn mo)) 0 6 (nI (n + 1)), nI n)
def mRz (v : MS) (i : Nat) : Nat → MS
  | 0 => v
  | k + 1 => u2 (mRz v i k) 13 (6 * i + k) 0
def mRepay (v : MS) (n : Nat) (x : Int32) : MS × Int32 := if mIn x 0 (nI n - 1) = 0 then (mT (mT v 0) 1, 0) else if v 11 (cn x) = 0 ∨ mLeft v (cn x) = 0 then (mT (mT v 0) 2, 0) else (mRz (mT v 0) (cn x) 6, mLeft v (cn x))
def mLA (v : MS) : Nat → MS
  | 0 => v
  | k + 1 => mLay (mLA v k) k
def mDep (v : MS) (x ch : Int32) : MS × Int32 := if mIn x 0 2 = 0 then (mT (mT v 0) 1, 0) else if mIn ch (-10000000) 10000000 = 0 then (mT (mT v 0) 2, 0) else if mIn (v 15 (cn x) + ch) 0 10000000 = 0 then (mT (mT v 0) 3, 0) else if v 0 1 = 0 ∧ ¬ ch = 0 then (mLA (u2 (mT v 0) 15 (cn x) (v 15 (cn x) + ch)) 6, v 15 (cn x) + ch) else (u2 (mT v 0) 15 (cn x) (v 15 (cn x) + ch), v 15 (cn x) + ch)
def mC1 (v : MS) (t : Nat) : Nat → MS
  | 0 => v
  | l + 1 => u2 (u2 (mC1 v t l) 18 (3 * t + cn (v 7 l)) (mC1 v t l 18 (3 * t + cn (v 7 l)) + mBear v l 3)) 19 (3 * t + cn (v 8 l)) (mC1 v t l 19 (3 * t + cn (v 8 l)) + mBear v l 3)
def mC2 (w v : MS) (t : Nat) : Nat → MS
  | 0 => w
  | b + 1 => u2 (mC2 w v t b) 18 (3 * t + b) (mC2 w v t b 18 (3 * t + b) + (mPaid v b - mPays v b))
def mC3 (w : MS) (bo : Nat → Nat) (t : Nat) : Nat → MS
  | 0 => w
  | l + 1 => if t - bo l < 6 then u2 (mC3 w bo t l) 13 (6 * l + (t - bo l)) 0 else mC3 w bo t l
def mTr (v : MS) (n : Nat) : Int32 := D32 (S32 (fun l => mBear v l 1 + mBear v l 2) n) (fun b => mPaid v b) 3
def mIt (v : MS) (n : Nat) : Int32 := D32 (S32 (fun l => mBear v l 0) n) (fun b => mPays v b) 3
def mCw (v : MS) (bo : Nat → Nat) (n t : Nat) : MS := u2 (mC3 (u2 (u2 (mC2 (mC1 (mT v 0) t n) v t 3) 20 t (mTr v n)) 21 t (mIt v n)) bo t n) 0 1 (nI (t + 1))
def mClose (v : MS) (bo : Nat → Nat) (n t : Nat) : MS × Int32 := if t = 47 then (mT (mT v 0) 1, 0) else (mLay (mCw v bo n t) ((t + 1) % 6), nI (t + 1))
def mLeftA (v : MS) (n : Nat) (x : Int32) : MS × Int32 := if mIn x 0 (nI n - 1) = 0 then (mT (mT v 0) 1, 0) else (mT v 0, mLeft v (cn x))
def mBears (v : MS) (n : Nat) (x w : Int32) : MS × Int32 := if mIn x 0 (nI n - 1) = 0 then (mT (mT v 0) 1, 0) else if mIn w 0 3 = 0 then (mT (mT v 0) 2, 0) else (mT v 0, mBear v (cn x) w)
def mDuP (v : MS) (bo : Nat → Nat) (k : Nat) : Nat → Int32 := fun l => if k - bo l < 6 then v 13 (6 * l + (k - bo l)) else 0
def mDue (v : MS) (bo : Nat → Nat) (n t : Nat) (x : Int32) : MS × Int32 := if mIn x 0 5 = 0 then (mT (mT v 0) 1, 0) else (mT v 0, S32 (mDuP v bo (t + cn x)) n)
def mBal (v : MS) (x : Int32) : MS × Int32 := if mIn x 0 2 = 0 then (mT (mT v 0) 1, 0) else (mT v 0, v 15 (cn x))
def mTra (v : MS) (x : Int32) : MS × Int32 := if mIn x 0 5 = 0 then (mT (mT v 0) 1, 0) else (mT v 0, v 16 (cn x))
def mMar (v : MS) (t : Nat) (x mo : Int32) : MS × Int32 := if mIn x 0 2 = 0 ∨ mIn mo 0 (nI t - 1) = 0 then (mT (mT v 0) 1, 0) else (mT v 0, v 18 (3 * cn mo + cn x))
def mPro (v : MS) (t : Nat) (x mo : Int32) : MS × Int32 := if mIn x 0 2 = 0 ∨ mIn mo 0 (nI t - 1) = 0 then (mT (mT v 0) 1, 0) else (mT v 0, v 19 (3 * cn mo + cn x))
def mTre (v : MS) (t : Nat) (mo : Int32) : MS × Int32 := if mIn mo 0 (nI t - 1) = 0 then (mT (mT v 0) 1, 0) else (mT v 0, v 20 (cn mo))
def mInt (v : MS) (t : Nat) (mo : Int32) : MS × Int32 := if mIn mo 0 (nI t - 1) = 0 then (mT (mT v 0) 1, 0) else (mT v 0, v 21 (cn mo))
