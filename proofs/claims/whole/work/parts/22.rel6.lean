/-! ===== book and model side by side: a month is closed, put together (mine) ===== -/
section CL
variable {b : MS} {n : Nat} {L : LNS} {v : MS} {t : Nat} {pd bo : Nat → Nat}
theorem sm18 (hn : n ≤ 24) (hN : ∀ i, i < n → LR (L i) v i (pd i) (bo i) t) {q : Nat} (hq : q < 3) (s : Nat) : bLM n L pd 0 (nI q) = S32 (fun l => if 3 * s + cn (v 7 l) = 3 * s + q then mBear v l 3 else 0) n := by
  refine bSmE (fun k hk => ?_) 24 hn
  obtain ⟨a1, a2, a3, a4, a5, a6, a7, -⟩ := hN k hk
  show (if L k 0 0 = nI q then lOwn (L k) (pd k) else 0) = (if 3 * s + cn (v 7 k) = 3 * s + q then mBear v k 3 else 0)
  by_cases e : cn (v 7 k) = q
  · rw [if_pos (by rw [a1, a6.1, e]), if_pos (by rw [e]), mBe (hN k hk)]; rfl
  · rw [if_neg (fun h => e (by rw [a1] at h; rw [h, cnI (by omega)])), if_neg (by omega)]
theorem sm19 (hn : n ≤ 24) (hN : ∀ i, i < n → LR (L i) v i (pd i) (bo i) t) {q : Nat} (hq : q < 3) (s : Nat) : bLM n L pd 1 (nI q) = S32 (fun l => if 3 * s + cn (v 8 l) = 3 * s + q then mBear v l 3 else 0) n := by
  refine bSmE (fun k hk => ?_) 24 hn
  obtain ⟨a1, a2, a3, a4, a5, a6, a7, -⟩ := hN k hk
  show (if L k 0 1 = nI q then lOwn (L k) (pd k) else 0) = (if 3 * s + cn (v 8 k) = 3 * s + q then mBear v k 3 else 0)
  by_cases e : cn (v 8 k) = q
  · rw [if_pos (by rw [a2, a7.1, e]), if_pos (by rw [e]), mBe (hN k hk)]; rfl
  · rw [if_neg (fun h => e (by rw [a2] at h; rw [h, cnI (by omega)])), if_neg (by omega)]
theorem mC1_18o (hN : ∀ i, i < n → LR (L i) v i (pd i) (bo i) t) {q s : Nat} (hq : q < 3 * s ∨ 3 * s + 3 ≤ q) : mC1 v s n 18 q = v 18 q := by
  rw [mC1_18, S32_z, Int32.add_zero]
  intro k hk
  have := (hN k hk).2.2.2.2.2.1.2
  exact if_neg (by omega)
theorem mC1_19o (hN : ∀ i, i < n → LR (L i) v i (pd i) (bo i) t) {q s : Nat} (hq : q < 3 * s ∨ 3 * s + 3 ≤ q) : mC1 v s n 19 q = v 19 q := by
  rw [mC1_19, S32_z, Int32.add_zero]
  intro k hk
  have := (hN k hk).2.2.2.2.2.2.1.2
  exact if_neg (by omega)
theorem bR3_g {j k : Nat} (h11 : j ≠ 11) (h12 : j ≠ 12) : bR3 b t n L pd j k = if 19 ≤ j ∧ j < 22 ∧ k = t then bLM n L pd 1 (nI (j - 19)) else if 16 ≤ j ∧ j < 19 ∧ k = t then bLM n L pd 0 (nI (j - 16)) else b j k := by
  unfold bR3
  rw [u2_j h12, u2_j h11, bR2_g, bR1_g]
theorem bR3_j {j : Nat} (h11 : j ≠ 11) (h12 : j ≠ 12) (h16 : j < 16) : bR3 b t n L pd j = b j := funext fun k => by rw [bR3_g h11 h12, if_neg (by omega), if_neg (by omega)]
theorem bCl_j {j : Nat} (h11 : j ≠ 11) (h12 : j ≠ 12) (h13 : j ≠ 13) (h16 : j < 16) : bCl b t n L pd j = b j := by
  unfold bCl
  rw [u2_j h13]
  funext k
  rw [bD1_g h11 h12, if_neg (by omega), bR3_j h11 h12 h16]
theorem bCl_13 {k : Nat} (h : k ≠ 4) : bCl b t n L pd 13 k = b 13 k := by
  unfold bCl
  rw [u2_k h, bD1_g (by decide) (by decide), if_neg (by omega), bR3_j (by decide) (by decide) (by decide)]
theorem bCl_134 : bCl b t n L pd 13 4 = nI (t + 1) := by unfold bCl; rw [u2_s]
def mX (v : MS) (n t : Nat) : MS := u2 (u2 (mC2 (mC1 (mT v 0) t n) v t 3) 20 t (mTr v n)) 21 t (mIt v n)
theorem mX_j {j : Nat} (h : j < 18) : mX v n t j = mT v 0 j := by
  unfold mX
  rw [u2_j (by omega), u2_j (by omega), mC2_j (by omega), mC1_j (by omega) (by omega)]
theorem mCw_j {j : Nat} (h0 : j ≠ 0) (h13 : j ≠ 13) : mCw v bo n t j = mX v n t j := (u2_j h0).trans (mC3_j h13 n)
theorem mCw_v {j : Nat} (h0 : j ≠ 0) (h13 : j ≠ 13) (h : j < 18) : mCw v bo n t j = v j := by rw [mCw_j h0 h13, mX_j h, mT, u2_j h0]
theorem mCw_0 {k : Nat} (h : k ≠ 1) : mCw v bo n t 0 k = mT v 0 0 k := by
  refine (u2_k h).trans ?_
  rw [mC3_j (by decide)]
  exact congrFun (mX_j (by decide)) k
theorem mCw_01 : mCw v bo n t 0 1 = nI (t + 1) := u2_s
theorem mCw_13 {l k : Nat} (hk : k < 6) : mCw v bo n t 13 (6 * l + k) = if l < n ∧ k = t - bo l then 0 else v 13 (6 * l + k) := by
  have e : mCw v bo n t 13 = mC3 (mX v n t) bo t n 13 := u2_j (by decide)
  rw [e, mC3_13 hk, mX_j (by decide)]; rfl
theorem r_close (h : Rel b n L v t pd bo) : Okc (mClose v bo n t) (lC 0 0 1 (xClose t)) (xClose t) (nI (t + 1)) (fun v' => t + 1 ≤ 47 ∧ Rel (bClose b t n L pd) n (bPA L n pd 24) v' (t + 1) (fun i => if pd i < 6 then pd i + 1 else pd i) bo) (fun v' => Rel b n L v' t pd bo) := by
  unfold mClose xClose
  by_cases h47 : t = 47
  · rw [if_pos h47, if_pos h47]; exact Okc.no rfl (by decide) rfl (by decide) h
  rw [if_neg h47, if_neg h47]
  have hK := rcK h.1
  have hT := rcT h.1
  obtain ⟨⟨c1, c2, c3, c4, c5, c6, c7, c8, c9, c10, c11, c12, c13⟩, ⟨m1, m2, m3⟩, hN, hZ⟩ := h
  have hN0 : ∀ i, i < n → LR (L i) (mT v 0) i (pd i) (bo i) t := hN
  have hK3 : RK (bR3 b t n L pd) v := by
    unfold RK
    rw [bR3_j (j := 0) (by decide) (by decide) (by decide), bR3_j (j := 13) (by decide) (by decide) (by decide), bR3_j (j := 7) (by decide) (by decide) (by decide)]
    exact hK
  have hT3 : RT (bR3 b t n L pd) v := by
    unfold RT
    rw [bR3_j (j := 14) (by decide) (by decide) (by decide), bR3_j (j := 15) (by decide) (by decide) (by decide)]
    exact hT
  have hKc : RK (bCl b t n L pd) (mCw v bo n t) := by
    unfold RK
    rw [bCl_j (j := 0) (by decide) (by decide) (by decide) (by decide), bCl_j (j := 7) (by decide) (by decide) (by decide) (by decide), bCl_13 (by decide), bCl_13 (by decide), mCw_0 (by decide), mCw_0 (by decide), mCw_v (j := 2) (by decide) (by decide) (by decide), mCw_v (j := 15) (by decide) (by decide) (by decide)]
    exact hK
  have hTc : RT (bCl b t n L pd) (mCw v bo n t) := by
    unfold RT
    rw [bCl_j (j := 14) (by decide) (by decide) (by decide) (by decide), bCl_j (j := 15) (by decide) (by decide) (by decide) (by decide), mCw_v (j := 16) (by decide) (by decide) (by decide), mCw_v (j := 17) (by decide) (by decide) (by decide)]
    exact hT
  obtain ⟨hA, hA2⟩ := mCo hKc
  have hb5 : bCl b t n L pd 0 5 = mCw v bo n t 2 6 := hKc.1 5 (by decide)
  have hRT : RT (bClose b t n L pd) (mLay (mCw v bo n t) ((t + 1) % 6)) := rt_lay hTc (Nat.mod_lt _ (by decide)) hA hb5 (by rw [hA]; exact hA2)
  have hb : ∀ j, j ≠ 14 → j ≠ 15 → bClose b t n L pd j = bCl b t n L pd j := fun j q1 q2 => bLay_j q1 q2
  have hv : ∀ j, j ≠ 16 → j ≠ 17 → mLay (mCw v bo n t) ((t + 1) % 6) j = mCw v bo n t j := fun j q1 q2 => mLay_j q1 q2
  have hFT : ∀ k, k < 3 → bFT (bR3 b t n L pd) k = mPaid v k := fun k hk => mPa hK3 hT3 hk
  have hTC : ∀ k, k < 3 → bTC (bR3 b t n L pd) k = mPays v k := fun k hk => mPy hK3 hk
  refine Okc.ok rfl ?_ rfl ⟨by omega, ?_⟩
  · show mLay (mCw v bo n t) ((t + 1) % 6) 0 0 = _
    rw [hv 0 (by decide) (by decide), mCw_0 (by decide)]; rfl
  show Rel _ _ _ (mLay (mCw v bo n t) ((t + 1) % 6)) _ _ _
  generalize mLay (mCw v bo n t) ((t + 1) % 6) = v' at hRT hv
  generalize bClose b t n L pd = b' at hRT hb
  have hv18 : v' 18 = mC2 (mC1 (mT v 0) t n) v t 3 18 := by
    rw [hv 18 (by decide) (by decide), mCw_j (by decide) (by decide)]; unfold mX; rw [u2_j (by decide), u2_j (by decide)]
  have hv19 : v' 19 = mC1 (mT v 0) t n 19 := by
    rw [hv 19 (by decide) (by decide), mCw_j (by decide) (by decide)]; unfold mX; rw [u2_j (by decide), u2_j (by decide), mC2_j (by decide)]
  have hb16 : ∀ j k, 16 ≤ j → b' j k = bD1 (bR3 b t n L pd) t 3 j k := fun j k hj => by
    rw [hb j (by omega) (by omega)]; unfold bCl; rw [u2_j (by omega)]
  have hb11 : ∀ k, b' 11 k = bD1 (bR3 b t n L pd) t 3 11 k := fun k => by
    rw [hb 11 (by decide) (by decide)]; unfold bCl; rw [u2_j (by decide)]
  have hb12 : ∀ k, b' 12 k = bD1 (bR3 b t n L pd) t 3 12 k := fun k => by
    rw [hb 12 (by decide) (by decide)]; unfold bCl; rw [u2_j (by decide)]
  refine ⟨?_, ⟨fun mo q hmo hq => ?_, fun mo hmo => ?_, fun k hk hk2 => ?_⟩, fun i hi => ?_, fun k hk hk2 => ?_⟩
  · unfold RC
    rw [hb 13 (by decide) (by decide), hb 0 (by decide) (by decide), hb 7 (by decide) (by decide), hv 0 (by decide) (by decide), hv 2 (by decide) (by decide), hv 15 (by decide) (by decide), bCl_134, mCw_01, bCl_13 (by decide), bCl_13 (by decide), bCl_13 (by decide), bCl_13 (by decide), bCl_j (j := 0) (by decide) (by decide) (by decide) (by decide), bCl_j (j := 7) (by decide) (by decide) (by decide) (by decide), mCw_0 (by decide), mCw_0 (by decide), mCw_0 (by decide), mCw_0 (by decide), mCw_v (j := 2) (by decide) (by decide) (by decide), mCw_v (j := 15) (by decide) (by decide) (by decide)]
    exact ⟨c1, by omega, c3, c4, rfl, rfl, c7, c8, c9, c10, c11, c12, hRT⟩
  · rw [hb16 (16 + q) mo (by omega), hb16 (19 + q) mo (by omega), hv18, hv19, bD1_g (by omega) (by omega), bD1_g (by omega) (by omega), mC2_18, if_neg (show ¬ (16 ≤ 19 + q ∧ 19 + q < 16 + 3 ∧ mo = t) by omega), show 16 + q - 16 = q by omega]
    by_cases e : mo = t
    · subst e
      rw [if_pos (show 16 ≤ 16 + q ∧ 16 + q < 16 + 3 ∧ mo = mo from ⟨by omega, by omega, rfl⟩), if_pos (show 3 * mo ≤ 3 * mo + q ∧ 3 * mo + q < 3 * mo + 3 by omega), hFT q hq, hTC q hq, show 3 * mo + q - 3 * mo = q by omega, bR3_g (by omega) (by omega), if_neg (show ¬ (19 ≤ 16 + q ∧ 16 + q < 22 ∧ mo = mo) by omega), if_pos (show 16 ≤ 16 + q ∧ 16 + q < 19 ∧ mo = mo from ⟨by omega, by omega, rfl⟩), bR3_g (by omega) (by omega), if_pos (show 19 ≤ 19 + q ∧ 19 + q < 22 ∧ mo = mo from ⟨by omega, by omega, rfl⟩), mC1_18, mC1_19, show 16 + q - 16 = q by omega, show 19 + q - 19 = q by omega, sm18 c1 hN0 hq mo, sm19 c1 hN0 hq mo]
      have z1 : mT v 0 18 (3 * mo + q) = 0 := (m3 (3 * mo + q) (by omega) (by omega)).1
      have z2 : mT v 0 19 (3 * mo + q) = 0 := (m3 (3 * mo + q) (by omega) (by omega)).2
      rw [z1, z2, Int32.zero_add, Int32.zero_add]
      exact ⟨rfl, rfl⟩
    · rw [if_neg (show ¬ (16 ≤ 16 + q ∧ 16 + q < 16 + 3 ∧ mo = t) by omega), if_neg (show ¬ (3 * t ≤ 3 * mo + q ∧ 3 * mo + q < 3 * t + 3) by omega), bR3_g (by omega) (by omega), if_neg (show ¬ (19 ≤ 16 + q ∧ 16 + q < 22 ∧ mo = t) by omega), if_neg (show ¬ (16 ≤ 16 + q ∧ 16 + q < 19 ∧ mo = t) by omega), bR3_g (by omega) (by omega), if_neg (show ¬ (19 ≤ 19 + q ∧ 19 + q < 22 ∧ mo = t) by omega), if_neg (show ¬ (16 ≤ 19 + q ∧ 19 + q < 19 ∧ mo = t) by omega), mC1_18o hN0 (by omega), mC1_19o hN0 (by omega)]
      exact m1 mo q (by omega) hq
  · rw [hb11, hb12, bD1_11, bD1_12, hv 20 (by decide) (by decide), hv 21 (by decide) (by decide), mCw_j (by decide) (by decide), mCw_j (by decide) (by decide)]
    unfold mX
    rw [u2_j (j' := 20) (by decide)]
    by_cases e : mo = t
    · subst e
      rw [if_pos rfl, if_pos rfl, u2_s, u2_s]
      constructor
      · refine Eq.trans ?_ (D32_congr (x := S32 (fun l => mBear v l 1 + mBear v l 2) n) hFT)
        refine congrArg (fun z => D32 z (bFT (bR3 b mo n L pd)) 3) ?_
        unfold bR3
        rw [u2_j (by decide), u2_s]
        exact bSmE (fun k hk => by rw [bTr, mBe (hN k hk), mBe (hN k hk)]; rfl) 24 c1
      · refine Eq.trans ?_ (D32_congr (x := S32 (fun l => mBear v l 0) n) hTC)
        refine congrArg (fun z => D32 z (bTC (bR3 b mo n L pd)) 3) ?_
        unfold bR3
        rw [u2_s]
        exact bSmE (fun k hk => by rw [bCu, mBe (hN k hk)]; rfl) 24 c1
    · rw [if_neg e, if_neg e, u2_k e, u2_k e, u2_j (j' := 21) (by decide), mC2_j (by decide), mC2_j (by decide), mC1_j (by decide) (by decide), mC1_j (by decide) (by decide)]
      unfold bR3
      rw [u2_j (j' := 11) (by decide), u2_k e, u2_k e, u2_j (j' := 12) (by decide), bR2_g, bR2_g, if_neg (by omega), if_neg (by omega), bR1_g, bR1_g, if_neg (by omega), if_neg (by omega)]
      exact m2 mo (by omega)
  · rw [hv18, hv19, mC2_18, if_neg (by omega), mC1_18o hN0 (by omega), mC1_19o hN0 (by omega)]
    exact m3 k (by omega) hk2
  · obtain ⟨a1, a2, a3, a4, a5, a6, a7, a8, a9, a10, a11⟩ := hN i hi
    have hw : ∀ j, j ≠ 0 → j ≠ 13 → j < 16 → v' j = v j := fun j q1 q2 q3 => by rw [hv j (by omega) (by omega), mCw_v q1 q2 (by omega)]
    have hf : ∀ k, k < 6 → v' 13 (6 * i + k) = (if k < (if pd i < 6 then pd i + 1 else pd i) then 0 else L i 1 k) ∧ (L i 1 k = 0 ∨ v' 14 (6 * i + k) = L i 2 k) := by
      intro k hk
      obtain ⟨e1, e2⟩ := a11 k hk
      rw [hw 14 (by decide) (by decide) (by decide)]
      refine ⟨?_, e2⟩
      rw [hv 13 (by decide) (by decide), mCw_13 hk, e1]
      by_cases e6 : pd i < 6
      · rw [if_pos e6]
        by_cases ek : i < n ∧ k = t - bo i
        · rw [if_pos ek, if_pos (by omega)]
        · rw [if_neg ek]
          by_cases ep : k < pd i
          · rw [if_pos ep, if_pos (by omega)]
          · rw [if_neg ep, if_neg (by omega)]
      · rw [if_neg e6, if_pos (show k < pd i by omega)]
        split <;> rfl
    show LR (bPA L n pd 24 i) v' i (if pd i < 6 then pd i + 1 else pd i) (bo i) (t + 1)
    unfold LR
    rw [hw 7 (by decide) (by decide) (by decide), hw 8 (by decide) (by decide) (by decide), hw 9 (by decide) (by decide) (by decide), hw 10 (by decide) (by decide) (by decide), hw 11 (by decide) (by decide) (by decide), hw 12 (by decide) (by decide) (by decide), bPA_g]
    by_cases e6 : pd i < 6
    · rw [if_pos (show i < 24 ∧ i < n ∧ pd i < 6 by omega), if_pos e6]
      rw [if_pos e6] at hf
      exact ⟨a1, a2, a3, a4, a5, a6, a7, ⟨u2_s, by omega⟩, ⟨a9.1, by omega⟩, by omega, hf⟩
    · rw [if_neg (show ¬ (i < 24 ∧ i < n ∧ pd i < 6) by omega), if_neg e6]
      rw [if_neg e6] at hf
      exact ⟨a1, a2, a3, a4, a5, a6, a7, a8, ⟨a9.1, by omega⟩, by omega, hf⟩
  · rw [hv 13 (by decide) (by decide), show k = 6 * (k / 6) + k % 6 by omega, mCw_13 (Nat.mod_lt _ (by decide)), if_neg (by omega), show 6 * (k / 6) + k % 6 = k by omega]
    exact hZ k hk hk2
end CL
