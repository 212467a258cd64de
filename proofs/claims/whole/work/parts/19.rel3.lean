/-! ===== book and model side by side: what changes them (mine) ===== -/
theorem mRz_j {v : MS} {i j : Nat} (h : j ≠ 13) : ∀ m, mRz v i m j = v j
  | 0 => rfl
  | m + 1 => (u2_j h).trans (mRz_j h m)
theorem mRz_13 {v : MS} {i q : Nat} : ∀ m, mRz v i m 13 q = if 6 * i ≤ q ∧ q < 6 * i + m then 0 else v 13 q
  | 0 => by rw [if_neg (by omega)]; rfl
  | m + 1 => by
    rw [mRz]
    by_cases e : q = 6 * i + m
    · subst e; rw [u2_s, if_pos (by omega)]
    · rw [u2_k e, mRz_13 m]
      by_cases h : 6 * i ≤ q ∧ q < 6 * i + m
      · rw [if_pos h, if_pos (by omega)]
      · rw [if_neg h, if_neg (by omega)]
theorem LR.cg {w v v' : MS} {i p bo t : Nat} (h : LR w v i p bo t) (h7 : v' 7 = v 7) (h8 : v' 8 = v 8) (h9 : v' 9 = v 9) (h10 : v' 10 = v 10) (h11 : v' 11 = v 11) (h12 : v' 12 = v 12) (h13 : ∀ k, k < 6 → v' 13 (6 * i + k) = v 13 (6 * i + k)) (h14 : ∀ k, k < 6 → v' 14 (6 * i + k) = v 14 (6 * i + k)) : LR w v' i p bo t := by
  unfold LR
  rw [h7, h8, h9, h10, h11, h12]
  obtain ⟨a1, a2, a3, a4, a5, a6, a7, a8, a9, a10, a11⟩ := h
  exact ⟨a1, a2, a3, a4, a5, a6, a7, a8, a9, a10, fun k hk => by rw [h13 k hk, h14 k hk]; exact a11 k hk⟩
section CH
variable {b : MS} {n : Nat} {L : LNS} {v : MS} {t : Nat} {pd bo : Nat → Nat}
theorem r_repay (x : Int32) (h : Rel b n L v t pd bo) : Okc (mRepay v n x) (lC 1 0 2 (xRepay n L pd x)) (xRepay n L pd x) (lUnp (L (cn x)) (pd (cn x))) (fun v' => Rel b n (u3 L (cn x) (nI 6)) v' t (fun j => if j = cn x then 6 else pd j) bo) (fun v' => Rel b n L v' t pd bo) := by
  unfold mRepay xRepay
  by_cases h1 : mIn x 0 (nI n - 1) = 0
  · rw [if_pos h1, if_pos h1]; exact Okc.no rfl (by decide) rfl (by decide) h
  rw [if_neg h1, if_neg h1]
  obtain ⟨i, hi, -, e⟩ := inLN h1 h.1.1
  rw [e]
  have hi9 := h.2.2.1 i hi
  have e3 : L i 0 3 = v 11 i := hi9.2.2.2.1
  have eL : mLeft v i = lUnp (L i) (pd i) := mLn hi9
  by_cases h2 : L i 0 3 = 0
  · rw [if_pos h2, if_pos (Or.inl (e3.symm.trans h2))]; exact Okc.no rfl (by decide) rfl (by decide) h
  rw [if_neg h2]
  by_cases h3 : lUnp (L i) (pd i) = 0
  · rw [if_pos h3, if_pos (Or.inr (eL.trans h3))]; exact Okc.no rfl (by decide) rfl (by decide) h
  rw [if_neg h3, if_neg (fun q => q.elim (fun q => h2 (e3.trans q)) (fun q => h3 (eL.symm.trans q)))]
  refine Okc.ok rfl ?_ eL ?_
  · show mRz (mT v 0) i 6 0 0 = _
    rw [mRz_j (by decide)]; rfl
  have hj : ∀ j, j ≠ 13 → mRz (mT v 0) i 6 j = mT v 0 j := fun j hj => mRz_j hj 6
  obtain ⟨hC, hM, hN, hZ⟩ := h
  refine ⟨?_, hM.cg (fun _ _ _ => rfl) rfl rfl (hj 18 (by decide)) (hj 19 (by decide)) (hj 20 (by decide)) (hj 21 (by decide)), fun j hjn => ?_, fun k hk hk2 => ?_⟩
  · show RC b (mRz (mT v 0) i 6) n t
    unfold RC
    rw [hj 0 (by decide), hj 2 (by decide), hj 15 (by decide), hj 16 (by decide), hj 17 (by decide)]
    exact hC
  · show LR (u3 L i (nI 6) j) (mRz (mT v 0) i 6) j (if j = i then 6 else pd j) (bo j) t
    by_cases ej : j = i
    · subst ej
      rw [if_pos rfl, show u3 L j (nI 6) j = u2 (L j) 0 7 (nI 6) from if_pos rfl]
      unfold LR
      rw [hj 7 (by decide), hj 8 (by decide), hj 9 (by decide), hj 10 (by decide), hj 11 (by decide), hj 12 (by decide), hj 14 (by decide)]
      obtain ⟨a1, a2, a3, a4, a5, a6, a7, a8, a9, a10, a11⟩ := hi9
      refine ⟨a1, a2, a3, a4, a5, a6, a7, ⟨rfl, by omega⟩, a9, Or.inl rfl, fun k hk => ⟨?_, (a11 k hk).2⟩⟩
      rw [mRz_13, if_pos (by omega), if_pos hk]
    · rw [if_neg ej, show u3 L i (nI 6) j = L j from if_neg ej]
      refine (hN j hjn).cg (hj 7 (by decide)) (hj 8 (by decide)) (hj 9 (by decide)) (hj 10 (by decide)) (hj 11 (by decide)) (hj 12 (by decide)) (fun k hk => ?_) (fun k hk => by rw [hj 14 (by decide)]; rfl)
      rw [mRz_13, if_neg (by omega)]; rfl
  · show mRz (mT v 0) i 6 13 k = 0
    rw [mRz_13]
    split
    · rfl
    · exact hZ k hk hk2
theorem mLay_j {v : MS} {t j : Nat} (h : j ≠ 16) (h' : j ≠ 17) : mLay v t j = v j := by unfold mLay; rw [u2_j h', u2_j h]
theorem bLay_j {b : MS} {k j : Nat} {am rt : Int32} (h : j ≠ 14) (h' : j ≠ 15) : bLay b k am rt j = b j := by unfold bLay; rw [u2_j h', u2_j h]
theorem mCore_cg {v v' : MS} (h : v' 15 = v 15) (h0 : v' 0 5 = v 0 5) : mCore v' = mCore v := by unfold mCore; rw [h, h0]
theorem rt_lay {v b : MS} {am rt : Int32} (h : RT b v) {k : Nat} (hk : k < 6) (ha : am = mCore v / 6) (hr : rt = v 2 6) (hb : 0 ≤ am.toInt ∧ am.toInt ≤ 5000000) : RT (bLay b k am rt) (mLay v k) := by
  intro j hj
  unfold bLay mLay
  rw [u2_j (j' := 14) (by decide), u2_j (j' := 16) (by decide)]
  by_cases e : j = k
  · subst e
    rw [u2_s, u2_s, u2_s, u2_s, ← ha, ← hr]
    exact ⟨rfl, rfl, hb⟩
  · rw [u2_k e, u2_k e, u2_k e, u2_k e, u2_j (j' := 15) (by decide), u2_j (j' := 17) (by decide)]
    exact h j hj
theorem mLA_j {v : MS} {j : Nat} (h : j ≠ 16) (h' : j ≠ 17) : ∀ m, mLA v m j = v j
  | 0 => rfl
  | m + 1 => (mLay_j h h').trans (mLA_j h h' m)
theorem bLA_j {b : MS} {am rt : Int32} {j : Nat} (h : j ≠ 14) (h' : j ≠ 15) : ∀ m, bLA b am rt m j = b j
  | 0 => rfl
  | m + 1 => (bLay_j h h').trans (bLA_j h h' m)
theorem rt_LA {v b : MS} {am rt : Int32} (h : RT b v) (ha : am = mCore v / 6) (hr : rt = v 2 6) (hb : 0 ≤ am.toInt ∧ am.toInt ≤ 5000000) : ∀ m, m ≤ 6 → RT (bLA b am rt m) (mLA v m)
  | 0, _ => h
  | m + 1, hm => rt_lay (rt_LA h ha hr hb m (by omega)) (by omega) (ha.trans (by rw [mCore_cg (mLA_j (by decide) (by decide) m) (by rw [mLA_j (by decide) (by decide)])])) (hr.trans (by rw [mLA_j (by decide) (by decide)])) hb
theorem r_deposit (x ch : Int32) (h : Rel b n L v t pd bo) : Okc (mDep v x ch) (lC 1 2 3 (xDep b x ch)) (xDep b x ch) (b 7 (cn x) + ch) (fun v' => Rel (bDep b (cn x) ch) n L v' t pd bo) (fun v' => Rel b n L v' t pd bo) := by
  unfold mDep xDep
  by_cases h1 : x < 0
  · rw [if_pos h1, if_pos (mInF.mpr (Or.inl h1))]; exact Okc.no rfl (by decide) rfl (by decide) h
  rw [if_neg h1]
  by_cases h2 : 3 ≤ x
  · rw [if_pos h2, if_pos (mInF.mpr (Or.inr (le3.mp h2)))]; exact Okc.no rfl (by decide) rfl (by decide) h
  rw [if_neg h2, if_neg (fun q => (mInF.mp q).elim h1 (fun q => h2 (le3.mpr q)))]
  by_cases h3 : ch < -10000000
  · rw [if_pos h3, if_pos (mInF.mpr (Or.inl h3))]; exact Okc.no rfl (by decide) rfl (by decide) h
  rw [if_neg h3]
  by_cases h4 : 10000000 < ch
  · rw [if_pos h4, if_pos (mInF.mpr (Or.inr h4))]; exact Okc.no rfl (by decide) rfl (by decide) h
  rw [if_neg h4, if_neg (fun q => (mInF.mp q).elim h3 h4)]
  obtain ⟨i, hi, e⟩ := inX (M := 3) h1 h2 (by decide)
  rw [e]
  have e7 : b 7 i = v 15 i := ((rcK h.1).2.2.2.2 i hi).1
  rw [e7]
  by_cases h5 : v 15 i + ch < 0
  · rw [if_pos h5, if_pos (mInF.mpr (Or.inl h5))]; exact Okc.no rfl (by decide) rfl (by decide) h
  rw [if_neg h5]
  by_cases h6 : 10000000 < v 15 i + ch
  · rw [if_pos h6, if_pos (mInF.mpr (Or.inr h6))]; exact Okc.no rfl (by decide) rfl (by decide) h
  rw [if_neg h6, if_neg (fun q => (mInF.mp q).elim h5 h6)]
  rw [(i32 (z := 0) (q := 0) rfl).2.1] at h5
  rw [(i32 (z := 10000000) (q := 10000000) rfl).2.2.1] at h6
  have ht47 := h.1.2.1
  have eT : b 13 4 = v 0 1 := h.1.2.2.2.2.1.trans h.1.2.2.2.2.2.1.symm
  unfold bDep
  rw [e7, eT]
  obtain ⟨⟨c1, c2, c3, c4, c5, c6, c7, c8, c9, c10, c11, c12, c13⟩, hM, hN⟩ := h
  have hK : ∀ k, k < 3 → u2 b 7 i (v 15 i + ch) 7 k = u2 (mT v 0) 15 i (v 15 i + ch) 15 k ∧ 0 ≤ (u2 (mT v 0) 15 i (v 15 i + ch) 15 k).toInt ∧ (u2 (mT v 0) 15 i (v 15 i + ch) 15 k).toInt ≤ 10000000 := by
    intro k hk
    by_cases ek : k = i
    · subst ek; rw [u2_s, u2_s]; exact ⟨rfl, by omega, by omega⟩
    · rw [u2_k ek, u2_k ek]; exact c12 k hk
  have hR1 : Rel (u2 b 7 i (v 15 i + ch)) n L (u2 (mT v 0) 15 i (v 15 i + ch)) t pd bo := by
    refine ⟨⟨c1, c2, c3, c4, c5, c6, c7, c8, c9, c10, c11, hK, c13⟩, hM.cg (fun j h1 h2 => u2_j (by omega)) rfl rfl rfl rfl rfl rfl, hN⟩
  by_cases h7 : v 0 1 = 0 ∧ ¬ ch = 0
  · rw [if_pos h7, if_pos h7]
    refine Okc.ok rfl ?_ rfl ?_
    · show mLA (u2 (mT v 0) 15 i (v 15 i + ch)) 6 0 0 = _
      rw [mLA_j (by decide) (by decide)]; rfl
    generalize hv1 : u2 (mT v 0) 15 i (v 15 i + ch) = v1 at hR1
    have hb5 : b 0 5 = v1 2 6 := by rw [← hv1]; exact c7 5 (by decide)
    generalize hb1 : u2 b 7 i (v 15 i + ch) = b1 at hR1
    obtain ⟨hA, hA2⟩ := mCo (rcK hR1.1)
    have hRT : RT (bLA b1 (bTA b1) (b 0 5) 6) (mLA v1 6) := rt_LA (rcT hR1.1) hA hb5 (by rw [hA]; exact hA2) 6 (by decide)
    have hvj : ∀ j, j ≠ 16 → j ≠ 17 → mLA v1 6 j = v1 j := fun j q1 q2 => mLA_j q1 q2 6
    have hbj : ∀ j, j ≠ 14 → j ≠ 15 → bLA b1 (bTA b1) (b 0 5) 6 j = b1 j := fun j q1 q2 => bLA_j q1 q2 6
    obtain ⟨⟨d1, d2, d3, d4, d5, d6, d7, d8, d9, d10, d11, d12, -⟩, hM1, hN1, hZ1⟩ := hR1
    refine ⟨?_, hM1.cg (fun j h1 h2 => hbj j (by omega) (by omega)) (hbj 11 (by decide) (by decide)) (hbj 12 (by decide) (by decide)) (hvj 18 (by decide) (by decide)) (hvj 19 (by decide) (by decide)) (hvj 20 (by decide) (by decide)) (hvj 21 (by decide) (by decide)), ?_, ?_⟩
    · show RC (bLA b1 (bTA b1) (b 0 5) 6) (mLA v1 6) n t
      have hRT' := hRT
      unfold RC
      rw [hvj 0 (by decide) (by decide), hvj 2 (by decide) (by decide), hvj 15 (by decide) (by decide), hbj 13 (by decide) (by decide), hbj 0 (by decide) (by decide), hbj 7 (by decide) (by decide)]
      exact ⟨d1, d2, d3, d4, d5, d6, d7, d8, d9, d10, d11, d12, hRT'⟩
    · exact fun j hj => (hN1 j hj).cg (hvj 7 (by decide) (by decide)) (hvj 8 (by decide) (by decide)) (hvj 9 (by decide) (by decide)) (hvj 10 (by decide) (by decide)) (hvj 11 (by decide) (by decide)) (hvj 12 (by decide) (by decide)) (fun k _ => congrFun (hvj 13 (by decide) (by decide)) _) (fun k _ => congrFun (hvj 14 (by decide) (by decide)) _)
    · show ∀ k, 6 * n ≤ k → k < 144 → mLA v1 6 13 k = 0
      rw [hvj 13 (by decide) (by decide)]; exact hZ1
  · rw [if_neg h7, if_neg h7]
    exact Okc.ok rfl rfl rfl hR1
end CH
