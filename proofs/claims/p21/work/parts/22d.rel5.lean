/-! ===== the law's acts: a month is closed (mine) ===== -/
theorem gA_ne {m t : Nat} (h1 : m < t) (h2 : t + 1 ≤ m + 8) : gA m + 8 ≤ gA t ∨ gA t + 8 ≤ gA m := by
  unfold gA; omega
section CZ
variable {b w : MS} {n : Nat} {L : LNS} {t : Nat} {pd bo mo : Nat → Nat}
theorem br_b (h : PR b w n L t pd bo mo) {k : Nat} (hk : k < 3) : bFT b k = gBr w k := by
  have e := q_rate h
  obtain ⟨-, -, -, -, -, -, h0, -, -, h3, hc, -, h7, -⟩ := h.1
  obtain ⟨e7, hb⟩ := h7 k hk
  unfold bFT bPd gBr gCo
  rw [e, e7]
  have e1 : bCo b (w 0 (5 + k)).toInt64 = ((w 0 (5 + k)).toInt64 * (w 0 4).toInt64 / 100).toInt32 := by unfold bCo; rw [h3]
  rw [e1, h0 0 (by decide), (coR hb.1 hb.2 hc.1 hc.2).1, (coR hb.1 hb.2 hc.1 hc.2).2]
theorem gv_b (h : PR b w n L t pd bo mo) {k : Nat} (hk : k < 3) : bTC b k = gGv w k := by
  unfold bTC gGv
  rw [(h.1.2.2.2.2.2.2.2.2.2.2.2.2.1 k hk).1, h.1.2.2.2.2.2.2.2.1]
theorem ow_b (h : PR b w n L t pd bo mo) {k : Nat} (hk : k < n) : gI w t bo k = lCust (L k) (pd k) ∧ gV w t bo k = lFund (L k) (pd k) + lOpt (L k) (pd k) ∧ gI w t bo k - gV w t bo k = lOwn (L k) (pd k) := by
  obtain ⟨e1, e2, e3⟩ := gB_v (h.2.2 k hk) h.1.2.2.2.2.2.1 h.1.2.1
  unfold gI gV
  rw [e1, e2, e3]
  exact ⟨rfl, rfl, sub2⟩
/-- the branch, the product of a loan -/
def wBr (w : MS) (k : Nat) : Nat := cn (w 1 (8 * k))
def wPr (w : MS) (k : Nat) : Nat := cn (w 1 ((8 * k) + 1))
theorem cl_h (h : PR b w n L t pd bo mo) : ∀ k, k < n → (w 1 (8 * k) = nI (wBr w k) ∧ wBr w k < 3) ∧ (w 1 ((8 * k) + 1) = nI (wPr w k) ∧ wPr w k < 3) ∧ (w 1 ((8 * k) + 5) = nI (bo k) ∧ bo k ≤ 47) ∧ ¬ w 1 ((8 * k) + 4) = 0 := by
  intro k hk
  have ht := h.1.2.1
  obtain ⟨a1, a2, a3, a4, a5, a6, a7, a8, a9, a10⟩ := h.2.2 k hk
  exact ⟨⟨a1.2.1, a1.2.2.1⟩, ⟨a2.2.1, a2.2.2⟩, ⟨a7.1, by omega⟩, fun q => nI_ne0 (n := mo k) (by omega) (by omega) (a8.1.symm.trans q)⟩
theorem bFT_c {b' : MS} {k : Nat} (h7 : b' 7 = b 7) (h14 : b' 14 = b 14) (h15 : b' 15 = b 15) (h13 : b' 13 3 = b 13 3) (h0 : b' 0 = b 0) : bFT b' k = bFT b k := by
  have e : bAvg b' = bAvg b := by
    unfold bAvg
    rw [show bAl b' = bAl b from by unfold bAl; rw [h14], show bWt b' = bWt b from by unfold bWt; rw [h14, h15]]
  unfold bFT
  rw [h7, e, bPd_c h13 h0]
theorem bTC_c {b' : MS} {k : Nat} (h7 : b' 7 = b 7) (h13 : b' 13 1 = b 13 1) : bTC b' k = bTC b k := by unfold bTC; rw [h7, h13]
theorem bTA_c {b' : MS} (h7 : b' 7 = b 7) (h13 : b' 13 3 = b 13 3) : bTA b' = bTA b := by unfold bTA bCo; rw [h7, h13]
set_option maxHeartbeats 1000000 in
theorem s_close (h : PR b w n L t pd bo mo) (h46 : t < 47) : PR (bClose b t n L pd) (gClose w t n (wBr w) (wPr w) bo) n (bPA L n pd 24) (t + 1) (fun i => if pd i < 6 then pd i + 1 else pd i) bo mo := by
  have hFT : ∀ k, k < 3 → bFT (bR3 b t n L pd) k = gBr w k := fun k hk => (bFT_c (bR3_j (by decide) (by decide) (by decide)) (bR3_j (by decide) (by decide) (by decide)) (bR3_j (by decide) (by decide) (by decide)) (by rw [bR3_j (by decide) (by decide) (by decide)]) (bR3_j (by decide) (by decide) (by decide))).trans (br_b h hk)
  have hTC : ∀ k, k < 3 → bTC (bR3 b t n L pd) k = gGv w k := fun k hk => (bTC_c (bR3_j (by decide) (by decide) (by decide)) (by rw [bR3_j (by decide) (by decide) (by decide)])).trans (gv_b h hk)
  have hch := cl_h h
  have hbp : ∀ k, k < n → wBr w k < 3 ∧ wPr w k < 3 := fun k hk => ⟨(hch k hk).1.2, (hch k hk).2.1.2⟩
  have hW : ∀ j, j ≠ 4 → gW w t n (wBr w) (wPr w) bo j = w j := fun j hj => gW_o hj
  have hD : ∀ j, j ≠ 4 → gD (gZ w t 8) t 3 j = w j := fun j hj => (gD_o hj 3).trans (gZ_o hj 8)
  have hZ8 : ∀ q, gA t ≤ q → q < gA t + 8 → gZ w t 8 4 q = 0 := fun q q1 q2 => by rw [gZ_4, if_pos ⟨q1, q2⟩]
  have eI : ∀ k, gI (gD (gZ w t 8) t 3) t bo k = gI w t bo k := fun k => gBe_cg (hD 0 (by decide)) (hD 1 (by decide)) (hD 2 (by decide))
  have eV : ∀ k, gV (gD (gZ w t 8) t 3) t bo k = gV w t bo k := fun k => by
    unfold gV
    rw [gBe_cg (hD 0 (by decide)) (hD 1 (by decide)) (hD 2 (by decide)), gBe_cg (hD 0 (by decide)) (hD 1 (by decide)) (hD 2 (by decide))]
  have eB : ∀ k, gBr (gZ w t 8) k = gBr w k := fun k => gBr_cg (gZ_o (by decide) 8) (gZ_o (by decide) 8)
  have eG : ∀ k, gGv (gZ w t 8) k = gGv w k := fun k => gGv_cg (gZ_o (by decide) 8)
  -- the new month's row
  have rA : ∀ q, q < 3 → gW w t n (wBr w) (wPr w) bo 4 (gA t + q) = (gBr w q - gGv w q) + S32 (fun k => if wBr w k = q then lOwn (L k) (pd k) else 0) n := fun q hq => by
    unfold gW
    rw [gN_a hq n hbp, gD_a hq, eB, eG]
    refine congrArg (fun z => gBr w q - gGv w q + z) (S32_congr (fun k hk => ?_))
    rw [eI, eV, (ow_b h hk).2.2]
  have rB : ∀ q, q < 3 → gW w t n (wBr w) (wPr w) bo 4 ((gA t + 3) + q) = S32 (fun k => if wPr w k = q then lOwn (L k) (pd k) else 0) n := fun q hq => by
    unfold gW
    rw [gN_b hq n hbp, gD_b hq, hZ8 _ (by omega) (by omega), Int32.zero_add]
    refine S32_congr (fun k hk => ?_)
    rw [eI, eV, (ow_b h hk).2.2]
  have r6 : gW w t n (wBr w) (wPr w) bo 4 (gA t + 6) = D32 (S32 (fun k => lFund (L k) (pd k) + lOpt (L k) (pd k)) n) (gBr w) 3 := by
    unfold gW
    rw [gN_6 n hbp, gD_6, hZ8 _ (by omega) (by omega), D32_a, D32_congr (g := gBr w) (fun k _ => eB k)]
    refine congrArg (fun z => D32 z (gBr w) 3) (S32_congr (fun k hk => ?_))
    rw [eV, (ow_b h hk).2.1]
  have r7 : gW w t n (wBr w) (wPr w) bo 4 (gA t + 7) = D32 (S32 (fun k => lCust (L k) (pd k)) n) (gGv w) 3 := by
    unfold gW
    rw [gN_7 n hbp, gD_7, hZ8 _ (by omega) (by omega), D32_a, D32_congr (g := gGv w) (fun k _ => eG k)]
    refine congrArg (fun z => D32 z (gGv w) 3) (S32_congr (fun k hk => ?_))
    rw [eI, (ow_b h hk).1]
  have rx : ∀ q, (q < gA t ∨ gA t + 8 ≤ q) → gW w t n (wBr w) (wPr w) bo 4 q = w 4 q := fun q hq => by
    unfold gW
    rw [gN_x hq n hbp, gD_x hq, gZ_4, if_neg (by omega)]
  have hTA : bTA (bCl b t n L pd) = gTA w := (bTA_c (bCl_j (by decide) (by decide) (by decide) (by decide)) (bCl_13 (by decide))).trans (q_TA h)
  obtain ⟨⟨c1, c2, c3, c4, c5, c6, c7, c8, c9, c10, c11, c12, c13, c14⟩, hM, hN⟩ := h
  -- the law's rows before the tranche is laid
  have v0 : ∀ k, k ≠ 0 → u2 (gW w t n (wBr w) (wPr w) bo) 0 0 (nI (t + 1)) 0 k = w 0 k := fun k hk => by rw [u2_k hk, hW 0 (by decide)]
  have vj : ∀ j, j ≠ 0 → j ≠ 4 → u2 (gW w t n (wBr w) (wPr w) bo) 0 0 (nI (t + 1)) j = w j := fun j h0 h4 => by rw [u2_j h0, hW j h4]
  have v4 : u2 (gW w t n (wBr w) (wPr w) bo) 0 0 (nI (t + 1)) 4 = gW w t n (wBr w) (wPr w) bo 4 := u2_j (by decide)
  have v00 : u2 (gW w t n (wBr w) (wPr w) bo) 0 0 (nI (t + 1)) 0 0 = nI (t + 1) := u2_s
  unfold gClose
  generalize u2 (gW w t n (wBr w) (wPr w) bo) 0 0 (nI (t + 1)) = v at v0 vj v4 v00
  have hTA2 : gTA v = gTA w := by unfold gTA; rw [v0 5 (by decide), v0 6 (by decide), v0 7 (by decide), v0 4 (by decide)]
  have hT := pt_lay (b := bCl b t n L pd) (w := v) (fun k hk => by rw [bCl_j (j := 14) (by decide) (by decide) (by decide) (by decide), bCl_j (j := 15) (by decide) (by decide) (by decide) (by decide), vj 3 (by decide) (by decide)]; exact c14 k hk) (j := (t + 1) % 6) (Nat.mod_lt _ (by decide)) (am := bTA (bCl b t n L pd)) (rt := bCl b t n L pd 0 5) (hTA.trans hTA2.symm) (by rw [bCl_j (j := 0) (by decide) (by decide) (by decide) (by decide), v0 13 (by decide)]; exact c7 5 (by decide))
  have hb : ∀ j, j ≠ 14 → j ≠ 15 → bClose b t n L pd j = bCl b t n L pd j := fun j q1 q2 => bLay_j q1 q2
  have hg : ∀ j, j ≠ 3 → gLay v ((t + 1) % 6) j = v j := fun j q => gLay_j q
  have hT : ∀ k, k < 6 → bClose b t n L pd 14 k = gLay v ((t + 1) % 6) 3 k ∧ bClose b t n L pd 15 k = gLay v ((t + 1) % 6) 3 (6 + k) := hT
  have hb16 : ∀ j k, 16 ≤ j → bClose b t n L pd j k = bD1 (bR3 b t n L pd) t 3 j k := fun j k hj => by
    rw [hb j (by omega) (by omega)]; unfold bCl; rw [u2_j (by omega)]
  have hb11 : ∀ k, bClose b t n L pd 11 k = bD1 (bR3 b t n L pd) t 3 11 k := fun k => by
    rw [hb 11 (by decide) (by decide)]; unfold bCl; rw [u2_j (by decide)]
  have hb12 : ∀ k, bClose b t n L pd 12 k = bD1 (bR3 b t n L pd) t 3 12 k := fun k => by
    rw [hb 12 (by decide) (by decide)]; unfold bCl; rw [u2_j (by decide)]
  generalize gLay v ((t + 1) % 6) = v' at hT hg
  generalize bClose b t n L pd = b' at hT hb hb16 hb11 hb12
  refine ⟨?_, fun m hm hm8 => ?_, fun i hi => ?_⟩
  · unfold PC
    rw [hb 13 (by decide) (by decide), hb 0 (by decide) (by decide), hb 7 (by decide) (by decide), hg 0 (by decide), bCl_134, bCl_13 (by decide), bCl_13 (by decide), bCl_13 (by decide), bCl_13 (by decide), bCl_j (j := 0) (by decide) (by decide) (by decide) (by decide), bCl_j (j := 7) (by decide) (by decide) (by decide) (by decide), v00, v0 1 (by decide), v0 2 (by decide), v0 3 (by decide), v0 4 (by decide)]
    exact ⟨c1, by omega, c3, c4, rfl, rfl, fun k hk => by rw [v0 (8 + k) (by omega)]; exact c7 k hk, c8, c9, c10, c11, c12, fun k hk => by rw [v0 (5 + k) (by omega)]; exact c13 k hk, hT⟩
  · rw [hg 4 (by decide), v4]
    by_cases e : m = t
    · subst e
      refine ⟨fun q hq => ⟨?_, ?_⟩, ?_, ?_⟩
      · rw [hb16 (16 + q) m (by omega), rA q hq, bD1_g (by omega) (by omega), if_pos (show 16 ≤ 16 + q ∧ 16 + q < 16 + 3 ∧ m = m from ⟨by omega, by omega, rfl⟩), show 16 + q - 16 = q by omega, hFT q hq, hTC q hq, bR3_g (by omega) (by omega), if_neg (show ¬ (19 ≤ 16 + q ∧ 16 + q < 22 ∧ m = m) by omega), if_pos (show 16 ≤ 16 + q ∧ 16 + q < 19 ∧ m = m from ⟨by omega, by omega, rfl⟩), show 16 + q - 16 = q by omega, Int32.add_comm]
        refine congrArg (fun z => gBr w q - gGv w q + z) (bSmE (fun k hk => ?_) 24 (by omega))
        obtain ⟨a1, -⟩ := hN k hk
        show (if L k 0 0 = nI q then lOwn (L k) (pd k) else 0) = _
        by_cases eq : wBr w k = q
        · rw [if_pos (by rw [← a1.1, a1.2.1]; exact congrArg nI eq), if_pos eq]
        · rw [if_neg (fun z => eq (by unfold wBr; rw [a1.1, z, cnI (by omega)])), if_neg eq]
      · rw [hb16 (19 + q) m (by omega), rB q hq, bD1_g (by omega) (by omega), if_neg (show ¬ (16 ≤ 19 + q ∧ 19 + q < 16 + 3 ∧ m = m) by omega), bR3_g (by omega) (by omega), if_pos (show 19 ≤ 19 + q ∧ 19 + q < 22 ∧ m = m from ⟨by omega, by omega, rfl⟩), show 19 + q - 19 = q by omega]
        refine bSmE (fun k hk => ?_) 24 (by omega)
        obtain ⟨-, a2, -⟩ := hN k hk
        show (if L k 0 1 = nI q then lOwn (L k) (pd k) else 0) = _
        by_cases eq : wPr w k = q
        · rw [if_pos (by rw [← a2.1, a2.2.1]; exact congrArg nI eq), if_pos eq]
        · rw [if_neg (fun z => eq (by unfold wPr; rw [a2.1, z, cnI (by omega)])), if_neg eq]
      · rw [hb11, r6, bD1_11, if_pos rfl, D32_congr hFT]
        refine congrArg (fun z => D32 z (gBr w) 3) ?_
        unfold bR3
        rw [u2_j (by decide), u2_s]
        exact bSmE (fun k hk => rfl) 24 (by omega)
      · rw [hb12, r7, bD1_12, if_pos rfl, D32_congr hTC]
        refine congrArg (fun z => D32 z (gGv w) 3) ?_
        unfold bR3
        rw [u2_s]
        exact bSmE (fun k hk => rfl) 24 (by omega)
    · obtain ⟨o1, o2, o3⟩ := hM m (by omega) (by omega)
      have hx := gA_ne (m := m) (t := t) (by omega) (by omega)
      refine ⟨fun q hq => ⟨?_, ?_⟩, ?_, ?_⟩
      · rw [hb16 (16 + q) m (by omega), rx _ (by omega), bD1_g (by omega) (by omega), if_neg (by omega), bR3_g (by omega) (by omega), if_neg (by omega), if_neg (by omega)]
        exact (o1 q hq).1
      · rw [hb16 (19 + q) m (by omega), rx _ (by omega), bD1_g (by omega) (by omega), if_neg (by omega), bR3_g (by omega) (by omega), if_neg (by omega), if_neg (by omega)]
        exact (o1 q hq).2
      · rw [hb11, rx _ (by omega), bD1_11, if_neg e]
        unfold bR3
        rw [u2_j (j' := 11) (by decide), u2_k e, bR2_g, if_neg (by omega), bR1_g, if_neg (by omega)]
        exact o2
      · rw [hb12, rx _ (by omega), bD1_12, if_neg e]
        unfold bR3
        rw [u2_k e, u2_j (j' := 12) (by decide), bR2_g, if_neg (by omega), bR1_g, if_neg (by omega)]
        exact o3
  · have h1 : v' 1 = w 1 := (hg 1 (by decide)).trans (vj 1 (by decide) (by decide))
    have h2 : v' 2 = w 2 := (hg 2 (by decide)).trans (vj 2 (by decide) (by decide))
    obtain ⟨a1, a2, a3, a4, a5, a6, a7, a8, a9, a10⟩ := hN i hi
    dsimp only
    unfold PL
    rw [h1, h2, bPA_g]
    by_cases e6 : pd i < 6
    · rw [if_pos (show i < 24 ∧ i < n ∧ pd i < 6 by omega), if_pos e6]
      exact ⟨a1, a2, a3, a4, a5, ⟨u2_s, by omega⟩, ⟨a7.1, by omega⟩, a8, by
        rcases a9 with ⟨q1, q2⟩ | ⟨q1, q2⟩
        · omega
        · exact Or.inr ⟨q1, by omega⟩, a10⟩
    · rw [if_neg (show ¬ (i < 24 ∧ i < n ∧ pd i < 6) by omega), if_neg e6]
      exact ⟨a1, a2, a3, a4, a5, a6, ⟨a7.1, by omega⟩, a8, by
        rcases a9 with ⟨q1, q2⟩ | ⟨q1, q2⟩
        · exact Or.inl ⟨q1, q2⟩
        · exact Or.inr ⟨q1, by omega⟩, a10⟩
end CZ
