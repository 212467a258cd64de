/-! ===== the law's acts: what each changes in both (mine) ===== -/
abbrev UT : Type := MS × MS × Nat × (Nat → Nat → Nat) × LNS
def uW (y : Nat → ClassId) (r a : Nat → Nat) (u : UT) : va_W := lwA y r u.1 ++ bkW y a u.2.1 u.2.2.1 u.2.2.2.1 u.2.2.2.2
def uR (u : UT) : Prop := ∃ (t : Nat) (pd bo mo : Nat → Nat), PR u.2.1 u.1 u.2.2.1 u.2.2.2.2 t pd bo mo
def cA (X : Nat) (v : Int32) : Int32 := if X = 0 then v else -3
/-- roads that come together: what lies on the stack is chosen, then they go on as one -/
theorem W.pick {α : Type} {P : α → Prop} {st : α → List Value} {tgt : Nat} {p : Program} {l : Launch} {e : Env} {R : Room} {s : State} {m : MethodId} {args : Array Value} {below : List Frame} {meth : Method} {c : Code} {H : Heap} {locs : List Loc} {cells slots : Nat} {Q : State → Prop} {pc : Nat} {ls : Array Slot} {st0 : List Value} (k : ∀ x, P x → W p l e R s m args below meth c H locs cells slots Q (F0 m tgt ls (st x))) (d : (∀ x, P x → W p l e R s m args below meth c H locs cells slots Q (F0 m tgt ls (st x))) → W p l e R s m args below meth c H locs cells slots Q (F0 m pc ls st0)) : W p l e R s m args below meth c H locs cells slots Q (F0 m pc ls st0) := d k
theorem xSC0 {i r : Nat} (hi : i < 6) (hr : r < 5001) : xSetCurve (nI (i + 1)) (nI r) = 0 := by
  unfold xSetCurve
  exact (if_neg (nI_nlt (a := i + 1) (b := 1) (by omega) (by omega))).trans ((if_neg (nI_nlt (a := 6) (by omega) (by decide))).trans ((if_neg (nI_pos (by omega))).trans (if_neg (nI_nlt (a := 5000) (by omega) (by decide)))))
theorem xSR0 {d o c : Nat} (hd : d < 5001) (ho : o < 5001) (hc : c < 101) : xSetRates (nI d) (nI o) (nI c) = 0 := by
  unfold xSetRates
  exact (if_neg (nI_pos (by omega))).trans ((if_neg (nI_nlt (a := 5000) (by omega) (by decide))).trans ((if_neg (nI_pos (by omega))).trans ((if_neg (nI_nlt (a := 5000) (by omega) (by decide))).trans ((if_neg (nI_pos (by omega))).trans (if_neg (nI_nlt (a := 100) (by omega) (by decide)))))))
theorem xLn0 {n br pr am rt mm : Nat} (hn : n < 8) (hb : br < 3) (hp : pr < 3) (ha : am < 10000000) (hr : rt < 5001) (hm : mm < 6) : xLend n (nI br) (nI pr) (nI (1 + am)) (nI rt) (nI (1 + mm)) = 0 := by
  unfold xLend
  exact (if_neg (nI_pos (by omega))).trans ((if_neg (nI_ge (b := 3) (by omega) (by decide))).trans ((if_neg (nI_pos (by omega))).trans ((if_neg (nI_ge (b := 3) (by omega) (by decide))).trans ((if_neg (nI_nlt (a := 1 + am) (b := 1) (by omega) (by omega))).trans ((if_neg (nI_nlt (a := 10000000) (by omega) (by decide))).trans ((if_neg (nI_pos (by omega))).trans ((if_neg (nI_nlt (a := 5000) (by omega) (by decide))).trans ((if_neg (nI_nlt (a := 1 + mm) (b := 1) (by omega) (by omega))).trans ((if_neg (nI_nlt (a := 6) (by omega) (by decide))).trans (if_neg (nI_ge (b := 24) (by omega) (by decide))))))))))))
theorem chA {j : Nat} (h : j < 20000001) : -10000000 ≤ (nI j - 10000000).toInt ∧ (nI j - 10000000).toInt ≤ 10000000 := by
  have e : (nI j - nI 10000000).toInt = (j : Int) - (10000000 : Nat) := pk_sub_toInt (by omega) (by decide)
  rw [show (10000000 : Int32) = nI 10000000 from rfl, e]
  omega
theorem chB {j k : Nat} (h : j < 900001) (hk : k < 3) : -10000000 ≤ (nI j - nI k * 200000).toInt ∧ (nI j - nI k * 200000).toInt ≤ 10000000 := by
  have e : (nI j - nI (k * 200000)).toInt = (j : Int) - (k * 200000 : Nat) := pk_sub_toInt (by omega) (by omega)
  rw [show (200000 : Int32) = nI 200000 from rfl, m8, e]
  omega
theorem op01 {v op : Int32} (h : op = if 0 ≤ v then 1 else 0) : op = 0 ∨ op = 1 := by
  subst h; split <;> simp
theorem u2_id {w : MS} {j k : Nat} {x : Int32} (h : w j k = x) : u2 w j k x = w := by
  funext j' k'
  by_cases e : j' = j
  · subst e
    by_cases e2 : k' = k
    · subst e2; rw [u2_s, h]
    · rw [u2_k e2]
  · rw [u2_j e]
theorem PL.cg {v w w' : MS} {i t t' p bo mo : Nat} (h : PL v w i t p bo mo) (h1 : ∀ k, k < 8 → w' 1 ((8 * i) + k) = w 1 ((8 * i) + k)) (h2 : ∀ k, k < 6 → w' 2 ((6 * i) + k) = w 2 ((6 * i) + k)) (ht : t' = t) : PL v w' i t' p bo mo := by
  subst ht
  unfold PL
  have h0 : w' 1 (8 * i) = w 1 (8 * i) := h1 0 (by decide)
  rw [h0, h1 1 (by decide), h1 2 (by decide), h1 3 (by decide), h1 4 (by decide), h1 5 (by decide), h1 6 (by decide), h1 7 (by decide)]
  obtain ⟨a1, a2, a3, a4, a5, a6, a7, a8, a9, a10⟩ := h
  exact ⟨a1, a2, a3, a4, a5, a6, a7, a8, a9, fun k hk => by rw [h2 k hk]; exact a10 k hk⟩
section AC
variable {b w : MS} {n : Nat} {L : LNS} {t : Nat} {pd bo mo : Nat → Nat}
theorem PM.cg {b' w' : MS} (h : PM b w t) (hb : ∀ j, (16 ≤ j ∧ j < 22) ∨ j = 11 ∨ j = 12 → b' j = b j) (hw : w' 4 = w 4) : PM b' w' t := by
  intro m h1 h2
  obtain ⟨e1, e2, e3⟩ := h m h1 h2
  rw [hw, hb 11 (by omega), hb 12 (by omega)]
  exact ⟨fun q hq => by rw [hb (16 + q) (by omega), hb (19 + q) (by omega)]; exact e1 q hq, e2, e3⟩
theorem cu_at (h : PR b w n L t pd bo mo) {i : Nat} (hi : i < 6) : b 0 (cn (nI (i + 1)) - 1) = w 0 (8 + i) := by
  rw [cnI (by omega), show i + 1 - 1 = i by omega]
  exact h.1.2.2.2.2.2.2.1 i hi
theorem s_curve (h : PR b w n L t pd bo mo) {i r : Nat} (hi : i < 6) : PR (u2 b 0 (cn (nI (i + 1)) - 1) (nI r)) (u2 w 0 (8 + i) (nI r)) n L t pd bo mo := by
  rw [cnI (by omega), show i + 1 - 1 = i by omega]
  obtain ⟨⟨c1, c2, c3, c4, c5, c6, c7, c8, c9, c10, c11, c12, c13, c14⟩, hM, hN⟩ := h
  have hw : ∀ k, k < 8 → u2 w 0 (8 + i) (nI r) 0 k = w 0 k := fun k hk => u2_k (by omega)
  refine ⟨?_, hM.cg (fun j hj => u2_j (by omega)) (u2_j (by decide)), fun j hj => (hN j hj).cg (fun k _ => congrFun (u2_j (by decide)) _) (fun k _ => congrFun (u2_j (by decide)) _) rfl⟩
  unfold PC
  rw [hw 1 (by decide), hw 0 (by decide), hw 2 (by decide), hw 3 (by decide), hw 4 (by decide), u2_j (j' := 13) (by decide), u2_j (j' := 7) (by decide), u2_j (j' := 14) (by decide), u2_j (j' := 15) (by decide), u2_j (j' := 3) (by decide)]
  refine ⟨c1, c2, c3, c4, c5, c6, fun k hk => ?_, c8, c9, c10, c11, c12, fun k hk => by rw [hw (5 + k) (by omega)]; exact c13 k hk, c14⟩
  by_cases e : k = i
  · subst e; rw [u2_s, u2_s]
  · rw [u2_k e, u2_k (by omega)]; exact c7 k hk
theorem s_rates (h : PR b w n L t pd bo mo) {d o c : Nat} (hd : d < 5001) (ho : o < 5001) (hc : c < 101) : PR (bSetRates b (nI d) (nI o) (nI c)) (u2 (u2 (u2 w 0 2 (nI d)) 0 3 (nI o)) 0 4 (nI c)) n L t pd bo mo := by
  obtain ⟨⟨c1, c2, c3, c4, c5, c6, c7, c8, c9, c10, c11, c12, c13, c14⟩, hM, hN⟩ := h
  have hw : ∀ k, k ≠ 2 → k ≠ 3 → k ≠ 4 → u2 (u2 (u2 w 0 2 (nI d)) 0 3 (nI o)) 0 4 (nI c) 0 k = w 0 k := fun k h2 h3 h4 => by rw [u2_k h4, u2_k h3, u2_k h2]
  have hj : ∀ j, j ≠ 0 → u2 (u2 (u2 w 0 2 (nI d)) 0 3 (nI o)) 0 4 (nI c) j = w j := fun j h0 => by rw [u2_j h0, u2_j h0, u2_j h0]
  have hb : ∀ j, j ≠ 13 → bSetRates b (nI d) (nI o) (nI c) j = b j := fun j h0 => by unfold bSetRates; rw [u2_j h0, u2_j h0, u2_j h0]
  have hb2 : ∀ k, k ≠ 1 → k ≠ 2 → k ≠ 3 → bSetRates b (nI d) (nI o) (nI c) 13 k = b 13 k := fun k h1 h2 h3 => by unfold bSetRates; rw [u2_k h3, u2_k h2, u2_k h1]
  refine ⟨?_, hM.cg (fun j hq => hb j (by omega)) (hj 4 (by decide)), fun j hq => (hN j hq).cg (fun k _ => congrFun (hj 1 (by decide)) _) (fun k _ => congrFun (hj 2 (by decide)) _) rfl⟩
  unfold PC
  rw [hb2 6 (by decide) (by decide) (by decide), hb2 4 (by decide) (by decide) (by decide), hw 1 (by decide) (by decide) (by decide), hw 0 (by decide) (by decide) (by decide), hb 0 (by decide), hb 7 (by decide), hb 14 (by decide), hb 15 (by decide), hj 3 (by decide)]
  have e2 : u2 (u2 (u2 w 0 2 (nI d)) 0 3 (nI o)) 0 4 (nI c) 0 2 = nI d := by rw [u2_k (by decide), u2_k (by decide), u2_s]
  have e3 : u2 (u2 (u2 w 0 2 (nI d)) 0 3 (nI o)) 0 4 (nI c) 0 3 = nI o := by rw [u2_k (by decide), u2_s]
  have e4 : u2 (u2 (u2 w 0 2 (nI d)) 0 3 (nI o)) 0 4 (nI c) 0 4 = nI c := u2_s
  rw [e2, e3, e4, nI_int (show o < 2 ^ 31 by omega), nI_int (show c < 2 ^ 31 by omega)]
  exact ⟨c1, c2, c3, c4, c5, c6, fun k hk => by rw [hw (8 + k) (by omega) (by omega) (by omega)]; exact c7 k hk, rfl, rfl, rfl, ⟨by omega, by omega⟩, by omega, fun k hk => by rw [hw (5 + k) (by omega) (by omega) (by omega)]; exact c13 k hk, c14⟩
theorem dp_at (h : PR b w n L t pd bo mo) {i : Nat} (hi : i < 3) : b 7 (cn (nI i)) = w 0 (5 + i) := by
  rw [cnI (by omega)]
  exact (h.1.2.2.2.2.2.2.2.2.2.2.2.2.1 i hi).1
theorem xDp0 (h : PR b w n L t pd bo mo) {i : Nat} (hi : i < 3) {ch : Int32} (hch : -10000000 ≤ ch.toInt ∧ ch.toInt ≤ 10000000) (h1 : ¬ w 0 (5 + i) + ch < 0) (h2 : w 0 (5 + i) + ch ≤ 10000000) : xDep b (nI i) ch = 0 := by
  have a1 : ¬ ch < -10000000 := by rw [(i32 (z := -10000000) (q := -10000000) rfl).2.1]; omega
  have a2 : ¬ 10000000 < ch := by rw [(i32 (z := 10000000) (q := 10000000) rfl).2.2.1]; omega
  unfold xDep
  rw [dp_at h hi]
  exact (if_neg (nI_pos (by omega))).trans ((if_neg (nI_ge (b := 3) (by omega) (by decide))).trans ((if_neg a1).trans ((if_neg a2).trans ((if_neg h1).trans (if_neg (Int32.not_lt.mpr h2))))))
theorem xDp3 (h : PR b w n L t pd bo mo) {i : Nat} (hi : i < 3) {ch : Int32} (hch : -10000000 ≤ ch.toInt ∧ ch.toInt ≤ 10000000) (h1 : w 0 (5 + i) + ch < 0 ∨ ¬ w 0 (5 + i) + ch ≤ 10000000) : xDep b (nI i) ch = 3 := by
  have a1 : ¬ ch < -10000000 := by rw [(i32 (z := -10000000) (q := -10000000) rfl).2.1]; omega
  have a2 : ¬ 10000000 < ch := by rw [(i32 (z := 10000000) (q := 10000000) rfl).2.2.1]; omega
  unfold xDep
  rw [dp_at h hi]
  refine (if_neg (nI_pos (by omega))).trans ((if_neg (nI_ge (b := 3) (by omega) (by decide))).trans ((if_neg a1).trans ((if_neg a2).trans ?_)))
  by_cases h3 : w 0 (5 + i) + ch < 0
  · exact if_pos h3
  · rw [if_neg h3]
    exact if_pos (Int32.not_le.mp (h1.resolve_left h3))
theorem pr_tr (h : PR b w n L t pd bo mo) {b' w' : MS} (hb : ∀ j, j ≠ 14 → j ≠ 15 → b' j = b j) (hw : ∀ j, j ≠ 3 → w' j = w j) (hT : ∀ k, k < 6 → b' 14 k = w' 3 k ∧ b' 15 k = w' 3 (6 + k)) : PR b' w' n L t pd bo mo := by
  obtain ⟨⟨c1, c2, c3, c4, c5, c6, c7, c8, c9, c10, c11, c12, c13, c14⟩, hM, hN⟩ := h
  refine ⟨?_, hM.cg (fun j hq => hb j (by omega) (by omega)) (hw 4 (by decide)), fun j hq => (hN j hq).cg (fun k _ => congrFun (hw 1 (by decide)) _) (fun k _ => congrFun (hw 2 (by decide)) _) rfl⟩
  unfold PC
  rw [hb 13 (by decide) (by decide), hb 0 (by decide) (by decide), hb 7 (by decide) (by decide), hw 0 (by decide)]
  exact ⟨c1, c2, c3, c4, c5, c6, c7, c8, c9, c10, c11, c12, c13, hT⟩
theorem gLay_j {j k : Nat} (h : j ≠ 3) : gLay w k j = w j := (u2_j h).trans (u2_j h)
theorem bLay_j {k j : Nat} {am rt : Int32} (h : j ≠ 14) (h' : j ≠ 15) : bLay b k am rt j = b j := by unfold bLay; rw [u2_j h', u2_j h]
theorem pt_lay (h : ∀ k, k < 6 → b 14 k = w 3 k ∧ b 15 k = w 3 (6 + k)) {j : Nat} (hj : j < 6) {am rt : Int32} (ha : am = gTA w) (hr : rt = w 0 13) : ∀ k, k < 6 → bLay b j am rt 14 k = gLay w j 3 k ∧ bLay b j am rt 15 k = gLay w j 3 (6 + k) := by
  intro k hk
  unfold bLay gLay
  rw [u2_j (j' := 14) (by decide), ← ha, ← hr]
  by_cases e : k = j
  · subst e
    rw [u2_s, u2_s, u2_s, u2_k (show k ≠ 6 + k by omega), u2_s]
    exact ⟨rfl, rfl⟩
  · rw [u2_k e, u2_k e, u2_k (show k ≠ 6 + j by omega), u2_k e, u2_k (show 6 + k ≠ 6 + j by omega), u2_k (show 6 + k ≠ j by omega), u2_j (j' := 15) (by decide)]
    exact h k hk
end AC
def gLA (w : MS) : Nat → MS
  | 0 => w
  | k + 1 => gLay (gLA w k) k
theorem gLA_o {w : MS} {j : Nat} (h : j ≠ 3) : ∀ k, gLA w k j = w j
  | 0 => rfl
  | k + 1 => (gLay_j h).trans (gLA_o h k)
theorem gTA_cg {w w' : MS} (h : w' 0 = w 0) : gTA w' = gTA w := by unfold gTA; rw [h]
theorem pt_LA {b w : MS} (h : ∀ k, k < 6 → b 14 k = w 3 k ∧ b 15 k = w 3 (6 + k)) {am rt : Int32} (ha : am = gTA w) (hr : rt = w 0 13) : ∀ m, m ≤ 6 → ∀ k, k < 6 → bLA b am rt m 14 k = gLA w m 3 k ∧ bLA b am rt m 15 k = gLA w m 3 (6 + k)
  | 0, _ => h
  | m + 1, hm => pt_lay (pt_LA h ha hr m (by omega)) (by omega) (ha.trans (gTA_cg (gLA_o (by decide) m)).symm) (hr.trans (congrFun (gLA_o (by decide) m) 13).symm)
section AD
variable {b w : MS} {n : Nat} {L : LNS} {t : Nat} {pd bo mo : Nat → Nat}
theorem s_dpp (h : PR b w n L t pd bo mo) {i : Nat} (hi : i < 3) {ch : Int32} (h1 : ¬ w 0 (5 + i) + ch < 0) (h2 : w 0 (5 + i) + ch ≤ 10000000) : PR (u2 b 7 i (w 0 (5 + i) + ch)) (u2 w 0 (5 + i) (w 0 (5 + i) + ch)) n L t pd bo mo := by
  rw [(i32 (z := 0) (q := 0) rfl).2.1] at h1
  rw [(i32 (z := 10000000) (q := 10000000) rfl).2.2.2] at h2
  obtain ⟨⟨c1, c2, c3, c4, c5, c6, c7, c8, c9, c10, c11, c12, c13, c14⟩, hM, hN⟩ := h
  generalize w 0 (5 + i) + ch = v at h1 h2
  have hw : ∀ k, k ≠ 5 + i → u2 w 0 (5 + i) v 0 k = w 0 k := fun k hk => u2_k hk
  have hj : ∀ j, j ≠ 0 → u2 w 0 (5 + i) v j = w j := fun j h0 => u2_j h0
  have hb : ∀ j, j ≠ 7 → u2 b 7 i v j = b j := fun j h0 => u2_j h0
  refine ⟨?_, hM.cg (fun j hq => hb j (by omega)) (hj 4 (by decide)), fun j hq => (hN j hq).cg (fun k _ => congrFun (hj 1 (by decide)) _) (fun k _ => congrFun (hj 2 (by decide)) _) rfl⟩
  unfold PC
  rw [hb 13 (by decide), hb 0 (by decide), hb 14 (by decide), hb 15 (by decide), hj 3 (by decide), hw 1 (by omega), hw 0 (by omega), hw 2 (by omega), hw 3 (by omega), hw 4 (by omega)]
  refine ⟨c1, c2, c3, c4, c5, c6, fun k hk => by rw [hw (8 + k) (by omega)]; exact c7 k hk, c8, c9, c10, c11, c12, fun k hk => ?_, c14⟩
  by_cases e : k = i
  · subst e; rw [u2_s, u2_s]; exact ⟨rfl, by omega, by omega⟩
  · rw [u2_k e, hw (5 + k) (by omega)]; exact c13 k hk
theorem t0_iff (h : PR b w n L t pd bo mo) : b 13 4 = 0 ↔ t = 0 := by
  rw [h.1.2.2.2.2.1]
  exact nEQ (b := 0) (by have := h.1.2.1; omega) (by decide)
theorem s_dep0 (h : PR b w n L t pd bo mo) {i : Nat} (hi : i < 3) {ch : Int32} (hch : -10000000 ≤ ch.toInt ∧ ch.toInt ≤ 10000000) (h1 : ¬ w 0 (5 + i) + ch < 0) (h2 : w 0 (5 + i) + ch ≤ 10000000) (hc : ¬ (t = 0 ∧ ¬ ch = 0)) : PR (bDep b (cn (nI i)) ch) (u2 w 0 (5 + i) (w 0 (5 + i) + ch)) n L t pd bo mo := by
  unfold bDep
  rw [dp_at h hi, cnI (by omega), if_neg (fun q => hc ⟨(t0_iff h).mp q.1, q.2⟩)]
  exact s_dpp h hi h1 h2
theorem s_dep1 (h : PR b w n L t pd bo mo) {i : Nat} (hi : i < 3) {ch : Int32} (hch : -10000000 ≤ ch.toInt ∧ ch.toInt ≤ 10000000) (h1 : ¬ w 0 (5 + i) + ch < 0) (h2 : w 0 (5 + i) + ch ≤ 10000000) (hc : t = 0 ∧ ¬ ch = 0) : PR (bDep b (cn (nI i)) ch) (gLA (u2 w 0 (5 + i) (w 0 (5 + i) + ch)) 6) n L t pd bo mo := by
  have h5 : b 0 5 = w 0 13 := h.1.2.2.2.2.2.2.1 5 (by decide)
  unfold bDep
  rw [dp_at h hi, cnI (by omega), if_pos ⟨(t0_iff h).mpr hc.1, hc.2⟩]
  have hR := s_dpp h hi h1 h2
  have e13 : u2 w 0 (5 + i) (w 0 (5 + i) + ch) 0 13 = w 0 13 := u2_k (by omega)
  generalize u2 w 0 (5 + i) (w 0 (5 + i) + ch) = w1 at hR e13
  generalize u2 b 7 i (w 0 (5 + i) + ch) = b1 at hR
  exact pr_tr hR (fun j q1 q2 => bLA_o q1 q2 6) (fun j q => gLA_o q 6) (pt_LA hR.1.2.2.2.2.2.2.2.2.2.2.2.2.2 (q_TA hR) (h5.trans e13.symm) 6 (Nat.le_refl 6))
end AD
