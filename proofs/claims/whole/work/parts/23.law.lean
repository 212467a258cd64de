/-! ===== the law's body: one call of both (printed by a program of mine) ===== -/
def bz (x : Int32) : Int32 := if x = 0 then 0 else 1
theorem bz01 {x : Int32} : bz x = 0 ∨ bz x = 1 := by unfold bz; split <;> simp
def lwW (y : Nat → ClassId) (ad ab : Nat → Nat) (o : Nat) (b : MS) (n : Nat) (la : Nat → Nat → Nat) (L : LNS) (v : MS) (f : Nat → Int64) : va_W := mdW y ad v ++ (oW y o f ++ bkW y ab b n la L)
def Inv (G : va_G) (y : Nat → ClassId) (ad ab : Nat → Nat) (o : Nat) (A : Nat → Prop) (H0 H : Heap) (locs : List Loc) : Prop := ∃ (b : MS) (n : Nat) (la : Nat → Nat → Nat) (L : LNS) (v : MS) (t : Nat) (pd bo : Nat → Nat) (f : Nat → Int64), Rel b n L v t pd bo ∧ va_P G vwCl (lwW y ad ab o b n la L v f) H ∧ va_D A (lwW y ad ab o b n la L v f) ∧ va_S A H0 H locs
def LF (p : Program) (s : State) (m : MethodId) (c : Code) (args : Array Value) (G : va_G) (y : Nat → ClassId) (A : Nat → Prop) (b0 N : Nat) (xs : Nat → Int32) : Prop := p.tables.exec = Jvm.exec ∧ c.code = cL_law ∧ c.maxLocals = 7 ∧ s.vm.findClass RL = some m.cls ∧ (∀ w ∈ wsL_law, w.before args s = true) ∧ Kb G y s ∧ Zs A s s.heap ∧ va_X b0 N xs s s.heap ∧ b0 < s.heap.size ∧ ¬ A b0 ∧ (∀ q, s.heap.size ≤ q → A q) ∧ N ≤ 3584
abbrev lvB (b0 : Nat) (ab ad : Nat → Nat) (o k : Nat) : List (Nat × Value) := [(0, .ref b0), (1, .ref (ab 13)), (2, .ref (ad 0)), (3, .ref o), (4, .int (nI (7 * k)))]
theorem swP {G : va_G} {cl : List vw_C} {w1 w2 : va_W} {H : Heap} (h : va_P G cl (w1 ++ w2) H) : va_P G cl (w2 ++ w1) H := va_P.swap (a := []) h
theorem swD {A : Nat → Prop} {w1 w2 : va_W} (h : va_D A (w1 ++ w2)) : va_D A (w2 ++ w1) := va_D.swap (a := []) h
theorem lcE {a b : Int64} (h : a = b) : lg_cmp a b = 0 := by subst h; unfold lg_cmp; simp [Int64.lt_irrefl]
section LB
variable {p : Program} {l : Launch} {e : Env} {s : State} {m : MethodId} {args : Array Value} {below : List Frame} {meth : Method} {c : Code} {H : Heap} {locs : List Loc} {cells slots : Nat} {Q : State → Prop} {ls : Array Slot} {rest : List Value}
variable {G : va_G} {y : Nat → ClassId} {A : Nat → Prop} {ad ab : Nat → Nat} {o b0 N k : Nat} {xs : Nat → Int32} {b : MS} {n : Nat} {la : Nat → Nat → Nat} {L : LNS} {v : MS} {t : Nat} {pd bo : Nat → Nat} {f : Nat → Int64}
variable {cc : ByteArray} {pc : Nat}
theorem ldX {R : Room} {j : Nat} {x : Int32} (hexec : p.tables.exec = Jvm.exec) (hb : c.code = cc) (hX : va_X b0 N xs s s.heap) (hbl : b0 < s.heap.size) (hbA : ¬ A b0) (hS : va_S A s.heap H locs) (hN : N ≤ 3584) (hx : x = nI (7 * k) + nI j) (hj : 7 * k + j < N) (hdg : decode cc pc = .ok (.iaload, 1))
    (kk : W p l e R s m args below meth c H locs cells slots Q (F0 m (pc + 1) ls (.int (xs (7 * k + j)) :: rest))) : W p l e R s m args below meth c H locs cells slots Q (F0 m pc ls (.int x :: .ref b0 :: rest)) := by
  rw [hx, nI_add]
  refine va_sld hexec hb hX hbl hbA hS (vp_in_nI hj (by omega)) hdg ?_
  rw [nI_clamp (by omega)]
  exact kk
theorem lend_bz294 {R : Room} {x : Int32} (hx : p.tables.exec = Jvm.exec) (hb : c.code = cL_law) (kk : W p l e R s m args below meth c H locs cells slots Q (F0 m 302 ls (.int (bz x) :: rest))) : W p l e R s m args below meth c H locs cells slots Q (F0 m 294 ls (.int x :: rest)) := by
  refine lv_if_eq (tgt := 301) hx hb dL_law_294 (by decide) (fun h => ?_) (fun h => ?_)
  · refine lv_iconst (v := 0) hx hb dL_law_301 (by decide) ?_
    rw [show bz x = 0 from if_pos h] at kk
    exact kk
  · refine lv_iconst (v := 1) hx hb dL_law_297 (by decide) ?_
    refine lv_goto (tgt := 302) hx hb dL_law_298 (by decide) ?_
    rw [show bz x = 1 from if_neg h] at kk
    exact kk
theorem lend_bz346 {R : Room} {x : Int32} (hx : p.tables.exec = Jvm.exec) (hb : c.code = cL_law) (kk : W p l e R s m args below meth c H locs cells slots Q (F0 m 354 ls (.int (bz x) :: rest))) : W p l e R s m args below meth c H locs cells slots Q (F0 m 346 ls (.int x :: rest)) := by
  refine lv_if_eq (tgt := 353) hx hb dL_law_346 (by decide) (fun h => ?_) (fun h => ?_)
  · refine lv_iconst (v := 0) hx hb dL_law_353 (by decide) ?_
    rw [show bz x = 0 from if_pos h] at kk
    exact kk
  · refine lv_iconst (v := 1) hx hb dL_law_349 (by decide) ?_
    refine lv_goto (tgt := 354) hx hb dL_law_350 (by decide) ?_
    rw [show bz x = 1 from if_neg h] at kk
    exact kk
set_option maxHeartbeats 4000000 in
set_option maxRecDepth 100000 in
theorem lwT_setCurve (hlt : l.stackTraces = false) (F : LF p s m c args G y A b0 N xs) (hk : 7 * k + 7 ≤ N) (hc : cells + 3 ≤ 601024) (hs : slots + 20 ≤ 7293034) (h0 : Rel b n L v t pd bo) {b1 : MS} {n1 : Nat} {la1 : Nat → Nat → Nat} {L1 : LNS} {t1 : Nat} {pd1 bo1 : Nat → Nat} {f1 : Nat → Int64} {cd : Int32} (hcd : (mSetCurve v (xs (7 * k + 1)) (xs (7 * k + 2))).1 0 0 = cd) (hans : cd = 0 → f1 0 = (mSetCurve v (xs (7 * k + 1)) (xs (7 * k + 2))).2.toInt64) (hR1 : Rel b1 n1 L1 (mSetCurve v (xs (7 * k + 1)) (xs (7 * k + 2))).1 t1 pd1 bo1) (hP : va_P G vwCl (mdW y ad v ++ (oW y o f1 ++ bkW y ab b1 n1 la1 L1)) H) (hD : va_D A (mdW y ad v ++ (oW y o f1 ++ bkW y ab b1 n1 la1 L1))) (hS : va_S A s.heap H locs) (hl : lv_has ls 7 (lvB b0 ab ad o k)) (hend : ∀ (H : Heap) (locs : List Loc) (ls : Array Slot), Inv G y ad ab o A s.heap H locs → lv_has ls 7 (lvB b0 ab ad o k) → W p l e room_1 s m args below meth c H locs (cells + 3) (slots + 20) Q (F0 m 1137 ls [])) : W p l e room_1 s m args below meth c H locs (cells + 1) (slots + 6) Q (F0 m 145 ls [.int cd]) := by
  obtain ⟨hx, hb, hml, hown, hts, hK, hZ, hX, hbl, hbA, hA, hN⟩ := F
  refine lv_istore (lv' := [(5, .int cd), (0, .ref b0), (1, .ref (ab 13)), (2, .ref (ad 0)), (3, .ref o), (4, .int (nI (7 * k)))]) hx hb dL_law_145 hl (by decide) rfl (fun ls hl => ?_)
  refine lv_aload_n hx hb dL_law_147 rfl (lv_at hl 3 rfl) ?_
  refine lv_aload_n hx hb dL_law_148 rfl (lv_at hl 1 rfl) ?_
  refine lv_iload hx hb dL_law_149 (lv_at hl 5 rfl) ?_
  refine lv_iconst (v := 1) hx hb dL_law_151 (by decide) ?_
  refine lv_iadd hx hb dL_law_152 ?_
  refine ldX (j := 1) hx hb hX hbl hbA hS hN rfl (by omega) dL_law_153 ?_
  refine lv_aload_n hx hb dL_law_154 rfl (lv_at hl 1 rfl) ?_
  refine lv_iload hx hb dL_law_155 (lv_at hl 5 rfl) ?_
  refine lv_iconst (v := 2) hx hb dL_law_157 (by decide) ?_
  refine lv_iadd hx hb dL_law_158 ?_
  refine ldX (j := 2) hx hb hX hbl hbA hS hN rfl (by omega) dL_law_159 ?_
  have hPs := swP hP
  have hDs := swD hD
  have hFc : ∀ q, va_A (mdW y ad v) H.size q → A q := freeR hDs hS hA
  have hPm : va_P G vwCl (mdW y ad v) H := wR hPs
  have hDm : va_D (fun _ => True) (mdW y ad v) := (wRD hDs).weaken (fun _ _ _ _ => trivial)
  refine caN (va_runV (As := [.int (xs (7 * k + 1)), .int (xs (7 * k + 2))]) (rest := []) ⟨hx, hb, hml, hown, hts⟩ (c_X3_setCurve l G y ad v H.size (xs (7 * k + 1)) (xs (7 * k + 2)) ) (cwV 2 hts gL_law_X3_setCurve rfl rfl rfl (by decide +kernel) ⟨Nat.le_of_ble_eq_true rfl, Nat.le_of_ble_eq_true rfl⟩) ⟨mP_bl, va_recv hK.1 hPm (ci := 3) (q0 := 0) rfl rfl, fun U hU hW => ⟨rfl, by rw [hU], by rw [hU]; exact hPm, Kb.moved hW hK, hDm⟩⟩ rfl rfl hl.1 rfl (lv_room (Nat.le_of_ble_eq_true rfl)) dL_law_160 ⟨by show (cells + 1) + 0 ≤ 601024; omega, by show (slots + 6) + 0 ≤ 7293034; omega⟩) hS hFc hFc (fun u H locs _ hP1 hD1 hk1 hS => ?_)
  obtain ⟨hP, hD⟩ := joinW hPs hDs hk1 hP1 hD1 hFc
  refine lv_istore (lv' := [(6, .int (mSetCurve v (xs (7 * k + 1)) (xs (7 * k + 2))).2), (5, .int cd), (0, .ref b0), (1, .ref (ab 13)), (2, .ref (ad 0)), (3, .ref o), (4, .int (nI (7 * k)))]) hx hb dL_law_163 hl (by decide) rfl (fun ls hl => ?_)
  refine lv_aload_n hx hb dL_law_165 rfl (lv_at hl 4 rfl) ?_
  have hPm : va_P G vwCl (mdW y ad (mSetCurve v (xs (7 * k + 1)) (xs (7 * k + 2))).1) H := wR hP
  refine caR (r := .int cd) (va_runV (As := []) (rest := []) ⟨hx, hb, hml, hown, hts⟩ (hcd ▸ c_X3_thrown l G y ad (mSetCurve v (xs (7 * k + 1)) (xs (7 * k + 2))).1) (cwV 0 hts gL_law_X3_thrown rfl rfl rfl (by decide +kernel) ⟨Nat.le_of_ble_eq_true rfl, Nat.le_of_ble_eq_true rfl⟩) ⟨rP_bl, va_recv hK.1 hPm (ci := 3) (q0 := 0) rfl rfl, fun U hU hW => ⟨rfl, by rw [hU]; exact hPm, Kb.moved hW hK⟩⟩ rfl rfl hl.1 rfl (lv_room (Nat.le_of_ble_eq_true rfl)) dL_law_166 ⟨by show cells + 1 + 0 + 0 ≤ 601024; omega, by show slots + 6 + 0 + 0 ≤ 7293034; omega⟩) ?_
  refine lv_iload hx hb dL_law_169 (lv_at hl 1 rfl) ?_
  refine lv_icmp_eq (tgt := 176) hx hb dL_law_171 (by decide) (fun _ => ?_) (fun h => absurd rfl h)
  refine lv_iload hx hb dL_law_176 (lv_at hl 1 rfl) ?_
  refine lv_if_ne (tgt := 193) hx hb dL_law_178 (by decide) (fun _ => ?_) (fun hc0 => ?_)
  · refine lv_goto (tgt := 1137) hx hb dL_law_193 (by decide) ?_
    refine W.widen (k := cells + 3) (n := slots + 20) (by omega) (by omega) ?_
    exact hend H locs ls ⟨b1, n1, la1, L1, _, t1, pd1, bo1, f1, hR1, swP hP, swD hD, hS⟩ (lv_sub hl [2, 3, 4, 5, 6] rfl)
  · refine lv_aload_n hx hb dL_law_181 rfl (lv_at hl 5 rfl) ?_
    refine lv_iconst (v := 0) hx hb dL_law_182 (by decide) ?_
    refine va_lald (f := f1) hx hb hK.1 hP 0 4 rfl rfl (show vp_in (nI 0) 1 from vp_in_nI (by decide) (by decide)) dL_law_183 ?_
    refine lv_iload hx hb dL_law_184 (lv_at hl 0 rfl) ?_
    refine lv_i2l hx hb dL_law_186 rfl ?_
    refine W.lcmp hx hb dL_law_187 ?_
    refine lv_if_eq (tgt := 193) hx hb dL_law_188 (by decide) (fun _ => ?_) (fun h => absurd (lcE (hans hc0)) h)
    refine lv_goto (tgt := 1137) hx hb dL_law_193 (by decide) ?_
    refine W.widen (k := cells + 3) (n := slots + 20) (by omega) (by omega) ?_
    exact hend H locs ls ⟨b1, n1, la1, L1, _, t1, pd1, bo1, f1, hR1, swP hP, swD hD, hS⟩ (lv_sub hl [2, 3, 4, 5, 6] rfl)
set_option maxHeartbeats 4000000 in
set_option maxRecDepth 100000 in
theorem lwO_setCurve (hlt : l.stackTraces = false) (F : LF p s m c args G y A b0 N xs) (hk : 7 * k + 7 ≤ N) (hc : cells + 3 ≤ 601024) (hs : slots + 20 ≤ 7293034) (h0 : Rel b n L v t pd bo) (hP : va_P G vwCl (lwW y ad ab o b n la L v f) H) (hD : va_D A (lwW y ad ab o b n la L v f)) (hS : va_S A s.heap H locs) (hl : lv_has ls 7 (lvB b0 ab ad o k)) (hend : ∀ (H : Heap) (locs : List Loc) (ls : Array Slot), Inv G y ad ab o A s.heap H locs → lv_has ls 7 (lvB b0 ab ad o k) → W p l e room_1 s m args below meth c H locs (cells + 3) (slots + 20) Q (F0 m 1137 ls [])) : W p l e room_1 s m args below meth c H locs cells slots Q (F0 m 128 ls []) := by
  have F0 := F
  obtain ⟨hx, hb, hml, hown, hts, hK, hZ, hX, hbl, hbA, hA, hN⟩ := F
  refine lv_aload_n hx hb dL_law_128 rfl (lv_at hl 1 rfl) ?_
  refine lv_aload_n hx hb dL_law_129 rfl (lv_at hl 0 rfl) ?_
  refine lv_iload hx hb dL_law_130 (lv_at hl 4 rfl) ?_
  refine lv_iconst (v := 1) hx hb dL_law_132 (by decide) ?_
  refine lv_iadd hx hb dL_law_133 ?_
  refine ldX (j := 1) hx hb hX hbl hbA hS hN rfl (by omega) dL_law_134 ?_
  refine lv_aload_n hx hb dL_law_135 rfl (lv_at hl 0 rfl) ?_
  refine lv_iload hx hb dL_law_136 (lv_at hl 4 rfl) ?_
  refine lv_iconst (v := 2) hx hb dL_law_138 (by decide) ?_
  refine lv_iadd hx hb dL_law_139 ?_
  refine ldX (j := 2) hx hb hX hbl hbA hS hN rfl (by omega) dL_law_140 ?_
  refine lv_aload_n hx hb dL_law_141 rfl (lv_at hl 3 rfl) ?_
  have hPj : va_P G vwCl (mdW y ad v ++ (oW y o f ++ bkW y ab b n la L)) H := hP
  have hDj : va_D A (mdW y ad v ++ (oW y o f ++ bkW y ab b n la L)) := hD
  have hFc : ∀ q, va_A (oW y o f ++ bkW y ab b n la L) H.size q → A q := freeR hDj hS hA
  have hPc : va_P G vwCl (oW y o f ++ bkW y ab b n la L) H := wR hPj
  have hDc : va_D (fun _ => True) (oW y o f ++ bkW y ab b n la L) := (wRD hDj).weaken (fun _ _ _ _ => trivial)
  refine caN (vx_runSW (As := [.ref (ab 13), .int (xs (7 * k + 1)), .int (xs (7 * k + 2)), .ref o]) (rest := []) ⟨hx, hb, hml, hown, hts⟩ (c_L_setCurve l hlt G y ab b n la L o f H.size  (xs (7 * k + 1)) (xs (7 * k + 2)) ) (vx_cwSW 4 hts gL_law_L_setCurve rfl rfl rfl (by decide +kernel) ⟨Nat.le_of_ble_eq_true rfl, Nat.le_of_ble_eq_true rfl⟩) ⟨xP_bl, fun U hU hW => ⟨rfl, by rw [hU], by rw [hU]; exact hPc, Kb.moved hW hK, hDc, by rw [hU]; exact Zs.moved hW.alike ((hZ.kept hS.2.1).narrow hFc)⟩⟩ rfl rfl hl.1 rfl (lv_room (Nat.le_of_ble_eq_true rfl)) dL_law_142 ⟨by show cells + 1 ≤ 601024; omega, by show slots + 6 ≤ 7293034; omega⟩) hS hFc hFc (fun u H locs _ hP1 hD1 hk1 hS => ?_)
  obtain ⟨hP, hD⟩ := joinW hPj hDj hk1 hP1 hD1 hFc
  obtain ⟨e1, e2, e3⟩ := r_setCurve (xs (7 * k + 1)) (xs (7 * k + 2)) h0
  by_cases hX0 : (xSetCurve (xs (7 * k + 1)) (xs (7 * k + 2))) = 0
  · rw [if_pos hX0] at hP hD
    exact lwT_setCurve hlt F0 hk hc hs h0 e1 (fun _ => congrArg Int32.toInt64 (e2 hX0).1.symm) ((e2 hX0).2) hP hD hS hl hend
  · rw [if_neg hX0] at hP hD
    exact lwT_setCurve hlt F0 hk hc hs h0 e1 (fun q => absurd q (e3 hX0).1) (e3 hX0).2 hP hD hS hl hend
set_option maxHeartbeats 4000000 in
set_option maxRecDepth 100000 in
theorem lwT_setRates (hlt : l.stackTraces = false) (F : LF p s m c args G y A b0 N xs) (hk : 7 * k + 7 ≤ N) (hc : cells + 3 ≤ 601024) (hs : slots + 20 ≤ 7293034) (h0 : Rel b n L v t pd bo) {b1 : MS} {n1 : Nat} {la1 : Nat → Nat → Nat} {L1 : LNS} {t1 : Nat} {pd1 bo1 : Nat → Nat} {f1 : Nat → Int64} {cd : Int32} (hcd : ((mSetRates v (xs (7 * k + 1)) (xs (7 * k + 2)) (xs (7 * k + 3)), 0)).1 0 0 = cd) (hans : cd = 0 → True) (hR1 : Rel b1 n1 L1 ((mSetRates v (xs (7 * k + 1)) (xs (7 * k + 2)) (xs (7 * k + 3)), 0)).1 t1 pd1 bo1) (hP : va_P G vwCl (mdW y ad v ++ (oW y o f1 ++ bkW y ab b1 n1 la1 L1)) H) (hD : va_D A (mdW y ad v ++ (oW y o f1 ++ bkW y ab b1 n1 la1 L1))) (hS : va_S A s.heap H locs) (hl : lv_has ls 7 (lvB b0 ab ad o k)) (hend : ∀ (H : Heap) (locs : List Loc) (ls : Array Slot), Inv G y ad ab o A s.heap H locs → lv_has ls 7 (lvB b0 ab ad o k) → W p l e room_1 s m args below meth c H locs (cells + 3) (slots + 20) Q (F0 m 1137 ls [])) : W p l e room_1 s m args below meth c H locs (cells + 1) (slots + 6) Q (F0 m 218 ls [.int cd]) := by
  obtain ⟨hx, hb, hml, hown, hts, hK, hZ, hX, hbl, hbA, hA, hN⟩ := F
  refine lv_istore (lv' := [(5, .int cd), (0, .ref b0), (1, .ref (ab 13)), (2, .ref (ad 0)), (3, .ref o), (4, .int (nI (7 * k)))]) hx hb dL_law_218 hl (by decide) rfl (fun ls hl => ?_)
  refine lv_aload_n hx hb dL_law_220 rfl (lv_at hl 3 rfl) ?_
  refine lv_aload_n hx hb dL_law_221 rfl (lv_at hl 1 rfl) ?_
  refine lv_iload hx hb dL_law_222 (lv_at hl 5 rfl) ?_
  refine lv_iconst (v := 1) hx hb dL_law_224 (by decide) ?_
  refine lv_iadd hx hb dL_law_225 ?_
  refine ldX (j := 1) hx hb hX hbl hbA hS hN rfl (by omega) dL_law_226 ?_
  refine lv_aload_n hx hb dL_law_227 rfl (lv_at hl 1 rfl) ?_
  refine lv_iload hx hb dL_law_228 (lv_at hl 5 rfl) ?_
  refine lv_iconst (v := 2) hx hb dL_law_230 (by decide) ?_
  refine lv_iadd hx hb dL_law_231 ?_
  refine ldX (j := 2) hx hb hX hbl hbA hS hN rfl (by omega) dL_law_232 ?_
  refine lv_aload_n hx hb dL_law_233 rfl (lv_at hl 1 rfl) ?_
  refine lv_iload hx hb dL_law_234 (lv_at hl 5 rfl) ?_
  refine lv_iconst (v := 3) hx hb dL_law_236 (by decide) ?_
  refine lv_iadd hx hb dL_law_237 ?_
  refine ldX (j := 3) hx hb hX hbl hbA hS hN rfl (by omega) dL_law_238 ?_
  have hPs := swP hP
  have hDs := swD hD
  have hFc : ∀ q, va_A (mdW y ad v) H.size q → A q := freeR hDs hS hA
  have hPm : va_P G vwCl (mdW y ad v) H := wR hPs
  have hDm : va_D (fun _ => True) (mdW y ad v) := (wRD hDs).weaken (fun _ _ _ _ => trivial)
  refine caN (va_runV (As := [.int (xs (7 * k + 1)), .int (xs (7 * k + 2)), .int (xs (7 * k + 3))]) (rest := []) ⟨hx, hb, hml, hown, hts⟩ (c_X3_setRates l G y ad v H.size (xs (7 * k + 1)) (xs (7 * k + 2)) (xs (7 * k + 3)) ) (cwV 3 hts gL_law_X3_setRates rfl rfl rfl (by decide +kernel) ⟨Nat.le_of_ble_eq_true rfl, Nat.le_of_ble_eq_true rfl⟩) ⟨mP_bl, va_recv hK.1 hPm (ci := 3) (q0 := 0) rfl rfl, fun U hU hW => ⟨rfl, by rw [hU], by rw [hU]; exact hPm, Kb.moved hW hK, hDm⟩⟩ rfl rfl hl.1 rfl (lv_room (Nat.le_of_ble_eq_true rfl)) dL_law_239 ⟨by show (cells + 1) + 0 ≤ 601024; omega, by show (slots + 6) + 0 ≤ 7293034; omega⟩) hS hFc hFc (fun u H locs _ hP1 hD1 hk1 hS => ?_)
  obtain ⟨hP, hD⟩ := joinW hPs hDs hk1 hP1 hD1 hFc
  refine lv_aload_n hx hb dL_law_242 rfl (lv_at hl 3 rfl) ?_
  have hPm : va_P G vwCl (mdW y ad ((mSetRates v (xs (7 * k + 1)) (xs (7 * k + 2)) (xs (7 * k + 3)), 0)).1) H := wR hP
  refine caR (r := .int cd) (va_runV (As := []) (rest := []) ⟨hx, hb, hml, hown, hts⟩ (hcd ▸ c_X3_thrown l G y ad ((mSetRates v (xs (7 * k + 1)) (xs (7 * k + 2)) (xs (7 * k + 3)), 0)).1) (cwV 0 hts gL_law_X3_thrown rfl rfl rfl (by decide +kernel) ⟨Nat.le_of_ble_eq_true rfl, Nat.le_of_ble_eq_true rfl⟩) ⟨rP_bl, va_recv hK.1 hPm (ci := 3) (q0 := 0) rfl rfl, fun U hU hW => ⟨rfl, by rw [hU]; exact hPm, Kb.moved hW hK⟩⟩ rfl rfl hl.1 rfl (lv_room (Nat.le_of_ble_eq_true rfl)) dL_law_243 ⟨by show cells + 1 + 0 + 0 ≤ 601024; omega, by show slots + 6 + 0 + 0 ≤ 7293034; omega⟩) ?_
  refine lv_iload hx hb dL_law_246 (lv_at hl 0 rfl) ?_
  refine lv_icmp_eq (tgt := 253) hx hb dL_law_248 (by decide) (fun _ => ?_) (fun h => absurd rfl h)
  refine lv_goto (tgt := 1137) hx hb dL_law_253 (by decide) ?_
  refine W.widen (k := cells + 3) (n := slots + 20) (by omega) (by omega) ?_
  exact hend H locs ls ⟨b1, n1, la1, L1, _, t1, pd1, bo1, f1, hR1, swP hP, swD hD, hS⟩ (lv_sub hl [1, 2, 3, 4, 5] rfl)
set_option maxHeartbeats 4000000 in
set_option maxRecDepth 100000 in
theorem lwO_setRates (hlt : l.stackTraces = false) (F : LF p s m c args G y A b0 N xs) (hk : 7 * k + 7 ≤ N) (hc : cells + 3 ≤ 601024) (hs : slots + 20 ≤ 7293034) (h0 : Rel b n L v t pd bo) (hP : va_P G vwCl (lwW y ad ab o b n la L v f) H) (hD : va_D A (lwW y ad ab o b n la L v f)) (hS : va_S A s.heap H locs) (hl : lv_has ls 7 (lvB b0 ab ad o k)) (hend : ∀ (H : Heap) (locs : List Loc) (ls : Array Slot), Inv G y ad ab o A s.heap H locs → lv_has ls 7 (lvB b0 ab ad o k) → W p l e room_1 s m args below meth c H locs (cells + 3) (slots + 20) Q (F0 m 1137 ls [])) : W p l e room_1 s m args below meth c H locs cells slots Q (F0 m 196 ls []) := by
  have F0 := F
  obtain ⟨hx, hb, hml, hown, hts, hK, hZ, hX, hbl, hbA, hA, hN⟩ := F
  refine lv_aload_n hx hb dL_law_196 rfl (lv_at hl 1 rfl) ?_
  refine lv_aload_n hx hb dL_law_197 rfl (lv_at hl 0 rfl) ?_
  refine lv_iload hx hb dL_law_198 (lv_at hl 4 rfl) ?_
  refine lv_iconst (v := 1) hx hb dL_law_200 (by decide) ?_
  refine lv_iadd hx hb dL_law_201 ?_
  refine ldX (j := 1) hx hb hX hbl hbA hS hN rfl (by omega) dL_law_202 ?_
  refine lv_aload_n hx hb dL_law_203 rfl (lv_at hl 0 rfl) ?_
  refine lv_iload hx hb dL_law_204 (lv_at hl 4 rfl) ?_
  refine lv_iconst (v := 2) hx hb dL_law_206 (by decide) ?_
  refine lv_iadd hx hb dL_law_207 ?_
  refine ldX (j := 2) hx hb hX hbl hbA hS hN rfl (by omega) dL_law_208 ?_
  refine lv_aload_n hx hb dL_law_209 rfl (lv_at hl 0 rfl) ?_
  refine lv_iload hx hb dL_law_210 (lv_at hl 4 rfl) ?_
  refine lv_iconst (v := 3) hx hb dL_law_212 (by decide) ?_
  refine lv_iadd hx hb dL_law_213 ?_
  refine ldX (j := 3) hx hb hX hbl hbA hS hN rfl (by omega) dL_law_214 ?_
  have hPj : va_P G vwCl ((mdW y ad v ++ oW y o f) ++ bkW y ab b n la L) H := (List.append_assoc _ _ _).symm ▸ hP
  have hDj : va_D A ((mdW y ad v ++ oW y o f) ++ bkW y ab b n la L) := (List.append_assoc _ _ _).symm ▸ hD
  have hFc : ∀ q, va_A (bkW y ab b n la L) H.size q → A q := freeR hDj hS hA
  have hPc : va_P G vwCl (bkW y ab b n la L) H := wR hPj
  have hDc : va_D (fun _ => True) (bkW y ab b n la L) := (wRD hDj).weaken (fun _ _ _ _ => trivial)
  refine caN (vx_runSW (As := [.ref (ab 13), .int (xs (7 * k + 1)), .int (xs (7 * k + 2)), .int (xs (7 * k + 3))]) (rest := []) ⟨hx, hb, hml, hown, hts⟩ (c_L_setRates l hlt G y ab b n la L H.size  (xs (7 * k + 1)) (xs (7 * k + 2)) (xs (7 * k + 3)) ) (vx_cwSW 4 hts gL_law_L_setRates rfl rfl rfl (by decide +kernel) ⟨Nat.le_of_ble_eq_true rfl, Nat.le_of_ble_eq_true rfl⟩) ⟨xP_bl, fun U hU hW => ⟨rfl, by rw [hU], by rw [hU]; exact hPc, Kb.moved hW hK, hDc, by rw [hU]; exact Zs.moved hW.alike ((hZ.kept hS.2.1).narrow hFc)⟩⟩ rfl rfl hl.1 rfl (lv_room (Nat.le_of_ble_eq_true rfl)) dL_law_215 ⟨by show cells + 1 ≤ 601024; omega, by show slots + 6 ≤ 7293034; omega⟩) hS hFc hFc (fun u H locs _ hP1 hD1 hk1 hS => ?_)
  obtain ⟨hP, hD⟩ := joinW hPj hDj hk1 hP1 hD1 hFc
  rw [List.append_assoc] at hP hD
  obtain ⟨e1, e2, e3⟩ := r_setRates (xs (7 * k + 1)) (xs (7 * k + 2)) (xs (7 * k + 3)) h0
  by_cases hX0 : (xSetRates (xs (7 * k + 1)) (xs (7 * k + 2)) (xs (7 * k + 3))) = 0
  · rw [if_pos hX0] at hP hD
    exact lwT_setRates hlt F0 hk hc hs h0 e1 (fun _ => trivial) ((e2 hX0).2) hP hD hS hl hend
  · rw [if_neg hX0] at hP hD
    exact lwT_setRates hlt F0 hk hc hs h0 e1 (fun _ => trivial) (e3 hX0).2 hP hD hS hl hend
set_option maxHeartbeats 4000000 in
set_option maxRecDepth 100000 in
theorem lwT_lend (hlt : l.stackTraces = false) (F : LF p s m c args G y A b0 N xs) (hk : 7 * k + 7 ≤ N) (hc : cells + 3 ≤ 601024) (hs : slots + 20 ≤ 7293034) (h0 : Rel b n L v t pd bo) {b1 : MS} {n1 : Nat} {la1 : Nat → Nat → Nat} {L1 : LNS} {t1 : Nat} {pd1 bo1 : Nat → Nat} {f1 : Nat → Int64} {cd : Int32} (hcd : (mLend v n (xs (7 * k + 1)) (xs (7 * k + 2)) (xs (7 * k + 3)) (xs (7 * k + 4)) (xs (7 * k + 5)) (bz (xs (7 * k + 6)))).1 0 0 = cd) (hans : cd = 0 → f1 0 = (mLend v n (xs (7 * k + 1)) (xs (7 * k + 2)) (xs (7 * k + 3)) (xs (7 * k + 4)) (xs (7 * k + 5)) (bz (xs (7 * k + 6)))).2.toInt64) (hR1 : Rel b1 n1 L1 (mLend v n (xs (7 * k + 1)) (xs (7 * k + 2)) (xs (7 * k + 3)) (xs (7 * k + 4)) (xs (7 * k + 5)) (bz (xs (7 * k + 6)))).1 t1 pd1 bo1) (hP : va_P G vwCl (mdW y ad v ++ (oW y o f1 ++ bkW y ab b1 n1 la1 L1)) H) (hD : va_D A (mdW y ad v ++ (oW y o f1 ++ bkW y ab b1 n1 la1 L1))) (hS : va_S A s.heap H locs) (hl : lv_has ls 7 (lvB b0 ab ad o k)) (hend : ∀ (H : Heap) (locs : List Loc) (ls : Array Slot), Inv G y ad ab o A s.heap H locs → lv_has ls 7 (lvB b0 ab ad o k) → W p l e room_1 s m args below meth c H locs (cells + 3) (slots + 20) Q (F0 m 1137 ls [])) : W p l e room_1 s m args below meth c H locs (cells + 3) (slots + 20) Q (F0 m 306 ls [.int cd]) := by
  obtain ⟨hx, hb, hml, hown, hts, hK, hZ, hX, hbl, hbA, hA, hN⟩ := F
  refine lv_istore (lv' := [(5, .int cd), (0, .ref b0), (1, .ref (ab 13)), (2, .ref (ad 0)), (3, .ref o), (4, .int (nI (7 * k)))]) hx hb dL_law_306 hl (by decide) rfl (fun ls hl => ?_)
  refine lv_aload_n hx hb dL_law_308 rfl (lv_at hl 3 rfl) ?_
  refine lv_aload_n hx hb dL_law_309 rfl (lv_at hl 1 rfl) ?_
  refine lv_iload hx hb dL_law_310 (lv_at hl 5 rfl) ?_
  refine lv_iconst (v := 1) hx hb dL_law_312 (by decide) ?_
  refine lv_iadd hx hb dL_law_313 ?_
  refine ldX (j := 1) hx hb hX hbl hbA hS hN rfl (by omega) dL_law_314 ?_
  refine lv_aload_n hx hb dL_law_315 rfl (lv_at hl 1 rfl) ?_
  refine lv_iload hx hb dL_law_316 (lv_at hl 5 rfl) ?_
  refine lv_iconst (v := 2) hx hb dL_law_318 (by decide) ?_
  refine lv_iadd hx hb dL_law_319 ?_
  refine ldX (j := 2) hx hb hX hbl hbA hS hN rfl (by omega) dL_law_320 ?_
  refine lv_aload_n hx hb dL_law_321 rfl (lv_at hl 1 rfl) ?_
  refine lv_iload hx hb dL_law_322 (lv_at hl 5 rfl) ?_
  refine lv_iconst (v := 3) hx hb dL_law_324 (by decide) ?_
  refine lv_iadd hx hb dL_law_325 ?_
  refine ldX (j := 3) hx hb hX hbl hbA hS hN rfl (by omega) dL_law_326 ?_
  refine lv_aload_n hx hb dL_law_327 rfl (lv_at hl 1 rfl) ?_
  refine lv_iload hx hb dL_law_328 (lv_at hl 5 rfl) ?_
  refine lv_iconst (v := 4) hx hb dL_law_330 (by decide) ?_
  refine lv_iadd hx hb dL_law_331 ?_
  refine ldX (j := 4) hx hb hX hbl hbA hS hN rfl (by omega) dL_law_332 ?_
  refine lv_aload_n hx hb dL_law_333 rfl (lv_at hl 1 rfl) ?_
  refine lv_iload hx hb dL_law_334 (lv_at hl 5 rfl) ?_
  refine lv_iconst (v := 5) hx hb dL_law_336 (by decide) ?_
  refine lv_iadd hx hb dL_law_337 ?_
  refine ldX (j := 5) hx hb hX hbl hbA hS hN rfl (by omega) dL_law_338 ?_
  refine lv_aload_n hx hb dL_law_339 rfl (lv_at hl 1 rfl) ?_
  refine lv_iload hx hb dL_law_340 (lv_at hl 5 rfl) ?_
  refine lv_bipush (v := 6) hx hb dL_law_342 (by decide) ?_
  refine lv_iadd hx hb dL_law_344 ?_
  refine ldX (j := 6) hx hb hX hbl hbA hS hN rfl (by omega) dL_law_345 ?_
  refine lend_bz346 hx hb ?_
  have hPs := swP hP
  have hDs := swD hD
  have hFc : ∀ q, va_A (mdW y ad v) H.size q → A q := freeR hDs hS hA
  have hPm : va_P G vwCl (mdW y ad v) H := wR hPs
  have hDm : va_D (fun _ => True) (mdW y ad v) := (wRD hDs).weaken (fun _ _ _ _ => trivial)
  refine caN (va_runV (As := [.int (xs (7 * k + 1)), .int (xs (7 * k + 2)), .int (xs (7 * k + 3)), .int (xs (7 * k + 4)), .int (xs (7 * k + 5)), .int (bz (xs (7 * k + 6)))]) (rest := []) ⟨hx, hb, hml, hown, hts⟩ (c_X3_lend l G y ad v H.size (xs (7 * k + 1)) (xs (7 * k + 2)) (xs (7 * k + 3)) (xs (7 * k + 4)) (xs (7 * k + 5)) (bz (xs (7 * k + 6))) n h0.1.2.2.2.1 h0.1.1 bz01) (cwV 6 hts gL_law_X3_lend rfl rfl rfl (by decide +kernel) ⟨Nat.le_of_ble_eq_true rfl, Nat.le_of_ble_eq_true rfl⟩) ⟨mP_bl, va_recv hK.1 hPm (ci := 3) (q0 := 0) rfl rfl, fun U hU hW => ⟨rfl, by rw [hU], by rw [hU]; exact hPm, Kb.moved hW hK, hDm⟩⟩ rfl rfl hl.1 rfl (lv_room (Nat.le_of_ble_eq_true rfl)) dL_law_354 ⟨by show (cells + 3) + 0 ≤ 601024; omega, by show (slots + 20) + 0 ≤ 7293034; omega⟩) hS hFc hFc (fun u H locs _ hP1 hD1 hk1 hS => ?_)
  obtain ⟨hP, hD⟩ := joinW hPs hDs hk1 hP1 hD1 hFc
  refine lv_istore (lv' := [(6, .int (mLend v n (xs (7 * k + 1)) (xs (7 * k + 2)) (xs (7 * k + 3)) (xs (7 * k + 4)) (xs (7 * k + 5)) (bz (xs (7 * k + 6)))).2), (5, .int cd), (0, .ref b0), (1, .ref (ab 13)), (2, .ref (ad 0)), (3, .ref o), (4, .int (nI (7 * k)))]) hx hb dL_law_357 hl (by decide) rfl (fun ls hl => ?_)
  refine lv_aload_n hx hb dL_law_359 rfl (lv_at hl 4 rfl) ?_
  have hPm : va_P G vwCl (mdW y ad (mLend v n (xs (7 * k + 1)) (xs (7 * k + 2)) (xs (7 * k + 3)) (xs (7 * k + 4)) (xs (7 * k + 5)) (bz (xs (7 * k + 6)))).1) H := wR hP
  refine caR (r := .int cd) (va_runV (As := []) (rest := []) ⟨hx, hb, hml, hown, hts⟩ (hcd ▸ c_X3_thrown l G y ad (mLend v n (xs (7 * k + 1)) (xs (7 * k + 2)) (xs (7 * k + 3)) (xs (7 * k + 4)) (xs (7 * k + 5)) (bz (xs (7 * k + 6)))).1) (cwV 0 hts gL_law_X3_thrown rfl rfl rfl (by decide +kernel) ⟨Nat.le_of_ble_eq_true rfl, Nat.le_of_ble_eq_true rfl⟩) ⟨rP_bl, va_recv hK.1 hPm (ci := 3) (q0 := 0) rfl rfl, fun U hU hW => ⟨rfl, by rw [hU]; exact hPm, Kb.moved hW hK⟩⟩ rfl rfl hl.1 rfl (lv_room (Nat.le_of_ble_eq_true rfl)) dL_law_360 ⟨by show cells + 3 + 0 + 0 ≤ 601024; omega, by show slots + 20 + 0 + 0 ≤ 7293034; omega⟩) ?_
  refine lv_iload hx hb dL_law_363 (lv_at hl 1 rfl) ?_
  refine lv_icmp_eq (tgt := 370) hx hb dL_law_365 (by decide) (fun _ => ?_) (fun h => absurd rfl h)
  refine lv_iload hx hb dL_law_370 (lv_at hl 1 rfl) ?_
  refine lv_if_ne (tgt := 387) hx hb dL_law_372 (by decide) (fun _ => ?_) (fun hc0 => ?_)
  · refine lv_goto (tgt := 1137) hx hb dL_law_387 (by decide) ?_
    refine W.widen (k := cells + 3) (n := slots + 20) (by omega) (by omega) ?_
    exact hend H locs ls ⟨b1, n1, la1, L1, _, t1, pd1, bo1, f1, hR1, swP hP, swD hD, hS⟩ (lv_sub hl [2, 3, 4, 5, 6] rfl)
  · refine lv_aload_n hx hb dL_law_375 rfl (lv_at hl 5 rfl) ?_
    refine lv_iconst (v := 0) hx hb dL_law_376 (by decide) ?_
    refine va_lald (f := f1) hx hb hK.1 hP 0 4 rfl rfl (show vp_in (nI 0) 1 from vp_in_nI (by decide) (by decide)) dL_law_377 ?_
    refine lv_iload hx hb dL_law_378 (lv_at hl 0 rfl) ?_
    refine lv_i2l hx hb dL_law_380 rfl ?_
    refine W.lcmp hx hb dL_law_381 ?_
    refine lv_if_eq (tgt := 387) hx hb dL_law_382 (by decide) (fun _ => ?_) (fun h => absurd (lcE (hans hc0)) h)
    refine lv_goto (tgt := 1137) hx hb dL_law_387 (by decide) ?_
    refine W.widen (k := cells + 3) (n := slots + 20) (by omega) (by omega) ?_
    exact hend H locs ls ⟨b1, n1, la1, L1, _, t1, pd1, bo1, f1, hR1, swP hP, swD hD, hS⟩ (lv_sub hl [2, 3, 4, 5, 6] rfl)
set_option maxHeartbeats 4000000 in
set_option maxRecDepth 100000 in
theorem lwO_lend (hlt : l.stackTraces = false) (F : LF p s m c args G y A b0 N xs) (hk : 7 * k + 7 ≤ N) (hc : cells + 3 ≤ 601024) (hs : slots + 20 ≤ 7293034) (h0 : Rel b n L v t pd bo) (hP : va_P G vwCl (lwW y ad ab o b n la L v f) H) (hD : va_D A (lwW y ad ab o b n la L v f)) (hS : va_S A s.heap H locs) (hl : lv_has ls 7 (lvB b0 ab ad o k)) (hend : ∀ (H : Heap) (locs : List Loc) (ls : Array Slot), Inv G y ad ab o A s.heap H locs → lv_has ls 7 (lvB b0 ab ad o k) → W p l e room_1 s m args below meth c H locs (cells + 3) (slots + 20) Q (F0 m 1137 ls [])) : W p l e room_1 s m args below meth c H locs cells slots Q (F0 m 256 ls []) := by
  have F0 := F
  obtain ⟨hx, hb, hml, hown, hts, hK, hZ, hX, hbl, hbA, hA, hN⟩ := F
  refine lv_aload_n hx hb dL_law_256 rfl (lv_at hl 1 rfl) ?_
  refine lv_aload_n hx hb dL_law_257 rfl (lv_at hl 0 rfl) ?_
  refine lv_iload hx hb dL_law_258 (lv_at hl 4 rfl) ?_
  refine lv_iconst (v := 1) hx hb dL_law_260 (by decide) ?_
  refine lv_iadd hx hb dL_law_261 ?_
  refine ldX (j := 1) hx hb hX hbl hbA hS hN rfl (by omega) dL_law_262 ?_
  refine lv_aload_n hx hb dL_law_263 rfl (lv_at hl 0 rfl) ?_
  refine lv_iload hx hb dL_law_264 (lv_at hl 4 rfl) ?_
  refine lv_iconst (v := 2) hx hb dL_law_266 (by decide) ?_
  refine lv_iadd hx hb dL_law_267 ?_
  refine ldX (j := 2) hx hb hX hbl hbA hS hN rfl (by omega) dL_law_268 ?_
  refine lv_aload_n hx hb dL_law_269 rfl (lv_at hl 0 rfl) ?_
  refine lv_iload hx hb dL_law_270 (lv_at hl 4 rfl) ?_
  refine lv_iconst (v := 3) hx hb dL_law_272 (by decide) ?_
  refine lv_iadd hx hb dL_law_273 ?_
  refine ldX (j := 3) hx hb hX hbl hbA hS hN rfl (by omega) dL_law_274 ?_
  refine lv_aload_n hx hb dL_law_275 rfl (lv_at hl 0 rfl) ?_
  refine lv_iload hx hb dL_law_276 (lv_at hl 4 rfl) ?_
  refine lv_iconst (v := 4) hx hb dL_law_278 (by decide) ?_
  refine lv_iadd hx hb dL_law_279 ?_
  refine ldX (j := 4) hx hb hX hbl hbA hS hN rfl (by omega) dL_law_280 ?_
  refine lv_aload_n hx hb dL_law_281 rfl (lv_at hl 0 rfl) ?_
  refine lv_iload hx hb dL_law_282 (lv_at hl 4 rfl) ?_
  refine lv_iconst (v := 5) hx hb dL_law_284 (by decide) ?_
  refine lv_iadd hx hb dL_law_285 ?_
  refine ldX (j := 5) hx hb hX hbl hbA hS hN rfl (by omega) dL_law_286 ?_
  refine lv_aload_n hx hb dL_law_287 rfl (lv_at hl 0 rfl) ?_
  refine lv_iload hx hb dL_law_288 (lv_at hl 4 rfl) ?_
  refine lv_bipush (v := 6) hx hb dL_law_290 (by decide) ?_
  refine lv_iadd hx hb dL_law_292 ?_
  refine ldX (j := 6) hx hb hX hbl hbA hS hN rfl (by omega) dL_law_293 ?_
  refine lend_bz294 hx hb ?_
  refine lv_aload_n hx hb dL_law_302 rfl (lv_at hl 3 rfl) ?_
  have hPj : va_P G vwCl (mdW y ad v ++ (oW y o f ++ bkW y ab b n la L)) H := hP
  have hDj : va_D A (mdW y ad v ++ (oW y o f ++ bkW y ab b n la L)) := hD
  have hFc : ∀ q, va_A (oW y o f ++ bkW y ab b n la L) H.size q → A q := freeR hDj hS hA
  have hPc : va_P G vwCl (oW y o f ++ bkW y ab b n la L) H := wR hPj
  have hDc : va_D (fun _ => True) (oW y o f ++ bkW y ab b n la L) := (wRD hDj).weaken (fun _ _ _ _ => trivial)
  refine caN (vx_runSW (As := [.ref (ab 13), .int (xs (7 * k + 1)), .int (xs (7 * k + 2)), .int (xs (7 * k + 3)), .int (xs (7 * k + 4)), .int (xs (7 * k + 5)), .int (bz (xs (7 * k + 6))), .ref o]) (rest := []) ⟨hx, hb, hml, hown, hts⟩ (c_L_lend l hlt G y ab b n la L o f H.size  (xs (7 * k + 1)) (xs (7 * k + 2)) (xs (7 * k + 3)) (xs (7 * k + 4)) (xs (7 * k + 5)) (bz (xs (7 * k + 6))) h0.1.2.2.1 h0.1.1 bz01) (vx_cwSW 8 hts gL_law_L_lend rfl rfl rfl (by decide +kernel) ⟨Nat.le_of_ble_eq_true rfl, Nat.le_of_ble_eq_true rfl⟩) ⟨xP_bl, fun U hU hW => ⟨rfl, by rw [hU], by rw [hU]; exact hPc, Kb.moved hW hK, hDc, by rw [hU]; exact Zs.moved hW.alike ((hZ.kept hS.2.1).narrow hFc)⟩⟩ rfl rfl hl.1 rfl (lv_room (Nat.le_of_ble_eq_true rfl)) dL_law_303 ⟨by show cells + 3 ≤ 601024; omega, by show slots + 20 ≤ 7293034; omega⟩) hS hFc hFc (fun u H locs _ hP1 hD1 hk1 hS => ?_)
  obtain ⟨hP, hD⟩ := joinW hPj hDj hk1 hP1 hD1 hFc
  obtain ⟨e1, e2, e3⟩ := r_lend (xs (7 * k + 1)) (xs (7 * k + 2)) (xs (7 * k + 3)) (xs (7 * k + 4)) (xs (7 * k + 5)) (bz (xs (7 * k + 6))) h0
  by_cases hX0 : (xLend n (xs (7 * k + 1)) (xs (7 * k + 2)) (xs (7 * k + 3)) (xs (7 * k + 4)) (xs (7 * k + 5))) = 0
  · rw [if_pos hX0] at hP hD
    exact lwT_lend hlt F0 hk hc hs h0 e1 (fun _ => congrArg Int32.toInt64 (e2 hX0).1.symm) ((e2 hX0).2.2) hP hD hS hl hend
  · rw [if_neg hX0] at hP hD
    exact lwT_lend hlt F0 hk hc hs h0 e1 (fun q => absurd q (e3 hX0).1) (e3 hX0).2 hP hD hS hl hend
set_option maxHeartbeats 4000000 in
set_option maxRecDepth 100000 in
theorem lwT_repay (hlt : l.stackTraces = false) (F : LF p s m c args G y A b0 N xs) (hk : 7 * k + 7 ≤ N) (hc : cells + 3 ≤ 601024) (hs : slots + 20 ≤ 7293034) (h0 : Rel b n L v t pd bo) {b1 : MS} {n1 : Nat} {la1 : Nat → Nat → Nat} {L1 : LNS} {t1 : Nat} {pd1 bo1 : Nat → Nat} {f1 : Nat → Int64} {cd : Int32} (hcd : (mRepay v n (xs (7 * k + 1))).1 0 0 = cd) (hans : cd = 0 → f1 0 = (mRepay v n (xs (7 * k + 1))).2.toInt64) (hR1 : Rel b1 n1 L1 (mRepay v n (xs (7 * k + 1))).1 t1 pd1 bo1) (hP : va_P G vwCl (mdW y ad v ++ (oW y o f1 ++ bkW y ab b1 n1 la1 L1)) H) (hD : va_D A (mdW y ad v ++ (oW y o f1 ++ bkW y ab b1 n1 la1 L1))) (hS : va_S A s.heap H locs) (hl : lv_has ls 7 (lvB b0 ab ad o k)) (hend : ∀ (H : Heap) (locs : List Loc) (ls : Array Slot), Inv G y ad ab o A s.heap H locs → lv_has ls 7 (lvB b0 ab ad o k) → W p l e room_1 s m args below meth c H locs (cells + 3) (slots + 20) Q (F0 m 1137 ls [])) : W p l e room_1 s m args below meth c H locs (cells + 1) (slots + 6) Q (F0 m 401 ls [.int cd]) := by
  obtain ⟨hx, hb, hml, hown, hts, hK, hZ, hX, hbl, hbA, hA, hN⟩ := F
  refine lv_istore (lv' := [(5, .int cd), (0, .ref b0), (1, .ref (ab 13)), (2, .ref (ad 0)), (3, .ref o), (4, .int (nI (7 * k)))]) hx hb dL_law_401 hl (by decide) rfl (fun ls hl => ?_)
  refine lv_aload_n hx hb dL_law_403 rfl (lv_at hl 3 rfl) ?_
  refine lv_aload_n hx hb dL_law_404 rfl (lv_at hl 1 rfl) ?_
  refine lv_iload hx hb dL_law_405 (lv_at hl 5 rfl) ?_
  refine lv_iconst (v := 1) hx hb dL_law_407 (by decide) ?_
  refine lv_iadd hx hb dL_law_408 ?_
  refine ldX (j := 1) hx hb hX hbl hbA hS hN rfl (by omega) dL_law_409 ?_
  have hPs := swP hP
  have hDs := swD hD
  have hFc : ∀ q, va_A (mdW y ad v) H.size q → A q := freeR hDs hS hA
  have hPm : va_P G vwCl (mdW y ad v) H := wR hPs
  have hDm : va_D (fun _ => True) (mdW y ad v) := (wRD hDs).weaken (fun _ _ _ _ => trivial)
  refine caN (va_runV (As := [.int (xs (7 * k + 1))]) (rest := []) ⟨hx, hb, hml, hown, hts⟩ (c_X3_repay l G y ad v H.size (xs (7 * k + 1)) n h0.1.2.2.2.1 h0.1.1) (cwV 1 hts gL_law_X3_repay rfl rfl rfl (by decide +kernel) ⟨Nat.le_of_ble_eq_true rfl, Nat.le_of_ble_eq_true rfl⟩) ⟨mP_bl, va_recv hK.1 hPm (ci := 3) (q0 := 0) rfl rfl, fun U hU hW => ⟨rfl, by rw [hU], by rw [hU]; exact hPm, Kb.moved hW hK, hDm⟩⟩ rfl rfl hl.1 rfl (lv_room (Nat.le_of_ble_eq_true rfl)) dL_law_410 ⟨by show (cells + 1) + 0 ≤ 601024; omega, by show (slots + 6) + 0 ≤ 7293034; omega⟩) hS hFc hFc (fun u H locs _ hP1 hD1 hk1 hS => ?_)
  obtain ⟨hP, hD⟩ := joinW hPs hDs hk1 hP1 hD1 hFc
  refine lv_istore (lv' := [(6, .int (mRepay v n (xs (7 * k + 1))).2), (5, .int cd), (0, .ref b0), (1, .ref (ab 13)), (2, .ref (ad 0)), (3, .ref o), (4, .int (nI (7 * k)))]) hx hb dL_law_413 hl (by decide) rfl (fun ls hl => ?_)
  refine lv_aload_n hx hb dL_law_415 rfl (lv_at hl 4 rfl) ?_
  have hPm : va_P G vwCl (mdW y ad (mRepay v n (xs (7 * k + 1))).1) H := wR hP
  refine caR (r := .int cd) (va_runV (As := []) (rest := []) ⟨hx, hb, hml, hown, hts⟩ (hcd ▸ c_X3_thrown l G y ad (mRepay v n (xs (7 * k + 1))).1) (cwV 0 hts gL_law_X3_thrown rfl rfl rfl (by decide +kernel) ⟨Nat.le_of_ble_eq_true rfl, Nat.le_of_ble_eq_true rfl⟩) ⟨rP_bl, va_recv hK.1 hPm (ci := 3) (q0 := 0) rfl rfl, fun U hU hW => ⟨rfl, by rw [hU]; exact hPm, Kb.moved hW hK⟩⟩ rfl rfl hl.1 rfl (lv_room (Nat.le_of_ble_eq_true rfl)) dL_law_416 ⟨by show cells + 1 + 0 + 0 ≤ 601024; omega, by show slots + 6 + 0 + 0 ≤ 7293034; omega⟩) ?_
  refine lv_iload hx hb dL_law_419 (lv_at hl 1 rfl) ?_
  refine lv_icmp_eq (tgt := 426) hx hb dL_law_421 (by decide) (fun _ => ?_) (fun h => absurd rfl h)
  refine lv_iload hx hb dL_law_426 (lv_at hl 1 rfl) ?_
  refine lv_if_ne (tgt := 443) hx hb dL_law_428 (by decide) (fun _ => ?_) (fun hc0 => ?_)
  · refine lv_goto (tgt := 1137) hx hb dL_law_443 (by decide) ?_
    refine W.widen (k := cells + 3) (n := slots + 20) (by omega) (by omega) ?_
    exact hend H locs ls ⟨b1, n1, la1, L1, _, t1, pd1, bo1, f1, hR1, swP hP, swD hD, hS⟩ (lv_sub hl [2, 3, 4, 5, 6] rfl)
  · refine lv_aload_n hx hb dL_law_431 rfl (lv_at hl 5 rfl) ?_
    refine lv_iconst (v := 0) hx hb dL_law_432 (by decide) ?_
    refine va_lald (f := f1) hx hb hK.1 hP 0 4 rfl rfl (show vp_in (nI 0) 1 from vp_in_nI (by decide) (by decide)) dL_law_433 ?_
    refine lv_iload hx hb dL_law_434 (lv_at hl 0 rfl) ?_
    refine lv_i2l hx hb dL_law_436 rfl ?_
    refine W.lcmp hx hb dL_law_437 ?_
    refine lv_if_eq (tgt := 443) hx hb dL_law_438 (by decide) (fun _ => ?_) (fun h => absurd (lcE (hans hc0)) h)
    refine lv_goto (tgt := 1137) hx hb dL_law_443 (by decide) ?_
    refine W.widen (k := cells + 3) (n := slots + 20) (by omega) (by omega) ?_
    exact hend H locs ls ⟨b1, n1, la1, L1, _, t1, pd1, bo1, f1, hR1, swP hP, swD hD, hS⟩ (lv_sub hl [2, 3, 4, 5, 6] rfl)
set_option maxHeartbeats 4000000 in
set_option maxRecDepth 100000 in
theorem lwO_repay (hlt : l.stackTraces = false) (F : LF p s m c args G y A b0 N xs) (hk : 7 * k + 7 ≤ N) (hc : cells + 3 ≤ 601024) (hs : slots + 20 ≤ 7293034) (h0 : Rel b n L v t pd bo) (hP : va_P G vwCl (lwW y ad ab o b n la L v f) H) (hD : va_D A (lwW y ad ab o b n la L v f)) (hS : va_S A s.heap H locs) (hl : lv_has ls 7 (lvB b0 ab ad o k)) (hend : ∀ (H : Heap) (locs : List Loc) (ls : Array Slot), Inv G y ad ab o A s.heap H locs → lv_has ls 7 (lvB b0 ab ad o k) → W p l e room_1 s m args below meth c H locs (cells + 3) (slots + 20) Q (F0 m 1137 ls [])) : W p l e room_1 s m args below meth c H locs cells slots Q (F0 m 390 ls []) := by
  have F0 := F
  obtain ⟨hx, hb, hml, hown, hts, hK, hZ, hX, hbl, hbA, hA, hN⟩ := F
  refine lv_aload_n hx hb dL_law_390 rfl (lv_at hl 1 rfl) ?_
  refine lv_aload_n hx hb dL_law_391 rfl (lv_at hl 0 rfl) ?_
  refine lv_iload hx hb dL_law_392 (lv_at hl 4 rfl) ?_
  refine lv_iconst (v := 1) hx hb dL_law_394 (by decide) ?_
  refine lv_iadd hx hb dL_law_395 ?_
  refine ldX (j := 1) hx hb hX hbl hbA hS hN rfl (by omega) dL_law_396 ?_
  refine lv_aload_n hx hb dL_law_397 rfl (lv_at hl 3 rfl) ?_
  have hPj : va_P G vwCl (mdW y ad v ++ (oW y o f ++ bkW y ab b n la L)) H := hP
  have hDj : va_D A (mdW y ad v ++ (oW y o f ++ bkW y ab b n la L)) := hD
  have hFc : ∀ q, va_A (oW y o f ++ bkW y ab b n la L) H.size q → A q := freeR hDj hS hA
  have hPc : va_P G vwCl (oW y o f ++ bkW y ab b n la L) H := wR hPj
  have hDc : va_D (fun _ => True) (oW y o f ++ bkW y ab b n la L) := (wRD hDj).weaken (fun _ _ _ _ => trivial)
  refine caN (vx_runSW (As := [.ref (ab 13), .int (xs (7 * k + 1)), .ref o]) (rest := []) ⟨hx, hb, hml, hown, hts⟩ (c_L_repay l hlt G y ab b n la L o f H.size h0.1.1 pd (fun i hi => (h0.2.2.1 i hi).2.2.2.2.2.2.2.1) (xs (7 * k + 1)) ) (vx_cwSW 3 hts gL_law_L_repay rfl rfl rfl (by decide +kernel) ⟨Nat.le_of_ble_eq_true rfl, Nat.le_of_ble_eq_true rfl⟩) ⟨xP_bl, fun U hU hW => ⟨rfl, by rw [hU], by rw [hU]; exact hPc, Kb.moved hW hK, hDc, by rw [hU]; exact Zs.moved hW.alike ((hZ.kept hS.2.1).narrow hFc)⟩⟩ rfl rfl hl.1 rfl (lv_room (Nat.le_of_ble_eq_true rfl)) dL_law_398 ⟨by show cells + 1 ≤ 601024; omega, by show slots + 6 ≤ 7293034; omega⟩) hS hFc hFc (fun u H locs _ hP1 hD1 hk1 hS => ?_)
  obtain ⟨hP, hD⟩ := joinW hPj hDj hk1 hP1 hD1 hFc
  obtain ⟨e1, e2, e3⟩ := r_repay (xs (7 * k + 1)) h0
  by_cases hX0 : (xRepay n L pd (xs (7 * k + 1))) = 0
  · rw [if_pos hX0] at hP hD
    exact lwT_repay hlt F0 hk hc hs h0 e1 (fun _ => congrArg Int32.toInt64 (e2 hX0).1.symm) ((e2 hX0).2) hP hD hS hl hend
  · rw [if_neg hX0] at hP hD
    exact lwT_repay hlt F0 hk hc hs h0 e1 (fun q => absurd q (e3 hX0).1) (e3 hX0).2 hP hD hS hl hend
set_option maxHeartbeats 4000000 in
set_option maxRecDepth 100000 in
theorem lwT_deposit (hlt : l.stackTraces = false) (F : LF p s m c args G y A b0 N xs) (hk : 7 * k + 7 ≤ N) (hc : cells + 3 ≤ 601024) (hs : slots + 20 ≤ 7293034) (h0 : Rel b n L v t pd bo) {b1 : MS} {n1 : Nat} {la1 : Nat → Nat → Nat} {L1 : LNS} {t1 : Nat} {pd1 bo1 : Nat → Nat} {f1 : Nat → Int64} {cd : Int32} (hcd : (mDep v (xs (7 * k + 1)) (xs (7 * k + 2))).1 0 0 = cd) (hans : cd = 0 → f1 0 = (mDep v (xs (7 * k + 1)) (xs (7 * k + 2))).2.toInt64) (hR1 : Rel b1 n1 L1 (mDep v (xs (7 * k + 1)) (xs (7 * k + 2))).1 t1 pd1 bo1) (hP : va_P G vwCl (mdW y ad v ++ (oW y o f1 ++ bkW y ab b1 n1 la1 L1)) H) (hD : va_D A (mdW y ad v ++ (oW y o f1 ++ bkW y ab b1 n1 la1 L1))) (hS : va_S A s.heap H locs) (hl : lv_has ls 7 (lvB b0 ab ad o k)) (hend : ∀ (H : Heap) (locs : List Loc) (ls : Array Slot), Inv G y ad ab o A s.heap H locs → lv_has ls 7 (lvB b0 ab ad o k) → W p l e room_1 s m args below meth c H locs (cells + 3) (slots + 20) Q (F0 m 1137 ls [])) : W p l e room_1 s m args below meth c H locs (cells + 1) (slots + 6) Q (F0 m 463 ls [.int cd]) := by
  obtain ⟨hx, hb, hml, hown, hts, hK, hZ, hX, hbl, hbA, hA, hN⟩ := F
  refine lv_istore (lv' := [(5, .int cd), (0, .ref b0), (1, .ref (ab 13)), (2, .ref (ad 0)), (3, .ref o), (4, .int (nI (7 * k)))]) hx hb dL_law_463 hl (by decide) rfl (fun ls hl => ?_)
  refine lv_aload_n hx hb dL_law_465 rfl (lv_at hl 3 rfl) ?_
  refine lv_aload_n hx hb dL_law_466 rfl (lv_at hl 1 rfl) ?_
  refine lv_iload hx hb dL_law_467 (lv_at hl 5 rfl) ?_
  refine lv_iconst (v := 1) hx hb dL_law_469 (by decide) ?_
  refine lv_iadd hx hb dL_law_470 ?_
  refine ldX (j := 1) hx hb hX hbl hbA hS hN rfl (by omega) dL_law_471 ?_
  refine lv_aload_n hx hb dL_law_472 rfl (lv_at hl 1 rfl) ?_
  refine lv_iload hx hb dL_law_473 (lv_at hl 5 rfl) ?_
  refine lv_iconst (v := 2) hx hb dL_law_475 (by decide) ?_
  refine lv_iadd hx hb dL_law_476 ?_
  refine ldX (j := 2) hx hb hX hbl hbA hS hN rfl (by omega) dL_law_477 ?_
  have hPs := swP hP
  have hDs := swD hD
  have hFc : ∀ q, va_A (mdW y ad v) H.size q → A q := freeR hDs hS hA
  have hPm : va_P G vwCl (mdW y ad v) H := wR hPs
  have hDm : va_D (fun _ => True) (mdW y ad v) := (wRD hDs).weaken (fun _ _ _ _ => trivial)
  refine caN (va_runV (As := [.int (xs (7 * k + 1)), .int (xs (7 * k + 2))]) (rest := []) ⟨hx, hb, hml, hown, hts⟩ (c_X3_deposit l G y ad v H.size (xs (7 * k + 1)) (xs (7 * k + 2)) ) (cwV 2 hts gL_law_X3_deposit rfl rfl rfl (by decide +kernel) ⟨Nat.le_of_ble_eq_true rfl, Nat.le_of_ble_eq_true rfl⟩) ⟨mP_bl, va_recv hK.1 hPm (ci := 3) (q0 := 0) rfl rfl, fun U hU hW => ⟨rfl, by rw [hU], by rw [hU]; exact hPm, Kb.moved hW hK, hDm⟩⟩ rfl rfl hl.1 rfl (lv_room (Nat.le_of_ble_eq_true rfl)) dL_law_478 ⟨by show (cells + 1) + 0 ≤ 601024; omega, by show (slots + 6) + 0 ≤ 7293034; omega⟩) hS hFc hFc (fun u H locs _ hP1 hD1 hk1 hS => ?_)
  obtain ⟨hP, hD⟩ := joinW hPs hDs hk1 hP1 hD1 hFc
  refine lv_istore (lv' := [(6, .int (mDep v (xs (7 * k + 1)) (xs (7 * k + 2))).2), (5, .int cd), (0, .ref b0), (1, .ref (ab 13)), (2, .ref (ad 0)), (3, .ref o), (4, .int (nI (7 * k)))]) hx hb dL_law_481 hl (by decide) rfl (fun ls hl => ?_)
  refine lv_aload_n hx hb dL_law_483 rfl (lv_at hl 4 rfl) ?_
  have hPm : va_P G vwCl (mdW y ad (mDep v (xs (7 * k + 1)) (xs (7 * k + 2))).1) H := wR hP
  refine caR (r := .int cd) (va_runV (As := []) (rest := []) ⟨hx, hb, hml, hown, hts⟩ (hcd ▸ c_X3_thrown l G y ad (mDep v (xs (7 * k + 1)) (xs (7 * k + 2))).1) (cwV 0 hts gL_law_X3_thrown rfl rfl rfl (by decide +kernel) ⟨Nat.le_of_ble_eq_true rfl, Nat.le_of_ble_eq_true rfl⟩) ⟨rP_bl, va_recv hK.1 hPm (ci := 3) (q0 := 0) rfl rfl, fun U hU hW => ⟨rfl, by rw [hU]; exact hPm, Kb.moved hW hK⟩⟩ rfl rfl hl.1 rfl (lv_room (Nat.le_of_ble_eq_true rfl)) dL_law_484 ⟨by show cells + 1 + 0 + 0 ≤ 601024; omega, by show slots + 6 + 0 + 0 ≤ 7293034; omega⟩) ?_
  refine lv_iload hx hb dL_law_487 (lv_at hl 1 rfl) ?_
  refine lv_icmp_eq (tgt := 494) hx hb dL_law_489 (by decide) (fun _ => ?_) (fun h => absurd rfl h)
  refine lv_iload hx hb dL_law_494 (lv_at hl 1 rfl) ?_
  refine lv_if_ne (tgt := 511) hx hb dL_law_496 (by decide) (fun _ => ?_) (fun hc0 => ?_)
  · refine lv_goto (tgt := 1137) hx hb dL_law_511 (by decide) ?_
    refine W.widen (k := cells + 3) (n := slots + 20) (by omega) (by omega) ?_
    exact hend H locs ls ⟨b1, n1, la1, L1, _, t1, pd1, bo1, f1, hR1, swP hP, swD hD, hS⟩ (lv_sub hl [2, 3, 4, 5, 6] rfl)
  · refine lv_aload_n hx hb dL_law_499 rfl (lv_at hl 5 rfl) ?_
    refine lv_iconst (v := 0) hx hb dL_law_500 (by decide) ?_
    refine va_lald (f := f1) hx hb hK.1 hP 0 4 rfl rfl (show vp_in (nI 0) 1 from vp_in_nI (by decide) (by decide)) dL_law_501 ?_
    refine lv_iload hx hb dL_law_502 (lv_at hl 0 rfl) ?_
    refine lv_i2l hx hb dL_law_504 rfl ?_
    refine W.lcmp hx hb dL_law_505 ?_
    refine lv_if_eq (tgt := 511) hx hb dL_law_506 (by decide) (fun _ => ?_) (fun h => absurd (lcE (hans hc0)) h)
    refine lv_goto (tgt := 1137) hx hb dL_law_511 (by decide) ?_
    refine W.widen (k := cells + 3) (n := slots + 20) (by omega) (by omega) ?_
    exact hend H locs ls ⟨b1, n1, la1, L1, _, t1, pd1, bo1, f1, hR1, swP hP, swD hD, hS⟩ (lv_sub hl [2, 3, 4, 5, 6] rfl)
set_option maxHeartbeats 4000000 in
set_option maxRecDepth 100000 in
theorem lwO_deposit (hlt : l.stackTraces = false) (F : LF p s m c args G y A b0 N xs) (hk : 7 * k + 7 ≤ N) (hc : cells + 3 ≤ 601024) (hs : slots + 20 ≤ 7293034) (h0 : Rel b n L v t pd bo) (hP : va_P G vwCl (lwW y ad ab o b n la L v f) H) (hD : va_D A (lwW y ad ab o b n la L v f)) (hS : va_S A s.heap H locs) (hl : lv_has ls 7 (lvB b0 ab ad o k)) (hend : ∀ (H : Heap) (locs : List Loc) (ls : Array Slot), Inv G y ad ab o A s.heap H locs → lv_has ls 7 (lvB b0 ab ad o k) → W p l e room_1 s m args below meth c H locs (cells + 3) (slots + 20) Q (F0 m 1137 ls [])) : W p l e room_1 s m args below meth c H locs cells slots Q (F0 m 446 ls []) := by
  have F0 := F
  obtain ⟨hx, hb, hml, hown, hts, hK, hZ, hX, hbl, hbA, hA, hN⟩ := F
  refine lv_aload_n hx hb dL_law_446 rfl (lv_at hl 1 rfl) ?_
  refine lv_aload_n hx hb dL_law_447 rfl (lv_at hl 0 rfl) ?_
  refine lv_iload hx hb dL_law_448 (lv_at hl 4 rfl) ?_
  refine lv_iconst (v := 1) hx hb dL_law_450 (by decide) ?_
  refine lv_iadd hx hb dL_law_451 ?_
  refine ldX (j := 1) hx hb hX hbl hbA hS hN rfl (by omega) dL_law_452 ?_
  refine lv_aload_n hx hb dL_law_453 rfl (lv_at hl 0 rfl) ?_
  refine lv_iload hx hb dL_law_454 (lv_at hl 4 rfl) ?_
  refine lv_iconst (v := 2) hx hb dL_law_456 (by decide) ?_
  refine lv_iadd hx hb dL_law_457 ?_
  refine ldX (j := 2) hx hb hX hbl hbA hS hN rfl (by omega) dL_law_458 ?_
  refine lv_aload_n hx hb dL_law_459 rfl (lv_at hl 3 rfl) ?_
  have hPj : va_P G vwCl (mdW y ad v ++ (oW y o f ++ bkW y ab b n la L)) H := hP
  have hDj : va_D A (mdW y ad v ++ (oW y o f ++ bkW y ab b n la L)) := hD
  have hFc : ∀ q, va_A (oW y o f ++ bkW y ab b n la L) H.size q → A q := freeR hDj hS hA
  have hPc : va_P G vwCl (oW y o f ++ bkW y ab b n la L) H := wR hPj
  have hDc : va_D (fun _ => True) (oW y o f ++ bkW y ab b n la L) := (wRD hDj).weaken (fun _ _ _ _ => trivial)
  refine caN (vx_runSW (As := [.ref (ab 13), .int (xs (7 * k + 1)), .int (xs (7 * k + 2)), .ref o]) (rest := []) ⟨hx, hb, hml, hown, hts⟩ (c_L_deposit l hlt G y ab b n la L o f H.size  (xs (7 * k + 1)) (xs (7 * k + 2)) ) (vx_cwSW 4 hts gL_law_L_deposit rfl rfl rfl (by decide +kernel) ⟨Nat.le_of_ble_eq_true rfl, Nat.le_of_ble_eq_true rfl⟩) ⟨xP_bl, fun U hU hW => ⟨rfl, by rw [hU], by rw [hU]; exact hPc, Kb.moved hW hK, hDc, by rw [hU]; exact Zs.moved hW.alike ((hZ.kept hS.2.1).narrow hFc)⟩⟩ rfl rfl hl.1 rfl (lv_room (Nat.le_of_ble_eq_true rfl)) dL_law_460 ⟨by show cells + 1 ≤ 601024; omega, by show slots + 6 ≤ 7293034; omega⟩) hS hFc hFc (fun u H locs _ hP1 hD1 hk1 hS => ?_)
  obtain ⟨hP, hD⟩ := joinW hPj hDj hk1 hP1 hD1 hFc
  obtain ⟨e1, e2, e3⟩ := r_deposit (xs (7 * k + 1)) (xs (7 * k + 2)) h0
  by_cases hX0 : (xDep b (xs (7 * k + 1)) (xs (7 * k + 2))) = 0
  · rw [if_pos hX0] at hP hD
    exact lwT_deposit hlt F0 hk hc hs h0 e1 (fun _ => congrArg Int32.toInt64 (e2 hX0).1.symm) ((e2 hX0).2) hP hD hS hl hend
  · rw [if_neg hX0] at hP hD
    exact lwT_deposit hlt F0 hk hc hs h0 e1 (fun q => absurd q (e3 hX0).1) (e3 hX0).2 hP hD hS hl hend
set_option maxHeartbeats 4000000 in
set_option maxRecDepth 100000 in
theorem lwT_closeMonth (hlt : l.stackTraces = false) (F : LF p s m c args G y A b0 N xs) (hk : 7 * k + 7 ≤ N) (hc : cells + 3 ≤ 601024) (hs : slots + 20 ≤ 7293034) (h0 : Rel b n L v t pd bo) {b1 : MS} {n1 : Nat} {la1 : Nat → Nat → Nat} {L1 : LNS} {t1 : Nat} {pd1 bo1 : Nat → Nat} {f1 : Nat → Int64} {cd : Int32} (hcd : (mClose v bo n t).1 0 0 = cd) (hans : cd = 0 → f1 0 = (mClose v bo n t).2.toInt64) (hR1 : Rel b1 n1 L1 (mClose v bo n t).1 t1 pd1 bo1) (hP : va_P G vwCl (mdW y ad v ++ (oW y o f1 ++ bkW y ab b1 n1 la1 L1)) H) (hD : va_D A (mdW y ad v ++ (oW y o f1 ++ bkW y ab b1 n1 la1 L1))) (hS : va_S A s.heap H locs) (hl : lv_has ls 7 (lvB b0 ab ad o k)) (hend : ∀ (H : Heap) (locs : List Loc) (ls : Array Slot), Inv G y ad ab o A s.heap H locs → lv_has ls 7 (lvB b0 ab ad o k) → W p l e room_1 s m args below meth c H locs (cells + 3) (slots + 20) Q (F0 m 1137 ls [])) : W p l e room_1 s m args below meth c H locs (cells + 1) (slots + 6) Q (F0 m 519 ls [.int cd]) := by
  obtain ⟨hx, hb, hml, hown, hts, hK, hZ, hX, hbl, hbA, hA, hN⟩ := F
  refine lv_istore (lv' := [(5, .int cd), (0, .ref b0), (1, .ref (ab 13)), (2, .ref (ad 0)), (3, .ref o), (4, .int (nI (7 * k)))]) hx hb dL_law_519 hl (by decide) rfl (fun ls hl => ?_)
  refine lv_aload_n hx hb dL_law_521 rfl (lv_at hl 3 rfl) ?_
  have hPs := swP hP
  have hDs := swD hD
  have hFc : ∀ q, va_A (mdW y ad v) H.size q → A q := freeR hDs hS hA
  have hPm : va_P G vwCl (mdW y ad v) H := wR hPs
  have hDm : va_D (fun _ => True) (mdW y ad v) := (wRD hDs).weaken (fun _ _ _ _ => trivial)
  refine caN (va_runV (As := []) (rest := []) ⟨hx, hb, hml, hown, hts⟩ (c_X3_closeMonth l G y ad v H.size  n h0.1.2.2.2.1 h0.1.1 t h0.1.2.2.2.2.2.1 h0.1.2.1 bo (fun i hi => (h0.2.2.1 i hi).2.2.2.2.2.2.2.2.1) (fun i hi => (h0.2.2.1 i hi).2.2.2.2.2.1) (fun i hi => (h0.2.2.1 i hi).2.2.2.2.2.2.1)) (cwV 0 hts gL_law_X3_closeMonth rfl rfl rfl (by decide +kernel) ⟨Nat.le_of_ble_eq_true rfl, Nat.le_of_ble_eq_true rfl⟩) ⟨mP_bl, va_recv hK.1 hPm (ci := 3) (q0 := 0) rfl rfl, fun U hU hW => ⟨rfl, by rw [hU], by rw [hU]; exact hPm, Kb.moved hW hK, hDm⟩⟩ rfl rfl hl.1 rfl (lv_room (Nat.le_of_ble_eq_true rfl)) dL_law_522 ⟨by show (cells + 1) + 0 ≤ 601024; omega, by show (slots + 6) + 0 ≤ 7293034; omega⟩) hS hFc hFc (fun u H locs _ hP1 hD1 hk1 hS => ?_)
  obtain ⟨hP, hD⟩ := joinW hPs hDs hk1 hP1 hD1 hFc
  refine lv_istore (lv' := [(6, .int (mClose v bo n t).2), (5, .int cd), (0, .ref b0), (1, .ref (ab 13)), (2, .ref (ad 0)), (3, .ref o), (4, .int (nI (7 * k)))]) hx hb dL_law_525 hl (by decide) rfl (fun ls hl => ?_)
  refine lv_aload_n hx hb dL_law_527 rfl (lv_at hl 4 rfl) ?_
  have hPm : va_P G vwCl (mdW y ad (mClose v bo n t).1) H := wR hP
  refine caR (r := .int cd) (va_runV (As := []) (rest := []) ⟨hx, hb, hml, hown, hts⟩ (hcd ▸ c_X3_thrown l G y ad (mClose v bo n t).1) (cwV 0 hts gL_law_X3_thrown rfl rfl rfl (by decide +kernel) ⟨Nat.le_of_ble_eq_true rfl, Nat.le_of_ble_eq_true rfl⟩) ⟨rP_bl, va_recv hK.1 hPm (ci := 3) (q0 := 0) rfl rfl, fun U hU hW => ⟨rfl, by rw [hU]; exact hPm, Kb.moved hW hK⟩⟩ rfl rfl hl.1 rfl (lv_room (Nat.le_of_ble_eq_true rfl)) dL_law_528 ⟨by show cells + 1 + 0 + 0 ≤ 601024; omega, by show slots + 6 + 0 + 0 ≤ 7293034; omega⟩) ?_
  refine lv_iload hx hb dL_law_531 (lv_at hl 1 rfl) ?_
  refine lv_icmp_eq (tgt := 538) hx hb dL_law_533 (by decide) (fun _ => ?_) (fun h => absurd rfl h)
  refine lv_iload hx hb dL_law_538 (lv_at hl 1 rfl) ?_
  refine lv_if_ne (tgt := 555) hx hb dL_law_540 (by decide) (fun _ => ?_) (fun hc0 => ?_)
  · refine lv_goto (tgt := 1137) hx hb dL_law_555 (by decide) ?_
    refine W.widen (k := cells + 3) (n := slots + 20) (by omega) (by omega) ?_
    exact hend H locs ls ⟨b1, n1, la1, L1, _, t1, pd1, bo1, f1, hR1, swP hP, swD hD, hS⟩ (lv_sub hl [2, 3, 4, 5, 6] rfl)
  · refine lv_aload_n hx hb dL_law_543 rfl (lv_at hl 5 rfl) ?_
    refine lv_iconst (v := 0) hx hb dL_law_544 (by decide) ?_
    refine va_lald (f := f1) hx hb hK.1 hP 0 4 rfl rfl (show vp_in (nI 0) 1 from vp_in_nI (by decide) (by decide)) dL_law_545 ?_
    refine lv_iload hx hb dL_law_546 (lv_at hl 0 rfl) ?_
    refine lv_i2l hx hb dL_law_548 rfl ?_
    refine W.lcmp hx hb dL_law_549 ?_
    refine lv_if_eq (tgt := 555) hx hb dL_law_550 (by decide) (fun _ => ?_) (fun h => absurd (lcE (hans hc0)) h)
    refine lv_goto (tgt := 1137) hx hb dL_law_555 (by decide) ?_
    refine W.widen (k := cells + 3) (n := slots + 20) (by omega) (by omega) ?_
    exact hend H locs ls ⟨b1, n1, la1, L1, _, t1, pd1, bo1, f1, hR1, swP hP, swD hD, hS⟩ (lv_sub hl [2, 3, 4, 5, 6] rfl)
set_option maxHeartbeats 4000000 in
set_option maxRecDepth 100000 in
theorem lwO_closeMonth (hlt : l.stackTraces = false) (F : LF p s m c args G y A b0 N xs) (hk : 7 * k + 7 ≤ N) (hc : cells + 3 ≤ 601024) (hs : slots + 20 ≤ 7293034) (h0 : Rel b n L v t pd bo) (hP : va_P G vwCl (lwW y ad ab o b n la L v f) H) (hD : va_D A (lwW y ad ab o b n la L v f)) (hS : va_S A s.heap H locs) (hl : lv_has ls 7 (lvB b0 ab ad o k)) (hend : ∀ (H : Heap) (locs : List Loc) (ls : Array Slot), Inv G y ad ab o A s.heap H locs → lv_has ls 7 (lvB b0 ab ad o k) → W p l e room_1 s m args below meth c H locs (cells + 3) (slots + 20) Q (F0 m 1137 ls [])) : W p l e room_1 s m args below meth c H locs cells slots Q (F0 m 514 ls []) := by
  have F0 := F
  obtain ⟨hx, hb, hml, hown, hts, hK, hZ, hX, hbl, hbA, hA, hN⟩ := F
  refine lv_aload_n hx hb dL_law_514 rfl (lv_at hl 1 rfl) ?_
  refine lv_aload_n hx hb dL_law_515 rfl (lv_at hl 3 rfl) ?_
  have hPj : va_P G vwCl (mdW y ad v ++ (oW y o f ++ bkW y ab b n la L)) H := hP
  have hDj : va_D A (mdW y ad v ++ (oW y o f ++ bkW y ab b n la L)) := hD
  have hFc : ∀ q, va_A (oW y o f ++ bkW y ab b n la L) H.size q → A q := freeR hDj hS hA
  have hPc : va_P G vwCl (oW y o f ++ bkW y ab b n la L) H := wR hPj
  have hDc : va_D (fun _ => True) (oW y o f ++ bkW y ab b n la L) := (wRD hDj).weaken (fun _ _ _ _ => trivial)
  refine caN (vx_runSW (As := [.ref (ab 13), .ref o]) (rest := []) ⟨hx, hb, hml, hown, hts⟩ (c_L_closeMonth l hlt G y ab b n la L o f H.size pd (fun i hi => (h0.2.2.1 i hi).2.2.2.2.2.2.2.1) t h0.1.2.2.2.2.1 h0.1.2.1  ) (vx_cwSW 2 hts gL_law_L_closeMonth rfl rfl rfl (by decide +kernel) ⟨Nat.le_of_ble_eq_true rfl, Nat.le_of_ble_eq_true rfl⟩) ⟨xP_bl, fun U hU hW => ⟨rfl, by rw [hU], by rw [hU]; exact hPc, Kb.moved hW hK, hDc, by rw [hU]; exact Zs.moved hW.alike ((hZ.kept hS.2.1).narrow hFc)⟩⟩ rfl rfl hl.1 rfl (lv_room (Nat.le_of_ble_eq_true rfl)) dL_law_516 ⟨by show cells + 1 ≤ 601024; omega, by show slots + 6 ≤ 7293034; omega⟩) hS hFc hFc (fun u H locs _ hP1 hD1 hk1 hS => ?_)
  obtain ⟨hP, hD⟩ := joinW hPj hDj hk1 hP1 hD1 hFc
  obtain ⟨e1, e2, e3⟩ := r_close  h0
  by_cases hX0 : (xClose t) = 0
  · rw [if_pos hX0] at hP hD
    exact lwT_closeMonth hlt F0 hk hc hs h0 e1 (fun _ => congrArg Int32.toInt64 (e2 hX0).1.symm) ((e2 hX0).2.2) hP hD hS hl hend
  · rw [if_neg hX0] at hP hD
    exact lwT_closeMonth hlt F0 hk hc hs h0 e1 (fun q => absurd q (e3 hX0).1) (e3 hX0).2 hP hD hS hl hend
set_option maxHeartbeats 4000000 in
set_option maxRecDepth 100000 in
theorem lwT_left (hlt : l.stackTraces = false) (F : LF p s m c args G y A b0 N xs) (hk : 7 * k + 7 ≤ N) (hc : cells + 3 ≤ 601024) (hs : slots + 20 ≤ 7293034) (h0 : Rel b n L v t pd bo) {b1 : MS} {n1 : Nat} {la1 : Nat → Nat → Nat} {L1 : LNS} {t1 : Nat} {pd1 bo1 : Nat → Nat} {f1 : Nat → Int64} {cd : Int32} (hcd : (mLeftA v n (xs (7 * k + 1))).1 0 0 = cd) (hans : cd = 0 → f1 0 = (mLeftA v n (xs (7 * k + 1))).2.toInt64) (hR1 : Rel b1 n1 L1 (mLeftA v n (xs (7 * k + 1))).1 t1 pd1 bo1) (hP : va_P G vwCl (mdW y ad v ++ (oW y o f1 ++ bkW y ab b1 n1 la1 L1)) H) (hD : va_D A (mdW y ad v ++ (oW y o f1 ++ bkW y ab b1 n1 la1 L1))) (hS : va_S A s.heap H locs) (hl : lv_has ls 7 (lvB b0 ab ad o k)) (hend : ∀ (H : Heap) (locs : List Loc) (ls : Array Slot), Inv G y ad ab o A s.heap H locs → lv_has ls 7 (lvB b0 ab ad o k) → W p l e room_1 s m args below meth c H locs (cells + 3) (slots + 20) Q (F0 m 1137 ls [])) : W p l e room_1 s m args below meth c H locs (cells + 1) (slots + 6) Q (F0 m 595 ls [.int cd]) := by
  obtain ⟨hx, hb, hml, hown, hts, hK, hZ, hX, hbl, hbA, hA, hN⟩ := F
  refine lv_istore (lv' := [(5, .int cd), (0, .ref b0), (1, .ref (ab 13)), (2, .ref (ad 0)), (3, .ref o), (4, .int (nI (7 * k)))]) hx hb dL_law_595 hl (by decide) rfl (fun ls hl => ?_)
  refine lv_aload_n hx hb dL_law_597 rfl (lv_at hl 3 rfl) ?_
  refine lv_aload_n hx hb dL_law_598 rfl (lv_at hl 1 rfl) ?_
  refine lv_iload hx hb dL_law_599 (lv_at hl 5 rfl) ?_
  refine lv_iconst (v := 1) hx hb dL_law_601 (by decide) ?_
  refine lv_iadd hx hb dL_law_602 ?_
  refine ldX (j := 1) hx hb hX hbl hbA hS hN rfl (by omega) dL_law_603 ?_
  have hPs := swP hP
  have hDs := swD hD
  have hFc : ∀ q, va_A (mdW y ad v) H.size q → A q := freeR hDs hS hA
  have hPm : va_P G vwCl (mdW y ad v) H := wR hPs
  have hDm : va_D (fun _ => True) (mdW y ad v) := (wRD hDs).weaken (fun _ _ _ _ => trivial)
  refine caN (va_runV (As := [.int (xs (7 * k + 1))]) (rest := []) ⟨hx, hb, hml, hown, hts⟩ (c_X3_left l G y ad v H.size (xs (7 * k + 1)) n h0.1.2.2.2.1 h0.1.1) (cwV 1 hts gL_law_X3_left rfl rfl rfl (by decide +kernel) ⟨Nat.le_of_ble_eq_true rfl, Nat.le_of_ble_eq_true rfl⟩) ⟨mP_bl, va_recv hK.1 hPm (ci := 3) (q0 := 0) rfl rfl, fun U hU hW => ⟨rfl, by rw [hU], by rw [hU]; exact hPm, Kb.moved hW hK, hDm⟩⟩ rfl rfl hl.1 rfl (lv_room (Nat.le_of_ble_eq_true rfl)) dL_law_604 ⟨by show (cells + 1) + 0 ≤ 601024; omega, by show (slots + 6) + 0 ≤ 7293034; omega⟩) hS hFc hFc (fun u H locs _ hP1 hD1 hk1 hS => ?_)
  obtain ⟨hP, hD⟩ := joinW hPs hDs hk1 hP1 hD1 hFc
  refine lv_istore (lv' := [(6, .int (mLeftA v n (xs (7 * k + 1))).2), (5, .int cd), (0, .ref b0), (1, .ref (ab 13)), (2, .ref (ad 0)), (3, .ref o), (4, .int (nI (7 * k)))]) hx hb dL_law_607 hl (by decide) rfl (fun ls hl => ?_)
  refine lv_aload_n hx hb dL_law_609 rfl (lv_at hl 4 rfl) ?_
  have hPm : va_P G vwCl (mdW y ad (mLeftA v n (xs (7 * k + 1))).1) H := wR hP
  refine caR (r := .int cd) (va_runV (As := []) (rest := []) ⟨hx, hb, hml, hown, hts⟩ (hcd ▸ c_X3_thrown l G y ad (mLeftA v n (xs (7 * k + 1))).1) (cwV 0 hts gL_law_X3_thrown rfl rfl rfl (by decide +kernel) ⟨Nat.le_of_ble_eq_true rfl, Nat.le_of_ble_eq_true rfl⟩) ⟨rP_bl, va_recv hK.1 hPm (ci := 3) (q0 := 0) rfl rfl, fun U hU hW => ⟨rfl, by rw [hU]; exact hPm, Kb.moved hW hK⟩⟩ rfl rfl hl.1 rfl (lv_room (Nat.le_of_ble_eq_true rfl)) dL_law_610 ⟨by show cells + 1 + 0 + 0 ≤ 601024; omega, by show slots + 6 + 0 + 0 ≤ 7293034; omega⟩) ?_
  refine lv_iload hx hb dL_law_613 (lv_at hl 1 rfl) ?_
  refine lv_icmp_eq (tgt := 620) hx hb dL_law_615 (by decide) (fun _ => ?_) (fun h => absurd rfl h)
  refine lv_iload hx hb dL_law_620 (lv_at hl 1 rfl) ?_
  refine lv_if_ne (tgt := 637) hx hb dL_law_622 (by decide) (fun _ => ?_) (fun hc0 => ?_)
  · refine lv_goto (tgt := 1137) hx hb dL_law_637 (by decide) ?_
    refine W.widen (k := cells + 3) (n := slots + 20) (by omega) (by omega) ?_
    exact hend H locs ls ⟨b1, n1, la1, L1, _, t1, pd1, bo1, f1, hR1, swP hP, swD hD, hS⟩ (lv_sub hl [2, 3, 4, 5, 6] rfl)
  · refine lv_aload_n hx hb dL_law_625 rfl (lv_at hl 5 rfl) ?_
    refine lv_iconst (v := 0) hx hb dL_law_626 (by decide) ?_
    refine va_lald (f := f1) hx hb hK.1 hP 0 4 rfl rfl (show vp_in (nI 0) 1 from vp_in_nI (by decide) (by decide)) dL_law_627 ?_
    refine lv_iload hx hb dL_law_628 (lv_at hl 0 rfl) ?_
    refine lv_i2l hx hb dL_law_630 rfl ?_
    refine W.lcmp hx hb dL_law_631 ?_
    refine lv_if_eq (tgt := 637) hx hb dL_law_632 (by decide) (fun _ => ?_) (fun h => absurd (lcE (hans hc0)) h)
    refine lv_goto (tgt := 1137) hx hb dL_law_637 (by decide) ?_
    refine W.widen (k := cells + 3) (n := slots + 20) (by omega) (by omega) ?_
    exact hend H locs ls ⟨b1, n1, la1, L1, _, t1, pd1, bo1, f1, hR1, swP hP, swD hD, hS⟩ (lv_sub hl [2, 3, 4, 5, 6] rfl)
set_option maxHeartbeats 4000000 in
set_option maxRecDepth 100000 in
theorem lwO_left (hlt : l.stackTraces = false) (F : LF p s m c args G y A b0 N xs) (hk : 7 * k + 7 ≤ N) (hc : cells + 3 ≤ 601024) (hs : slots + 20 ≤ 7293034) (h0 : Rel b n L v t pd bo) (hP : va_P G vwCl (lwW y ad ab o b n la L v f) H) (hD : va_D A (lwW y ad ab o b n la L v f)) (hS : va_S A s.heap H locs) (hl : lv_has ls 7 (lvB b0 ab ad o k)) (hend : ∀ (H : Heap) (locs : List Loc) (ls : Array Slot), Inv G y ad ab o A s.heap H locs → lv_has ls 7 (lvB b0 ab ad o k) → W p l e room_1 s m args below meth c H locs (cells + 3) (slots + 20) Q (F0 m 1137 ls [])) : W p l e room_1 s m args below meth c H locs cells slots Q (F0 m 584 ls []) := by
  have F0 := F
  obtain ⟨hx, hb, hml, hown, hts, hK, hZ, hX, hbl, hbA, hA, hN⟩ := F
  refine lv_aload_n hx hb dL_law_584 rfl (lv_at hl 1 rfl) ?_
  refine lv_aload_n hx hb dL_law_585 rfl (lv_at hl 0 rfl) ?_
  refine lv_iload hx hb dL_law_586 (lv_at hl 4 rfl) ?_
  refine lv_iconst (v := 1) hx hb dL_law_588 (by decide) ?_
  refine lv_iadd hx hb dL_law_589 ?_
  refine ldX (j := 1) hx hb hX hbl hbA hS hN rfl (by omega) dL_law_590 ?_
  refine lv_aload_n hx hb dL_law_591 rfl (lv_at hl 3 rfl) ?_
  have hPj : va_P G vwCl (mdW y ad v ++ (oW y o f ++ bkW y ab b n la L)) H := hP
  have hDj : va_D A (mdW y ad v ++ (oW y o f ++ bkW y ab b n la L)) := hD
  have hFc : ∀ q, va_A (oW y o f ++ bkW y ab b n la L) H.size q → A q := freeR hDj hS hA
  have hPc : va_P G vwCl (oW y o f ++ bkW y ab b n la L) H := wR hPj
  have hDc : va_D (fun _ => True) (oW y o f ++ bkW y ab b n la L) := (wRD hDj).weaken (fun _ _ _ _ => trivial)
  refine caN (vx_runSW (As := [.ref (ab 13), .int (xs (7 * k + 1)), .ref o]) (rest := []) ⟨hx, hb, hml, hown, hts⟩ (c_L_left l hlt G y ab b n la L o f H.size h0.1.1 pd (fun i hi => (h0.2.2.1 i hi).2.2.2.2.2.2.2.1) (xs (7 * k + 1)) ) (vx_cwSW 3 hts gL_law_L_left rfl rfl rfl (by decide +kernel) ⟨Nat.le_of_ble_eq_true rfl, Nat.le_of_ble_eq_true rfl⟩) ⟨xP_bl, fun U hU hW => ⟨rfl, by rw [hU], by rw [hU]; exact hPc, Kb.moved hW hK, hDc, by rw [hU]; exact Zs.moved hW.alike ((hZ.kept hS.2.1).narrow hFc)⟩⟩ rfl rfl hl.1 rfl (lv_room (Nat.le_of_ble_eq_true rfl)) dL_law_592 ⟨by show cells + 1 ≤ 601024; omega, by show slots + 6 ≤ 7293034; omega⟩) hS hFc hFc (fun u H locs _ hP1 hD1 hk1 hS => ?_)
  obtain ⟨hP, hD⟩ := joinW hPj hDj hk1 hP1 hD1 hFc
  obtain ⟨e1, e2, e3⟩ := r_left (xs (7 * k + 1)) h0
  by_cases hX0 : ((if mIn (xs (7 * k + 1)) 0 (nI n - 1) = 0 then 1 else 0)) = 0
  · rw [if_pos hX0] at hP hD
    exact lwT_left hlt F0 hk hc hs h0 e1 (fun _ => congrArg Int32.toInt64 (e2 hX0).1.symm) ((e2 hX0).2) hP hD hS hl hend
  · rw [if_neg hX0] at hP hD
    exact lwT_left hlt F0 hk hc hs h0 e1 (fun q => absurd q (e3 hX0).1) (e3 hX0).2 hP hD hS hl hend
set_option maxHeartbeats 4000000 in
set_option maxRecDepth 100000 in
theorem lwT_bears (hlt : l.stackTraces = false) (F : LF p s m c args G y A b0 N xs) (hk : 7 * k + 7 ≤ N) (hc : cells + 3 ≤ 601024) (hs : slots + 20 ≤ 7293034) (h0 : Rel b n L v t pd bo) {b1 : MS} {n1 : Nat} {la1 : Nat → Nat → Nat} {L1 : LNS} {t1 : Nat} {pd1 bo1 : Nat → Nat} {f1 : Nat → Int64} {cd : Int32} (hcd : (mBears v n (xs (7 * k + 1)) (xs (7 * k + 2))).1 0 0 = cd) (hans : cd = 0 → f1 0 = (mBears v n (xs (7 * k + 1)) (xs (7 * k + 2))).2.toInt64) (hR1 : Rel b1 n1 L1 (mBears v n (xs (7 * k + 1)) (xs (7 * k + 2))).1 t1 pd1 bo1) (hP : va_P G vwCl (mdW y ad v ++ (oW y o f1 ++ bkW y ab b1 n1 la1 L1)) H) (hD : va_D A (mdW y ad v ++ (oW y o f1 ++ bkW y ab b1 n1 la1 L1))) (hS : va_S A s.heap H locs) (hl : lv_has ls 7 (lvB b0 ab ad o k)) (hend : ∀ (H : Heap) (locs : List Loc) (ls : Array Slot), Inv G y ad ab o A s.heap H locs → lv_has ls 7 (lvB b0 ab ad o k) → W p l e room_1 s m args below meth c H locs (cells + 3) (slots + 20) Q (F0 m 1137 ls [])) : W p l e room_1 s m args below meth c H locs (cells + 1) (slots + 6) Q (F0 m 657 ls [.int cd]) := by
  obtain ⟨hx, hb, hml, hown, hts, hK, hZ, hX, hbl, hbA, hA, hN⟩ := F
  refine lv_istore (lv' := [(5, .int cd), (0, .ref b0), (1, .ref (ab 13)), (2, .ref (ad 0)), (3, .ref o), (4, .int (nI (7 * k)))]) hx hb dL_law_657 hl (by decide) rfl (fun ls hl => ?_)
  refine lv_aload_n hx hb dL_law_659 rfl (lv_at hl 3 rfl) ?_
  refine lv_aload_n hx hb dL_law_660 rfl (lv_at hl 1 rfl) ?_
  refine lv_iload hx hb dL_law_661 (lv_at hl 5 rfl) ?_
  refine lv_iconst (v := 1) hx hb dL_law_663 (by decide) ?_
  refine lv_iadd hx hb dL_law_664 ?_
  refine ldX (j := 1) hx hb hX hbl hbA hS hN rfl (by omega) dL_law_665 ?_
  refine lv_aload_n hx hb dL_law_666 rfl (lv_at hl 1 rfl) ?_
  refine lv_iload hx hb dL_law_667 (lv_at hl 5 rfl) ?_
  refine lv_iconst (v := 2) hx hb dL_law_669 (by decide) ?_
  refine lv_iadd hx hb dL_law_670 ?_
  refine ldX (j := 2) hx hb hX hbl hbA hS hN rfl (by omega) dL_law_671 ?_
  have hPs := swP hP
  have hDs := swD hD
  have hFc : ∀ q, va_A (mdW y ad v) H.size q → A q := freeR hDs hS hA
  have hPm : va_P G vwCl (mdW y ad v) H := wR hPs
  have hDm : va_D (fun _ => True) (mdW y ad v) := (wRD hDs).weaken (fun _ _ _ _ => trivial)
  refine caN (va_runV (As := [.int (xs (7 * k + 1)), .int (xs (7 * k + 2))]) (rest := []) ⟨hx, hb, hml, hown, hts⟩ (c_X3_bears l G y ad v H.size (xs (7 * k + 1)) (xs (7 * k + 2)) n h0.1.2.2.2.1 h0.1.1) (cwV 2 hts gL_law_X3_bears rfl rfl rfl (by decide +kernel) ⟨Nat.le_of_ble_eq_true rfl, Nat.le_of_ble_eq_true rfl⟩) ⟨mP_bl, va_recv hK.1 hPm (ci := 3) (q0 := 0) rfl rfl, fun U hU hW => ⟨rfl, by rw [hU], by rw [hU]; exact hPm, Kb.moved hW hK, hDm⟩⟩ rfl rfl hl.1 rfl (lv_room (Nat.le_of_ble_eq_true rfl)) dL_law_672 ⟨by show (cells + 1) + 0 ≤ 601024; omega, by show (slots + 6) + 0 ≤ 7293034; omega⟩) hS hFc hFc (fun u H locs _ hP1 hD1 hk1 hS => ?_)
  obtain ⟨hP, hD⟩ := joinW hPs hDs hk1 hP1 hD1 hFc
  refine lv_istore (lv' := [(6, .int (mBears v n (xs (7 * k + 1)) (xs (7 * k + 2))).2), (5, .int cd), (0, .ref b0), (1, .ref (ab 13)), (2, .ref (ad 0)), (3, .ref o), (4, .int (nI (7 * k)))]) hx hb dL_law_675 hl (by decide) rfl (fun ls hl => ?_)
  refine lv_aload_n hx hb dL_law_677 rfl (lv_at hl 4 rfl) ?_
  have hPm : va_P G vwCl (mdW y ad (mBears v n (xs (7 * k + 1)) (xs (7 * k + 2))).1) H := wR hP
  refine caR (r := .int cd) (va_runV (As := []) (rest := []) ⟨hx, hb, hml, hown, hts⟩ (hcd ▸ c_X3_thrown l G y ad (mBears v n (xs (7 * k + 1)) (xs (7 * k + 2))).1) (cwV 0 hts gL_law_X3_thrown rfl rfl rfl (by decide +kernel) ⟨Nat.le_of_ble_eq_true rfl, Nat.le_of_ble_eq_true rfl⟩) ⟨rP_bl, va_recv hK.1 hPm (ci := 3) (q0 := 0) rfl rfl, fun U hU hW => ⟨rfl, by rw [hU]; exact hPm, Kb.moved hW hK⟩⟩ rfl rfl hl.1 rfl (lv_room (Nat.le_of_ble_eq_true rfl)) dL_law_678 ⟨by show cells + 1 + 0 + 0 ≤ 601024; omega, by show slots + 6 + 0 + 0 ≤ 7293034; omega⟩) ?_
  refine lv_iload hx hb dL_law_681 (lv_at hl 1 rfl) ?_
  refine lv_icmp_eq (tgt := 688) hx hb dL_law_683 (by decide) (fun _ => ?_) (fun h => absurd rfl h)
  refine lv_iload hx hb dL_law_688 (lv_at hl 1 rfl) ?_
  refine lv_if_ne (tgt := 705) hx hb dL_law_690 (by decide) (fun _ => ?_) (fun hc0 => ?_)
  · refine lv_goto (tgt := 1137) hx hb dL_law_705 (by decide) ?_
    refine W.widen (k := cells + 3) (n := slots + 20) (by omega) (by omega) ?_
    exact hend H locs ls ⟨b1, n1, la1, L1, _, t1, pd1, bo1, f1, hR1, swP hP, swD hD, hS⟩ (lv_sub hl [2, 3, 4, 5, 6] rfl)
  · refine lv_aload_n hx hb dL_law_693 rfl (lv_at hl 5 rfl) ?_
    refine lv_iconst (v := 0) hx hb dL_law_694 (by decide) ?_
    refine va_lald (f := f1) hx hb hK.1 hP 0 4 rfl rfl (show vp_in (nI 0) 1 from vp_in_nI (by decide) (by decide)) dL_law_695 ?_
    refine lv_iload hx hb dL_law_696 (lv_at hl 0 rfl) ?_
    refine lv_i2l hx hb dL_law_698 rfl ?_
    refine W.lcmp hx hb dL_law_699 ?_
    refine lv_if_eq (tgt := 705) hx hb dL_law_700 (by decide) (fun _ => ?_) (fun h => absurd (lcE (hans hc0)) h)
    refine lv_goto (tgt := 1137) hx hb dL_law_705 (by decide) ?_
    refine W.widen (k := cells + 3) (n := slots + 20) (by omega) (by omega) ?_
    exact hend H locs ls ⟨b1, n1, la1, L1, _, t1, pd1, bo1, f1, hR1, swP hP, swD hD, hS⟩ (lv_sub hl [2, 3, 4, 5, 6] rfl)
set_option maxHeartbeats 4000000 in
set_option maxRecDepth 100000 in
theorem lwO_bears (hlt : l.stackTraces = false) (F : LF p s m c args G y A b0 N xs) (hk : 7 * k + 7 ≤ N) (hc : cells + 3 ≤ 601024) (hs : slots + 20 ≤ 7293034) (h0 : Rel b n L v t pd bo) (hP : va_P G vwCl (lwW y ad ab o b n la L v f) H) (hD : va_D A (lwW y ad ab o b n la L v f)) (hS : va_S A s.heap H locs) (hl : lv_has ls 7 (lvB b0 ab ad o k)) (hend : ∀ (H : Heap) (locs : List Loc) (ls : Array Slot), Inv G y ad ab o A s.heap H locs → lv_has ls 7 (lvB b0 ab ad o k) → W p l e room_1 s m args below meth c H locs (cells + 3) (slots + 20) Q (F0 m 1137 ls [])) : W p l e room_1 s m args below meth c H locs cells slots Q (F0 m 640 ls []) := by
  have F0 := F
  obtain ⟨hx, hb, hml, hown, hts, hK, hZ, hX, hbl, hbA, hA, hN⟩ := F
  refine lv_aload_n hx hb dL_law_640 rfl (lv_at hl 1 rfl) ?_
  refine lv_aload_n hx hb dL_law_641 rfl (lv_at hl 0 rfl) ?_
  refine lv_iload hx hb dL_law_642 (lv_at hl 4 rfl) ?_
  refine lv_iconst (v := 1) hx hb dL_law_644 (by decide) ?_
  refine lv_iadd hx hb dL_law_645 ?_
  refine ldX (j := 1) hx hb hX hbl hbA hS hN rfl (by omega) dL_law_646 ?_
  refine lv_aload_n hx hb dL_law_647 rfl (lv_at hl 0 rfl) ?_
  refine lv_iload hx hb dL_law_648 (lv_at hl 4 rfl) ?_
  refine lv_iconst (v := 2) hx hb dL_law_650 (by decide) ?_
  refine lv_iadd hx hb dL_law_651 ?_
  refine ldX (j := 2) hx hb hX hbl hbA hS hN rfl (by omega) dL_law_652 ?_
  refine lv_aload_n hx hb dL_law_653 rfl (lv_at hl 3 rfl) ?_
  have hPj : va_P G vwCl (mdW y ad v ++ (oW y o f ++ bkW y ab b n la L)) H := hP
  have hDj : va_D A (mdW y ad v ++ (oW y o f ++ bkW y ab b n la L)) := hD
  have hFc : ∀ q, va_A (oW y o f ++ bkW y ab b n la L) H.size q → A q := freeR hDj hS hA
  have hPc : va_P G vwCl (oW y o f ++ bkW y ab b n la L) H := wR hPj
  have hDc : va_D (fun _ => True) (oW y o f ++ bkW y ab b n la L) := (wRD hDj).weaken (fun _ _ _ _ => trivial)
  refine caN (vx_runSW (As := [.ref (ab 13), .int (xs (7 * k + 1)), .int (xs (7 * k + 2)), .ref o]) (rest := []) ⟨hx, hb, hml, hown, hts⟩ (c_L_bears l hlt G y ab b n la L o f H.size h0.1.1 pd (fun i hi => (h0.2.2.1 i hi).2.2.2.2.2.2.2.1) (xs (7 * k + 1)) (xs (7 * k + 2)) ) (vx_cwSW 4 hts gL_law_L_bears rfl rfl rfl (by decide +kernel) ⟨Nat.le_of_ble_eq_true rfl, Nat.le_of_ble_eq_true rfl⟩) ⟨xP_bl, fun U hU hW => ⟨rfl, by rw [hU], by rw [hU]; exact hPc, Kb.moved hW hK, hDc, by rw [hU]; exact Zs.moved hW.alike ((hZ.kept hS.2.1).narrow hFc)⟩⟩ rfl rfl hl.1 rfl (lv_room (Nat.le_of_ble_eq_true rfl)) dL_law_654 ⟨by show cells + 1 ≤ 601024; omega, by show slots + 6 ≤ 7293034; omega⟩) hS hFc hFc (fun u H locs _ hP1 hD1 hk1 hS => ?_)
  obtain ⟨hP, hD⟩ := joinW hPj hDj hk1 hP1 hD1 hFc
  obtain ⟨e1, e2, e3⟩ := r_bears (xs (7 * k + 1)) (xs (7 * k + 2)) h0
  by_cases hX0 : (xBears n (xs (7 * k + 1)) (xs (7 * k + 2))) = 0
  · rw [if_pos hX0] at hP hD
    exact lwT_bears hlt F0 hk hc hs h0 e1 (fun _ => congrArg Int32.toInt64 (e2 hX0).1.symm) ((e2 hX0).2) hP hD hS hl hend
  · rw [if_neg hX0] at hP hD
    exact lwT_bears hlt F0 hk hc hs h0 e1 (fun q => absurd q (e3 hX0).1) (e3 hX0).2 hP hD hS hl hend
set_option maxHeartbeats 4000000 in
set_option maxRecDepth 100000 in
theorem lwT_due (hlt : l.stackTraces = false) (F : LF p s m c args G y A b0 N xs) (hk : 7 * k + 7 ≤ N) (hc : cells + 3 ≤ 601024) (hs : slots + 20 ≤ 7293034) (h0 : Rel b n L v t pd bo) {b1 : MS} {n1 : Nat} {la1 : Nat → Nat → Nat} {L1 : LNS} {t1 : Nat} {pd1 bo1 : Nat → Nat} {f1 : Nat → Int64} {cd : Int32} (hcd : (mDue v bo n t (xs (7 * k + 1))).1 0 0 = cd) (hans : cd = 0 → f1 0 = (mDue v bo n t (xs (7 * k + 1))).2.toInt64) (hR1 : Rel b1 n1 L1 (mDue v bo n t (xs (7 * k + 1))).1 t1 pd1 bo1) (hP : va_P G vwCl (mdW y ad v ++ (oW y o f1 ++ bkW y ab b1 n1 la1 L1)) H) (hD : va_D A (mdW y ad v ++ (oW y o f1 ++ bkW y ab b1 n1 la1 L1))) (hS : va_S A s.heap H locs) (hl : lv_has ls 7 (lvB b0 ab ad o k)) (hend : ∀ (H : Heap) (locs : List Loc) (ls : Array Slot), Inv G y ad ab o A s.heap H locs → lv_has ls 7 (lvB b0 ab ad o k) → W p l e room_1 s m args below meth c H locs (cells + 3) (slots + 20) Q (F0 m 1137 ls [])) : W p l e room_1 s m args below meth c H locs (cells + 1) (slots + 6) Q (F0 m 719 ls [.int cd]) := by
  obtain ⟨hx, hb, hml, hown, hts, hK, hZ, hX, hbl, hbA, hA, hN⟩ := F
  refine lv_istore (lv' := [(5, .int cd), (0, .ref b0), (1, .ref (ab 13)), (2, .ref (ad 0)), (3, .ref o), (4, .int (nI (7 * k)))]) hx hb dL_law_719 hl (by decide) rfl (fun ls hl => ?_)
  refine lv_aload_n hx hb dL_law_721 rfl (lv_at hl 3 rfl) ?_
  refine lv_aload_n hx hb dL_law_722 rfl (lv_at hl 1 rfl) ?_
  refine lv_iload hx hb dL_law_723 (lv_at hl 5 rfl) ?_
  refine lv_iconst (v := 1) hx hb dL_law_725 (by decide) ?_
  refine lv_iadd hx hb dL_law_726 ?_
  refine ldX (j := 1) hx hb hX hbl hbA hS hN rfl (by omega) dL_law_727 ?_
  have hPs := swP hP
  have hDs := swD hD
  have hFc : ∀ q, va_A (mdW y ad v) H.size q → A q := freeR hDs hS hA
  have hPm : va_P G vwCl (mdW y ad v) H := wR hPs
  have hDm : va_D (fun _ => True) (mdW y ad v) := (wRD hDs).weaken (fun _ _ _ _ => trivial)
  refine caN (va_runV (As := [.int (xs (7 * k + 1))]) (rest := []) ⟨hx, hb, hml, hown, hts⟩ (c_X3_due l G y ad v H.size (xs (7 * k + 1)) n h0.1.2.2.2.1 h0.1.1 t h0.1.2.2.2.2.2.1 h0.1.2.1 bo (fun i hi => (h0.2.2.1 i hi).2.2.2.2.2.2.2.2.1)) (cwV 1 hts gL_law_X3_due rfl rfl rfl (by decide +kernel) ⟨Nat.le_of_ble_eq_true rfl, Nat.le_of_ble_eq_true rfl⟩) ⟨mP_bl, va_recv hK.1 hPm (ci := 3) (q0 := 0) rfl rfl, fun U hU hW => ⟨rfl, by rw [hU], by rw [hU]; exact hPm, Kb.moved hW hK, hDm⟩⟩ rfl rfl hl.1 rfl (lv_room (Nat.le_of_ble_eq_true rfl)) dL_law_728 ⟨by show (cells + 1) + 0 ≤ 601024; omega, by show (slots + 6) + 0 ≤ 7293034; omega⟩) hS hFc hFc (fun u H locs _ hP1 hD1 hk1 hS => ?_)
  obtain ⟨hP, hD⟩ := joinW hPs hDs hk1 hP1 hD1 hFc
  refine lv_istore (lv' := [(6, .int (mDue v bo n t (xs (7 * k + 1))).2), (5, .int cd), (0, .ref b0), (1, .ref (ab 13)), (2, .ref (ad 0)), (3, .ref o), (4, .int (nI (7 * k)))]) hx hb dL_law_731 hl (by decide) rfl (fun ls hl => ?_)
  refine lv_aload_n hx hb dL_law_733 rfl (lv_at hl 4 rfl) ?_
  have hPm : va_P G vwCl (mdW y ad (mDue v bo n t (xs (7 * k + 1))).1) H := wR hP
  refine caR (r := .int cd) (va_runV (As := []) (rest := []) ⟨hx, hb, hml, hown, hts⟩ (hcd ▸ c_X3_thrown l G y ad (mDue v bo n t (xs (7 * k + 1))).1) (cwV 0 hts gL_law_X3_thrown rfl rfl rfl (by decide +kernel) ⟨Nat.le_of_ble_eq_true rfl, Nat.le_of_ble_eq_true rfl⟩) ⟨rP_bl, va_recv hK.1 hPm (ci := 3) (q0 := 0) rfl rfl, fun U hU hW => ⟨rfl, by rw [hU]; exact hPm, Kb.moved hW hK⟩⟩ rfl rfl hl.1 rfl (lv_room (Nat.le_of_ble_eq_true rfl)) dL_law_734 ⟨by show cells + 1 + 0 + 0 ≤ 601024; omega, by show slots + 6 + 0 + 0 ≤ 7293034; omega⟩) ?_
  refine lv_iload hx hb dL_law_737 (lv_at hl 1 rfl) ?_
  refine lv_icmp_eq (tgt := 744) hx hb dL_law_739 (by decide) (fun _ => ?_) (fun h => absurd rfl h)
  refine lv_iload hx hb dL_law_744 (lv_at hl 1 rfl) ?_
  refine lv_if_ne (tgt := 761) hx hb dL_law_746 (by decide) (fun _ => ?_) (fun hc0 => ?_)
  · refine lv_goto (tgt := 1137) hx hb dL_law_761 (by decide) ?_
    refine W.widen (k := cells + 3) (n := slots + 20) (by omega) (by omega) ?_
    exact hend H locs ls ⟨b1, n1, la1, L1, _, t1, pd1, bo1, f1, hR1, swP hP, swD hD, hS⟩ (lv_sub hl [2, 3, 4, 5, 6] rfl)
  · refine lv_aload_n hx hb dL_law_749 rfl (lv_at hl 5 rfl) ?_
    refine lv_iconst (v := 0) hx hb dL_law_750 (by decide) ?_
    refine va_lald (f := f1) hx hb hK.1 hP 0 4 rfl rfl (show vp_in (nI 0) 1 from vp_in_nI (by decide) (by decide)) dL_law_751 ?_
    refine lv_iload hx hb dL_law_752 (lv_at hl 0 rfl) ?_
    refine lv_i2l hx hb dL_law_754 rfl ?_
    refine W.lcmp hx hb dL_law_755 ?_
    refine lv_if_eq (tgt := 761) hx hb dL_law_756 (by decide) (fun _ => ?_) (fun h => absurd (lcE (hans hc0)) h)
    refine lv_goto (tgt := 1137) hx hb dL_law_761 (by decide) ?_
    refine W.widen (k := cells + 3) (n := slots + 20) (by omega) (by omega) ?_
    exact hend H locs ls ⟨b1, n1, la1, L1, _, t1, pd1, bo1, f1, hR1, swP hP, swD hD, hS⟩ (lv_sub hl [2, 3, 4, 5, 6] rfl)
set_option maxHeartbeats 4000000 in
set_option maxRecDepth 100000 in
theorem lwO_due (hlt : l.stackTraces = false) (F : LF p s m c args G y A b0 N xs) (hk : 7 * k + 7 ≤ N) (hc : cells + 3 ≤ 601024) (hs : slots + 20 ≤ 7293034) (h0 : Rel b n L v t pd bo) (hP : va_P G vwCl (lwW y ad ab o b n la L v f) H) (hD : va_D A (lwW y ad ab o b n la L v f)) (hS : va_S A s.heap H locs) (hl : lv_has ls 7 (lvB b0 ab ad o k)) (hend : ∀ (H : Heap) (locs : List Loc) (ls : Array Slot), Inv G y ad ab o A s.heap H locs → lv_has ls 7 (lvB b0 ab ad o k) → W p l e room_1 s m args below meth c H locs (cells + 3) (slots + 20) Q (F0 m 1137 ls [])) : W p l e room_1 s m args below meth c H locs cells slots Q (F0 m 708 ls []) := by
  have F0 := F
  obtain ⟨hx, hb, hml, hown, hts, hK, hZ, hX, hbl, hbA, hA, hN⟩ := F
  refine lv_aload_n hx hb dL_law_708 rfl (lv_at hl 1 rfl) ?_
  refine lv_aload_n hx hb dL_law_709 rfl (lv_at hl 0 rfl) ?_
  refine lv_iload hx hb dL_law_710 (lv_at hl 4 rfl) ?_
  refine lv_iconst (v := 1) hx hb dL_law_712 (by decide) ?_
  refine lv_iadd hx hb dL_law_713 ?_
  refine ldX (j := 1) hx hb hX hbl hbA hS hN rfl (by omega) dL_law_714 ?_
  refine lv_aload_n hx hb dL_law_715 rfl (lv_at hl 3 rfl) ?_
  have hPj : va_P G vwCl (mdW y ad v ++ (oW y o f ++ bkW y ab b n la L)) H := hP
  have hDj : va_D A (mdW y ad v ++ (oW y o f ++ bkW y ab b n la L)) := hD
  have hFc : ∀ q, va_A (oW y o f ++ bkW y ab b n la L) H.size q → A q := freeR hDj hS hA
  have hPc : va_P G vwCl (oW y o f ++ bkW y ab b n la L) H := wR hPj
  have hDc : va_D (fun _ => True) (oW y o f ++ bkW y ab b n la L) := (wRD hDj).weaken (fun _ _ _ _ => trivial)
  refine caN (vx_runSW (As := [.ref (ab 13), .int (xs (7 * k + 1)), .ref o]) (rest := []) ⟨hx, hb, hml, hown, hts⟩ (c_L_due l hlt G y ab b n la L o f H.size pd (fun i hi => (h0.2.2.1 i hi).2.2.2.2.2.2.2.1) (xs (7 * k + 1)) ) (vx_cwSW 3 hts gL_law_L_due rfl rfl rfl (by decide +kernel) ⟨Nat.le_of_ble_eq_true rfl, Nat.le_of_ble_eq_true rfl⟩) ⟨xP_bl, fun U hU hW => ⟨rfl, by rw [hU], by rw [hU]; exact hPc, Kb.moved hW hK, hDc, by rw [hU]; exact Zs.moved hW.alike ((hZ.kept hS.2.1).narrow hFc)⟩⟩ rfl rfl hl.1 rfl (lv_room (Nat.le_of_ble_eq_true rfl)) dL_law_716 ⟨by show cells + 1 ≤ 601024; omega, by show slots + 6 ≤ 7293034; omega⟩) hS hFc hFc (fun u H locs _ hP1 hD1 hk1 hS => ?_)
  obtain ⟨hP, hD⟩ := joinW hPj hDj hk1 hP1 hD1 hFc
  obtain ⟨e1, e2, e3⟩ := r_due (xs (7 * k + 1)) h0
  by_cases hX0 : (xDue (xs (7 * k + 1))) = 0
  · rw [if_pos hX0] at hP hD
    exact lwT_due hlt F0 hk hc hs h0 e1 (fun _ => congrArg Int32.toInt64 (e2 hX0).1.symm) ((e2 hX0).2) hP hD hS hl hend
  · rw [if_neg hX0] at hP hD
    exact lwT_due hlt F0 hk hc hs h0 e1 (fun q => absurd q (e3 hX0).1) (e3 hX0).2 hP hD hS hl hend
set_option maxHeartbeats 4000000 in
set_option maxRecDepth 100000 in
theorem lwT_balance (hlt : l.stackTraces = false) (F : LF p s m c args G y A b0 N xs) (hk : 7 * k + 7 ≤ N) (hc : cells + 3 ≤ 601024) (hs : slots + 20 ≤ 7293034) (h0 : Rel b n L v t pd bo) {b1 : MS} {n1 : Nat} {la1 : Nat → Nat → Nat} {L1 : LNS} {t1 : Nat} {pd1 bo1 : Nat → Nat} {f1 : Nat → Int64} {cd : Int32} (hcd : (mBal v (xs (7 * k + 1))).1 0 0 = cd) (hans : cd = 0 → f1 0 = (mBal v (xs (7 * k + 1))).2.toInt64) (hR1 : Rel b1 n1 L1 (mBal v (xs (7 * k + 1))).1 t1 pd1 bo1) (hP : va_P G vwCl (mdW y ad v ++ (oW y o f1 ++ bkW y ab b1 n1 la1 L1)) H) (hD : va_D A (mdW y ad v ++ (oW y o f1 ++ bkW y ab b1 n1 la1 L1))) (hS : va_S A s.heap H locs) (hl : lv_has ls 7 (lvB b0 ab ad o k)) (hend : ∀ (H : Heap) (locs : List Loc) (ls : Array Slot), Inv G y ad ab o A s.heap H locs → lv_has ls 7 (lvB b0 ab ad o k) → W p l e room_1 s m args below meth c H locs (cells + 3) (slots + 20) Q (F0 m 1137 ls [])) : W p l e room_1 s m args below meth c H locs (cells + 1) (slots + 6) Q (F0 m 775 ls [.int cd]) := by
  obtain ⟨hx, hb, hml, hown, hts, hK, hZ, hX, hbl, hbA, hA, hN⟩ := F
  refine lv_istore (lv' := [(5, .int cd), (0, .ref b0), (1, .ref (ab 13)), (2, .ref (ad 0)), (3, .ref o), (4, .int (nI (7 * k)))]) hx hb dL_law_775 hl (by decide) rfl (fun ls hl => ?_)
  refine lv_aload_n hx hb dL_law_777 rfl (lv_at hl 3 rfl) ?_
  refine lv_aload_n hx hb dL_law_778 rfl (lv_at hl 1 rfl) ?_
  refine lv_iload hx hb dL_law_779 (lv_at hl 5 rfl) ?_
  refine lv_iconst (v := 1) hx hb dL_law_781 (by decide) ?_
  refine lv_iadd hx hb dL_law_782 ?_
  refine ldX (j := 1) hx hb hX hbl hbA hS hN rfl (by omega) dL_law_783 ?_
  have hPs := swP hP
  have hDs := swD hD
  have hFc : ∀ q, va_A (mdW y ad v) H.size q → A q := freeR hDs hS hA
  have hPm : va_P G vwCl (mdW y ad v) H := wR hPs
  have hDm : va_D (fun _ => True) (mdW y ad v) := (wRD hDs).weaken (fun _ _ _ _ => trivial)
  refine caN (va_runV (As := [.int (xs (7 * k + 1))]) (rest := []) ⟨hx, hb, hml, hown, hts⟩ (c_X3_balance l G y ad v H.size (xs (7 * k + 1)) ) (cwV 1 hts gL_law_X3_balance rfl rfl rfl (by decide +kernel) ⟨Nat.le_of_ble_eq_true rfl, Nat.le_of_ble_eq_true rfl⟩) ⟨mP_bl, va_recv hK.1 hPm (ci := 3) (q0 := 0) rfl rfl, fun U hU hW => ⟨rfl, by rw [hU], by rw [hU]; exact hPm, Kb.moved hW hK, hDm⟩⟩ rfl rfl hl.1 rfl (lv_room (Nat.le_of_ble_eq_true rfl)) dL_law_784 ⟨by show (cells + 1) + 0 ≤ 601024; omega, by show (slots + 6) + 0 ≤ 7293034; omega⟩) hS hFc hFc (fun u H locs _ hP1 hD1 hk1 hS => ?_)
  obtain ⟨hP, hD⟩ := joinW hPs hDs hk1 hP1 hD1 hFc
  refine lv_istore (lv' := [(6, .int (mBal v (xs (7 * k + 1))).2), (5, .int cd), (0, .ref b0), (1, .ref (ab 13)), (2, .ref (ad 0)), (3, .ref o), (4, .int (nI (7 * k)))]) hx hb dL_law_787 hl (by decide) rfl (fun ls hl => ?_)
  refine lv_aload_n hx hb dL_law_789 rfl (lv_at hl 4 rfl) ?_
  have hPm : va_P G vwCl (mdW y ad (mBal v (xs (7 * k + 1))).1) H := wR hP
  refine caR (r := .int cd) (va_runV (As := []) (rest := []) ⟨hx, hb, hml, hown, hts⟩ (hcd ▸ c_X3_thrown l G y ad (mBal v (xs (7 * k + 1))).1) (cwV 0 hts gL_law_X3_thrown rfl rfl rfl (by decide +kernel) ⟨Nat.le_of_ble_eq_true rfl, Nat.le_of_ble_eq_true rfl⟩) ⟨rP_bl, va_recv hK.1 hPm (ci := 3) (q0 := 0) rfl rfl, fun U hU hW => ⟨rfl, by rw [hU]; exact hPm, Kb.moved hW hK⟩⟩ rfl rfl hl.1 rfl (lv_room (Nat.le_of_ble_eq_true rfl)) dL_law_790 ⟨by show cells + 1 + 0 + 0 ≤ 601024; omega, by show slots + 6 + 0 + 0 ≤ 7293034; omega⟩) ?_
  refine lv_iload hx hb dL_law_793 (lv_at hl 1 rfl) ?_
  refine lv_icmp_eq (tgt := 800) hx hb dL_law_795 (by decide) (fun _ => ?_) (fun h => absurd rfl h)
  refine lv_iload hx hb dL_law_800 (lv_at hl 1 rfl) ?_
  refine lv_if_ne (tgt := 817) hx hb dL_law_802 (by decide) (fun _ => ?_) (fun hc0 => ?_)
  · refine lv_goto (tgt := 1137) hx hb dL_law_817 (by decide) ?_
    refine W.widen (k := cells + 3) (n := slots + 20) (by omega) (by omega) ?_
    exact hend H locs ls ⟨b1, n1, la1, L1, _, t1, pd1, bo1, f1, hR1, swP hP, swD hD, hS⟩ (lv_sub hl [2, 3, 4, 5, 6] rfl)
  · refine lv_aload_n hx hb dL_law_805 rfl (lv_at hl 5 rfl) ?_
    refine lv_iconst (v := 0) hx hb dL_law_806 (by decide) ?_
    refine va_lald (f := f1) hx hb hK.1 hP 0 4 rfl rfl (show vp_in (nI 0) 1 from vp_in_nI (by decide) (by decide)) dL_law_807 ?_
    refine lv_iload hx hb dL_law_808 (lv_at hl 0 rfl) ?_
    refine lv_i2l hx hb dL_law_810 rfl ?_
    refine W.lcmp hx hb dL_law_811 ?_
    refine lv_if_eq (tgt := 817) hx hb dL_law_812 (by decide) (fun _ => ?_) (fun h => absurd (lcE (hans hc0)) h)
    refine lv_goto (tgt := 1137) hx hb dL_law_817 (by decide) ?_
    refine W.widen (k := cells + 3) (n := slots + 20) (by omega) (by omega) ?_
    exact hend H locs ls ⟨b1, n1, la1, L1, _, t1, pd1, bo1, f1, hR1, swP hP, swD hD, hS⟩ (lv_sub hl [2, 3, 4, 5, 6] rfl)
set_option maxHeartbeats 4000000 in
set_option maxRecDepth 100000 in
theorem lwO_balance (hlt : l.stackTraces = false) (F : LF p s m c args G y A b0 N xs) (hk : 7 * k + 7 ≤ N) (hc : cells + 3 ≤ 601024) (hs : slots + 20 ≤ 7293034) (h0 : Rel b n L v t pd bo) (hP : va_P G vwCl (lwW y ad ab o b n la L v f) H) (hD : va_D A (lwW y ad ab o b n la L v f)) (hS : va_S A s.heap H locs) (hl : lv_has ls 7 (lvB b0 ab ad o k)) (hend : ∀ (H : Heap) (locs : List Loc) (ls : Array Slot), Inv G y ad ab o A s.heap H locs → lv_has ls 7 (lvB b0 ab ad o k) → W p l e room_1 s m args below meth c H locs (cells + 3) (slots + 20) Q (F0 m 1137 ls [])) : W p l e room_1 s m args below meth c H locs cells slots Q (F0 m 764 ls []) := by
  have F0 := F
  obtain ⟨hx, hb, hml, hown, hts, hK, hZ, hX, hbl, hbA, hA, hN⟩ := F
  refine lv_aload_n hx hb dL_law_764 rfl (lv_at hl 1 rfl) ?_
  refine lv_aload_n hx hb dL_law_765 rfl (lv_at hl 0 rfl) ?_
  refine lv_iload hx hb dL_law_766 (lv_at hl 4 rfl) ?_
  refine lv_iconst (v := 1) hx hb dL_law_768 (by decide) ?_
  refine lv_iadd hx hb dL_law_769 ?_
  refine ldX (j := 1) hx hb hX hbl hbA hS hN rfl (by omega) dL_law_770 ?_
  refine lv_aload_n hx hb dL_law_771 rfl (lv_at hl 3 rfl) ?_
  have hPj : va_P G vwCl (mdW y ad v ++ (oW y o f ++ bkW y ab b n la L)) H := hP
  have hDj : va_D A (mdW y ad v ++ (oW y o f ++ bkW y ab b n la L)) := hD
  have hFc : ∀ q, va_A (oW y o f ++ bkW y ab b n la L) H.size q → A q := freeR hDj hS hA
  have hPc : va_P G vwCl (oW y o f ++ bkW y ab b n la L) H := wR hPj
  have hDc : va_D (fun _ => True) (oW y o f ++ bkW y ab b n la L) := (wRD hDj).weaken (fun _ _ _ _ => trivial)
  refine caN (vx_runSW (As := [.ref (ab 13), .int (xs (7 * k + 1)), .ref o]) (rest := []) ⟨hx, hb, hml, hown, hts⟩ (c_L_balance l hlt G y ab b n la L o f H.size  (xs (7 * k + 1)) ) (vx_cwSW 3 hts gL_law_L_balance rfl rfl rfl (by decide +kernel) ⟨Nat.le_of_ble_eq_true rfl, Nat.le_of_ble_eq_true rfl⟩) ⟨xP_bl, fun U hU hW => ⟨rfl, by rw [hU], by rw [hU]; exact hPc, Kb.moved hW hK, hDc, by rw [hU]; exact Zs.moved hW.alike ((hZ.kept hS.2.1).narrow hFc)⟩⟩ rfl rfl hl.1 rfl (lv_room (Nat.le_of_ble_eq_true rfl)) dL_law_772 ⟨by show cells + 1 ≤ 601024; omega, by show slots + 6 ≤ 7293034; omega⟩) hS hFc hFc (fun u H locs _ hP1 hD1 hk1 hS => ?_)
  obtain ⟨hP, hD⟩ := joinW hPj hDj hk1 hP1 hD1 hFc
  obtain ⟨e1, e2, e3⟩ := r_balance (xs (7 * k + 1)) h0
  by_cases hX0 : (x3 (xs (7 * k + 1))) = 0
  · rw [if_pos hX0] at hP hD
    exact lwT_balance hlt F0 hk hc hs h0 e1 (fun _ => congrArg Int32.toInt64 (e2 hX0).1.symm) ((e2 hX0).2) hP hD hS hl hend
  · rw [if_neg hX0] at hP hD
    exact lwT_balance hlt F0 hk hc hs h0 e1 (fun q => absurd q (e3 hX0).1) (e3 hX0).2 hP hD hS hl hend
set_option maxHeartbeats 4000000 in
set_option maxRecDepth 100000 in
theorem lwT_tranche (hlt : l.stackTraces = false) (F : LF p s m c args G y A b0 N xs) (hk : 7 * k + 7 ≤ N) (hc : cells + 3 ≤ 601024) (hs : slots + 20 ≤ 7293034) (h0 : Rel b n L v t pd bo) {b1 : MS} {n1 : Nat} {la1 : Nat → Nat → Nat} {L1 : LNS} {t1 : Nat} {pd1 bo1 : Nat → Nat} {f1 : Nat → Int64} {cd : Int32} (hcd : (mTra v (xs (7 * k + 1))).1 0 0 = cd) (hans : cd = 0 → f1 0 = (mTra v (xs (7 * k + 1))).2.toInt64) (hR1 : Rel b1 n1 L1 (mTra v (xs (7 * k + 1))).1 t1 pd1 bo1) (hP : va_P G vwCl (mdW y ad v ++ (oW y o f1 ++ bkW y ab b1 n1 la1 L1)) H) (hD : va_D A (mdW y ad v ++ (oW y o f1 ++ bkW y ab b1 n1 la1 L1))) (hS : va_S A s.heap H locs) (hl : lv_has ls 7 (lvB b0 ab ad o k)) (hend : ∀ (H : Heap) (locs : List Loc) (ls : Array Slot), Inv G y ad ab o A s.heap H locs → lv_has ls 7 (lvB b0 ab ad o k) → W p l e room_1 s m args below meth c H locs (cells + 3) (slots + 20) Q (F0 m 1137 ls [])) : W p l e room_1 s m args below meth c H locs (cells + 1) (slots + 6) Q (F0 m 831 ls [.int cd]) := by
  obtain ⟨hx, hb, hml, hown, hts, hK, hZ, hX, hbl, hbA, hA, hN⟩ := F
  refine lv_istore (lv' := [(5, .int cd), (0, .ref b0), (1, .ref (ab 13)), (2, .ref (ad 0)), (3, .ref o), (4, .int (nI (7 * k)))]) hx hb dL_law_831 hl (by decide) rfl (fun ls hl => ?_)
  refine lv_aload_n hx hb dL_law_833 rfl (lv_at hl 3 rfl) ?_
  refine lv_aload_n hx hb dL_law_834 rfl (lv_at hl 1 rfl) ?_
  refine lv_iload hx hb dL_law_835 (lv_at hl 5 rfl) ?_
  refine lv_iconst (v := 1) hx hb dL_law_837 (by decide) ?_
  refine lv_iadd hx hb dL_law_838 ?_
  refine ldX (j := 1) hx hb hX hbl hbA hS hN rfl (by omega) dL_law_839 ?_
  have hPs := swP hP
  have hDs := swD hD
  have hFc : ∀ q, va_A (mdW y ad v) H.size q → A q := freeR hDs hS hA
  have hPm : va_P G vwCl (mdW y ad v) H := wR hPs
  have hDm : va_D (fun _ => True) (mdW y ad v) := (wRD hDs).weaken (fun _ _ _ _ => trivial)
  refine caN (va_runV (As := [.int (xs (7 * k + 1))]) (rest := []) ⟨hx, hb, hml, hown, hts⟩ (c_X3_tranche l G y ad v H.size (xs (7 * k + 1)) ) (cwV 1 hts gL_law_X3_tranche rfl rfl rfl (by decide +kernel) ⟨Nat.le_of_ble_eq_true rfl, Nat.le_of_ble_eq_true rfl⟩) ⟨mP_bl, va_recv hK.1 hPm (ci := 3) (q0 := 0) rfl rfl, fun U hU hW => ⟨rfl, by rw [hU], by rw [hU]; exact hPm, Kb.moved hW hK, hDm⟩⟩ rfl rfl hl.1 rfl (lv_room (Nat.le_of_ble_eq_true rfl)) dL_law_840 ⟨by show (cells + 1) + 0 ≤ 601024; omega, by show (slots + 6) + 0 ≤ 7293034; omega⟩) hS hFc hFc (fun u H locs _ hP1 hD1 hk1 hS => ?_)
  obtain ⟨hP, hD⟩ := joinW hPs hDs hk1 hP1 hD1 hFc
  refine lv_istore (lv' := [(6, .int (mTra v (xs (7 * k + 1))).2), (5, .int cd), (0, .ref b0), (1, .ref (ab 13)), (2, .ref (ad 0)), (3, .ref o), (4, .int (nI (7 * k)))]) hx hb dL_law_843 hl (by decide) rfl (fun ls hl => ?_)
  refine lv_aload_n hx hb dL_law_845 rfl (lv_at hl 4 rfl) ?_
  have hPm : va_P G vwCl (mdW y ad (mTra v (xs (7 * k + 1))).1) H := wR hP
  refine caR (r := .int cd) (va_runV (As := []) (rest := []) ⟨hx, hb, hml, hown, hts⟩ (hcd ▸ c_X3_thrown l G y ad (mTra v (xs (7 * k + 1))).1) (cwV 0 hts gL_law_X3_thrown rfl rfl rfl (by decide +kernel) ⟨Nat.le_of_ble_eq_true rfl, Nat.le_of_ble_eq_true rfl⟩) ⟨rP_bl, va_recv hK.1 hPm (ci := 3) (q0 := 0) rfl rfl, fun U hU hW => ⟨rfl, by rw [hU]; exact hPm, Kb.moved hW hK⟩⟩ rfl rfl hl.1 rfl (lv_room (Nat.le_of_ble_eq_true rfl)) dL_law_846 ⟨by show cells + 1 + 0 + 0 ≤ 601024; omega, by show slots + 6 + 0 + 0 ≤ 7293034; omega⟩) ?_
  refine lv_iload hx hb dL_law_849 (lv_at hl 1 rfl) ?_
  refine lv_icmp_eq (tgt := 856) hx hb dL_law_851 (by decide) (fun _ => ?_) (fun h => absurd rfl h)
  refine lv_iload hx hb dL_law_856 (lv_at hl 1 rfl) ?_
  refine lv_if_ne (tgt := 873) hx hb dL_law_858 (by decide) (fun _ => ?_) (fun hc0 => ?_)
  · refine lv_goto (tgt := 1137) hx hb dL_law_873 (by decide) ?_
    refine W.widen (k := cells + 3) (n := slots + 20) (by omega) (by omega) ?_
    exact hend H locs ls ⟨b1, n1, la1, L1, _, t1, pd1, bo1, f1, hR1, swP hP, swD hD, hS⟩ (lv_sub hl [2, 3, 4, 5, 6] rfl)
  · refine lv_aload_n hx hb dL_law_861 rfl (lv_at hl 5 rfl) ?_
    refine lv_iconst (v := 0) hx hb dL_law_862 (by decide) ?_
    refine va_lald (f := f1) hx hb hK.1 hP 0 4 rfl rfl (show vp_in (nI 0) 1 from vp_in_nI (by decide) (by decide)) dL_law_863 ?_
    refine lv_iload hx hb dL_law_864 (lv_at hl 0 rfl) ?_
    refine lv_i2l hx hb dL_law_866 rfl ?_
    refine W.lcmp hx hb dL_law_867 ?_
    refine lv_if_eq (tgt := 873) hx hb dL_law_868 (by decide) (fun _ => ?_) (fun h => absurd (lcE (hans hc0)) h)
    refine lv_goto (tgt := 1137) hx hb dL_law_873 (by decide) ?_
    refine W.widen (k := cells + 3) (n := slots + 20) (by omega) (by omega) ?_
    exact hend H locs ls ⟨b1, n1, la1, L1, _, t1, pd1, bo1, f1, hR1, swP hP, swD hD, hS⟩ (lv_sub hl [2, 3, 4, 5, 6] rfl)
set_option maxHeartbeats 4000000 in
set_option maxRecDepth 100000 in
theorem lwO_tranche (hlt : l.stackTraces = false) (F : LF p s m c args G y A b0 N xs) (hk : 7 * k + 7 ≤ N) (hc : cells + 3 ≤ 601024) (hs : slots + 20 ≤ 7293034) (h0 : Rel b n L v t pd bo) (hP : va_P G vwCl (lwW y ad ab o b n la L v f) H) (hD : va_D A (lwW y ad ab o b n la L v f)) (hS : va_S A s.heap H locs) (hl : lv_has ls 7 (lvB b0 ab ad o k)) (hend : ∀ (H : Heap) (locs : List Loc) (ls : Array Slot), Inv G y ad ab o A s.heap H locs → lv_has ls 7 (lvB b0 ab ad o k) → W p l e room_1 s m args below meth c H locs (cells + 3) (slots + 20) Q (F0 m 1137 ls [])) : W p l e room_1 s m args below meth c H locs cells slots Q (F0 m 820 ls []) := by
  have F0 := F
  obtain ⟨hx, hb, hml, hown, hts, hK, hZ, hX, hbl, hbA, hA, hN⟩ := F
  refine lv_aload_n hx hb dL_law_820 rfl (lv_at hl 1 rfl) ?_
  refine lv_aload_n hx hb dL_law_821 rfl (lv_at hl 0 rfl) ?_
  refine lv_iload hx hb dL_law_822 (lv_at hl 4 rfl) ?_
  refine lv_iconst (v := 1) hx hb dL_law_824 (by decide) ?_
  refine lv_iadd hx hb dL_law_825 ?_
  refine ldX (j := 1) hx hb hX hbl hbA hS hN rfl (by omega) dL_law_826 ?_
  refine lv_aload_n hx hb dL_law_827 rfl (lv_at hl 3 rfl) ?_
  have hPj : va_P G vwCl (mdW y ad v ++ (oW y o f ++ bkW y ab b n la L)) H := hP
  have hDj : va_D A (mdW y ad v ++ (oW y o f ++ bkW y ab b n la L)) := hD
  have hFc : ∀ q, va_A (oW y o f ++ bkW y ab b n la L) H.size q → A q := freeR hDj hS hA
  have hPc : va_P G vwCl (oW y o f ++ bkW y ab b n la L) H := wR hPj
  have hDc : va_D (fun _ => True) (oW y o f ++ bkW y ab b n la L) := (wRD hDj).weaken (fun _ _ _ _ => trivial)
  refine caN (vx_runSW (As := [.ref (ab 13), .int (xs (7 * k + 1)), .ref o]) (rest := []) ⟨hx, hb, hml, hown, hts⟩ (c_L_tranche l hlt G y ab b n la L o f H.size  (xs (7 * k + 1)) ) (vx_cwSW 3 hts gL_law_L_tranche rfl rfl rfl (by decide +kernel) ⟨Nat.le_of_ble_eq_true rfl, Nat.le_of_ble_eq_true rfl⟩) ⟨xP_bl, fun U hU hW => ⟨rfl, by rw [hU], by rw [hU]; exact hPc, Kb.moved hW hK, hDc, by rw [hU]; exact Zs.moved hW.alike ((hZ.kept hS.2.1).narrow hFc)⟩⟩ rfl rfl hl.1 rfl (lv_room (Nat.le_of_ble_eq_true rfl)) dL_law_828 ⟨by show cells + 1 ≤ 601024; omega, by show slots + 6 ≤ 7293034; omega⟩) hS hFc hFc (fun u H locs _ hP1 hD1 hk1 hS => ?_)
  obtain ⟨hP, hD⟩ := joinW hPj hDj hk1 hP1 hD1 hFc
  obtain ⟨e1, e2, e3⟩ := r_tranche (xs (7 * k + 1)) h0
  by_cases hX0 : (x6 (xs (7 * k + 1))) = 0
  · rw [if_pos hX0] at hP hD
    exact lwT_tranche hlt F0 hk hc hs h0 e1 (fun _ => congrArg Int32.toInt64 (e2 hX0).1.symm) ((e2 hX0).2) hP hD hS hl hend
  · rw [if_neg hX0] at hP hD
    exact lwT_tranche hlt F0 hk hc hs h0 e1 (fun q => absurd q (e3 hX0).1) (e3 hX0).2 hP hD hS hl hend
set_option maxHeartbeats 4000000 in
set_option maxRecDepth 100000 in
theorem lwT_margin (hlt : l.stackTraces = false) (F : LF p s m c args G y A b0 N xs) (hk : 7 * k + 7 ≤ N) (hc : cells + 3 ≤ 601024) (hs : slots + 20 ≤ 7293034) (h0 : Rel b n L v t pd bo) {b1 : MS} {n1 : Nat} {la1 : Nat → Nat → Nat} {L1 : LNS} {t1 : Nat} {pd1 bo1 : Nat → Nat} {f1 : Nat → Int64} {cd : Int32} (hcd : (mMar v t (xs (7 * k + 1)) (xs (7 * k + 2))).1 0 0 = cd) (hans : cd = 0 → f1 0 = (mMar v t (xs (7 * k + 1)) (xs (7 * k + 2))).2.toInt64) (hR1 : Rel b1 n1 L1 (mMar v t (xs (7 * k + 1)) (xs (7 * k + 2))).1 t1 pd1 bo1) (hP : va_P G vwCl (mdW y ad v ++ (oW y o f1 ++ bkW y ab b1 n1 la1 L1)) H) (hD : va_D A (mdW y ad v ++ (oW y o f1 ++ bkW y ab b1 n1 la1 L1))) (hS : va_S A s.heap H locs) (hl : lv_has ls 7 (lvB b0 ab ad o k)) (hend : ∀ (H : Heap) (locs : List Loc) (ls : Array Slot), Inv G y ad ab o A s.heap H locs → lv_has ls 7 (lvB b0 ab ad o k) → W p l e room_1 s m args below meth c H locs (cells + 3) (slots + 20) Q (F0 m 1137 ls [])) : W p l e room_1 s m args below meth c H locs (cells + 1) (slots + 6) Q (F0 m 906 ls [.int cd]) := by
  obtain ⟨hx, hb, hml, hown, hts, hK, hZ, hX, hbl, hbA, hA, hN⟩ := F
  refine lv_istore (lv' := [(5, .int cd), (0, .ref b0), (1, .ref (ab 13)), (2, .ref (ad 0)), (3, .ref o), (4, .int (nI (7 * k)))]) hx hb dL_law_906 hl (by decide) rfl (fun ls hl => ?_)
  refine lv_aload_n hx hb dL_law_908 rfl (lv_at hl 3 rfl) ?_
  refine lv_aload_n hx hb dL_law_909 rfl (lv_at hl 1 rfl) ?_
  refine lv_iload hx hb dL_law_910 (lv_at hl 5 rfl) ?_
  refine lv_iconst (v := 1) hx hb dL_law_912 (by decide) ?_
  refine lv_iadd hx hb dL_law_913 ?_
  refine ldX (j := 1) hx hb hX hbl hbA hS hN rfl (by omega) dL_law_914 ?_
  refine lv_aload_n hx hb dL_law_915 rfl (lv_at hl 1 rfl) ?_
  refine lv_iload hx hb dL_law_916 (lv_at hl 5 rfl) ?_
  refine lv_iconst (v := 2) hx hb dL_law_918 (by decide) ?_
  refine lv_iadd hx hb dL_law_919 ?_
  refine ldX (j := 2) hx hb hX hbl hbA hS hN rfl (by omega) dL_law_920 ?_
  have hPs := swP hP
  have hDs := swD hD
  have hFc : ∀ q, va_A (mdW y ad v) H.size q → A q := freeR hDs hS hA
  have hPm : va_P G vwCl (mdW y ad v) H := wR hPs
  have hDm : va_D (fun _ => True) (mdW y ad v) := (wRD hDs).weaken (fun _ _ _ _ => trivial)
  refine caN (va_runV (As := [.int (xs (7 * k + 1)), .int (xs (7 * k + 2))]) (rest := []) ⟨hx, hb, hml, hown, hts⟩ (c_X3_margin l G y ad v H.size (xs (7 * k + 1)) (xs (7 * k + 2)) t h0.1.2.2.2.2.2.1 h0.1.2.1) (cwV 2 hts gL_law_X3_margin rfl rfl rfl (by decide +kernel) ⟨Nat.le_of_ble_eq_true rfl, Nat.le_of_ble_eq_true rfl⟩) ⟨mP_bl, va_recv hK.1 hPm (ci := 3) (q0 := 0) rfl rfl, fun U hU hW => ⟨rfl, by rw [hU], by rw [hU]; exact hPm, Kb.moved hW hK, hDm⟩⟩ rfl rfl hl.1 rfl (lv_room (Nat.le_of_ble_eq_true rfl)) dL_law_921 ⟨by show (cells + 1) + 0 ≤ 601024; omega, by show (slots + 6) + 0 ≤ 7293034; omega⟩) hS hFc hFc (fun u H locs _ hP1 hD1 hk1 hS => ?_)
  obtain ⟨hP, hD⟩ := joinW hPs hDs hk1 hP1 hD1 hFc
  refine lv_istore (lv' := [(6, .int (mMar v t (xs (7 * k + 1)) (xs (7 * k + 2))).2), (5, .int cd), (0, .ref b0), (1, .ref (ab 13)), (2, .ref (ad 0)), (3, .ref o), (4, .int (nI (7 * k)))]) hx hb dL_law_924 hl (by decide) rfl (fun ls hl => ?_)
  refine lv_aload_n hx hb dL_law_926 rfl (lv_at hl 4 rfl) ?_
  have hPm : va_P G vwCl (mdW y ad (mMar v t (xs (7 * k + 1)) (xs (7 * k + 2))).1) H := wR hP
  refine caR (r := .int cd) (va_runV (As := []) (rest := []) ⟨hx, hb, hml, hown, hts⟩ (hcd ▸ c_X3_thrown l G y ad (mMar v t (xs (7 * k + 1)) (xs (7 * k + 2))).1) (cwV 0 hts gL_law_X3_thrown rfl rfl rfl (by decide +kernel) ⟨Nat.le_of_ble_eq_true rfl, Nat.le_of_ble_eq_true rfl⟩) ⟨rP_bl, va_recv hK.1 hPm (ci := 3) (q0 := 0) rfl rfl, fun U hU hW => ⟨rfl, by rw [hU]; exact hPm, Kb.moved hW hK⟩⟩ rfl rfl hl.1 rfl (lv_room (Nat.le_of_ble_eq_true rfl)) dL_law_927 ⟨by show cells + 1 + 0 + 0 ≤ 601024; omega, by show slots + 6 + 0 + 0 ≤ 7293034; omega⟩) ?_
  refine lv_iload hx hb dL_law_930 (lv_at hl 1 rfl) ?_
  refine lv_icmp_eq (tgt := 937) hx hb dL_law_932 (by decide) (fun _ => ?_) (fun h => absurd rfl h)
  refine lv_iload hx hb dL_law_937 (lv_at hl 1 rfl) ?_
  refine lv_if_ne (tgt := 954) hx hb dL_law_939 (by decide) (fun _ => ?_) (fun hc0 => ?_)
  · refine lv_goto (tgt := 1137) hx hb dL_law_954 (by decide) ?_
    refine W.widen (k := cells + 3) (n := slots + 20) (by omega) (by omega) ?_
    exact hend H locs ls ⟨b1, n1, la1, L1, _, t1, pd1, bo1, f1, hR1, swP hP, swD hD, hS⟩ (lv_sub hl [2, 3, 4, 5, 6] rfl)
  · refine lv_aload_n hx hb dL_law_942 rfl (lv_at hl 5 rfl) ?_
    refine lv_iconst (v := 0) hx hb dL_law_943 (by decide) ?_
    refine va_lald (f := f1) hx hb hK.1 hP 0 4 rfl rfl (show vp_in (nI 0) 1 from vp_in_nI (by decide) (by decide)) dL_law_944 ?_
    refine lv_iload hx hb dL_law_945 (lv_at hl 0 rfl) ?_
    refine lv_i2l hx hb dL_law_947 rfl ?_
    refine W.lcmp hx hb dL_law_948 ?_
    refine lv_if_eq (tgt := 954) hx hb dL_law_949 (by decide) (fun _ => ?_) (fun h => absurd (lcE (hans hc0)) h)
    refine lv_goto (tgt := 1137) hx hb dL_law_954 (by decide) ?_
    refine W.widen (k := cells + 3) (n := slots + 20) (by omega) (by omega) ?_
    exact hend H locs ls ⟨b1, n1, la1, L1, _, t1, pd1, bo1, f1, hR1, swP hP, swD hD, hS⟩ (lv_sub hl [2, 3, 4, 5, 6] rfl)
set_option maxHeartbeats 4000000 in
set_option maxRecDepth 100000 in
theorem lwO_margin (hlt : l.stackTraces = false) (F : LF p s m c args G y A b0 N xs) (hk : 7 * k + 7 ≤ N) (hc : cells + 3 ≤ 601024) (hs : slots + 20 ≤ 7293034) (h0 : Rel b n L v t pd bo) (hP : va_P G vwCl (lwW y ad ab o b n la L v f) H) (hD : va_D A (lwW y ad ab o b n la L v f)) (hS : va_S A s.heap H locs) (hl : lv_has ls 7 (lvB b0 ab ad o k)) (hend : ∀ (H : Heap) (locs : List Loc) (ls : Array Slot), Inv G y ad ab o A s.heap H locs → lv_has ls 7 (lvB b0 ab ad o k) → W p l e room_1 s m args below meth c H locs (cells + 3) (slots + 20) Q (F0 m 1137 ls [])) : W p l e room_1 s m args below meth c H locs cells slots Q (F0 m 889 ls []) := by
  have F0 := F
  obtain ⟨hx, hb, hml, hown, hts, hK, hZ, hX, hbl, hbA, hA, hN⟩ := F
  refine lv_aload_n hx hb dL_law_889 rfl (lv_at hl 1 rfl) ?_
  refine lv_aload_n hx hb dL_law_890 rfl (lv_at hl 0 rfl) ?_
  refine lv_iload hx hb dL_law_891 (lv_at hl 4 rfl) ?_
  refine lv_iconst (v := 1) hx hb dL_law_893 (by decide) ?_
  refine lv_iadd hx hb dL_law_894 ?_
  refine ldX (j := 1) hx hb hX hbl hbA hS hN rfl (by omega) dL_law_895 ?_
  refine lv_aload_n hx hb dL_law_896 rfl (lv_at hl 0 rfl) ?_
  refine lv_iload hx hb dL_law_897 (lv_at hl 4 rfl) ?_
  refine lv_iconst (v := 2) hx hb dL_law_899 (by decide) ?_
  refine lv_iadd hx hb dL_law_900 ?_
  refine ldX (j := 2) hx hb hX hbl hbA hS hN rfl (by omega) dL_law_901 ?_
  refine lv_aload_n hx hb dL_law_902 rfl (lv_at hl 3 rfl) ?_
  have hPj : va_P G vwCl (mdW y ad v ++ (oW y o f ++ bkW y ab b n la L)) H := hP
  have hDj : va_D A (mdW y ad v ++ (oW y o f ++ bkW y ab b n la L)) := hD
  have hFc : ∀ q, va_A (oW y o f ++ bkW y ab b n la L) H.size q → A q := freeR hDj hS hA
  have hPc : va_P G vwCl (oW y o f ++ bkW y ab b n la L) H := wR hPj
  have hDc : va_D (fun _ => True) (oW y o f ++ bkW y ab b n la L) := (wRD hDj).weaken (fun _ _ _ _ => trivial)
  refine caN (vx_runSW (As := [.ref (ab 13), .int (xs (7 * k + 1)), .int (xs (7 * k + 2)), .ref o]) (rest := []) ⟨hx, hb, hml, hown, hts⟩ (c_L_margin l hlt G y ab b n la L o f H.size t h0.1.2.2.2.2.1 h0.1.2.1 (xs (7 * k + 1)) (xs (7 * k + 2)) ) (vx_cwSW 4 hts gL_law_L_margin rfl rfl rfl (by decide +kernel) ⟨Nat.le_of_ble_eq_true rfl, Nat.le_of_ble_eq_true rfl⟩) ⟨xP_bl, fun U hU hW => ⟨rfl, by rw [hU], by rw [hU]; exact hPc, Kb.moved hW hK, hDc, by rw [hU]; exact Zs.moved hW.alike ((hZ.kept hS.2.1).narrow hFc)⟩⟩ rfl rfl hl.1 rfl (lv_room (Nat.le_of_ble_eq_true rfl)) dL_law_903 ⟨by show cells + 1 ≤ 601024; omega, by show slots + 6 ≤ 7293034; omega⟩) hS hFc hFc (fun u H locs _ hP1 hD1 hk1 hS => ?_)
  obtain ⟨hP, hD⟩ := joinW hPj hDj hk1 hP1 hD1 hFc
  obtain ⟨e1, e2, e3⟩ := r_margin (xs (7 * k + 1)) (xs (7 * k + 2)) h0
  by_cases hX0 : (xMar t (xs (7 * k + 1)) (xs (7 * k + 2))) = 0
  · rw [if_pos hX0] at hP hD
    exact lwT_margin hlt F0 hk hc hs h0 e1 (fun _ => congrArg Int32.toInt64 (e2 hX0).1.symm) ((e2 hX0).2) hP hD hS hl hend
  · rw [if_neg hX0] at hP hD
    exact lwT_margin hlt F0 hk hc hs h0 e1 (fun q => absurd q (e3 hX0).1) (e3 hX0).2 hP hD hS hl hend
set_option maxHeartbeats 4000000 in
set_option maxRecDepth 100000 in
theorem lwT_byProduct (hlt : l.stackTraces = false) (F : LF p s m c args G y A b0 N xs) (hk : 7 * k + 7 ≤ N) (hc : cells + 3 ≤ 601024) (hs : slots + 20 ≤ 7293034) (h0 : Rel b n L v t pd bo) {b1 : MS} {n1 : Nat} {la1 : Nat → Nat → Nat} {L1 : LNS} {t1 : Nat} {pd1 bo1 : Nat → Nat} {f1 : Nat → Int64} {cd : Int32} (hcd : (mPro v t (xs (7 * k + 1)) (xs (7 * k + 2))).1 0 0 = cd) (hans : cd = 0 → f1 0 = (mPro v t (xs (7 * k + 1)) (xs (7 * k + 2))).2.toInt64) (hR1 : Rel b1 n1 L1 (mPro v t (xs (7 * k + 1)) (xs (7 * k + 2))).1 t1 pd1 bo1) (hP : va_P G vwCl (mdW y ad v ++ (oW y o f1 ++ bkW y ab b1 n1 la1 L1)) H) (hD : va_D A (mdW y ad v ++ (oW y o f1 ++ bkW y ab b1 n1 la1 L1))) (hS : va_S A s.heap H locs) (hl : lv_has ls 7 (lvB b0 ab ad o k)) (hend : ∀ (H : Heap) (locs : List Loc) (ls : Array Slot), Inv G y ad ab o A s.heap H locs → lv_has ls 7 (lvB b0 ab ad o k) → W p l e room_1 s m args below meth c H locs (cells + 3) (slots + 20) Q (F0 m 1137 ls [])) : W p l e room_1 s m args below meth c H locs (cells + 1) (slots + 6) Q (F0 m 974 ls [.int cd]) := by
  obtain ⟨hx, hb, hml, hown, hts, hK, hZ, hX, hbl, hbA, hA, hN⟩ := F
  refine lv_istore (lv' := [(5, .int cd), (0, .ref b0), (1, .ref (ab 13)), (2, .ref (ad 0)), (3, .ref o), (4, .int (nI (7 * k)))]) hx hb dL_law_974 hl (by decide) rfl (fun ls hl => ?_)
  refine lv_aload_n hx hb dL_law_976 rfl (lv_at hl 3 rfl) ?_
  refine lv_aload_n hx hb dL_law_977 rfl (lv_at hl 1 rfl) ?_
  refine lv_iload hx hb dL_law_978 (lv_at hl 5 rfl) ?_
  refine lv_iconst (v := 1) hx hb dL_law_980 (by decide) ?_
  refine lv_iadd hx hb dL_law_981 ?_
  refine ldX (j := 1) hx hb hX hbl hbA hS hN rfl (by omega) dL_law_982 ?_
  refine lv_aload_n hx hb dL_law_983 rfl (lv_at hl 1 rfl) ?_
  refine lv_iload hx hb dL_law_984 (lv_at hl 5 rfl) ?_
  refine lv_iconst (v := 2) hx hb dL_law_986 (by decide) ?_
  refine lv_iadd hx hb dL_law_987 ?_
  refine ldX (j := 2) hx hb hX hbl hbA hS hN rfl (by omega) dL_law_988 ?_
  have hPs := swP hP
  have hDs := swD hD
  have hFc : ∀ q, va_A (mdW y ad v) H.size q → A q := freeR hDs hS hA
  have hPm : va_P G vwCl (mdW y ad v) H := wR hPs
  have hDm : va_D (fun _ => True) (mdW y ad v) := (wRD hDs).weaken (fun _ _ _ _ => trivial)
  refine caN (va_runV (As := [.int (xs (7 * k + 1)), .int (xs (7 * k + 2))]) (rest := []) ⟨hx, hb, hml, hown, hts⟩ (c_X3_byProduct l G y ad v H.size (xs (7 * k + 1)) (xs (7 * k + 2)) t h0.1.2.2.2.2.2.1 h0.1.2.1) (cwV 2 hts gL_law_X3_byProduct rfl rfl rfl (by decide +kernel) ⟨Nat.le_of_ble_eq_true rfl, Nat.le_of_ble_eq_true rfl⟩) ⟨mP_bl, va_recv hK.1 hPm (ci := 3) (q0 := 0) rfl rfl, fun U hU hW => ⟨rfl, by rw [hU], by rw [hU]; exact hPm, Kb.moved hW hK, hDm⟩⟩ rfl rfl hl.1 rfl (lv_room (Nat.le_of_ble_eq_true rfl)) dL_law_989 ⟨by show (cells + 1) + 0 ≤ 601024; omega, by show (slots + 6) + 0 ≤ 7293034; omega⟩) hS hFc hFc (fun u H locs _ hP1 hD1 hk1 hS => ?_)
  obtain ⟨hP, hD⟩ := joinW hPs hDs hk1 hP1 hD1 hFc
  refine lv_istore (lv' := [(6, .int (mPro v t (xs (7 * k + 1)) (xs (7 * k + 2))).2), (5, .int cd), (0, .ref b0), (1, .ref (ab 13)), (2, .ref (ad 0)), (3, .ref o), (4, .int (nI (7 * k)))]) hx hb dL_law_992 hl (by decide) rfl (fun ls hl => ?_)
  refine lv_aload_n hx hb dL_law_994 rfl (lv_at hl 4 rfl) ?_
  have hPm : va_P G vwCl (mdW y ad (mPro v t (xs (7 * k + 1)) (xs (7 * k + 2))).1) H := wR hP
  refine caR (r := .int cd) (va_runV (As := []) (rest := []) ⟨hx, hb, hml, hown, hts⟩ (hcd ▸ c_X3_thrown l G y ad (mPro v t (xs (7 * k + 1)) (xs (7 * k + 2))).1) (cwV 0 hts gL_law_X3_thrown rfl rfl rfl (by decide +kernel) ⟨Nat.le_of_ble_eq_true rfl, Nat.le_of_ble_eq_true rfl⟩) ⟨rP_bl, va_recv hK.1 hPm (ci := 3) (q0 := 0) rfl rfl, fun U hU hW => ⟨rfl, by rw [hU]; exact hPm, Kb.moved hW hK⟩⟩ rfl rfl hl.1 rfl (lv_room (Nat.le_of_ble_eq_true rfl)) dL_law_995 ⟨by show cells + 1 + 0 + 0 ≤ 601024; omega, by show slots + 6 + 0 + 0 ≤ 7293034; omega⟩) ?_
  refine lv_iload hx hb dL_law_998 (lv_at hl 1 rfl) ?_
  refine lv_icmp_eq (tgt := 1005) hx hb dL_law_1000 (by decide) (fun _ => ?_) (fun h => absurd rfl h)
  refine lv_iload hx hb dL_law_1005 (lv_at hl 1 rfl) ?_
  refine lv_if_ne (tgt := 1022) hx hb dL_law_1007 (by decide) (fun _ => ?_) (fun hc0 => ?_)
  · refine lv_goto (tgt := 1137) hx hb dL_law_1022 (by decide) ?_
    refine W.widen (k := cells + 3) (n := slots + 20) (by omega) (by omega) ?_
    exact hend H locs ls ⟨b1, n1, la1, L1, _, t1, pd1, bo1, f1, hR1, swP hP, swD hD, hS⟩ (lv_sub hl [2, 3, 4, 5, 6] rfl)
  · refine lv_aload_n hx hb dL_law_1010 rfl (lv_at hl 5 rfl) ?_
    refine lv_iconst (v := 0) hx hb dL_law_1011 (by decide) ?_
    refine va_lald (f := f1) hx hb hK.1 hP 0 4 rfl rfl (show vp_in (nI 0) 1 from vp_in_nI (by decide) (by decide)) dL_law_1012 ?_
    refine lv_iload hx hb dL_law_1013 (lv_at hl 0 rfl) ?_
    refine lv_i2l hx hb dL_law_1015 rfl ?_
    refine W.lcmp hx hb dL_law_1016 ?_
    refine lv_if_eq (tgt := 1022) hx hb dL_law_1017 (by decide) (fun _ => ?_) (fun h => absurd (lcE (hans hc0)) h)
    refine lv_goto (tgt := 1137) hx hb dL_law_1022 (by decide) ?_
    refine W.widen (k := cells + 3) (n := slots + 20) (by omega) (by omega) ?_
    exact hend H locs ls ⟨b1, n1, la1, L1, _, t1, pd1, bo1, f1, hR1, swP hP, swD hD, hS⟩ (lv_sub hl [2, 3, 4, 5, 6] rfl)
set_option maxHeartbeats 4000000 in
set_option maxRecDepth 100000 in
theorem lwO_byProduct (hlt : l.stackTraces = false) (F : LF p s m c args G y A b0 N xs) (hk : 7 * k + 7 ≤ N) (hc : cells + 3 ≤ 601024) (hs : slots + 20 ≤ 7293034) (h0 : Rel b n L v t pd bo) (hP : va_P G vwCl (lwW y ad ab o b n la L v f) H) (hD : va_D A (lwW y ad ab o b n la L v f)) (hS : va_S A s.heap H locs) (hl : lv_has ls 7 (lvB b0 ab ad o k)) (hend : ∀ (H : Heap) (locs : List Loc) (ls : Array Slot), Inv G y ad ab o A s.heap H locs → lv_has ls 7 (lvB b0 ab ad o k) → W p l e room_1 s m args below meth c H locs (cells + 3) (slots + 20) Q (F0 m 1137 ls [])) : W p l e room_1 s m args below meth c H locs cells slots Q (F0 m 957 ls []) := by
  have F0 := F
  obtain ⟨hx, hb, hml, hown, hts, hK, hZ, hX, hbl, hbA, hA, hN⟩ := F
  refine lv_aload_n hx hb dL_law_957 rfl (lv_at hl 1 rfl) ?_
  refine lv_aload_n hx hb dL_law_958 rfl (lv_at hl 0 rfl) ?_
  refine lv_iload hx hb dL_law_959 (lv_at hl 4 rfl) ?_
  refine lv_iconst (v := 1) hx hb dL_law_961 (by decide) ?_
  refine lv_iadd hx hb dL_law_962 ?_
  refine ldX (j := 1) hx hb hX hbl hbA hS hN rfl (by omega) dL_law_963 ?_
  refine lv_aload_n hx hb dL_law_964 rfl (lv_at hl 0 rfl) ?_
  refine lv_iload hx hb dL_law_965 (lv_at hl 4 rfl) ?_
  refine lv_iconst (v := 2) hx hb dL_law_967 (by decide) ?_
  refine lv_iadd hx hb dL_law_968 ?_
  refine ldX (j := 2) hx hb hX hbl hbA hS hN rfl (by omega) dL_law_969 ?_
  refine lv_aload_n hx hb dL_law_970 rfl (lv_at hl 3 rfl) ?_
  have hPj : va_P G vwCl (mdW y ad v ++ (oW y o f ++ bkW y ab b n la L)) H := hP
  have hDj : va_D A (mdW y ad v ++ (oW y o f ++ bkW y ab b n la L)) := hD
  have hFc : ∀ q, va_A (oW y o f ++ bkW y ab b n la L) H.size q → A q := freeR hDj hS hA
  have hPc : va_P G vwCl (oW y o f ++ bkW y ab b n la L) H := wR hPj
  have hDc : va_D (fun _ => True) (oW y o f ++ bkW y ab b n la L) := (wRD hDj).weaken (fun _ _ _ _ => trivial)
  refine caN (vx_runSW (As := [.ref (ab 13), .int (xs (7 * k + 1)), .int (xs (7 * k + 2)), .ref o]) (rest := []) ⟨hx, hb, hml, hown, hts⟩ (c_L_byProduct l hlt G y ab b n la L o f H.size t h0.1.2.2.2.2.1 h0.1.2.1 (xs (7 * k + 1)) (xs (7 * k + 2)) ) (vx_cwSW 4 hts gL_law_L_byProduct rfl rfl rfl (by decide +kernel) ⟨Nat.le_of_ble_eq_true rfl, Nat.le_of_ble_eq_true rfl⟩) ⟨xP_bl, fun U hU hW => ⟨rfl, by rw [hU], by rw [hU]; exact hPc, Kb.moved hW hK, hDc, by rw [hU]; exact Zs.moved hW.alike ((hZ.kept hS.2.1).narrow hFc)⟩⟩ rfl rfl hl.1 rfl (lv_room (Nat.le_of_ble_eq_true rfl)) dL_law_971 ⟨by show cells + 1 ≤ 601024; omega, by show slots + 6 ≤ 7293034; omega⟩) hS hFc hFc (fun u H locs _ hP1 hD1 hk1 hS => ?_)
  obtain ⟨hP, hD⟩ := joinW hPj hDj hk1 hP1 hD1 hFc
  obtain ⟨e1, e2, e3⟩ := r_byProduct (xs (7 * k + 1)) (xs (7 * k + 2)) h0
  by_cases hX0 : (xMar t (xs (7 * k + 1)) (xs (7 * k + 2))) = 0
  · rw [if_pos hX0] at hP hD
    exact lwT_byProduct hlt F0 hk hc hs h0 e1 (fun _ => congrArg Int32.toInt64 (e2 hX0).1.symm) ((e2 hX0).2) hP hD hS hl hend
  · rw [if_neg hX0] at hP hD
    exact lwT_byProduct hlt F0 hk hc hs h0 e1 (fun q => absurd q (e3 hX0).1) (e3 hX0).2 hP hD hS hl hend
set_option maxHeartbeats 4000000 in
set_option maxRecDepth 100000 in
theorem lwT_treasury (hlt : l.stackTraces = false) (F : LF p s m c args G y A b0 N xs) (hk : 7 * k + 7 ≤ N) (hc : cells + 3 ≤ 601024) (hs : slots + 20 ≤ 7293034) (h0 : Rel b n L v t pd bo) {b1 : MS} {n1 : Nat} {la1 : Nat → Nat → Nat} {L1 : LNS} {t1 : Nat} {pd1 bo1 : Nat → Nat} {f1 : Nat → Int64} {cd : Int32} (hcd : (mTre v t (xs (7 * k + 1))).1 0 0 = cd) (hans : cd = 0 → f1 0 = (mTre v t (xs (7 * k + 1))).2.toInt64) (hR1 : Rel b1 n1 L1 (mTre v t (xs (7 * k + 1))).1 t1 pd1 bo1) (hP : va_P G vwCl (mdW y ad v ++ (oW y o f1 ++ bkW y ab b1 n1 la1 L1)) H) (hD : va_D A (mdW y ad v ++ (oW y o f1 ++ bkW y ab b1 n1 la1 L1))) (hS : va_S A s.heap H locs) (hl : lv_has ls 7 (lvB b0 ab ad o k)) (hend : ∀ (H : Heap) (locs : List Loc) (ls : Array Slot), Inv G y ad ab o A s.heap H locs → lv_has ls 7 (lvB b0 ab ad o k) → W p l e room_1 s m args below meth c H locs (cells + 3) (slots + 20) Q (F0 m 1137 ls [])) : W p l e room_1 s m args below meth c H locs (cells + 1) (slots + 6) Q (F0 m 1036 ls [.int cd]) := by
  obtain ⟨hx, hb, hml, hown, hts, hK, hZ, hX, hbl, hbA, hA, hN⟩ := F
  refine lv_istore (lv' := [(5, .int cd), (0, .ref b0), (1, .ref (ab 13)), (2, .ref (ad 0)), (3, .ref o), (4, .int (nI (7 * k)))]) hx hb dL_law_1036 hl (by decide) rfl (fun ls hl => ?_)
  refine lv_aload_n hx hb dL_law_1038 rfl (lv_at hl 3 rfl) ?_
  refine lv_aload_n hx hb dL_law_1039 rfl (lv_at hl 1 rfl) ?_
  refine lv_iload hx hb dL_law_1040 (lv_at hl 5 rfl) ?_
  refine lv_iconst (v := 1) hx hb dL_law_1042 (by decide) ?_
  refine lv_iadd hx hb dL_law_1043 ?_
  refine ldX (j := 1) hx hb hX hbl hbA hS hN rfl (by omega) dL_law_1044 ?_
  have hPs := swP hP
  have hDs := swD hD
  have hFc : ∀ q, va_A (mdW y ad v) H.size q → A q := freeR hDs hS hA
  have hPm : va_P G vwCl (mdW y ad v) H := wR hPs
  have hDm : va_D (fun _ => True) (mdW y ad v) := (wRD hDs).weaken (fun _ _ _ _ => trivial)
  refine caN (va_runV (As := [.int (xs (7 * k + 1))]) (rest := []) ⟨hx, hb, hml, hown, hts⟩ (c_X3_treasury l G y ad v H.size (xs (7 * k + 1)) t h0.1.2.2.2.2.2.1 h0.1.2.1) (cwV 1 hts gL_law_X3_treasury rfl rfl rfl (by decide +kernel) ⟨Nat.le_of_ble_eq_true rfl, Nat.le_of_ble_eq_true rfl⟩) ⟨mP_bl, va_recv hK.1 hPm (ci := 3) (q0 := 0) rfl rfl, fun U hU hW => ⟨rfl, by rw [hU], by rw [hU]; exact hPm, Kb.moved hW hK, hDm⟩⟩ rfl rfl hl.1 rfl (lv_room (Nat.le_of_ble_eq_true rfl)) dL_law_1045 ⟨by show (cells + 1) + 0 ≤ 601024; omega, by show (slots + 6) + 0 ≤ 7293034; omega⟩) hS hFc hFc (fun u H locs _ hP1 hD1 hk1 hS => ?_)
  obtain ⟨hP, hD⟩ := joinW hPs hDs hk1 hP1 hD1 hFc
  refine lv_istore (lv' := [(6, .int (mTre v t (xs (7 * k + 1))).2), (5, .int cd), (0, .ref b0), (1, .ref (ab 13)), (2, .ref (ad 0)), (3, .ref o), (4, .int (nI (7 * k)))]) hx hb dL_law_1048 hl (by decide) rfl (fun ls hl => ?_)
  refine lv_aload_n hx hb dL_law_1050 rfl (lv_at hl 4 rfl) ?_
  have hPm : va_P G vwCl (mdW y ad (mTre v t (xs (7 * k + 1))).1) H := wR hP
  refine caR (r := .int cd) (va_runV (As := []) (rest := []) ⟨hx, hb, hml, hown, hts⟩ (hcd ▸ c_X3_thrown l G y ad (mTre v t (xs (7 * k + 1))).1) (cwV 0 hts gL_law_X3_thrown rfl rfl rfl (by decide +kernel) ⟨Nat.le_of_ble_eq_true rfl, Nat.le_of_ble_eq_true rfl⟩) ⟨rP_bl, va_recv hK.1 hPm (ci := 3) (q0 := 0) rfl rfl, fun U hU hW => ⟨rfl, by rw [hU]; exact hPm, Kb.moved hW hK⟩⟩ rfl rfl hl.1 rfl (lv_room (Nat.le_of_ble_eq_true rfl)) dL_law_1051 ⟨by show cells + 1 + 0 + 0 ≤ 601024; omega, by show slots + 6 + 0 + 0 ≤ 7293034; omega⟩) ?_
  refine lv_iload hx hb dL_law_1054 (lv_at hl 1 rfl) ?_
  refine lv_icmp_eq (tgt := 1061) hx hb dL_law_1056 (by decide) (fun _ => ?_) (fun h => absurd rfl h)
  refine lv_iload hx hb dL_law_1061 (lv_at hl 1 rfl) ?_
  refine lv_if_ne (tgt := 1078) hx hb dL_law_1063 (by decide) (fun _ => ?_) (fun hc0 => ?_)
  · refine lv_goto (tgt := 1137) hx hb dL_law_1078 (by decide) ?_
    refine W.widen (k := cells + 3) (n := slots + 20) (by omega) (by omega) ?_
    exact hend H locs ls ⟨b1, n1, la1, L1, _, t1, pd1, bo1, f1, hR1, swP hP, swD hD, hS⟩ (lv_sub hl [2, 3, 4, 5, 6] rfl)
  · refine lv_aload_n hx hb dL_law_1066 rfl (lv_at hl 5 rfl) ?_
    refine lv_iconst (v := 0) hx hb dL_law_1067 (by decide) ?_
    refine va_lald (f := f1) hx hb hK.1 hP 0 4 rfl rfl (show vp_in (nI 0) 1 from vp_in_nI (by decide) (by decide)) dL_law_1068 ?_
    refine lv_iload hx hb dL_law_1069 (lv_at hl 0 rfl) ?_
    refine lv_i2l hx hb dL_law_1071 rfl ?_
    refine W.lcmp hx hb dL_law_1072 ?_
    refine lv_if_eq (tgt := 1078) hx hb dL_law_1073 (by decide) (fun _ => ?_) (fun h => absurd (lcE (hans hc0)) h)
    refine lv_goto (tgt := 1137) hx hb dL_law_1078 (by decide) ?_
    refine W.widen (k := cells + 3) (n := slots + 20) (by omega) (by omega) ?_
    exact hend H locs ls ⟨b1, n1, la1, L1, _, t1, pd1, bo1, f1, hR1, swP hP, swD hD, hS⟩ (lv_sub hl [2, 3, 4, 5, 6] rfl)
set_option maxHeartbeats 4000000 in
set_option maxRecDepth 100000 in
theorem lwO_treasury (hlt : l.stackTraces = false) (F : LF p s m c args G y A b0 N xs) (hk : 7 * k + 7 ≤ N) (hc : cells + 3 ≤ 601024) (hs : slots + 20 ≤ 7293034) (h0 : Rel b n L v t pd bo) (hP : va_P G vwCl (lwW y ad ab o b n la L v f) H) (hD : va_D A (lwW y ad ab o b n la L v f)) (hS : va_S A s.heap H locs) (hl : lv_has ls 7 (lvB b0 ab ad o k)) (hend : ∀ (H : Heap) (locs : List Loc) (ls : Array Slot), Inv G y ad ab o A s.heap H locs → lv_has ls 7 (lvB b0 ab ad o k) → W p l e room_1 s m args below meth c H locs (cells + 3) (slots + 20) Q (F0 m 1137 ls [])) : W p l e room_1 s m args below meth c H locs cells slots Q (F0 m 1025 ls []) := by
  have F0 := F
  obtain ⟨hx, hb, hml, hown, hts, hK, hZ, hX, hbl, hbA, hA, hN⟩ := F
  refine lv_aload_n hx hb dL_law_1025 rfl (lv_at hl 1 rfl) ?_
  refine lv_aload_n hx hb dL_law_1026 rfl (lv_at hl 0 rfl) ?_
  refine lv_iload hx hb dL_law_1027 (lv_at hl 4 rfl) ?_
  refine lv_iconst (v := 1) hx hb dL_law_1029 (by decide) ?_
  refine lv_iadd hx hb dL_law_1030 ?_
  refine ldX (j := 1) hx hb hX hbl hbA hS hN rfl (by omega) dL_law_1031 ?_
  refine lv_aload_n hx hb dL_law_1032 rfl (lv_at hl 3 rfl) ?_
  have hPj : va_P G vwCl (mdW y ad v ++ (oW y o f ++ bkW y ab b n la L)) H := hP
  have hDj : va_D A (mdW y ad v ++ (oW y o f ++ bkW y ab b n la L)) := hD
  have hFc : ∀ q, va_A (oW y o f ++ bkW y ab b n la L) H.size q → A q := freeR hDj hS hA
  have hPc : va_P G vwCl (oW y o f ++ bkW y ab b n la L) H := wR hPj
  have hDc : va_D (fun _ => True) (oW y o f ++ bkW y ab b n la L) := (wRD hDj).weaken (fun _ _ _ _ => trivial)
  refine caN (vx_runSW (As := [.ref (ab 13), .int (xs (7 * k + 1)), .ref o]) (rest := []) ⟨hx, hb, hml, hown, hts⟩ (c_L_treasury l hlt G y ab b n la L o f H.size t h0.1.2.2.2.2.1 h0.1.2.1 (xs (7 * k + 1)) ) (vx_cwSW 3 hts gL_law_L_treasury rfl rfl rfl (by decide +kernel) ⟨Nat.le_of_ble_eq_true rfl, Nat.le_of_ble_eq_true rfl⟩) ⟨xP_bl, fun U hU hW => ⟨rfl, by rw [hU], by rw [hU]; exact hPc, Kb.moved hW hK, hDc, by rw [hU]; exact Zs.moved hW.alike ((hZ.kept hS.2.1).narrow hFc)⟩⟩ rfl rfl hl.1 rfl (lv_room (Nat.le_of_ble_eq_true rfl)) dL_law_1033 ⟨by show cells + 1 ≤ 601024; omega, by show slots + 6 ≤ 7293034; omega⟩) hS hFc hFc (fun u H locs _ hP1 hD1 hk1 hS => ?_)
  obtain ⟨hP, hD⟩ := joinW hPj hDj hk1 hP1 hD1 hFc
  obtain ⟨e1, e2, e3⟩ := r_treasury (xs (7 * k + 1)) h0
  by_cases hX0 : (xMo t (xs (7 * k + 1))) = 0
  · rw [if_pos hX0] at hP hD
    exact lwT_treasury hlt F0 hk hc hs h0 e1 (fun _ => congrArg Int32.toInt64 (e2 hX0).1.symm) ((e2 hX0).2) hP hD hS hl hend
  · rw [if_neg hX0] at hP hD
    exact lwT_treasury hlt F0 hk hc hs h0 e1 (fun q => absurd q (e3 hX0).1) (e3 hX0).2 hP hD hS hl hend
set_option maxHeartbeats 4000000 in
set_option maxRecDepth 100000 in
theorem lwT_interest (hlt : l.stackTraces = false) (F : LF p s m c args G y A b0 N xs) (hk : 7 * k + 7 ≤ N) (hc : cells + 3 ≤ 601024) (hs : slots + 20 ≤ 7293034) (h0 : Rel b n L v t pd bo) {b1 : MS} {n1 : Nat} {la1 : Nat → Nat → Nat} {L1 : LNS} {t1 : Nat} {pd1 bo1 : Nat → Nat} {f1 : Nat → Int64} {cd : Int32} (hcd : (mInt v t (xs (7 * k + 1))).1 0 0 = cd) (hans : cd = 0 → f1 0 = (mInt v t (xs (7 * k + 1))).2.toInt64) (hR1 : Rel b1 n1 L1 (mInt v t (xs (7 * k + 1))).1 t1 pd1 bo1) (hP : va_P G vwCl (mdW y ad v ++ (oW y o f1 ++ bkW y ab b1 n1 la1 L1)) H) (hD : va_D A (mdW y ad v ++ (oW y o f1 ++ bkW y ab b1 n1 la1 L1))) (hS : va_S A s.heap H locs) (hl : lv_has ls 7 (lvB b0 ab ad o k)) (hend : ∀ (H : Heap) (locs : List Loc) (ls : Array Slot), Inv G y ad ab o A s.heap H locs → lv_has ls 7 (lvB b0 ab ad o k) → W p l e room_1 s m args below meth c H locs (cells + 3) (slots + 20) Q (F0 m 1137 ls [])) : W p l e room_1 s m args below meth c H locs (cells + 1) (slots + 6) Q (F0 m 1092 ls [.int cd]) := by
  obtain ⟨hx, hb, hml, hown, hts, hK, hZ, hX, hbl, hbA, hA, hN⟩ := F
  refine lv_istore (lv' := [(5, .int cd), (0, .ref b0), (1, .ref (ab 13)), (2, .ref (ad 0)), (3, .ref o), (4, .int (nI (7 * k)))]) hx hb dL_law_1092 hl (by decide) rfl (fun ls hl => ?_)
  refine lv_aload_n hx hb dL_law_1094 rfl (lv_at hl 3 rfl) ?_
  refine lv_aload_n hx hb dL_law_1095 rfl (lv_at hl 1 rfl) ?_
  refine lv_iload hx hb dL_law_1096 (lv_at hl 5 rfl) ?_
  refine lv_iconst (v := 1) hx hb dL_law_1098 (by decide) ?_
  refine lv_iadd hx hb dL_law_1099 ?_
  refine ldX (j := 1) hx hb hX hbl hbA hS hN rfl (by omega) dL_law_1100 ?_
  have hPs := swP hP
  have hDs := swD hD
  have hFc : ∀ q, va_A (mdW y ad v) H.size q → A q := freeR hDs hS hA
  have hPm : va_P G vwCl (mdW y ad v) H := wR hPs
  have hDm : va_D (fun _ => True) (mdW y ad v) := (wRD hDs).weaken (fun _ _ _ _ => trivial)
  refine caN (va_runV (As := [.int (xs (7 * k + 1))]) (rest := []) ⟨hx, hb, hml, hown, hts⟩ (c_X3_interest l G y ad v H.size (xs (7 * k + 1)) t h0.1.2.2.2.2.2.1 h0.1.2.1) (cwV 1 hts gL_law_X3_interest rfl rfl rfl (by decide +kernel) ⟨Nat.le_of_ble_eq_true rfl, Nat.le_of_ble_eq_true rfl⟩) ⟨mP_bl, va_recv hK.1 hPm (ci := 3) (q0 := 0) rfl rfl, fun U hU hW => ⟨rfl, by rw [hU], by rw [hU]; exact hPm, Kb.moved hW hK, hDm⟩⟩ rfl rfl hl.1 rfl (lv_room (Nat.le_of_ble_eq_true rfl)) dL_law_1101 ⟨by show (cells + 1) + 0 ≤ 601024; omega, by show (slots + 6) + 0 ≤ 7293034; omega⟩) hS hFc hFc (fun u H locs _ hP1 hD1 hk1 hS => ?_)
  obtain ⟨hP, hD⟩ := joinW hPs hDs hk1 hP1 hD1 hFc
  refine lv_istore (lv' := [(6, .int (mInt v t (xs (7 * k + 1))).2), (5, .int cd), (0, .ref b0), (1, .ref (ab 13)), (2, .ref (ad 0)), (3, .ref o), (4, .int (nI (7 * k)))]) hx hb dL_law_1104 hl (by decide) rfl (fun ls hl => ?_)
  refine lv_aload_n hx hb dL_law_1106 rfl (lv_at hl 4 rfl) ?_
  have hPm : va_P G vwCl (mdW y ad (mInt v t (xs (7 * k + 1))).1) H := wR hP
  refine caR (r := .int cd) (va_runV (As := []) (rest := []) ⟨hx, hb, hml, hown, hts⟩ (hcd ▸ c_X3_thrown l G y ad (mInt v t (xs (7 * k + 1))).1) (cwV 0 hts gL_law_X3_thrown rfl rfl rfl (by decide +kernel) ⟨Nat.le_of_ble_eq_true rfl, Nat.le_of_ble_eq_true rfl⟩) ⟨rP_bl, va_recv hK.1 hPm (ci := 3) (q0 := 0) rfl rfl, fun U hU hW => ⟨rfl, by rw [hU]; exact hPm, Kb.moved hW hK⟩⟩ rfl rfl hl.1 rfl (lv_room (Nat.le_of_ble_eq_true rfl)) dL_law_1107 ⟨by show cells + 1 + 0 + 0 ≤ 601024; omega, by show slots + 6 + 0 + 0 ≤ 7293034; omega⟩) ?_
  refine lv_iload hx hb dL_law_1110 (lv_at hl 1 rfl) ?_
  refine lv_icmp_eq (tgt := 1117) hx hb dL_law_1112 (by decide) (fun _ => ?_) (fun h => absurd rfl h)
  refine lv_iload hx hb dL_law_1117 (lv_at hl 1 rfl) ?_
  refine lv_if_ne (tgt := 1134) hx hb dL_law_1119 (by decide) (fun _ => ?_) (fun hc0 => ?_)
  · refine lv_goto (tgt := 1137) hx hb dL_law_1134 (by decide) ?_
    refine W.widen (k := cells + 3) (n := slots + 20) (by omega) (by omega) ?_
    exact hend H locs ls ⟨b1, n1, la1, L1, _, t1, pd1, bo1, f1, hR1, swP hP, swD hD, hS⟩ (lv_sub hl [2, 3, 4, 5, 6] rfl)
  · refine lv_aload_n hx hb dL_law_1122 rfl (lv_at hl 5 rfl) ?_
    refine lv_iconst (v := 0) hx hb dL_law_1123 (by decide) ?_
    refine va_lald (f := f1) hx hb hK.1 hP 0 4 rfl rfl (show vp_in (nI 0) 1 from vp_in_nI (by decide) (by decide)) dL_law_1124 ?_
    refine lv_iload hx hb dL_law_1125 (lv_at hl 0 rfl) ?_
    refine lv_i2l hx hb dL_law_1127 rfl ?_
    refine W.lcmp hx hb dL_law_1128 ?_
    refine lv_if_eq (tgt := 1134) hx hb dL_law_1129 (by decide) (fun _ => ?_) (fun h => absurd (lcE (hans hc0)) h)
    refine lv_goto (tgt := 1137) hx hb dL_law_1134 (by decide) ?_
    refine W.widen (k := cells + 3) (n := slots + 20) (by omega) (by omega) ?_
    exact hend H locs ls ⟨b1, n1, la1, L1, _, t1, pd1, bo1, f1, hR1, swP hP, swD hD, hS⟩ (lv_sub hl [2, 3, 4, 5, 6] rfl)
set_option maxHeartbeats 4000000 in
set_option maxRecDepth 100000 in
theorem lwO_interest (hlt : l.stackTraces = false) (F : LF p s m c args G y A b0 N xs) (hk : 7 * k + 7 ≤ N) (hc : cells + 3 ≤ 601024) (hs : slots + 20 ≤ 7293034) (h0 : Rel b n L v t pd bo) (hP : va_P G vwCl (lwW y ad ab o b n la L v f) H) (hD : va_D A (lwW y ad ab o b n la L v f)) (hS : va_S A s.heap H locs) (hl : lv_has ls 7 (lvB b0 ab ad o k)) (hend : ∀ (H : Heap) (locs : List Loc) (ls : Array Slot), Inv G y ad ab o A s.heap H locs → lv_has ls 7 (lvB b0 ab ad o k) → W p l e room_1 s m args below meth c H locs (cells + 3) (slots + 20) Q (F0 m 1137 ls [])) : W p l e room_1 s m args below meth c H locs cells slots Q (F0 m 1081 ls []) := by
  have F0 := F
  obtain ⟨hx, hb, hml, hown, hts, hK, hZ, hX, hbl, hbA, hA, hN⟩ := F
  refine lv_aload_n hx hb dL_law_1081 rfl (lv_at hl 1 rfl) ?_
  refine lv_aload_n hx hb dL_law_1082 rfl (lv_at hl 0 rfl) ?_
  refine lv_iload hx hb dL_law_1083 (lv_at hl 4 rfl) ?_
  refine lv_iconst (v := 1) hx hb dL_law_1085 (by decide) ?_
  refine lv_iadd hx hb dL_law_1086 ?_
  refine ldX (j := 1) hx hb hX hbl hbA hS hN rfl (by omega) dL_law_1087 ?_
  refine lv_aload_n hx hb dL_law_1088 rfl (lv_at hl 3 rfl) ?_
  have hPj : va_P G vwCl (mdW y ad v ++ (oW y o f ++ bkW y ab b n la L)) H := hP
  have hDj : va_D A (mdW y ad v ++ (oW y o f ++ bkW y ab b n la L)) := hD
  have hFc : ∀ q, va_A (oW y o f ++ bkW y ab b n la L) H.size q → A q := freeR hDj hS hA
  have hPc : va_P G vwCl (oW y o f ++ bkW y ab b n la L) H := wR hPj
  have hDc : va_D (fun _ => True) (oW y o f ++ bkW y ab b n la L) := (wRD hDj).weaken (fun _ _ _ _ => trivial)
  refine caN (vx_runSW (As := [.ref (ab 13), .int (xs (7 * k + 1)), .ref o]) (rest := []) ⟨hx, hb, hml, hown, hts⟩ (c_L_interest l hlt G y ab b n la L o f H.size t h0.1.2.2.2.2.1 h0.1.2.1 (xs (7 * k + 1)) ) (vx_cwSW 3 hts gL_law_L_interest rfl rfl rfl (by decide +kernel) ⟨Nat.le_of_ble_eq_true rfl, Nat.le_of_ble_eq_true rfl⟩) ⟨xP_bl, fun U hU hW => ⟨rfl, by rw [hU], by rw [hU]; exact hPc, Kb.moved hW hK, hDc, by rw [hU]; exact Zs.moved hW.alike ((hZ.kept hS.2.1).narrow hFc)⟩⟩ rfl rfl hl.1 rfl (lv_room (Nat.le_of_ble_eq_true rfl)) dL_law_1089 ⟨by show cells + 1 ≤ 601024; omega, by show slots + 6 ≤ 7293034; omega⟩) hS hFc hFc (fun u H locs _ hP1 hD1 hk1 hS => ?_)
  obtain ⟨hP, hD⟩ := joinW hPj hDj hk1 hP1 hD1 hFc
  obtain ⟨e1, e2, e3⟩ := r_interest (xs (7 * k + 1)) h0
  by_cases hX0 : (xMo t (xs (7 * k + 1))) = 0
  · rw [if_pos hX0] at hP hD
    exact lwT_interest hlt F0 hk hc hs h0 e1 (fun _ => congrArg Int32.toInt64 (e2 hX0).1.symm) ((e2 hX0).2) hP hD hS hl hend
  · rw [if_neg hX0] at hP hD
    exact lwT_interest hlt F0 hk hc hs h0 e1 (fun q => absurd q (e3 hX0).1) (e3 hX0).2 hP hD hS hl hend
set_option maxHeartbeats 4000000 in
set_option maxRecDepth 100000 in
theorem lwO_month (hlt : l.stackTraces = false) (F : LF p s m c args G y A b0 N xs) (hk : 7 * k + 7 ≤ N) (hc : cells + 3 ≤ 601024) (hs : slots + 20 ≤ 7293034) (h0 : Rel b n L v t pd bo) (hP : va_P G vwCl (lwW y ad ab o b n la L v f) H) (hD : va_D A (lwW y ad ab o b n la L v f)) (hS : va_S A s.heap H locs) (hl : lv_has ls 7 (lvB b0 ab ad o k)) (hend : ∀ (H : Heap) (locs : List Loc) (ls : Array Slot), Inv G y ad ab o A s.heap H locs → lv_has ls 7 (lvB b0 ab ad o k) → W p l e room_1 s m args below meth c H locs (cells + 3) (slots + 20) Q (F0 m 1137 ls [])) : W p l e room_1 s m args below meth c H locs cells slots Q (F0 m 558 ls []) := by
  obtain ⟨hx, hb, hml, hown, hts, hK, hZ, hX, hbl, hbA, hA, hN⟩ := F
  refine lv_aload_n hx hb dL_law_558 rfl (lv_at hl 1 rfl) ?_
  have hP : va_P G vwCl (mdW y ad v ++ (oW y o f ++ bkW y ab b n la L)) H := hP
  have hPb : va_P G vwCl (bkW y ab b n la L) H := wR (wR hP)
  refine caR (r := .int (b 13 4)) (va_runV (As := []) (rest := []) ⟨hx, hb, hml, hown, hts⟩ (c_X2_month l G y ab b n la L) (cwV 0 hts gL_law_X2_month rfl rfl rfl (by decide +kernel) ⟨Nat.le_of_ble_eq_true rfl, Nat.le_of_ble_eq_true rfl⟩) ⟨rP_bl, va_recv hK.1 hPb (ci := 2) (q0 := 0) rfl rfl, fun U hU hW => ⟨rfl, by rw [hU]; exact hPb, Kb.moved hW hK⟩⟩ rfl rfl hl.1 rfl (lv_room (Nat.le_of_ble_eq_true rfl)) dL_law_559 ⟨by show cells + 0 ≤ 601024; omega, by show slots + 0 ≤ 7293034; omega⟩) ?_
  refine lv_aload_n hx hb dL_law_562 rfl (lv_at hl 2 rfl) ?_
  have hPs := swP hP
  have hDs := swD hD
  have hFc : ∀ q, va_A (mdW y ad v) H.size q → A q := freeR hDs hS hA
  have hPm : va_P G vwCl (mdW y ad v) H := wR hPs
  have hDm : va_D (fun _ => True) (mdW y ad v) := (wRD hDs).weaken (fun _ _ _ _ => trivial)
  refine caN (va_runV (As := []) (rest := [.int (b 13 4)]) ⟨hx, hb, hml, hown, hts⟩ (c_X3_month l G y ad v H.size  ) (cwV 0 hts gL_law_X3_month rfl rfl rfl (by decide +kernel) ⟨Nat.le_of_ble_eq_true rfl, Nat.le_of_ble_eq_true rfl⟩) ⟨mP_bl, va_recv hK.1 hPm (ci := 3) (q0 := 0) rfl rfl, fun U hU hW => ⟨rfl, by rw [hU], by rw [hU]; exact hPm, Kb.moved hW hK, hDm⟩⟩ rfl rfl hl.1 rfl (lv_room (Nat.le_of_ble_eq_true rfl)) dL_law_563 ⟨by show cells + 0 ≤ 601024; omega, by show slots + 0 ≤ 7293034; omega⟩) hS hFc hFc (fun u H locs _ hP1 hD1 hk1 hS => ?_)
  obtain ⟨hP, hD⟩ := joinW hPs hDs hk1 hP1 hD1 hFc
  refine lv_icmp_eq (tgt := 1137) hx hb dL_law_566 (by decide) (fun _ => ?_) (fun h => absurd (h0.1.2.2.2.2.1.trans h0.1.2.2.2.2.2.1.symm) h)
  refine W.widen (k := cells + 3) (n := slots + 20) (by omega) (by omega) ?_
  exact hend H locs ls ⟨b, n, la, L, _, t, pd, bo, f, h0.mT, swP hP, swD hD, hS⟩ (lv_sub hl [0, 1, 2, 3, 4] rfl)
set_option maxHeartbeats 4000000 in
set_option maxRecDepth 100000 in
theorem lwO_loans (hlt : l.stackTraces = false) (F : LF p s m c args G y A b0 N xs) (hk : 7 * k + 7 ≤ N) (hc : cells + 3 ≤ 601024) (hs : slots + 20 ≤ 7293034) (h0 : Rel b n L v t pd bo) (hP : va_P G vwCl (lwW y ad ab o b n la L v f) H) (hD : va_D A (lwW y ad ab o b n la L v f)) (hS : va_S A s.heap H locs) (hl : lv_has ls 7 (lvB b0 ab ad o k)) (hend : ∀ (H : Heap) (locs : List Loc) (ls : Array Slot), Inv G y ad ab o A s.heap H locs → lv_has ls 7 (lvB b0 ab ad o k) → W p l e room_1 s m args below meth c H locs (cells + 3) (slots + 20) Q (F0 m 1137 ls [])) : W p l e room_1 s m args below meth c H locs cells slots Q (F0 m 571 ls []) := by
  obtain ⟨hx, hb, hml, hown, hts, hK, hZ, hX, hbl, hbA, hA, hN⟩ := F
  refine lv_aload_n hx hb dL_law_571 rfl (lv_at hl 1 rfl) ?_
  have hP : va_P G vwCl (mdW y ad v ++ (oW y o f ++ bkW y ab b n la L)) H := hP
  have hPb : va_P G vwCl (bkW y ab b n la L) H := wR (wR hP)
  refine caR (r := .int (b 13 6)) (va_runV (As := []) (rest := []) ⟨hx, hb, hml, hown, hts⟩ (c_X2_loans l G y ab b n la L) (cwV 0 hts gL_law_X2_loans rfl rfl rfl (by decide +kernel) ⟨Nat.le_of_ble_eq_true rfl, Nat.le_of_ble_eq_true rfl⟩) ⟨rP_bl, va_recv hK.1 hPb (ci := 2) (q0 := 0) rfl rfl, fun U hU hW => ⟨rfl, by rw [hU]; exact hPb, Kb.moved hW hK⟩⟩ rfl rfl hl.1 rfl (lv_room (Nat.le_of_ble_eq_true rfl)) dL_law_572 ⟨by show cells + 0 ≤ 601024; omega, by show slots + 0 ≤ 7293034; omega⟩) ?_
  refine lv_aload_n hx hb dL_law_575 rfl (lv_at hl 2 rfl) ?_
  have hPs := swP hP
  have hDs := swD hD
  have hFc : ∀ q, va_A (mdW y ad v) H.size q → A q := freeR hDs hS hA
  have hPm : va_P G vwCl (mdW y ad v) H := wR hPs
  have hDm : va_D (fun _ => True) (mdW y ad v) := (wRD hDs).weaken (fun _ _ _ _ => trivial)
  refine caN (va_runV (As := []) (rest := [.int (b 13 6)]) ⟨hx, hb, hml, hown, hts⟩ (c_X3_loans l G y ad v H.size  ) (cwV 0 hts gL_law_X3_loans rfl rfl rfl (by decide +kernel) ⟨Nat.le_of_ble_eq_true rfl, Nat.le_of_ble_eq_true rfl⟩) ⟨mP_bl, va_recv hK.1 hPm (ci := 3) (q0 := 0) rfl rfl, fun U hU hW => ⟨rfl, by rw [hU], by rw [hU]; exact hPm, Kb.moved hW hK, hDm⟩⟩ rfl rfl hl.1 rfl (lv_room (Nat.le_of_ble_eq_true rfl)) dL_law_576 ⟨by show cells + 0 ≤ 601024; omega, by show slots + 0 ≤ 7293034; omega⟩) hS hFc hFc (fun u H locs _ hP1 hD1 hk1 hS => ?_)
  obtain ⟨hP, hD⟩ := joinW hPs hDs hk1 hP1 hD1 hFc
  refine lv_icmp_eq (tgt := 1137) hx hb dL_law_579 (by decide) (fun _ => ?_) (fun h => absurd (h0.1.2.2.1.trans h0.1.2.2.2.1.symm) h)
  refine W.widen (k := cells + 3) (n := slots + 20) (by omega) (by omega) ?_
  exact hend H locs ls ⟨b, n, la, L, _, t, pd, bo, f, h0.mT, swP hP, swD hD, hS⟩ (lv_sub hl [0, 1, 2, 3, 4] rfl)
set_option maxHeartbeats 4000000 in
set_option maxRecDepth 100000 in
theorem lwO_replicaRate (hlt : l.stackTraces = false) (F : LF p s m c args G y A b0 N xs) (hk : 7 * k + 7 ≤ N) (hc : cells + 3 ≤ 601024) (hs : slots + 20 ≤ 7293034) (h0 : Rel b n L v t pd bo) (hP : va_P G vwCl (lwW y ad ab o b n la L v f) H) (hD : va_D A (lwW y ad ab o b n la L v f)) (hS : va_S A s.heap H locs) (hl : lv_has ls 7 (lvB b0 ab ad o k)) (hend : ∀ (H : Heap) (locs : List Loc) (ls : Array Slot), Inv G y ad ab o A s.heap H locs → lv_has ls 7 (lvB b0 ab ad o k) → W p l e room_1 s m args below meth c H locs (cells + 3) (slots + 20) Q (F0 m 1137 ls [])) : W p l e room_1 s m args below meth c H locs cells slots Q (F0 m 876 ls []) := by
  obtain ⟨hx, hb, hml, hown, hts, hK, hZ, hX, hbl, hbA, hA, hN⟩ := F
  refine lv_aload_n hx hb dL_law_876 rfl (lv_at hl 1 rfl) ?_
  have hP : va_P G vwCl (mdW y ad v ++ (oW y o f ++ bkW y ab b n la L)) H := hP
  have hPb : va_P G vwCl (bkW y ab b n la L) H := wR (wR hP)
  refine caR (r := .int (bAvg b)) (va_runV (As := []) (rest := []) ⟨hx, hb, hml, hown, hts⟩ (c_X2_replicaRate l G y ab b n la L) (cwV 0 hts gL_law_X2_replicaRate rfl rfl rfl (by decide +kernel) ⟨Nat.le_of_ble_eq_true rfl, Nat.le_of_ble_eq_true rfl⟩) ⟨rP_bl, va_recv hK.1 hPb (ci := 2) (q0 := 0) rfl rfl, fun U hU hW => ⟨rfl, by rw [hU]; exact hPb, Kb.moved hW hK⟩⟩ rfl rfl hl.1 rfl (lv_room (Nat.le_of_ble_eq_true rfl)) dL_law_877 ⟨by show cells + 0 ≤ 601024; omega, by show slots + 0 ≤ 7293034; omega⟩) ?_
  refine lv_aload_n hx hb dL_law_880 rfl (lv_at hl 2 rfl) ?_
  have hPs := swP hP
  have hDs := swD hD
  have hFc : ∀ q, va_A (mdW y ad v) H.size q → A q := freeR hDs hS hA
  have hPm : va_P G vwCl (mdW y ad v) H := wR hPs
  have hDm : va_D (fun _ => True) (mdW y ad v) := (wRD hDs).weaken (fun _ _ _ _ => trivial)
  refine caN (va_runV (As := []) (rest := [.int (bAvg b)]) ⟨hx, hb, hml, hown, hts⟩ (c_X3_replicaRate l G y ad v H.size  ) (cwV 0 hts gL_law_X3_replicaRate rfl rfl rfl (by decide +kernel) ⟨Nat.le_of_ble_eq_true rfl, Nat.le_of_ble_eq_true rfl⟩) ⟨mP_bl, va_recv hK.1 hPm (ci := 3) (q0 := 0) rfl rfl, fun U hU hW => ⟨rfl, by rw [hU], by rw [hU]; exact hPm, Kb.moved hW hK, hDm⟩⟩ rfl rfl hl.1 rfl (lv_room (Nat.le_of_ble_eq_true rfl)) dL_law_881 ⟨by show cells + 0 ≤ 601024; omega, by show slots + 0 ≤ 7293034; omega⟩) hS hFc hFc (fun u H locs _ hP1 hD1 hk1 hS => ?_)
  obtain ⟨hP, hD⟩ := joinW hPs hDs hk1 hP1 hD1 hFc
  refine lv_icmp_eq (tgt := 1137) hx hb dL_law_884 (by decide) (fun _ => ?_) (fun h => absurd (r_rate h0) h)
  refine W.widen (k := cells + 3) (n := slots + 20) (by omega) (by omega) ?_
  exact hend H locs ls ⟨b, n, la, L, _, t, pd, bo, f, h0.mT, swP hP, swD hD, hS⟩ (lv_sub hl [0, 1, 2, 3, 4] rfl)
end LB
