/-! ===== the law's loop (mine) ===== -/
theorem nI_m7 {n : Nat} (h : n < 2 ^ 30) : (nI n - 7).toInt = (n : Int) - 7 := by
  have h1 := Int32.toInt_sub (nI n) 7
  rw [nI_int (by omega), show (7 : Int32).toInt = 7 from rfl] at h1
  rw [h1]
  exact Int.bmod_eq_of_le (by omega) (by omega)
section LL
variable {p : Program} {l : Launch} {e : Env} {s : State} {m : MethodId} {args : Array Value} {below : List Frame} {meth : Method} {c : Code} {Q : State → Prop}
variable {G : va_G} {y : Nat → ClassId} {A : Nat → Prop} {ad ab : Nat → Nat} {o b0 N : Nat} {xs : Nat → Int32}
set_option maxHeartbeats 4000000 in
set_option maxRecDepth 100000 in
theorem lw_iter {H : Heap} {locs : List Loc} {cells slots k : Nat} {ls : Array Slot} (hlt : l.stackTraces = false) (F : LF p s m c args G y A b0 N xs) (hk : 7 * k + 7 ≤ N) (hc : cells + 3 ≤ 601024) (hs : slots + 20 ≤ 7293034) (hI : Inv G y ad ab o A s.heap H locs) (hl : lv_has ls 7 (lvB b0 ab ad o k))
    (hend : ∀ (H : Heap) (locs : List Loc) (ls : Array Slot), Inv G y ad ab o A s.heap H locs → lv_has ls 7 (lvB b0 ab ad o k) → W p l e room_1 s m args below meth c H locs (cells + 3) (slots + 20) Q (F0 m 1137 ls [])) : W p l e room_1 s m args below meth c H locs cells slots Q (F0 m 33 ls []) := by
  have F0 := F
  obtain ⟨hx, hb, hml, hown, hts, hK, hZ, hX, hbl, hbA, hA, hN⟩ := F
  obtain ⟨b, n, la, L, v, t, pd, bo, f, h0, hP, hD, hS⟩ := hI
  refine lv_aload_n hx hb dL_law_33 rfl (lv_at hl 0 rfl) ?_
  refine lv_iload hx hb dL_law_34 (lv_at hl 4 rfl) ?_
  refine ldX (j := 0) (k := k) hx hb hX hbl hbA hS hN (by rw [nI_add]; rfl) (by omega) dL_law_36 ?_
  refine lv_bipush (v := 31) hx hb dL_law_37 (by decide) ?_
  refine lv_iand hx hb dL_law_39 ?_
  generalize xs (7 * k + 0) &&& 31 = w
  by_cases hw : w.toInt < 0 ∨ 17 < w.toInt
  · refine lv_tableOut (tgt := 1137) hx hb dL_law_40 hw (by decide) ?_
    refine W.widen (k := cells + 3) (n := slots + 20) (by omega) (by omega) ?_
    exact hend H locs ls ⟨b, n, la, L, v, t, pd, bo, f, h0, hP, hD, hS⟩ hl
  have h1 : ¬ w.toInt < 0 := fun q => hw (Or.inl q)
  have h2 : ¬ 17 < w.toInt := fun q => hw (Or.inr q)
  have hcs : w.toInt = 0 ∨ w.toInt = 1 ∨ w.toInt = 2 ∨ w.toInt = 3 ∨ w.toInt = 4 ∨ w.toInt = 5 ∨ w.toInt = 6 ∨ w.toInt = 7 ∨ w.toInt = 8 ∨ w.toInt = 9 ∨ w.toInt = 10 ∨ w.toInt = 11 ∨ w.toInt = 12 ∨ w.toInt = 13 ∨ w.toInt = 14 ∨ w.toInt = 15 ∨ w.toInt = 16 ∨ w.toInt = 17 := by omega
  rcases hcs with h | h | h | h | h | h | h | h | h | h | h | h | h | h | h | h | h | h
  · exact lv_tableIn (off := 88) (tgt := 128) hx hb dL_law_40 h1 h2 (by rw [h]; rfl) (by decide) (lwO_setCurve hlt F0 hk hc hs h0 hP hD hS hl hend)
  · exact lv_tableIn (off := 156) (tgt := 196) hx hb dL_law_40 h1 h2 (by rw [h]; rfl) (by decide) (lwO_setRates hlt F0 hk hc hs h0 hP hD hS hl hend)
  · exact lv_tableIn (off := 216) (tgt := 256) hx hb dL_law_40 h1 h2 (by rw [h]; rfl) (by decide) (lwO_lend hlt F0 hk hc hs h0 hP hD hS hl hend)
  · exact lv_tableIn (off := 350) (tgt := 390) hx hb dL_law_40 h1 h2 (by rw [h]; rfl) (by decide) (lwO_repay hlt F0 hk hc hs h0 hP hD hS hl hend)
  · exact lv_tableIn (off := 406) (tgt := 446) hx hb dL_law_40 h1 h2 (by rw [h]; rfl) (by decide) (lwO_deposit hlt F0 hk hc hs h0 hP hD hS hl hend)
  · exact lv_tableIn (off := 474) (tgt := 514) hx hb dL_law_40 h1 h2 (by rw [h]; rfl) (by decide) (lwO_closeMonth hlt F0 hk hc hs h0 hP hD hS hl hend)
  · exact lv_tableIn (off := 518) (tgt := 558) hx hb dL_law_40 h1 h2 (by rw [h]; rfl) (by decide) (lwO_month hlt F0 hk hc hs h0 hP hD hS hl hend)
  · exact lv_tableIn (off := 531) (tgt := 571) hx hb dL_law_40 h1 h2 (by rw [h]; rfl) (by decide) (lwO_loans hlt F0 hk hc hs h0 hP hD hS hl hend)
  · exact lv_tableIn (off := 544) (tgt := 584) hx hb dL_law_40 h1 h2 (by rw [h]; rfl) (by decide) (lwO_left hlt F0 hk hc hs h0 hP hD hS hl hend)
  · exact lv_tableIn (off := 600) (tgt := 640) hx hb dL_law_40 h1 h2 (by rw [h]; rfl) (by decide) (lwO_bears hlt F0 hk hc hs h0 hP hD hS hl hend)
  · exact lv_tableIn (off := 668) (tgt := 708) hx hb dL_law_40 h1 h2 (by rw [h]; rfl) (by decide) (lwO_due hlt F0 hk hc hs h0 hP hD hS hl hend)
  · exact lv_tableIn (off := 724) (tgt := 764) hx hb dL_law_40 h1 h2 (by rw [h]; rfl) (by decide) (lwO_balance hlt F0 hk hc hs h0 hP hD hS hl hend)
  · exact lv_tableIn (off := 780) (tgt := 820) hx hb dL_law_40 h1 h2 (by rw [h]; rfl) (by decide) (lwO_tranche hlt F0 hk hc hs h0 hP hD hS hl hend)
  · exact lv_tableIn (off := 836) (tgt := 876) hx hb dL_law_40 h1 h2 (by rw [h]; rfl) (by decide) (lwO_replicaRate hlt F0 hk hc hs h0 hP hD hS hl hend)
  · exact lv_tableIn (off := 849) (tgt := 889) hx hb dL_law_40 h1 h2 (by rw [h]; rfl) (by decide) (lwO_margin hlt F0 hk hc hs h0 hP hD hS hl hend)
  · exact lv_tableIn (off := 917) (tgt := 957) hx hb dL_law_40 h1 h2 (by rw [h]; rfl) (by decide) (lwO_byProduct hlt F0 hk hc hs h0 hP hD hS hl hend)
  · exact lv_tableIn (off := 985) (tgt := 1025) hx hb dL_law_40 h1 h2 (by rw [h]; rfl) (by decide) (lwO_treasury hlt F0 hk hc hs h0 hP hD hS hl hend)
  · exact lv_tableIn (off := 1041) (tgt := 1081) hx hb dL_law_40 h1 h2 (by rw [h]; rfl) (by decide) (lwO_interest hlt F0 hk hc hs h0 hP hD hS hl hend)
set_option maxHeartbeats 4000000 in
set_option maxRecDepth 100000 in
theorem lw_loop (hlt : l.stackTraces = false) (F : LF p s m c args G y A b0 N xs)
    (hdone : ∀ (H : Heap) (locs : List Loc) (ls : Array Slot) (cells slots : Nat), cells ≤ 601024 → slots ≤ 7293034 → va_S A s.heap H locs → W p l e room_1 s m args below meth c H locs cells slots Q (F0 m 1143 ls [])) :
    ∀ (j k cells slots : Nat), k + j ≤ 600 → N < 7 * (k + j) + 7 → cells + 3 * j ≤ 601024 → slots + 20 * j ≤ 7293034 → ∀ (H : Heap) (locs : List Loc) (ls : Array Slot), Inv G y ad ab o A s.heap H locs → lv_has ls 7 (lvB b0 ab ad o k) → W p l e room_1 s m args below meth c H locs cells slots Q (F0 m 23 ls []) := by
  have F9 := F
  obtain ⟨hx, hb, hml, hown, hts, hK, hZ, hX, hbl, hbA, hA, hN⟩ := F
  intro j
  induction j with
  | zero =>
    intro k cells slots hkj h1 hc hs H locs ls hI hl
    obtain ⟨b, n, la, L, v, t, pd, bo, f, h0, hP, hD, hS⟩ := hI
    refine lv_iload hx hb dL_law_23 (lv_at hl 4 rfl) ?_
    refine lv_aload_n hx hb dL_law_25 rfl (lv_at hl 0 rfl) ?_
    refine va_slen hx hb hX hbl hbA hS dL_law_26 ?_
    refine lv_bipush (v := 7) hx hb dL_law_27 (by decide) ?_
    refine lv_isub hx hb dL_law_29 ?_
    refine lv_icmp_gt (tgt := 1143) hx hb dL_law_30 (by decide) (fun _ => hdone H locs ls cells slots (by omega) (by omega) hS) (fun h => absurd ?_ h)
    rw [Int32.lt_iff_toInt_lt, nI_int (by omega)]
    have := nI_m7 (n := N) (by omega)
    rw [show (Int32.ofNat N - 7).toInt = (N : Int) - 7 from this]
    omega
  | succ j ih =>
    intro k cells slots hkj h1 hc hs H locs ls hI hl
    have hI9 := hI
    obtain ⟨b, n, la, L, v, t, pd, bo, f, h0, hP, hD, hS⟩ := hI
    refine lv_iload hx hb dL_law_23 (lv_at hl 4 rfl) ?_
    refine lv_aload_n hx hb dL_law_25 rfl (lv_at hl 0 rfl) ?_
    refine va_slen hx hb hX hbl hbA hS dL_law_26 ?_
    refine lv_bipush (v := 7) hx hb dL_law_27 (by decide) ?_
    refine lv_isub hx hb dL_law_29 ?_
    refine lv_icmp_gt (tgt := 1143) hx hb dL_law_30 (by decide) (fun _ => hdone H locs ls cells slots (by omega) (by omega) hS) (fun h => ?_)
    have hk7 : 7 * k + 7 ≤ N := by
      refine Nat.not_lt.mp (fun q => h ?_)
      rw [Int32.lt_iff_toInt_lt, nI_int (by omega)]
      rw [show (Int32.ofNat N - 7).toInt = (N : Int) - 7 from nI_m7 (n := N) (by omega)]
      omega
    refine lw_iter hlt F9 hk7 (by omega) (by omega) hI9 hl (fun H locs ls hI hl => ?_)
    refine lv_iinc (v := nI (7 * (k + 1))) (lv' := [(4, .int (nI (7 * (k + 1)))), (0, .ref b0), (1, .ref (ab 13)), (2, .ref (ad 0)), (3, .ref o)]) hx hb dL_law_1137 hl (k := 4) rfl (nI_add (7 * k) 7) (by decide) rfl (fun ls hl => ?_)
    refine lv_goto (tgt := 23) hx hb dL_law_1140 (by decide) ?_
    exact ih (k + 1) (cells + 3) (slots + 20) (by omega) (by omega) (by omega) (by omega) H locs ls hI (lv_sub hl [1, 2, 3, 4, 0] rfl)
end LL
theorem rel0 (L : LNS) : Rel b00 0 L m00 0 (fun _ => 0) (fun _ => 0) := by
  refine ⟨⟨by omega, by omega, rfl, rfl, rfl, rfl, fun k hk => rfl, rfl, rfl, rfl, ⟨by decide, by decide⟩, fun k hk => ⟨rfl, by show 0 ≤ (0 : Int32).toInt; decide, by show (0 : Int32).toInt ≤ 10000000; decide⟩, fun k hk => ⟨rfl, rfl, by show 0 ≤ (0 : Int32).toInt; decide, by show (0 : Int32).toInt ≤ 5000000; decide⟩⟩, ⟨fun mo q h _ => absurd h (Nat.not_lt_zero _), fun mo h => absurd h (Nat.not_lt_zero _), fun k _ _ => ⟨rfl, rfl⟩⟩, fun i h => absurd h (Nat.not_lt_zero _), fun k _ _ => rfl⟩
