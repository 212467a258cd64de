/-! ===== the law's own calls of the book: a code, and what was answered laid out (printed by a program of mine) ===== -/
def lC (k1 k2 k3 : Int32) (X : Nat) : Int32 := if X = 0 then 0 else if X = 1 then k1 else if X = 2 then k2 else k3
def oW (y : Nat → ClassId) (o : Nat) (f : Nat → Int64) : va_W := [(o, .inl (y 4, 1, .inr (.inl f)))]
def oU (f : Nat → Int64) (x : Int32) : Nat → Int64 := vp_updL f 0 x.toInt64
theorem oU_0 {f : Nat → Int64} {x : Int32} : oU f x 0 = x.toInt64 := rfl
section WR
variable {p : Program} {l : Launch} {e : Env} {R : Room} {s : State} {m : MethodId} {args : Array Value} {below : List Frame} {meth : Method} {c : Code} {H : Heap} {locs : List Loc} {cells slots : Nat} {Q : State → Prop}
variable {cc : ByteArray} {pc : Nat} {ls : Array Slot} {rest st0 : List Value} {G : va_G} {y : Nat → ClassId} {A A0 A1 : Nat → Prop} {H0 : Heap} {a : Nat → Nat} {mc ms : Nat} {free : Addr → Prop} {ag : Array Value}
theorem caXN {S : Type} {rv : S → Option Value} {post : S → Prop} {ws' : S → va_W} {pe : String → Prop} {wx : va_W} (hr : vx_Run p l e R s m args below meth c H locs cells slots mc ms (F0 m pc ls st0) rest (mQ G rv post ws' A1 ag) (xX G pe wx A1) free) (hS : va_S A0 H0 H locs) (hA : ∀ q, A1 q → A0 q) (hf : ∀ q, free q → A0 q)
    (kx : ∀ (E : String) (ce : Cell) (q9 : Addr) (H1 : Heap) (locs1 : List Loc), pe E → va_P G vwCl wx H1 → va_D A1 wx → (∀ q : Nat, q < H.size → ¬ A1 q → H1[q]? = H[q]?) → va_S A0 H0 H1 locs1 → H1[q9]? = some ce → ce.vm = .none → s.vm.findClass E = some ce.cls → vx_W p l e R s m args below meth c H1 locs1 (cells + mc) (slots + ms) Q (F0 m pc ls rest) q9)
    (kk : ∀ (u : S) (H1 : Heap) (locs1 : List Loc), post u → va_P G vwCl (ws' u) H1 → va_D A1 (ws' u) → (∀ q : Nat, q < H.size → ¬ A1 q → H1[q]? = H[q]?) → va_S A0 H0 H1 locs1 → W p l e R s m args below meth c H1 locs1 (cells + mc) (slots + ms) Q (F0 m (pc + 3) ls ((rv u).toList ++ rest))) : W p l e R s m args below meth c H locs cells slots Q (F0 m pc ls st0) := by
  intro T hT X
  rcases hr T hT X with ⟨v, st₀, t, T', L, h0, X', hL, e1, e2, ⟨⟨u, hv, hp, hb, hd⟩, hF⟩, st⟩ | ⟨q, st₀, t, T', L, E, ce, h0, X', hL, e1, e2, ⟨u, -, ⟨hp, hb, hd⟩, hF⟩, hce, hcv, hcl, st⟩
  · cases hv
    obtain ⟨k1, k2, k3⟩ := vx_keep h0 e1 hS (fun q _ h => hA q h) hf hL hF
    obtain ⟨t2, a1, b1⟩ := kk u T'.heap (locs ++ L) hp (by rw [e1]; exact hb) hd k2 k3 T' rfl X'
    exact ⟨t2, st t2 a1, b1⟩
  · obtain ⟨k1, k2, k3⟩ := vx_keep h0 e1 hS (fun q _ h => hA q h) hf hL hF
    obtain ⟨t2, a1, b1⟩ := kx E ce q T'.heap (locs ++ L) hp (by rw [e1]; exact hb) hd k2 k3 (by rw [e1]; exact hce) hcv hcl T' rfl X'
    exact ⟨t2, st.trans a1, b1⟩
end WR
theorem wR {G : va_G} {cl : List vw_C} {w1 w2 : va_W} {H : Heap} (h : va_P G cl (w1 ++ w2) H) : va_P G cl w2 H := fun k q hk => h (w1.length + k) q (by rw [List.getElem?_append_right (Nat.le_add_right _ _), Nat.add_sub_cancel_left]; exact hk)
theorem wRD {A : Nat → Prop} {w1 w2 : va_W} (h : va_D A (w1 ++ w2)) : va_D A w2 := by
  have hr : ∀ (k : Nat) (q : Nat × va_E), w2[k]? = some q → (w1 ++ w2)[w1.length + k]? = some q := fun k q hk => by rw [List.getElem?_append_right (Nat.le_add_right _ _), Nat.add_sub_cancel_left]; exact hk
  exact ⟨fun i j x z hi hj e => by have := h.1 _ _ x z (hr i x hi) (hr j z hj) e; omega, fun k q hk => h.2 _ q (hr k q hk)⟩
theorem rgBE {a : Int32} : (if a = 0 then 1 else 0 : Nat) = 0 ∨ (if a = 0 then 1 else 0 : Nat) = 1 := by split <;> simp
set_option maxHeartbeats 4000000 in
set_option maxRecDepth 100000 in
theorem rg_setCurve (n t : Nat) (b : MS) (L : LNS) (pd : Nat → Nat) (x r : Int32) : (xSetCurve x r) = 0 ∨ (xSetCurve x r) = 1 ∨ (xSetCurve x r) = 2 := by
  unfold xSetCurve
  repeat (first | (left; rfl) | (right; rfl) | (right; left; rfl) | (right; right; rfl) | (right; right; left; rfl) | (right; right; right; rfl) | split)
set_option maxHeartbeats 4000000 in
set_option maxRecDepth 100000 in
theorem c_L_setCurve (l : Launch) (hlt : l.stackTraces = false) (G : va_G) (y : Nat → ClassId) (a : Nat → Nat) (b : MS) (n : Nat) (la : Nat → Nat → Nat) (L : LNS) (o : Nat) (f : Nat → Int64) (sz : Nat) (x r : Int32) : Met l yL_setCurve wsL_setCurve ({ frames := 7, cells := 1, slots := 6, locals := 105 }) (xP G y [.ref (a 13), .int x, .int r, .ref o] (oW y o f ++ bkW y a b n la L) sz) (mQ G (fun _ : Unit => some (.int (lC 1 2 0 (xSetCurve x r)))) (fun _ => True) (fun _ => if (xSetCurve x r) = 0 then (oW y o (oU f (b 0 (cn x - 1))) ++ bkW y a (u2 b 0 (cn x - 1) r) n la L) else (oW y o f ++ bkW y a b n la L)) (va_A (oW y o f ++ bkW y a b n la L) sz)) 1 6 (va_A (oW y o f ++ bkW y a b n la L) sz) := by
  refine va_MetW (cc := cL_setCurve) (maxL := 5) (ret := (some .int)) (by decide) rfl ?_
  intro p e s m args below meth c s₁ B hml hv
  obtain ⟨rfl, hsz, hP, hK, hD0, hZ⟩ := hv
  have hx := B.exec
  have hb := B.bytes
  have hr := B.returns
  have hts := atoms_spec (ws := wsL_setCurve) B.pre
  have hown : s.vm.findClass RL = some m.cls := findClass_of_methodNamed B.named
  have htab := vx_table (x := yL_setCurve) B (hts _ (List.mem_cons_self))
  subst hsz
  have hD := hD0.self (sz := s.heap.size)
  generalize hAe : va_A (oW y o f ++ bkW y a b n la L) s.heap.size = A at hD hZ ⊢
  have hA : ∀ q : Nat, s.heap.size ≤ q → A q := fun q h => by rw [← hAe]; exact Or.inr h
  have hS : va_S A s.heap s.heap [] := va_S.rf
  have hP : va_P G vwCl (oW y o f ++ bkW y a b n la L) s.heap := hP
  have hl := lv_entry ([.ref (a 13), .int x, .int r, .ref o]) (n := 5) (Nat.le_of_ble_eq_true rfl)
  rw [lg_entry_eq]
  generalize (lg_sl ([.ref (a 13), .int x, .int r, .ref o]) ++ List.replicate (5 - (lg_sl ([.ref (a 13), .int x, .int r, .ref o])).length) Slot.unset).toArray = ls at hl ⊢
  have hl : lv_has ls 5 [(0, .ref (a 13)), (1, .int x), (2, .int r), (3, .ref o)] := hl
  refine lv_aload_n hx hb dL_setCurve_0 rfl (lv_at hl 3 rfl) ?_
  refine lv_iconst (v := 0) hx hb dL_setCurve_1 (by decide) ?_
  refine lv_aload_n hx hb dL_setCurve_2 rfl (lv_at hl 0 rfl) ?_
  refine lv_iload_n hx hb dL_setCurve_3 rfl (lv_at hl 1 rfl) ?_
  refine lv_iload_n hx hb dL_setCurve_4 rfl (lv_at hl 2 rfl) ?_
  have hPj := hP
  have hDj := hD
  have hFc : ∀ q, va_A (bkW y a b n la L) s.heap.size q → A q := freeR hD hS hA
  have hPc : va_P G vwCl (bkW y a b n la L) s.heap := wR hP
  have hDc : va_D (fun _ => True) (bkW y a b n la L) := wRD hD0
  refine caXN (vx_runV (As := [.int x, .int r]) (rest := [.int 0, .ref o]) ⟨hx, hb, hml, hown, hts⟩ (c_X2_setCurve l hlt G y a b n la L s.heap.size  x r ) (cwV 2 hts gL_setCurve_X2_setCurve rfl rfl rfl (by decide +kernel) ⟨Nat.le_of_ble_eq_true rfl, Nat.le_of_ble_eq_true rfl⟩) ⟨xP_bl, va_recv hK.1 hPc (ci := 2) (q0 := 0) rfl rfl, fun U hU hW => ⟨rfl, by rw [hU], by rw [hU]; exact hPc, Kb.moved hW hK, hDc, by rw [hU]; exact Zs.moved hW.alike (hZ.narrow hFc)⟩⟩ rfl rfl hl.1 rfl (lv_room (Nat.le_of_ble_eq_true rfl)) dL_setCurve_5 ⟨Nat.le_of_ble_eq_true rfl, Nat.le_of_ble_eq_true rfl⟩) hS hFc hFc (fun E ce q9 H locs hE hP1 hD1 hk1 hS hce hcv hcl => ?_) (fun u H locs hX hP1 hD1 hk1 hS => ?_)
  · obtain ⟨rfl, hne⟩ := hE
    obtain ⟨hP, hD⟩ := joinW hPj hDj hk1 hP1 hD1 hFc
    rcases rg_setCurve n 0 b L (fun _ => 0) x r with h9 | h9 | h9 
    · exact absurd h9 hne
    · rw [show exN (xSetCurve x r) = "java/lang/IndexOutOfBoundsException" by rw [h9]; rfl] at hcl
      refine vx_catch (E := "java/lang/IndexOutOfBoundsException") (name := "java/lang/IndexOutOfBoundsException") hown [] ⟨0, 10, 13, 13⟩ [⟨0, 10, 17, 15⟩] (by rw [htab]; rfl) (fun z hz => nomatch hz) (by decide) (by decide) (hts (.classLink RL 13 "java/lang/IndexOutOfBoundsException") (by decide +kernel)) (va_Nw.use rfl (hK.2.2.1 ("java/lang/IndexOutOfBoundsException", "java/lang/IndexOutOfBoundsException") (by decide +kernel))) hce hcv hcl ?_
      refine lv_astore (lv' := [(4, .ref q9), (0, .ref (a 13)), (1, .int x), (2, .int r), (3, .ref o)]) hx hb dL_setCurve_13 hl (by decide) rfl (fun ls hl => ?_)
      refine lv_iconst (v := 1) hx hb dL_setCurve_15 (by decide) ?_
      exact W.iret (v := 1) hx hb hr (fun t ht hW => ⟨⟨(), by rw [h9]; rfl, trivial, by rw [if_neg hne, ht]; exact hP, by rw [if_neg hne]; exact hD⟩, hS.F ht⟩) hS.2.2 dL_setCurve_16
    · rw [show exN (xSetCurve x r) = "java/lang/IllegalArgumentException" by rw [h9]; rfl] at hcl
      refine vx_catch (E := "java/lang/IllegalArgumentException") (name := "java/lang/IllegalArgumentException") hown [⟨0, 10, 13, 13⟩] ⟨0, 10, 17, 15⟩ [] (by rw [htab]; rfl) (fun z hz => by
        have hz2 : z = ⟨0, 10, 13, 13⟩ := by simpa using hz
        subst hz2
        exact Or.inr ⟨by decide, "java/lang/IndexOutOfBoundsException", hts (.classLink RL 13 "java/lang/IndexOutOfBoundsException") (by decide +kernel), hK.2.2.2.2.1 ("java/lang/IllegalArgumentException", "java/lang/IndexOutOfBoundsException") (by decide +kernel)⟩) (by decide) (by decide) (hts (.classLink RL 15 "java/lang/IllegalArgumentException") (by decide +kernel)) (va_Nw.use rfl (hK.2.2.1 ("java/lang/IllegalArgumentException", "java/lang/IllegalArgumentException") (by decide +kernel))) hce hcv hcl ?_
      refine lv_astore (lv' := [(4, .ref q9), (0, .ref (a 13)), (1, .int x), (2, .int r), (3, .ref o)]) hx hb dL_setCurve_17 hl (by decide) rfl (fun ls hl => ?_)
      refine lv_iconst (v := 2) hx hb dL_setCurve_19 (by decide) ?_
      exact W.iret (v := 2) hx hb hr (fun t ht hW => ⟨⟨(), by rw [h9]; rfl, trivial, by rw [if_neg hne, ht]; exact hP, by rw [if_neg hne]; exact hD⟩, hS.F ht⟩) hS.2.2 dL_setCurve_20
  · have hX : (xSetCurve x r) = 0 := hX
    obtain ⟨hP, hD⟩ := joinW hPj hDj hk1 hP1 hD1 hFc
    refine lv_i2l (x := b 0 (cn x - 1)) hx hb dL_setCurve_8 rfl ?_
    refine va_last (f := f) hx hb hK.1 hP hD hS 0 4 rfl rfl (show vp_in (nI 0) 1 from vp_in_nI (by decide) (by decide)) dL_setCurve_9 (fun H locs hP hD hS => ?_)
    refine lv_goto (tgt := 21) hx hb dL_setCurve_10 (by decide) ?_
    refine lv_iconst (v := 0) hx hb dL_setCurve_21 (by decide) ?_
    exact W.iret (v := 0) hx hb hr (fun t ht hW => ⟨⟨(), by rw [hX]; rfl, trivial, by rw [if_pos hX, ht]; exact hP, by rw [if_pos hX]; exact hD⟩, hS.F ht⟩) hS.2.2 dL_setCurve_22
set_option maxHeartbeats 4000000 in
set_option maxRecDepth 100000 in
theorem rg_setRates (n t : Nat) (b : MS) (L : LNS) (pd : Nat → Nat) (d o9 c0 : Int32) : (xSetRates d o9 c0) = 0 ∨ (xSetRates d o9 c0) = 2 := by
  unfold xSetRates
  repeat (first | (left; rfl) | (right; rfl) | (right; left; rfl) | (right; right; rfl) | (right; right; left; rfl) | (right; right; right; rfl) | split)
set_option maxHeartbeats 4000000 in
set_option maxRecDepth 100000 in
theorem c_L_setRates (l : Launch) (hlt : l.stackTraces = false) (G : va_G) (y : Nat → ClassId) (a : Nat → Nat) (b : MS) (n : Nat) (la : Nat → Nat → Nat) (L : LNS) (sz : Nat) (d o9 c0 : Int32) : Met l yL_setRates wsL_setRates ({ frames := 7, cells := 1, slots := 6, locals := 105 }) (xP G y [.ref (a 13), .int d, .int o9, .int c0] (bkW y a b n la L) sz) (mQ G (fun _ : Unit => some (.int (lC 0 1 0 (xSetRates d o9 c0)))) (fun _ => True) (fun _ => if (xSetRates d o9 c0) = 0 then (bkW y a (bSetRates b d o9 c0) n la L) else (bkW y a b n la L)) (va_A (bkW y a b n la L) sz)) 1 6 (va_A (bkW y a b n la L) sz) := by
  refine va_MetW (cc := cL_setRates) (maxL := 5) (ret := (some .int)) (by decide) rfl ?_
  intro p e s m args below meth c s₁ B hml hv
  obtain ⟨rfl, hsz, hP, hK, hD0, hZ⟩ := hv
  have hx := B.exec
  have hb := B.bytes
  have hr := B.returns
  have hts := atoms_spec (ws := wsL_setRates) B.pre
  have hown : s.vm.findClass RL = some m.cls := findClass_of_methodNamed B.named
  have htab := vx_table (x := yL_setRates) B (hts _ (List.mem_cons_self))
  subst hsz
  have hD := hD0.self (sz := s.heap.size)
  generalize hAe : va_A (bkW y a b n la L) s.heap.size = A at hD hZ ⊢
  have hA : ∀ q : Nat, s.heap.size ≤ q → A q := fun q h => by rw [← hAe]; exact Or.inr h
  have hS : va_S A s.heap s.heap [] := va_S.rf
  have hP : va_P G vwCl (bkW y a b n la L) s.heap := hP
  have hl := lv_entry ([.ref (a 13), .int d, .int o9, .int c0]) (n := 5) (Nat.le_of_ble_eq_true rfl)
  rw [lg_entry_eq]
  generalize (lg_sl ([.ref (a 13), .int d, .int o9, .int c0]) ++ List.replicate (5 - (lg_sl ([.ref (a 13), .int d, .int o9, .int c0])).length) Slot.unset).toArray = ls at hl ⊢
  have hl : lv_has ls 5 [(0, .ref (a 13)), (1, .int d), (2, .int o9), (3, .int c0)] := hl
  refine lv_aload_n hx hb dL_setRates_0 rfl (lv_at hl 0 rfl) ?_
  refine lv_iload_n hx hb dL_setRates_1 rfl (lv_at hl 1 rfl) ?_
  refine lv_iload_n hx hb dL_setRates_2 rfl (lv_at hl 2 rfl) ?_
  refine lv_iload_n hx hb dL_setRates_3 rfl (lv_at hl 3 rfl) ?_
  have hFc : ∀ q, va_A (bkW y a b n la L) s.heap.size q → A q := freeW hD hS hA
  have hPc : va_P G vwCl (bkW y a b n la L) s.heap := hP
  have hDc : va_D (fun _ => True) (bkW y a b n la L) := hD0
  refine caXN (vx_runV (As := [.int d, .int o9, .int c0]) (rest := []) ⟨hx, hb, hml, hown, hts⟩ (c_X2_setRates l hlt G y a b n la L s.heap.size  d o9 c0 ) (cwV 3 hts gL_setRates_X2_setRates rfl rfl rfl (by decide +kernel) ⟨Nat.le_of_ble_eq_true rfl, Nat.le_of_ble_eq_true rfl⟩) ⟨xP_bl, va_recv hK.1 hPc (ci := 2) (q0 := 0) rfl rfl, fun U hU hW => ⟨rfl, by rw [hU], by rw [hU]; exact hPc, Kb.moved hW hK, hDc, by rw [hU]; exact Zs.moved hW.alike (hZ.narrow hFc)⟩⟩ rfl rfl hl.1 rfl (lv_room (Nat.le_of_ble_eq_true rfl)) dL_setRates_4 ⟨Nat.le_of_ble_eq_true rfl, Nat.le_of_ble_eq_true rfl⟩) hS hFc hFc (fun E ce q9 H locs hE hP1 hD1 hk1 hS hce hcv hcl => ?_) (fun u H locs hX hP1 hD1 hk1 hS => ?_)
  · obtain ⟨rfl, hne⟩ := hE
    have hP := hP1
    have hD := hD1.weaken (fun _ _ _ h => hFc _ h)
    rcases rg_setRates n 0 b L (fun _ => 0) d o9 c0 with h9 | h9 
    · exact absurd h9 hne
    · rw [show exN (xSetRates d o9 c0) = "java/lang/IllegalArgumentException" by rw [h9]; rfl] at hcl
      refine vx_catch (E := "java/lang/IllegalArgumentException") (name := "java/lang/IllegalArgumentException") hown [] ⟨0, 7, 10, 15⟩ [] (by rw [htab]; rfl) (fun z hz => nomatch hz) (by decide) (by decide) (hts (.classLink RL 15 "java/lang/IllegalArgumentException") (by decide +kernel)) (va_Nw.use rfl (hK.2.2.1 ("java/lang/IllegalArgumentException", "java/lang/IllegalArgumentException") (by decide +kernel))) hce hcv hcl ?_
      refine lv_astore (lv' := [(4, .ref q9), (0, .ref (a 13)), (1, .int d), (2, .int o9), (3, .int c0)]) hx hb dL_setRates_10 hl (by decide) rfl (fun ls hl => ?_)
      refine lv_iconst (v := 1) hx hb dL_setRates_12 (by decide) ?_
      exact W.iret (v := 1) hx hb hr (fun t ht hW => ⟨⟨(), by rw [h9]; rfl, trivial, by rw [if_neg hne, ht]; exact hP, by rw [if_neg hne]; exact hD⟩, hS.F ht⟩) hS.2.2 dL_setRates_13
  · have hX : (xSetRates d o9 c0) = 0 := hX
    have hP := hP1
    have hD := hD1.weaken (fun _ _ _ h => hFc _ h)
    refine lv_goto (tgt := 14) hx hb dL_setRates_7 (by decide) ?_
    refine lv_iconst (v := 0) hx hb dL_setRates_14 (by decide) ?_
    exact W.iret (v := 0) hx hb hr (fun t ht hW => ⟨⟨(), by rw [hX]; rfl, trivial, by rw [if_pos hX, ht]; exact hP, by rw [if_pos hX]; exact hD⟩, hS.F ht⟩) hS.2.2 dL_setRates_15
set_option maxHeartbeats 4000000 in
set_option maxRecDepth 100000 in
theorem rg_lend (n t : Nat) (b : MS) (L : LNS) (pd : Nat → Nat) (br pr am rt mo op : Int32) : (xLend n br pr am rt mo) = 0 ∨ (xLend n br pr am rt mo) = 1 ∨ (xLend n br pr am rt mo) = 2 ∨ (xLend n br pr am rt mo) = 3 := by
  unfold xLend
  repeat (first | (left; rfl) | (right; rfl) | (right; left; rfl) | (right; right; rfl) | (right; right; left; rfl) | (right; right; right; rfl) | split)
set_option maxHeartbeats 4000000 in
set_option maxRecDepth 100000 in
theorem c_L_lend (l : Launch) (hlt : l.stackTraces = false) (G : va_G) (y : Nat → ClassId) (a : Nat → Nat) (b : MS) (n : Nat) (la : Nat → Nat → Nat) (L : LNS) (o : Nat) (f : Nat → Int64) (sz : Nat) (br pr am rt mo op : Int32) (hn : b 13 6 = nI n) (hn24 : n ≤ 24) (hop : op = 0 ∨ op = 1) : Met l yL_lend wsL_lend ({ frames := 7, cells := 3, slots := 20, locals := 111 }) (xP G y [.ref (a 13), .int br, .int pr, .int am, .int rt, .int mo, .int op, .ref o] (oW y o f ++ bkW y a b n la L) sz) (mQ G (fun _ : Nat → Nat => some (.int (lC 1 2 3 (xLend n br pr am rt mo)))) (fun _ => True) (fun u => if (xLend n br pr am rt mo) = 0 then (oW y o (oU f (nI n)) ++ bkW y a (u2 b 13 6 (nI (n + 1))) (n + 1) (fun i j => if i = n then u j else la i j) (fun i => if i = n then lNew br pr rt op (bOr b op) (cR am (am / mo) (cn mo) 6) (b 0) else L i)) else (oW y o f ++ bkW y a b n la L)) (va_A (oW y o f ++ bkW y a b n la L) sz)) 3 20 (va_A (oW y o f ++ bkW y a b n la L) sz) := by
  refine va_MetW (cc := cL_lend) (maxL := 9) (ret := (some .int)) (by decide) rfl ?_
  intro p e s m args below meth c s₁ B hml hv
  obtain ⟨rfl, hsz, hP, hK, hD0, hZ⟩ := hv
  have hx := B.exec
  have hb := B.bytes
  have hr := B.returns
  have hts := atoms_spec (ws := wsL_lend) B.pre
  have hown : s.vm.findClass RL = some m.cls := findClass_of_methodNamed B.named
  have htab := vx_table (x := yL_lend) B (hts _ (List.mem_cons_self))
  subst hsz
  have hD := hD0.self (sz := s.heap.size)
  generalize hAe : va_A (oW y o f ++ bkW y a b n la L) s.heap.size = A at hD hZ ⊢
  have hA : ∀ q : Nat, s.heap.size ≤ q → A q := fun q h => by rw [← hAe]; exact Or.inr h
  have hS : va_S A s.heap s.heap [] := va_S.rf
  have hP : va_P G vwCl (oW y o f ++ bkW y a b n la L) s.heap := hP
  have hl := lv_entry ([.ref (a 13), .int br, .int pr, .int am, .int rt, .int mo, .int op, .ref o]) (n := 9) (Nat.le_of_ble_eq_true rfl)
  rw [lg_entry_eq]
  generalize (lg_sl ([.ref (a 13), .int br, .int pr, .int am, .int rt, .int mo, .int op, .ref o]) ++ List.replicate (9 - (lg_sl ([.ref (a 13), .int br, .int pr, .int am, .int rt, .int mo, .int op, .ref o])).length) Slot.unset).toArray = ls at hl ⊢
  have hl : lv_has ls 9 [(0, .ref (a 13)), (1, .int br), (2, .int pr), (3, .int am), (4, .int rt), (5, .int mo), (6, .int op), (7, .ref o)] := hl
  refine lv_aload hx hb dL_lend_0 (lv_at hl 7 rfl) ?_
  refine lv_iconst (v := 0) hx hb dL_lend_2 (by decide) ?_
  refine lv_aload_n hx hb dL_lend_3 rfl (lv_at hl 0 rfl) ?_
  refine lv_iload_n hx hb dL_lend_4 rfl (lv_at hl 1 rfl) ?_
  refine lv_iload_n hx hb dL_lend_5 rfl (lv_at hl 2 rfl) ?_
  refine lv_iload_n hx hb dL_lend_6 rfl (lv_at hl 3 rfl) ?_
  refine lv_iload hx hb dL_lend_7 (lv_at hl 4 rfl) ?_
  refine lv_iload hx hb dL_lend_9 (lv_at hl 5 rfl) ?_
  refine lv_iload hx hb dL_lend_11 (lv_at hl 6 rfl) ?_
  have hPj := hP
  have hDj := hD
  have hFc : ∀ q, va_A (bkW y a b n la L) s.heap.size q → A q := freeR hD hS hA
  have hPc : va_P G vwCl (bkW y a b n la L) s.heap := wR hP
  have hDc : va_D (fun _ => True) (bkW y a b n la L) := wRD hD0
  refine caXN (vx_runV (As := [.int br, .int pr, .int am, .int rt, .int mo, .int op]) (rest := [.int 0, .ref o]) ⟨hx, hb, hml, hown, hts⟩ (c_X2_lend l hlt G y a b n la L s.heap.size  br pr am rt mo op hn hn24 hop) (cwV 6 hts gL_lend_X2_lend rfl rfl rfl (by decide +kernel) ⟨Nat.le_of_ble_eq_true rfl, Nat.le_of_ble_eq_true rfl⟩) ⟨xP_bl, va_recv hK.1 hPc (ci := 2) (q0 := 0) rfl rfl, fun U hU hW => ⟨rfl, by rw [hU], by rw [hU]; exact hPc, Kb.moved hW hK, hDc, by rw [hU]; exact Zs.moved hW.alike (hZ.narrow hFc)⟩⟩ rfl rfl hl.1 rfl (lv_room (Nat.le_of_ble_eq_true rfl)) dL_lend_13 ⟨Nat.le_of_ble_eq_true rfl, Nat.le_of_ble_eq_true rfl⟩) hS hFc hFc (fun E ce q9 H locs hE hP1 hD1 hk1 hS hce hcv hcl => ?_) (fun u H locs hX hP1 hD1 hk1 hS => ?_)
  · obtain ⟨rfl, hne⟩ := hE
    obtain ⟨hP, hD⟩ := joinW hPj hDj hk1 hP1 hD1 hFc
    rcases rg_lend n 0 b L (fun _ => 0) br pr am rt mo op with h9 | h9 | h9 | h9 
    · exact absurd h9 hne
    · rw [show exN (xLend n br pr am rt mo) = "java/lang/IndexOutOfBoundsException" by rw [h9]; rfl] at hcl
      refine vx_catch (E := "java/lang/IndexOutOfBoundsException") (name := "java/lang/IndexOutOfBoundsException") hown [] ⟨0, 18, 21, 13⟩ [⟨0, 18, 25, 15⟩, ⟨0, 18, 29, 25⟩] (by rw [htab]; rfl) (fun z hz => nomatch hz) (by decide) (by decide) (hts (.classLink RL 13 "java/lang/IndexOutOfBoundsException") (by decide +kernel)) (va_Nw.use rfl (hK.2.2.1 ("java/lang/IndexOutOfBoundsException", "java/lang/IndexOutOfBoundsException") (by decide +kernel))) hce hcv hcl ?_
      refine lv_astore (lv' := [(8, .ref q9), (0, .ref (a 13)), (1, .int br), (2, .int pr), (3, .int am), (4, .int rt), (5, .int mo), (6, .int op), (7, .ref o)]) hx hb dL_lend_21 hl (by decide) rfl (fun ls hl => ?_)
      refine lv_iconst (v := 1) hx hb dL_lend_23 (by decide) ?_
      exact W.iret (v := 1) hx hb hr (fun t ht hW => ⟨⟨fun _ => 0, by rw [h9]; rfl, trivial, by dsimp only; rw [if_neg hne, ht]; exact hP, by dsimp only; rw [if_neg hne]; exact hD⟩, hS.F ht⟩) hS.2.2 dL_lend_24
    · rw [show exN (xLend n br pr am rt mo) = "java/lang/IllegalArgumentException" by rw [h9]; rfl] at hcl
      refine vx_catch (E := "java/lang/IllegalArgumentException") (name := "java/lang/IllegalArgumentException") hown [⟨0, 18, 21, 13⟩] ⟨0, 18, 25, 15⟩ [⟨0, 18, 29, 25⟩] (by rw [htab]; rfl) (fun z hz => by
        have hz2 : z = ⟨0, 18, 21, 13⟩ := by simpa using hz
        subst hz2
        exact Or.inr ⟨by decide, "java/lang/IndexOutOfBoundsException", hts (.classLink RL 13 "java/lang/IndexOutOfBoundsException") (by decide +kernel), hK.2.2.2.2.1 ("java/lang/IllegalArgumentException", "java/lang/IndexOutOfBoundsException") (by decide +kernel)⟩) (by decide) (by decide) (hts (.classLink RL 15 "java/lang/IllegalArgumentException") (by decide +kernel)) (va_Nw.use rfl (hK.2.2.1 ("java/lang/IllegalArgumentException", "java/lang/IllegalArgumentException") (by decide +kernel))) hce hcv hcl ?_
      refine lv_astore (lv' := [(8, .ref q9), (0, .ref (a 13)), (1, .int br), (2, .int pr), (3, .int am), (4, .int rt), (5, .int mo), (6, .int op), (7, .ref o)]) hx hb dL_lend_25 hl (by decide) rfl (fun ls hl => ?_)
      refine lv_iconst (v := 2) hx hb dL_lend_27 (by decide) ?_
      exact W.iret (v := 2) hx hb hr (fun t ht hW => ⟨⟨fun _ => 0, by rw [h9]; rfl, trivial, by dsimp only; rw [if_neg hne, ht]; exact hP, by dsimp only; rw [if_neg hne]; exact hD⟩, hS.F ht⟩) hS.2.2 dL_lend_28
    · rw [show exN (xLend n br pr am rt mo) = "java/lang/IllegalStateException" by rw [h9]; rfl] at hcl
      refine vx_catch (E := "java/lang/IllegalStateException") (name := "java/lang/IllegalStateException") hown [⟨0, 18, 21, 13⟩, ⟨0, 18, 25, 15⟩] ⟨0, 18, 29, 25⟩ [] (by rw [htab]; rfl) (fun z hz => by
        have hz2 : z = ⟨0, 18, 21, 13⟩ ∨ z = ⟨0, 18, 25, 15⟩ := by simpa using hz
        rcases hz2 with rfl | rfl
        · exact Or.inr ⟨by decide, "java/lang/IndexOutOfBoundsException", hts (.classLink RL 13 "java/lang/IndexOutOfBoundsException") (by decide +kernel), hK.2.2.2.2.1 ("java/lang/IllegalStateException", "java/lang/IndexOutOfBoundsException") (by decide +kernel)⟩
        · exact Or.inr ⟨by decide, "java/lang/IllegalArgumentException", hts (.classLink RL 15 "java/lang/IllegalArgumentException") (by decide +kernel), hK.2.2.2.2.1 ("java/lang/IllegalStateException", "java/lang/IllegalArgumentException") (by decide +kernel)⟩) (by decide) (by decide) (hts (.classLink RL 25 "java/lang/IllegalStateException") (by decide +kernel)) (va_Nw.use rfl (hK.2.2.1 ("java/lang/IllegalStateException", "java/lang/IllegalStateException") (by decide +kernel))) hce hcv hcl ?_
      refine lv_astore (lv' := [(8, .ref q9), (0, .ref (a 13)), (1, .int br), (2, .int pr), (3, .int am), (4, .int rt), (5, .int mo), (6, .int op), (7, .ref o)]) hx hb dL_lend_29 hl (by decide) rfl (fun ls hl => ?_)
      refine lv_iconst (v := 3) hx hb dL_lend_31 (by decide) ?_
      exact W.iret (v := 3) hx hb hr (fun t ht hW => ⟨⟨fun _ => 0, by rw [h9]; rfl, trivial, by dsimp only; rw [if_neg hne, ht]; exact hP, by dsimp only; rw [if_neg hne]; exact hD⟩, hS.F ht⟩) hS.2.2 dL_lend_32
  · have hX : (xLend n br pr am rt mo) = 0 := hX
    obtain ⟨hP, hD⟩ := joinW hPj hDj hk1 hP1 hD1 hFc
    refine lv_i2l (x := nI n) hx hb dL_lend_16 rfl ?_
    refine va_last (f := f) hx hb hK.1 hP hD hS 0 4 rfl rfl (show vp_in (nI 0) 1 from vp_in_nI (by decide) (by decide)) dL_lend_17 (fun H locs hP hD hS => ?_)
    refine lv_goto (tgt := 33) hx hb dL_lend_18 (by decide) ?_
    refine lv_iconst (v := 0) hx hb dL_lend_33 (by decide) ?_
    exact W.iret (v := 0) hx hb hr (fun t ht hW => ⟨⟨u, by rw [hX]; rfl, trivial, by dsimp only; rw [if_pos hX, ht]; exact hP, by dsimp only; rw [if_pos hX]; exact hD⟩, hS.F ht⟩) hS.2.2 dL_lend_34
set_option maxHeartbeats 4000000 in
set_option maxRecDepth 100000 in
theorem rg_repay (n t : Nat) (b : MS) (L : LNS) (pd : Nat → Nat) (x : Int32) : (xRepay n L pd x) = 0 ∨ (xRepay n L pd x) = 1 ∨ (xRepay n L pd x) = 3 := by
  unfold xRepay
  repeat (first | (left; rfl) | (right; rfl) | (right; left; rfl) | (right; right; rfl) | (right; right; left; rfl) | (right; right; right; rfl) | split)
set_option maxHeartbeats 4000000 in
set_option maxRecDepth 100000 in
theorem c_L_repay (l : Launch) (hlt : l.stackTraces = false) (G : va_G) (y : Nat → ClassId) (a : Nat → Nat) (b : MS) (n : Nat) (la : Nat → Nat → Nat) (L : LNS) (o : Nat) (f : Nat → Int64) (sz : Nat) (hn24 : n ≤ 24) (pd : Nat → Nat) (hpd : ∀ k, k < n → L k 0 7 = nI (pd k) ∧ pd k ≤ 6) (x : Int32) : Met l yL_repay wsL_repay ({ frames := 7, cells := 1, slots := 6, locals := 105 }) (xP G y [.ref (a 13), .int x, .ref o] (oW y o f ++ bkW y a b n la L) sz) (mQ G (fun _ : Unit => some (.int (lC 1 0 2 (xRepay n L pd x)))) (fun _ => True) (fun _ => if (xRepay n L pd x) = 0 then (oW y o (oU f (lUnp (L (cn x)) (pd (cn x)))) ++ bkW y a b n la (u3 L (cn x) (nI 6))) else (oW y o f ++ bkW y a b n la L)) (va_A (oW y o f ++ bkW y a b n la L) sz)) 1 6 (va_A (oW y o f ++ bkW y a b n la L) sz) := by
  refine va_MetW (cc := cL_repay) (maxL := 4) (ret := (some .int)) (by decide) rfl ?_
  intro p e s m args below meth c s₁ B hml hv
  obtain ⟨rfl, hsz, hP, hK, hD0, hZ⟩ := hv
  have hx := B.exec
  have hb := B.bytes
  have hr := B.returns
  have hts := atoms_spec (ws := wsL_repay) B.pre
  have hown : s.vm.findClass RL = some m.cls := findClass_of_methodNamed B.named
  have htab := vx_table (x := yL_repay) B (hts _ (List.mem_cons_self))
  subst hsz
  have hD := hD0.self (sz := s.heap.size)
  generalize hAe : va_A (oW y o f ++ bkW y a b n la L) s.heap.size = A at hD hZ ⊢
  have hA : ∀ q : Nat, s.heap.size ≤ q → A q := fun q h => by rw [← hAe]; exact Or.inr h
  have hS : va_S A s.heap s.heap [] := va_S.rf
  have hP : va_P G vwCl (oW y o f ++ bkW y a b n la L) s.heap := hP
  have hl := lv_entry ([.ref (a 13), .int x, .ref o]) (n := 4) (Nat.le_of_ble_eq_true rfl)
  rw [lg_entry_eq]
  generalize (lg_sl ([.ref (a 13), .int x, .ref o]) ++ List.replicate (4 - (lg_sl ([.ref (a 13), .int x, .ref o])).length) Slot.unset).toArray = ls at hl ⊢
  have hl : lv_has ls 4 [(0, .ref (a 13)), (1, .int x), (2, .ref o)] := hl
  refine lv_aload_n hx hb dL_repay_0 rfl (lv_at hl 2 rfl) ?_
  refine lv_iconst (v := 0) hx hb dL_repay_1 (by decide) ?_
  refine lv_aload_n hx hb dL_repay_2 rfl (lv_at hl 0 rfl) ?_
  refine lv_iload_n hx hb dL_repay_3 rfl (lv_at hl 1 rfl) ?_
  have hPj := hP
  have hDj := hD
  have hFc : ∀ q, va_A (bkW y a b n la L) s.heap.size q → A q := freeR hD hS hA
  have hPc : va_P G vwCl (bkW y a b n la L) s.heap := wR hP
  have hDc : va_D (fun _ => True) (bkW y a b n la L) := wRD hD0
  refine caXN (vx_runV (As := [.int x]) (rest := [.int 0, .ref o]) ⟨hx, hb, hml, hown, hts⟩ (c_X2_repay l hlt G y a b n la L s.heap.size hn24 pd hpd x ) (cwV 1 hts gL_repay_X2_repay rfl rfl rfl (by decide +kernel) ⟨Nat.le_of_ble_eq_true rfl, Nat.le_of_ble_eq_true rfl⟩) ⟨xP_bl, va_recv hK.1 hPc (ci := 2) (q0 := 0) rfl rfl, fun U hU hW => ⟨rfl, by rw [hU], by rw [hU]; exact hPc, Kb.moved hW hK, hDc, by rw [hU]; exact Zs.moved hW.alike (hZ.narrow hFc)⟩⟩ rfl rfl hl.1 rfl (lv_room (Nat.le_of_ble_eq_true rfl)) dL_repay_4 ⟨Nat.le_of_ble_eq_true rfl, Nat.le_of_ble_eq_true rfl⟩) hS hFc hFc (fun E ce q9 H locs hE hP1 hD1 hk1 hS hce hcv hcl => ?_) (fun u H locs hX hP1 hD1 hk1 hS => ?_)
  · obtain ⟨rfl, hne⟩ := hE
    obtain ⟨hP, hD⟩ := joinW hPj hDj hk1 hP1 hD1 hFc
    rcases rg_repay n 0 b L pd x with h9 | h9 | h9 
    · exact absurd h9 hne
    · rw [show exN (xRepay n L pd x) = "java/lang/IndexOutOfBoundsException" by rw [h9]; rfl] at hcl
      refine vx_catch (E := "java/lang/IndexOutOfBoundsException") (name := "java/lang/IndexOutOfBoundsException") hown [] ⟨0, 9, 12, 13⟩ [⟨0, 9, 15, 25⟩] (by rw [htab]; rfl) (fun z hz => nomatch hz) (by decide) (by decide) (hts (.classLink RL 13 "java/lang/IndexOutOfBoundsException") (by decide +kernel)) (va_Nw.use rfl (hK.2.2.1 ("java/lang/IndexOutOfBoundsException", "java/lang/IndexOutOfBoundsException") (by decide +kernel))) hce hcv hcl ?_
      refine lv_astore_n (lv' := [(3, .ref q9), (0, .ref (a 13)), (1, .int x), (2, .ref o)]) hx hb dL_repay_12 rfl hl (by decide) rfl (fun ls hl => ?_)
      refine lv_iconst (v := 1) hx hb dL_repay_13 (by decide) ?_
      exact W.iret (v := 1) hx hb hr (fun t ht hW => ⟨⟨(), by rw [h9]; rfl, trivial, by rw [if_neg hne, ht]; exact hP, by rw [if_neg hne]; exact hD⟩, hS.F ht⟩) hS.2.2 dL_repay_14
    · rw [show exN (xRepay n L pd x) = "java/lang/IllegalStateException" by rw [h9]; rfl] at hcl
      refine vx_catch (E := "java/lang/IllegalStateException") (name := "java/lang/IllegalStateException") hown [⟨0, 9, 12, 13⟩] ⟨0, 9, 15, 25⟩ [] (by rw [htab]; rfl) (fun z hz => by
        have hz2 : z = ⟨0, 9, 12, 13⟩ := by simpa using hz
        subst hz2
        exact Or.inr ⟨by decide, "java/lang/IndexOutOfBoundsException", hts (.classLink RL 13 "java/lang/IndexOutOfBoundsException") (by decide +kernel), hK.2.2.2.2.1 ("java/lang/IllegalStateException", "java/lang/IndexOutOfBoundsException") (by decide +kernel)⟩) (by decide) (by decide) (hts (.classLink RL 25 "java/lang/IllegalStateException") (by decide +kernel)) (va_Nw.use rfl (hK.2.2.1 ("java/lang/IllegalStateException", "java/lang/IllegalStateException") (by decide +kernel))) hce hcv hcl ?_
      refine lv_astore_n (lv' := [(3, .ref q9), (0, .ref (a 13)), (1, .int x), (2, .ref o)]) hx hb dL_repay_15 rfl hl (by decide) rfl (fun ls hl => ?_)
      refine lv_iconst (v := 2) hx hb dL_repay_16 (by decide) ?_
      exact W.iret (v := 2) hx hb hr (fun t ht hW => ⟨⟨(), by rw [h9]; rfl, trivial, by rw [if_neg hne, ht]; exact hP, by rw [if_neg hne]; exact hD⟩, hS.F ht⟩) hS.2.2 dL_repay_17
  · have hX : (xRepay n L pd x) = 0 := hX
    obtain ⟨hP, hD⟩ := joinW hPj hDj hk1 hP1 hD1 hFc
    refine lv_i2l (x := lUnp (L (cn x)) (pd (cn x))) hx hb dL_repay_7 rfl ?_
    refine va_last (f := f) hx hb hK.1 hP hD hS 0 4 rfl rfl (show vp_in (nI 0) 1 from vp_in_nI (by decide) (by decide)) dL_repay_8 (fun H locs hP hD hS => ?_)
    refine lv_goto (tgt := 18) hx hb dL_repay_9 (by decide) ?_
    refine lv_iconst (v := 0) hx hb dL_repay_18 (by decide) ?_
    exact W.iret (v := 0) hx hb hr (fun t ht hW => ⟨⟨(), by rw [hX]; rfl, trivial, by rw [if_pos hX, ht]; exact hP, by rw [if_pos hX]; exact hD⟩, hS.F ht⟩) hS.2.2 dL_repay_19
set_option maxHeartbeats 4000000 in
set_option maxRecDepth 100000 in
theorem rg_deposit (n t : Nat) (b : MS) (L : LNS) (pd : Nat → Nat) (x ch : Int32) : (xDep b x ch) = 0 ∨ (xDep b x ch) = 1 ∨ (xDep b x ch) = 2 ∨ (xDep b x ch) = 3 := by
  unfold xDep
  repeat (first | (left; rfl) | (right; rfl) | (right; left; rfl) | (right; right; rfl) | (right; right; left; rfl) | (right; right; right; rfl) | split)
set_option maxHeartbeats 4000000 in
set_option maxRecDepth 100000 in
theorem c_L_deposit (l : Launch) (hlt : l.stackTraces = false) (G : va_G) (y : Nat → ClassId) (a : Nat → Nat) (b : MS) (n : Nat) (la : Nat → Nat → Nat) (L : LNS) (o : Nat) (f : Nat → Int64) (sz : Nat) (x ch : Int32) : Met l yL_deposit wsL_deposit ({ frames := 7, cells := 1, slots := 6, locals := 105 }) (xP G y [.ref (a 13), .int x, .int ch, .ref o] (oW y o f ++ bkW y a b n la L) sz) (mQ G (fun _ : Unit => some (.int (lC 1 2 3 (xDep b x ch)))) (fun _ => True) (fun _ => if (xDep b x ch) = 0 then (oW y o (oU f (b 7 (cn x) + ch)) ++ bkW y a (bDep b (cn x) ch) n la L) else (oW y o f ++ bkW y a b n la L)) (va_A (oW y o f ++ bkW y a b n la L) sz)) 1 6 (va_A (oW y o f ++ bkW y a b n la L) sz) := by
  refine va_MetW (cc := cL_deposit) (maxL := 5) (ret := (some .int)) (by decide) rfl ?_
  intro p e s m args below meth c s₁ B hml hv
  obtain ⟨rfl, hsz, hP, hK, hD0, hZ⟩ := hv
  have hx := B.exec
  have hb := B.bytes
  have hr := B.returns
  have hts := atoms_spec (ws := wsL_deposit) B.pre
  have hown : s.vm.findClass RL = some m.cls := findClass_of_methodNamed B.named
  have htab := vx_table (x := yL_deposit) B (hts _ (List.mem_cons_self))
  subst hsz
  have hD := hD0.self (sz := s.heap.size)
  generalize hAe : va_A (oW y o f ++ bkW y a b n la L) s.heap.size = A at hD hZ ⊢
  have hA : ∀ q : Nat, s.heap.size ≤ q → A q := fun q h => by rw [← hAe]; exact Or.inr h
  have hS : va_S A s.heap s.heap [] := va_S.rf
  have hP : va_P G vwCl (oW y o f ++ bkW y a b n la L) s.heap := hP
  have hl := lv_entry ([.ref (a 13), .int x, .int ch, .ref o]) (n := 5) (Nat.le_of_ble_eq_true rfl)
  rw [lg_entry_eq]
  generalize (lg_sl ([.ref (a 13), .int x, .int ch, .ref o]) ++ List.replicate (5 - (lg_sl ([.ref (a 13), .int x, .int ch, .ref o])).length) Slot.unset).toArray = ls at hl ⊢
  have hl : lv_has ls 5 [(0, .ref (a 13)), (1, .int x), (2, .int ch), (3, .ref o)] := hl
  refine lv_aload_n hx hb dL_deposit_0 rfl (lv_at hl 3 rfl) ?_
  refine lv_iconst (v := 0) hx hb dL_deposit_1 (by decide) ?_
  refine lv_aload_n hx hb dL_deposit_2 rfl (lv_at hl 0 rfl) ?_
  refine lv_iload_n hx hb dL_deposit_3 rfl (lv_at hl 1 rfl) ?_
  refine lv_iload_n hx hb dL_deposit_4 rfl (lv_at hl 2 rfl) ?_
  have hPj := hP
  have hDj := hD
  have hFc : ∀ q, va_A (bkW y a b n la L) s.heap.size q → A q := freeR hD hS hA
  have hPc : va_P G vwCl (bkW y a b n la L) s.heap := wR hP
  have hDc : va_D (fun _ => True) (bkW y a b n la L) := wRD hD0
  refine caXN (vx_runV (As := [.int x, .int ch]) (rest := [.int 0, .ref o]) ⟨hx, hb, hml, hown, hts⟩ (c_X2_deposit l hlt G y a b n la L s.heap.size  x ch ) (cwV 2 hts gL_deposit_X2_deposit rfl rfl rfl (by decide +kernel) ⟨Nat.le_of_ble_eq_true rfl, Nat.le_of_ble_eq_true rfl⟩) ⟨xP_bl, va_recv hK.1 hPc (ci := 2) (q0 := 0) rfl rfl, fun U hU hW => ⟨rfl, by rw [hU], by rw [hU]; exact hPc, Kb.moved hW hK, hDc, by rw [hU]; exact Zs.moved hW.alike (hZ.narrow hFc)⟩⟩ rfl rfl hl.1 rfl (lv_room (Nat.le_of_ble_eq_true rfl)) dL_deposit_5 ⟨Nat.le_of_ble_eq_true rfl, Nat.le_of_ble_eq_true rfl⟩) hS hFc hFc (fun E ce q9 H locs hE hP1 hD1 hk1 hS hce hcv hcl => ?_) (fun u H locs hX hP1 hD1 hk1 hS => ?_)
  · obtain ⟨rfl, hne⟩ := hE
    obtain ⟨hP, hD⟩ := joinW hPj hDj hk1 hP1 hD1 hFc
    rcases rg_deposit n 0 b L (fun _ => 0) x ch with h9 | h9 | h9 | h9 
    · exact absurd h9 hne
    · rw [show exN (xDep b x ch) = "java/lang/IndexOutOfBoundsException" by rw [h9]; rfl] at hcl
      refine vx_catch (E := "java/lang/IndexOutOfBoundsException") (name := "java/lang/IndexOutOfBoundsException") hown [] ⟨0, 10, 13, 13⟩ [⟨0, 10, 17, 15⟩, ⟨0, 10, 21, 25⟩] (by rw [htab]; rfl) (fun z hz => nomatch hz) (by decide) (by decide) (hts (.classLink RL 13 "java/lang/IndexOutOfBoundsException") (by decide +kernel)) (va_Nw.use rfl (hK.2.2.1 ("java/lang/IndexOutOfBoundsException", "java/lang/IndexOutOfBoundsException") (by decide +kernel))) hce hcv hcl ?_
      refine lv_astore (lv' := [(4, .ref q9), (0, .ref (a 13)), (1, .int x), (2, .int ch), (3, .ref o)]) hx hb dL_deposit_13 hl (by decide) rfl (fun ls hl => ?_)
      refine lv_iconst (v := 1) hx hb dL_deposit_15 (by decide) ?_
      exact W.iret (v := 1) hx hb hr (fun t ht hW => ⟨⟨(), by rw [h9]; rfl, trivial, by rw [if_neg hne, ht]; exact hP, by rw [if_neg hne]; exact hD⟩, hS.F ht⟩) hS.2.2 dL_deposit_16
    · rw [show exN (xDep b x ch) = "java/lang/IllegalArgumentException" by rw [h9]; rfl] at hcl
      refine vx_catch (E := "java/lang/IllegalArgumentException") (name := "java/lang/IllegalArgumentException") hown [⟨0, 10, 13, 13⟩] ⟨0, 10, 17, 15⟩ [⟨0, 10, 21, 25⟩] (by rw [htab]; rfl) (fun z hz => by
        have hz2 : z = ⟨0, 10, 13, 13⟩ := by simpa using hz
        subst hz2
        exact Or.inr ⟨by decide, "java/lang/IndexOutOfBoundsException", hts (.classLink RL 13 "java/lang/IndexOutOfBoundsException") (by decide +kernel), hK.2.2.2.2.1 ("java/lang/IllegalArgumentException", "java/lang/IndexOutOfBoundsException") (by decide +kernel)⟩) (by decide) (by decide) (hts (.classLink RL 15 "java/lang/IllegalArgumentException") (by decide +kernel)) (va_Nw.use rfl (hK.2.2.1 ("java/lang/IllegalArgumentException", "java/lang/IllegalArgumentException") (by decide +kernel))) hce hcv hcl ?_
      refine lv_astore (lv' := [(4, .ref q9), (0, .ref (a 13)), (1, .int x), (2, .int ch), (3, .ref o)]) hx hb dL_deposit_17 hl (by decide) rfl (fun ls hl => ?_)
      refine lv_iconst (v := 2) hx hb dL_deposit_19 (by decide) ?_
      exact W.iret (v := 2) hx hb hr (fun t ht hW => ⟨⟨(), by rw [h9]; rfl, trivial, by rw [if_neg hne, ht]; exact hP, by rw [if_neg hne]; exact hD⟩, hS.F ht⟩) hS.2.2 dL_deposit_20
    · rw [show exN (xDep b x ch) = "java/lang/IllegalStateException" by rw [h9]; rfl] at hcl
      refine vx_catch (E := "java/lang/IllegalStateException") (name := "java/lang/IllegalStateException") hown [⟨0, 10, 13, 13⟩, ⟨0, 10, 17, 15⟩] ⟨0, 10, 21, 25⟩ [] (by rw [htab]; rfl) (fun z hz => by
        have hz2 : z = ⟨0, 10, 13, 13⟩ ∨ z = ⟨0, 10, 17, 15⟩ := by simpa using hz
        rcases hz2 with rfl | rfl
        · exact Or.inr ⟨by decide, "java/lang/IndexOutOfBoundsException", hts (.classLink RL 13 "java/lang/IndexOutOfBoundsException") (by decide +kernel), hK.2.2.2.2.1 ("java/lang/IllegalStateException", "java/lang/IndexOutOfBoundsException") (by decide +kernel)⟩
        · exact Or.inr ⟨by decide, "java/lang/IllegalArgumentException", hts (.classLink RL 15 "java/lang/IllegalArgumentException") (by decide +kernel), hK.2.2.2.2.1 ("java/lang/IllegalStateException", "java/lang/IllegalArgumentException") (by decide +kernel)⟩) (by decide) (by decide) (hts (.classLink RL 25 "java/lang/IllegalStateException") (by decide +kernel)) (va_Nw.use rfl (hK.2.2.1 ("java/lang/IllegalStateException", "java/lang/IllegalStateException") (by decide +kernel))) hce hcv hcl ?_
      refine lv_astore (lv' := [(4, .ref q9), (0, .ref (a 13)), (1, .int x), (2, .int ch), (3, .ref o)]) hx hb dL_deposit_21 hl (by decide) rfl (fun ls hl => ?_)
      refine lv_iconst (v := 3) hx hb dL_deposit_23 (by decide) ?_
      exact W.iret (v := 3) hx hb hr (fun t ht hW => ⟨⟨(), by rw [h9]; rfl, trivial, by rw [if_neg hne, ht]; exact hP, by rw [if_neg hne]; exact hD⟩, hS.F ht⟩) hS.2.2 dL_deposit_24
  · have hX : (xDep b x ch) = 0 := hX
    obtain ⟨hP, hD⟩ := joinW hPj hDj hk1 hP1 hD1 hFc
    refine lv_i2l (x := b 7 (cn x) + ch) hx hb dL_deposit_8 rfl ?_
    refine va_last (f := f) hx hb hK.1 hP hD hS 0 4 rfl rfl (show vp_in (nI 0) 1 from vp_in_nI (by decide) (by decide)) dL_deposit_9 (fun H locs hP hD hS => ?_)
    refine lv_goto (tgt := 25) hx hb dL_deposit_10 (by decide) ?_
    refine lv_iconst (v := 0) hx hb dL_deposit_25 (by decide) ?_
    exact W.iret (v := 0) hx hb hr (fun t ht hW => ⟨⟨(), by rw [hX]; rfl, trivial, by rw [if_pos hX, ht]; exact hP, by rw [if_pos hX]; exact hD⟩, hS.F ht⟩) hS.2.2 dL_deposit_26
set_option maxHeartbeats 4000000 in
set_option maxRecDepth 100000 in
theorem rg_closeMonth (n t : Nat) (b : MS) (L : LNS) (pd : Nat → Nat) (z9 : Int32) : (xClose t) = 0 ∨ (xClose t) = 3 := by
  unfold xClose
  repeat (first | (left; rfl) | (right; rfl) | (right; left; rfl) | (right; right; rfl) | (right; right; left; rfl) | (right; right; right; rfl) | split)
set_option maxHeartbeats 4000000 in
set_option maxRecDepth 100000 in
theorem c_L_closeMonth (l : Launch) (hlt : l.stackTraces = false) (G : va_G) (y : Nat → ClassId) (a : Nat → Nat) (b : MS) (n : Nat) (la : Nat → Nat → Nat) (L : LNS) (o : Nat) (f : Nat → Int64) (sz : Nat) (pd : Nat → Nat) (hpd : ∀ k, k < n → L k 0 7 = nI (pd k) ∧ pd k ≤ 6) (t : Nat) (ht : b 13 4 = nI t) (ht47 : t ≤ 47)  : Met l yL_closeMonth wsL_closeMonth ({ frames := 7, cells := 1, slots := 6, locals := 136 }) (xP G y [.ref (a 13), .ref o] (oW y o f ++ bkW y a b n la L) sz) (mQ G (fun _ : Unit => some (.int (lC 0 0 1 (xClose t)))) (fun _ => True) (fun _ => if (xClose t) = 0 then (oW y o (oU f (nI (t + 1))) ++ bkW y a (bClose b t n L pd) n la (bPA L n pd 24)) else (oW y o f ++ bkW y a b n la L)) (va_A (oW y o f ++ bkW y a b n la L) sz)) 1 6 (va_A (oW y o f ++ bkW y a b n la L) sz) := by
  refine va_MetW (cc := cL_closeMonth) (maxL := 3) (ret := (some .int)) (by decide) rfl ?_
  intro p e s m args below meth c s₁ B hml hv
  obtain ⟨rfl, hsz, hP, hK, hD0, hZ⟩ := hv
  have hx := B.exec
  have hb := B.bytes
  have hr := B.returns
  have hts := atoms_spec (ws := wsL_closeMonth) B.pre
  have hown : s.vm.findClass RL = some m.cls := findClass_of_methodNamed B.named
  have htab := vx_table (x := yL_closeMonth) B (hts _ (List.mem_cons_self))
  subst hsz
  have hD := hD0.self (sz := s.heap.size)
  generalize hAe : va_A (oW y o f ++ bkW y a b n la L) s.heap.size = A at hD hZ ⊢
  have hA : ∀ q : Nat, s.heap.size ≤ q → A q := fun q h => by rw [← hAe]; exact Or.inr h
  have hS : va_S A s.heap s.heap [] := va_S.rf
  have hP : va_P G vwCl (oW y o f ++ bkW y a b n la L) s.heap := hP
  have hl := lv_entry ([.ref (a 13), .ref o]) (n := 3) (Nat.le_of_ble_eq_true rfl)
  rw [lg_entry_eq]
  generalize (lg_sl ([.ref (a 13), .ref o]) ++ List.replicate (3 - (lg_sl ([.ref (a 13), .ref o])).length) Slot.unset).toArray = ls at hl ⊢
  have hl : lv_has ls 3 [(0, .ref (a 13)), (1, .ref o)] := hl
  refine lv_aload_n hx hb dL_closeMonth_0 rfl (lv_at hl 1 rfl) ?_
  refine lv_iconst (v := 0) hx hb dL_closeMonth_1 (by decide) ?_
  refine lv_aload_n hx hb dL_closeMonth_2 rfl (lv_at hl 0 rfl) ?_
  have hPj := hP
  have hDj := hD
  have hFc : ∀ q, va_A (bkW y a b n la L) s.heap.size q → A q := freeR hD hS hA
  have hPc : va_P G vwCl (bkW y a b n la L) s.heap := wR hP
  have hDc : va_D (fun _ => True) (bkW y a b n la L) := wRD hD0
  refine caXN (vx_runV (As := []) (rest := [.int 0, .ref o]) ⟨hx, hb, hml, hown, hts⟩ (c_X2_closeMonth l hlt G y a b n la L s.heap.size pd hpd t ht ht47  ) (cwV 0 hts gL_closeMonth_X2_closeMonth rfl rfl rfl (by decide +kernel) ⟨Nat.le_of_ble_eq_true rfl, Nat.le_of_ble_eq_true rfl⟩) ⟨xP_bl, va_recv hK.1 hPc (ci := 2) (q0 := 0) rfl rfl, fun U hU hW => ⟨rfl, by rw [hU], by rw [hU]; exact hPc, Kb.moved hW hK, hDc, by rw [hU]; exact Zs.moved hW.alike (hZ.narrow hFc)⟩⟩ rfl rfl hl.1 rfl (lv_room (Nat.le_of_ble_eq_true rfl)) dL_closeMonth_3 ⟨Nat.le_of_ble_eq_true rfl, Nat.le_of_ble_eq_true rfl⟩) hS hFc hFc (fun E ce q9 H locs hE hP1 hD1 hk1 hS hce hcv hcl => ?_) (fun u H locs hX hP1 hD1 hk1 hS => ?_)
  · obtain ⟨rfl, hne⟩ := hE
    obtain ⟨hP, hD⟩ := joinW hPj hDj hk1 hP1 hD1 hFc
    rcases rg_closeMonth n t b L pd 0 with h9 | h9 
    · exact absurd h9 hne
    · rw [show exN (xClose t) = "java/lang/IllegalStateException" by rw [h9]; rfl] at hcl
      refine vx_catch (E := "java/lang/IllegalStateException") (name := "java/lang/IllegalStateException") hown [] ⟨0, 8, 11, 25⟩ [] (by rw [htab]; rfl) (fun z hz => nomatch hz) (by decide) (by decide) (hts (.classLink RL 25 "java/lang/IllegalStateException") (by decide +kernel)) (va_Nw.use rfl (hK.2.2.1 ("java/lang/IllegalStateException", "java/lang/IllegalStateException") (by decide +kernel))) hce hcv hcl ?_
      refine lv_astore_n (lv' := [(2, .ref q9), (0, .ref (a 13)), (1, .ref o)]) hx hb dL_closeMonth_11 rfl hl (by decide) rfl (fun ls hl => ?_)
      refine lv_iconst (v := 1) hx hb dL_closeMonth_12 (by decide) ?_
      exact W.iret (v := 1) hx hb hr (fun t ht hW => ⟨⟨(), by rw [h9]; rfl, trivial, by rw [if_neg hne, ht]; exact hP, by rw [if_neg hne]; exact hD⟩, hS.F ht⟩) hS.2.2 dL_closeMonth_13
  · have hX : (xClose t) = 0 := hX
    obtain ⟨hP, hD⟩ := joinW hPj hDj hk1 hP1 hD1 hFc
    refine lv_i2l (x := nI (t + 1)) hx hb dL_closeMonth_6 rfl ?_
    refine va_last (f := f) hx hb hK.1 hP hD hS 0 4 rfl rfl (show vp_in (nI 0) 1 from vp_in_nI (by decide) (by decide)) dL_closeMonth_7 (fun H locs hP hD hS => ?_)
    refine lv_goto (tgt := 14) hx hb dL_closeMonth_8 (by decide) ?_
    refine lv_iconst (v := 0) hx hb dL_closeMonth_14 (by decide) ?_
    exact W.iret (v := 0) hx hb hr (fun t ht hW => ⟨⟨(), by rw [hX]; rfl, trivial, by rw [if_pos hX, ht]; exact hP, by rw [if_pos hX]; exact hD⟩, hS.F ht⟩) hS.2.2 dL_closeMonth_15
set_option maxHeartbeats 4000000 in
set_option maxRecDepth 100000 in
theorem rg_left (n t : Nat) (b : MS) (L : LNS) (pd : Nat → Nat) (x : Int32) : ((if mIn x 0 (nI n - 1) = 0 then 1 else 0)) = 0 ∨ ((if mIn x 0 (nI n - 1) = 0 then 1 else 0)) = 1 := by
  exact rgBE
set_option maxHeartbeats 4000000 in
set_option maxRecDepth 100000 in
theorem c_L_left (l : Launch) (hlt : l.stackTraces = false) (G : va_G) (y : Nat → ClassId) (a : Nat → Nat) (b : MS) (n : Nat) (la : Nat → Nat → Nat) (L : LNS) (o : Nat) (f : Nat → Int64) (sz : Nat) (hn24 : n ≤ 24) (pd : Nat → Nat) (hpd : ∀ k, k < n → L k 0 7 = nI (pd k) ∧ pd k ≤ 6) (x : Int32) : Met l yL_left wsL_left ({ frames := 7, cells := 1, slots := 6, locals := 104 }) (xP G y [.ref (a 13), .int x, .ref o] (oW y o f ++ bkW y a b n la L) sz) (mQ G (fun _ : Unit => some (.int (lC 1 0 0 ((if mIn x 0 (nI n - 1) = 0 then 1 else 0))))) (fun _ => True) (fun _ => if ((if mIn x 0 (nI n - 1) = 0 then 1 else 0)) = 0 then (oW y o (oU f (lUnp (L (cn x)) (pd (cn x)))) ++ bkW y a b n la L) else (oW y o f ++ bkW y a b n la L)) (va_A (oW y o f ++ bkW y a b n la L) sz)) 1 6 (va_A (oW y o f ++ bkW y a b n la L) sz) := by
  refine va_MetW (cc := cL_left) (maxL := 4) (ret := (some .int)) (by decide) rfl ?_
  intro p e s m args below meth c s₁ B hml hv
  obtain ⟨rfl, hsz, hP, hK, hD0, hZ⟩ := hv
  have hx := B.exec
  have hb := B.bytes
  have hr := B.returns
  have hts := atoms_spec (ws := wsL_left) B.pre
  have hown : s.vm.findClass RL = some m.cls := findClass_of_methodNamed B.named
  have htab := vx_table (x := yL_left) B (hts _ (List.mem_cons_self))
  subst hsz
  have hD := hD0.self (sz := s.heap.size)
  generalize hAe : va_A (oW y o f ++ bkW y a b n la L) s.heap.size = A at hD hZ ⊢
  have hA : ∀ q : Nat, s.heap.size ≤ q → A q := fun q h => by rw [← hAe]; exact Or.inr h
  have hS : va_S A s.heap s.heap [] := va_S.rf
  have hP : va_P G vwCl (oW y o f ++ bkW y a b n la L) s.heap := hP
  have hl := lv_entry ([.ref (a 13), .int x, .ref o]) (n := 4) (Nat.le_of_ble_eq_true rfl)
  rw [lg_entry_eq]
  generalize (lg_sl ([.ref (a 13), .int x, .ref o]) ++ List.replicate (4 - (lg_sl ([.ref (a 13), .int x, .ref o])).length) Slot.unset).toArray = ls at hl ⊢
  have hl : lv_has ls 4 [(0, .ref (a 13)), (1, .int x), (2, .ref o)] := hl
  refine lv_aload_n hx hb dL_left_0 rfl (lv_at hl 2 rfl) ?_
  refine lv_iconst (v := 0) hx hb dL_left_1 (by decide) ?_
  refine lv_aload_n hx hb dL_left_2 rfl (lv_at hl 0 rfl) ?_
  refine lv_iload_n hx hb dL_left_3 rfl (lv_at hl 1 rfl) ?_
  have hPj := hP
  have hDj := hD
  have hFc : ∀ q, va_A (bkW y a b n la L) s.heap.size q → A q := freeR hD hS hA
  have hPc : va_P G vwCl (bkW y a b n la L) s.heap := wR hP
  have hDc : va_D (fun _ => True) (bkW y a b n la L) := wRD hD0
  refine caXN (vx_runV (As := [.int x]) (rest := [.int 0, .ref o]) ⟨hx, hb, hml, hown, hts⟩ (c_X2_left l hlt G y a b n la L s.heap.size hn24 pd hpd x ) (cwV 1 hts gL_left_X2_left rfl rfl rfl (by decide +kernel) ⟨Nat.le_of_ble_eq_true rfl, Nat.le_of_ble_eq_true rfl⟩) ⟨xP_bl, va_recv hK.1 hPc (ci := 2) (q0 := 0) rfl rfl, fun U hU hW => ⟨rfl, by rw [hU], by rw [hU]; exact hPc, Kb.moved hW hK, hDc, by rw [hU]; exact Zs.moved hW.alike (hZ.narrow hFc)⟩⟩ rfl rfl hl.1 rfl (lv_room (Nat.le_of_ble_eq_true rfl)) dL_left_4 ⟨Nat.le_of_ble_eq_true rfl, Nat.le_of_ble_eq_true rfl⟩) hS hFc hFc (fun E ce q9 H locs hE hP1 hD1 hk1 hS hce hcv hcl => ?_) (fun u H locs hX hP1 hD1 hk1 hS => ?_)
  · obtain ⟨rfl, hne⟩ := hE
    obtain ⟨hP, hD⟩ := joinW hPj hDj hk1 hP1 hD1 hFc
    rcases rg_left n 0 b L pd x with h9 | h9 
    · exact absurd h9 hne
    · rw [show exN ((if mIn x 0 (nI n - 1) = 0 then 1 else 0)) = "java/lang/IndexOutOfBoundsException" by rw [h9]; rfl] at hcl
      refine vx_catch (E := "java/lang/IndexOutOfBoundsException") (name := "java/lang/IndexOutOfBoundsException") hown [] ⟨0, 9, 12, 13⟩ [] (by rw [htab]; rfl) (fun z hz => nomatch hz) (by decide) (by decide) (hts (.classLink RL 13 "java/lang/IndexOutOfBoundsException") (by decide +kernel)) (va_Nw.use rfl (hK.2.2.1 ("java/lang/IndexOutOfBoundsException", "java/lang/IndexOutOfBoundsException") (by decide +kernel))) hce hcv hcl ?_
      refine lv_astore_n (lv' := [(3, .ref q9), (0, .ref (a 13)), (1, .int x), (2, .ref o)]) hx hb dL_left_12 rfl hl (by decide) rfl (fun ls hl => ?_)
      refine lv_iconst (v := 1) hx hb dL_left_13 (by decide) ?_
      exact W.iret (v := 1) hx hb hr (fun t ht hW => ⟨⟨(), by rw [h9]; rfl, trivial, by rw [if_neg hne, ht]; exact hP, by rw [if_neg hne]; exact hD⟩, hS.F ht⟩) hS.2.2 dL_left_14
  · have hX : ((if mIn x 0 (nI n - 1) = 0 then 1 else 0)) = 0 := hX
    obtain ⟨hP, hD⟩ := joinW hPj hDj hk1 hP1 hD1 hFc
    refine lv_i2l (x := lUnp (L (cn x)) (pd (cn x))) hx hb dL_left_7 rfl ?_
    refine va_last (f := f) hx hb hK.1 hP hD hS 0 4 rfl rfl (show vp_in (nI 0) 1 from vp_in_nI (by decide) (by decide)) dL_left_8 (fun H locs hP hD hS => ?_)
    refine lv_goto (tgt := 15) hx hb dL_left_9 (by decide) ?_
    refine lv_iconst (v := 0) hx hb dL_left_15 (by decide) ?_
    exact W.iret (v := 0) hx hb hr (fun t ht hW => ⟨⟨(), by rw [hX]; rfl, trivial, by rw [if_pos hX, ht]; exact hP, by rw [if_pos hX]; exact hD⟩, hS.F ht⟩) hS.2.2 dL_left_16
set_option maxHeartbeats 4000000 in
set_option maxRecDepth 100000 in
theorem rg_bears (n t : Nat) (b : MS) (L : LNS) (pd : Nat → Nat) (x w : Int32) : (xBears n x w) = 0 ∨ (xBears n x w) = 1 ∨ (xBears n x w) = 2 := by
  unfold xBears
  repeat (first | (left; rfl) | (right; rfl) | (right; left; rfl) | (right; right; rfl) | (right; right; left; rfl) | (right; right; right; rfl) | split)
set_option maxHeartbeats 4000000 in
set_option maxRecDepth 100000 in
theorem c_L_bears (l : Launch) (hlt : l.stackTraces = false) (G : va_G) (y : Nat → ClassId) (a : Nat → Nat) (b : MS) (n : Nat) (la : Nat → Nat → Nat) (L : LNS) (o : Nat) (f : Nat → Int64) (sz : Nat) (hn24 : n ≤ 24) (pd : Nat → Nat) (hpd : ∀ k, k < n → L k 0 7 = nI (pd k) ∧ pd k ≤ 6) (x w : Int32) : Met l yL_bears wsL_bears ({ frames := 7, cells := 1, slots := 6, locals := 105 }) (xP G y [.ref (a 13), .int x, .int w, .ref o] (oW y o f ++ bkW y a b n la L) sz) (mQ G (fun _ : Unit => some (.int (lC 1 2 0 (xBears n x w)))) (fun _ => True) (fun _ => if (xBears n x w) = 0 then (oW y o (oU f (bBear (L (cn x)) (pd (cn x)) w)) ++ bkW y a b n la L) else (oW y o f ++ bkW y a b n la L)) (va_A (oW y o f ++ bkW y a b n la L) sz)) 1 6 (va_A (oW y o f ++ bkW y a b n la L) sz) := by
  refine va_MetW (cc := cL_bears) (maxL := 5) (ret := (some .int)) (by decide) rfl ?_
  intro p e s m args below meth c s₁ B hml hv
  obtain ⟨rfl, hsz, hP, hK, hD0, hZ⟩ := hv
  have hx := B.exec
  have hb := B.bytes
  have hr := B.returns
  have hts := atoms_spec (ws := wsL_bears) B.pre
  have hown : s.vm.findClass RL = some m.cls := findClass_of_methodNamed B.named
  have htab := vx_table (x := yL_bears) B (hts _ (List.mem_cons_self))
  subst hsz
  have hD := hD0.self (sz := s.heap.size)
  generalize hAe : va_A (oW y o f ++ bkW y a b n la L) s.heap.size = A at hD hZ ⊢
  have hA : ∀ q : Nat, s.heap.size ≤ q → A q := fun q h => by rw [← hAe]; exact Or.inr h
  have hS : va_S A s.heap s.heap [] := va_S.rf
  have hP : va_P G vwCl (oW y o f ++ bkW y a b n la L) s.heap := hP
  have hl := lv_entry ([.ref (a 13), .int x, .int w, .ref o]) (n := 5) (Nat.le_of_ble_eq_true rfl)
  rw [lg_entry_eq]
  generalize (lg_sl ([.ref (a 13), .int x, .int w, .ref o]) ++ List.replicate (5 - (lg_sl ([.ref (a 13), .int x, .int w, .ref o])).length) Slot.unset).toArray = ls at hl ⊢
  have hl : lv_has ls 5 [(0, .ref (a 13)), (1, .int x), (2, .int w), (3, .ref o)] := hl
  refine lv_aload_n hx hb dL_bears_0 rfl (lv_at hl 3 rfl) ?_
  refine lv_iconst (v := 0) hx hb dL_bears_1 (by decide) ?_
  refine lv_aload_n hx hb dL_bears_2 rfl (lv_at hl 0 rfl) ?_
  refine lv_iload_n hx hb dL_bears_3 rfl (lv_at hl 1 rfl) ?_
  refine lv_iload_n hx hb dL_bears_4 rfl (lv_at hl 2 rfl) ?_
  have hPj := hP
  have hDj := hD
  have hFc : ∀ q, va_A (bkW y a b n la L) s.heap.size q → A q := freeR hD hS hA
  have hPc : va_P G vwCl (bkW y a b n la L) s.heap := wR hP
  have hDc : va_D (fun _ => True) (bkW y a b n la L) := wRD hD0
  refine caXN (vx_runV (As := [.int x, .int w]) (rest := [.int 0, .ref o]) ⟨hx, hb, hml, hown, hts⟩ (c_X2_bears l hlt G y a b n la L s.heap.size hn24 pd hpd x w ) (cwV 2 hts gL_bears_X2_bears rfl rfl rfl (by decide +kernel) ⟨Nat.le_of_ble_eq_true rfl, Nat.le_of_ble_eq_true rfl⟩) ⟨xP_bl, va_recv hK.1 hPc (ci := 2) (q0 := 0) rfl rfl, fun U hU hW => ⟨rfl, by rw [hU], by rw [hU]; exact hPc, Kb.moved hW hK, hDc, by rw [hU]; exact Zs.moved hW.alike (hZ.narrow hFc)⟩⟩ rfl rfl hl.1 rfl (lv_room (Nat.le_of_ble_eq_true rfl)) dL_bears_5 ⟨Nat.le_of_ble_eq_true rfl, Nat.le_of_ble_eq_true rfl⟩) hS hFc hFc (fun E ce q9 H locs hE hP1 hD1 hk1 hS hce hcv hcl => ?_) (fun u H locs hX hP1 hD1 hk1 hS => ?_)
  · obtain ⟨rfl, hne⟩ := hE
    obtain ⟨hP, hD⟩ := joinW hPj hDj hk1 hP1 hD1 hFc
    rcases rg_bears n 0 b L pd x w with h9 | h9 | h9 
    · exact absurd h9 hne
    · rw [show exN (xBears n x w) = "java/lang/IndexOutOfBoundsException" by rw [h9]; rfl] at hcl
      refine vx_catch (E := "java/lang/IndexOutOfBoundsException") (name := "java/lang/IndexOutOfBoundsException") hown [] ⟨0, 10, 13, 13⟩ [⟨0, 10, 17, 15⟩] (by rw [htab]; rfl) (fun z hz => nomatch hz) (by decide) (by decide) (hts (.classLink RL 13 "java/lang/IndexOutOfBoundsException") (by decide +kernel)) (va_Nw.use rfl (hK.2.2.1 ("java/lang/IndexOutOfBoundsException", "java/lang/IndexOutOfBoundsException") (by decide +kernel))) hce hcv hcl ?_
      refine lv_astore (lv' := [(4, .ref q9), (0, .ref (a 13)), (1, .int x), (2, .int w), (3, .ref o)]) hx hb dL_bears_13 hl (by decide) rfl (fun ls hl => ?_)
      refine lv_iconst (v := 1) hx hb dL_bears_15 (by decide) ?_
      exact W.iret (v := 1) hx hb hr (fun t ht hW => ⟨⟨(), by rw [h9]; rfl, trivial, by rw [if_neg hne, ht]; exact hP, by rw [if_neg hne]; exact hD⟩, hS.F ht⟩) hS.2.2 dL_bears_16
    · rw [show exN (xBears n x w) = "java/lang/IllegalArgumentException" by rw [h9]; rfl] at hcl
      refine vx_catch (E := "java/lang/IllegalArgumentException") (name := "java/lang/IllegalArgumentException") hown [⟨0, 10, 13, 13⟩] ⟨0, 10, 17, 15⟩ [] (by rw [htab]; rfl) (fun z hz => by
        have hz2 : z = ⟨0, 10, 13, 13⟩ := by simpa using hz
        subst hz2
        exact Or.inr ⟨by decide, "java/lang/IndexOutOfBoundsException", hts (.classLink RL 13 "java/lang/IndexOutOfBoundsException") (by decide +kernel), hK.2.2.2.2.1 ("java/lang/IllegalArgumentException", "java/lang/IndexOutOfBoundsException") (by decide +kernel)⟩) (by decide) (by decide) (hts (.classLink RL 15 "java/lang/IllegalArgumentException") (by decide +kernel)) (va_Nw.use rfl (hK.2.2.1 ("java/lang/IllegalArgumentException", "java/lang/IllegalArgumentException") (by decide +kernel))) hce hcv hcl ?_
      refine lv_astore (lv' := [(4, .ref q9), (0, .ref (a 13)), (1, .int x), (2, .int w), (3, .ref o)]) hx hb dL_bears_17 hl (by decide) rfl (fun ls hl => ?_)
      refine lv_iconst (v := 2) hx hb dL_bears_19 (by decide) ?_
      exact W.iret (v := 2) hx hb hr (fun t ht hW => ⟨⟨(), by rw [h9]; rfl, trivial, by rw [if_neg hne, ht]; exact hP, by rw [if_neg hne]; exact hD⟩, hS.F ht⟩) hS.2.2 dL_bears_20
  · have hX : (xBears n x w) = 0 := hX
    obtain ⟨hP, hD⟩ := joinW hPj hDj hk1 hP1 hD1 hFc
    refine lv_i2l (x := bBear (L (cn x)) (pd (cn x)) w) hx hb dL_bears_8 rfl ?_
    refine va_last (f := f) hx hb hK.1 hP hD hS 0 4 rfl rfl (show vp_in (nI 0) 1 from vp_in_nI (by decide) (by decide)) dL_bears_9 (fun H locs hP hD hS => ?_)
    refine lv_goto (tgt := 21) hx hb dL_bears_10 (by decide) ?_
    refine lv_iconst (v := 0) hx hb dL_bears_21 (by decide) ?_
    exact W.iret (v := 0) hx hb hr (fun t ht hW => ⟨⟨(), by rw [hX]; rfl, trivial, by rw [if_pos hX, ht]; exact hP, by rw [if_pos hX]; exact hD⟩, hS.F ht⟩) hS.2.2 dL_bears_22
set_option maxHeartbeats 4000000 in
set_option maxRecDepth 100000 in
theorem rg_due (n t : Nat) (b : MS) (L : LNS) (pd : Nat → Nat) (x : Int32) : (xDue x) = 0 ∨ (xDue x) = 2 := by
  unfold xDue
  repeat (first | (left; rfl) | (right; rfl) | (right; left; rfl) | (right; right; rfl) | (right; right; left; rfl) | (right; right; right; rfl) | split)
set_option maxHeartbeats 4000000 in
set_option maxRecDepth 100000 in
theorem c_L_due (l : Launch) (hlt : l.stackTraces = false) (G : va_G) (y : Nat → ClassId) (a : Nat → Nat) (b : MS) (n : Nat) (la : Nat → Nat → Nat) (L : LNS) (o : Nat) (f : Nat → Int64) (sz : Nat) (pd : Nat → Nat) (hpd : ∀ k, k < n → L k 0 7 = nI (pd k) ∧ pd k ≤ 6) (x : Int32) : Met l yL_due wsL_due ({ frames := 7, cells := 1, slots := 6, locals := 108 }) (xP G y [.ref (a 13), .int x, .ref o] (oW y o f ++ bkW y a b n la L) sz) (mQ G (fun _ : Unit => some (.int (lC 0 1 0 (xDue x)))) (fun _ => True) (fun _ => if (xDue x) = 0 then (oW y o (oU f (S32 (bSm n (bDu L pd (cn x))) 24)) ++ bkW y a b n la L) else (oW y o f ++ bkW y a b n la L)) (va_A (oW y o f ++ bkW y a b n la L) sz)) 1 6 (va_A (oW y o f ++ bkW y a b n la L) sz) := by
  refine va_MetW (cc := cL_due) (maxL := 4) (ret := (some .int)) (by decide) rfl ?_
  intro p e s m args below meth c s₁ B hml hv
  obtain ⟨rfl, hsz, hP, hK, hD0, hZ⟩ := hv
  have hx := B.exec
  have hb := B.bytes
  have hr := B.returns
  have hts := atoms_spec (ws := wsL_due) B.pre
  have hown : s.vm.findClass RL = some m.cls := findClass_of_methodNamed B.named
  have htab := vx_table (x := yL_due) B (hts _ (List.mem_cons_self))
  subst hsz
  have hD := hD0.self (sz := s.heap.size)
  generalize hAe : va_A (oW y o f ++ bkW y a b n la L) s.heap.size = A at hD hZ ⊢
  have hA : ∀ q : Nat, s.heap.size ≤ q → A q := fun q h => by rw [← hAe]; exact Or.inr h
  have hS : va_S A s.heap s.heap [] := va_S.rf
  have hP : va_P G vwCl (oW y o f ++ bkW y a b n la L) s.heap := hP
  have hl := lv_entry ([.ref (a 13), .int x, .ref o]) (n := 4) (Nat.le_of_ble_eq_true rfl)
  rw [lg_entry_eq]
  generalize (lg_sl ([.ref (a 13), .int x, .ref o]) ++ List.replicate (4 - (lg_sl ([.ref (a 13), .int x, .ref o])).length) Slot.unset).toArray = ls at hl ⊢
  have hl : lv_has ls 4 [(0, .ref (a 13)), (1, .int x), (2, .ref o)] := hl
  refine lv_aload_n hx hb dL_due_0 rfl (lv_at hl 2 rfl) ?_
  refine lv_iconst (v := 0) hx hb dL_due_1 (by decide) ?_
  refine lv_aload_n hx hb dL_due_2 rfl (lv_at hl 0 rfl) ?_
  refine lv_iload_n hx hb dL_due_3 rfl (lv_at hl 1 rfl) ?_
  have hPj := hP
  have hDj := hD
  have hFc : ∀ q, va_A (bkW y a b n la L) s.heap.size q → A q := freeR hD hS hA
  have hPc : va_P G vwCl (bkW y a b n la L) s.heap := wR hP
  have hDc : va_D (fun _ => True) (bkW y a b n la L) := wRD hD0
  refine caXN (vx_runV (As := [.int x]) (rest := [.int 0, .ref o]) ⟨hx, hb, hml, hown, hts⟩ (c_X2_due l hlt G y a b n la L s.heap.size pd hpd x ) (cwV 1 hts gL_due_X2_due rfl rfl rfl (by decide +kernel) ⟨Nat.le_of_ble_eq_true rfl, Nat.le_of_ble_eq_true rfl⟩) ⟨xP_bl, va_recv hK.1 hPc (ci := 2) (q0 := 0) rfl rfl, fun U hU hW => ⟨rfl, by rw [hU], by rw [hU]; exact hPc, Kb.moved hW hK, hDc, by rw [hU]; exact Zs.moved hW.alike (hZ.narrow hFc)⟩⟩ rfl rfl hl.1 rfl (lv_room (Nat.le_of_ble_eq_true rfl)) dL_due_4 ⟨Nat.le_of_ble_eq_true rfl, Nat.le_of_ble_eq_true rfl⟩) hS hFc hFc (fun E ce q9 H locs hE hP1 hD1 hk1 hS hce hcv hcl => ?_) (fun u H locs hX hP1 hD1 hk1 hS => ?_)
  · obtain ⟨rfl, hne⟩ := hE
    obtain ⟨hP, hD⟩ := joinW hPj hDj hk1 hP1 hD1 hFc
    rcases rg_due n 0 b L pd x with h9 | h9 
    · exact absurd h9 hne
    · rw [show exN (xDue x) = "java/lang/IllegalArgumentException" by rw [h9]; rfl] at hcl
      refine vx_catch (E := "java/lang/IllegalArgumentException") (name := "java/lang/IllegalArgumentException") hown [] ⟨0, 9, 12, 15⟩ [] (by rw [htab]; rfl) (fun z hz => nomatch hz) (by decide) (by decide) (hts (.classLink RL 15 "java/lang/IllegalArgumentException") (by decide +kernel)) (va_Nw.use rfl (hK.2.2.1 ("java/lang/IllegalArgumentException", "java/lang/IllegalArgumentException") (by decide +kernel))) hce hcv hcl ?_
      refine lv_astore_n (lv' := [(3, .ref q9), (0, .ref (a 13)), (1, .int x), (2, .ref o)]) hx hb dL_due_12 rfl hl (by decide) rfl (fun ls hl => ?_)
      refine lv_iconst (v := 1) hx hb dL_due_13 (by decide) ?_
      exact W.iret (v := 1) hx hb hr (fun t ht hW => ⟨⟨(), by rw [h9]; rfl, trivial, by rw [if_neg hne, ht]; exact hP, by rw [if_neg hne]; exact hD⟩, hS.F ht⟩) hS.2.2 dL_due_14
  · have hX : (xDue x) = 0 := hX
    obtain ⟨hP, hD⟩ := joinW hPj hDj hk1 hP1 hD1 hFc
    refine lv_i2l (x := S32 (bSm n (bDu L pd (cn x))) 24) hx hb dL_due_7 rfl ?_
    refine va_last (f := f) hx hb hK.1 hP hD hS 0 4 rfl rfl (show vp_in (nI 0) 1 from vp_in_nI (by decide) (by decide)) dL_due_8 (fun H locs hP hD hS => ?_)
    refine lv_goto (tgt := 15) hx hb dL_due_9 (by decide) ?_
    refine lv_iconst (v := 0) hx hb dL_due_15 (by decide) ?_
    exact W.iret (v := 0) hx hb hr (fun t ht hW => ⟨⟨(), by rw [hX]; rfl, trivial, by rw [if_pos hX, ht]; exact hP, by rw [if_pos hX]; exact hD⟩, hS.F ht⟩) hS.2.2 dL_due_16
set_option maxHeartbeats 4000000 in
set_option maxRecDepth 100000 in
theorem rg_balance (n t : Nat) (b : MS) (L : LNS) (pd : Nat → Nat) (x : Int32) : (x3 x) = 0 ∨ (x3 x) = 1 := by
  unfold x3
  repeat (first | (left; rfl) | (right; rfl) | (right; left; rfl) | (right; right; rfl) | (right; right; left; rfl) | (right; right; right; rfl) | split)
set_option maxHeartbeats 4000000 in
set_option maxRecDepth 100000 in
theorem c_L_balance (l : Launch) (hlt : l.stackTraces = false) (G : va_G) (y : Nat → ClassId) (a : Nat → Nat) (b : MS) (n : Nat) (la : Nat → Nat → Nat) (L : LNS) (o : Nat) (f : Nat → Int64) (sz : Nat) (x : Int32) : Met l yL_balance wsL_balance ({ frames := 7, cells := 1, slots := 6, locals := 103 }) (xP G y [.ref (a 13), .int x, .ref o] (oW y o f ++ bkW y a b n la L) sz) (mQ G (fun _ : Unit => some (.int (lC 1 0 0 (x3 x)))) (fun _ => True) (fun _ => if (x3 x) = 0 then (oW y o (oU f (b 7 (cn x))) ++ bkW y a b n la L) else (oW y o f ++ bkW y a b n la L)) (va_A (oW y o f ++ bkW y a b n la L) sz)) 1 6 (va_A (oW y o f ++ bkW y a b n la L) sz) := by
  refine va_MetW (cc := cL_balance) (maxL := 4) (ret := (some .int)) (by decide) rfl ?_
  intro p e s m args below meth c s₁ B hml hv
  obtain ⟨rfl, hsz, hP, hK, hD0, hZ⟩ := hv
  have hx := B.exec
  have hb := B.bytes
  have hr := B.returns
  have hts := atoms_spec (ws := wsL_balance) B.pre
  have hown : s.vm.findClass RL = some m.cls := findClass_of_methodNamed B.named
  have htab := vx_table (x := yL_balance) B (hts _ (List.mem_cons_self))
  subst hsz
  have hD := hD0.self (sz := s.heap.size)
  generalize hAe : va_A (oW y o f ++ bkW y a b n la L) s.heap.size = A at hD hZ ⊢
  have hA : ∀ q : Nat, s.heap.size ≤ q → A q := fun q h => by rw [← hAe]; exact Or.inr h
  have hS : va_S A s.heap s.heap [] := va_S.rf
  have hP : va_P G vwCl (oW y o f ++ bkW y a b n la L) s.heap := hP
  have hl := lv_entry ([.ref (a 13), .int x, .ref o]) (n := 4) (Nat.le_of_ble_eq_true rfl)
  rw [lg_entry_eq]
  generalize (lg_sl ([.ref (a 13), .int x, .ref o]) ++ List.replicate (4 - (lg_sl ([.ref (a 13), .int x, .ref o])).length) Slot.unset).toArray = ls at hl ⊢
  have hl : lv_has ls 4 [(0, .ref (a 13)), (1, .int x), (2, .ref o)] := hl
  refine lv_aload_n hx hb dL_balance_0 rfl (lv_at hl 2 rfl) ?_
  refine lv_iconst (v := 0) hx hb dL_balance_1 (by decide) ?_
  refine lv_aload_n hx hb dL_balance_2 rfl (lv_at hl 0 rfl) ?_
  refine lv_iload_n hx hb dL_balance_3 rfl (lv_at hl 1 rfl) ?_
  have hPj := hP
  have hDj := hD
  have hFc : ∀ q, va_A (bkW y a b n la L) s.heap.size q → A q := freeR hD hS hA
  have hPc : va_P G vwCl (bkW y a b n la L) s.heap := wR hP
  have hDc : va_D (fun _ => True) (bkW y a b n la L) := wRD hD0
  refine caXN (vx_runV (As := [.int x]) (rest := [.int 0, .ref o]) ⟨hx, hb, hml, hown, hts⟩ (c_X2_balance l hlt G y a b n la L s.heap.size  x ) (cwV 1 hts gL_balance_X2_balance rfl rfl rfl (by decide +kernel) ⟨Nat.le_of_ble_eq_true rfl, Nat.le_of_ble_eq_true rfl⟩) ⟨xP_bl, va_recv hK.1 hPc (ci := 2) (q0 := 0) rfl rfl, fun U hU hW => ⟨rfl, by rw [hU], by rw [hU]; exact hPc, Kb.moved hW hK, hDc, by rw [hU]; exact Zs.moved hW.alike (hZ.narrow hFc)⟩⟩ rfl rfl hl.1 rfl (lv_room (Nat.le_of_ble_eq_true rfl)) dL_balance_4 ⟨Nat.le_of_ble_eq_true rfl, Nat.le_of_ble_eq_true rfl⟩) hS hFc hFc (fun E ce q9 H locs hE hP1 hD1 hk1 hS hce hcv hcl => ?_) (fun u H locs hX hP1 hD1 hk1 hS => ?_)
  · obtain ⟨rfl, hne⟩ := hE
    obtain ⟨hP, hD⟩ := joinW hPj hDj hk1 hP1 hD1 hFc
    rcases rg_balance n 0 b L (fun _ => 0) x with h9 | h9 
    · exact absurd h9 hne
    · rw [show exN (x3 x) = "java/lang/IndexOutOfBoundsException" by rw [h9]; rfl] at hcl
      refine vx_catch (E := "java/lang/IndexOutOfBoundsException") (name := "java/lang/IndexOutOfBoundsException") hown [] ⟨0, 9, 12, 13⟩ [] (by rw [htab]; rfl) (fun z hz => nomatch hz) (by decide) (by decide) (hts (.classLink RL 13 "java/lang/IndexOutOfBoundsException") (by decide +kernel)) (va_Nw.use rfl (hK.2.2.1 ("java/lang/IndexOutOfBoundsException", "java/lang/IndexOutOfBoundsException") (by decide +kernel))) hce hcv hcl ?_
      refine lv_astore_n (lv' := [(3, .ref q9), (0, .ref (a 13)), (1, .int x), (2, .ref o)]) hx hb dL_balance_12 rfl hl (by decide) rfl (fun ls hl => ?_)
      refine lv_iconst (v := 1) hx hb dL_balance_13 (by decide) ?_
      exact W.iret (v := 1) hx hb hr (fun t ht hW => ⟨⟨(), by rw [h9]; rfl, trivial, by rw [if_neg hne, ht]; exact hP, by rw [if_neg hne]; exact hD⟩, hS.F ht⟩) hS.2.2 dL_balance_14
  · have hX : (x3 x) = 0 := hX
    obtain ⟨hP, hD⟩ := joinW hPj hDj hk1 hP1 hD1 hFc
    refine lv_i2l (x := b 7 (cn x)) hx hb dL_balance_7 rfl ?_
    refine va_last (f := f) hx hb hK.1 hP hD hS 0 4 rfl rfl (show vp_in (nI 0) 1 from vp_in_nI (by decide) (by decide)) dL_balance_8 (fun H locs hP hD hS => ?_)
    refine lv_goto (tgt := 15) hx hb dL_balance_9 (by decide) ?_
    refine lv_iconst (v := 0) hx hb dL_balance_15 (by decide) ?_
    exact W.iret (v := 0) hx hb hr (fun t ht hW => ⟨⟨(), by rw [hX]; rfl, trivial, by rw [if_pos hX, ht]; exact hP, by rw [if_pos hX]; exact hD⟩, hS.F ht⟩) hS.2.2 dL_balance_16
set_option maxHeartbeats 4000000 in
set_option maxRecDepth 100000 in
theorem rg_tranche (n t : Nat) (b : MS) (L : LNS) (pd : Nat → Nat) (x : Int32) : (x6 x) = 0 ∨ (x6 x) = 1 := by
  unfold x6
  repeat (first | (left; rfl) | (right; rfl) | (right; left; rfl) | (right; right; rfl) | (right; right; left; rfl) | (right; right; right; rfl) | split)
set_option maxHeartbeats 4000000 in
set_option maxRecDepth 100000 in
theorem c_L_tranche (l : Launch) (hlt : l.stackTraces = false) (G : va_G) (y : Nat → ClassId) (a : Nat → Nat) (b : MS) (n : Nat) (la : Nat → Nat → Nat) (L : LNS) (o : Nat) (f : Nat → Int64) (sz : Nat) (x : Int32) : Met l yL_tranche wsL_tranche ({ frames := 7, cells := 1, slots := 6, locals := 103 }) (xP G y [.ref (a 13), .int x, .ref o] (oW y o f ++ bkW y a b n la L) sz) (mQ G (fun _ : Unit => some (.int (lC 1 0 0 (x6 x)))) (fun _ => True) (fun _ => if (x6 x) = 0 then (oW y o (oU f (b 14 (cn x))) ++ bkW y a b n la L) else (oW y o f ++ bkW y a b n la L)) (va_A (oW y o f ++ bkW y a b n la L) sz)) 1 6 (va_A (oW y o f ++ bkW y a b n la L) sz) := by
  refine va_MetW (cc := cL_tranche) (maxL := 4) (ret := (some .int)) (by decide) rfl ?_
  intro p e s m args below meth c s₁ B hml hv
  obtain ⟨rfl, hsz, hP, hK, hD0, hZ⟩ := hv
  have hx := B.exec
  have hb := B.bytes
  have hr := B.returns
  have hts := atoms_spec (ws := wsL_tranche) B.pre
  have hown : s.vm.findClass RL = some m.cls := findClass_of_methodNamed B.named
  have htab := vx_table (x := yL_tranche) B (hts _ (List.mem_cons_self))
  subst hsz
  have hD := hD0.self (sz := s.heap.size)
  generalize hAe : va_A (oW y o f ++ bkW y a b n la L) s.heap.size = A at hD hZ ⊢
  have hA : ∀ q : Nat, s.heap.size ≤ q → A q := fun q h => by rw [← hAe]; exact Or.inr h
  have hS : va_S A s.heap s.heap [] := va_S.rf
  have hP : va_P G vwCl (oW y o f ++ bkW y a b n la L) s.heap := hP
  have hl := lv_entry ([.ref (a 13), .int x, .ref o]) (n := 4) (Nat.le_of_ble_eq_true rfl)
  rw [lg_entry_eq]
  generalize (lg_sl ([.ref (a 13), .int x, .ref o]) ++ List.replicate (4 - (lg_sl ([.ref (a 13), .int x, .ref o])).length) Slot.unset).toArray = ls at hl ⊢
  have hl : lv_has ls 4 [(0, .ref (a 13)), (1, .int x), (2, .ref o)] := hl
  refine lv_aload_n hx hb dL_tranche_0 rfl (lv_at hl 2 rfl) ?_
  refine lv_iconst (v := 0) hx hb dL_tranche_1 (by decide) ?_
  refine lv_aload_n hx hb dL_tranche_2 rfl (lv_at hl 0 rfl) ?_
  refine lv_iload_n hx hb dL_tranche_3 rfl (lv_at hl 1 rfl) ?_
  have hPj := hP
  have hDj := hD
  have hFc : ∀ q, va_A (bkW y a b n la L) s.heap.size q → A q := freeR hD hS hA
  have hPc : va_P G vwCl (bkW y a b n la L) s.heap := wR hP
  have hDc : va_D (fun _ => True) (bkW y a b n la L) := wRD hD0
  refine caXN (vx_runV (As := [.int x]) (rest := [.int 0, .ref o]) ⟨hx, hb, hml, hown, hts⟩ (c_X2_tranche l hlt G y a b n la L s.heap.size  x ) (cwV 1 hts gL_tranche_X2_tranche rfl rfl rfl (by decide +kernel) ⟨Nat.le_of_ble_eq_true rfl, Nat.le_of_ble_eq_true rfl⟩) ⟨xP_bl, va_recv hK.1 hPc (ci := 2) (q0 := 0) rfl rfl, fun U hU hW => ⟨rfl, by rw [hU], by rw [hU]; exact hPc, Kb.moved hW hK, hDc, by rw [hU]; exact Zs.moved hW.alike (hZ.narrow hFc)⟩⟩ rfl rfl hl.1 rfl (lv_room (Nat.le_of_ble_eq_true rfl)) dL_tranche_4 ⟨Nat.le_of_ble_eq_true rfl, Nat.le_of_ble_eq_true rfl⟩) hS hFc hFc (fun E ce q9 H locs hE hP1 hD1 hk1 hS hce hcv hcl => ?_) (fun u H locs hX hP1 hD1 hk1 hS => ?_)
  · obtain ⟨rfl, hne⟩ := hE
    obtain ⟨hP, hD⟩ := joinW hPj hDj hk1 hP1 hD1 hFc
    rcases rg_tranche n 0 b L (fun _ => 0) x with h9 | h9 
    · exact absurd h9 hne
    · rw [show exN (x6 x) = "java/lang/IndexOutOfBoundsException" by rw [h9]; rfl] at hcl
      refine vx_catch (E := "java/lang/IndexOutOfBoundsException") (name := "java/lang/IndexOutOfBoundsException") hown [] ⟨0, 9, 12, 13⟩ [] (by rw [htab]; rfl) (fun z hz => nomatch hz) (by decide) (by decide) (hts (.classLink RL 13 "java/lang/IndexOutOfBoundsException") (by decide +kernel)) (va_Nw.use rfl (hK.2.2.1 ("java/lang/IndexOutOfBoundsException", "java/lang/IndexOutOfBoundsException") (by decide +kernel))) hce hcv hcl ?_
      refine lv_astore_n (lv' := [(3, .ref q9), (0, .ref (a 13)), (1, .int x), (2, .ref o)]) hx hb dL_tranche_12 rfl hl (by decide) rfl (fun ls hl => ?_)
      refine lv_iconst (v := 1) hx hb dL_tranche_13 (by decide) ?_
      exact W.iret (v := 1) hx hb hr (fun t ht hW => ⟨⟨(), by rw [h9]; rfl, trivial, by rw [if_neg hne, ht]; exact hP, by rw [if_neg hne]; exact hD⟩, hS.F ht⟩) hS.2.2 dL_tranche_14
  · have hX : (x6 x) = 0 := hX
    obtain ⟨hP, hD⟩ := joinW hPj hDj hk1 hP1 hD1 hFc
    refine lv_i2l (x := b 14 (cn x)) hx hb dL_tranche_7 rfl ?_
    refine va_last (f := f) hx hb hK.1 hP hD hS 0 4 rfl rfl (show vp_in (nI 0) 1 from vp_in_nI (by decide) (by decide)) dL_tranche_8 (fun H locs hP hD hS => ?_)
    refine lv_goto (tgt := 15) hx hb dL_tranche_9 (by decide) ?_
    refine lv_iconst (v := 0) hx hb dL_tranche_15 (by decide) ?_
    exact W.iret (v := 0) hx hb hr (fun t ht hW => ⟨⟨(), by rw [hX]; rfl, trivial, by rw [if_pos hX, ht]; exact hP, by rw [if_pos hX]; exact hD⟩, hS.F ht⟩) hS.2.2 dL_tranche_16
set_option maxHeartbeats 4000000 in
set_option maxRecDepth 100000 in
theorem rg_margin (n t : Nat) (b : MS) (L : LNS) (pd : Nat → Nat) (x mo : Int32) : (xMar t x mo) = 0 ∨ (xMar t x mo) = 1 := by
  unfold xMar
  repeat (first | (left; rfl) | (right; rfl) | (right; left; rfl) | (right; right; rfl) | (right; right; left; rfl) | (right; right; right; rfl) | split)
set_option maxHeartbeats 4000000 in
set_option maxRecDepth 100000 in
theorem c_L_margin (l : Launch) (hlt : l.stackTraces = false) (G : va_G) (y : Nat → ClassId) (a : Nat → Nat) (b : MS) (n : Nat) (la : Nat → Nat → Nat) (L : LNS) (o : Nat) (f : Nat → Int64) (sz : Nat) (t : Nat) (ht : b 13 4 = nI t) (ht47 : t ≤ 47) (x mo : Int32) : Met l yL_margin wsL_margin ({ frames := 7, cells := 1, slots := 6, locals := 104 }) (xP G y [.ref (a 13), .int x, .int mo, .ref o] (oW y o f ++ bkW y a b n la L) sz) (mQ G (fun _ : Unit => some (.int (lC 1 0 0 (xMar t x mo)))) (fun _ => True) (fun _ => if (xMar t x mo) = 0 then (oW y o (oU f (b (16 + cn x) (cn mo))) ++ bkW y a b n la L) else (oW y o f ++ bkW y a b n la L)) (va_A (oW y o f ++ bkW y a b n la L) sz)) 1 6 (va_A (oW y o f ++ bkW y a b n la L) sz) := by
  refine va_MetW (cc := cL_margin) (maxL := 5) (ret := (some .int)) (by decide) rfl ?_
  intro p e s m args below meth c s₁ B hml hv
  obtain ⟨rfl, hsz, hP, hK, hD0, hZ⟩ := hv
  have hx := B.exec
  have hb := B.bytes
  have hr := B.returns
  have hts := atoms_spec (ws := wsL_margin) B.pre
  have hown : s.vm.findClass RL = some m.cls := findClass_of_methodNamed B.named
  have htab := vx_table (x := yL_margin) B (hts _ (List.mem_cons_self))
  subst hsz
  have hD := hD0.self (sz := s.heap.size)
  generalize hAe : va_A (oW y o f ++ bkW y a b n la L) s.heap.size = A at hD hZ ⊢
  have hA : ∀ q : Nat, s.heap.size ≤ q → A q := fun q h => by rw [← hAe]; exact Or.inr h
  have hS : va_S A s.heap s.heap [] := va_S.rf
  have hP : va_P G vwCl (oW y o f ++ bkW y a b n la L) s.heap := hP
  have hl := lv_entry ([.ref (a 13), .int x, .int mo, .ref o]) (n := 5) (Nat.le_of_ble_eq_true rfl)
  rw [lg_entry_eq]
  generalize (lg_sl ([.ref (a 13), .int x, .int mo, .ref o]) ++ List.replicate (5 - (lg_sl ([.ref (a 13), .int x, .int mo, .ref o])).length) Slot.unset).toArray = ls at hl ⊢
  have hl : lv_has ls 5 [(0, .ref (a 13)), (1, .int x), (2, .int mo), (3, .ref o)] := hl
  refine lv_aload_n hx hb dL_margin_0 rfl (lv_at hl 3 rfl) ?_
  refine lv_iconst (v := 0) hx hb dL_margin_1 (by decide) ?_
  refine lv_aload_n hx hb dL_margin_2 rfl (lv_at hl 0 rfl) ?_
  refine lv_iload_n hx hb dL_margin_3 rfl (lv_at hl 1 rfl) ?_
  refine lv_iload_n hx hb dL_margin_4 rfl (lv_at hl 2 rfl) ?_
  have hPj := hP
  have hDj := hD
  have hFc : ∀ q, va_A (bkW y a b n la L) s.heap.size q → A q := freeR hD hS hA
  have hPc : va_P G vwCl (bkW y a b n la L) s.heap := wR hP
  have hDc : va_D (fun _ => True) (bkW y a b n la L) := wRD hD0
  refine caXN (vx_runV (As := [.int x, .int mo]) (rest := [.int 0, .ref o]) ⟨hx, hb, hml, hown, hts⟩ (c_X2_margin l hlt G y a b n la L s.heap.size t ht ht47 x mo ) (cwV 2 hts gL_margin_X2_margin rfl rfl rfl (by decide +kernel) ⟨Nat.le_of_ble_eq_true rfl, Nat.le_of_ble_eq_true rfl⟩) ⟨xP_bl, va_recv hK.1 hPc (ci := 2) (q0 := 0) rfl rfl, fun U hU hW => ⟨rfl, by rw [hU], by rw [hU]; exact hPc, Kb.moved hW hK, hDc, by rw [hU]; exact Zs.moved hW.alike (hZ.narrow hFc)⟩⟩ rfl rfl hl.1 rfl (lv_room (Nat.le_of_ble_eq_true rfl)) dL_margin_5 ⟨Nat.le_of_ble_eq_true rfl, Nat.le_of_ble_eq_true rfl⟩) hS hFc hFc (fun E ce q9 H locs hE hP1 hD1 hk1 hS hce hcv hcl => ?_) (fun u H locs hX hP1 hD1 hk1 hS => ?_)
  · obtain ⟨rfl, hne⟩ := hE
    obtain ⟨hP, hD⟩ := joinW hPj hDj hk1 hP1 hD1 hFc
    rcases rg_margin n t b L (fun _ => 0) x mo with h9 | h9 
    · exact absurd h9 hne
    · rw [show exN (xMar t x mo) = "java/lang/IndexOutOfBoundsException" by rw [h9]; rfl] at hcl
      refine vx_catch (E := "java/lang/IndexOutOfBoundsException") (name := "java/lang/IndexOutOfBoundsException") hown [] ⟨0, 10, 13, 13⟩ [] (by rw [htab]; rfl) (fun z hz => nomatch hz) (by decide) (by decide) (hts (.classLink RL 13 "java/lang/IndexOutOfBoundsException") (by decide +kernel)) (va_Nw.use rfl (hK.2.2.1 ("java/lang/IndexOutOfBoundsException", "java/lang/IndexOutOfBoundsException") (by decide +kernel))) hce hcv hcl ?_
      refine lv_astore (lv' := [(4, .ref q9), (0, .ref (a 13)), (1, .int x), (2, .int mo), (3, .ref o)]) hx hb dL_margin_13 hl (by decide) rfl (fun ls hl => ?_)
      refine lv_iconst (v := 1) hx hb dL_margin_15 (by decide) ?_
      exact W.iret (v := 1) hx hb hr (fun t ht hW => ⟨⟨(), by rw [h9]; rfl, trivial, by rw [if_neg hne, ht]; exact hP, by rw [if_neg hne]; exact hD⟩, hS.F ht⟩) hS.2.2 dL_margin_16
  · have hX : (xMar t x mo) = 0 := hX
    obtain ⟨hP, hD⟩ := joinW hPj hDj hk1 hP1 hD1 hFc
    refine lv_i2l (x := b (16 + cn x) (cn mo)) hx hb dL_margin_8 rfl ?_
    refine va_last (f := f) hx hb hK.1 hP hD hS 0 4 rfl rfl (show vp_in (nI 0) 1 from vp_in_nI (by decide) (by decide)) dL_margin_9 (fun H locs hP hD hS => ?_)
    refine lv_goto (tgt := 17) hx hb dL_margin_10 (by decide) ?_
    refine lv_iconst (v := 0) hx hb dL_margin_17 (by decide) ?_
    exact W.iret (v := 0) hx hb hr (fun t ht hW => ⟨⟨(), by rw [hX]; rfl, trivial, by rw [if_pos hX, ht]; exact hP, by rw [if_pos hX]; exact hD⟩, hS.F ht⟩) hS.2.2 dL_margin_18
set_option maxHeartbeats 4000000 in
set_option maxRecDepth 100000 in
theorem rg_byProduct (n t : Nat) (b : MS) (L : LNS) (pd : Nat → Nat) (x mo : Int32) : (xMar t x mo) = 0 ∨ (xMar t x mo) = 1 := by
  unfold xMar
  repeat (first | (left; rfl) | (right; rfl) | (right; left; rfl) | (right; right; rfl) | (right; right; left; rfl) | (right; right; right; rfl) | split)
set_option maxHeartbeats 4000000 in
set_option maxRecDepth 100000 in
theorem c_L_byProduct (l : Launch) (hlt : l.stackTraces = false) (G : va_G) (y : Nat → ClassId) (a : Nat → Nat) (b : MS) (n : Nat) (la : Nat → Nat → Nat) (L : LNS) (o : Nat) (f : Nat → Int64) (sz : Nat) (t : Nat) (ht : b 13 4 = nI t) (ht47 : t ≤ 47) (x mo : Int32) : Met l yL_byProduct wsL_byProduct ({ frames := 7, cells := 1, slots := 6, locals := 104 }) (xP G y [.ref (a 13), .int x, .int mo, .ref o] (oW y o f ++ bkW y a b n la L) sz) (mQ G (fun _ : Unit => some (.int (lC 1 0 0 (xMar t x mo)))) (fun _ => True) (fun _ => if (xMar t x mo) = 0 then (oW y o (oU f (b (19 + cn x) (cn mo))) ++ bkW y a b n la L) else (oW y o f ++ bkW y a b n la L)) (va_A (oW y o f ++ bkW y a b n la L) sz)) 1 6 (va_A (oW y o f ++ bkW y a b n la L) sz) := by
  refine va_MetW (cc := cL_byProduct) (maxL := 5) (ret := (some .int)) (by decide) rfl ?_
  intro p e s m args below meth c s₁ B hml hv
  obtain ⟨rfl, hsz, hP, hK, hD0, hZ⟩ := hv
  have hx := B.exec
  have hb := B.bytes
  have hr := B.returns
  have hts := atoms_spec (ws := wsL_byProduct) B.pre
  have hown : s.vm.findClass RL = some m.cls := findClass_of_methodNamed B.named
  have htab := vx_table (x := yL_byProduct) B (hts _ (List.mem_cons_self))
  subst hsz
  have hD := hD0.self (sz := s.heap.size)
  generalize hAe : va_A (oW y o f ++ bkW y a b n la L) s.heap.size = A at hD hZ ⊢
  have hA : ∀ q : Nat, s.heap.size ≤ q → A q := fun q h => by rw [← hAe]; exact Or.inr h
  have hS : va_S A s.heap s.heap [] := va_S.rf
  have hP : va_P G vwCl (oW y o f ++ bkW y a b n la L) s.heap := hP
  have hl := lv_entry ([.ref (a 13), .int x, .int mo, .ref o]) (n := 5) (Nat.le_of_ble_eq_true rfl)
  rw [lg_entry_eq]
  generalize (lg_sl ([.ref (a 13), .int x, .int mo, .ref o]) ++ List.replicate (5 - (lg_sl ([.ref (a 13), .int x, .int mo, .ref o])).length) Slot.unset).toArray = ls at hl ⊢
  have hl : lv_has ls 5 [(0, .ref (a 13)), (1, .int x), (2, .int mo), (3, .ref o)] := hl
  refine lv_aload_n hx hb dL_byProduct_0 rfl (lv_at hl 3 rfl) ?_
  refine lv_iconst (v := 0) hx hb dL_byProduct_1 (by decide) ?_
  refine lv_aload_n hx hb dL_byProduct_2 rfl (lv_at hl 0 rfl) ?_
  refine lv_iload_n hx hb dL_byProduct_3 rfl (lv_at hl 1 rfl) ?_
  refine lv_iload_n hx hb dL_byProduct_4 rfl (lv_at hl 2 rfl) ?_
  have hPj := hP
  have hDj := hD
  have hFc : ∀ q, va_A (bkW y a b n la L) s.heap.size q → A q := freeR hD hS hA
  have hPc : va_P G vwCl (bkW y a b n la L) s.heap := wR hP
  have hDc : va_D (fun _ => True) (bkW y a b n la L) := wRD hD0
  refine caXN (vx_runV (As := [.int x, .int mo]) (rest := [.int 0, .ref o]) ⟨hx, hb, hml, hown, hts⟩ (c_X2_byProduct l hlt G y a b n la L s.heap.size t ht ht47 x mo ) (cwV 2 hts gL_byProduct_X2_byProduct rfl rfl rfl (by decide +kernel) ⟨Nat.le_of_ble_eq_true rfl, Nat.le_of_ble_eq_true rfl⟩) ⟨xP_bl, va_recv hK.1 hPc (ci := 2) (q0 := 0) rfl rfl, fun U hU hW => ⟨rfl, by rw [hU], by rw [hU]; exact hPc, Kb.moved hW hK, hDc, by rw [hU]; exact Zs.moved hW.alike (hZ.narrow hFc)⟩⟩ rfl rfl hl.1 rfl (lv_room (Nat.le_of_ble_eq_true rfl)) dL_byProduct_5 ⟨Nat.le_of_ble_eq_true rfl, Nat.le_of_ble_eq_true rfl⟩) hS hFc hFc (fun E ce q9 H locs hE hP1 hD1 hk1 hS hce hcv hcl => ?_) (fun u H locs hX hP1 hD1 hk1 hS => ?_)
  · obtain ⟨rfl, hne⟩ := hE
    obtain ⟨hP, hD⟩ := joinW hPj hDj hk1 hP1 hD1 hFc
    rcases rg_byProduct n t b L (fun _ => 0) x mo with h9 | h9 
    · exact absurd h9 hne
    · rw [show exN (xMar t x mo) = "java/lang/IndexOutOfBoundsException" by rw [h9]; rfl] at hcl
      refine vx_catch (E := "java/lang/IndexOutOfBoundsException") (name := "java/lang/IndexOutOfBoundsException") hown [] ⟨0, 10, 13, 13⟩ [] (by rw [htab]; rfl) (fun z hz => nomatch hz) (by decide) (by decide) (hts (.classLink RL 13 "java/lang/IndexOutOfBoundsException") (by decide +kernel)) (va_Nw.use rfl (hK.2.2.1 ("java/lang/IndexOutOfBoundsException", "java/lang/IndexOutOfBoundsException") (by decide +kernel))) hce hcv hcl ?_
      refine lv_astore (lv' := [(4, .ref q9), (0, .ref (a 13)), (1, .int x), (2, .int mo), (3, .ref o)]) hx hb dL_byProduct_13 hl (by decide) rfl (fun ls hl => ?_)
      refine lv_iconst (v := 1) hx hb dL_byProduct_15 (by decide) ?_
      exact W.iret (v := 1) hx hb hr (fun t ht hW => ⟨⟨(), by rw [h9]; rfl, trivial, by rw [if_neg hne, ht]; exact hP, by rw [if_neg hne]; exact hD⟩, hS.F ht⟩) hS.2.2 dL_byProduct_16
  · have hX : (xMar t x mo) = 0 := hX
    obtain ⟨hP, hD⟩ := joinW hPj hDj hk1 hP1 hD1 hFc
    refine lv_i2l (x := b (19 + cn x) (cn mo)) hx hb dL_byProduct_8 rfl ?_
    refine va_last (f := f) hx hb hK.1 hP hD hS 0 4 rfl rfl (show vp_in (nI 0) 1 from vp_in_nI (by decide) (by decide)) dL_byProduct_9 (fun H locs hP hD hS => ?_)
    refine lv_goto (tgt := 17) hx hb dL_byProduct_10 (by decide) ?_
    refine lv_iconst (v := 0) hx hb dL_byProduct_17 (by decide) ?_
    exact W.iret (v := 0) hx hb hr (fun t ht hW => ⟨⟨(), by rw [hX]; rfl, trivial, by rw [if_pos hX, ht]; exact hP, by rw [if_pos hX]; exact hD⟩, hS.F ht⟩) hS.2.2 dL_byProduct_18
set_option maxHeartbeats 4000000 in
set_option maxRecDepth 100000 in
theorem rg_treasury (n t : Nat) (b : MS) (L : LNS) (pd : Nat → Nat) (mo : Int32) : (xMo t mo) = 0 ∨ (xMo t mo) = 1 := by
  unfold xMo
  repeat (first | (left; rfl) | (right; rfl) | (right; left; rfl) | (right; right; rfl) | (right; right; left; rfl) | (right; right; right; rfl) | split)
set_option maxHeartbeats 4000000 in
set_option maxRecDepth 100000 in
theorem c_L_treasury (l : Launch) (hlt : l.stackTraces = false) (G : va_G) (y : Nat → ClassId) (a : Nat → Nat) (b : MS) (n : Nat) (la : Nat → Nat → Nat) (L : LNS) (o : Nat) (f : Nat → Int64) (sz : Nat) (t : Nat) (ht : b 13 4 = nI t) (ht47 : t ≤ 47) (mo : Int32) : Met l yL_treasury wsL_treasury ({ frames := 7, cells := 1, slots := 6, locals := 103 }) (xP G y [.ref (a 13), .int mo, .ref o] (oW y o f ++ bkW y a b n la L) sz) (mQ G (fun _ : Unit => some (.int (lC 1 0 0 (xMo t mo)))) (fun _ => True) (fun _ => if (xMo t mo) = 0 then (oW y o (oU f (b 11 (cn mo))) ++ bkW y a b n la L) else (oW y o f ++ bkW y a b n la L)) (va_A (oW y o f ++ bkW y a b n la L) sz)) 1 6 (va_A (oW y o f ++ bkW y a b n la L) sz) := by
  refine va_MetW (cc := cL_treasury) (maxL := 4) (ret := (some .int)) (by decide) rfl ?_
  intro p e s m args below meth c s₁ B hml hv
  obtain ⟨rfl, hsz, hP, hK, hD0, hZ⟩ := hv
  have hx := B.exec
  have hb := B.bytes
  have hr := B.returns
  have hts := atoms_spec (ws := wsL_treasury) B.pre
  have hown : s.vm.findClass RL = some m.cls := findClass_of_methodNamed B.named
  have htab := vx_table (x := yL_treasury) B (hts _ (List.mem_cons_self))
  subst hsz
  have hD := hD0.self (sz := s.heap.size)
  generalize hAe : va_A (oW y o f ++ bkW y a b n la L) s.heap.size = A at hD hZ ⊢
  have hA : ∀ q : Nat, s.heap.size ≤ q → A q := fun q h => by rw [← hAe]; exact Or.inr h
  have hS : va_S A s.heap s.heap [] := va_S.rf
  have hP : va_P G vwCl (oW y o f ++ bkW y a b n la L) s.heap := hP
  have hl := lv_entry ([.ref (a 13), .int mo, .ref o]) (n := 4) (Nat.le_of_ble_eq_true rfl)
  rw [lg_entry_eq]
  generalize (lg_sl ([.ref (a 13), .int mo, .ref o]) ++ List.replicate (4 - (lg_sl ([.ref (a 13), .int mo, .ref o])).length) Slot.unset).toArray = ls at hl ⊢
  have hl : lv_has ls 4 [(0, .ref (a 13)), (1, .int mo), (2, .ref o)] := hl
  refine lv_aload_n hx hb dL_treasury_0 rfl (lv_at hl 2 rfl) ?_
  refine lv_iconst (v := 0) hx hb dL_treasury_1 (by decide) ?_
  refine lv_aload_n hx hb dL_treasury_2 rfl (lv_at hl 0 rfl) ?_
  refine lv_iload_n hx hb dL_treasury_3 rfl (lv_at hl 1 rfl) ?_
  have hPj := hP
  have hDj := hD
  have hFc : ∀ q, va_A (bkW y a b n la L) s.heap.size q → A q := freeR hD hS hA
  have hPc : va_P G vwCl (bkW y a b n la L) s.heap := wR hP
  have hDc : va_D (fun _ => True) (bkW y a b n la L) := wRD hD0
  refine caXN (vx_runV (As := [.int mo]) (rest := [.int 0, .ref o]) ⟨hx, hb, hml, hown, hts⟩ (c_X2_treasury l hlt G y a b n la L s.heap.size t ht ht47 mo ) (cwV 1 hts gL_treasury_X2_treasury rfl rfl rfl (by decide +kernel) ⟨Nat.le_of_ble_eq_true rfl, Nat.le_of_ble_eq_true rfl⟩) ⟨xP_bl, va_recv hK.1 hPc (ci := 2) (q0 := 0) rfl rfl, fun U hU hW => ⟨rfl, by rw [hU], by rw [hU]; exact hPc, Kb.moved hW hK, hDc, by rw [hU]; exact Zs.moved hW.alike (hZ.narrow hFc)⟩⟩ rfl rfl hl.1 rfl (lv_room (Nat.le_of_ble_eq_true rfl)) dL_treasury_4 ⟨Nat.le_of_ble_eq_true rfl, Nat.le_of_ble_eq_true rfl⟩) hS hFc hFc (fun E ce q9 H locs hE hP1 hD1 hk1 hS hce hcv hcl => ?_) (fun u H locs hX hP1 hD1 hk1 hS => ?_)
  · obtain ⟨rfl, hne⟩ := hE
    obtain ⟨hP, hD⟩ := joinW hPj hDj hk1 hP1 hD1 hFc
    rcases rg_treasury n t b L (fun _ => 0) mo with h9 | h9 
    · exact absurd h9 hne
    · rw [show exN (xMo t mo) = "java/lang/IndexOutOfBoundsException" by rw [h9]; rfl] at hcl
      refine vx_catch (E := "java/lang/IndexOutOfBoundsException") (name := "java/lang/IndexOutOfBoundsException") hown [] ⟨0, 9, 12, 13⟩ [] (by rw [htab]; rfl) (fun z hz => nomatch hz) (by decide) (by decide) (hts (.classLink RL 13 "java/lang/IndexOutOfBoundsException") (by decide +kernel)) (va_Nw.use rfl (hK.2.2.1 ("java/lang/IndexOutOfBoundsException", "java/lang/IndexOutOfBoundsException") (by decide +kernel))) hce hcv hcl ?_
      refine lv_astore_n (lv' := [(3, .ref q9), (0, .ref (a 13)), (1, .int mo), (2, .ref o)]) hx hb dL_treasury_12 rfl hl (by decide) rfl (fun ls hl => ?_)
      refine lv_iconst (v := 1) hx hb dL_treasury_13 (by decide) ?_
      exact W.iret (v := 1) hx hb hr (fun t ht hW => ⟨⟨(), by rw [h9]; rfl, trivial, by rw [if_neg hne, ht]; exact hP, by rw [if_neg hne]; exact hD⟩, hS.F ht⟩) hS.2.2 dL_treasury_14
  · have hX : (xMo t mo) = 0 := hX
    obtain ⟨hP, hD⟩ := joinW hPj hDj hk1 hP1 hD1 hFc
    refine lv_i2l (x := b 11 (cn mo)) hx hb dL_treasury_7 rfl ?_
    refine va_last (f := f) hx hb hK.1 hP hD hS 0 4 rfl rfl (show vp_in (nI 0) 1 from vp_in_nI (by decide) (by decide)) dL_treasury_8 (fun H locs hP hD hS => ?_)
    refine lv_goto (tgt := 15) hx hb dL_treasury_9 (by decide) ?_
    refine lv_iconst (v := 0) hx hb dL_treasury_15 (by decide) ?_
    exact W.iret (v := 0) hx hb hr (fun t ht hW => ⟨⟨(), by rw [hX]; rfl, trivial, by rw [if_pos hX, ht]; exact hP, by rw [if_pos hX]; exact hD⟩, hS.F ht⟩) hS.2.2 dL_treasury_16
set_option maxHeartbeats 4000000 in
set_option maxRecDepth 100000 in
theorem rg_interest (n t : Nat) (b : MS) (L : LNS) (pd : Nat → Nat) (mo : Int32) : (xMo t mo) = 0 ∨ (xMo t mo) = 1 := by
  unfold xMo
  repeat (first | (left; rfl) | (right; rfl) | (right; left; rfl) | (right; right; rfl) | (right; right; left; rfl) | (right; right; right; rfl) | split)
set_option maxHeartbeats 4000000 in
set_option maxRecDepth 100000 in
theorem c_L_interest (l : Launch) (hlt : l.stackTraces = false) (G : va_G) (y : Nat → ClassId) (a : Nat → Nat) (b : MS) (n : Nat) (la : Nat → Nat → Nat) (L : LNS) (o : Nat) (f : Nat → Int64) (sz : Nat) (t : Nat) (ht : b 13 4 = nI t) (ht47 : t ≤ 47) (mo : Int32) : Met l yL_interest wsL_interest ({ frames := 7, cells := 1, slots := 6, locals := 103 }) (xP G y [.ref (a 13), .int mo, .ref o] (oW y o f ++ bkW y a b n la L) sz) (mQ G (fun _ : Unit => some (.int (lC 1 0 0 (xMo t mo)))) (fun _ => True) (fun _ => if (xMo t mo) = 0 then (oW y o (oU f (b 12 (cn mo))) ++ bkW y a b n la L) else (oW y o f ++ bkW y a b n la L)) (va_A (oW y o f ++ bkW y a b n la L) sz)) 1 6 (va_A (oW y o f ++ bkW y a b n la L) sz) := by
  refine va_MetW (cc := cL_interest) (maxL := 4) (ret := (some .int)) (by decide) rfl ?_
  intro p e s m args below meth c s₁ B hml hv
  obtain ⟨rfl, hsz, hP, hK, hD0, hZ⟩ := hv
  have hx := B.exec
  have hb := B.bytes
  have hr := B.returns
  have hts := atoms_spec (ws := wsL_interest) B.pre
  have hown : s.vm.findClass RL = some m.cls := findClass_of_methodNamed B.named
  have htab := vx_table (x := yL_interest) B (hts _ (List.mem_cons_self))
  subst hsz
  have hD := hD0.self (sz := s.heap.size)
  generalize hAe : va_A (oW y o f ++ bkW y a b n la L) s.heap.size = A at hD hZ ⊢
  have hA : ∀ q : Nat, s.heap.size ≤ q → A q := fun q h => by rw [← hAe]; exact Or.inr h
  have hS : va_S A s.heap s.heap [] := va_S.rf
  have hP : va_P G vwCl (oW y o f ++ bkW y a b n la L) s.heap := hP
  have hl := lv_entry ([.ref (a 13), .int mo, .ref o]) (n := 4) (Nat.le_of_ble_eq_true rfl)
  rw [lg_entry_eq]
  generalize (lg_sl ([.ref (a 13), .int mo, .ref o]) ++ List.replicate (4 - (lg_sl ([.ref (a 13), .int mo, .ref o])).length) Slot.unset).toArray = ls at hl ⊢
  have hl : lv_has ls 4 [(0, .ref (a 13)), (1, .int mo), (2, .ref o)] := hl
  refine lv_aload_n hx hb dL_interest_0 rfl (lv_at hl 2 rfl) ?_
  refine lv_iconst (v := 0) hx hb dL_interest_1 (by decide) ?_
  refine lv_aload_n hx hb dL_interest_2 rfl (lv_at hl 0 rfl) ?_
  refine lv_iload_n hx hb dL_interest_3 rfl (lv_at hl 1 rfl) ?_
  have hPj := hP
  have hDj := hD
  have hFc : ∀ q, va_A (bkW y a b n la L) s.heap.size q → A q := freeR hD hS hA
  have hPc : va_P G vwCl (bkW y a b n la L) s.heap := wR hP
  have hDc : va_D (fun _ => True) (bkW y a b n la L) := wRD hD0
  refine caXN (vx_runV (As := [.int mo]) (rest := [.int 0, .ref o]) ⟨hx, hb, hml, hown, hts⟩ (c_X2_interest l hlt G y a b n la L s.heap.size t ht ht47 mo ) (cwV 1 hts gL_interest_X2_interest rfl rfl rfl (by decide +kernel) ⟨Nat.le_of_ble_eq_true rfl, Nat.le_of_ble_eq_true rfl⟩) ⟨xP_bl, va_recv hK.1 hPc (ci := 2) (q0 := 0) rfl rfl, fun U hU hW => ⟨rfl, by rw [hU], by rw [hU]; exact hPc, Kb.moved hW hK, hDc, by rw [hU]; exact Zs.moved hW.alike (hZ.narrow hFc)⟩⟩ rfl rfl hl.1 rfl (lv_room (Nat.le_of_ble_eq_true rfl)) dL_interest_4 ⟨Nat.le_of_ble_eq_true rfl, Nat.le_of_ble_eq_true rfl⟩) hS hFc hFc (fun E ce q9 H locs hE hP1 hD1 hk1 hS hce hcv hcl => ?_) (fun u H locs hX hP1 hD1 hk1 hS => ?_)
  · obtain ⟨rfl, hne⟩ := hE
    obtain ⟨hP, hD⟩ := joinW hPj hDj hk1 hP1 hD1 hFc
    rcases rg_interest n t b L (fun _ => 0) mo with h9 | h9 
    · exact absurd h9 hne
    · rw [show exN (xMo t mo) = "java/lang/IndexOutOfBoundsException" by rw [h9]; rfl] at hcl
      refine vx_catch (E := "java/lang/IndexOutOfBoundsException") (name := "java/lang/IndexOutOfBoundsException") hown [] ⟨0, 9, 12, 13⟩ [] (by rw [htab]; rfl) (fun z hz => nomatch hz) (by decide) (by decide) (hts (.classLink RL 13 "java/lang/IndexOutOfBoundsException") (by decide +kernel)) (va_Nw.use rfl (hK.2.2.1 ("java/lang/IndexOutOfBoundsException", "java/lang/IndexOutOfBoundsException") (by decide +kernel))) hce hcv hcl ?_
      refine lv_astore_n (lv' := [(3, .ref q9), (0, .ref (a 13)), (1, .int mo), (2, .ref o)]) hx hb dL_interest_12 rfl hl (by decide) rfl (fun ls hl => ?_)
      refine lv_iconst (v := 1) hx hb dL_interest_13 (by decide) ?_
      exact W.iret (v := 1) hx hb hr (fun t ht hW => ⟨⟨(), by rw [h9]; rfl, trivial, by rw [if_neg hne, ht]; exact hP, by rw [if_neg hne]; exact hD⟩, hS.F ht⟩) hS.2.2 dL_interest_14
  · have hX : (xMo t mo) = 0 := hX
    obtain ⟨hP, hD⟩ := joinW hPj hDj hk1 hP1 hD1 hFc
    refine lv_i2l (x := b 12 (cn mo)) hx hb dL_interest_7 rfl ?_
    refine va_last (f := f) hx hb hK.1 hP hD hS 0 4 rfl rfl (show vp_in (nI 0) 1 from vp_in_nI (by decide) (by decide)) dL_interest_8 (fun H locs hP hD hS => ?_)
    refine lv_goto (tgt := 15) hx hb dL_interest_9 (by decide) ?_
    refine lv_iconst (v := 0) hx hb dL_interest_15 (by decide) ?_
    exact W.iret (v := 0) hx hb hr (fun t ht hW => ⟨⟨(), by rw [hX]; rfl, trivial, by rw [if_pos hX, ht]; exact hP, by rw [if_pos hX]; exact hD⟩, hS.F ht⟩) hS.2.2 dL_interest_16
