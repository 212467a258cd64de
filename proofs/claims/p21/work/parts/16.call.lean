/-! ===== calls beside a world (mine) ===== -/
section WR
variable {p : Program} {l : Launch} {e : Env} {R : Room} {s : State} {m : MethodId} {args : Array Value} {below : List Frame} {meth : Method} {c : Code} {H : Heap} {locs : List Loc} {cells slots : Nat} {Q : State → Prop}
variable {cc : ByteArray} {pc : Nat} {ls : Array Slot} {rest st0 : List Value} {G : va_G} {y : Nat → ClassId} {A A0 A1 : Nat → Prop} {H0 : Heap} {a : Nat → Nat} {mc ms : Nat} {free : Addr → Prop} {ag : Array Value}
theorem caXN {S : Type} {rv : S → Option Value} {post : S → Prop} {ws' : S → va_W} {pe : String → Prop} {wx : va_W} (hr : vx_Run p l e R s m args below meth c H locs cells slots mc ms (F0 m pc ls st0) rest (mQ G rv post ws' A1 ag) (xX G pe wx A1) free) (hS : va_S A0 H0 H locs) (hA : ∀ q, A1 q → A0 q) (hf : ∀ q, free q → A0 q)
    (kx : ∀ (E : String) (ce : Cell) (q9 : Addr) (H1 : Heap) (locs1 : List Loc), pe E → va_P G vwCl wx H1 → va_D A1 wx → (∀ q : Nat, q < H.size → ¬ A1 q → H1[q]? = H[q]?) → va_S A0 H0 H1 locs1 → H1[q9]? = some ce → ce.vm = .none → s.vm.findClass E = some ce.cls → vx_W p l e R s m args below meth c H1 locs1 (cells + mc) (slots + ms) Q (F0 m pc ls rest) q9)
    (kk : ∀ (u : S) (H1 : Heap) (locs1 : List Loc), post u → va_P G vwCl (ws' u) H1 → va_D A1 (ws' u) → (∀ q : Nat, q < H.size → ¬ A1 q → H1[q]? = H[q]?) → va_S A0 H0 H1 locs1 → W p l e R s m args below meth c H1 locs1 (cells + mc) (slots + ms) Q (F0 m (pc + 3) ls ((rv u).toList ++ rest))) : W p l e R s m args below meth c H locs cells slots Q (F0 m pc ls st0) := by
  intro T hT X
  rcases hr T hT X with ⟨v, st₀, t, T', L, h0, X', hL, e1, e2, ⟨⟨u, hv, hp, hb, hd⟩, hF⟩, st⟩ | ⟨q, st₀, t, T', L, E, ce, h0, X', hL, e1, e2, ⟨u, -, ⟨hp, hb, hd⟩, hF⟩, hce, hcv, hcl, st⟩
  · cases hv
    obtain ⟨k1, k2, k3⟩ := vx_keep h0 e1 hS (fun q _ h => hA q h) hf hL hF
    obtain ⟨t2, a1, b1⟩ := kk u T'.heap (locs ++ L) hp (by rw [e1]; exact hb) hd k2 k3 T' rfl X'
    exact ⟨t2, st t2 a1, b1⟩
  · obtain ⟨k1, k2, k3⟩ := vx_keep h0 e1 hS (fun q _ h => hA q h) hf hL hF
    obtain ⟨t2, a1, b1⟩ := kx E ce q T'.heap (locs ++ L) hp (by rw [e1]; exact hb) hd k2 k3 (by rw [e1]; exact hce) hcv hcl T' rfl X'
    exact ⟨t2, st.trans a1, b1⟩
end WR
theorem wR {G : va_G} {cl : List vw_C} {w1 w2 : va_W} {H : Heap} (h : va_P G cl (w1 ++ w2) H) : va_P G cl w2 H := fun k q hk => h (w1.length + k) q (by rw [List.getElem?_append_right (Nat.le_add_right _ _), Nat.add_sub_cancel_left]; exact hk)
theorem wRD {A : Nat → Prop} {w1 w2 : va_W} (h : va_D A (w1 ++ w2)) : va_D A w2 := by
  have hr : ∀ (k : Nat) (q : Nat × va_E), w2[k]? = some q → (w1 ++ w2)[w1.length + k]? = some q := fun k q hk => by rw [List.getElem?_append_right (Nat.le_add_right _ _), Nat.add_sub_cancel_left]; exact hk
  exact ⟨fun i j x z hi hj e => by have := h.1 _ _ x z (hr i x hi) (hr j z hj) e; omega, fun k q hk => h.2 _ q (hr k q hk)⟩
theorem rgBE {a : Int32} : (if a = 0 then 1 else 0 : Nat) = 0 ∨ (if a = 0 then 1 else 0 : Nat) = 1 := by split <;> simp
set_option maxHeartbeats 4000000 in
set_option maxRecDepth 100000 in
theorem rg_setCurve (n t : Nat) (b : MS) (L : LNS) (pd : Nat → Nat) (x r : Int32) : (xSetCurve x r) = 0 ∨ (xSetCurve x r) = 1 ∨ (xSetCurve x r) = 2 := by
  unfold xSetCurve
  repeat (first | (left; rfl) | (right; rfl) | (right; left; rfl) | (right; right; rfl) | (right; right; left; rfl) | (right; right; right; rfl) | split)
set_option maxHeartbeats 4000000 in
set_option maxRecDepth 100000 in
theorem rg_setRates (n t : Nat) (b : MS) (L : LNS) (pd : Nat → Nat) (d o9 c0 : Int32) : (xSetRates d o9 c0) = 0 ∨ (xSetRates d o9 c0) = 2 := by
  unfold xSetRates
  repeat (first | (left; rfl) | (right; rfl) | (right; left; rfl) | (right; right; rfl) | (right; right; left; rfl) | (right; right; right; rfl) | split)
set_option maxHeartbeats 4000000 in
set_option maxRecDepth 100000 in
theorem rg_lend (n t : Nat) (b : MS) (L : LNS) (pd : Nat → Nat) (br pr am rt mo op : Int32) : (xLend n br pr am rt mo) = 0 ∨ (xLend n br pr am rt mo) = 1 ∨ (xLend n br pr am rt mo) = 2 ∨ (xLend n br pr am rt mo) = 3 := by
  unfold xLend
  repeat (first | (left; rfl) | (right; rfl) | (right; left; rfl) | (right; right; rfl) | (right; right; left; rfl) | (right; right; right; rfl) | split)
set_option maxHeartbeats 4000000 in
set_option maxRecDepth 100000 in
theorem rg_repay (n t : Nat) (b : MS) (L : LNS) (pd : Nat → Nat) (x : Int32) : (xRepay n L pd x) = 0 ∨ (xRepay n L pd x) = 1 ∨ (xRepay n L pd x) = 3 := by
  unfold xRepay
  repeat (first | (left; rfl) | (right; rfl) | (right; left; rfl) | (right; right; rfl) | (right; right; left; rfl) | (right; right; right; rfl) | split)
set_option maxHeartbeats 4000000 in
set_option maxRecDepth 100000 in
theorem rg_deposit (n t : Nat) (b : MS) (L : LNS) (pd : Nat → Nat) (x ch : Int32) : (xDep b x ch) = 0 ∨ (xDep b x ch) = 1 ∨ (xDep b x ch) = 2 ∨ (xDep b x ch) = 3 := by
  unfold xDep
  repeat (first | (left; rfl) | (right; rfl) | (right; left; rfl) | (right; right; rfl) | (right; right; left; rfl) | (right; right; right; rfl) | split)
set_option maxHeartbeats 4000000 in
set_option maxRecDepth 100000 in
theorem rg_closeMonth (n t : Nat) (b : MS) (L : LNS) (pd : Nat → Nat) (z9 : Int32) : (xClose t) = 0 ∨ (xClose t) = 3 := by
  unfold xClose
  repeat (first | (left; rfl) | (right; rfl) | (right; left; rfl) | (right; right; rfl) | (right; right; left; rfl) | (right; right; right; rfl) | split)
set_option maxHeartbeats 4000000 in
set_option maxRecDepth 100000 in
theorem rg_left (n t : Nat) (b : MS) (L : LNS) (pd : Nat → Nat) (x : Int32) : ((if mIn x 0 (nI n - 1) = 0 then 1 else 0)) = 0 ∨ ((if mIn x 0 (nI n - 1) = 0 then 1 else 0)) = 1 := by
  exact rgBE
set_option maxHeartbeats 4000000 in
set_option maxRecDepth 100000 in
theorem rg_bears (n t : Nat) (b : MS) (L : LNS) (pd : Nat → Nat) (x w : Int32) : (xBears n x w) = 0 ∨ (xBears n x w) = 1 ∨ (xBears n x w) = 2 := by
  unfold xBears
  repeat (first | (left; rfl) | (right; rfl) | (right; left; rfl) | (right; right; rfl) | (right; right; left; rfl) | (right; right; right; rfl) | split)
set_option maxHeartbeats 4000000 in
set_option maxRecDepth 100000 in
theorem rg_due (n t : Nat) (b : MS) (L : LNS) (pd : Nat → Nat) (x : Int32) : (xDue x) = 0 ∨ (xDue x) = 2 := by
  unfold xDue
  repeat (first | (left; rfl) | (right; rfl) | (right; left; rfl) | (right; right; rfl) | (right; right; left; rfl) | (right; right; right; rfl) | split)
set_option maxHeartbeats 4000000 in
set_option maxRecDepth 100000 in
theorem rg_balance (n t : Nat) (b : MS) (L : LNS) (pd : Nat → Nat) (x : Int32) : (x3 x) = 0 ∨ (x3 x) = 1 := by
  unfold x3
  repeat (first | (left; rfl) | (right; rfl) | (right; left; rfl) | (right; right; rfl) | (right; right; left; rfl) | (right; right; right; rfl) | split)
set_option maxHeartbeats 4000000 in
set_option maxRecDepth 100000 in
theorem rg_tranche (n t : Nat) (b : MS) (L : LNS) (pd : Nat → Nat) (x : Int32) : (x6 x) = 0 ∨ (x6 x) = 1 := by
  unfold x6
  repeat (first | (left; rfl) | (right; rfl) | (right; left; rfl) | (right; right; rfl) | (right; right; left; rfl) | (right; right; right; rfl) | split)
set_option maxHeartbeats 4000000 in
set_option maxRecDepth 100000 in
theorem rg_margin (n t : Nat) (b : MS) (L : LNS) (pd : Nat → Nat) (x mo : Int32) : (xMar t x mo) = 0 ∨ (xMar t x mo) = 1 := by
  unfold xMar
  repeat (first | (left; rfl) | (right; rfl) | (right; left; rfl) | (right; right; rfl) | (right; right; left; rfl) | (right; right; right; rfl) | split)
set_option maxHeartbeats 4000000 in
set_option maxRecDepth 100000 in
theorem rg_byProduct (n t : Nat) (b : MS) (L : LNS) (pd : Nat → Nat) (x mo : Int32) : (xMar t x mo) = 0 ∨ (xMar t x mo) = 1 := by
  unfold xMar
  repeat (first | (left; rfl) | (right; rfl) | (right; left; rfl) | (right; right; rfl) | (right; right; left; rfl) | (right; right; right; rfl) | split)
set_option maxHeartbeats 4000000 in
set_option maxRecDepth 100000 in
theorem rg_treasury (n t : Nat) (b : MS) (L : LNS) (pd : Nat → Nat) (mo : Int32) : (xMo t mo) = 0 ∨ (xMo t mo) = 1 := by
  unfold xMo
  repeat (first | (left; rfl) | (right; rfl) | (right; left; rfl) | (right; right; rfl) | (right; right; left; rfl) | (right; right; right; rfl) | split)
set_option maxHeartbeats 4000000 in
set_option maxRecDepth 100000 in
theorem rg_interest (n t : Nat) (b : MS) (L : LNS) (pd : Nat → Nat) (mo : Int32) : (xMo t mo) = 0 ∨ (xMo t mo) = 1 := by
  unfold xMo
  repeat (first | (left; rfl) | (right; rfl) | (right; left; rfl) | (right; right; rfl) | (right; right; left; rfl) | (right; right; right; rfl) | split)
def bz (x : Int32) : Int32 := if x = 0 then 0 else 1
theorem bz01 {x : Int32} : bz x = 0 ∨ bz x = 1 := by unfold bz; split <;> simp
theorem swP {G : va_G} {cl : List vw_C} {w1 w2 : va_W} {H : Heap} (h : va_P G cl (w1 ++ w2) H) : va_P G cl (w2 ++ w1) H := va_P.swap (a := []) h
theorem swD {A : Nat → Prop} {w1 w2 : va_W} (h : va_D A (w1 ++ w2)) : va_D A (w2 ++ w1) := va_D.swap (a := []) h
theorem lcE {a b : Int64} (h : a = b) : lg_cmp a b = 0 := by subst h; unfold lg_cmp; simp [Int64.lt_irrefl]
