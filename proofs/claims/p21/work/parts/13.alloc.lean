/-! ===== making: arrays of known classes, a callee's new cells beside the caller's world (mine) ===== -/
section AL
variable {p : Program} {l : Launch} {e : Env} {R : Room} {s : State} {m : MethodId} {args : Array Value} {below : List Frame} {meth : Method} {c : Code} {H : Heap} {locs : List Loc} {cells slots : Nat} {Q : State → Prop}
variable {cc : ByteArray} {pc : Nat} {ls : Array Slot} {rest st0 : List Value} {G : va_G} {y : Nat → ClassId} {A A0 A1 : Nat → Prop} {H0 : Heap} {mc ms : Nat} {free : Addr → Prop} {ag : Array Value} {ws : va_W}
theorem last_ty {tys : List (ClassId × FieldType)} {cA : ClassId} {ty : FieldType} (h : va_K G vwCl (tys ++ [(cA, ty)]) s) : va_RA s cA ty :=
  (h.2 tys.length (cA, ty) (by rw [List.getElem?_append_right (Nat.le_refl _), Nat.sub_self]; rfl)).2
theorem nwI {x : Int32} {N : Nat} (hexec : p.tables.exec = Jvm.exec) (hb : c.code = cc) (harr : (Cond.arrayClass .int).before args s = true) (hK : Kb G y s) (hP : va_P G vwCl ws H) (hD : va_D A ws) (hS : va_S A H0 H locs) (hA : ∀ q, H0.size ≤ q → A q) (hx : x = nI N) (hN : N ≤ 1000) (hcells : cells + 1 ≤ R.cells) (hslots : slots + N ≤ R.slots) (hdg : decode cc pc = .ok (.newarray .int, 2))
    (kk : ∀ (q : Nat) (H1 : Heap), va_P G vwCl (ws ++ [(q, .inl (y 0, N, .inl (fun _ => 0)))]) H1 → va_D A (ws ++ [(q, .inl (y 0, N, .inl (fun _ => 0)))]) → va_S A H0 H1 locs → W p l e R s m args below meth c H1 locs (cells + 1) (slots + N) Q (F0 m (pc + 2) ls (.ref q :: rest))) : W p l e R s m args below meth c H locs cells slots Q (F0 m pc ls (.int x :: rest)) := by
  subst hx
  refine va_newa (atype := .int) (ty := .int) (a0 := (N, .inl (fun _ => 0))) hexec hb harr rfl hK.1 hP hD hS hA (fun _ => rfl) (nI_pos (by omega)) (nI_clamp (by omega)) (by show N * 4 ≤ _; omega) hcells hslots hdg (fun q cA H1 hk h1 h2 h3 => ?_)
  have e : cA = y 0 := Option.some.inj ((last_ty hk).symm.trans (hK.1.2 0 (y 0, .int) rfl).2)
  subst e
  exact kk q H1 h1 h2 h3
/-- a callee's answer, its new world as it left it -/
theorem caN {S : Type} {rv : S → Option Value} {post : S → Prop} {ws' : S → va_W} (hr : va_Run p l e R s m args below meth c H locs cells slots mc ms (F0 m pc ls st0) rest (mQ G rv post ws' A1 ag) free) (hS : va_S A0 H0 H locs) (hA : ∀ q, A1 q → A0 q) (hf : ∀ q, free q → A0 q)
    (kk : ∀ (u : S) (H1 : Heap) (locs1 : List Loc), post u → va_P G vwCl (ws' u) H1 → va_D A1 (ws' u) → (∀ q : Nat, q < H.size → ¬ A1 q → H1[q]? = H[q]?) → va_S A0 H0 H1 locs1 → W p l e R s m args below meth c H1 locs1 (cells + mc) (slots + ms) Q (F0 m (pc + 3) ls ((rv u).toList ++ rest))) : W p l e R s m args below meth c H locs cells slots Q (F0 m pc ls st0) := by
  intro T hT X
  obtain ⟨v, st₀, t, T', L, h0, X', hL, e1, e2, ⟨⟨u, hv, hp, hb, hd⟩, hz, hk⟩, st⟩ := hr T hT X
  cases hv
  rw [h0] at hz hk
  obtain ⟨t2, a1, b1⟩ := kk u T'.heap (locs ++ L) hp (by rw [e1]; exact hb) hd (fun q h1 h2 => by rw [e1]; exact hk q h1 h2)
    ⟨Nat.le_trans hS.1 (by rw [e1]; exact hz), fun q h1 h2 => by rw [e1, hk q (Nat.lt_of_lt_of_le h1 hS.1) (fun z => h2 (hA q z))]; exact hS.2.1 q h1 h2, fun q hq => by
      rcases List.mem_append.mp hq with h | h
      · exact hS.2.2 q h
      · exact hf _ (hL q h)⟩ T' rfl X'
  exact ⟨t2, st t2 a1, b1⟩
/-- beside a world that the callee didn't get: one that it made, or changed (wc: what it got) -/
theorem joinW {H1 : Heap} {wr wc w1 : va_W} (hP : va_P G vwCl (wr ++ wc) H) (hD : va_D A (wr ++ wc)) (hk : ∀ q : Nat, q < H.size → ¬ va_A wc H.size q → H1[q]? = H[q]?) (hP1 : va_P G vwCl w1 H1) (hD1 : va_D (va_A wc H.size) w1) (hF : ∀ q, va_A wc H.size q → A q) : va_P G vwCl (wr ++ w1) H1 ∧ va_D A (wr ++ w1) := by
  have hl : ∀ (k : Nat) (q : Nat × va_E), wr[k]? = some q → (wr ++ wc)[k]? = some q := fun k q h => by
    rw [List.getElem?_append_left (List.getElem?_eq_some_iff.mp h).1]; exact h
  have apart : ∀ (k : Nat) (q : Nat × va_E), wr[k]? = some q → q.1 < H.size ∧ ¬ va_A wc H.size q.1 := by
    intro k q hq
    have h2 := hl k q hq
    have h3 := (hP k q h2).lt
    refine ⟨h3, fun h => ?_⟩
    rcases h with ⟨k2, e2, h⟩ | h
    · have h4 : (wr ++ wc)[wr.length + k2]? = some (q.1, e2) := by rw [List.getElem?_append_right (Nat.le_add_right _ _), Nat.add_sub_cancel_left]; exact h
      have h5 := hD.1 k (wr.length + k2) q (q.1, e2) h2 h4 rfl
      have h6 := (List.getElem?_eq_some_iff.mp hq).1
      omega
    · exact absurd h (by omega)
  have hDr : va_D A wr := ⟨fun i j x z hi hj e => hD.1 i j x z (hl i x hi) (hl j z hj) e, fun k q hq => hD.2 k q (hl k q hq)⟩
  refine ⟨va_P.app (fun k q hq => ?_) hP1, va_D.app hDr (hD1.weaken (fun k q _ h => hF q.1 h)) (fun i j x z hx hz e => ?_)⟩
  · obtain ⟨g1, g2⟩ := apart k q hq
    exact (hP k q (hl k q hq)).kept (hk q.1 g1 g2)
  · exact (apart i x hx).2 (by rw [e]; exact hD1.2 j z hz)
end AL
theorem lrF_up {n : Nat} {la : Nat → Nat → Nat} {u : Nat → Nat} : va_up (lrF n la) n (some (u 0)) = lrF (n + 1) (fun i j => if i = n then u j else la i j) := by
  funext k
  unfold va_up lrF
  by_cases e : k = n
  · subst e
    rw [if_pos rfl, if_pos (by omega)]
    show some (u 0) = some (if k = k then u 0 else la k 0)
    rw [if_pos rfl]
  · rw [if_neg e]
    by_cases h : k < n
    · rw [if_pos h, if_pos (by omega)]
      show some (la k 0) = some (if k = n then u 0 else la k 0)
      rw [if_neg e]
    · rw [if_neg h, if_neg (by omega)]
/-- the n-th loan laid beside the others -/
theorem bk_add {y : Nat → ClassId} {a : Nat → Nat} {b : MS} {n : Nat} {la : Nat → Nat → Nat} {L : LNS} {u : Nat → Nat} {w : MS} :
    ((bkX y a b n la).set 2 (a 5, .inl (y 2, 24, .inr (.inr (.inr (.inr (va_up (lrF n la) n (some (u 0)))))))) ++ lnW y la L n) ++ [(u 0, .inr (0, [.int (w 0 0), .int (w 0 1), .int (w 0 2), .int (w 0 3), .int (w 0 4), .ref (u 1), .ref (u 2), .int (w 0 7)])), (u 1, .inl (y 0, 6, .inl (w 1))), (u 2, .inl (y 0, 6, .inl (w 2)))] = bkW y a b (n + 1) (fun i j => if i = n then u j else la i j) (fun i => if i = n then w else L i) := by
  rw [lrF_up, bkW, lnW, List.append_assoc, lnW_congr (la' := fun i j => if i = n then u j else la i j) (L' := fun i => if i = n then w else L i) (fun i hi => by funext j; exact (if_neg (by omega)).symm) (fun i hi => (if_neg (by omega)).symm)]
  simp [bkX, lnC, lnF]

section PM
variable {G : va_G} {cl : List vw_C} {A : Nat → Prop} {H : Heap} {W : va_W} {c0 c1 c2 c0' : Nat × va_E}
theorem appL {w1 w2 : va_W} (h : va_P G cl (w1 ++ w2) H) : va_P G cl w1 H := fun k q hk => h k q (by rw [List.getElem?_append_left (List.getElem?_eq_some_iff.mp hk).1]; exact hk)
theorem pm3P (h : va_P G cl (((W ++ [c1]) ++ [c0]) ++ [c2]) H) : va_P G cl (W ++ [c0, c1, c2]) H := by
  have h1 := appL h
  have h2 : va_P G cl ((W ++ [c0]) ++ [c1]) H := va_P.swap h1
  have h3 : va_P G cl [c2] H := fun k q hk => h (W.length + 2 + k) q (by
    rw [List.getElem?_append_right (by simp), show W.length + 2 + k - ((W ++ [c1]) ++ [c0]).length = k by simp]
    exact hk)
  have h4 := h2.app h3
  simpa using h4
theorem pm3D (h : va_D A (((W ++ [c1]) ++ [c0]) ++ [c2])) : va_D A (W ++ [c0, c1, c2]) := by
  have e1 : ((W ++ [c1]) ++ [c0]) ++ [c2] = (W ++ [c1]) ++ ([c0] ++ [c2]) := by simp
  rw [e1] at h
  have h2 := va_D.swap h
  have e2 : (W ++ ([c0] ++ [c2])) ++ [c1] = ((W ++ [c0]) ++ [c2]) ++ [c1] := by simp
  rw [e2] at h2
  have h3 := va_D.swap h2
  simpa using h3
theorem pm3g : (W ++ [c0, c1, c2])[W.length]? = some c0 := by simp
theorem pm3s : (W ++ [c0, c1, c2]).set W.length c0' = W ++ [c0', c1, c2] := by simp
end PM
/-- cutIntoParts: the row after k places -/
def cR (am pt : Int32) (M : Nat) : Nat → (Nat → Int32)
  | 0 => fun _ => 0
  | k + 1 => if nI M - 1 ≤ nI k then (if nI k = nI M - 1 then upd (cR am pt M k) k (am - pt * (nI M - 1)) else cR am pt M k) else upd (cR am pt M k) k pt
def bOr (b : MS) (op : Int32) : Int32 := if op = 0 then 0 else b 13 2
/-- a new loan's rows -/
def lNew (br pr rt op opr : Int32) (parts curve : Nat → Int32) : MS := fun j => if j = 0 then (fun k => if k = 0 then br else if k = 1 then pr else if k = 2 then rt else if k = 3 then op else if k = 4 then opr else 0) else if j = 1 then parts else curve
def u012 (q0 q1 q2 : Nat) : Nat → Nat := fun j => if j = 0 then q0 else if j = 1 then q1 else q2
abbrev lz0 : List Value := [.int 0, .int 0, .int 0, .int 0, .int 0, .null, .null, .int 0]
theorem vaP_nil {G : va_G} {cl : List vw_C} {H : Heap} : va_P G cl [] H := fun k q h => by simp at h
theorem vaD_nil {A : Nat → Prop} : va_D A [] := ⟨fun i j x z h => by simp at h, fun k q h => by simp at h⟩
theorem A_nil {sz q : Nat} (h : va_A [] sz q) : sz ≤ q := by
  rcases h with ⟨k, e, h⟩ | h
  · simp at h
  · exact h

