/-! ===== base (mine): abstract states, worlds, words that travel, contracts' forms, rows over them ===== -/
/-- one place of a table of rows -/
def u2 (v : Nat → Nat → Int32) (j k : Nat) (x : Int32) : Nat → Nat → Int32 := fun j' => if j' = j then upd (v j) k x else v j'
theorem u2_s {v : Nat → Nat → Int32} {j k : Nat} {x : Int32} : u2 v j k x j k = x := by simp [u2, upd]
theorem u2_j {v : Nat → Nat → Int32} {j k j' : Nat} {x : Int32} (h : j' ≠ j) : u2 v j k x j' = v j' := if_neg h
theorem u2_k {v : Nat → Nat → Int32} {j k k' : Nat} {x : Int32} (h : k' ≠ k) : u2 v j k x j k' = v j k' := by simp [u2, upd, h]
theorem u2_jk {v : Nat → Nat → Int32} {j k j' k' : Nat} {x : Int32} (h : j' ≠ j ∨ k' ≠ k) : u2 v j k x j' k' = v j' k' := by
  by_cases e : j' = j
  · subst e
    exact u2_k (h.resolve_left (fun z => z rfl))
  · rw [u2_j e]
/-- one row of a table of rows -/
def u1 (v : Nat → Nat → Int32) (j : Nat) (g : Nat → Int32) : Nat → Nat → Int32 := fun j' => if j' = j then g else v j'

/-- the book: its object (a 13), its rows; n loans, loan i at la i 0, its rows at la i 1, la i 2 -/
def bkF (a : Nat → Nat) (b : Nat → Nat → Int32) : List Value := [.ref (a 0), .int (b 13 1), .int (b 13 2), .int (b 13 3), .int (b 13 4), .ref (a 5), .int (b 13 6), .ref (a 7), .ref (a 8), .ref (a 9), .ref (a 10), .ref (a 11), .ref (a 12)]
def lrF (n : Nat) (la : Nat → Nat → Nat) : Nat → Option Nat := fun i => if i < n then some (la i 0) else none
def bkX (y : Nat → ClassId) (a : Nat → Nat) (b : Nat → Nat → Int32) (n : Nat) (la : Nat → Nat → Nat) : va_W := [(a 13, .inr (2, bkF a b)), (a 0, .inl (y 0, 6, .inl (b 0))), (a 5, .inl (y 2, 24, .inr (.inr (.inr (.inr (lrF n la)))))), (a 7, .inl (y 0, 3, .inl (b 7))), (a 8, .inr (1, [.ref (a 14), .ref (a 15)])), (a 14, .inl (y 0, 6, .inl (b 14))), (a 15, .inl (y 0, 6, .inl (b 15))), (a 9, .inl (y 3, 3, .inr (.inr (.inr (.inr (fun i => if i < 3 then some (a (16 + i)) else none)))))), (a 16, .inl (y 0, 47, .inl (b 16))), (a 17, .inl (y 0, 47, .inl (b 17))), (a 18, .inl (y 0, 47, .inl (b 18))), (a 10, .inl (y 3, 3, .inr (.inr (.inr (.inr (fun i => if i < 3 then some (a (19 + i)) else none)))))), (a 19, .inl (y 0, 47, .inl (b 19))), (a 20, .inl (y 0, 47, .inl (b 20))), (a 21, .inl (y 0, 47, .inl (b 21))), (a 11, .inl (y 0, 47, .inl (b 11))), (a 12, .inl (y 0, 47, .inl (b 12)))]
def lnF (la : Nat → Nat → Nat) (L : Nat → Nat → Nat → Int32) (i : Nat) : List Value := [.int (L i 0 0), .int (L i 0 1), .int (L i 0 2), .int (L i 0 3), .int (L i 0 4), .ref (la i 1), .ref (la i 2), .int (L i 0 7)]
def lnC (y : Nat → ClassId) (la : Nat → Nat → Nat) (L : Nat → Nat → Nat → Int32) (i : Nat) : va_W := [(la i 0, .inr (0, lnF la L i)), (la i 1, .inl (y 0, 6, .inl (L i 1))), (la i 2, .inl (y 0, 6, .inl (L i 2)))]
def lnW (y : Nat → ClassId) (la : Nat → Nat → Nat) (L : Nat → Nat → Nat → Int32) : Nat → va_W
  | 0 => []
  | n + 1 => lnW y la L n ++ lnC y la L n
def bkW (y : Nat → ClassId) (a : Nat → Nat) (b : Nat → Nat → Int32) (n : Nat) (la : Nat → Nat → Nat) (L : Nat → Nat → Nat → Int32) : va_W := bkX y a b n la ++ lnW y la L n
theorem lnW_len {y : Nat → ClassId} {la : Nat → Nat → Nat} {L : Nat → Nat → Nat → Int32} : ∀ n : Nat, (lnW y la L n).length = 3 * n
  | 0 => rfl
  | n + 1 => by rw [lnW, List.length_append, lnW_len n]; rfl
theorem lnW_get {y : Nat → ClassId} {la : Nat → Nat → Nat} {L : Nat → Nat → Nat → Int32} {i j : Nat} (hj : j < 3) : ∀ {n : Nat}, i < n → (lnW y la L n)[3 * i + j]? = (lnC y la L i)[j]?
  | 0, h => absurd h (Nat.not_lt_zero _)
  | n + 1, h => by
    rw [lnW]
    by_cases e : i = n
    · subst e
      rw [List.getElem?_append_right (by rw [lnW_len]; omega), lnW_len, show 3 * i + j - 3 * i = j by omega]
    · rw [List.getElem?_append_left (by rw [lnW_len]; omega)]
      exact lnW_get hj (by omega)
theorem bkW_get {y : Nat → ClassId} {a : Nat → Nat} {b : Nat → Nat → Int32} {n : Nat} {la : Nat → Nat → Nat} {L : Nat → Nat → Nat → Int32} {i : Nat} (h : i < n) (j : Nat) (hj : j < 3) : (bkW y a b n la L)[17 + 3 * i + j]? = (lnC y la L i)[j]? := by
  rw [bkW, List.getElem?_append_right (by simp [bkX]; omega), show (bkX y a b n la).length = 17 from rfl, show 17 + 3 * i + j - 17 = 3 * i + j by omega]
  exact lnW_get hj h
theorem lnW_congr {y : Nat → ClassId} {la la' : Nat → Nat → Nat} {L L' : Nat → Nat → Nat → Int32} : ∀ {n : Nat}, (∀ i, i < n → la i = la' i) → (∀ i, i < n → L i = L' i) → lnW y la L n = lnW y la' L' n
  | 0, _, _ => rfl
  | n + 1, h1, h2 => by
    rw [lnW, lnW, lnW_congr (fun i hi => h1 i (by omega)) (fun i hi => h2 i (by omega))]
    simp only [lnC, lnF, h1 n (by omega), h2 n (by omega)]
/-- loan i's count of parts paid -/
def u3 (L : Nat → Nat → Nat → Int32) (i : Nat) (x : Int32) : Nat → Nat → Nat → Int32 := fun i' => if i' = i then u2 (L i) 0 7 x else L i'
theorem lnW_set {y : Nat → ClassId} {la : Nat → Nat → Nat} {L : Nat → Nat → Nat → Int32} {i : Nat} {x : Int32} : ∀ {n : Nat}, i < n → (lnW y la L n).set (3 * i) (la i 0, .inr (0, (lnF la L i).set 7 (.int x))) = lnW y la (u3 L i x) n
  | 0, h => absurd h (Nat.not_lt_zero _)
  | n + 1, h => by
    rw [lnW, lnW]
    by_cases e : i = n
    · subst e
      rw [List.set_append_right _ _ (by rw [lnW_len]; omega), lnW_len, Nat.sub_self, lnW_congr (la' := la) (L' := u3 L i x) (fun _ _ => rfl) (fun j hj => by simp [u3, show j ≠ i by omega])]
      congr 1
      simp [lnC, lnF, u3, u2, upd]
    · rw [List.set_append_left _ _ (by rw [lnW_len]; omega), lnW_set (by omega)]
      congr 1
      simp [lnC, lnF, u3, show n ≠ i by omega]
theorem bkW_set {y : Nat → ClassId} {a : Nat → Nat} {b : Nat → Nat → Int32} {n : Nat} {la : Nat → Nat → Nat} {L : Nat → Nat → Nat → Int32} {i : Nat} {x : Int32} (h : i < n) : (bkW y a b n la L).set (17 + 3 * i) (la i 0, .inr (0, (lnF la L i).set 7 (.int x))) = bkW y a b n la (u3 L i x) := by
  rw [bkW, List.set_append_right _ _ (show 17 ≤ 17 + 3 * i by omega), show (bkX y a b n la).length = 17 from rfl, show 17 + 3 * i - 17 = 3 * i by omega, lnW_set h, bkW]

/-- words of nest mates: they travel with the machine, but are no good words -/
def twH : List Cond := [.methodLinkNest "FundBook" 40 ⟨"FundBook$Replica", "<init>", "()V"⟩ "FundBook", .fieldLinkNest "FundBook" 171 "FundBook$Replica" "amounts" "[I" "FundBook", .methodLinkNest "FundBook" 107 ⟨"FundBook$Loan", "unpaid", "()I"⟩ "FundBook", .methodLinkNest "FundBook" 117 ⟨"FundBook$Loan", "settle", "()V"⟩ "FundBook", .methodLinkNest "FundBook" 130 ⟨"FundBook$Replica", "layAll", "(II)V"⟩ "FundBook", .methodLinkNest "FundBook" 158 ⟨"FundBook$Loan", "ownMargin", "()I"⟩ "FundBook", .methodLinkNest "FundBook$Loan" 42 ⟨"FundBook", "forOneMonth", "(J)I"⟩ "FundBook", .methodLinkNest "FundBook" 152 ⟨"FundBook$Loan", "funding", "()I"⟩ "FundBook", .methodLinkNest "FundBook" 155 ⟨"FundBook$Loan", "optionCharge", "()I"⟩ "FundBook", .methodLinkNest "FundBook" 149 ⟨"FundBook$Loan", "customerInterest", "()I"⟩ "FundBook", .methodLinkNest "FundBook" 174 ⟨"FundBook$Replica", "averageRate", "()I"⟩ "FundBook", .methodLinkNest "FundBook" 214 ⟨"FundBook$Loan", "payPart", "()V"⟩ "FundBook", .methodLinkNest "FundBook" 145 ⟨"FundBook$Replica", "lay", "(III)V"⟩ "FundBook", .methodLinkNest "FundBook" 165 ⟨"FundBook$Loan", "partAhead", "(I)I"⟩ "FundBook", .methodLinkNest "FundBook" 98 ⟨"FundBook$Loan", "<init>", "(IIIZI[I[I)V"⟩ "FundBook", .fieldLinkNest "FundBook" 201 "FundBook$Loan" "branch" "I" "FundBook", .fieldLinkNest "FundBook" 204 "FundBook$Loan" "product" "I" "FundBook", .fieldLinkNest "FundBook" 111 "FundBook$Loan" "hasOption" "Z" "FundBook"]
def twC : List (String × String) := [("java/lang/IndexOutOfBoundsException", "java/lang/IndexOutOfBoundsException"), ("java/lang/IllegalStateException", "java/lang/IllegalStateException"), ("java/lang/IllegalArgumentException", "java/lang/IllegalArgumentException"), ("[I", "java/lang/Cloneable")]
def twS : List (Nat × String) := [(105, "no such loan"), (115, "it has no option, or is paid back"), (120, "no such branch"), (123, "change out of range"), (125, "balance out of range"), (134, "it is the last month"), (161, "what out of range"), (163, "ahead out of range"), (169, "no such tranche"), (181, "no such branch, or the month has not ended"), (183, "no such product, or the month has not ended"), (185, "the month has not ended"), (77, "no such branch or product"), (80, "amount out of range"), (68, "rate out of range"), (82, "months out of range"), (86, "there are 24 loans"), (71, "deposit rate out of range"), (73, "option rate out of range"), (75, "core share out of range"), (61, "no such term")]
def twN : List (String × String) := []
def twD : List MethodName := [⟨"java/lang/RuntimeException", "<init>", "()V"⟩, ⟨"java/lang/RuntimeException", "<init>", "(Ljava/lang/String;)V"⟩, ⟨"java/lang/Exception", "<init>", "()V"⟩, ⟨"java/lang/Exception", "<init>", "(Ljava/lang/String;)V"⟩, ⟨"java/lang/Throwable", "<init>", "()V"⟩, ⟨"java/lang/Throwable", "<init>", "(Ljava/lang/String;)V"⟩]
def Tw (U : State) : Prop := (∀ w ∈ twH, w.before #[] U = true) ∧ (∀ q ∈ twC, va_Nw (.castable q.1 q.2) U) ∧ (∀ q ∈ twS, ∃ sa, vk_R RX2 q.1 q.2 sa U) ∧ (∀ q ∈ twN, va_Nc q.1 q.2 U) ∧ (∀ q ∈ twD, va_Nw (.declares q) U)
theorem Tw.moved {s U : State} (hW : s.WarmedH U.vm) (h : Tw s) : Tw U := by
  refine ⟨fun w hw => ?_, fun q hq => va_Nw.warmC hW (h.2.1 q hq), fun q hq => ?_, fun q hq => (h.2.2.2.1 q hq).moved hW.alike, fun q hq => va_Nw.warmD hW (h.2.2.2.2 q hq)⟩
  · have hh : ∀ w ∈ twH, w.onTables = true ∧ w.keepsH = true := by decide +kernel
    have h1 := Cond.onTables_warmH (T := U) (args' := #[]) hW (hh w hw).1 (hh w hw).2 (h.1 w hw)
    rwa [State.setVm_self] at h1
  · obtain ⟨sa, hs⟩ := h.2.2.1 q hq
    exact ⟨sa, vk_R.warm hW hs⟩
theorem Tw.thrB {s : State} {args : Array Value} (h : Tw s) {x : String} (hx : (x, x) ∈ twC) : ∀ w ∈ (Cond.castable x x :: twD.map Cond.declares), w.before args s = true := by
  intro w hw
  rcases List.mem_cons.mp hw with rfl | hw
  · exact va_Nw.use rfl (h.2.1 (x, x) hx)
  · obtain ⟨q, hq, rfl⟩ := List.mem_map.mp hw
    exact va_Nw.use rfl (h.2.2.2.2 q hq)
/-- what the machine knows: the classes of objects and arrays, and the travelling words -/
def tysA (y : Nat → ClassId) : List (ClassId × FieldType) := [(y 0, .int), (y 0, .int), (y 2, .object RX0), (y 3, .array .int)]
def Kb (G : va_G) (y : Nat → ClassId) (U : State) : Prop := va_K G vwCl (tysA y) U ∧ Tw U
theorem Kb.moved {G : va_G} {y : Nat → ClassId} {s U : State} (hW : s.WarmedH U.vm) (h : Kb G y s) : Kb G y U := ⟨va_K.moved hW.alike h.1, h.2.moved hW⟩
theorem Kb.nw {G : va_G} {y : Nat → ClassId} {s : State} (h : Kb G y s) {w : Cond} (hw : w ∈ twH) : va_Nw w s := h.2.1 w hw
/-- an answer, and nothing changed -/
def QcV (r : Value) : Array Value → State → Outcome → State → Prop := fun _ st o t => o = .returned (some r) ∧ t.heap = st.heap
/-- a read: its start -/
def rP (G : va_G) (y : Nat → ClassId) (av : List Value) (ws : va_W) : Array Value → State → Prop := va_Pc av (fun U => va_P G vwCl ws U.heap ∧ Kb G y U)
theorem rP_bl {G : va_G} {y : Nat → ClassId} {av : List Value} {ws : va_W} : FrameBlind (rP G y av ws) := fun _ U _ _ q => ⟨q.1, q.2.1, Kb.moved (State.WarmedH.refl U) q.2.2⟩
/-- a read of numbers alone -/
def nP (av : List Value) : Array Value → State → Prop := va_Pc av (fun _ => True)
theorem nP_bl {av : List Value} : FrameBlind (nP av) := fun _ _ _ _ q => q
/-- a write: its start, its end -/
def mP (G : va_G) (y : Nat → ClassId) (av : List Value) (ws : va_W) (sz : Nat) : Array Value → State → Prop := va_Pc av (fun U => U.heap.size = sz ∧ va_P G vwCl ws U.heap ∧ Kb G y U ∧ va_D (fun _ => True) ws)
theorem mP_bl {G : va_G} {y : Nat → ClassId} {av : List Value} {ws : va_W} {sz : Nat} : FrameBlind (mP G y av ws sz) := fun _ U _ _ q => ⟨q.1, q.2.1, q.2.2.1, Kb.moved (State.WarmedH.refl U) q.2.2.2.1, q.2.2.2.2⟩
def mQ {S : Type} (G : va_G) (rv : S → Option Value) (post : S → Prop) (ws' : S → va_W) (A : Nat → Prop) : Array Value → State → Outcome → State → Prop := fun _ st oc t => (∃ u : S, oc = .returned (rv u) ∧ post u ∧ va_P G vwCl (ws' u) t.heap ∧ va_D A (ws' u)) ∧ va_F A st t
/-- a write that may throw: the two statics that a throw reads, beside -/
def zU : String := "UNASSIGNED_STACK"
def zN : String := "SUPPRESSED_SENTINEL"
def Zs (A : Nat → Prop) (U : State) (H : Heap) : Prop := vx_Zq Bundle.tN zU Bundle.steD A U H ∧ vx_Zq Bundle.tN zN Bundle.listD A U H
theorem Zs.moved {A : Nat → Prop} {s U : State} {H : Heap} (hv : s.vm.Alike U.vm) (h : Zs A s H) : Zs A U H := ⟨h.1.moved hv, h.2.moved hv⟩
theorem Zs.kept {A : Nat → Prop} {U : State} {H H1 : Heap} (h : Zs A U H) (hq : ∀ a : Nat, a < H.size → ¬ A a → H1[a]? = H[a]?) : Zs A U H1 := ⟨h.1.kept hq, h.2.kept hq⟩
theorem Zs.narrow {A B : Nat → Prop} {U : State} {H : Heap} (h : Zs A U H) (hAB : ∀ q, B q → A q) : Zs B U H := ⟨h.1.narrow hAB, h.2.narrow hAB⟩
def xP (G : va_G) (y : Nat → ClassId) (av : List Value) (ws : va_W) (sz : Nat) : Array Value → State → Prop := va_Pc av (fun U => U.heap.size = sz ∧ va_P G vwCl ws U.heap ∧ Kb G y U ∧ va_D (fun _ => True) ws ∧ Zs (va_A ws sz) U U.heap)
theorem xP_bl {G : va_G} {y : Nat → ClassId} {av : List Value} {ws : va_W} {sz : Nat} : FrameBlind (xP G y av ws sz) := fun _ U _ _ q => ⟨q.1, q.2.1, q.2.2.1, Kb.moved (State.WarmedH.refl U) q.2.2.2.1, q.2.2.2.2.1, Zs.moved (Vm.Alike.refl U.vm) q.2.2.2.2.2⟩
/-- thrown: the class by the code, the world as it was -/
def exN (k : Nat) : String := if k = 1 then "java/lang/IndexOutOfBoundsException" else if k = 2 then "java/lang/IllegalArgumentException" else "java/lang/IllegalStateException"
def xX (G : va_G) (pe : String → Prop) (ws : va_W) (A : Nat → Prop) : String → State → State → Prop := vx_X (fun _ : Unit => True) (fun E _ t => pe E ∧ va_P G vwCl ws t.heap ∧ va_D A ws) A
section BR
variable {p : Program} {l : Launch} {e : Env} {R : Room} {s : State} {m : MethodId} {args : Array Value} {below : List Frame} {meth : Method} {c : Code} {H : Heap} {locs : List Loc} {cells slots : Nat} {Q : State → Prop}
variable {cc : ByteArray} {pc : Nat} {ls : Array Slot} {rest st0 : List Value} {G : va_G} {y : Nat → ClassId} {A A0 A1 : Nat → Prop} {H0 : Heap} {a : Nat → Nat} {mc ms : Nat} {free : Addr → Prop} {ag : Array Value}
theorem lv_topE {x z : Int32} (h : x = z) (k : W p l e R s m args below meth c H locs cells slots Q (F0 m pc ls (.int z :: rest))) : W p l e R s m args below meth c H locs cells slots Q (F0 m pc ls (.int x :: rest)) := h ▸ k
theorem lv_topEl {x z : Int64} (h : x = z) (k : W p l e R s m args below meth c H locs cells slots Q (F0 m pc ls (.long z :: rest))) : W p l e R s m args below meth c H locs cells slots Q (F0 m pc ls (.long x :: rest)) := h ▸ k
theorem caR {r : Value} (hr : va_Run p l e R s m args below meth c H locs cells slots 0 0 (F0 m pc ls st0) rest (QcV r ag) (fun _ => False)) (kk : W p l e R s m args below meth c H locs cells slots Q (F0 m (pc + 3) ls (r :: rest))) : W p l e R s m args below meth c H locs cells slots Q (F0 m pc ls st0) := by
  intro T hT X
  obtain ⟨v, st₀, t, T', L, h0, X', hL, e1, -, ⟨hv, hh⟩, st⟩ := hr T hT X
  cases hv
  obtain ⟨t2, a1, b1⟩ := kk T' (by rw [e1, hh, h0]) (Stand.forget X' (fun q h => (hL q h).elim))
  exact ⟨t2, st t2 a1, b1⟩
theorem caM {S : Type} {rv : S → Option Value} {post : S → Prop} {ws' : S → va_W} (hr : va_Run p l e R s m args below meth c H locs cells slots mc ms (F0 m pc ls st0) rest (mQ G rv post ws' A1 ag) free) (hS : va_S A0 H0 H locs) (hA : ∀ q, A1 q → A0 q) (hf : ∀ q, free q → A0 q)
    (kk : ∀ (u : S) (H1 : Heap) (locs1 : List Loc), post u → va_P G vwCl (ws' u) H1 → va_D A0 (ws' u) → H.size ≤ H1.size → (∀ q : Nat, q < H.size → ¬ A1 q → H1[q]? = H[q]?) → va_S A0 H0 H1 locs1 → W p l e R s m args below meth c H1 locs1 (cells + mc) (slots + ms) Q (F0 m (pc + 3) ls ((rv u).toList ++ rest))) : W p l e R s m args below meth c H locs cells slots Q (F0 m pc ls st0) := by
  intro T hT X
  obtain ⟨v, st₀, t, T', L, h0, X', hL, e1, e2, ⟨⟨u, hv, hp, hb, hd⟩, hz, hk⟩, st⟩ := hr T hT X
  cases hv
  rw [h0] at hz hk
  obtain ⟨t2, a1, b1⟩ := kk u T'.heap (locs ++ L) hp (by rw [e1]; exact hb) (hd.weaken (fun _ _ _ h => hA _ h)) (by rw [e1]; exact hz) (fun q h1 h2 => by rw [e1]; exact hk q h1 h2)
    ⟨Nat.le_trans hS.1 (by rw [e1]; exact hz), fun q h1 h2 => by rw [e1, hk q (Nat.lt_of_lt_of_le h1 hS.1) (fun z => h2 (hA q z))]; exact hS.2.1 q h1 h2, fun q hq => by
      rcases List.mem_append.mp hq with h | h
      · exact hS.2.2 q h
      · exact hf _ (hL q h)⟩ T' rfl X'
  exact ⟨t2, st t2 a1, b1⟩
theorem caX {S : Type} {rv : S → Option Value} {post : S → Prop} {ws' : S → va_W} {pe : String → Prop} {wx : va_W} (hr : vx_Run p l e R s m args below meth c H locs cells slots mc ms (F0 m pc ls st0) rest (mQ G rv post ws' A1 ag) (xX G pe wx A1) free) (hS : va_S A0 H0 H locs) (hA : ∀ q, A1 q → A0 q) (hf : ∀ q, free q → A0 q)
    (kx : ∀ (E : String) (ce : Cell) (q9 : Addr) (H1 : Heap) (locs1 : List Loc), pe E → va_P G vwCl wx H1 → va_D A0 wx → H.size ≤ H1.size → (∀ q : Nat, q < H.size → ¬ A1 q → H1[q]? = H[q]?) → va_S A0 H0 H1 locs1 → H1[q9]? = some ce → ce.vm = .none → s.vm.findClass E = some ce.cls → vx_W p l e R s m args below meth c H1 locs1 (cells + mc) (slots + ms) Q (F0 m pc ls rest) q9)
    (kk : ∀ (u : S) (H1 : Heap) (locs1 : List Loc), post u → va_P G vwCl (ws' u) H1 → va_D A0 (ws' u) → H.size ≤ H1.size → (∀ q : Nat, q < H.size → ¬ A1 q → H1[q]? = H[q]?) → va_S A0 H0 H1 locs1 → W p l e R s m args below meth c H1 locs1 (cells + mc) (slots + ms) Q (F0 m (pc + 3) ls ((rv u).toList ++ rest))) : W p l e R s m args below meth c H locs cells slots Q (F0 m pc ls st0) := by
  intro T hT X
  rcases hr T hT X with ⟨v, st₀, t, T', L, h0, X', hL, e1, e2, ⟨⟨u, hv, hp, hb, hd⟩, hF⟩, st⟩ | ⟨q, st₀, t, T', L, E, ce, h0, X', hL, e1, e2, ⟨u, -, ⟨hp, hb, hd⟩, hF⟩, hce, hcv, hcl, st⟩
  · cases hv
    obtain ⟨k1, k2, k3⟩ := vx_keep h0 e1 hS (fun q _ h => hA q h) hf hL hF
    obtain ⟨t2, a1, b1⟩ := kk u T'.heap (locs ++ L) hp (by rw [e1]; exact hb) (hd.weaken (fun _ _ _ h => hA _ h)) k1 k2 k3 T' rfl X'
    exact ⟨t2, st t2 a1, b1⟩
  · obtain ⟨k1, k2, k3⟩ := vx_keep h0 e1 hS (fun q _ h => hA q h) hf hL hF
    obtain ⟨t2, a1, b1⟩ := kx E ce q T'.heap (locs ++ L) hp (by rw [e1]; exact hb) (hd.weaken (fun _ _ _ h => hA _ h)) k1 k2 k3 (by rw [e1]; exact hce) hcv hcl T' rfl X'
    exact ⟨t2, st.trans a1, b1⟩
/-- an int row: read and written at the place k -/
theorem ldI {ws : va_W} {ad len : Nat} {f : Nat → Int32} {x : Int32} (hexec : p.tables.exec = Jvm.exec) (hb : c.code = cc) (hK : Kb G y s) (hP : va_P G vwCl ws H) (q0 : Nat) (he : ws[q0]? = some (ad, .inl (y 0, len, .inl f))) (k : Nat) (hx : x = nI k) (hk : k < len) (h31 : len < 2 ^ 31) (hdg : decode cc pc = .ok (.iaload, 1))
    (kk : W p l e R s m args below meth c H locs cells slots Q (F0 m (pc + 1) ls (.int (f k) :: rest))) : W p l e R s m args below meth c H locs cells slots Q (F0 m pc ls (.int x :: .ref ad :: rest)) := by
  subst hx
  exact va_iald hexec hb hK.1 hP q0 0 he rfl (vp_in_nI hk h31) hdg (by rw [nI_clamp (Nat.lt_trans hk h31)]; exact kk)
theorem ldQ {ws : va_W} {ad len : Nat} {f : Nat → Option Nat} {x : Int32} (hexec : p.tables.exec = Jvm.exec) (hb : c.code = cc) (hK : Kb G y s) (hP : va_P G vwCl ws H) (q0 : Nat) (he : ws[q0]? = some (ad, .inl (y 2, len, .inr (.inr (.inr (.inr f)))))) (k : Nat) (hx : x = nI k) (hk : k < len) (h31 : len < 2 ^ 31) (hdg : decode cc pc = .ok (.aaload, 1))
    (kk : W p l e R s m args below meth c H locs cells slots Q (F0 m (pc + 1) ls (va_rf (f k) :: rest))) : W p l e R s m args below meth c H locs cells slots Q (F0 m pc ls (.int x :: .ref ad :: rest)) := by
  subst hx
  exact va_aldq hexec hb hK.1 hP q0 2 he rfl (vp_in_nI hk h31) hdg (by rw [nI_clamp (Nat.lt_trans hk h31)]; exact kk)
theorem ldA {ws : va_W} {ad len : Nat} {f : Nat → Option Nat} {x : Int32} (hexec : p.tables.exec = Jvm.exec) (hb : c.code = cc) (hK : Kb G y s) (hP : va_P G vwCl ws H) (q0 : Nat) (he : ws[q0]? = some (ad, .inl (y 3, len, .inr (.inr (.inr (.inr f)))))) (k : Nat) (hx : x = nI k) (hk : k < len) (h31 : len < 2 ^ 31) (hdg : decode cc pc = .ok (.aaload, 1))
    (kk : W p l e R s m args below meth c H locs cells slots Q (F0 m (pc + 1) ls (va_rf (f k) :: rest))) : W p l e R s m args below meth c H locs cells slots Q (F0 m pc ls (.int x :: .ref ad :: rest)) := by
  subst hx
  have hin := vp_in_nI hk h31
  have hlt : (nI k).toNatClampNeg < len := Nat.not_le.mp fun q => hin (Or.inr q)
  refine W.aald (v := va_rf (f (nI k).toNatClampNeg)) (ty := .array .int) hexec hb (hP q0 _ he) ((hK.1.2 3 _ rfl).1 len (fun j => va_rf (f j))) rfl (fun q => by cases q) (by show ¬ (nI k < 0 ∨ (arrV _ _ _).slots.size ≤ _); rw [arrV_size]; exact hin) (by show (arrV _ _ _).slots[_]? = _; rw [arrV_read _ _ hlt]) rfl rfl hdg ?_
  rw [nI_clamp (Nat.lt_trans hk h31)]
  exact kk
theorem stI {ws ws1 : va_W} {ad len : Nat} {f : Nat → Int32} {x z : Int32} (hexec : p.tables.exec = Jvm.exec) (hb : c.code = cc) (hK : Kb G y s) (hP : va_P G vwCl ws H) (hD : va_D A ws) (hS : va_S A H0 H locs) (q0 : Nat) (he : ws[q0]? = some (ad, .inl (y 0, len, .inl f))) (k : Nat) (hx : x = nI k) (hk : k < len) (h31 : len < 2 ^ 31) (hw : ws.set q0 (ad, .inl (y 0, len, .inl (upd f k z))) = ws1) (hdg : decode cc pc = .ok (.iastore, 1))
    (kk : ∀ (H1 : Heap) (locs1 : List Loc), va_P G vwCl ws1 H1 → va_D A ws1 → va_S A H0 H1 locs1 → W p l e R s m args below meth c H1 locs1 cells slots Q (F0 m (pc + 1) ls rest)) : W p l e R s m args below meth c H locs cells slots Q (F0 m pc ls (.int z :: .int x :: .ref ad :: rest)) := by
  subst hx
  subst hw
  exact va_iast hexec hb hK.1 hP hD hS q0 0 he rfl (vp_in_nI hk h31) hdg (by rw [nI_clamp (Nat.lt_trans hk h31)]; exact kk)
/-- the book's fields -/
theorem bkG {Ts : List Cond} {index : Nat} {b : Nat → Nat → Int32} {n : Nat} {la : Nat → Nat → Nat} {L : Nat → Nat → Nat → Int32} {val : Value} (hexec : p.tables.exec = Jvm.exec) (hb : c.code = cc) (hts : ∀ w ∈ Ts, w.before args s = true) (hin : ∀ w ∈ u_ws RX2 TX2 13, w ∈ Ts) (hown : s.vm.findClass RX2 = some m.cls) (hK : Kb G y s) (hP : va_P G vwCl (bkW y a b n la L) H) (k : Nat) (hk : k < 13) (hlink : (Cond.fieldLink RX2 index (TX2 k).1 (TX2 k).2.1 (TX2 k).2.2.1).before args s = true) (hv : (bkF a b)[k]? = some val) (hdg : decode cc pc = .ok (.getfield index, 3))
    (kk : W p l e R s m args below meth c H locs cells slots Q (F0 m (pc + 3) ls (val :: rest))) : W p l e R s m args below meth c H locs cells slots Q (F0 m pc ls (.ref (a 13) :: rest)) :=
  va_get (ci := 2) (C := RX2) (T := TX2) (N := 13) hexec hb hts hin hown hK.1 hP 0 rfl rfl k hk hlink (fun _ h9 => h9) hv hdg kk
theorem bkS {Ts : List Cond} {index : Nat} {b : Nat → Nat → Int32} {n : Nat} {la : Nat → Nat → Nat} {L : Nat → Nat → Nat → Int32} {x : Int32} (hexec : p.tables.exec = Jvm.exec) (hb : c.code = cc) (hts : ∀ w ∈ Ts, w.before args s = true) (hin : ∀ w ∈ u_ws RX2 TX2 13, w ∈ Ts) (hown : s.vm.findClass RX2 = some m.cls) (hK : Kb G y s) (hP : va_P G vwCl (bkW y a b n la L) H) (hD : va_D A (bkW y a b n la L)) (hS : va_S A H0 H locs) (k : Nat) (hk : k = 1 ∨ k = 2 ∨ k = 3 ∨ k = 4 ∨ k = 6) (hlink : (Cond.fieldLink RX2 index (TX2 k).1 (TX2 k).2.1 (TX2 k).2.2.1).before args s = true) (hdg : decode cc pc = .ok (.putfield index, 3))
    (kk : ∀ (H1 : Heap) (locs1 : List Loc), va_P G vwCl (bkW y a (u2 b 13 k x) n la L) H1 → va_D A (bkW y a (u2 b 13 k x) n la L) → va_S A H0 H1 locs1 → W p l e R s m args below meth c H1 locs1 cells slots Q (F0 m (pc + 3) ls rest)) : W p l e R s m args below meth c H locs cells slots Q (F0 m pc ls (.int x :: .ref (a 13) :: rest)) := by
  refine va_put (ci := 2) (C := RX2) (T := TX2) (N := 13) (v := .int x) (ty := .int) hexec hb hts hin tyX2 tyX2_ok nmX2 hown hK.1 hP hD hS 0 rfl rfl k (by omega) hlink (fun _ h9 => h9) (by rcases hk with rfl | rfl | rfl | rfl | rfl <;> rfl) (by rcases hk with rfl | rfl | rfl | rfl | rfl <;> decide +kernel) rfl rfl (by show k < 13; omega) hdg (fun H1 locs1 h1 h2 h3 => ?_)
  have he : (bkW y a b n la L).set 0 (a 13, .inr (2, (bkF a b).set k (.int x))) = bkW y a (u2 b 13 k x) n la L := by rcases hk with rfl | rfl | rfl | rfl | rfl <;> rfl
  rw [he] at h1 h2
  exact kk H1 locs1 h1 h2 h3
end BR

