/-! THE CLAIM OUT OF ONE WALK OF THE LAW'S BODY. Your part is whole_start (and what it stands on); all else here is the same for every law, but numbers. -/
def R_law : String := "FundBookLaw"
def lw_P (b : Addr) (xs : List Int32) (args : Array Value) (s : State) : Prop := args = #[.ref b] ∧ s.IntsAt b xs ∧ xs.length ≤ 260 ∧ (Jvm.Cond.and given_1 narrow_1).before args s = true
def lw_Q (_ : Array Value) (s : State) (o : Outcome) (t : State) : Prop := o = .returned (some (.int 1)) ∧ Framed s o t [] 600074 7301550
def lw_Z (below : List Frame) (a : Array Value) (s : State) : State → Prop := fun t => ∃ o, t.status = .running ∧ Ended t below o ∧ lw_Q a s o t
/-- the law's own end, with 1 on the stack, nothing written that was there before, its room as the claim has it -/
theorem lw_ret {p : Program} {l : Launch} {e : Env} {s : State} {m : MethodId} {below : List Frame} {meth : Method} {c : Code} {b : Nat} (hx : p.tables.exec = Jvm.exec) (hb : c.code = code) (hr : meth.sig.returnType = ret) (hlocks : meth.locks = false) {pc : Nat} {H : Heap} {ls : Array Slot} (hdg : decode code pc = .ok (.ireturn, 1)) : W p l e room_1 s m #[Value.ref b] below meth c H [] 600074 7301550 (lw_Z below #[Value.ref b] s) (F0 m pc ls [.int 1]) := by
  intro T hT X
  obtain ⟨fs, hret, hrun, hended, hW, hframe⟩ := X.leave (v := some (.int 1)) (hlocks := hlocks) (fun h => by rw [hr] at h; cases h)
  have hmeth' : T.vm.method? m = some meth := X.method'
  refine ⟨T.setFrames fs, ?_, .returned (some (.int 1)), hrun, hended, rfl, ⟨_, rfl⟩, hW, hframe⟩
  jvm_step X.here [X.here.top, hx, hb, hdg, hmeth', hr, ret, narrow_b1]
  (try refine ⟨rfl, ?_⟩); (try refine ⟨rfl, ?_⟩)
  first | (intro acts; rw [hret _ acts rfl rfl rfl]) | rw [hret _ _ rfl rfl rfl]
  exact Steps.refl _
/-- what holds at the law's entry: the machine, the code, the tables' words (any of lw_tbl by 'hts w (by decide +kernel)'), the script of L ints xs at the cell b, what the Statement gives of the start (any of its parts by flat_of_before) -/
def lw_At (p : Program) (s : State) (m : MethodId) (meth : Method) (c : Code) (b L : Nat) (xs : Nat → Int32) : Prop :=
  p.tables.exec = Jvm.exec ∧ c.code = code ∧ meth.sig.returnType = ret ∧ c.maxLocals = 14 ∧ s.vm.findClass R_law = some m.cls ∧ (∀ w ∈ lw_tbl, w.before #[Value.ref b] s = true) ∧ va_X b L xs s s.heap ∧ b < s.heap.size ∧ meth.locks = false ∧ (Jvm.Cond.and given_1 narrow_1).before #[Value.ref b] s = true
set_option maxHeartbeats 4000000 in
set_option maxRecDepth 100000 in
theorem whole_start {p : Program} {e : Env} {s : State} {m : MethodId} {below : List Frame} {meth : Method} {c : Code} (l : Launch) (hflags : l.flags = flags0) {b L : Nat} {xs : Nat → Int32} (hL : L ≤ 260) (C0 : lw_At p s m meth c b L xs) : W p l e room_1 s m #[Value.ref b] below meth c s.heap [] 0 0 (lw_Z below #[Value.ref b] s) (entryFrame m ([Value.ref b] : List Value).toArray 14) := by
  obtain ⟨hx, hb, hr, hml, hown, hts0, hX, hbl, hlocks, hgv⟩ := C0
  have hlt : l.stackTraces = false := by unfold Launch.stackTraces; rw [hflags]; decide +kernel
  obtain ⟨G, y, hK⟩ := kb_of hts0 hgv
  have hts : ∀ w ∈ wsL_law, w.before #[Value.ref b] s = true := fun w h => hts0 w (wsL_law_in w h)
  have hs := flat_of_before _ hgv
  have hAO : va_AO RX0 s := va_AO.of (hts0 (.arrayOver (.object RX0)) (by decide +kernel))
  have hAOA : va_AOA .int s := hts0 (.arrayOver (.array .int)) (by decide +kernel)
  have hown : s.vm.findClass RL = some m.cls := hown
  have hb : c.code = cL_law := hb
  generalize hAe : (fun q : Nat => s.heap.size ≤ q) = A
  have hA : ∀ q : Nat, s.heap.size ≤ q → A q := fun q h => by rw [← hAe]; exact h
  have hbA : ¬ A b := fun h => by rw [← hAe] at h; exact absurd hbl (Nat.not_lt.mpr h)
  have hAn : ∀ a : Nat, a < s.heap.size → ¬ A a := fun a ha h => by rw [← hAe] at h; exact absurd ha (Nat.not_lt.mpr h)
  have hZ : Zs A s s.heap := ⟨vx_Zqof (hts0 (.laysStatic "java/lang/Throwable" "UNASSIGNED_STACK" "[Ljava/lang/StackTraceElement;") (by decide +kernel)) (hts0 (.initialized "java/lang/Throwable") (by decide +kernel)) (hs _ (by decide +kernel)) hAn, vx_Zqof (hts0 (.laysStatic "java/lang/Throwable" "SUPPRESSED_SENTINEL" "Ljava/util/List;") (by decide +kernel)) (hts0 (.initialized "java/lang/Throwable") (by decide +kernel)) (hs _ (by decide +kernel)) hAn⟩
  have F : LF p s m c #[Value.ref b] G y A b L xs := ⟨hx, hb, hml, hown, hts, hK, hZ, hX, hbl, hbA, hA, hL⟩
  have hP : va_P G vwCl [] s.heap := fun k q hk => by cases hk
  have hD : va_D A [] := ⟨fun i j p q hi _ _ => (by cases hi), fun k q hk => (by cases hk)⟩
  have hS : va_S A s.heap s.heap [] := va_S.rf
  have hl := lv_entry ([.ref b]) (n := 14) (Nat.le_of_ble_eq_true rfl)
  rw [lg_entry_eq]
  generalize (lg_sl ([.ref b]) ++ List.replicate (14 - (lg_sl ([.ref b])).length) Slot.unset).toArray = ls at hl ⊢
  have hl : lv_has ls 14 [(0, .ref b)] := hl
  refine va_new (ci := 2) (fs := [.null, .int 0, .int 0, .int 0, .int 0, .null, .int 0, .null, .null, .null, .null, .null, .null]) (C := RX2) (T := TX2) (N := 13) hx hb hts inlX2 tyX2 tyX2_ok hown (hts (.classLink RL 11 RX2) (by decide +kernel)) (hts (.instantiable RX2 13) (by decide +kernel)) (hts (.initialized RX2) (by decide +kernel)) hK.1 hP hD hS hA rfl (fun j hj => match j, hj with | 0, _ => rfl | 1, _ => rfl | 2, _ => rfl | 3, _ => rfl | 4, _ => rfl | 5, _ => rfl | 6, _ => rfl | 7, _ => rfl | 8, _ => rfl | 9, _ => rfl | 10, _ => rfl | 11, _ => rfl | 12, _ => rfl | n9 + 13, h9 => absurd h9 (by omega)) (Nat.le_of_ble_eq_true rfl) (Nat.le_of_ble_eq_true rfl) dL_law_0 (fun q1 H hP hD hS => ?_)
  refine W.widen (k := 1) (n := 13) (Nat.le_of_ble_eq_true rfl) (Nat.le_of_ble_eq_true rfl) ?_
  refine lv_dup hx hb dL_law_3 rfl ?_
  have hPj : va_P G vwCl (([] : va_W) ++ [(q1, .inr (2, [.null, .int 0, .int 0, .int 0, .int 0, .null, .int 0, .null, .null, .null, .null, .null, .null]))]) H := hP
  have hDj : va_D A (([] : va_W) ++ [(q1, .inr (2, [.null, .int 0, .int 0, .int 0, .int 0, .null, .int 0, .null, .null, .null, .null, .null, .null]))]) := hD
  have hFc : ∀ q, va_A [(q1, .inr (2, [.null, .int 0, .int 0, .int 0, .int 0, .null, .int 0, .null, .null, .null, .null, .null, .null]))] H.size q → A q := freeR hDj hS hA
  have hDc : va_D (fun _ => True) [(q1, .inr (2, [.null, .int 0, .int 0, .int 0, .int 0, .null, .int 0, .null, .null, .null, .null, .null, .null]))] := (wRD hDj).weaken (fun _ _ _ _ => trivial)
  have hPc : va_P G vwCl [(q1, .inr (2, [.null, .int 0, .int 0, .int 0, .int 0, .null, .int 0, .null, .null, .null, .null, .null, .null]))] H := hP
  refine caN (va_runI (As := []) (rest := [.ref q1]) ⟨hx, hb, hml, hown, hts⟩ (c_X2_init l G y q1 H.size (fun _ _ => 0) (fun _ _ _ => 0)) ⟨callB_of 0 hts gL_law_X2_init rfl rfl rfl (hts (.initialized RX2) (by decide +kernel)) (hts (.methodLink RL 112 yX2_init) (by decide +kernel)) (by decide +kernel) ⟨Nat.le_of_ble_eq_true rfl, Nat.le_of_ble_eq_true rfl⟩, rfl, hts (.instanceMethod yX2_init) (by decide +kernel)⟩ ⟨oP_bl, fun U hU hW => ⟨rfl, ⟨by rw [hU], by rw [hU]; exact hPc, Kb.moved hW hK, hDc⟩, va_AO.moved hW.alike hAO, va_AOA.moved hW.alike hAOA⟩⟩ rfl rfl hl.1 rfl (lv_room (Nat.le_of_ble_eq_true rfl)) dL_law_4 ⟨Nat.le_of_ble_eq_true rfl, Nat.le_of_ble_eq_true rfl⟩) hS hFc hFc (fun ab H locs hq1 hP1 hD1 hk1 hS => ?_)
  have hq1 : ab 13 = q1 := hq1
  subst hq1
  obtain ⟨hP, hD⟩ := joinW hPj hDj hk1 hP1 hD1 hFc
  have hP : va_P G vwCl (bkW y ab b00 0 (fun _ _ => 0) (fun _ _ _ => 0)) H := hP
  have hD : va_D A (bkW y ab b00 0 (fun _ _ => 0) (fun _ _ _ => 0)) := hD
  refine lv_astore_n (lv' := [(1, .ref (ab 13)), (0, .ref b)]) hx hb dL_law_7 rfl hl (by decide) rfl (fun ls hl => ?_)
  refine lv_bipush (v := 14) hx hb dL_law_8 (by decide) ?_
  refine nwI (N := 14) hx hb (hts (.arrayClass .int) (by decide +kernel)) hK hP hD hS hA rfl (by decide) (Nat.le_of_ble_eq_true rfl) (Nat.le_of_ble_eq_true rfl) dL_law_10 (fun q2 H hP hD hS => ?_)
  refine lv_astore_n (lv' := [(2, .ref q2), (1, .ref (ab 13)), (0, .ref b)]) hx hb dL_law_12 rfl hl (by decide) rfl (fun ls hl => ?_)
  refine lv_bipush (v := 64) hx hb dL_law_13 (by decide) ?_
  refine nwI (N := 64) hx hb (hts (.arrayClass .int) (by decide +kernel)) hK hP hD hS hA rfl (by decide) (Nat.le_of_ble_eq_true rfl) (Nat.le_of_ble_eq_true rfl) dL_law_15 (fun q3 H hP hD hS => ?_)
  refine lv_astore_n (lv' := [(3, .ref q3), (2, .ref q2), (1, .ref (ab 13)), (0, .ref b)]) hx hb dL_law_17 rfl hl (by decide) rfl (fun ls hl => ?_)
  refine lv_bipush (v := 48) hx hb dL_law_18 (by decide) ?_
  refine nwI (N := 48) hx hb (hts (.arrayClass .int) (by decide +kernel)) hK hP hD hS hA rfl (by decide) (Nat.le_of_ble_eq_true rfl) (Nat.le_of_ble_eq_true rfl) dL_law_20 (fun q4 H hP hD hS => ?_)
  refine lv_astore (lv' := [(4, .ref q4), (3, .ref q3), (2, .ref q2), (1, .ref (ab 13)), (0, .ref b)]) hx hb dL_law_22 hl (by decide) rfl (fun ls hl => ?_)
  refine lv_bipush (v := 12) hx hb dL_law_24 (by decide) ?_
  refine nwI (N := 12) hx hb (hts (.arrayClass .int) (by decide +kernel)) hK hP hD hS hA rfl (by decide) (Nat.le_of_ble_eq_true rfl) (Nat.le_of_ble_eq_true rfl) dL_law_26 (fun q5 H hP hD hS => ?_)
  refine lv_astore (lv' := [(5, .ref q5), (4, .ref q4), (3, .ref q3), (2, .ref q2), (1, .ref (ab 13)), (0, .ref b)]) hx hb dL_law_28 hl (by decide) rfl (fun ls hl => ?_)
  refine lv_bipush (v := 64) hx hb dL_law_30 (by decide) ?_
  refine nwI (N := 64) hx hb (hts (.arrayClass .int) (by decide +kernel)) hK hP hD hS hA rfl (by decide) (Nat.le_of_ble_eq_true rfl) (Nat.le_of_ble_eq_true rfl) dL_law_32 (fun q6 H hP hD hS => ?_)
  refine lv_astore (lv' := [(6, .ref q6), (5, .ref q5), (4, .ref q4), (3, .ref q3), (2, .ref q2), (1, .ref (ab 13)), (0, .ref b)]) hx hb dL_law_34 hl (by decide) rfl (fun ls hl => ?_)
  generalize hr9 : (fun j : Nat => match j with | 0 => q2 | 1 => q3 | 2 => q4 | 3 => q5 | _ => q6) = r
  have e0 : q2 = r 0 := congrFun hr9 0
  have e1 : q3 = r 1 := congrFun hr9 1
  have e2 : q4 = r 2 := congrFun hr9 2
  have e3 : q5 = r 3 := congrFun hr9 3
  have e4 : q6 = r 4 := congrFun hr9 4
  rw [e0, e1, e2, e3, e4] at hP hD
  have hl : lv_has ls 14 [(6, .ref (r 4)), (5, .ref (r 3)), (4, .ref (r 2)), (3, .ref (r 1)), (2, .ref (r 0)), (1, .ref (ab 13)), (0, .ref b)] := by rw [← e0, ← e1, ← e2, ← e3, ← e4]; exact hl
  have eL : ((((bkW y ab b00 0 (fun _ _ => 0) (fun _ _ _ => 0) ++ [(r 0, .inl (y 0, 14, .inl (fun _ => 0)))]) ++ [(r 1, .inl (y 0, 64, .inl (fun _ => 0)))]) ++ [(r 2, .inl (y 0, 48, .inl (fun _ => 0)))]) ++ [(r 3, .inl (y 0, 12, .inl (fun _ => 0)))]) ++ [(r 4, .inl (y 0, 64, .inl (fun _ => 0)))] = bkW y ab b00 0 (fun _ _ => 0) (fun _ _ _ => 0) ++ lwA y r w00 := by rw [List.append_assoc, List.append_assoc, List.append_assoc, List.append_assoc]; rfl
  have hP : va_P G vwCl (lwA y r w00 ++ bkW y ab b00 0 (fun _ _ => 0) (fun _ _ _ => 0)) H := swP (eL ▸ hP)
  have hD : va_D A (lwA y r w00 ++ bkW y ab b00 0 (fun _ _ => 0) (fun _ _ _ => 0)) := swD (eL ▸ hD)
  refine lv_aload_n hx hb dL_law_36 rfl (lv_at hl 4 rfl) ?_
  refine lv_iconst (v := 4) hx hb dL_law_37 (by decide) ?_
  refine lv_bipush (v := 50) hx hb dL_law_38 (by decide) ?_
  refine stI (f := w00 0) (ws1 := lwA y r w50 ++ bkW y ab b00 0 (fun _ _ => 0) (fun _ _ _ => 0)) hx hb hK hP hD hS 0 ag_0 4 rfl (by decide) (by decide) as_0 dL_law_40 (fun H locs hP hD hS => ?_)
  refine lv_iconst (v := 0) hx hb dL_law_41 (by decide) ?_
  refine lv_istore (lv' := [(7, .int 0), (6, .ref (r 4)), (5, .ref (r 3)), (4, .ref (r 2)), (3, .ref (r 1)), (2, .ref (r 0)), (1, .ref (ab 13)), (0, .ref b)]) hx hb dL_law_42 hl (by decide) rfl (fun ls hl => ?_)
  refine W.widen (k := 22) (n := 644) (Nat.le_of_ble_eq_true rfl) (Nat.le_of_ble_eq_true rfl) ?_
  refine lw_loop hlt F (fun H locs ls cells slots hc hs hS => ?_) 110 0 22 644 (by omega) (by omega) (by omega) H locs ls ⟨(w50, b00, 0, _, _), ⟨0, _, _, _, pr0 _⟩, hP, hD, hS⟩ (lv_sub hl [7, 6, 5, 4, 3, 2, 1, 0] rfl)
  refine lv_iconst (v := 1) hx hb dL_law_351 (by decide) ?_
  refine va_forget (fun q hq => by have := hS.2.2 q hq; rw [← hAe] at this; exact this) ?_
  refine W.widen (k := 600074) (n := 7301550) hc hs ?_
  exact lw_ret hx hb hr hlocks dL_law_352
